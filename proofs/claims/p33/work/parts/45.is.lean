/-! THE LAW'S is: the reason and the detail. -/
section TSis
def isQ (a : Abs) (x y : Int32) : Int32 := if Q_refusal a.2.2.2.1 a.2.2.2.2.1 1 = x then (if Q_refusal a.2.2.2.1 a.2.2.2.2.1 0 = y then 1 else 0) else 0
abbrev rm_L_is : Room := { frames := 8, cells := 2, slots := 12, locals := 156 }
set_option maxHeartbeats 4000000 in
theorem LC_is {l : Launch} {D : va_G} {k : tyK} (hlst : l.stackTraces = false) (ad : Nat → Nat) (a : Abs) (x y : Int32) : LCi l yL_is wsL_is rm_L_is D k ad [.int x, .int y] a (fun r a' => r = isQ a x y ∧ a' = a) := by
  intro σ hR
  refine fc_start (cc := cL_is) (maxL := 3) (ret := (some .boolean)) (own := RL) (Qc := fun A => va_Qi (fun r (u : TSt × Abs) => (r = isQ a x y ∧ u.2 = a) ∧ Rep u.1 u.2) (Bt D (fun u => WT k ad u.1) A) A) (by decide) rfl rfl (Nat.le_of_ble_eq_true rfl) ?_
  intro p e s m below meth c A H hx hb hml hr hts hown hlk hname hA hP hE hD hS ls hl
  have hl : lv_has ls 3 [(0, .ref (ad 0)), (1, .int x), (2, .int y)] := hl
  obtain ⟨locs, hlocs⟩ : ∃ z : List Loc, z = [] := ⟨_, rfl⟩
  rw [← hlocs] at hS ⊢
  have hP : va_P D vwCl (WT k ad σ ++ ([] : va_W)) H := by rw [List.append_nil]; exact hP
  have hD : va_D A (WT k ad σ ++ ([] : va_W)) := by rw [List.append_nil]; exact hD
  refine lv_aload_n hx hb dL_is_0 rfl (lv_at hl 0 rfl) ?_
  refine lv_iconst (v := 1) hx hb dL_is_1 (by decide) ?_
  refine lc_k (v := (Q_refusal a.2.2.2.1 a.2.2.2.2.1 1)) (a1 := a) (cells' := 1) (slots' := 6) (fc_runSW (n := 2) (As := [.ref (ad 0), .int (1 : Int32)]) (rest := []) (isC := iL) (maxL := 3) ⟨hx, hb, hml, hown, hts⟩ (LC_refusal hlst ad a 1 σ hR H.size) gL_is_L_refusal rfl (by decide +kernel) rfl ⟨Nat.le_of_ble_eq_true rfl, Nat.le_of_ble_eq_true rfl⟩ ⟨Nat.le_of_ble_eq_true rfl, Nat.le_of_ble_eq_true rfl⟩ hE hP hD hS hA (iL_C k ad σ ([] : va_W)) iL_nd hl rfl (Nat.le_of_ble_eq_true rfl) dL_is_2) hP hD hS hA rfl rfl (fun σ H locs hR hP hD hS => ?_)
  refine lv_iload_n hx hb dL_is_5 rfl (lv_at hl 1 rfl) ?_
  refine lv_icmp_ne (tgt := 22) hx hb dL_is_6 (by decide) (fun h1 => ?_) (fun h1 => ?_)
  · refine lv_iconst (v := 0) hx hb dL_is_22 (by decide) ?_
    have hv : isQ a x y = 0 := if_neg h1
    have hP : va_P D vwCl (WT k ad σ) H := by rw [← List.append_nil (WT k ad σ)]; exact hP
    have hD : va_D A (WT k ad σ) := by rw [← List.append_nil (WT k ad σ)]; exact hD
    exact fc_iret hx hb hr rfl hlk hS (σ, a) ⟨⟨hv.symm, rfl⟩, hR⟩ hP hD (by decide) (by decide) dL_is_23
  refine lv_aload_n hx hb dL_is_9 rfl (lv_at hl 0 rfl) ?_
  refine lv_iconst (v := 0) hx hb dL_is_10 (by decide) ?_
  refine lc_k (v := (Q_refusal a.2.2.2.1 a.2.2.2.2.1 0)) (a1 := a) (cells' := 2) (slots' := 12) (fc_runSW (n := 2) (As := [.ref (ad 0), .int (0 : Int32)]) (rest := []) (isC := iL) (maxL := 3) ⟨hx, hb, hml, hown, hts⟩ (LC_refusal hlst ad a 0 σ hR H.size) gL_is_L_refusal rfl (by decide +kernel) rfl ⟨Nat.le_of_ble_eq_true rfl, Nat.le_of_ble_eq_true rfl⟩ ⟨Nat.le_of_ble_eq_true rfl, Nat.le_of_ble_eq_true rfl⟩ hE hP hD hS hA (iL_C k ad σ ([] : va_W)) iL_nd hl rfl (Nat.le_of_ble_eq_true rfl) dL_is_11) hP hD hS hA rfl rfl (fun σ H locs hR hP hD hS => ?_)
  refine lv_iload_n hx hb dL_is_14 rfl (lv_at hl 2 rfl) ?_
  refine lv_icmp_ne (tgt := 22) hx hb dL_is_15 (by decide) (fun h2 => ?_) (fun h2 => ?_)
  · refine lv_iconst (v := 0) hx hb dL_is_22 (by decide) ?_
    have hv : isQ a x y = 0 := (if_pos (h1)).trans (if_neg h2)
    have hP : va_P D vwCl (WT k ad σ) H := by rw [← List.append_nil (WT k ad σ)]; exact hP
    have hD : va_D A (WT k ad σ) := by rw [← List.append_nil (WT k ad σ)]; exact hD
    exact fc_iret hx hb hr rfl hlk hS (σ, a) ⟨⟨hv.symm, rfl⟩, hR⟩ hP hD (by decide) (by decide) dL_is_23
  refine lv_iconst (v := 1) hx hb dL_is_18 (by decide) ?_
  refine lv_goto (tgt := 23) hx hb dL_is_19 (by decide) ?_
  have hv : isQ a x y = 1 := (if_pos (h1)).trans (if_pos (h2))
  have hP : va_P D vwCl (WT k ad σ) H := by rw [← List.append_nil (WT k ad σ)]; exact hP
  have hD : va_D A (WT k ad σ) := by rw [← List.append_nil (WT k ad σ)]; exact hD
  exact fc_iret hx hb hr rfl hlk hS (σ, a) ⟨⟨hv.symm, rfl⟩, hR⟩ hP hD (by decide) (by decide) dL_is_23
end TSis
