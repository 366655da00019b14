/-! Texts in a StringBuilder: ensureCapacityInternal and append, whether the bytes grow or not. -/
section TSappend
/-- the letters txt in cap bytes bt -/
def SBok (txt : List Int32) (cap : Nat) (bt : Nat → Int32) : Prop := (cap = 16 ∨ cap = 34 ∨ cap = 70 ∨ cap = 142) ∧ txt.length ≤ cap ∧ sb_Fit bt ∧ ∀ i, i < txt.length → bt i = txt.getD i 0
/-- a letter below 128 -/
def SBch (c : Int32) : Prop := ∃ n : Nat, n < 128 ∧ c = nI n
theorem SBch_all : ∀ n, n < 128 → vp_nar .byte (nI n).toInt8.toInt32 = nI n ∧ fits .byte (.int (nI n)) = true ∧ ¬ (255 : Int32) < nI n := by decide +kernel
theorem SBch.nar {c : Int32} (h : SBch c) : vp_nar .byte c.toInt8.toInt32 = c := by obtain ⟨n, hn, rfl⟩ := h; exact (SBch_all n hn).1
theorem SBch.fit {c : Int32} (h : SBch c) : fits .byte (.int c) = true := by obtain ⟨n, hn, rfl⟩ := h; exact (SBch_all n hn).2.1
theorem SBch.enc {c : Int32} (h : SBch c) : ¬ (255 : Int32) < c := by obtain ⟨n, hn, rfl⟩ := h; exact (SBch_all n hn).2.2
theorem SBok.lt {txt : List Int32} {cap : Nat} {bt : Nat → Int32} (h : SBok txt cap bt) : cap ≤ 142 ∧ 16 ≤ cap := by rcases h.1 with e | e | e | e <;> subst e <;> decide
theorem SBok.push {txt : List Int32} {cap : Nat} {bt : Nat → Int32} {c : Int32} (h : SBok txt cap bt) (hl : txt.length + 1 ≤ cap) (hc : SBch c) : SBok (txt ++ [c]) cap (upd bt txt.length c) := by
  refine ⟨h.1, by rw [List.length_append]; exact hl, sb_fitU h.2.2.1 hc.fit, fun i hi => ?_⟩
  rw [List.length_append] at hi
  by_cases e : i = txt.length
  · subst e
    rw [pk_us, List.getD_eq_getElem?_getD, List.getElem?_append_right (Nat.le_refl _), Nat.sub_self]
    rfl
  · have hi2 : i < txt.length := by
      have : i < txt.length + 1 := hi
      omega
    rw [pk_un e, h.2.2.2 i hi2, List.getD_eq_getElem?_getD, List.getD_eq_getElem?_getD, List.getElem?_append_left hi2]
theorem SBok.grow {txt : List Int32} {cap : Nat} {bt : Nat → Int32} (h : SBok txt cap bt) (h70 : cap ≤ 70) : SBok txt (2 * cap + 2) (va_cpy bt (fun _ => 0) 0 0 cap) := by
  refine ⟨?_, by have := h.2.1; omega, sb_fitC h.2.2.1 sb_fit0, fun i hi => ?_⟩
  · rcases h.1 with e | e | e | e
    · exact Or.inr (Or.inl (by omega))
    · exact Or.inr (Or.inr (Or.inl (by omega)))
    · exact Or.inr (Or.inr (Or.inr (by omega)))
    · omega
  · rw [sb_cpy0 (Nat.lt_of_lt_of_le hi h.2.1)]
    exact h.2.2.2 i hi
theorem SBok.low {txt : List Int32} {cap Q : Nat} {bt : Nat → Int32} (h : SBok txt cap bt) (h1 : cap < Q) (h2 : Q ≤ 142) : cap ≤ 70 := by
  rcases h.1 with e | e | e | e <;> omega
theorem SBok.nil {txt : List Int32} {cap : Nat} {bt : Nat → Int32} (h : SBok txt cap bt) : SBok [] cap bt := ⟨h.1, Nat.zero_le _, h.2.2.1, fun i hi => absurd hi (Nat.not_lt_zero i)⟩
/-- the two cells of a text -/
abbrev sbW (k : tyK) (sb : Nat) (ml : Int32) (txt : List Int32) (u : Nat × Nat × (Nat → Int32)) : va_W := [(sb, .inr (1, [.ref u.1, .int (0 : Int32), .int ml, .int (nI txt.length)])), (u.1, .inl (k.2.2.1, u.2.1, .inl u.2.2))]
/-- contracts that give a reference back and a world of free parts -/
def FCrS {S : Type} (l : Launch) (y : MethodName) (ws : List Cond) (rm : Room) (D : va_G) (k : tyK) (av : List Value) (W0 : va_W) (adr : Nat) (post : S → Prop) (W1 : S → va_W) : Prop :=
  ∀ sz : Nat, Met l y ws rm (va_Pc av (PcW D k W0 sz)) (va_Qr post (fun u a t => a = adr ∧ va_P D vwCl (W1 u) t.heap ∧ va_D (va_A W0 sz) (W1 u)) (va_A W0 sz)) rm.cells rm.slots (va_A W0 sz)
section
variable {p : Program} {l : Launch} {e : Env} {R : Room} {s : State} {m : MethodId} {args : Array Value} {below : List Frame} {meth : Method} {c : Code} {H : Heap} {locs : List Loc} {cells slots : Nat} {Q : State → Prop} {D : va_G} {k : tyK} {A : Nat → Prop} {cc : ByteArray} {pc : Nat} {ls : Array Slot} {rest st0 : List Value} {a : Array Value} {mc ms : Nat} {ws wc : va_W}
theorem fc_aretS {S : Type} {post : S → Prop} {W1 : S → va_W} {adr q : Nat} {rt : FieldType} (hx : p.tables.exec = Jvm.exec) (hb : c.code = cc) (hr : meth.sig.returnType = some rt) (hrt : (∃ n, rt = .object n) ∨ ∃ t, rt = .array t) (hl : meth.locks = false) (hS : va_S A s.heap H locs) (u : S) (hpost : post u) (ha : q = adr) (hP : va_P D vwCl (W1 u) H) (hD : va_D A (W1 u)) (h1 : cells ≤ mc) (h2 : slots ≤ ms) (hdg : decode cc pc = .ok (.areturn, 1)) :
    W p l e R s m args below meth c H locs cells slots (MQ below (va_Qr post (fun u a t => a = adr ∧ va_P D vwCl (W1 u) t.heap ∧ va_D A (W1 u)) A) args s mc ms A) (F0 m pc ls [.ref q]) :=
  W.widen h1 h2 (W.aret hx hb hr hrt (Or.inr ⟨q, rfl⟩) (fun t ht _ => ⟨⟨u, q, rfl, hpost, ha, by rw [ht]; exact hP, hD⟩, hS.F ht⟩) hS.2.2 hdg hl)
theorem fc_crS {S : Type} {post : S → Prop} {W1 : S → va_W} {adr : Nat} {isC : List Nat} (hr : va_Run p l e R s m args below meth c H locs cells slots mc ms (F0 m pc ls st0) rest (va_Qr post (fun u a t => a = adr ∧ va_P D vwCl (W1 u) t.heap ∧ va_D (va_A wc H.size) (W1 u)) (va_A wc H.size) a) (va_A wc H.size)) (hP : va_P D vwCl ws H) (hD : va_D A ws) (hS : va_S A s.heap H locs) (hA : ∀ q : Nat, s.heap.size ≤ q → A q) (hC : isC.map (fun i => ws[i]?) = wc.map some) (hlen : ∀ u, isC.length = (W1 u).length) {cells' slots' : Nat} (hcs : cells + mc = cells') (hss : slots + ms = slots')
    (kk : ∀ (u : S) (H1 : Heap) (locs1 : List Loc), post u → va_P D vwCl (fs ws isC (W1 u)) H1 → va_D A (fs ws isC (W1 u)) → va_S A s.heap H1 locs1 → W p l e R s m args below meth c H1 locs1 cells' slots' Q (F0 m (pc + 3) ls (.ref adr :: rest))) : W p l e R s m args below meth c H locs cells slots Q (F0 m pc ls st0) := by
  subst hcs; subst hss
  have hF := va_free hD hS hA isC hC
  refine va_callr hr hS (fun q _ h => hF q h) hF (fun u ra t H1 locs1 ht _ hp hB _ hk hS1 => ?_)
  obtain ⟨rfl, hP1, hD1⟩ := hB
  rw [ht] at hP1
  obtain ⟨hP2, hD2⟩ := fs_ok hP hD hC (hlen u) hk hF hP1 hD1
  exact kk u H1 locs1 hp hP2 hD2 hS1
end

set_option maxHeartbeats 4000000 in
set_option maxRecDepth 100000 in
theorem cT_J5_ensure {l : Launch} {D : va_G} {k : tyK} (sb va cap Q : Nat) (ml ct : Int32) (bt : Nat → Int32) (txt : List Int32) (ok : SBok txt cap bt) (hq2 : Q ≤ 2 * cap + 2) (hq4 : Q ≤ 142) : FCv l yJ5_ensureCapacityInternal_d00df wsJ5_ensureCapacityInternal_d00df rm_J5_ensure_b D k [.ref sb, .int (nI Q)] [(sb, .inr (1, [.ref va, .int (0 : Int32), .int ml, .int ct])), (va, .inl (k.2.2.1, cap, .inl bt))] (fun (u : Nat × Nat × (Nat → Int32)) => SBok txt u.2.1 u.2.2 ∧ Q ≤ u.2.1) (fun u => [(sb, .inr (1, [.ref u.1, .int (0 : Int32), .int ml, .int ct])), (u.1, .inl (k.2.2.1, u.2.1, .inl u.2.2))]) := by
  refine fc_start (cc := cJ5_ensureCapacityInternal_d00df) (maxL := 3) (ret := none) (own := RJ5) (Qc := fun A => va_Qv (fun (u : Nat × Nat × (Nat → Int32)) => SBok txt u.2.1 u.2.2 ∧ Q ≤ u.2.1) (Bt D (fun u => [(sb, .inr (1, [.ref u.1, .int (0 : Int32), .int ml, .int ct])), (u.1, .inl (k.2.2.1, u.2.1, .inl u.2.2))]) A) A) (by decide) rfl rfl (Nat.le_of_ble_eq_true rfl) ?_
  intro p e s m below meth c A H hx hb hml hr hts hown hlk hname hA hP hE hD hS ls hl
  have hl : lv_has ls 3 [(0, .ref sb), (1, .int (nI Q))] := hl
  obtain ⟨locs, hlocs⟩ : ∃ z : List Loc, z = [] := ⟨_, rfl⟩
  rw [← hlocs] at hS ⊢
  refine lv_aload_n hx hb dJ5_ensureCapacityInternal_d00df_0 rfl (lv_at hl 0 rfl) ?_
  refine va_get (D := D) (ci := 1) (v := .ref va) (C := RJ4) (T := TJ4) (N := 4) hx hb hts in_J5_ensure_b_J4 hown hE.1 hP 0 rfl rfl 0 (by decide) (hts _ lk_J5_ensure_b_15) (fun _ h9 => h9) rfl dJ5_ensureCapacityInternal_d00df_1 ?_
  refine va_alen (v := (Int32.ofNat cap)) hx hb hE.1 hP 1 2 rfl rfl rfl dJ5_ensureCapacityInternal_d00df_4 ?_
  refine lv_aload_n hx hb dJ5_ensureCapacityInternal_d00df_5 rfl (lv_at hl 0 rfl) ?_
  refine va_get (D := D) (ci := 1) (v := .int (0 : Int32)) (C := RJ4) (T := TJ4) (N := 4) hx hb hts in_J5_ensure_b_J4 hown hE.1 hP 0 rfl rfl 1 (by decide) (hts _ lk_J5_ensure_b_22) (fun _ h9 => h9) rfl dJ5_ensureCapacityInternal_d00df_6 ?_
  refine lv_ishr hx hb dJ5_ensureCapacityInternal_d00df_9 ?_
  refine lv_istore_n (lv' := [(2, .int ((Int32.ofNat cap) >>> ((0 : Int32) &&& 31))), (0, .ref sb), (1, .int (nI Q))]) hx hb dJ5_ensureCapacityInternal_d00df_10 rfl hl (by decide) rfl (fun ls hl => ?_)
  refine lv_iload_n hx hb dJ5_ensureCapacityInternal_d00df_11 rfl (lv_at hl 2 rfl) ?_
  refine lv_iload_n hx hb dJ5_ensureCapacityInternal_d00df_12 rfl (lv_at hl 0 rfl) ?_
  refine lv_isub hx hb dJ5_ensureCapacityInternal_d00df_13 ?_
  refine lv_if_le (tgt := 38) hx hb dJ5_ensureCapacityInternal_d00df_14 (by decide) (fun c_1 => ?_) (fun c_1 => ?_)
  · have le : Q ≤ cap := by
      rcases Nat.lt_or_ge cap Q with h | h
      · rw [sb_shr0, show nI Q - Int32.ofNat cap = nI (Q - cap) from pk_sub (by omega)] at c_1
        exact absurd c_1 (nI_nle (by omega) (by omega))
      · exact h
    exact fc_vret hx hb hr hlk hS (va, cap, bt) ⟨ok, le⟩ hP hD (by decide) (by decide) dJ5_ensureCapacityInternal_d00df_38
  have hq1 : cap < Q := by
    rcases Nat.lt_or_ge cap Q with h | h
    · exact h
    · refine absurd ?_ c_1
      rw [sb_shr0]
      have h142 := ok.lt.1
      rcases Nat.eq_or_lt_of_le h with e | e
      · rw [e]
        show nI cap - nI cap ≤ 0
        rw [Int32.sub_self]
        exact Int32.le_refl 0
      · rw [Int32.le_iff_toInt_le, show (nI Q - Int32.ofNat cap).toInt = (Q : Int) - cap from pk_sub_toInt (by omega) (by omega)]
        show (Q : Int) - cap ≤ 0
        omega
  have hq3 : cap ≤ 70 := ok.low hq1 hq4
  have hfit := ok.2.2.1
  have el := sb_len hq1 hq2 hq3
  have hn : ¬ ((Int32.ofNat cap) + (if ((nI Q <<< ((0 : Int32) &&& 31)) - (Int32.ofNat cap)) < ((Int32.ofNat cap) + ((2 : Int32) <<< ((0 : Int32) &&& 31))) then ((Int32.ofNat cap) + ((2 : Int32) <<< ((0 : Int32) &&& 31))) else ((nI Q <<< ((0 : Int32) &&& 31)) - (Int32.ofNat cap)))) ≤ (0 : Int32) := by rw [el]; exact nI_nle (by omega) (by omega)
  have hm : ¬ (2147483639 : Int32) < ((Int32.ofNat cap) + (if ((nI Q <<< ((0 : Int32) &&& 31)) - (Int32.ofNat cap)) < ((Int32.ofNat cap) + ((2 : Int32) <<< ((0 : Int32) &&& 31))) then ((Int32.ofNat cap) + ((2 : Int32) <<< ((0 : Int32) &&& 31))) else ((nI Q <<< ((0 : Int32) &&& 31)) - (Int32.ofNat cap)))) := by rw [el]; exact nI_nlt (a := 2147483639) (b := 2 * cap + 2) (by omega) (by decide)
  have h3 : ¬ (F_J8_newLength_cabcc (Int32.ofNat cap) ((nI Q <<< ((0 : Int32) &&& 31)) - (Int32.ofNat cap)) ((Int32.ofNat cap) + ((2 : Int32) <<< ((0 : Int32) &&& 31)))) = (2147483647 : Int32) := by
    intro z
    have z2 : nI (2 * cap + 2) = nI 2147483647 := el.symm.trans z
    have := (nI_eq (by omega) (by decide)).mp z2
    omega
  have hNC : F_J5_newCapacity_0f7a4 cap ml ct bt (nI Q) = nI (2 * cap + 2) := by
    unfold F_J5_newCapacity_0f7a4
    rw [letp_eq, sb_shr0]
    exact el
  refine lv_aload_n hx hb dJ5_ensureCapacityInternal_d00df_17 rfl (lv_at hl 1 rfl) ?_
  refine lv_aload_n hx hb dJ5_ensureCapacityInternal_d00df_18 rfl (lv_at hl 1 rfl) ?_
  refine va_get (D := D) (ci := 1) (v := .ref va) (C := RJ4) (T := TJ4) (N := 4) hx hb hts in_J5_ensure_b_J4 hown hE.1 hP 0 rfl rfl 0 (by decide) (hts _ lk_J5_ensure_b_15) (fun _ h9 => h9) rfl dJ5_ensureCapacityInternal_d00df_19 ?_
  refine lv_aload_n hx hb dJ5_ensureCapacityInternal_d00df_22 rfl (lv_at hl 1 rfl) ?_
  refine lv_iload_n hx hb dJ5_ensureCapacityInternal_d00df_23 rfl (lv_at hl 2 rfl) ?_
  refine fc_ci (isC := [0, 1]) (cells' := 0) (slots' := 0) (fc_runU (n := 1) (As := [.int (nI Q)]) (rest := [.ref va, .ref sb]) (isC := [0, 1]) (maxL := 6) ⟨hx, hb, hml, hown, hts⟩ (c_J5_newCapacity_0f7a4 sb va cap ml ct bt (nI Q) hn hm h3 H.size) gJ5_ensureCapacityInternal_d00df_J5_newCapacity_0f7a4_u104J4 rfl rfl (by decide +kernel) rfl ⟨Nat.le_of_ble_eq_true rfl, Nat.le_of_ble_eq_true rfl⟩ ⟨Nat.le_of_ble_eq_true rfl, Nat.le_of_ble_eq_true rfl⟩ hE hP hD hS hA rfl rfl (va_recv hE.1 hP (ci := 1) (q0 := 0) rfl rfl) hl rfl (Nat.le_of_ble_eq_true rfl) dJ5_ensureCapacityInternal_d00df_24) hP hD hS hA rfl (fun _ => rfl) rfl rfl (fun r_2 _ H locs hr_2 hP hD hS => ?_)
  obtain rfl : (F_J5_newCapacity_0f7a4 cap ml ct bt (nI Q)) = r_2 := hr_2.symm
  dsimp only [fs, List.set] at hP hD
  have hP : va_P D vwCl [(sb, .inr (1, [.ref va, .int (0 : Int32), .int ml, .int ct])), (va, .inl (k.2.2.1, cap, .inl bt))] H := hP
  have hD : va_D A [(sb, .inr (1, [.ref va, .int (0 : Int32), .int ml, .int ct])), (va, .inl (k.2.2.1, cap, .inl bt))] := hD
  refine lv_aload_n hx hb dJ5_ensureCapacityInternal_d00df_27 rfl (lv_at hl 1 rfl) ?_
  refine va_get (D := D) (ci := 1) (v := .int (0 : Int32)) (C := RJ4) (T := TJ4) (N := 4) hx hb hts in_J5_ensure_b_J4 hown hE.1 hP 0 rfl rfl 1 (by decide) (hts _ lk_J5_ensure_b_22) (fun _ h9 => h9) rfl dJ5_ensureCapacityInternal_d00df_28 ?_
  refine lv_ishl hx hb dJ5_ensureCapacityInternal_d00df_31 ?_
  rw [hNC, sb_shl0]
  have hFc := va_free (wc := [(va, .inl (k.2.2.1, cap, .inl bt))]) hD hS hA [1] rfl
  refine va_callr (fc_runS (n := 2) (As := [.ref va, .int (nI (2 * cap + 2))]) (rest := [.ref sb]) (isC := [1]) (maxL := 3) ⟨hx, hb, hml, hown, hts⟩ (c_J7_copyOf va cap (2 * cap + 2) bt (by omega) (by omega) hfit H.size) gJ5_ensureCapacityInternal_d00df_J7_copyOf_9075b rfl (by decide +kernel) rfl ⟨Nat.le_of_ble_eq_true rfl, Nat.le_of_ble_eq_true rfl⟩ ⟨Nat.le_of_ble_eq_true rfl, Nat.le_of_ble_eq_true rfl⟩ hE hP hD hS hA rfl rfl hl rfl (Nat.le_of_ble_eq_true rfl) dJ5_ensureCapacityInternal_d00df_32) hS (fun q _ h => hFc q h) hFc (fun _ q t H1 locs1 ht _ _ hB _ hk hS1 => ?_)
  obtain ⟨hP1, hD1⟩ := hB
  rw [ht] at hP1
  obtain ⟨hP, hD⟩ := va_join (wr := [(sb, .inr (1, [.ref va, .int (0 : Int32), .int ml, .int ct]))]) hP hD [1] [0] rfl rfl (by decide) (by decide) hk hFc hP1 hD1
  have hS := hS1
  have hP : va_P D vwCl [(sb, .inr (1, [.ref va, .int (0 : Int32), .int ml, .int ct])), (va, .inl (k.2.2.1, cap, .inl bt)), (q, .inl (k.2.2.1, 2 * cap + 2, .inl (va_cpy bt (fun _ => 0) 0 0 cap)))] H1 := hP
  have hD : va_D A [(sb, .inr (1, [.ref va, .int (0 : Int32), .int ml, .int ct])), (va, .inl (k.2.2.1, cap, .inl bt)), (q, .inl (k.2.2.1, 2 * cap + 2, .inl (va_cpy bt (fun _ => 0) 0 0 cap)))] := hD
  refine va_put (D := D) (ci := 1) (v := .ref q) (ty := (.array .byte)) (C := RJ4) (T := TJ4) (N := 4) hx hb hts in_J5_ensure_b_J4 tyJ4 tyJ4_ok nmJ4 hown hE.1 hP hD hS 0 rfl rfl 0 (by decide) (hts _ lk_J5_ensure_b_15) (fun _ h9 => h9) rfl (by decide +kernel) rfl rfl (Nat.le_of_ble_eq_true rfl) dJ5_ensureCapacityInternal_d00df_35 (fun H locs hP hD hS => ?_)
  have hP2 := hP.sub (ws' := [(sb, .inr (1, [.ref q, .int (0 : Int32), .int ml, .int ct])), (q, .inl (k.2.2.1, 2 * cap + 2, .inl (va_cpy bt (fun _ => 0) 0 0 cap)))]) [0, 2] rfl
  have hD2 := hD.sub (ws' := [(sb, .inr (1, [.ref q, .int (0 : Int32), .int ml, .int ct])), (q, .inl (k.2.2.1, 2 * cap + 2, .inl (va_cpy bt (fun _ => 0) 0 0 cap)))]) [0, 2] (by decide) rfl
  exact fc_vret hx hb hr hlk hS (q, 2 * cap + 2, va_cpy bt (fun _ => 0) 0 0 cap) ⟨ok.grow hq3, hq2⟩ hP2 hD2 (by decide) (by decide) dJ5_ensureCapacityInternal_d00df_38

abbrev rmT_J5_append_C : Room := { frames := 4, cells := 1, slots := 142, locals := 122 }
set_option maxHeartbeats 4000000 in
set_option maxRecDepth 100000 in
theorem cT_J5_append_C {l : Launch} {D : va_G} {k : tyK} (sb va : Nat) (cap : Nat) (ml : Int32) (txt : List Int32) (bt : (Nat → Int32)) (ic : Int32) (ok : SBok txt cap bt) (hc : SBch ic) (hlen : txt.length < 142) : FCrS l yJ5_append_3fe6f wsJ5_append_3fe6f rmT_J5_append_C D k [.ref sb, .int ic] [(sb, .inr (1, [.ref va, .int (0 : Int32), .int ml, .int (nI txt.length)])), (va, .inl (k.2.2.1, cap, .inl bt))] sb (fun u => SBok (txt ++ [ic]) u.2.1 u.2.2) (sbW k sb ml (txt ++ [ic])) := by
  refine fc_start (cc := cJ5_append_3fe6f) (maxL := 2) (ret := (some (.object "java/lang/AbstractStringBuilder"))) (own := RJ5) (Qc := fun A => va_Qr (fun u => SBok (txt ++ [ic]) u.2.1 u.2.2) (fun u a t => a = sb ∧ va_P D vwCl (sbW k sb ml (txt ++ [ic]) u) t.heap ∧ va_D A (sbW k sb ml (txt ++ [ic]) u)) A) (by decide) rfl rfl (Nat.le_of_ble_eq_true rfl) ?_
  intro p e s m below meth c A H hx hb hml hr hts hown hlk hname hA hP hE hD hS ls hl
  have hl : lv_has ls 2 [(0, .ref sb), (1, .int ic)] := hl
  obtain ⟨locs, hlocs⟩ : ∃ z : List Loc, z = [] := ⟨_, rfl⟩
  rw [← hlocs] at hS ⊢
  refine lv_aload_n hx hb dJ5_append_3fe6f_0 rfl (lv_at hl 0 rfl) ?_
  refine lv_aload_n hx hb dJ5_append_3fe6f_1 rfl (lv_at hl 0 rfl) ?_
  refine va_get (D := D) (ci := 1) (v := .int (nI txt.length)) (C := RJ4) (T := TJ4) (N := 4) hx hb hts in_J5_append_3fe6f_J4 hown hE.1 hP 0 rfl rfl 3 (by decide) (hts _ lk_J5_append_3fe6f_79) (fun _ h9 => h9) rfl dJ5_append_3fe6f_2 ?_
  refine lv_iconst (v := 1) hx hb dJ5_append_3fe6f_5 (by decide) ?_
  refine lv_iadd hx hb dJ5_append_3fe6f_6 ?_
  have hadd : nI txt.length + (1 : Int32) = nI (txt.length + 1) := nI_add txt.length 1
  rw [hadd]
  refine fc_cv (isC := [0, 1]) (cells' := 1) (slots' := 142) (fc_runU (n := 1) (As := [.int (nI (txt.length + 1))]) (rest := []) (isC := [0, 1]) (maxL := 3) ⟨hx, hb, hml, hown, hts⟩ (cT_J5_ensure sb va cap (txt.length + 1) ml (nI txt.length) bt txt ok (by have := ok.2.1; have := ok.lt.2; omega) (by omega) H.size) gJ5_append_3fe6f_J5_ensureCapacityInternal_d00df_u100J4 rfl rfl (by decide +kernel) rfl ⟨Nat.le_of_ble_eq_true rfl, Nat.le_of_ble_eq_true rfl⟩ ⟨Nat.le_of_ble_eq_true rfl, Nat.le_of_ble_eq_true rfl⟩ hE hP hD hS hA rfl rfl (va_recv hE.1 hP (ci := 1) (q0 := 0) rfl rfl) hl rfl (Nat.le_of_ble_eq_true rfl) dJ5_append_3fe6f_7) hP hD hS hA rfl (fun _ => rfl) rfl rfl (fun u H locs hu hP hD hS => ?_)
  obtain ⟨va', cap', bt'⟩ := u
  obtain ⟨ok', hQ'⟩ := hu
  replace ok' : SBok txt cap' bt' := ok'
  replace hQ' : txt.length + 1 ≤ cap' := hQ'
  dsimp only [fs, List.set] at hP hD
  have hP : va_P D vwCl [(sb, .inr (1, [.ref va', .int (0 : Int32), .int ml, .int (nI txt.length)])), (va', .inl (k.2.2.1, cap', .inl bt'))] H := hP
  have hD : va_D A [(sb, .inr (1, [.ref va', .int (0 : Int32), .int ml, .int (nI txt.length)])), (va', .inl (k.2.2.1, cap', .inl bt'))] := hD
  refine lv_aload_n hx hb dJ5_append_3fe6f_10 rfl (lv_at hl 0 rfl) ?_
  refine fc_ci (isC := [0, 1]) (cells' := 1) (slots' := 142) (fc_runU (n := 0) (As := []) (rest := []) (isC := [0, 1]) (maxL := 1) ⟨hx, hb, hml, hown, hts⟩ (c_J5_isLatin1_aae02 sb va' cap' ml (nI txt.length) bt' H.size) gJ5_append_3fe6f_J5_isLatin1_aae02_u83J4 rfl rfl (by decide +kernel) rfl ⟨Nat.le_of_ble_eq_true rfl, Nat.le_of_ble_eq_true rfl⟩ ⟨Nat.le_of_ble_eq_true rfl, Nat.le_of_ble_eq_true rfl⟩ hE hP hD hS hA rfl rfl (va_recv hE.1 hP (ci := 1) (q0 := 0) rfl rfl) hl rfl (Nat.le_of_ble_eq_true rfl) dJ5_append_3fe6f_11) hP hD hS hA rfl (fun _ => rfl) rfl rfl (fun r_1 _ H locs hr_1 hP hD hS => ?_)
  obtain rfl : (1 : Int32) = r_1 := hr_1.symm
  dsimp only [fs, List.set] at hP hD
  have hP : va_P D vwCl [(sb, .inr (1, [.ref va', .int (0 : Int32), .int ml, .int (nI txt.length)])), (va', .inl (k.2.2.1, cap', .inl bt'))] H := hP
  have hD : va_D A [(sb, .inr (1, [.ref va', .int (0 : Int32), .int ml, .int (nI txt.length)])), (va', .inl (k.2.2.1, cap', .inl bt'))] := hD
  refine lv_if_eq (tgt := 45) hx hb dJ5_append_3fe6f_14 (by decide) (fun c_2 => absurd c_2 (by decide)) (fun c_2 => ?_)
  refine lv_iload_n hx hb dJ5_append_3fe6f_17 rfl (lv_at hl 1 rfl) ?_
  refine fc_ci (isC := []) (cells' := 1) (slots' := 142) (fc_runS (n := 1) (As := [.int ic]) (rest := []) (isC := []) (maxL := 1) ⟨hx, hb, hml, hown, hts⟩ (c_J1_canEncode_fc78d ic hc.enc H.size) gJ5_append_3fe6f_J1_canEncode_fc78d rfl (by decide +kernel) rfl ⟨Nat.le_of_ble_eq_true rfl, Nat.le_of_ble_eq_true rfl⟩ ⟨Nat.le_of_ble_eq_true rfl, Nat.le_of_ble_eq_true rfl⟩ hE hP hD hS hA rfl rfl hl rfl (Nat.le_of_ble_eq_true rfl) dJ5_append_3fe6f_18) hP hD hS hA rfl (fun _ => rfl) rfl rfl (fun r_3 _ H locs hr_3 hP hD hS => ?_)
  obtain rfl : (1 : Int32) = r_3 := hr_3.symm
  dsimp only [fs, List.set] at hP hD
  have hP : va_P D vwCl [(sb, .inr (1, [.ref va', .int (0 : Int32), .int ml, .int (nI txt.length)])), (va', .inl (k.2.2.1, cap', .inl bt'))] H := hP
  have hD : va_D A [(sb, .inr (1, [.ref va', .int (0 : Int32), .int ml, .int (nI txt.length)])), (va', .inl (k.2.2.1, cap', .inl bt'))] := hD
  refine lv_if_eq (tgt := 45) hx hb dJ5_append_3fe6f_21 (by decide) (fun c_4 => absurd c_4 (by decide)) (fun c_4 => ?_)
  refine lv_aload_n hx hb dJ5_append_3fe6f_24 rfl (lv_at hl 0 rfl) ?_
  refine va_get (D := D) (ci := 1) (v := .ref va') (C := RJ4) (T := TJ4) (N := 4) hx hb hts in_J5_append_3fe6f_J4 hown hE.1 hP 0 rfl rfl 0 (by decide) (hts _ lk_J5_append_3fe6f_15) (fun _ h9 => h9) rfl dJ5_append_3fe6f_25 ?_
  refine lv_aload_n hx hb dJ5_append_3fe6f_28 rfl (lv_at hl 0 rfl) ?_
  refine lv_dup hx hb dJ5_append_3fe6f_29 rfl ?_
  refine va_get (D := D) (ci := 1) (v := .int (nI txt.length)) (C := RJ4) (T := TJ4) (N := 4) hx hb hts in_J5_append_3fe6f_J4 hown hE.1 hP 0 rfl rfl 3 (by decide) (hts _ lk_J5_append_3fe6f_79) (fun _ h9 => h9) rfl dJ5_append_3fe6f_30 ?_
  refine lv_dup_x1 hx hb dJ5_append_3fe6f_33 rfl rfl ?_
  refine lv_iconst (v := 1) hx hb dJ5_append_3fe6f_34 (by decide) ?_
  refine lv_iadd hx hb dJ5_append_3fe6f_35 ?_
  refine va_put (D := D) (ci := 1) (v := .int ((nI txt.length) + (1 : Int32))) (ty := .int) (C := RJ4) (T := TJ4) (N := 4) hx hb hts in_J5_append_3fe6f_J4 tyJ4 tyJ4_ok nmJ4 hown hE.1 hP hD hS 0 rfl rfl 3 (by decide) (hts _ lk_J5_append_3fe6f_79) (fun _ h9 => h9) rfl (by decide +kernel) rfl rfl (Nat.le_of_ble_eq_true rfl) dJ5_append_3fe6f_36 (fun H locs hP hD hS => ?_)
  have hP : va_P D vwCl [(sb, .inr (1, [.ref va', .int (0 : Int32), .int ml, .int ((nI txt.length) + (1 : Int32))])), (va', .inl (k.2.2.1, cap', .inl bt'))] H := hP
  have hD : va_D A [(sb, .inr (1, [.ref va', .int (0 : Int32), .int ml, .int ((nI txt.length) + (1 : Int32))])), (va', .inl (k.2.2.1, cap', .inl bt'))] := hD
  refine lv_iload_n hx hb dJ5_append_3fe6f_39 rfl (lv_at hl 1 rfl) ?_
  refine lv_i2b hx hb dJ5_append_3fe6f_40 rfl ?_
  refine va_bast hx hb hE.1 hP hD hS 1 2 rfl rfl (nI_in (Nat.lt_of_succ_le hQ') (by have := ok'.lt.1; omega)) dJ5_append_3fe6f_41 (fun H locs hP hD hS => ?_)
  have hP : va_P D vwCl [(sb, .inr (1, [.ref va', .int (0 : Int32), .int ml, .int ((nI txt.length) + (1 : Int32))])), (va', .inl (k.2.2.1, cap', .inl (upd bt' ((nI txt.length)).toNatClampNeg (vp_nar .byte (ic).toInt8.toInt32))))] H := hP
  have hD : va_D A [(sb, .inr (1, [.ref va', .int (0 : Int32), .int ml, .int ((nI txt.length) + (1 : Int32))])), (va', .inl (k.2.2.1, cap', .inl (upd bt' ((nI txt.length)).toNatClampNeg (vp_nar .byte (ic).toInt8.toInt32))))] := hD
  rw [hc.nar, nI_clamp (by omega), hadd] at hP hD
  have hlen2 : nI (txt.length + 1) = nI (txt ++ [ic]).length := by rw [List.length_append]; rfl
  rw [hlen2] at hP hD
  have hP : va_P D vwCl (sbW k sb ml (txt ++ [ic]) (va', cap', upd bt' txt.length ic)) H := hP
  have hD : va_D A (sbW k sb ml (txt ++ [ic]) (va', cap', upd bt' txt.length ic)) := hD
  refine lv_goto (tgt := 75) hx hb dJ5_append_3fe6f_42 (by decide) ?_
  refine lv_aload_n hx hb dJ5_append_3fe6f_75 rfl (lv_at hl 0 rfl) ?_
  exact fc_aretS hx hb hr (Or.inl ⟨_, rfl⟩) hlk hS (va', cap', upd bt' txt.length ic) (ok'.push hQ' hc) rfl hP hD (by decide) (by decide) dJ5_append_3fe6f_76


end TSappend
