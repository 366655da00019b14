/-! THE LAW'S refused. -/
section TSrefused
theorem lg_cmp_self (x : Int64) : lg_cmp x x = 0 := by
  unfold lg_cmp
  rw [if_neg Int64.lt_irrefl, if_pos rfl]
theorem MI_withL {i : Nat} {a : Abs} {L : List Int32} (h : MI i a) (hX : L = a.2.2.2.2.2.2.2 ∨ L.length ≤ 91) : MI i (withL a L) := by
  obtain ⟨⟨⟨g1, g2, g3⟩, g4, g5⟩, h1, h2, h3, h4⟩ := h
  refine ⟨⟨⟨g1, g2, g3⟩, ?_, g5⟩, h1, h2, h3, h4⟩
  show L.length ≤ 91
  rcases hX with e | e
  · rw [e]; exact g4
  · exact e
/-- what refused leaves -/
def REFd (a a' : Abs) : Prop := ∃ (jr jd fk : Int32) (L : List Int32), L.length ≤ 91 ∧ a' = (a.1, a.2.1, a.2.2.1, jr, jd, fk, [], L)
theorem REF_post {a a9 a8 : Abs} {L L8 : List Int32} {c1 : Int32} (h9 : a9 = withL a L) (h8 : a8 = withL (rdq (rdq (rdq (ref (ref (ref (ref a9 2 c1) 2 c1) 2 0) 4 1) 4 1 0) 20 1 0) 4 0 0) L8) (hX : L = a.2.2.2.2.2.2.2 ∨ L.length ≤ 91) (hX8 : L8 = (rdq (rdq (rdq (ref (ref (ref (ref a9 2 c1) 2 c1) 2 0) 4 1) 4 1 0) 20 1 0) 4 0 0).2.2.2.2.2.2.2 ∨ L8.length ≤ 91) (hl : a.2.2.2.2.2.2.2.length ≤ 91) : REFd a a8 := by
  subst h9
  have hL : L.length ≤ 91 := by
    rcases hX with e | e
    · rw [e]; exact hl
    · exact e
  refine ⟨4, 0, 0, L8, ?_, h8⟩
  rcases hX8 with e | e
  · rw [e]; exact hL
  · exact e
abbrev rm_L_refused : Room := { frames := 11, cells := 5621, slots := 150414, locals := 299 }
set_option maxRecDepth 100000 in
set_option maxHeartbeats 8000000 in
theorem LC_refused {l : Launch} {D : va_G} {k : tyK} (hlst : l.stackTraces = false) (ad : Nat → Nat) (a : Abs) (hM : MI 4 a) : LCi l yL_refused wsL_refused rm_L_refused D k ad [] a (fun r a' => r = 1 ∧ REFd a a') := by
  intro σ hR
  refine fc_start (cc := cL_refused) (maxL := 6) (ret := (some .boolean)) (own := RL) (Qc := fun A => va_Qi (fun r (u : TSt × Abs) => (r = 1 ∧ REFd a u.2) ∧ Rep u.1 u.2) (Bt D (fun u => WT k ad u.1) A) A) (by decide) rfl rfl (Nat.le_of_ble_eq_true rfl) ?_
  intro p e s m below meth c A H hx hb hml hr hts hown hlk hname hA hP hE hD hS ls hl
  have hl : lv_has ls 6 [(0, .ref (ad 0))] := hl
  obtain ⟨locs, hlocs⟩ : ∃ z : List Loc, z = [] := ⟨_, rfl⟩
  rw [← hlocs] at hS ⊢
  have hP : va_P D vwCl (WT k ad σ ++ ([] : va_W)) H := by rw [List.append_nil]; exact hP
  have hD : va_D A (WT k ad σ ++ ([] : va_W)) := by rw [List.append_nil]; exact hD
  refine lv_aload_n hx hb dL_refused_0 rfl (lv_at hl 0 rfl) ?_
  refine lc_cl (post := fun r a2 => r = ASK a.1 ∧ ∃ L, (L = a.2.2.2.2.2.2.2 ∨ L.length ≤ 91) ∧ a2 = withL a L) (cells' := 2627) (slots' := 69618) (fc_runS (n := 1) (As := [.ref (ad 0)]) (rest := []) (isC := iL) (maxL := 6) ⟨hx, hb, hml, hown, hts⟩ (LC_asks hlst ad a hM.1.1.1 σ hR H.size) gL_refused_L_asks rfl (by decide +kernel) rfl ⟨Nat.le_of_ble_eq_true rfl, Nat.le_of_ble_eq_true rfl⟩ ⟨Nat.le_of_ble_eq_true rfl, Nat.le_of_ble_eq_true rfl⟩ hE hP hD hS hA (iL_C k ad σ ([] : va_W)) iL_nd hl rfl (Nat.le_of_ble_eq_true rfl) dL_refused_1) hP hD hS hA rfl rfl (fun r σ a9 H locs hp hR hP hD hS => ?_)
  obtain ⟨hr9, L, hX, ha9⟩ := hp
  have hb1 : a9.1 = a.1 := by rw [ha9]; rfl
  have hMb : MI 4 a9 := by rw [ha9]; exact MI_withL hM hX
  have hL9 : a9.2.2.2.2.2.2.2.length ≤ 91 := hMb.1.2.1
  have h0 : a9.2.2.2.2.2.2.1 = [] := hMb.1.2.2
  have hB : BK a9.1 := hMb.1.1.1
  have h1 : a9.1 1 = nI 4 := hMb.2.1
  have h4 : a9.1 324 = nI 1 := hMb.2.2.1
  have hT : T0 a9.1 := hMb.2.2.2.1 (by omega)
  have h3 : a9.1 41 = nI 0 := hMb.2.2.2.2 (by omega)
  have hN : NT a9.1 = 4 := by unfold NT; rw [h1, nI_clamp (by omega)]
  have hz := BK_z hB (t := 0) (by omega)
  have hz0 : 0 < NZ a9.1 0 := nI_lt100 hz.1 hT.2
  refine lv_lstore_n (lv' := [(1, .long r), (0, .ref (ad 0))]) hx hb dL_refused_4 rfl hl (by decide) rfl (fun ls hl => ?_)
  refine lv_aload_n hx hb dL_refused_5 rfl (lv_at hl 1 rfl) ?_
  refine lv_iconst (v := 1) hx hb dL_refused_6 (by decide) ?_
  refine lc_k (v := (4 : Int32)) (a1 := a9) (cells' := 2628) (slots' := 69624) (fc_runSW (n := 2) (As := [.ref (ad 0), .int (1 : Int32)]) (rest := []) (isC := iL) (maxL := 3) ⟨hx, hb, hml, hown, hts⟩ ((LCi.to (LC_number hlst ad a9 (1 : Int32)) ((Q_count _ _).trans h1)) σ hR H.size) gL_refused_L_number rfl (by decide +kernel) rfl ⟨Nat.le_of_ble_eq_true rfl, Nat.le_of_ble_eq_true rfl⟩ ⟨Nat.le_of_ble_eq_true rfl, Nat.le_of_ble_eq_true rfl⟩ hE hP hD hS hA (iL_C k ad σ ([] : va_W)) iL_nd hl rfl (Nat.le_of_ble_eq_true rfl) dL_refused_7) hP hD hS hA rfl rfl (fun σ H locs hR hP hD hS => ?_)
  refine lv_istore_n (lv' := [(3, .int (4 : Int32)), (1, .long r), (0, .ref (ad 0))]) hx hb dL_refused_10 rfl hl (by decide) rfl (fun ls hl => ?_)
  refine lv_aload_n hx hb dL_refused_11 rfl (lv_at hl 2 rfl) ?_
  refine lv_iconst (v := 1) hx hb dL_refused_12 (by decide) ?_
  refine lc_k (v := (Q_refusal a9.2.2.2.1 a9.2.2.2.2.1 1)) (a1 := a9) (cells' := 2629) (slots' := 69630) (fc_runSW (n := 2) (As := [.ref (ad 0), .int (1 : Int32)]) (rest := []) (isC := iL) (maxL := 3) ⟨hx, hb, hml, hown, hts⟩ ((LCi.to (LC_refusal hlst ad a9 (1 : Int32)) rfl) σ hR H.size) gL_refused_L_refusal rfl (by decide +kernel) rfl ⟨Nat.le_of_ble_eq_true rfl, Nat.le_of_ble_eq_true rfl⟩ ⟨Nat.le_of_ble_eq_true rfl, Nat.le_of_ble_eq_true rfl⟩ hE hP hD hS hA (iL_C k ad σ ([] : va_W)) iL_nd hl rfl (Nat.le_of_ble_eq_true rfl) dL_refused_13) hP hD hS hA rfl rfl (fun σ H locs hR hP hD hS => ?_)
  refine lv_istore (lv' := [(4, .int (Q_refusal a9.2.2.2.1 a9.2.2.2.2.1 1)), (3, .int (4 : Int32)), (1, .long r), (0, .ref (ad 0))]) hx hb dL_refused_16 hl (by decide) rfl (fun ls hl => ?_)
  refine lv_aload_n hx hb dL_refused_18 rfl (lv_at hl 3 rfl) ?_
  refine lv_iconst (v := 5) hx hb dL_refused_19 (by decide) ?_
  refine lc_k (v := (-1001 : Int32)) (a1 := a9) (cells' := 2630) (slots' := 69636) (fc_runSW (n := 2) (As := [.ref (ad 0), .int (5 : Int32)]) (rest := []) (isC := iL) (maxL := 3) ⟨hx, hb, hml, hown, hts⟩ ((LCi.at (LC_tour hlst ad a9 (5 : Int32)) (rf_tour_hi a9)) σ hR H.size) gL_refused_L_tour rfl (by decide +kernel) rfl ⟨Nat.le_of_ble_eq_true rfl, Nat.le_of_ble_eq_true rfl⟩ ⟨Nat.le_of_ble_eq_true rfl, Nat.le_of_ble_eq_true rfl⟩ hE hP hD hS hA (iL_C k ad σ ([] : va_W)) iL_nd hl rfl (Nat.le_of_ble_eq_true rfl) dL_refused_20) hP hD hS hA rfl rfl (fun σ H locs hR hP hD hS => ?_)
  refine lv_sipush (v := -1001) hx hb dL_refused_23 (by decide) ?_
  refine lv_icmp_ne (tgt := 313) hx hb dL_refused_26 (by decide) (fun h => absurd rfl h) (fun _ => ?_)
  refine lv_aload_n hx hb dL_refused_29 rfl (lv_at hl 3 rfl) ?_
  refine lv_iconst (v := -1) hx hb dL_refused_30 (by decide) ?_
  refine lc_k (v := (-1001 : Int32)) (a1 := a9) (cells' := 2631) (slots' := 69642) (fc_runSW (n := 2) (As := [.ref (ad 0), .int (-1 : Int32)]) (rest := []) (isC := iL) (maxL := 3) ⟨hx, hb, hml, hown, hts⟩ ((LCi.at (LC_tour hlst ad a9 (-1 : Int32)) (rf_tour_m a9)) σ hR H.size) gL_refused_L_tour rfl (by decide +kernel) rfl ⟨Nat.le_of_ble_eq_true rfl, Nat.le_of_ble_eq_true rfl⟩ ⟨Nat.le_of_ble_eq_true rfl, Nat.le_of_ble_eq_true rfl⟩ hE hP hD hS hA (iL_C k ad σ ([] : va_W)) iL_nd hl rfl (Nat.le_of_ble_eq_true rfl) dL_refused_31) hP hD hS hA rfl rfl (fun σ H locs hR hP hD hS => ?_)
  refine lv_sipush (v := -1001) hx hb dL_refused_34 (by decide) ?_
  refine lv_icmp_ne (tgt := 313) hx hb dL_refused_37 (by decide) (fun h => absurd rfl h) (fun _ => ?_)
  refine lv_aload_n hx hb dL_refused_40 rfl (lv_at hl 3 rfl) ?_
  refine lv_iload_n hx hb dL_refused_41 rfl (lv_at hl 1 rfl) ?_
  refine lv_bipush (v := 9) hx hb dL_refused_42 (by decide) ?_
  refine lv_iconst (v := 0) hx hb dL_refused_44 (by decide) ?_
  refine lv_iconst (v := 0) hx hb dL_refused_45 (by decide) ?_
  refine lv_iconst (v := 0) hx hb dL_refused_46 (by decide) ?_
  refine lc_k (v := (-1001 : Int32)) (a1 := a9) (cells' := 2632) (slots' := 69648) (fc_runSW (n := 6) (As := [.ref (ad 0), .int (4 : Int32), .int (9 : Int32), .int (0 : Int32), .int (0 : Int32), .int (0 : Int32)]) (rest := []) (isC := iL) (maxL := 7) ⟨hx, hb, hml, hown, hts⟩ ((LCi.at (LC_step hlst ad a9 (4 : Int32) (9 : Int32) (0 : Int32) (0 : Int32) (0 : Int32)) (rf_step_1 a9 h1)) σ hR H.size) gL_refused_L_step rfl (by decide +kernel) rfl ⟨Nat.le_of_ble_eq_true rfl, Nat.le_of_ble_eq_true rfl⟩ ⟨Nat.le_of_ble_eq_true rfl, Nat.le_of_ble_eq_true rfl⟩ hE hP hD hS hA (iL_C k ad σ ([] : va_W)) iL_nd hl rfl (Nat.le_of_ble_eq_true rfl) dL_refused_47) hP hD hS hA rfl rfl (fun σ H locs hR hP hD hS => ?_)
  refine lv_sipush (v := -1001) hx hb dL_refused_50 (by decide) ?_
  refine lv_icmp_ne (tgt := 313) hx hb dL_refused_53 (by decide) (fun h => absurd rfl h) (fun _ => ?_)
  refine lv_aload_n hx hb dL_refused_56 rfl (lv_at hl 3 rfl) ?_
  refine lv_iconst (v := 0) hx hb dL_refused_57 (by decide) ?_
  refine lv_bipush (v := 9) hx hb dL_refused_58 (by decide) ?_
  refine lv_iconst (v := 5) hx hb dL_refused_60 (by decide) ?_
  refine lv_iconst (v := 0) hx hb dL_refused_61 (by decide) ?_
  refine lv_iconst (v := 0) hx hb dL_refused_62 (by decide) ?_
  refine lc_k (v := (-1001 : Int32)) (a1 := a9) (cells' := 2633) (slots' := 69654) (fc_runSW (n := 6) (As := [.ref (ad 0), .int (0 : Int32), .int (9 : Int32), .int (5 : Int32), .int (0 : Int32), .int (0 : Int32)]) (rest := []) (isC := iL) (maxL := 7) ⟨hx, hb, hml, hown, hts⟩ ((LCi.at (LC_step hlst ad a9 (0 : Int32) (9 : Int32) (5 : Int32) (0 : Int32) (0 : Int32)) (rf_step_2 a9 h1)) σ hR H.size) gL_refused_L_step rfl (by decide +kernel) rfl ⟨Nat.le_of_ble_eq_true rfl, Nat.le_of_ble_eq_true rfl⟩ ⟨Nat.le_of_ble_eq_true rfl, Nat.le_of_ble_eq_true rfl⟩ hE hP hD hS hA (iL_C k ad σ ([] : va_W)) iL_nd hl rfl (Nat.le_of_ble_eq_true rfl) dL_refused_63) hP hD hS hA rfl rfl (fun σ H locs hR hP hD hS => ?_)
  refine lv_sipush (v := -1001) hx hb dL_refused_66 (by decide) ?_
  refine lv_icmp_ne (tgt := 313) hx hb dL_refused_69 (by decide) (fun h => absurd rfl h) (fun _ => ?_)
  refine lv_aload_n hx hb dL_refused_72 rfl (lv_at hl 3 rfl) ?_
  refine lv_iconst (v := 0) hx hb dL_refused_73 (by decide) ?_
  refine lv_bipush (v := 9) hx hb dL_refused_74 (by decide) ?_
  refine lv_iconst (v := 0) hx hb dL_refused_76 (by decide) ?_
  refine lv_bipush (v := 20) hx hb dL_refused_77 (by decide) ?_
  refine lv_iconst (v := 0) hx hb dL_refused_79 (by decide) ?_
  refine lc_k (v := (-1001 : Int32)) (a1 := a9) (cells' := 2634) (slots' := 69660) (fc_runSW (n := 6) (As := [.ref (ad 0), .int (0 : Int32), .int (9 : Int32), .int (0 : Int32), .int (20 : Int32), .int (0 : Int32)]) (rest := []) (isC := iL) (maxL := 7) ⟨hx, hb, hml, hown, hts⟩ ((LCi.at (LC_step hlst ad a9 (0 : Int32) (9 : Int32) (0 : Int32) (20 : Int32) (0 : Int32)) (rf_step_3 a9 h1)) σ hR H.size) gL_refused_L_step rfl (by decide +kernel) rfl ⟨Nat.le_of_ble_eq_true rfl, Nat.le_of_ble_eq_true rfl⟩ ⟨Nat.le_of_ble_eq_true rfl, Nat.le_of_ble_eq_true rfl⟩ hE hP hD hS hA (iL_C k ad σ ([] : va_W)) iL_nd hl rfl (Nat.le_of_ble_eq_true rfl) dL_refused_80) hP hD hS hA rfl rfl (fun σ H locs hR hP hD hS => ?_)
  refine lv_sipush (v := -1001) hx hb dL_refused_83 (by decide) ?_
  refine lv_icmp_ne (tgt := 313) hx hb dL_refused_86 (by decide) (fun h => absurd rfl h) (fun _ => ?_)
  refine lv_aload_n hx hb dL_refused_89 rfl (lv_at hl 3 rfl) ?_
  refine lv_iconst (v := 0) hx hb dL_refused_90 (by decide) ?_
  refine lv_bipush (v := 9) hx hb dL_refused_91 (by decide) ?_
  refine lv_iconst (v := 0) hx hb dL_refused_93 (by decide) ?_
  refine lv_iconst (v := -1) hx hb dL_refused_94 (by decide) ?_
  refine lv_iconst (v := 0) hx hb dL_refused_95 (by decide) ?_
  refine lc_k (v := (-1001 : Int32)) (a1 := a9) (cells' := 2635) (slots' := 69666) (fc_runSW (n := 6) (As := [.ref (ad 0), .int (0 : Int32), .int (9 : Int32), .int (0 : Int32), .int (-1 : Int32), .int (0 : Int32)]) (rest := []) (isC := iL) (maxL := 7) ⟨hx, hb, hml, hown, hts⟩ ((LCi.at (LC_step hlst ad a9 (0 : Int32) (9 : Int32) (0 : Int32) (-1 : Int32) (0 : Int32)) (rf_step_4 a9 h1)) σ hR H.size) gL_refused_L_step rfl (by decide +kernel) rfl ⟨Nat.le_of_ble_eq_true rfl, Nat.le_of_ble_eq_true rfl⟩ ⟨Nat.le_of_ble_eq_true rfl, Nat.le_of_ble_eq_true rfl⟩ hE hP hD hS hA (iL_C k ad σ ([] : va_W)) iL_nd hl rfl (Nat.le_of_ble_eq_true rfl) dL_refused_96) hP hD hS hA rfl rfl (fun σ H locs hR hP hD hS => ?_)
  refine lv_sipush (v := -1001) hx hb dL_refused_99 (by decide) ?_
  refine lv_icmp_ne (tgt := 313) hx hb dL_refused_102 (by decide) (fun h => absurd rfl h) (fun _ => ?_)
  refine lv_aload_n hx hb dL_refused_105 rfl (lv_at hl 3 rfl) ?_
  refine lv_iconst (v := 0) hx hb dL_refused_106 (by decide) ?_
  refine lv_iconst (v := 3) hx hb dL_refused_107 (by decide) ?_
  refine lv_iconst (v := 0) hx hb dL_refused_108 (by decide) ?_
  refine lv_iconst (v := 0) hx hb dL_refused_109 (by decide) ?_
  refine lv_iconst (v := 1) hx hb dL_refused_110 (by decide) ?_
  refine lc_k (v := (-1002 : Int32)) (a1 := a9) (cells' := 2636) (slots' := 69672) (fc_runSW (n := 6) (As := [.ref (ad 0), .int (0 : Int32), .int (3 : Int32), .int (0 : Int32), .int (0 : Int32), .int (1 : Int32)]) (rest := []) (isC := iL) (maxL := 7) ⟨hx, hb, hml, hown, hts⟩ ((LCi.at (LC_step hlst ad a9 (0 : Int32) (3 : Int32) (0 : Int32) (0 : Int32) (1 : Int32)) (rf_step_5 a9 h1)) σ hR H.size) gL_refused_L_step rfl (by decide +kernel) rfl ⟨Nat.le_of_ble_eq_true rfl, Nat.le_of_ble_eq_true rfl⟩ ⟨Nat.le_of_ble_eq_true rfl, Nat.le_of_ble_eq_true rfl⟩ hE hP hD hS hA (iL_C k ad σ ([] : va_W)) iL_nd hl rfl (Nat.le_of_ble_eq_true rfl) dL_refused_111) hP hD hS hA rfl rfl (fun σ H locs hR hP hD hS => ?_)
  refine lv_sipush (v := -1002) hx hb dL_refused_114 (by decide) ?_
  refine lv_icmp_ne (tgt := 313) hx hb dL_refused_117 (by decide) (fun h => absurd rfl h) (fun _ => ?_)
  refine lv_aload_n hx hb dL_refused_120 rfl (lv_at hl 3 rfl) ?_
  refine lv_iconst (v := 0) hx hb dL_refused_121 (by decide) ?_
  refine lv_iconst (v := 0) hx hb dL_refused_122 (by decide) ?_
  refine lv_iconst (v := 0) hx hb dL_refused_123 (by decide) ?_
  refine lv_iconst (v := 0) hx hb dL_refused_124 (by decide) ?_
  refine lv_iconst (v := 2) hx hb dL_refused_125 (by decide) ?_
  refine lc_k (v := (-1002 : Int32)) (a1 := a9) (cells' := 2637) (slots' := 69678) (fc_runSW (n := 6) (As := [.ref (ad 0), .int (0 : Int32), .int (0 : Int32), .int (0 : Int32), .int (0 : Int32), .int (2 : Int32)]) (rest := []) (isC := iL) (maxL := 7) ⟨hx, hb, hml, hown, hts⟩ ((LCi.at (LC_step hlst ad a9 (0 : Int32) (0 : Int32) (0 : Int32) (0 : Int32) (2 : Int32)) (rf_step_6 a9 h1)) σ hR H.size) gL_refused_L_step rfl (by decide +kernel) rfl ⟨Nat.le_of_ble_eq_true rfl, Nat.le_of_ble_eq_true rfl⟩ ⟨Nat.le_of_ble_eq_true rfl, Nat.le_of_ble_eq_true rfl⟩ hE hP hD hS hA (iL_C k ad σ ([] : va_W)) iL_nd hl rfl (Nat.le_of_ble_eq_true rfl) dL_refused_126) hP hD hS hA rfl rfl (fun σ H locs hR hP hD hS => ?_)
  refine lv_sipush (v := -1002) hx hb dL_refused_129 (by decide) ?_
  refine lv_icmp_ne (tgt := 313) hx hb dL_refused_132 (by decide) (fun h => absurd rfl h) (fun _ => ?_)
  refine lv_aload_n hx hb dL_refused_135 rfl (lv_at hl 3 rfl) ?_
  refine lv_iconst (v := 0) hx hb dL_refused_136 (by decide) ?_
  refine lv_iconst (v := 1) hx hb dL_refused_137 (by decide) ?_
  refine lv_iconst (v := 0) hx hb dL_refused_138 (by decide) ?_
  refine lv_iconst (v := 0) hx hb dL_refused_139 (by decide) ?_
  refine lv_iconst (v := 5) hx hb dL_refused_140 (by decide) ?_
  refine lc_k (v := (-1002 : Int32)) (a1 := a9) (cells' := 2638) (slots' := 69684) (fc_runSW (n := 6) (As := [.ref (ad 0), .int (0 : Int32), .int (1 : Int32), .int (0 : Int32), .int (0 : Int32), .int (5 : Int32)]) (rest := []) (isC := iL) (maxL := 7) ⟨hx, hb, hml, hown, hts⟩ ((LCi.at (LC_step hlst ad a9 (0 : Int32) (1 : Int32) (0 : Int32) (0 : Int32) (5 : Int32)) (rf_step_7 a9 h1)) σ hR H.size) gL_refused_L_step rfl (by decide +kernel) rfl ⟨Nat.le_of_ble_eq_true rfl, Nat.le_of_ble_eq_true rfl⟩ ⟨Nat.le_of_ble_eq_true rfl, Nat.le_of_ble_eq_true rfl⟩ hE hP hD hS hA (iL_C k ad σ ([] : va_W)) iL_nd hl rfl (Nat.le_of_ble_eq_true rfl) dL_refused_141) hP hD hS hA rfl rfl (fun σ H locs hR hP hD hS => ?_)
  refine lv_sipush (v := -1002) hx hb dL_refused_144 (by decide) ?_
  refine lv_icmp_ne (tgt := 313) hx hb dL_refused_147 (by decide) (fun h => absurd rfl h) (fun _ => ?_)
  refine lv_aload_n hx hb dL_refused_150 rfl (lv_at hl 3 rfl) ?_
  refine lv_iconst (v := 0) hx hb dL_refused_151 (by decide) ?_
  refine lv_iconst (v := 2) hx hb dL_refused_152 (by decide) ?_
  refine lv_iconst (v := 0) hx hb dL_refused_153 (by decide) ?_
  refine lv_iconst (v := 0) hx hb dL_refused_154 (by decide) ?_
  refine lv_bipush (v := 13) hx hb dL_refused_155 (by decide) ?_
  refine lc_k (v := (-1002 : Int32)) (a1 := a9) (cells' := 2639) (slots' := 69690) (fc_runSW (n := 6) (As := [.ref (ad 0), .int (0 : Int32), .int (2 : Int32), .int (0 : Int32), .int (0 : Int32), .int (13 : Int32)]) (rest := []) (isC := iL) (maxL := 7) ⟨hx, hb, hml, hown, hts⟩ ((LCi.at (LC_step hlst ad a9 (0 : Int32) (2 : Int32) (0 : Int32) (0 : Int32) (13 : Int32)) (rf_step_8 a9 h1)) σ hR H.size) gL_refused_L_step rfl (by decide +kernel) rfl ⟨Nat.le_of_ble_eq_true rfl, Nat.le_of_ble_eq_true rfl⟩ ⟨Nat.le_of_ble_eq_true rfl, Nat.le_of_ble_eq_true rfl⟩ hE hP hD hS hA (iL_C k ad σ ([] : va_W)) iL_nd hl rfl (Nat.le_of_ble_eq_true rfl) dL_refused_157) hP hD hS hA rfl rfl (fun σ H locs hR hP hD hS => ?_)
  refine lv_sipush (v := -1002) hx hb dL_refused_160 (by decide) ?_
  refine lv_icmp_ne (tgt := 313) hx hb dL_refused_163 (by decide) (fun h => absurd rfl h) (fun _ => ?_)
  refine lv_aload_n hx hb dL_refused_166 rfl (lv_at hl 3 rfl) ?_
  refine lv_iconst (v := 0) hx hb dL_refused_167 (by decide) ?_
  refine lv_iconst (v := 2) hx hb dL_refused_168 (by decide) ?_
  refine lv_iconst (v := 0) hx hb dL_refused_169 (by decide) ?_
  refine lv_iconst (v := 0) hx hb dL_refused_170 (by decide) ?_
  refine lv_iconst (v := 0) hx hb dL_refused_171 (by decide) ?_
  refine lc_k (v := (-1002 : Int32)) (a1 := a9) (cells' := 2640) (slots' := 69696) (fc_runSW (n := 6) (As := [.ref (ad 0), .int (0 : Int32), .int (2 : Int32), .int (0 : Int32), .int (0 : Int32), .int (0 : Int32)]) (rest := []) (isC := iL) (maxL := 7) ⟨hx, hb, hml, hown, hts⟩ ((LCi.at (LC_step hlst ad a9 (0 : Int32) (2 : Int32) (0 : Int32) (0 : Int32) (0 : Int32)) (rf_step_9 a9 h1)) σ hR H.size) gL_refused_L_step rfl (by decide +kernel) rfl ⟨Nat.le_of_ble_eq_true rfl, Nat.le_of_ble_eq_true rfl⟩ ⟨Nat.le_of_ble_eq_true rfl, Nat.le_of_ble_eq_true rfl⟩ hE hP hD hS hA (iL_C k ad σ ([] : va_W)) iL_nd hl rfl (Nat.le_of_ble_eq_true rfl) dL_refused_172) hP hD hS hA rfl rfl (fun σ H locs hR hP hD hS => ?_)
  refine lv_sipush (v := -1002) hx hb dL_refused_175 (by decide) ?_
  refine lv_icmp_ne (tgt := 313) hx hb dL_refused_178 (by decide) (fun h => absurd rfl h) (fun _ => ?_)
  refine lv_aload_n hx hb dL_refused_181 rfl (lv_at hl 3 rfl) ?_
  refine lv_iload_n hx hb dL_refused_182 rfl (lv_at hl 1 rfl) ?_
  refine lc_k (v := (-1001 : Int32)) (a1 := a9) (cells' := 2641) (slots' := 69702) (fc_runSW (n := 2) (As := [.ref (ad 0), .int (4 : Int32)]) (rest := []) (isC := iL) (maxL := 3) ⟨hx, hb, hml, hown, hts⟩ ((LCi.at (LC_start hlst ad a9 (4 : Int32)) (rf_start_hi a9 h1)) σ hR H.size) gL_refused_L_start rfl (by decide +kernel) rfl ⟨Nat.le_of_ble_eq_true rfl, Nat.le_of_ble_eq_true rfl⟩ ⟨Nat.le_of_ble_eq_true rfl, Nat.le_of_ble_eq_true rfl⟩ hE hP hD hS hA (iL_C k ad σ ([] : va_W)) iL_nd hl rfl (Nat.le_of_ble_eq_true rfl) dL_refused_183) hP hD hS hA rfl rfl (fun σ H locs hR hP hD hS => ?_)
  refine lv_sipush (v := -1001) hx hb dL_refused_186 (by decide) ?_
  refine lv_icmp_ne (tgt := 313) hx hb dL_refused_189 (by decide) (fun h => absurd rfl h) (fun _ => ?_)
  refine lv_aload_n hx hb dL_refused_192 rfl (lv_at hl 3 rfl) ?_
  refine lv_iconst (v := -1) hx hb dL_refused_193 (by decide) ?_
  refine lc_k (v := (-1001 : Int32)) (a1 := a9) (cells' := 2642) (slots' := 69708) (fc_runSW (n := 2) (As := [.ref (ad 0), .int (-1 : Int32)]) (rest := []) (isC := iL) (maxL := 3) ⟨hx, hb, hml, hown, hts⟩ ((LCi.at (LC_start hlst ad a9 (-1 : Int32)) (rf_start_m a9)) σ hR H.size) gL_refused_L_start rfl (by decide +kernel) rfl ⟨Nat.le_of_ble_eq_true rfl, Nat.le_of_ble_eq_true rfl⟩ ⟨Nat.le_of_ble_eq_true rfl, Nat.le_of_ble_eq_true rfl⟩ hE hP hD hS hA (iL_C k ad σ ([] : va_W)) iL_nd hl rfl (Nat.le_of_ble_eq_true rfl) dL_refused_194) hP hD hS hA rfl rfl (fun σ H locs hR hP hD hS => ?_)
  refine lv_sipush (v := -1001) hx hb dL_refused_197 (by decide) ?_
  refine lv_icmp_ne (tgt := 313) hx hb dL_refused_200 (by decide) (fun h => absurd rfl h) (fun _ => ?_)
  refine lv_aload_n hx hb dL_refused_203 rfl (lv_at hl 3 rfl) ?_
  refine lv_iload_n hx hb dL_refused_204 rfl (lv_at hl 1 rfl) ?_
  refine lc_k (v := (-1001 : Int32)) (a1 := a9) (cells' := 2643) (slots' := 69714) (fc_runSW (n := 2) (As := [.ref (ad 0), .int (4 : Int32)]) (rest := []) (isC := iL) (maxL := 3) ⟨hx, hb, hml, hown, hts⟩ ((LCi.at (LC_back hlst ad a9 (4 : Int32)) (rf_back_hi a9 h1)) σ hR H.size) gL_refused_L_back rfl (by decide +kernel) rfl ⟨Nat.le_of_ble_eq_true rfl, Nat.le_of_ble_eq_true rfl⟩ ⟨Nat.le_of_ble_eq_true rfl, Nat.le_of_ble_eq_true rfl⟩ hE hP hD hS hA (iL_C k ad σ ([] : va_W)) iL_nd hl rfl (Nat.le_of_ble_eq_true rfl) dL_refused_205) hP hD hS hA rfl rfl (fun σ H locs hR hP hD hS => ?_)
  refine lv_sipush (v := -1001) hx hb dL_refused_208 (by decide) ?_
  refine lv_icmp_ne (tgt := 313) hx hb dL_refused_211 (by decide) (fun h => absurd rfl h) (fun _ => ?_)
  refine lv_aload_n hx hb dL_refused_214 rfl (lv_at hl 3 rfl) ?_
  refine lv_iconst (v := 5) hx hb dL_refused_215 (by decide) ?_
  refine lv_iconst (v := 1) hx hb dL_refused_216 (by decide) ?_
  refine lc_k (v := (-1001 : Int32)) (a1 := a9) (cells' := 2644) (slots' := 69720) (fc_runSW (n := 3) (As := [.ref (ad 0), .int (5 : Int32), .int (1 : Int32)]) (rest := []) (isC := iL) (maxL := 4) ⟨hx, hb, hml, hown, hts⟩ ((LCi.at (LC_shut hlst ad a9 (5 : Int32) (1 : Int32)) (rf_shut_hi a9)) σ hR H.size) gL_refused_L_shut rfl (by decide +kernel) rfl ⟨Nat.le_of_ble_eq_true rfl, Nat.le_of_ble_eq_true rfl⟩ ⟨Nat.le_of_ble_eq_true rfl, Nat.le_of_ble_eq_true rfl⟩ hE hP hD hS hA (iL_C k ad σ ([] : va_W)) iL_nd hl rfl (Nat.le_of_ble_eq_true rfl) dL_refused_217) hP hD hS hA rfl rfl (fun σ H locs hR hP hD hS => ?_)
  refine lv_sipush (v := -1001) hx hb dL_refused_220 (by decide) ?_
  refine lv_icmp_ne (tgt := 313) hx hb dL_refused_223 (by decide) (fun h => absurd rfl h) (fun _ => ?_)
  refine lv_aload_n hx hb dL_refused_226 rfl (lv_at hl 3 rfl) ?_
  refine lv_iconst (v := -1) hx hb dL_refused_227 (by decide) ?_
  refine lv_iconst (v := 0) hx hb dL_refused_228 (by decide) ?_
  refine lc_k (v := (-1001 : Int32)) (a1 := a9) (cells' := 2645) (slots' := 69726) (fc_runSW (n := 3) (As := [.ref (ad 0), .int (-1 : Int32), .int (0 : Int32)]) (rest := []) (isC := iL) (maxL := 4) ⟨hx, hb, hml, hown, hts⟩ ((LCi.at (LC_shut hlst ad a9 (-1 : Int32) (0 : Int32)) (rf_shut_m a9)) σ hR H.size) gL_refused_L_shut rfl (by decide +kernel) rfl ⟨Nat.le_of_ble_eq_true rfl, Nat.le_of_ble_eq_true rfl⟩ ⟨Nat.le_of_ble_eq_true rfl, Nat.le_of_ble_eq_true rfl⟩ hE hP hD hS hA (iL_C k ad σ ([] : va_W)) iL_nd hl rfl (Nat.le_of_ble_eq_true rfl) dL_refused_229) hP hD hS hA rfl rfl (fun σ H locs hR hP hD hS => ?_)
  refine lv_sipush (v := -1001) hx hb dL_refused_232 (by decide) ?_
  refine lv_icmp_ne (tgt := 313) hx hb dL_refused_235 (by decide) (fun h => absurd rfl h) (fun _ => ?_)
  refine lv_aload_n hx hb dL_refused_238 rfl (lv_at hl 3 rfl) ?_
  refine lv_iconst (v := 5) hx hb dL_refused_239 (by decide) ?_
  refine lv_bipush (v := 9) hx hb dL_refused_240 (by decide) ?_
  refine lc_k (v := (-1001 : Int32)) (a1 := a9) (cells' := 2647) (slots' := 69738) (fc_runSW (n := 3) (As := [.ref (ad 0), .int (5 : Int32), .int (9 : Int32)]) (rest := []) (isC := iL) (maxL := 4) ⟨hx, hb, hml, hown, hts⟩ ((LCi.at (LC_dear hlst ad a9 (5 : Int32) (9 : Int32)) (rf_dear_1 a9)) σ hR H.size) gL_refused_L_dear rfl (by decide +kernel) rfl ⟨Nat.le_of_ble_eq_true rfl, Nat.le_of_ble_eq_true rfl⟩ ⟨Nat.le_of_ble_eq_true rfl, Nat.le_of_ble_eq_true rfl⟩ hE hP hD hS hA (iL_C k ad σ ([] : va_W)) iL_nd hl rfl (Nat.le_of_ble_eq_true rfl) dL_refused_242) hP hD hS hA rfl rfl (fun σ H locs hR hP hD hS => ?_)
  refine lv_sipush (v := -1001) hx hb dL_refused_245 (by decide) ?_
  refine lv_icmp_ne (tgt := 313) hx hb dL_refused_248 (by decide) (fun h => absurd rfl h) (fun _ => ?_)
  refine lv_aload_n hx hb dL_refused_251 rfl (lv_at hl 3 rfl) ?_
  refine lv_iconst (v := 0) hx hb dL_refused_252 (by decide) ?_
  refine lv_iconst (v := 0) hx hb dL_refused_253 (by decide) ?_
  refine lc_k (v := (-1002 : Int32)) (a1 := a9) (cells' := 2649) (slots' := 69750) (fc_runSW (n := 3) (As := [.ref (ad 0), .int (0 : Int32), .int (0 : Int32)]) (rest := []) (isC := iL) (maxL := 4) ⟨hx, hb, hml, hown, hts⟩ ((LCi.at (LC_dear hlst ad a9 (0 : Int32) (0 : Int32)) (rf_dear_2 a9)) σ hR H.size) gL_refused_L_dear rfl (by decide +kernel) rfl ⟨Nat.le_of_ble_eq_true rfl, Nat.le_of_ble_eq_true rfl⟩ ⟨Nat.le_of_ble_eq_true rfl, Nat.le_of_ble_eq_true rfl⟩ hE hP hD hS hA (iL_C k ad σ ([] : va_W)) iL_nd hl rfl (Nat.le_of_ble_eq_true rfl) dL_refused_254) hP hD hS hA rfl rfl (fun σ H locs hR hP hD hS => ?_)
  refine lv_sipush (v := -1002) hx hb dL_refused_257 (by decide) ?_
  refine lv_icmp_ne (tgt := 313) hx hb dL_refused_260 (by decide) (fun h => absurd rfl h) (fun _ => ?_)
  refine lv_aload_n hx hb dL_refused_263 rfl (lv_at hl 3 rfl) ?_
  refine lv_iconst (v := 0) hx hb dL_refused_264 (by decide) ?_
  refine lv_bipush (v := 6) hx hb dL_refused_265 (by decide) ?_
  refine lc_k (v := (-1002 : Int32)) (a1 := a9) (cells' := 2651) (slots' := 69762) (fc_runSW (n := 3) (As := [.ref (ad 0), .int (0 : Int32), .int (6 : Int32)]) (rest := []) (isC := iL) (maxL := 4) ⟨hx, hb, hml, hown, hts⟩ ((LCi.at (LC_dear hlst ad a9 (0 : Int32) (6 : Int32)) (rf_dear_3 a9)) σ hR H.size) gL_refused_L_dear rfl (by decide +kernel) rfl ⟨Nat.le_of_ble_eq_true rfl, Nat.le_of_ble_eq_true rfl⟩ ⟨Nat.le_of_ble_eq_true rfl, Nat.le_of_ble_eq_true rfl⟩ hE hP hD hS hA (iL_C k ad σ ([] : va_W)) iL_nd hl rfl (Nat.le_of_ble_eq_true rfl) dL_refused_267) hP hD hS hA rfl rfl (fun σ H locs hR hP hD hS => ?_)
  refine lv_sipush (v := -1002) hx hb dL_refused_270 (by decide) ?_
  refine lv_icmp_ne (tgt := 313) hx hb dL_refused_273 (by decide) (fun h => absurd rfl h) (fun _ => ?_)
  refine lv_aload_n hx hb dL_refused_276 rfl (lv_at hl 3 rfl) ?_
  refine lv_iconst (v := 0) hx hb dL_refused_277 (by decide) ?_
  refine lc_k (v := (-1001 : Int32)) (a1 := a9) (cells' := 2652) (slots' := 69768) (fc_runSW (n := 2) (As := [.ref (ad 0), .int (0 : Int32)]) (rest := []) (isC := iL) (maxL := 3) ⟨hx, hb, hml, hown, hts⟩ ((LCi.at (LC_pass hlst ad a9 (0 : Int32)) (rf_pass_0 a9)) σ hR H.size) gL_refused_L_pass rfl (by decide +kernel) rfl ⟨Nat.le_of_ble_eq_true rfl, Nat.le_of_ble_eq_true rfl⟩ ⟨Nat.le_of_ble_eq_true rfl, Nat.le_of_ble_eq_true rfl⟩ hE hP hD hS hA (iL_C k ad σ ([] : va_W)) iL_nd hl rfl (Nat.le_of_ble_eq_true rfl) dL_refused_278) hP hD hS hA rfl rfl (fun σ H locs hR hP hD hS => ?_)
  refine lv_sipush (v := -1001) hx hb dL_refused_281 (by decide) ?_
  refine lv_icmp_ne (tgt := 313) hx hb dL_refused_284 (by decide) (fun h => absurd rfl h) (fun _ => ?_)
  refine lv_aload_n hx hb dL_refused_287 rfl (lv_at hl 3 rfl) ?_
  refine lv_bipush (v := 41) hx hb dL_refused_288 (by decide) ?_
  refine lc_k (v := (-1001 : Int32)) (a1 := a9) (cells' := 2653) (slots' := 69774) (fc_runSW (n := 2) (As := [.ref (ad 0), .int (41 : Int32)]) (rest := []) (isC := iL) (maxL := 3) ⟨hx, hb, hml, hown, hts⟩ ((LCi.at (LC_pass hlst ad a9 (41 : Int32)) (rf_pass_41 a9)) σ hR H.size) gL_refused_L_pass rfl (by decide +kernel) rfl ⟨Nat.le_of_ble_eq_true rfl, Nat.le_of_ble_eq_true rfl⟩ ⟨Nat.le_of_ble_eq_true rfl, Nat.le_of_ble_eq_true rfl⟩ hE hP hD hS hA (iL_C k ad σ ([] : va_W)) iL_nd hl rfl (Nat.le_of_ble_eq_true rfl) dL_refused_290) hP hD hS hA rfl rfl (fun σ H locs hR hP hD hS => ?_)
  refine lv_sipush (v := -1001) hx hb dL_refused_293 (by decide) ?_
  refine lv_icmp_ne (tgt := 313) hx hb dL_refused_296 (by decide) (fun h => absurd rfl h) (fun _ => ?_)
  refine lv_aload_n hx hb dL_refused_299 rfl (lv_at hl 3 rfl) ?_
  refine lv_iconst (v := 1) hx hb dL_refused_300 (by decide) ?_
  refine lc_k (v := (Q_refusal a9.2.2.2.1 a9.2.2.2.2.1 1)) (a1 := a9) (cells' := 2654) (slots' := 69780) (fc_runSW (n := 2) (As := [.ref (ad 0), .int (1 : Int32)]) (rest := []) (isC := iL) (maxL := 3) ⟨hx, hb, hml, hown, hts⟩ ((LCi.to (LC_refusal hlst ad a9 (1 : Int32)) rfl) σ hR H.size) gL_refused_L_refusal rfl (by decide +kernel) rfl ⟨Nat.le_of_ble_eq_true rfl, Nat.le_of_ble_eq_true rfl⟩ ⟨Nat.le_of_ble_eq_true rfl, Nat.le_of_ble_eq_true rfl⟩ hE hP hD hS hA (iL_C k ad σ ([] : va_W)) iL_nd hl rfl (Nat.le_of_ble_eq_true rfl) dL_refused_301) hP hD hS hA rfl rfl (fun σ H locs hR hP hD hS => ?_)
  refine lv_iload hx hb dL_refused_304 (lv_at hl 0 rfl) ?_
  refine lv_icmp_ne (tgt := 313) hx hb dL_refused_306 (by decide) (fun h => absurd rfl h) (fun _ => ?_)
  refine lv_iconst (v := 1) hx hb dL_refused_309 (by decide) ?_
  refine lv_goto (tgt := 314) hx hb dL_refused_310 (by decide) ?_
  refine lv_istore (lv' := [(5, .int (1 : Int32)), (4, .int (Q_refusal a9.2.2.2.1 a9.2.2.2.2.1 1)), (3, .int (4 : Int32)), (1, .long r), (0, .ref (ad 0))]) hx hb dL_refused_314 hl (by decide) rfl (fun ls hl => ?_)
  refine lv_iload hx hb dL_refused_316 (lv_at hl 0 rfl) ?_
  refine lv_if_eq (tgt := 688) hx hb dL_refused_318 (by decide) (fun h => absurd h (by decide)) (fun _ => ?_)
  refine lv_aload_n hx hb dL_refused_321 rfl (lv_at hl 4 rfl) ?_
  refine lv_iload_n hx hb dL_refused_322 rfl (lv_at hl 2 rfl) ?_
  refine lv_bipush (v := 9) hx hb dL_refused_323 (by decide) ?_
  refine lc_k (v := (-1001 : Int32)) (a1 := a9) (cells' := 2656) (slots' := 69792) (fc_runSW (n := 3) (As := [.ref (ad 0), .int (4 : Int32), .int (9 : Int32)]) (rest := []) (isC := iL) (maxL := 4) ⟨hx, hb, hml, hown, hts⟩ ((LCi.to (LC_tourOf hlst ad a9 (4 : Int32) (9 : Int32)) (rq_tourOf_1 h1)) σ hR H.size) gL_refused_L_tourOf rfl (by decide +kernel) rfl ⟨Nat.le_of_ble_eq_true rfl, Nat.le_of_ble_eq_true rfl⟩ ⟨Nat.le_of_ble_eq_true rfl, Nat.le_of_ble_eq_true rfl⟩ hE hP hD hS hA (iL_C k ad σ ([] : va_W)) iL_nd hl rfl (Nat.le_of_ble_eq_true rfl) dL_refused_325) hP hD hS hA rfl rfl (fun σ H locs hR hP hD hS => ?_)
  refine lv_sipush (v := -1001) hx hb dL_refused_328 (by decide) ?_
  refine lv_icmp_ne (tgt := 688) hx hb dL_refused_331 (by decide) (fun h => absurd rfl h) (fun _ => ?_)
  refine lv_aload_n hx hb dL_refused_334 rfl (lv_at hl 4 rfl) ?_
  refine lv_iconst (v := 0) hx hb dL_refused_335 (by decide) ?_
  refine lv_bipush (v := 9) hx hb dL_refused_336 (by decide) ?_
  refine lc_k (v := (-1002 : Int32)) (a1 := a9) (cells' := 2658) (slots' := 69804) (fc_runSW (n := 3) (As := [.ref (ad 0), .int (0 : Int32), .int (9 : Int32)]) (rest := []) (isC := iL) (maxL := 4) ⟨hx, hb, hml, hown, hts⟩ ((LCi.to (LC_tourOf hlst ad a9 (0 : Int32) (9 : Int32)) (rq_tourOf_2 h1)) σ hR H.size) gL_refused_L_tourOf rfl (by decide +kernel) rfl ⟨Nat.le_of_ble_eq_true rfl, Nat.le_of_ble_eq_true rfl⟩ ⟨Nat.le_of_ble_eq_true rfl, Nat.le_of_ble_eq_true rfl⟩ hE hP hD hS hA (iL_C k ad σ ([] : va_W)) iL_nd hl rfl (Nat.le_of_ble_eq_true rfl) dL_refused_338) hP hD hS hA rfl rfl (fun σ H locs hR hP hD hS => ?_)
  refine lv_sipush (v := -1002) hx hb dL_refused_341 (by decide) ?_
  refine lv_icmp_ne (tgt := 688) hx hb dL_refused_344 (by decide) (fun h => absurd rfl h) (fun _ => ?_)
  refine lv_aload_n hx hb dL_refused_347 rfl (lv_at hl 4 rfl) ?_
  refine lv_iconst (v := 0) hx hb dL_refused_348 (by decide) ?_
  refine lv_iconst (v := -1) hx hb dL_refused_349 (by decide) ?_
  refine lc_k (v := (-1002 : Int32)) (a1 := a9) (cells' := 2660) (slots' := 69816) (fc_runSW (n := 3) (As := [.ref (ad 0), .int (0 : Int32), .int (-1 : Int32)]) (rest := []) (isC := iL) (maxL := 4) ⟨hx, hb, hml, hown, hts⟩ ((LCi.to (LC_tourOf hlst ad a9 (0 : Int32) (-1 : Int32)) (rq_tourOf_3 h1)) σ hR H.size) gL_refused_L_tourOf rfl (by decide +kernel) rfl ⟨Nat.le_of_ble_eq_true rfl, Nat.le_of_ble_eq_true rfl⟩ ⟨Nat.le_of_ble_eq_true rfl, Nat.le_of_ble_eq_true rfl⟩ hE hP hD hS hA (iL_C k ad σ ([] : va_W)) iL_nd hl rfl (Nat.le_of_ble_eq_true rfl) dL_refused_350) hP hD hS hA rfl rfl (fun σ H locs hR hP hD hS => ?_)
  refine lv_sipush (v := -1002) hx hb dL_refused_353 (by decide) ?_
  refine lv_icmp_ne (tgt := 688) hx hb dL_refused_356 (by decide) (fun h => absurd rfl h) (fun _ => ?_)
  refine lv_aload_n hx hb dL_refused_359 rfl (lv_at hl 4 rfl) ?_
  refine lv_iload_n hx hb dL_refused_360 rfl (lv_at hl 2 rfl) ?_
  refine lv_iconst (v := 0) hx hb dL_refused_361 (by decide) ?_
  refine lv_iconst (v := 0) hx hb dL_refused_362 (by decide) ?_
  refine lc_k (v := (-1001 : Int32)) (a1 := a9) (cells' := 2663) (slots' := 69834) (fc_runSW (n := 4) (As := [.ref (ad 0), .int (4 : Int32), .int (0 : Int32), .int (0 : Int32)]) (rest := []) (isC := iL) (maxL := 5) ⟨hx, hb, hml, hown, hts⟩ ((LCi.to (LC_stepOf hlst ad a9 (4 : Int32) (0 : Int32) (0 : Int32)) (rq_stepOf_1 h1)) σ hR H.size) gL_refused_L_stepOf rfl (by decide +kernel) rfl ⟨Nat.le_of_ble_eq_true rfl, Nat.le_of_ble_eq_true rfl⟩ ⟨Nat.le_of_ble_eq_true rfl, Nat.le_of_ble_eq_true rfl⟩ hE hP hD hS hA (iL_C k ad σ ([] : va_W)) iL_nd hl rfl (Nat.le_of_ble_eq_true rfl) dL_refused_363) hP hD hS hA rfl rfl (fun σ H locs hR hP hD hS => ?_)
  refine lv_sipush (v := -1001) hx hb dL_refused_366 (by decide) ?_
  refine lv_icmp_ne (tgt := 688) hx hb dL_refused_369 (by decide) (fun h => absurd rfl h) (fun _ => ?_)
  refine lv_aload_n hx hb dL_refused_372 rfl (lv_at hl 4 rfl) ?_
  refine lv_iconst (v := 0) hx hb dL_refused_373 (by decide) ?_
  refine lv_aload_n hx hb dL_refused_374 rfl (lv_at hl 4 rfl) ?_
  refine lv_iconst (v := 0) hx hb dL_refused_375 (by decide) ?_
  refine lv_iconst (v := 2) hx hb dL_refused_376 (by decide) ?_
  refine lc_k (v := (nI (NZ a9.1 0))) (a1 := a9) (cells' := 2665) (slots' := 69846) (fc_runSW (n := 3) (As := [.ref (ad 0), .int (0 : Int32), .int (2 : Int32)]) (rest := [.int (0 : Int32), .ref (ad 0)]) (isC := iL) (maxL := 4) ⟨hx, hb, hml, hown, hts⟩ ((LCi.to (LC_tourOf hlst ad a9 (0 : Int32) (2 : Int32)) ((Q_tour hB (t := 0) (by omega) (w := 2) (by omega)).trans hz.1)) σ hR H.size) gL_refused_L_tourOf rfl (by decide +kernel) rfl ⟨Nat.le_of_ble_eq_true rfl, Nat.le_of_ble_eq_true rfl⟩ ⟨Nat.le_of_ble_eq_true rfl, Nat.le_of_ble_eq_true rfl⟩ hE hP hD hS hA (iL_C k ad σ ([] : va_W)) iL_nd hl rfl (Nat.le_of_ble_eq_true rfl) dL_refused_377) hP hD hS hA rfl rfl (fun σ H locs hR hP hD hS => ?_)
  refine lv_bipush (v := 9) hx hb dL_refused_380 (by decide) ?_
  refine lc_k (v := (-1001 : Int32)) (a1 := a9) (cells' := 2668) (slots' := 69864) (fc_runSW (n := 4) (As := [.ref (ad 0), .int (0 : Int32), .int (nI (NZ a9.1 0)), .int (9 : Int32)]) (rest := []) (isC := iL) (maxL := 5) ⟨hx, hb, hml, hown, hts⟩ ((LCi.to (LC_stepOf hlst ad a9 (0 : Int32) (nI (NZ a9.1 0)) (9 : Int32)) (rq_stepOf_2 h1 hz.1 hz.2)) σ hR H.size) gL_refused_L_stepOf rfl (by decide +kernel) rfl ⟨Nat.le_of_ble_eq_true rfl, Nat.le_of_ble_eq_true rfl⟩ ⟨Nat.le_of_ble_eq_true rfl, Nat.le_of_ble_eq_true rfl⟩ hE hP hD hS hA (iL_C k ad σ ([] : va_W)) iL_nd hl rfl (Nat.le_of_ble_eq_true rfl) dL_refused_382) hP hD hS hA rfl rfl (fun σ H locs hR hP hD hS => ?_)
  refine lv_sipush (v := -1001) hx hb dL_refused_385 (by decide) ?_
  refine lv_icmp_ne (tgt := 688) hx hb dL_refused_388 (by decide) (fun h => absurd rfl h) (fun _ => ?_)
  refine lv_aload_n hx hb dL_refused_391 rfl (lv_at hl 4 rfl) ?_
  refine lv_iconst (v := 0) hx hb dL_refused_392 (by decide) ?_
  refine lv_iconst (v := 0) hx hb dL_refused_393 (by decide) ?_
  refine lv_iconst (v := 5) hx hb dL_refused_394 (by decide) ?_
  refine lc_k (v := (-1002 : Int32)) (a1 := a9) (cells' := 2671) (slots' := 69882) (fc_runSW (n := 4) (As := [.ref (ad 0), .int (0 : Int32), .int (0 : Int32), .int (5 : Int32)]) (rest := []) (isC := iL) (maxL := 5) ⟨hx, hb, hml, hown, hts⟩ ((LCi.to (LC_stepOf hlst ad a9 (0 : Int32) (0 : Int32) (5 : Int32)) (rq_stepOf_3 h1 hz.1 hz0 hz.2)) σ hR H.size) gL_refused_L_stepOf rfl (by decide +kernel) rfl ⟨Nat.le_of_ble_eq_true rfl, Nat.le_of_ble_eq_true rfl⟩ ⟨Nat.le_of_ble_eq_true rfl, Nat.le_of_ble_eq_true rfl⟩ hE hP hD hS hA (iL_C k ad σ ([] : va_W)) iL_nd hl rfl (Nat.le_of_ble_eq_true rfl) dL_refused_395) hP hD hS hA rfl rfl (fun σ H locs hR hP hD hS => ?_)
  refine lv_sipush (v := -1002) hx hb dL_refused_398 (by decide) ?_
  refine lv_icmp_ne (tgt := 688) hx hb dL_refused_401 (by decide) (fun h => absurd rfl h) (fun _ => ?_)
  refine lv_aload_n hx hb dL_refused_404 rfl (lv_at hl 4 rfl) ?_
  refine lv_iconst (v := 0) hx hb dL_refused_405 (by decide) ?_
  refine lv_iconst (v := 0) hx hb dL_refused_406 (by decide) ?_
  refine lv_iconst (v := -1) hx hb dL_refused_407 (by decide) ?_
  refine lc_k (v := (-1002 : Int32)) (a1 := a9) (cells' := 2674) (slots' := 69900) (fc_runSW (n := 4) (As := [.ref (ad 0), .int (0 : Int32), .int (0 : Int32), .int (-1 : Int32)]) (rest := []) (isC := iL) (maxL := 5) ⟨hx, hb, hml, hown, hts⟩ ((LCi.to (LC_stepOf hlst ad a9 (0 : Int32) (0 : Int32) (-1 : Int32)) (rq_stepOf_4 h1 hz.1 hz0 hz.2)) σ hR H.size) gL_refused_L_stepOf rfl (by decide +kernel) rfl ⟨Nat.le_of_ble_eq_true rfl, Nat.le_of_ble_eq_true rfl⟩ ⟨Nat.le_of_ble_eq_true rfl, Nat.le_of_ble_eq_true rfl⟩ hE hP hD hS hA (iL_C k ad σ ([] : va_W)) iL_nd hl rfl (Nat.le_of_ble_eq_true rfl) dL_refused_408) hP hD hS hA rfl rfl (fun σ H locs hR hP hD hS => ?_)
  refine lv_sipush (v := -1002) hx hb dL_refused_411 (by decide) ?_
  refine lv_icmp_ne (tgt := 688) hx hb dL_refused_414 (by decide) (fun h => absurd rfl h) (fun _ => ?_)
  refine lv_aload_n hx hb dL_refused_417 rfl (lv_at hl 4 rfl) ?_
  refine lv_iconst (v := 5) hx hb dL_refused_418 (by decide) ?_
  refine lv_bipush (v := 9) hx hb dL_refused_419 (by decide) ?_
  refine lc_k (v := (-1001 : Int32)) (a1 := a9) (cells' := 2676) (slots' := 69912) (fc_runSW (n := 3) (As := [.ref (ad 0), .int (5 : Int32), .int (9 : Int32)]) (rest := []) (isC := iL) (maxL := 4) ⟨hx, hb, hml, hown, hts⟩ ((LCi.to (LC_townOf hlst ad a9 (5 : Int32) (9 : Int32)) rq_townOf_1) σ hR H.size) gL_refused_L_townOf rfl (by decide +kernel) rfl ⟨Nat.le_of_ble_eq_true rfl, Nat.le_of_ble_eq_true rfl⟩ ⟨Nat.le_of_ble_eq_true rfl, Nat.le_of_ble_eq_true rfl⟩ hE hP hD hS hA (iL_C k ad σ ([] : va_W)) iL_nd hl rfl (Nat.le_of_ble_eq_true rfl) dL_refused_421) hP hD hS hA rfl rfl (fun σ H locs hR hP hD hS => ?_)
  refine lv_sipush (v := -1001) hx hb dL_refused_424 (by decide) ?_
  refine lv_icmp_ne (tgt := 688) hx hb dL_refused_427 (by decide) (fun h => absurd rfl h) (fun _ => ?_)
  refine lv_aload_n hx hb dL_refused_430 rfl (lv_at hl 4 rfl) ?_
  refine lv_iconst (v := 0) hx hb dL_refused_431 (by decide) ?_
  refine lv_iconst (v := 4) hx hb dL_refused_432 (by decide) ?_
  refine lc_k (v := (-1002 : Int32)) (a1 := a9) (cells' := 2678) (slots' := 69924) (fc_runSW (n := 3) (As := [.ref (ad 0), .int (0 : Int32), .int (4 : Int32)]) (rest := []) (isC := iL) (maxL := 4) ⟨hx, hb, hml, hown, hts⟩ ((LCi.to (LC_townOf hlst ad a9 (0 : Int32) (4 : Int32)) rq_townOf_2) σ hR H.size) gL_refused_L_townOf rfl (by decide +kernel) rfl ⟨Nat.le_of_ble_eq_true rfl, Nat.le_of_ble_eq_true rfl⟩ ⟨Nat.le_of_ble_eq_true rfl, Nat.le_of_ble_eq_true rfl⟩ hE hP hD hS hA (iL_C k ad σ ([] : va_W)) iL_nd hl rfl (Nat.le_of_ble_eq_true rfl) dL_refused_433) hP hD hS hA rfl rfl (fun σ H locs hR hP hD hS => ?_)
  refine lv_sipush (v := -1002) hx hb dL_refused_436 (by decide) ?_
  refine lv_icmp_ne (tgt := 688) hx hb dL_refused_439 (by decide) (fun h => absurd rfl h) (fun _ => ?_)
  refine lv_aload_n hx hb dL_refused_442 rfl (lv_at hl 4 rfl) ?_
  refine lv_iconst (v := 0) hx hb dL_refused_443 (by decide) ?_
  refine lv_iconst (v := -1) hx hb dL_refused_444 (by decide) ?_
  refine lc_k (v := (-1002 : Int32)) (a1 := a9) (cells' := 2680) (slots' := 69936) (fc_runSW (n := 3) (As := [.ref (ad 0), .int (0 : Int32), .int (-1 : Int32)]) (rest := []) (isC := iL) (maxL := 4) ⟨hx, hb, hml, hown, hts⟩ ((LCi.to (LC_townOf hlst ad a9 (0 : Int32) (-1 : Int32)) rq_townOf_3) σ hR H.size) gL_refused_L_townOf rfl (by decide +kernel) rfl ⟨Nat.le_of_ble_eq_true rfl, Nat.le_of_ble_eq_true rfl⟩ ⟨Nat.le_of_ble_eq_true rfl, Nat.le_of_ble_eq_true rfl⟩ hE hP hD hS hA (iL_C k ad σ ([] : va_W)) iL_nd hl rfl (Nat.le_of_ble_eq_true rfl) dL_refused_445) hP hD hS hA rfl rfl (fun σ H locs hR hP hD hS => ?_)
  refine lv_sipush (v := -1002) hx hb dL_refused_448 (by decide) ?_
  refine lv_icmp_ne (tgt := 688) hx hb dL_refused_451 (by decide) (fun h => absurd rfl h) (fun _ => ?_)
  refine lv_aload_n hx hb dL_refused_454 rfl (lv_at hl 4 rfl) ?_
  refine lv_iconst (v := 3) hx hb dL_refused_455 (by decide) ?_
  refine lv_iconst (v := 0) hx hb dL_refused_456 (by decide) ?_
  refine lv_iconst (v := 0) hx hb dL_refused_457 (by decide) ?_
  refine lc_k (v := (-1001 : Int32)) (a1 := a9) (cells' := 2683) (slots' := 69954) (fc_runSW (n := 4) (As := [.ref (ad 0), .int (3 : Int32), .int (0 : Int32), .int (0 : Int32)]) (rest := []) (isC := iL) (maxL := 5) ⟨hx, hb, hml, hown, hts⟩ ((LCi.to (LC_left hlst ad a9 (3 : Int32) (0 : Int32) (0 : Int32)) rq_left_1) σ hR H.size) gL_refused_L_left rfl (by decide +kernel) rfl ⟨Nat.le_of_ble_eq_true rfl, Nat.le_of_ble_eq_true rfl⟩ ⟨Nat.le_of_ble_eq_true rfl, Nat.le_of_ble_eq_true rfl⟩ hE hP hD hS hA (iL_C k ad σ ([] : va_W)) iL_nd hl rfl (Nat.le_of_ble_eq_true rfl) dL_refused_458) hP hD hS hA rfl rfl (fun σ H locs hR hP hD hS => ?_)
  refine lv_sipush (v := -1001) hx hb dL_refused_461 (by decide) ?_
  refine lv_icmp_ne (tgt := 688) hx hb dL_refused_464 (by decide) (fun h => absurd rfl h) (fun _ => ?_)
  refine lv_aload_n hx hb dL_refused_467 rfl (lv_at hl 4 rfl) ?_
  refine lv_iconst (v := 0) hx hb dL_refused_468 (by decide) ?_
  refine lv_iconst (v := -1) hx hb dL_refused_469 (by decide) ?_
  refine lv_iconst (v := 0) hx hb dL_refused_470 (by decide) ?_
  refine lc_k (v := (-1001 : Int32)) (a1 := a9) (cells' := 2686) (slots' := 69972) (fc_runSW (n := 4) (As := [.ref (ad 0), .int (0 : Int32), .int (-1 : Int32), .int (0 : Int32)]) (rest := []) (isC := iL) (maxL := 5) ⟨hx, hb, hml, hown, hts⟩ ((LCi.to (LC_left hlst ad a9 (0 : Int32) (-1 : Int32) (0 : Int32)) rq_left_2) σ hR H.size) gL_refused_L_left rfl (by decide +kernel) rfl ⟨Nat.le_of_ble_eq_true rfl, Nat.le_of_ble_eq_true rfl⟩ ⟨Nat.le_of_ble_eq_true rfl, Nat.le_of_ble_eq_true rfl⟩ hE hP hD hS hA (iL_C k ad σ ([] : va_W)) iL_nd hl rfl (Nat.le_of_ble_eq_true rfl) dL_refused_471) hP hD hS hA rfl rfl (fun σ H locs hR hP hD hS => ?_)
  refine lv_sipush (v := -1001) hx hb dL_refused_474 (by decide) ?_
  refine lv_icmp_ne (tgt := 688) hx hb dL_refused_477 (by decide) (fun h => absurd rfl h) (fun _ => ?_)
  refine lv_aload_n hx hb dL_refused_480 rfl (lv_at hl 4 rfl) ?_
  refine lv_iconst (v := 0) hx hb dL_refused_481 (by decide) ?_
  refine lv_iconst (v := 0) hx hb dL_refused_482 (by decide) ?_
  refine lv_bipush (v := 20) hx hb dL_refused_483 (by decide) ?_
  refine lc_k (v := (-1001 : Int32)) (a1 := a9) (cells' := 2689) (slots' := 69990) (fc_runSW (n := 4) (As := [.ref (ad 0), .int (0 : Int32), .int (0 : Int32), .int (20 : Int32)]) (rest := []) (isC := iL) (maxL := 5) ⟨hx, hb, hml, hown, hts⟩ ((LCi.to (LC_leftAgain hlst ad a9 (0 : Int32) (0 : Int32) (20 : Int32)) rq_leftAgain) σ hR H.size) gL_refused_L_leftAgain rfl (by decide +kernel) rfl ⟨Nat.le_of_ble_eq_true rfl, Nat.le_of_ble_eq_true rfl⟩ ⟨Nat.le_of_ble_eq_true rfl, Nat.le_of_ble_eq_true rfl⟩ hE hP hD hS hA (iL_C k ad σ ([] : va_W)) iL_nd hl rfl (Nat.le_of_ble_eq_true rfl) dL_refused_485) hP hD hS hA rfl rfl (fun σ H locs hR hP hD hS => ?_)
  refine lv_sipush (v := -1001) hx hb dL_refused_488 (by decide) ?_
  refine lv_icmp_ne (tgt := 688) hx hb dL_refused_491 (by decide) (fun h => absurd rfl h) (fun _ => ?_)
  refine lv_aload_n hx hb dL_refused_494 rfl (lv_at hl 4 rfl) ?_
  refine lv_iload_n hx hb dL_refused_495 rfl (lv_at hl 2 rfl) ?_
  refine lc_k (v := (-1001 : Int32)) (a1 := a9) (cells' := 2691) (slots' := 70002) (fc_runSW (n := 2) (As := [.ref (ad 0), .int (4 : Int32)]) (rest := []) (isC := iL) (maxL := 3) ⟨hx, hb, hml, hown, hts⟩ ((LCi.to (LC_faultOf hlst ad a9 (4 : Int32)) (rq_faultOf h1)) σ hR H.size) gL_refused_L_faultOf rfl (by decide +kernel) rfl ⟨Nat.le_of_ble_eq_true rfl, Nat.le_of_ble_eq_true rfl⟩ ⟨Nat.le_of_ble_eq_true rfl, Nat.le_of_ble_eq_true rfl⟩ hE hP hD hS hA (iL_C k ad σ ([] : va_W)) iL_nd hl rfl (Nat.le_of_ble_eq_true rfl) dL_refused_496) hP hD hS hA rfl rfl (fun σ H locs hR hP hD hS => ?_)
  refine lv_sipush (v := -1001) hx hb dL_refused_499 (by decide) ?_
  refine lv_icmp_ne (tgt := 688) hx hb dL_refused_502 (by decide) (fun h => absurd rfl h) (fun _ => ?_)
  refine lv_aload_n hx hb dL_refused_505 rfl (lv_at hl 4 rfl) ?_
  refine lv_iconst (v := -1) hx hb dL_refused_506 (by decide) ?_
  refine lc_k (v := (-1001 : Int32)) (a1 := a9) (cells' := 2693) (slots' := 70014) (fc_runSW (n := 2) (As := [.ref (ad 0), .int (-1 : Int32)]) (rest := []) (isC := iL) (maxL := 3) ⟨hx, hb, hml, hown, hts⟩ ((LCi.to (LC_endsIn hlst ad a9 (-1 : Int32)) rq_endsIn) σ hR H.size) gL_refused_L_endsIn rfl (by decide +kernel) rfl ⟨Nat.le_of_ble_eq_true rfl, Nat.le_of_ble_eq_true rfl⟩ ⟨Nat.le_of_ble_eq_true rfl, Nat.le_of_ble_eq_true rfl⟩ hE hP hD hS hA (iL_C k ad σ ([] : va_W)) iL_nd hl rfl (Nat.le_of_ble_eq_true rfl) dL_refused_507) hP hD hS hA rfl rfl (fun σ H locs hR hP hD hS => ?_)
  refine lv_sipush (v := -1001) hx hb dL_refused_510 (by decide) ?_
  refine lv_icmp_ne (tgt := 688) hx hb dL_refused_513 (by decide) (fun h => absurd rfl h) (fun _ => ?_)
  refine lv_aload_n hx hb dL_refused_516 rfl (lv_at hl 4 rfl) ?_
  refine lv_iload_n hx hb dL_refused_517 rfl (lv_at hl 2 rfl) ?_
  refine lc_k (v := (-1001 : Int32)) (a1 := a9) (cells' := 2694) (slots' := 70020) (fc_runSW (n := 2) (As := [.ref (ad 0), .int (4 : Int32)]) (rest := []) (isC := iL) (maxL := 3) ⟨hx, hb, hml, hown, hts⟩ ((LCi.to (LC_costs hlst ad a9 (4 : Int32)) (rq_costs h1)) σ hR H.size) gL_refused_L_costs rfl (by decide +kernel) rfl ⟨Nat.le_of_ble_eq_true rfl, Nat.le_of_ble_eq_true rfl⟩ ⟨Nat.le_of_ble_eq_true rfl, Nat.le_of_ble_eq_true rfl⟩ hE hP hD hS hA (iL_C k ad σ ([] : va_W)) iL_nd hl rfl (Nat.le_of_ble_eq_true rfl) dL_refused_518) hP hD hS hA rfl rfl (fun σ H locs hR hP hD hS => ?_)
  refine lv_sipush (v := -1001) hx hb dL_refused_521 (by decide) ?_
  refine lv_icmp_ne (tgt := 688) hx hb dL_refused_524 (by decide) (fun h => absurd rfl h) (fun _ => ?_)
  refine lv_aload_n hx hb dL_refused_527 rfl (lv_at hl 4 rfl) ?_
  refine lv_iconst (v := 3) hx hb dL_refused_528 (by decide) ?_
  refine lv_iconst (v := 0) hx hb dL_refused_529 (by decide) ?_
  refine lv_bipush (v := 99) hx hb dL_refused_530 (by decide) ?_
  refine lc_k (v := (-1001 : Int32)) (a1 := a9) (cells' := 2698) (slots' := 70044) (fc_runSW (n := 4) (As := [.ref (ad 0), .int (3 : Int32), .int (0 : Int32), .int (99 : Int32)]) (rest := []) (isC := iL) (maxL := 5) ⟨hx, hb, hml, hown, hts⟩ ((LCi.to (LC_cheapest hlst ad a9 (3 : Int32) (0 : Int32) (99 : Int32)) rq_cheap_1) σ hR H.size) gL_refused_L_cheapest rfl (by decide +kernel) rfl ⟨Nat.le_of_ble_eq_true rfl, Nat.le_of_ble_eq_true rfl⟩ ⟨Nat.le_of_ble_eq_true rfl, Nat.le_of_ble_eq_true rfl⟩ hE hP hD hS hA (iL_C k ad σ ([] : va_W)) iL_nd hl rfl (Nat.le_of_ble_eq_true rfl) dL_refused_532) hP hD hS hA rfl rfl (fun σ H locs hR hP hD hS => ?_)
  refine lv_sipush (v := -1001) hx hb dL_refused_535 (by decide) ?_
  refine lv_icmp_ne (tgt := 688) hx hb dL_refused_538 (by decide) (fun h => absurd rfl h) (fun _ => ?_)
  refine lv_aload_n hx hb dL_refused_541 rfl (lv_at hl 4 rfl) ?_
  refine lv_iconst (v := 0) hx hb dL_refused_542 (by decide) ?_
  refine lv_iconst (v := -1) hx hb dL_refused_543 (by decide) ?_
  refine lv_bipush (v := 99) hx hb dL_refused_544 (by decide) ?_
  refine lc_k (v := (-1001 : Int32)) (a1 := a9) (cells' := 2702) (slots' := 70068) (fc_runSW (n := 4) (As := [.ref (ad 0), .int (0 : Int32), .int (-1 : Int32), .int (99 : Int32)]) (rest := []) (isC := iL) (maxL := 5) ⟨hx, hb, hml, hown, hts⟩ ((LCi.to (LC_cheapest hlst ad a9 (0 : Int32) (-1 : Int32) (99 : Int32)) rq_cheap_2) σ hR H.size) gL_refused_L_cheapest rfl (by decide +kernel) rfl ⟨Nat.le_of_ble_eq_true rfl, Nat.le_of_ble_eq_true rfl⟩ ⟨Nat.le_of_ble_eq_true rfl, Nat.le_of_ble_eq_true rfl⟩ hE hP hD hS hA (iL_C k ad σ ([] : va_W)) iL_nd hl rfl (Nat.le_of_ble_eq_true rfl) dL_refused_546) hP hD hS hA rfl rfl (fun σ H locs hR hP hD hS => ?_)
  refine lv_sipush (v := -1001) hx hb dL_refused_549 (by decide) ?_
  refine lv_icmp_ne (tgt := 688) hx hb dL_refused_552 (by decide) (fun h => absurd rfl h) (fun _ => ?_)
  refine lv_aload_n hx hb dL_refused_555 rfl (lv_at hl 4 rfl) ?_
  refine lv_iconst (v := 0) hx hb dL_refused_556 (by decide) ?_
  refine lv_iconst (v := 0) hx hb dL_refused_557 (by decide) ?_
  refine lv_iconst (v := 0) hx hb dL_refused_558 (by decide) ?_
  refine lc_k (v := (-1002 : Int32)) (a1 := a9) (cells' := 2706) (slots' := 70092) (fc_runSW (n := 4) (As := [.ref (ad 0), .int (0 : Int32), .int (0 : Int32), .int (0 : Int32)]) (rest := []) (isC := iL) (maxL := 5) ⟨hx, hb, hml, hown, hts⟩ ((LCi.to (LC_cheapest hlst ad a9 (0 : Int32) (0 : Int32) (0 : Int32)) rq_cheap_3) σ hR H.size) gL_refused_L_cheapest rfl (by decide +kernel) rfl ⟨Nat.le_of_ble_eq_true rfl, Nat.le_of_ble_eq_true rfl⟩ ⟨Nat.le_of_ble_eq_true rfl, Nat.le_of_ble_eq_true rfl⟩ hE hP hD hS hA (iL_C k ad σ ([] : va_W)) iL_nd hl rfl (Nat.le_of_ble_eq_true rfl) dL_refused_559) hP hD hS hA rfl rfl (fun σ H locs hR hP hD hS => ?_)
  refine lv_sipush (v := -1002) hx hb dL_refused_562 (by decide) ?_
  refine lv_icmp_ne (tgt := 688) hx hb dL_refused_565 (by decide) (fun h => absurd rfl h) (fun _ => ?_)
  refine lv_aload_n hx hb dL_refused_568 rfl (lv_at hl 4 rfl) ?_
  refine lv_iconst (v := 0) hx hb dL_refused_569 (by decide) ?_
  refine lv_iconst (v := 0) hx hb dL_refused_570 (by decide) ?_
  refine lv_bipush (v := 13) hx hb dL_refused_571 (by decide) ?_
  refine lc_k (v := (-1002 : Int32)) (a1 := a9) (cells' := 2710) (slots' := 70116) (fc_runSW (n := 4) (As := [.ref (ad 0), .int (0 : Int32), .int (0 : Int32), .int (13 : Int32)]) (rest := []) (isC := iL) (maxL := 5) ⟨hx, hb, hml, hown, hts⟩ ((LCi.to (LC_cheapest hlst ad a9 (0 : Int32) (0 : Int32) (13 : Int32)) rq_cheap_4) σ hR H.size) gL_refused_L_cheapest rfl (by decide +kernel) rfl ⟨Nat.le_of_ble_eq_true rfl, Nat.le_of_ble_eq_true rfl⟩ ⟨Nat.le_of_ble_eq_true rfl, Nat.le_of_ble_eq_true rfl⟩ hE hP hD hS hA (iL_C k ad σ ([] : va_W)) iL_nd hl rfl (Nat.le_of_ble_eq_true rfl) dL_refused_573) hP hD hS hA rfl rfl (fun σ H locs hR hP hD hS => ?_)
  refine lv_sipush (v := -1002) hx hb dL_refused_576 (by decide) ?_
  refine lv_icmp_ne (tgt := 688) hx hb dL_refused_579 (by decide) (fun h => absurd rfl h) (fun _ => ?_)
  refine lv_aload_n hx hb dL_refused_582 rfl (lv_at hl 4 rfl) ?_
  refine lv_iconst (v := 0) hx hb dL_refused_583 (by decide) ?_
  refine lv_iconst (v := 0) hx hb dL_refused_584 (by decide) ?_
  refine lv_iconst (v := 2) hx hb dL_refused_585 (by decide) ?_
  refine lc_k (v := (-1003 : Int32)) (a1 := a9) (cells' := 2714) (slots' := 70140) (fc_runSW (n := 4) (As := [.ref (ad 0), .int (0 : Int32), .int (0 : Int32), .int (2 : Int32)]) (rest := []) (isC := iL) (maxL := 5) ⟨hx, hb, hml, hown, hts⟩ ((LCi.to (LC_cheapest hlst ad a9 (0 : Int32) (0 : Int32) (2 : Int32)) (rq_cheap_5 hB)) σ hR H.size) gL_refused_L_cheapest rfl (by decide +kernel) rfl ⟨Nat.le_of_ble_eq_true rfl, Nat.le_of_ble_eq_true rfl⟩ ⟨Nat.le_of_ble_eq_true rfl, Nat.le_of_ble_eq_true rfl⟩ hE hP hD hS hA (iL_C k ad σ ([] : va_W)) iL_nd hl rfl (Nat.le_of_ble_eq_true rfl) dL_refused_586) hP hD hS hA rfl rfl (fun σ H locs hR hP hD hS => ?_)
  refine lv_sipush (v := -1003) hx hb dL_refused_589 (by decide) ?_
  refine lv_icmp_ne (tgt := 688) hx hb dL_refused_592 (by decide) (fun h => absurd rfl h) (fun _ => ?_)
  refine lv_aload_n hx hb dL_refused_595 rfl (lv_at hl 4 rfl) ?_
  refine lv_iload_n hx hb dL_refused_596 rfl (lv_at hl 2 rfl) ?_
  refine lc_k (v := (-1001 : Int32)) (a1 := a9) (cells' := 2715) (slots' := 70146) (fc_runSW (n := 2) (As := [.ref (ad 0), .int (4 : Int32)]) (rest := []) (isC := iL) (maxL := 3) ⟨hx, hb, hml, hown, hts⟩ ((LCi.to (LC_ranked hlst ad a9 (4 : Int32)) (rq_ranked_hi h1)) σ hR H.size) gL_refused_L_ranked rfl (by decide +kernel) rfl ⟨Nat.le_of_ble_eq_true rfl, Nat.le_of_ble_eq_true rfl⟩ ⟨Nat.le_of_ble_eq_true rfl, Nat.le_of_ble_eq_true rfl⟩ hE hP hD hS hA (iL_C k ad σ ([] : va_W)) iL_nd hl rfl (Nat.le_of_ble_eq_true rfl) dL_refused_597) hP hD hS hA rfl rfl (fun σ H locs hR hP hD hS => ?_)
  refine lv_sipush (v := -1001) hx hb dL_refused_600 (by decide) ?_
  refine lv_icmp_ne (tgt := 688) hx hb dL_refused_603 (by decide) (fun h => absurd rfl h) (fun _ => ?_)
  refine lv_aload_n hx hb dL_refused_606 rfl (lv_at hl 4 rfl) ?_
  refine lv_iconst (v := -1) hx hb dL_refused_607 (by decide) ?_
  refine lc_k (v := (-1001 : Int32)) (a1 := a9) (cells' := 2716) (slots' := 70152) (fc_runSW (n := 2) (As := [.ref (ad 0), .int (-1 : Int32)]) (rest := []) (isC := iL) (maxL := 3) ⟨hx, hb, hml, hown, hts⟩ ((LCi.to (LC_ranked hlst ad a9 (-1 : Int32)) (rq_ranked_m h1)) σ hR H.size) gL_refused_L_ranked rfl (by decide +kernel) rfl ⟨Nat.le_of_ble_eq_true rfl, Nat.le_of_ble_eq_true rfl⟩ ⟨Nat.le_of_ble_eq_true rfl, Nat.le_of_ble_eq_true rfl⟩ hE hP hD hS hA (iL_C k ad σ ([] : va_W)) iL_nd hl rfl (Nat.le_of_ble_eq_true rfl) dL_refused_608) hP hD hS hA rfl rfl (fun σ H locs hR hP hD hS => ?_)
  refine lv_sipush (v := -1001) hx hb dL_refused_611 (by decide) ?_
  refine lv_icmp_ne (tgt := 688) hx hb dL_refused_614 (by decide) (fun h => absurd rfl h) (fun _ => ?_)
  refine lv_aload_n hx hb dL_refused_617 rfl (lv_at hl 4 rfl) ?_
  refine lv_iload_n hx hb dL_refused_618 rfl (lv_at hl 2 rfl) ?_
  refine lc_k (v := (-1001 : Int32)) (a1 := a9) (cells' := 2783) (slots' := 79530) (fc_runSW (n := 2) (As := [.ref (ad 0), .int (4 : Int32)]) (rest := []) (isC := iL) (maxL := 3) ⟨hx, hb, hml, hown, hts⟩ ((LCi.at (LC_line hlst ad a9 hB 4) (rf_line a9 h1)) σ hR H.size) gL_refused_L_line rfl (by decide +kernel) rfl ⟨Nat.le_of_ble_eq_true rfl, Nat.le_of_ble_eq_true rfl⟩ ⟨Nat.le_of_ble_eq_true rfl, Nat.le_of_ble_eq_true rfl⟩ hE hP hD hS hA (iL_C k ad σ ([] : va_W)) iL_nd hl rfl (Nat.le_of_ble_eq_true rfl) dL_refused_619) hP hD hS hA rfl rfl (fun σ H locs hR hP hD hS => ?_)
  refine lv_sipush (v := -1001) hx hb dL_refused_622 (by decide) ?_
  refine lv_icmp_ne (tgt := 688) hx hb dL_refused_625 (by decide) (fun h => absurd rfl h) (fun _ => ?_)
  refine lv_aload_n hx hb dL_refused_628 rfl (lv_at hl 4 rfl) ?_
  refine lv_iconst (v := -1) hx hb dL_refused_629 (by decide) ?_
  refine lc_k (v := (-1001 : Int32)) (a1 := a9) (cells' := 2784) (slots' := 79536) (fc_runSW (n := 2) (As := [.ref (ad 0), .int (-1 : Int32)]) (rest := []) (isC := iL) (maxL := 3) ⟨hx, hb, hml, hown, hts⟩ ((LCi.to (LC_character hlst ad a9 (-1 : Int32)) rq_char_m) σ hR H.size) gL_refused_L_character rfl (by decide +kernel) rfl ⟨Nat.le_of_ble_eq_true rfl, Nat.le_of_ble_eq_true rfl⟩ ⟨Nat.le_of_ble_eq_true rfl, Nat.le_of_ble_eq_true rfl⟩ hE hP hD hS hA (iL_C k ad σ ([] : va_W)) iL_nd hl rfl (Nat.le_of_ble_eq_true rfl) dL_refused_630) hP hD hS hA rfl rfl (fun σ H locs hR hP hD hS => ?_)
  refine lv_sipush (v := -1001) hx hb dL_refused_633 (by decide) ?_
  refine lv_icmp_ne (tgt := 688) hx hb dL_refused_636 (by decide) (fun h => absurd rfl h) (fun _ => ?_)
  refine lv_aload_n hx hb dL_refused_639 rfl (lv_at hl 4 rfl) ?_
  refine lv_bipush (v := 100) hx hb dL_refused_640 (by decide) ?_
  refine lc_k (v := (-1001 : Int32)) (a1 := a9) (cells' := 2785) (slots' := 79542) (fc_runSW (n := 2) (As := [.ref (ad 0), .int (100 : Int32)]) (rest := []) (isC := iL) (maxL := 3) ⟨hx, hb, hml, hown, hts⟩ ((LCi.to (LC_character hlst ad a9 (100 : Int32)) (rq_char_hi hL9)) σ hR H.size) gL_refused_L_character rfl (by decide +kernel) rfl ⟨Nat.le_of_ble_eq_true rfl, Nat.le_of_ble_eq_true rfl⟩ ⟨Nat.le_of_ble_eq_true rfl, Nat.le_of_ble_eq_true rfl⟩ hE hP hD hS hA (iL_C k ad σ ([] : va_W)) iL_nd hl rfl (Nat.le_of_ble_eq_true rfl) dL_refused_642) hP hD hS hA rfl rfl (fun σ H locs hR hP hD hS => ?_)
  refine lv_sipush (v := -1001) hx hb dL_refused_645 (by decide) ?_
  refine lv_icmp_ne (tgt := 688) hx hb dL_refused_648 (by decide) (fun h => absurd rfl h) (fun _ => ?_)
  refine lv_aload_n hx hb dL_refused_651 rfl (lv_at hl 4 rfl) ?_
  refine lv_bipush (v := 18) hx hb dL_refused_652 (by decide) ?_
  refine lc_k (v := (-1001 : Int32)) (a1 := a9) (cells' := 2786) (slots' := 79548) (fc_runSW (n := 2) (As := [.ref (ad 0), .int (18 : Int32)]) (rest := []) (isC := iL) (maxL := 3) ⟨hx, hb, hml, hown, hts⟩ ((LCi.to (LC_number hlst ad a9 (18 : Int32)) rq_num_hi) σ hR H.size) gL_refused_L_number rfl (by decide +kernel) rfl ⟨Nat.le_of_ble_eq_true rfl, Nat.le_of_ble_eq_true rfl⟩ ⟨Nat.le_of_ble_eq_true rfl, Nat.le_of_ble_eq_true rfl⟩ hE hP hD hS hA (iL_C k ad σ ([] : va_W)) iL_nd hl rfl (Nat.le_of_ble_eq_true rfl) dL_refused_654) hP hD hS hA rfl rfl (fun σ H locs hR hP hD hS => ?_)
  refine lv_sipush (v := -1001) hx hb dL_refused_657 (by decide) ?_
  refine lv_icmp_ne (tgt := 688) hx hb dL_refused_660 (by decide) (fun h => absurd rfl h) (fun _ => ?_)
  refine lv_aload_n hx hb dL_refused_663 rfl (lv_at hl 4 rfl) ?_
  refine lv_iconst (v := -1) hx hb dL_refused_664 (by decide) ?_
  refine lc_k (v := (-1001 : Int32)) (a1 := a9) (cells' := 2787) (slots' := 79554) (fc_runSW (n := 2) (As := [.ref (ad 0), .int (-1 : Int32)]) (rest := []) (isC := iL) (maxL := 3) ⟨hx, hb, hml, hown, hts⟩ ((LCi.to (LC_number hlst ad a9 (-1 : Int32)) rq_num_m) σ hR H.size) gL_refused_L_number rfl (by decide +kernel) rfl ⟨Nat.le_of_ble_eq_true rfl, Nat.le_of_ble_eq_true rfl⟩ ⟨Nat.le_of_ble_eq_true rfl, Nat.le_of_ble_eq_true rfl⟩ hE hP hD hS hA (iL_C k ad σ ([] : va_W)) iL_nd hl rfl (Nat.le_of_ble_eq_true rfl) dL_refused_665) hP hD hS hA rfl rfl (fun σ H locs hR hP hD hS => ?_)
  refine lv_sipush (v := -1001) hx hb dL_refused_668 (by decide) ?_
  refine lv_icmp_ne (tgt := 688) hx hb dL_refused_671 (by decide) (fun h => absurd rfl h) (fun _ => ?_)
  refine lv_aload_n hx hb dL_refused_674 rfl (lv_at hl 4 rfl) ?_
  refine lv_iconst (v := 1) hx hb dL_refused_675 (by decide) ?_
  refine lc_k (v := (Q_refusal a9.2.2.2.1 a9.2.2.2.2.1 1)) (a1 := a9) (cells' := 2788) (slots' := 79560) (fc_runSW (n := 2) (As := [.ref (ad 0), .int (1 : Int32)]) (rest := []) (isC := iL) (maxL := 3) ⟨hx, hb, hml, hown, hts⟩ ((LCi.to (LC_refusal hlst ad a9 (1 : Int32)) rfl) σ hR H.size) gL_refused_L_refusal rfl (by decide +kernel) rfl ⟨Nat.le_of_ble_eq_true rfl, Nat.le_of_ble_eq_true rfl⟩ ⟨Nat.le_of_ble_eq_true rfl, Nat.le_of_ble_eq_true rfl⟩ hE hP hD hS hA (iL_C k ad σ ([] : va_W)) iL_nd hl rfl (Nat.le_of_ble_eq_true rfl) dL_refused_676) hP hD hS hA rfl rfl (fun σ H locs hR hP hD hS => ?_)
  refine lv_iload hx hb dL_refused_679 (lv_at hl 1 rfl) ?_
  refine lv_icmp_ne (tgt := 688) hx hb dL_refused_681 (by decide) (fun h => absurd rfl h) (fun _ => ?_)
  refine lv_iconst (v := 1) hx hb dL_refused_684 (by decide) ?_
  refine lv_goto (tgt := 689) hx hb dL_refused_685 (by decide) ?_
  refine lv_istore (lv' := [(5, .int (1 : Int32)), (4, .int (Q_refusal a9.2.2.2.1 a9.2.2.2.2.1 1)), (3, .int (4 : Int32)), (1, .long r), (0, .ref (ad 0))]) hx hb dL_refused_689 hl (by decide) rfl (fun ls hl => ?_)
  refine lv_iload hx hb dL_refused_691 (lv_at hl 0 rfl) ?_
  refine lv_if_eq (tgt := 795) hx hb dL_refused_693 (by decide) (fun h => absurd h (by decide)) (fun _ => ?_)
  refine lv_aload_n hx hb dL_refused_696 rfl (lv_at hl 4 rfl) ?_
  refine lv_iconst (v := 0) hx hb dL_refused_697 (by decide) ?_
  refine lc_k (v := (-1002 : Int32)) (a1 := (ref a9 2 (a9.1 14))) (cells' := 2789) (slots' := 79566) (fc_runSW (n := 2) (As := [.ref (ad 0), .int (0 : Int32)]) (rest := []) (isC := iL) (maxL := 3) ⟨hx, hb, hml, hown, hts⟩ ((LCi.at (LC_start hlst ad a9 (0 : Int32)) (rr_start h1 hT.1)) σ hR H.size) gL_refused_L_start rfl (by decide +kernel) rfl ⟨Nat.le_of_ble_eq_true rfl, Nat.le_of_ble_eq_true rfl⟩ ⟨Nat.le_of_ble_eq_true rfl, Nat.le_of_ble_eq_true rfl⟩ hE hP hD hS hA (iL_C k ad σ ([] : va_W)) iL_nd hl rfl (Nat.le_of_ble_eq_true rfl) dL_refused_698) hP hD hS hA rfl rfl (fun σ H locs hR hP hD hS => ?_)
  refine lv_sipush (v := -1002) hx hb dL_refused_701 (by decide) ?_
  refine lv_icmp_ne (tgt := 795) hx hb dL_refused_704 (by decide) (fun h => absurd rfl h) (fun _ => ?_)
  refine lv_aload_n hx hb dL_refused_707 rfl (lv_at hl 4 rfl) ?_
  refine lv_iconst (v := 2) hx hb dL_refused_708 (by decide) ?_
  refine lv_aload_n hx hb dL_refused_709 rfl (lv_at hl 4 rfl) ?_
  refine lv_iconst (v := 0) hx hb dL_refused_710 (by decide) ?_
  refine lv_iconst (v := 0) hx hb dL_refused_711 (by decide) ?_
  refine lc_k (v := (a9.1 14)) (a1 := (ref a9 2 (a9.1 14))) (cells' := 2791) (slots' := 79578) (fc_runSW (n := 3) (As := [.ref (ad 0), .int (0 : Int32), .int (0 : Int32)]) (rest := [.int (2 : Int32), .ref (ad 0)]) (isC := iL) (maxL := 4) ⟨hx, hb, hml, hown, hts⟩ ((LCi.to (LC_tourOf hlst ad (ref a9 2 (a9.1 14)) (0 : Int32) (0 : Int32)) (Q_tour hB (t := 0) (by omega) (w := 0) (by omega))) σ hR H.size) gL_refused_L_tourOf rfl (by decide +kernel) rfl ⟨Nat.le_of_ble_eq_true rfl, Nat.le_of_ble_eq_true rfl⟩ ⟨Nat.le_of_ble_eq_true rfl, Nat.le_of_ble_eq_true rfl⟩ hE hP hD hS hA (iL_C k ad σ ([] : va_W)) iL_nd hl rfl (Nat.le_of_ble_eq_true rfl) dL_refused_712) hP hD hS hA rfl rfl (fun σ H locs hR hP hD hS => ?_)
  refine lc_k (v := (1 : Int32)) (a1 := (ref a9 2 (a9.1 14))) (cells' := 2793) (slots' := 79590) (fc_runS (n := 3) (As := [.ref (ad 0), .int (2 : Int32), .int (a9.1 14)]) (rest := []) (isC := iL) (maxL := 3) ⟨hx, hb, hml, hown, hts⟩ ((LCi.to (LC_is hlst ad (ref a9 2 (a9.1 14)) 2 (a9.1 14)) (isQ1 rfl rfl (by decide))) σ hR H.size) gL_refused_L_is rfl (by decide +kernel) rfl ⟨Nat.le_of_ble_eq_true rfl, Nat.le_of_ble_eq_true rfl⟩ ⟨Nat.le_of_ble_eq_true rfl, Nat.le_of_ble_eq_true rfl⟩ hE hP hD hS hA (iL_C k ad σ ([] : va_W)) iL_nd hl rfl (Nat.le_of_ble_eq_true rfl) dL_refused_715) hP hD hS hA rfl rfl (fun σ H locs hR hP hD hS => ?_)
  refine lv_if_eq (tgt := 795) hx hb dL_refused_718 (by decide) (fun h => absurd h (by decide)) (fun _ => ?_)
  refine lv_aload_n hx hb dL_refused_721 rfl (lv_at hl 4 rfl) ?_
  refine lv_iconst (v := 0) hx hb dL_refused_722 (by decide) ?_
  refine lv_iconst (v := 0) hx hb dL_refused_723 (by decide) ?_
  refine lv_iconst (v := 0) hx hb dL_refused_724 (by decide) ?_
  refine lv_iconst (v := 0) hx hb dL_refused_725 (by decide) ?_
  refine lv_iconst (v := 1) hx hb dL_refused_726 (by decide) ?_
  refine lc_k (v := (-1003 : Int32)) (a1 := (ref (ref a9 2 (a9.1 14)) 2 (a9.1 14))) (cells' := 2794) (slots' := 79596) (fc_runSW (n := 6) (As := [.ref (ad 0), .int (0 : Int32), .int (0 : Int32), .int (0 : Int32), .int (0 : Int32), .int (1 : Int32)]) (rest := []) (isC := iL) (maxL := 7) ⟨hx, hb, hml, hown, hts⟩ ((LCi.at (LC_step hlst ad (ref a9 2 (a9.1 14)) (0 : Int32) (0 : Int32) (0 : Int32) (0 : Int32) (1 : Int32)) (rr_step (a := (ref a9 2 (a9.1 14))) h1 hT.1)) σ hR H.size) gL_refused_L_step rfl (by decide +kernel) rfl ⟨Nat.le_of_ble_eq_true rfl, Nat.le_of_ble_eq_true rfl⟩ ⟨Nat.le_of_ble_eq_true rfl, Nat.le_of_ble_eq_true rfl⟩ hE hP hD hS hA (iL_C k ad σ ([] : va_W)) iL_nd hl rfl (Nat.le_of_ble_eq_true rfl) dL_refused_727) hP hD hS hA rfl rfl (fun σ H locs hR hP hD hS => ?_)
  refine lv_sipush (v := -1003) hx hb dL_refused_730 (by decide) ?_
  refine lv_icmp_ne (tgt := 795) hx hb dL_refused_733 (by decide) (fun h => absurd rfl h) (fun _ => ?_)
  refine lv_aload_n hx hb dL_refused_736 rfl (lv_at hl 4 rfl) ?_
  refine lv_iconst (v := 2) hx hb dL_refused_737 (by decide) ?_
  refine lv_aload_n hx hb dL_refused_738 rfl (lv_at hl 4 rfl) ?_
  refine lv_iconst (v := 0) hx hb dL_refused_739 (by decide) ?_
  refine lv_iconst (v := 0) hx hb dL_refused_740 (by decide) ?_
  refine lc_k (v := (a9.1 14)) (a1 := (ref (ref a9 2 (a9.1 14)) 2 (a9.1 14))) (cells' := 2796) (slots' := 79608) (fc_runSW (n := 3) (As := [.ref (ad 0), .int (0 : Int32), .int (0 : Int32)]) (rest := [.int (2 : Int32), .ref (ad 0)]) (isC := iL) (maxL := 4) ⟨hx, hb, hml, hown, hts⟩ ((LCi.to (LC_tourOf hlst ad (ref (ref a9 2 (a9.1 14)) 2 (a9.1 14)) (0 : Int32) (0 : Int32)) (Q_tour hB (t := 0) (by omega) (w := 0) (by omega))) σ hR H.size) gL_refused_L_tourOf rfl (by decide +kernel) rfl ⟨Nat.le_of_ble_eq_true rfl, Nat.le_of_ble_eq_true rfl⟩ ⟨Nat.le_of_ble_eq_true rfl, Nat.le_of_ble_eq_true rfl⟩ hE hP hD hS hA (iL_C k ad σ ([] : va_W)) iL_nd hl rfl (Nat.le_of_ble_eq_true rfl) dL_refused_741) hP hD hS hA rfl rfl (fun σ H locs hR hP hD hS => ?_)
  refine lc_k (v := (1 : Int32)) (a1 := (ref (ref a9 2 (a9.1 14)) 2 (a9.1 14))) (cells' := 2798) (slots' := 79620) (fc_runS (n := 3) (As := [.ref (ad 0), .int (2 : Int32), .int (a9.1 14)]) (rest := []) (isC := iL) (maxL := 3) ⟨hx, hb, hml, hown, hts⟩ ((LCi.to (LC_is hlst ad (ref (ref a9 2 (a9.1 14)) 2 (a9.1 14)) 2 (a9.1 14)) (isQ1 rfl rfl (by decide))) σ hR H.size) gL_refused_L_is rfl (by decide +kernel) rfl ⟨Nat.le_of_ble_eq_true rfl, Nat.le_of_ble_eq_true rfl⟩ ⟨Nat.le_of_ble_eq_true rfl, Nat.le_of_ble_eq_true rfl⟩ hE hP hD hS hA (iL_C k ad σ ([] : va_W)) iL_nd hl rfl (Nat.le_of_ble_eq_true rfl) dL_refused_744) hP hD hS hA rfl rfl (fun σ H locs hR hP hD hS => ?_)
  refine lv_if_eq (tgt := 795) hx hb dL_refused_747 (by decide) (fun h => absurd h (by decide)) (fun _ => ?_)
  refine lv_aload_n hx hb dL_refused_750 rfl (lv_at hl 4 rfl) ?_
  refine lv_iconst (v := 3) hx hb dL_refused_751 (by decide) ?_
  refine lc_k (v := (-1002 : Int32)) (a1 := (ref (ref (ref a9 2 (a9.1 14)) 2 (a9.1 14)) 2 0)) (cells' := 2799) (slots' := 79626) (fc_runSW (n := 2) (As := [.ref (ad 0), .int (3 : Int32)]) (rest := []) (isC := iL) (maxL := 3) ⟨hx, hb, hml, hown, hts⟩ ((LCi.at (LC_back hlst ad (ref (ref a9 2 (a9.1 14)) 2 (a9.1 14)) (3 : Int32)) (rr_back (a := (ref (ref a9 2 (a9.1 14)) 2 (a9.1 14))) h1 h3)) σ hR H.size) gL_refused_L_back rfl (by decide +kernel) rfl ⟨Nat.le_of_ble_eq_true rfl, Nat.le_of_ble_eq_true rfl⟩ ⟨Nat.le_of_ble_eq_true rfl, Nat.le_of_ble_eq_true rfl⟩ hE hP hD hS hA (iL_C k ad σ ([] : va_W)) iL_nd hl rfl (Nat.le_of_ble_eq_true rfl) dL_refused_752) hP hD hS hA rfl rfl (fun σ H locs hR hP hD hS => ?_)
  refine lv_sipush (v := -1002) hx hb dL_refused_755 (by decide) ?_
  refine lv_icmp_ne (tgt := 795) hx hb dL_refused_758 (by decide) (fun h => absurd rfl h) (fun _ => ?_)
  refine lv_aload_n hx hb dL_refused_761 rfl (lv_at hl 4 rfl) ?_
  refine lv_iconst (v := 2) hx hb dL_refused_762 (by decide) ?_
  refine lv_iconst (v := 0) hx hb dL_refused_763 (by decide) ?_
  refine lc_k (v := (1 : Int32)) (a1 := (ref (ref (ref a9 2 (a9.1 14)) 2 (a9.1 14)) 2 0)) (cells' := 2801) (slots' := 79638) (fc_runS (n := 3) (As := [.ref (ad 0), .int (2 : Int32), .int (0 : Int32)]) (rest := []) (isC := iL) (maxL := 3) ⟨hx, hb, hml, hown, hts⟩ ((LCi.to (LC_is hlst ad (ref (ref (ref a9 2 (a9.1 14)) 2 (a9.1 14)) 2 0) 2 0) (isQ1 rfl rfl (by decide))) σ hR H.size) gL_refused_L_is rfl (by decide +kernel) rfl ⟨Nat.le_of_ble_eq_true rfl, Nat.le_of_ble_eq_true rfl⟩ ⟨Nat.le_of_ble_eq_true rfl, Nat.le_of_ble_eq_true rfl⟩ hE hP hD hS hA (iL_C k ad σ ([] : va_W)) iL_nd hl rfl (Nat.le_of_ble_eq_true rfl) dL_refused_764) hP hD hS hA rfl rfl (fun σ H locs hR hP hD hS => ?_)
  refine lv_if_eq (tgt := 795) hx hb dL_refused_767 (by decide) (fun h => absurd h (by decide)) (fun _ => ?_)
  refine lv_aload_n hx hb dL_refused_770 rfl (lv_at hl 4 rfl) ?_
  refine lv_iconst (v := 4) hx hb dL_refused_771 (by decide) ?_
  refine lv_iconst (v := 0) hx hb dL_refused_772 (by decide) ?_
  refine lc_k (v := (-1002 : Int32)) (a1 := (ref (ref (ref (ref a9 2 (a9.1 14)) 2 (a9.1 14)) 2 0) 4 1)) (cells' := 2802) (slots' := 79644) (fc_runSW (n := 3) (As := [.ref (ad 0), .int (4 : Int32), .int (0 : Int32)]) (rest := []) (isC := iL) (maxL := 4) ⟨hx, hb, hml, hown, hts⟩ ((LCi.at (LC_shut hlst ad (ref (ref (ref a9 2 (a9.1 14)) 2 (a9.1 14)) 2 0) (4 : Int32) (0 : Int32)) (rr_shut (a := (ref (ref (ref a9 2 (a9.1 14)) 2 (a9.1 14)) 2 0)) h4)) σ hR H.size) gL_refused_L_shut rfl (by decide +kernel) rfl ⟨Nat.le_of_ble_eq_true rfl, Nat.le_of_ble_eq_true rfl⟩ ⟨Nat.le_of_ble_eq_true rfl, Nat.le_of_ble_eq_true rfl⟩ hE hP hD hS hA (iL_C k ad σ ([] : va_W)) iL_nd hl rfl (Nat.le_of_ble_eq_true rfl) dL_refused_773) hP hD hS hA rfl rfl (fun σ H locs hR hP hD hS => ?_)
  refine lv_sipush (v := -1002) hx hb dL_refused_776 (by decide) ?_
  refine lv_icmp_ne (tgt := 795) hx hb dL_refused_779 (by decide) (fun h => absurd rfl h) (fun _ => ?_)
  refine lv_aload_n hx hb dL_refused_782 rfl (lv_at hl 4 rfl) ?_
  refine lv_iconst (v := 4) hx hb dL_refused_783 (by decide) ?_
  refine lv_iconst (v := 1) hx hb dL_refused_784 (by decide) ?_
  refine lc_k (v := (1 : Int32)) (a1 := (ref (ref (ref (ref a9 2 (a9.1 14)) 2 (a9.1 14)) 2 0) 4 1)) (cells' := 2804) (slots' := 79656) (fc_runS (n := 3) (As := [.ref (ad 0), .int (4 : Int32), .int (1 : Int32)]) (rest := []) (isC := iL) (maxL := 3) ⟨hx, hb, hml, hown, hts⟩ ((LCi.to (LC_is hlst ad (ref (ref (ref (ref a9 2 (a9.1 14)) 2 (a9.1 14)) 2 0) 4 1) 4 1) (isQ1 rfl rfl (by decide))) σ hR H.size) gL_refused_L_is rfl (by decide +kernel) rfl ⟨Nat.le_of_ble_eq_true rfl, Nat.le_of_ble_eq_true rfl⟩ ⟨Nat.le_of_ble_eq_true rfl, Nat.le_of_ble_eq_true rfl⟩ hE hP hD hS hA (iL_C k ad σ ([] : va_W)) iL_nd hl rfl (Nat.le_of_ble_eq_true rfl) dL_refused_785) hP hD hS hA rfl rfl (fun σ H locs hR hP hD hS => ?_)
  refine lv_if_eq (tgt := 795) hx hb dL_refused_788 (by decide) (fun h => absurd h (by decide)) (fun _ => ?_)
  refine lv_iconst (v := 1) hx hb dL_refused_791 (by decide) ?_
  refine lv_goto (tgt := 796) hx hb dL_refused_792 (by decide) ?_
  refine lv_istore (lv' := [(5, .int (1 : Int32)), (4, .int (Q_refusal a9.2.2.2.1 a9.2.2.2.2.1 1)), (3, .int (4 : Int32)), (1, .long r), (0, .ref (ad 0))]) hx hb dL_refused_796 hl (by decide) rfl (fun ls hl => ?_)
  refine lv_iload hx hb dL_refused_798 (lv_at hl 0 rfl) ?_
  refine lv_if_eq (tgt := 887) hx hb dL_refused_800 (by decide) (fun h => absurd h (by decide)) (fun _ => ?_)
  refine lv_aload_n hx hb dL_refused_803 rfl (lv_at hl 4 rfl) ?_
  refine va_ldcS hx hb hown (hE.2.2.1 31 _ rfl).1 dL_refused_804 ?_
  refine lc_k (v := (-1001 : Int32)) (a1 := (rdq (ref (ref (ref (ref a9 2 (a9.1 14)) 2 (a9.1 14)) 2 0) 4 1) 4 1 0)) (cells' := 2865) (slots' := 80022) (fc_runS (n := 2) (As := [.ref (ad 0), .ref (kS k 31)]) (rest := []) (isC := iL) (maxL := 3) ⟨hx, hb, hml, hown, hts⟩ ((LC_readsK hlst ad (ref (ref (ref (ref a9 2 (a9.1 14)) 2 (a9.1 14)) 2 0) 4 1) h0 (j := 31) (by decide) (RDq hlst ad (ref (ref (ref (ref a9 2 (a9.1 14)) 2 (a9.1 14)) 2 0) 4 1))) σ hR H.size) gL_refused_L_reads rfl (by decide +kernel) rfl ⟨Nat.le_of_ble_eq_true rfl, Nat.le_of_ble_eq_true rfl⟩ ⟨Nat.le_of_ble_eq_true rfl, Nat.le_of_ble_eq_true rfl⟩ hE hP hD hS hA (iL_C k ad σ ([] : va_W)) iL_nd hl rfl (Nat.le_of_ble_eq_true rfl) dL_refused_806) hP hD hS hA rfl rfl (fun σ H locs hR hP hD hS => ?_)
  refine lv_sipush (v := -1001) hx hb dL_refused_809 (by decide) ?_
  refine lv_icmp_ne (tgt := 887) hx hb dL_refused_812 (by decide) (fun h => absurd rfl h) (fun _ => ?_)
  refine lv_aload_n hx hb dL_refused_815 rfl (lv_at hl 4 rfl) ?_
  refine lc_k (v := (0 : Int32)) (a1 := (rdq (ref (ref (ref (ref a9 2 (a9.1 14)) 2 (a9.1 14)) 2 0) 4 1) 4 1 0)) (cells' := 2866) (slots' := 80028) (fc_runSW (n := 1) (As := [.ref (ad 0)]) (rest := []) (isC := iL) (maxL := 2) ⟨hx, hb, hml, hown, hts⟩ ((LCi.to (LC_faultPosition hlst ad (rdq (ref (ref (ref (ref a9 2 (a9.1 14)) 2 (a9.1 14)) 2 0) 4 1) 4 1 0)) fp_0) σ hR H.size) gL_refused_L_faultPosition rfl (by decide +kernel) rfl ⟨Nat.le_of_ble_eq_true rfl, Nat.le_of_ble_eq_true rfl⟩ ⟨Nat.le_of_ble_eq_true rfl, Nat.le_of_ble_eq_true rfl⟩ hE hP hD hS hA (iL_C k ad σ ([] : va_W)) iL_nd hl rfl (Nat.le_of_ble_eq_true rfl) dL_refused_816) hP hD hS hA rfl rfl (fun σ H locs hR hP hD hS => ?_)
  refine lv_if_ne (tgt := 887) hx hb dL_refused_819 (by decide) (fun h => absurd rfl h) (fun _ => ?_)
  refine lv_aload_n hx hb dL_refused_822 rfl (lv_at hl 4 rfl) ?_
  refine lv_iconst (v := 4) hx hb dL_refused_823 (by decide) ?_
  refine lv_iconst (v := 1) hx hb dL_refused_824 (by decide) ?_
  refine lc_k (v := (1 : Int32)) (a1 := (rdq (ref (ref (ref (ref a9 2 (a9.1 14)) 2 (a9.1 14)) 2 0) 4 1) 4 1 0)) (cells' := 2868) (slots' := 80040) (fc_runS (n := 3) (As := [.ref (ad 0), .int (4 : Int32), .int (1 : Int32)]) (rest := []) (isC := iL) (maxL := 3) ⟨hx, hb, hml, hown, hts⟩ ((LCi.to (LC_is hlst ad (rdq (ref (ref (ref (ref a9 2 (a9.1 14)) 2 (a9.1 14)) 2 0) 4 1) 4 1 0) 4 1) (isQ1 rfl rfl (by decide))) σ hR H.size) gL_refused_L_is rfl (by decide +kernel) rfl ⟨Nat.le_of_ble_eq_true rfl, Nat.le_of_ble_eq_true rfl⟩ ⟨Nat.le_of_ble_eq_true rfl, Nat.le_of_ble_eq_true rfl⟩ hE hP hD hS hA (iL_C k ad σ ([] : va_W)) iL_nd hl rfl (Nat.le_of_ble_eq_true rfl) dL_refused_825) hP hD hS hA rfl rfl (fun σ H locs hR hP hD hS => ?_)
  refine lv_if_eq (tgt := 887) hx hb dL_refused_828 (by decide) (fun h => absurd h (by decide)) (fun _ => ?_)
  refine lv_aload_n hx hb dL_refused_831 rfl (lv_at hl 4 rfl) ?_
  refine va_ldcS hx hb hown (hE.2.2.1 32 _ rfl).1 dL_refused_832 ?_
  refine lc_k (v := (-1002 : Int32)) (a1 := (rdq (rdq (ref (ref (ref (ref a9 2 (a9.1 14)) 2 (a9.1 14)) 2 0) 4 1) 4 1 0) 20 1 0)) (cells' := 2929) (slots' := 80406) (fc_runS (n := 2) (As := [.ref (ad 0), .ref (kS k 32)]) (rest := []) (isC := iL) (maxL := 3) ⟨hx, hb, hml, hown, hts⟩ ((LC_readsK hlst ad (rdq (ref (ref (ref (ref a9 2 (a9.1 14)) 2 (a9.1 14)) 2 0) 4 1) 4 1 0) rfl (j := 32) (by decide) (RD32 hlst ad (rdq (ref (ref (ref (ref a9 2 (a9.1 14)) 2 (a9.1 14)) 2 0) 4 1) 4 1 0))) σ hR H.size) gL_refused_L_reads rfl (by decide +kernel) rfl ⟨Nat.le_of_ble_eq_true rfl, Nat.le_of_ble_eq_true rfl⟩ ⟨Nat.le_of_ble_eq_true rfl, Nat.le_of_ble_eq_true rfl⟩ hE hP hD hS hA (iL_C k ad σ ([] : va_W)) iL_nd hl rfl (Nat.le_of_ble_eq_true rfl) dL_refused_834) hP hD hS hA rfl rfl (fun σ H locs hR hP hD hS => ?_)
  refine lv_sipush (v := -1002) hx hb dL_refused_837 (by decide) ?_
  refine lv_icmp_ne (tgt := 887) hx hb dL_refused_840 (by decide) (fun h => absurd rfl h) (fun _ => ?_)
  refine lv_aload_n hx hb dL_refused_843 rfl (lv_at hl 4 rfl) ?_
  refine lv_bipush (v := 20) hx hb dL_refused_844 (by decide) ?_
  refine lv_iconst (v := 1) hx hb dL_refused_846 (by decide) ?_
  refine lc_k (v := (1 : Int32)) (a1 := (rdq (rdq (ref (ref (ref (ref a9 2 (a9.1 14)) 2 (a9.1 14)) 2 0) 4 1) 4 1 0) 20 1 0)) (cells' := 2931) (slots' := 80418) (fc_runS (n := 3) (As := [.ref (ad 0), .int (20 : Int32), .int (1 : Int32)]) (rest := []) (isC := iL) (maxL := 3) ⟨hx, hb, hml, hown, hts⟩ ((LCi.to (LC_is hlst ad (rdq (rdq (ref (ref (ref (ref a9 2 (a9.1 14)) 2 (a9.1 14)) 2 0) 4 1) 4 1 0) 20 1 0) 20 1) (isQ1 rfl rfl (by decide))) σ hR H.size) gL_refused_L_is rfl (by decide +kernel) rfl ⟨Nat.le_of_ble_eq_true rfl, Nat.le_of_ble_eq_true rfl⟩ ⟨Nat.le_of_ble_eq_true rfl, Nat.le_of_ble_eq_true rfl⟩ hE hP hD hS hA (iL_C k ad σ ([] : va_W)) iL_nd hl rfl (Nat.le_of_ble_eq_true rfl) dL_refused_847) hP hD hS hA rfl rfl (fun σ H locs hR hP hD hS => ?_)
  refine lv_if_eq (tgt := 887) hx hb dL_refused_850 (by decide) (fun h => absurd h (by decide)) (fun _ => ?_)
  refine lv_aload_n hx hb dL_refused_853 rfl (lv_at hl 4 rfl) ?_
  refine va_ldcS hx hb hown (hE.2.2.1 33 _ rfl).1 dL_refused_854 ?_
  refine lc_k (v := (-1002 : Int32)) (a1 := (rdq (rdq (rdq (ref (ref (ref (ref a9 2 (a9.1 14)) 2 (a9.1 14)) 2 0) 4 1) 4 1 0) 20 1 0) 4 0 0)) (cells' := 2992) (slots' := 80784) (fc_runS (n := 2) (As := [.ref (ad 0), .ref (kS k 33)]) (rest := []) (isC := iL) (maxL := 3) ⟨hx, hb, hml, hown, hts⟩ ((LC_readsK hlst ad (rdq (rdq (ref (ref (ref (ref a9 2 (a9.1 14)) 2 (a9.1 14)) 2 0) 4 1) 4 1 0) 20 1 0) rfl (j := 33) (by decide) (RD33 hlst ad (rdq (rdq (ref (ref (ref (ref a9 2 (a9.1 14)) 2 (a9.1 14)) 2 0) 4 1) 4 1 0) 20 1 0) hB h4)) σ hR H.size) gL_refused_L_reads rfl (by decide +kernel) rfl ⟨Nat.le_of_ble_eq_true rfl, Nat.le_of_ble_eq_true rfl⟩ ⟨Nat.le_of_ble_eq_true rfl, Nat.le_of_ble_eq_true rfl⟩ hE hP hD hS hA (iL_C k ad σ ([] : va_W)) iL_nd hl rfl (Nat.le_of_ble_eq_true rfl) dL_refused_856) hP hD hS hA rfl rfl (fun σ H locs hR hP hD hS => ?_)
  refine lv_sipush (v := -1002) hx hb dL_refused_859 (by decide) ?_
  refine lv_icmp_ne (tgt := 887) hx hb dL_refused_862 (by decide) (fun h => absurd rfl h) (fun _ => ?_)
  refine lv_aload_n hx hb dL_refused_865 rfl (lv_at hl 4 rfl) ?_
  refine lv_iconst (v := 4) hx hb dL_refused_866 (by decide) ?_
  refine lv_iconst (v := 0) hx hb dL_refused_867 (by decide) ?_
  refine lc_k (v := (1 : Int32)) (a1 := (rdq (rdq (rdq (ref (ref (ref (ref a9 2 (a9.1 14)) 2 (a9.1 14)) 2 0) 4 1) 4 1 0) 20 1 0) 4 0 0)) (cells' := 2994) (slots' := 80796) (fc_runS (n := 3) (As := [.ref (ad 0), .int (4 : Int32), .int (0 : Int32)]) (rest := []) (isC := iL) (maxL := 3) ⟨hx, hb, hml, hown, hts⟩ ((LCi.to (LC_is hlst ad (rdq (rdq (rdq (ref (ref (ref (ref a9 2 (a9.1 14)) 2 (a9.1 14)) 2 0) 4 1) 4 1 0) 20 1 0) 4 0 0) 4 0) (isQ1 rfl rfl (by decide))) σ hR H.size) gL_refused_L_is rfl (by decide +kernel) rfl ⟨Nat.le_of_ble_eq_true rfl, Nat.le_of_ble_eq_true rfl⟩ ⟨Nat.le_of_ble_eq_true rfl, Nat.le_of_ble_eq_true rfl⟩ hE hP hD hS hA (iL_C k ad σ ([] : va_W)) iL_nd hl rfl (Nat.le_of_ble_eq_true rfl) dL_refused_868) hP hD hS hA rfl rfl (fun σ H locs hR hP hD hS => ?_)
  refine lv_if_eq (tgt := 887) hx hb dL_refused_871 (by decide) (fun h => absurd h (by decide)) (fun _ => ?_)
  refine lv_aload_n hx hb dL_refused_874 rfl (lv_at hl 4 rfl) ?_
  refine lc_cl (post := fun r a2 => r = ASK (rdq (rdq (rdq (ref (ref (ref (ref a9 2 (a9.1 14)) 2 (a9.1 14)) 2 0) 4 1) 4 1 0) 20 1 0) 4 0 0).1 ∧ ∃ L, (L = (rdq (rdq (rdq (ref (ref (ref (ref a9 2 (a9.1 14)) 2 (a9.1 14)) 2 0) 4 1) 4 1 0) 20 1 0) 4 0 0).2.2.2.2.2.2.2 ∨ L.length ≤ 91) ∧ a2 = withL (rdq (rdq (rdq (ref (ref (ref (ref a9 2 (a9.1 14)) 2 (a9.1 14)) 2 0) 4 1) 4 1 0) 20 1 0) 4 0 0) L) (cells' := 5621) (slots' := 150414) (fc_runS (n := 1) (As := [.ref (ad 0)]) (rest := []) (isC := iL) (maxL := 6) ⟨hx, hb, hml, hown, hts⟩ (LC_asks hlst ad (rdq (rdq (rdq (ref (ref (ref (ref a9 2 (a9.1 14)) 2 (a9.1 14)) 2 0) 4 1) 4 1 0) 20 1 0) 4 0 0) hB σ hR H.size) gL_refused_L_asks rfl (by decide +kernel) rfl ⟨Nat.le_of_ble_eq_true rfl, Nat.le_of_ble_eq_true rfl⟩ ⟨Nat.le_of_ble_eq_true rfl, Nat.le_of_ble_eq_true rfl⟩ hE hP hD hS hA (iL_C k ad σ ([] : va_W)) iL_nd hl rfl (Nat.le_of_ble_eq_true rfl) dL_refused_875) hP hD hS hA rfl rfl (fun r2 σ a8 H locs hp hR hP hD hS => ?_)
  obtain ⟨hr8, L8, hX8, ha8⟩ := hp
  have hrr : r2 = r := by rw [hr8, hr9]; exact congrArg ASK hb1
  refine lv_lload_n hx hb dL_refused_878 rfl (lv_at hl 3 rfl) ?_
  refine W.lcmp hx hb dL_refused_879 ?_
  refine lv_if_ne (tgt := 887) hx hb dL_refused_880 (by decide) (fun h => absurd (by rw [hrr]; exact lg_cmp_self r) h) (fun _ => ?_)
  refine lv_iconst (v := 1) hx hb dL_refused_883 (by decide) ?_
  refine lv_goto (tgt := 888) hx hb dL_refused_884 (by decide) ?_
  have hP : va_P D vwCl (WT k ad σ) H := by rw [← List.append_nil (WT k ad σ)]; exact hP
  have hD : va_D A (WT k ad σ) := by rw [← List.append_nil (WT k ad σ)]; exact hD
  exact fc_iret hx hb hr rfl hlk hS (σ, a8) ⟨⟨rfl, REF_post ha9 ha8 hX hX8 hM.1.2.1⟩, hR⟩ hP hD (by decide) (by decide) dL_refused_888
end TSrefused
