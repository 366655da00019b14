/-! THE LAW'S makes: four tours, three of them under way. -/
section TSmakes
theorem Q_ref1 {r d : Int32} (h : ¬ r = 0) : Q_refusal r d 1 = r := by
  unfold Q_refusal F_X6_refusal F_X2_reason
  rw [if_neg h, if_neg (by decide)]
  exact xc_none _ _
theorem Q_ref0 {r d : Int32} (h : ¬ r = 0) : Q_refusal r d 0 = d := by
  unfold Q_refusal F_X6_refusal F_X2_reason F_X2_detail
  rw [if_neg h, if_pos rfl]
  exact xc_none _ _
abbrev rm_L_makes : Room := { frames := 9, cells := 49, slots := 294, locals := 180 }
set_option maxRecDepth 100000 in
set_option maxHeartbeats 4000000 in
theorem bM_123 {p : Program} {l : Launch} {e : Env} {s : State} {m : MethodId} {args : Array Value} {below : List Frame} {meth : Method} {c : Code} {D : va_G} {k : tyK} {A : Nat → Prop} {Q : State → Prop} (hx : p.tables.exec = Jvm.exec) (hb : c.code = cL_makes) (hml : c.maxLocals = 7) (hts : ∀ w ∈ wsL_makes, w.before args s = true) (hown : s.vm.findClass RL = some m.cls) (hA : ∀ q : Nat, s.heap.size ≤ q → A q) (hE : GE D k A s) (hlst : l.stackTraces = false) (hL : kL k ≤ 1000) (ad : Nat → Nat) {i j kd tw dy mn : Nat} {x : Int32} {a : Abs} (hJ : MJ i j a) (hi : i < 4) (hj : j < 5) (hkd : kd < 3) (htw : tw < 5) (hdy : dy < 20) (hm1 : 1 ≤ mn) (hm2 : mn ≤ most kd) (c0 s0 cK sK : Nat) (hcK : cK ≤ 49) (hsK : sK ≤ 294) (hc : c0 + 2 ≤ cK) (hs : s0 + 12 ≤ sK)
    (kk : ∀ (σ : TSt) (a1 : Abs) (H : Heap) (locs : List Loc) (ls : Array Slot), MJ i (j + 1) a1 → Rep σ a1 → va_P D vwCl (WT k ad σ ++ ([] : va_W)) H → va_D A (WT k ad σ ++ ([] : va_W)) → va_S A s.heap H locs → lv_has ls 7 [(0, .ref (ad 0)), (1, .ref (kB k)), (2, .int (nI i)), (3, .int (nI (j + 1)))] → W p l e rm_L_makes s m args below meth c H locs cK sK Q (F0 m 28 ls []))
    (σ : TSt) (H : Heap) (locs : List Loc) (ls : Array Slot) (hR : Rep σ a) (hP : va_P D vwCl (WT k ad σ ++ ([] : va_W)) H) (hD : va_D A (WT k ad σ ++ ([] : va_W))) (hS : va_S A s.heap H locs) (hl : lv_has ls 7 [(5, .int (nI kd)), (4, .int x), (3, .int (nI j)), (2, .int (nI i)), (0, .ref (ad 0)), (1, .ref (kB k))]) : W p l e rm_L_makes s m args below meth c H locs c0 s0 Q (F0 m 123 ls [.int (nI mn), .int (nI dy), .int (nI tw), .int (nI kd), .int (nI i), .ref (ad 0)]) := by
  rcases mk_step hJ hi hj hkd htw hdy hm1 hm2 with ⟨m1, a1, hm, e, hJ1⟩ | ⟨y, e, hJ1⟩
  · skip
    refine lc_k (v := (nI m1)) (a1 := a1) (cells' := c0 + 1) (slots' := s0 + 6) (fc_runSW (n := 6) (As := [.ref (ad 0), .int (nI i), .int (nI kd), .int (nI tw), .int (nI dy), .int (nI mn)]) (rest := []) (isC := iL) (maxL := 7) ⟨hx, hb, hml, hown, hts⟩ ((LCi.at (LC_step hlst ad a (nI i) (nI kd) (nI tw) (nI dy) (nI mn)) e) σ hR H.size) gL_makes_L_step rfl (by decide +kernel) rfl ⟨Nat.le_of_ble_eq_true rfl, Nat.le_of_ble_eq_true rfl⟩ ⟨by show c0 + 0 + 1 ≤ 49; omega, by show s0 + 0 + 6 ≤ 294; omega⟩ hE hP hD hS hA (iL_C k ad σ ([] : va_W)) iL_nd hl rfl (Nat.le_of_ble_eq_true rfl) dL_makes_123) hP hD hS hA (by show c0 + 0 + 1 = c0 + 1; omega) (by show s0 + 0 + 6 = s0 + 6; omega) (fun σ H locs hR hP hD hS => ?_)
    refine lv_istore (lv' := [(6, .int (nI m1)), (5, .int (nI kd)), (4, .int x), (3, .int (nI j)), (2, .int (nI i)), (0, .ref (ad 0)), (1, .ref (kB k))]) hx hb dL_makes_126 hl (by decide) rfl (fun ls hl => ?_)
    refine lv_iload hx hb dL_makes_128 (lv_at hl 0 rfl) ?_
    refine lv_if_ge (tgt := 152) hx hb dL_makes_130 (by decide) (fun _ => ?_) (fun h => absurd (nI_pos' (by omega)) h)
    refine lv_iinc (v := (nI (j + 1))) (lv' := [(3, .int (nI (j + 1))), (6, .int (nI m1)), (5, .int (nI kd)), (4, .int x), (2, .int (nI i)), (0, .ref (ad 0)), (1, .ref (kB k))]) hx hb dL_makes_152 hl (k := 3) rfl (nI_add _ 1) (by decide) rfl (fun ls hl => ?_)
    refine lv_goto (tgt := 28) hx hb dL_makes_155 (by decide) ?_
    exact W.widen (by omega) (by omega) (kk σ a1 H locs ls hJ1 hR hP hD hS (lv_sub hl [5, 6, 4, 0] rfl))
  · skip
    refine lc_k (v := (-1003 : Int32)) (a1 := (ref a 5 y)) (cells' := c0 + 1) (slots' := s0 + 6) (fc_runSW (n := 6) (As := [.ref (ad 0), .int (nI i), .int (nI kd), .int (nI tw), .int (nI dy), .int (nI mn)]) (rest := []) (isC := iL) (maxL := 7) ⟨hx, hb, hml, hown, hts⟩ ((LCi.at (LC_step hlst ad a (nI i) (nI kd) (nI tw) (nI dy) (nI mn)) e) σ hR H.size) gL_makes_L_step rfl (by decide +kernel) rfl ⟨Nat.le_of_ble_eq_true rfl, Nat.le_of_ble_eq_true rfl⟩ ⟨by show c0 + 0 + 1 ≤ 49; omega, by show s0 + 0 + 6 ≤ 294; omega⟩ hE hP hD hS hA (iL_C k ad σ ([] : va_W)) iL_nd hl rfl (Nat.le_of_ble_eq_true rfl) dL_makes_123) hP hD hS hA (by show c0 + 0 + 1 = c0 + 1; omega) (by show s0 + 0 + 6 = s0 + 6; omega) (fun σ H locs hR hP hD hS => ?_)
    refine lv_istore (lv' := [(6, .int (-1003 : Int32)), (5, .int (nI kd)), (4, .int x), (3, .int (nI j)), (2, .int (nI i)), (0, .ref (ad 0)), (1, .ref (kB k))]) hx hb dL_makes_126 hl (by decide) rfl (fun ls hl => ?_)
    refine lv_iload hx hb dL_makes_128 (lv_at hl 0 rfl) ?_
    refine lv_if_ge (tgt := 152) hx hb dL_makes_130 (by decide) (fun h => absurd h (by decide)) (fun _ => ?_)
    refine lv_iload hx hb dL_makes_133 (lv_at hl 0 rfl) ?_
    refine lv_sipush (v := -1003) hx hb dL_makes_135 (by decide) ?_
    refine lv_icmp_ne (tgt := 150) hx hb dL_makes_138 (by decide) (fun h => absurd rfl h) (fun _ => ?_)
    refine lv_aload_n hx hb dL_makes_141 rfl (lv_at hl 5 rfl) ?_
    refine lv_iconst (v := 1) hx hb dL_makes_142 (by decide) ?_
    refine lc_k (v := (5 : Int32)) (a1 := (ref a 5 y)) (cells' := c0 + 2) (slots' := s0 + 12) (fc_runSW (n := 2) (As := [.ref (ad 0), .int (1 : Int32)]) (rest := []) (isC := iL) (maxL := 3) ⟨hx, hb, hml, hown, hts⟩ ((LCi.to (LC_refusal hlst ad (ref a 5 y) 1) (Q_ref1 (show ¬ (5 : Int32) = 0 by decide))) σ hR H.size) gL_makes_L_refusal rfl (by decide +kernel) rfl ⟨Nat.le_of_ble_eq_true rfl, Nat.le_of_ble_eq_true rfl⟩ ⟨by show c0 + 1 + 1 ≤ 49; omega, by show s0 + 6 + 6 ≤ 294; omega⟩ hE hP hD hS hA (iL_C k ad σ ([] : va_W)) iL_nd hl rfl (Nat.le_of_ble_eq_true rfl) dL_makes_143) hP hD hS hA (by show c0 + 1 + 1 = c0 + 2; omega) (by show s0 + 6 + 6 = s0 + 12; omega) (fun σ H locs hR hP hD hS => ?_)
    refine lv_iconst (v := 5) hx hb dL_makes_146 (by decide) ?_
    refine lv_icmp_eq (tgt := 152) hx hb dL_makes_147 (by decide) (fun _ => ?_) (fun h => absurd rfl h)
    refine lv_iinc (v := (nI (j + 1))) (lv' := [(3, .int (nI (j + 1))), (6, .int (-1003 : Int32)), (5, .int (nI kd)), (4, .int x), (2, .int (nI i)), (0, .ref (ad 0)), (1, .ref (kB k))]) hx hb dL_makes_152 hl (k := 3) rfl (nI_add _ 1) (by decide) rfl (fun ls hl => ?_)
    refine lv_goto (tgt := 28) hx hb dL_makes_155 (by decide) ?_
    exact W.widen (by omega) (by omega) (kk σ (ref a 5 y) H locs ls hJ1 hR hP hD hS (lv_sub hl [5, 6, 4, 0] rfl))
set_option maxRecDepth 100000 in
set_option maxHeartbeats 4000000 in
theorem lpM_28 {p : Program} {l : Launch} {e : Env} {s : State} {m : MethodId} {args : Array Value} {below : List Frame} {meth : Method} {c : Code} {D : va_G} {k : tyK} {A : Nat → Prop} {Q : State → Prop} (hx : p.tables.exec = Jvm.exec) (hb : c.code = cL_makes) (hml : c.maxLocals = 7) (hts : ∀ w ∈ wsL_makes, w.before args s = true) (hown : s.vm.findClass RL = some m.cls) (hA : ∀ q : Nat, s.heap.size ≤ q → A q) (hE : GE D k A s) (hlst : l.stackTraces = false) (hL : kL k ≤ 1000) (ad : Nat → Nat) {i q : Nat} (hi : i < 4) (hq : q < 5) (eq : someN (atN k i >>> ((3 : Int32) &&& 31)) 5 = nI q) (cK sK : Nat) (hcK : cK ≤ 49) (hsK : sK ≤ 294)
    (kk : ∀ (σ : TSt) (a1 : Abs) (H : Heap) (locs : List Loc) (ls : Array Slot), MJ i (1 + q) a1 → Rep σ a1 → va_P D vwCl (WT k ad σ ++ ([] : va_W)) H → va_D A (WT k ad σ ++ ([] : va_W)) → va_S A s.heap H locs → lv_has ls 7 [(0, .ref (ad 0)), (1, .ref (kB k)), (2, .int (nI i)), (3, .int (nI (1 + q)))] → W p l e rm_L_makes s m args below meth c H locs cK sK Q (F0 m 158 ls [])) :
    ∀ (d j : Nat), j + d = 1 + q → ∀ (a : Abs), MJ i j a → ∀ (c0 s0 : Nat), c0 + d * 2 ≤ cK → s0 + d * 12 ≤ sK → ∀ (σ : TSt) (H : Heap) (locs : List Loc) (ls : Array Slot), Rep σ a → va_P D vwCl (WT k ad σ ++ ([] : va_W)) H → va_D A (WT k ad σ ++ ([] : va_W)) → va_S A s.heap H locs → lv_has ls 7 [(0, .ref (ad 0)), (1, .ref (kB k)), (2, .int (nI i)), (3, .int (nI j))] → W p l e rm_L_makes s m args below meth c H locs c0 s0 Q (F0 m 28 ls []) := by
  intro d
  induction d with
  | zero =>
    intro j hj a hJ c0 s0 hc hs σ H locs ls hR hP hD hS hl
    obtain rfl : j = 1 + q := by omega
    rw [Nat.zero_mul, Nat.add_zero] at hc hs
    refine lv_iload_n hx hb dL_makes_28 rfl (lv_at hl 3 rfl) ?_
    refine lv_iconst (v := 1) hx hb dL_makes_29 (by decide) ?_
    refine lv_aload_n hx hb dL_makes_30 rfl (lv_at hl 1 rfl) ?_
    refine lv_iload_n hx hb dL_makes_31 rfl (lv_at hl 2 rfl) ?_
    refine fc_c0 (cells' := c0 + 0) (slots' := s0 + 0) (fc_runS (n := 2) (As := [.ref (kB k), .int (nI i)]) (rest := [.int (1 : Int32), .int (nI (1 + q))]) (isC := []) (maxL := 2) ⟨hx, hb, hml, hown, hts⟩ (c_L_at (k := k) (D := D) (l := l) i (by omega) hL H.size) gL_makes_L_at rfl (by decide +kernel) rfl ⟨Nat.le_of_ble_eq_true rfl, Nat.le_of_ble_eq_true rfl⟩ ⟨by show c0 + 0 + 0 ≤ 49; omega, by show s0 + 0 + 0 ≤ 294; omega⟩ hE hP hD hS hA rfl rfl hl rfl (Nat.le_of_ble_eq_true rfl) dL_makes_32) hP hD hS hA (by show c0 + 0 + 0 = c0 + 0; omega) (by show s0 + 0 + 0 = s0 + 0; omega) (fun H locs hP hD hS => ?_)
    refine lv_iconst (v := 3) hx hb dL_makes_35 (by decide) ?_
    refine lv_ishr hx hb dL_makes_36 ?_
    refine lv_iconst (v := 5) hx hb dL_makes_37 (by decide) ?_
    refine fc_c0 (cells' := c0 + 0) (slots' := s0 + 0) (fc_runS (n := 2) (As := [.int ((atN k i) >>> ((3 : Int32) &&& 31)), .int (5 : Int32)]) (rest := [.int (1 : Int32), .int (nI (1 + q))]) (isC := []) (maxL := 3) ⟨hx, hb, hml, hown, hts⟩ (FCi.to0 (c_L_some (k := k) (D := D) (l := l) (atN k i >>> ((3 : Int32) &&& 31)) 5 (by decide) (by decide)) eq H.size) gL_makes_L_some rfl (by decide +kernel) rfl ⟨Nat.le_of_ble_eq_true rfl, Nat.le_of_ble_eq_true rfl⟩ ⟨by show c0 + 0 + 0 ≤ 49; omega, by show s0 + 0 + 0 ≤ 294; omega⟩ hE hP hD hS hA rfl rfl hl rfl (Nat.le_of_ble_eq_true rfl) dL_makes_38) hP hD hS hA (by show c0 + 0 + 0 = c0 + 0; omega) (by show s0 + 0 + 0 = s0 + 0; omega) (fun H locs hP hD hS => ?_)
    refine lv_iadd hx hb dL_makes_41 ?_
    rw [show (1 : Int32) + nI q = nI (1 + q) from nI_add 1 q]
    refine lv_icmp_ge (tgt := 158) hx hb dL_makes_42 (by decide) (fun _ => ?_) (fun h => absurd (nI_le (Nat.le_refl (1 + q)) (by omega)) h)
    exact W.widen (by omega) (by omega) (kk σ a H locs ls hJ hR hP hD hS (lv_sub hl [0, 1, 2, 3] rfl))
  | succ d ih =>
    intro j hj a hJ c0 s0 hc hs σ H locs ls hR hP hD hS hl
    rw [Nat.succ_mul] at hc hs
    refine lv_iload_n hx hb dL_makes_28 rfl (lv_at hl 3 rfl) ?_
    refine lv_iconst (v := 1) hx hb dL_makes_29 (by decide) ?_
    refine lv_aload_n hx hb dL_makes_30 rfl (lv_at hl 1 rfl) ?_
    refine lv_iload_n hx hb dL_makes_31 rfl (lv_at hl 2 rfl) ?_
    refine fc_c0 (cells' := c0 + 0) (slots' := s0 + 0) (fc_runS (n := 2) (As := [.ref (kB k), .int (nI i)]) (rest := [.int (1 : Int32), .int (nI j)]) (isC := []) (maxL := 2) ⟨hx, hb, hml, hown, hts⟩ (c_L_at (k := k) (D := D) (l := l) i (by omega) hL H.size) gL_makes_L_at rfl (by decide +kernel) rfl ⟨Nat.le_of_ble_eq_true rfl, Nat.le_of_ble_eq_true rfl⟩ ⟨by show c0 + 0 + 0 ≤ 49; omega, by show s0 + 0 + 0 ≤ 294; omega⟩ hE hP hD hS hA rfl rfl hl rfl (Nat.le_of_ble_eq_true rfl) dL_makes_32) hP hD hS hA (by show c0 + 0 + 0 = c0 + 0; omega) (by show s0 + 0 + 0 = s0 + 0; omega) (fun H locs hP hD hS => ?_)
    refine lv_iconst (v := 3) hx hb dL_makes_35 (by decide) ?_
    refine lv_ishr hx hb dL_makes_36 ?_
    refine lv_iconst (v := 5) hx hb dL_makes_37 (by decide) ?_
    refine fc_c0 (cells' := c0 + 0) (slots' := s0 + 0) (fc_runS (n := 2) (As := [.int ((atN k i) >>> ((3 : Int32) &&& 31)), .int (5 : Int32)]) (rest := [.int (1 : Int32), .int (nI j)]) (isC := []) (maxL := 3) ⟨hx, hb, hml, hown, hts⟩ (FCi.to0 (c_L_some (k := k) (D := D) (l := l) (atN k i >>> ((3 : Int32) &&& 31)) 5 (by decide) (by decide)) eq H.size) gL_makes_L_some rfl (by decide +kernel) rfl ⟨Nat.le_of_ble_eq_true rfl, Nat.le_of_ble_eq_true rfl⟩ ⟨by show c0 + 0 + 0 ≤ 49; omega, by show s0 + 0 + 0 ≤ 294; omega⟩ hE hP hD hS hA rfl rfl hl rfl (Nat.le_of_ble_eq_true rfl) dL_makes_38) hP hD hS hA (by show c0 + 0 + 0 = c0 + 0; omega) (by show s0 + 0 + 0 = s0 + 0; omega) (fun H locs hP hD hS => ?_)
    refine lv_iadd hx hb dL_makes_41 ?_
    rw [show (1 : Int32) + nI q = nI (1 + q) from nI_add 1 q]
    refine lv_icmp_ge (tgt := 158) hx hb dL_makes_42 (by decide) (fun h => absurd h (nI_ge (a := j) (b := 1 + q) (by omega) (by omega))) (fun _ => ?_)
    refine lv_aload_n hx hb dL_makes_45 rfl (lv_at hl 1 rfl) ?_
    refine lv_iconst (v := 4) hx hb dL_makes_46 (by decide) ?_
    refine lv_iconst (v := 5) hx hb dL_makes_47 (by decide) ?_
    refine lv_iload_n hx hb dL_makes_48 rfl (lv_at hl 2 rfl) ?_
    refine lv_imul hx hb dL_makes_49 ?_
    refine lv_iadd hx hb dL_makes_50 ?_
    refine lv_iload_n hx hb dL_makes_51 rfl (lv_at hl 3 rfl) ?_
    refine lv_iadd hx hb dL_makes_52 ?_
    rw [mk_ix i j]
    refine fc_c0 (cells' := c0 + 0) (slots' := s0 + 0) (fc_runS (n := 2) (As := [.ref (kB k), .int (nI (4 + 5 * i + j))]) (rest := []) (isC := []) (maxL := 2) ⟨hx, hb, hml, hown, hts⟩ (c_L_at (k := k) (D := D) (l := l) (4 + 5 * i + j) (by omega) hL H.size) gL_makes_L_at rfl (by decide +kernel) rfl ⟨Nat.le_of_ble_eq_true rfl, Nat.le_of_ble_eq_true rfl⟩ ⟨by show c0 + 0 + 0 ≤ 49; omega, by show s0 + 0 + 0 ≤ 294; omega⟩ hE hP hD hS hA rfl rfl hl rfl (Nat.le_of_ble_eq_true rfl) dL_makes_53) hP hD hS hA (by show c0 + 0 + 0 = c0 + 0; omega) (by show s0 + 0 + 0 = s0 + 0; omega) (fun H locs hP hD hS => ?_)
    refine lv_iload_n hx hb dL_makes_56 rfl (lv_at hl 3 rfl) ?_
    refine lv_sipush (v := 7919) hx hb dL_makes_57 (by decide) ?_
    refine lv_imul hx hb dL_makes_60 ?_
    refine lv_ixor hx hb dL_makes_61 ?_
    refine lv_istore (lv' := [(4, .int ((atN k (4 + 5 * i + j)) ^^^ ((nI j) * (7919 : Int32)))), (0, .ref (ad 0)), (1, .ref (kB k)), (2, .int (nI i)), (3, .int (nI j))]) hx hb dL_makes_62 hl (by decide) rfl (fun ls hl => ?_)
    refine lv_iload hx hb dL_makes_64 (lv_at hl 0 rfl) ?_
    refine lv_iconst (v := 3) hx hb dL_makes_66 (by decide) ?_
    generalize ((atN k (4 + 5 * i + j)) ^^^ ((nI j) * (7919 : Int32))) = x9 at hl ⊢
    obtain ⟨kd, hkd, ekd⟩ := some_lt x9 (n := 3) (by decide) (by decide)
    refine fc_c0 (cells' := c0 + 0) (slots' := s0 + 0) (fc_runS (n := 2) (As := [.int x9, .int (3 : Int32)]) (rest := []) (isC := []) (maxL := 3) ⟨hx, hb, hml, hown, hts⟩ (FCi.to0 (c_L_some (k := k) (D := D) (l := l) x9 3 (by decide) (by decide)) ekd H.size) gL_makes_L_some rfl (by decide +kernel) rfl ⟨Nat.le_of_ble_eq_true rfl, Nat.le_of_ble_eq_true rfl⟩ ⟨by show c0 + 0 + 0 ≤ 49; omega, by show s0 + 0 + 0 ≤ 294; omega⟩ hE hP hD hS hA rfl rfl hl rfl (Nat.le_of_ble_eq_true rfl) dL_makes_67) hP hD hS hA (by show c0 + 0 + 0 = c0 + 0; omega) (by show s0 + 0 + 0 = s0 + 0; omega) (fun H locs hP hD hS => ?_)
    refine lv_istore (lv' := [(5, .int (nI kd)), (4, .int x9), (0, .ref (ad 0)), (1, .ref (kB k)), (2, .int (nI i)), (3, .int (nI j))]) hx hb dL_makes_70 hl (by decide) rfl (fun ls hl => ?_)
    refine lv_aload_n hx hb dL_makes_72 rfl (lv_at hl 2 rfl) ?_
    refine lv_iload_n hx hb dL_makes_73 rfl (lv_at hl 4 rfl) ?_
    refine lv_iload hx hb dL_makes_74 (lv_at hl 0 rfl) ?_
    refine lv_iload hx hb dL_makes_76 (lv_at hl 1 rfl) ?_
    refine lv_iconst (v := 2) hx hb dL_makes_78 (by decide) ?_
    refine lv_ishr hx hb dL_makes_79 ?_
    refine lv_iconst (v := 3) hx hb dL_makes_80 (by decide) ?_
    obtain ⟨tw, htw, etw⟩ := some_lt (x9 >>> ((2 : Int32) &&& 31)) (n := 3) (by decide) (by decide)
    refine fc_c0 (cells' := c0 + 0) (slots' := s0 + 0) (fc_runS (n := 2) (As := [.int (x9 >>> ((2 : Int32) &&& 31)), .int (3 : Int32)]) (rest := [.int (nI kd), .int (nI i), .ref (ad 0)]) (isC := []) (maxL := 3) ⟨hx, hb, hml, hown, hts⟩ (FCi.to0 (c_L_some (k := k) (D := D) (l := l) (x9 >>> ((2 : Int32) &&& 31)) 3 (by decide) (by decide)) etw H.size) gL_makes_L_some rfl (by decide +kernel) rfl ⟨Nat.le_of_ble_eq_true rfl, Nat.le_of_ble_eq_true rfl⟩ ⟨by show c0 + 0 + 0 ≤ 49; omega, by show s0 + 0 + 0 ≤ 294; omega⟩ hE hP hD hS hA rfl rfl hl rfl (Nat.le_of_ble_eq_true rfl) dL_makes_81) hP hD hS hA (by show c0 + 0 + 0 = c0 + 0; omega) (by show s0 + 0 + 0 = s0 + 0; omega) (fun H locs hP hD hS => ?_)
    refine lv_iload hx hb dL_makes_84 (lv_at hl 1 rfl) ?_
    refine lv_iconst (v := 4) hx hb dL_makes_86 (by decide) ?_
    refine lv_ishr hx hb dL_makes_87 ?_
    refine lv_iconst (v := 4) hx hb dL_makes_88 (by decide) ?_
    obtain ⟨dy, hdy, edy⟩ := some_lt (x9 >>> ((4 : Int32) &&& 31)) (n := 4) (by decide) (by decide)
    refine fc_c0 (cells' := c0 + 0) (slots' := s0 + 0) (fc_runS (n := 2) (As := [.int (x9 >>> ((4 : Int32) &&& 31)), .int (4 : Int32)]) (rest := [.int (nI tw), .int (nI kd), .int (nI i), .ref (ad 0)]) (isC := []) (maxL := 3) ⟨hx, hb, hml, hown, hts⟩ (FCi.to0 (c_L_some (k := k) (D := D) (l := l) (x9 >>> ((4 : Int32) &&& 31)) 4 (by decide) (by decide)) edy H.size) gL_makes_L_some rfl (by decide +kernel) rfl ⟨Nat.le_of_ble_eq_true rfl, Nat.le_of_ble_eq_true rfl⟩ ⟨by show c0 + 0 + 0 ≤ 49; omega, by show s0 + 0 + 0 ≤ 294; omega⟩ hE hP hD hS hA rfl rfl hl rfl (Nat.le_of_ble_eq_true rfl) dL_makes_89) hP hD hS hA (by show c0 + 0 + 0 = c0 + 0; omega) (by show s0 + 0 + 0 = s0 + 0; omega) (fun H locs hP hD hS => ?_)
    refine lv_iload hx hb dL_makes_92 (lv_at hl 0 rfl) ?_
    refine lv_if_ne (tgt := 101) hx hb dL_makes_94 (by decide) (fun h9 => ?_) (fun h9 => ?_)
    · skip
      refine lv_iconst (v := 1) hx hb dL_makes_101 (by decide) ?_
      refine lv_iload hx hb dL_makes_102 (lv_at hl 1 rfl) ?_
      refine lv_bipush (v := 6) hx hb dL_makes_104 (by decide) ?_
      refine lv_ishr hx hb dL_makes_106 ?_
      refine lv_iload hx hb dL_makes_107 (lv_at hl 0 rfl) ?_
      refine lv_iconst (v := 1) hx hb dL_makes_109 (by decide) ?_
      refine lv_icmp_ne (tgt := 117) hx hb dL_makes_110 (by decide) (fun h8 => ?_) (fun h8 => ?_)
      · skip
        refine lv_bipush (v := 12) hx hb dL_makes_117 (by decide) ?_
        obtain ⟨q2, hq2, eq2⟩ := some_lt (x9 >>> ((6 : Int32) &&& 31)) (n := 12) (by decide) (by decide)
        refine fc_c0 (cells' := c0 + 0) (slots' := s0 + 0) (fc_runS (n := 2) (As := [.int (x9 >>> ((6 : Int32) &&& 31)), .int (12 : Int32)]) (rest := [.int (1 : Int32), .int (nI dy), .int (nI tw), .int (nI kd), .int (nI i), .ref (ad 0)]) (isC := []) (maxL := 3) ⟨hx, hb, hml, hown, hts⟩ (FCi.to0 (c_L_some (k := k) (D := D) (l := l) (x9 >>> ((6 : Int32) &&& 31)) 12 (by decide) (by decide)) eq2 H.size) gL_makes_L_some rfl (by decide +kernel) rfl ⟨Nat.le_of_ble_eq_true rfl, Nat.le_of_ble_eq_true rfl⟩ ⟨by show c0 + 0 + 0 ≤ 49; omega, by show s0 + 0 + 0 ≤ 294; omega⟩ hE hP hD hS hA rfl rfl hl rfl (Nat.le_of_ble_eq_true rfl) dL_makes_119) hP hD hS hA (by show c0 + 0 + 0 = c0 + 0; omega) (by show s0 + 0 + 0 = s0 + 0; omega) (fun H locs hP hD hS => ?_)
        refine lv_iadd hx hb dL_makes_122 ?_
        rw [show (1 : Int32) + nI q2 = nI (1 + q2) from nI_add 1 q2]
        have hk2 : kd = 2 := by
          have g0 : ¬ kd = 0 := fun z => h9 (by rw [z]; exact nI_0)
          have g1 : ¬ kd = 1 := fun z => h8 (by rw [z]; rfl)
          omega
        exact bM_123 hx hb hml hts hown hA hE hlst hL ad hJ (by omega) (by omega) hkd (by omega) (by omega) (by omega) (by rw [hk2]; show 1 + q2 ≤ 12; omega) (c0 + 0) (s0 + 0) (c0 + 2) (s0 + 12) (by show _ ≤ 49; omega) (by show _ ≤ 294; omega) (by omega) (by omega) (fun σ a1 H locs ls hJ1 hR hP hD hS hl => ih (j + 1) (by omega) a1 hJ1 (c0 + 2) (s0 + 12) (by omega) (by omega) σ H locs ls hR hP hD hS hl) σ H locs ls hR hP hD hS (lv_sub hl [0, 1, 5, 4, 2, 3] rfl)
      · skip
        refine lv_iconst (v := 4) hx hb dL_makes_113 (by decide) ?_
        refine lv_goto (tgt := 119) hx hb dL_makes_114 (by decide) ?_
        obtain ⟨q2, hq2, eq2⟩ := some_lt (x9 >>> ((6 : Int32) &&& 31)) (n := 4) (by decide) (by decide)
        refine fc_c0 (cells' := c0 + 0) (slots' := s0 + 0) (fc_runS (n := 2) (As := [.int (x9 >>> ((6 : Int32) &&& 31)), .int (4 : Int32)]) (rest := [.int (1 : Int32), .int (nI dy), .int (nI tw), .int (nI kd), .int (nI i), .ref (ad 0)]) (isC := []) (maxL := 3) ⟨hx, hb, hml, hown, hts⟩ (FCi.to0 (c_L_some (k := k) (D := D) (l := l) (x9 >>> ((6 : Int32) &&& 31)) 4 (by decide) (by decide)) eq2 H.size) gL_makes_L_some rfl (by decide +kernel) rfl ⟨Nat.le_of_ble_eq_true rfl, Nat.le_of_ble_eq_true rfl⟩ ⟨by show c0 + 0 + 0 ≤ 49; omega, by show s0 + 0 + 0 ≤ 294; omega⟩ hE hP hD hS hA rfl rfl hl rfl (Nat.le_of_ble_eq_true rfl) dL_makes_119) hP hD hS hA (by show c0 + 0 + 0 = c0 + 0; omega) (by show s0 + 0 + 0 = s0 + 0; omega) (fun H locs hP hD hS => ?_)
        refine lv_iadd hx hb dL_makes_122 ?_
        rw [show (1 : Int32) + nI q2 = nI (1 + q2) from nI_add 1 q2]
        have hk2 : kd = 1 := (nI_eq (a := kd) (b := 1) (by omega) (by decide)).mp h8
        exact bM_123 hx hb hml hts hown hA hE hlst hL ad hJ (by omega) (by omega) hkd (by omega) (by omega) (by omega) (by rw [hk2]; show 1 + q2 ≤ 4; omega) (c0 + 0) (s0 + 0) (c0 + 2) (s0 + 12) (by show _ ≤ 49; omega) (by show _ ≤ 294; omega) (by omega) (by omega) (fun σ a1 H locs ls hJ1 hR hP hD hS hl => ih (j + 1) (by omega) a1 hJ1 (c0 + 2) (s0 + 12) (by omega) (by omega) σ H locs ls hR hP hD hS hl) σ H locs ls hR hP hD hS (lv_sub hl [0, 1, 5, 4, 2, 3] rfl)
    · skip
      refine lv_iconst (v := 1) hx hb dL_makes_97 (by decide) ?_
      refine lv_goto (tgt := 123) hx hb dL_makes_98 (by decide) ?_
      have hk2 : kd = 0 := (nI_eq (a := kd) (b := 0) (by omega) (by decide)).mp h9
      exact bM_123 hx hb hml hts hown hA hE hlst hL ad hJ (by omega) (by omega) hkd (by omega) (by omega) (Nat.le_refl 1) (by rw [hk2]; exact Nat.le_refl 1) (c0 + 0) (s0 + 0) (c0 + 2) (s0 + 12) (by show _ ≤ 49; omega) (by show _ ≤ 294; omega) (by omega) (by omega) (fun σ a1 H locs ls hJ1 hR hP hD hS hl => ih (j + 1) (by omega) a1 hJ1 (c0 + 2) (s0 + 12) (by omega) (by omega) σ H locs ls hR hP hD hS hl) σ H locs ls hR hP hD hS (lv_sub hl [0, 1, 5, 4, 2, 3] rfl)
set_option maxRecDepth 100000 in
set_option maxHeartbeats 4000000 in
theorem lpM_2 {p : Program} {l : Launch} {e : Env} {s : State} {m : MethodId} {args : Array Value} {below : List Frame} {meth : Method} {c : Code} {D : va_G} {k : tyK} {A : Nat → Prop} {Q : State → Prop} (hx : p.tables.exec = Jvm.exec) (hb : c.code = cL_makes) (hml : c.maxLocals = 7) (hts : ∀ w ∈ wsL_makes, w.before args s = true) (hown : s.vm.findClass RL = some m.cls) (hA : ∀ q : Nat, s.heap.size ≤ q → A q) (hE : GE D k A s) (hlst : l.stackTraces = false) (hL : kL k ≤ 1000) (ad : Nat → Nat) (cK sK : Nat) (hcK : cK ≤ 49) (hsK : sK ≤ 294)
    (kk : ∀ (σ : TSt) (a1 : Abs) (H : Heap) (locs : List Loc) (ls : Array Slot), MI 4 a1 → Rep σ a1 → va_P D vwCl (WT k ad σ ++ ([] : va_W)) H → va_D A (WT k ad σ ++ ([] : va_W)) → va_S A s.heap H locs → lv_has ls 7 [(0, .ref (ad 0)), (1, .ref (kB k)), (2, .int (nI 4))] → W p l e rm_L_makes s m args below meth c H locs cK sK Q (F0 m 180 ls [])) :
    ∀ (d i : Nat), i + d = 4 → ∀ (a : Abs), MI i a → ∀ (c0 s0 : Nat), c0 + d * 12 ≤ cK → s0 + d * 72 ≤ sK → ∀ (σ : TSt) (H : Heap) (locs : List Loc) (ls : Array Slot), Rep σ a → va_P D vwCl (WT k ad σ ++ ([] : va_W)) H → va_D A (WT k ad σ ++ ([] : va_W)) → va_S A s.heap H locs → lv_has ls 7 [(0, .ref (ad 0)), (1, .ref (kB k)), (2, .int (nI i))] → W p l e rm_L_makes s m args below meth c H locs c0 s0 Q (F0 m 2 ls []) := by
  intro d
  induction d with
  | zero =>
    intro i hi a hM c0 s0 hc hs σ H locs ls hR hP hD hS hl
    obtain rfl : i = 4 := by omega
    rw [Nat.zero_mul, Nat.add_zero] at hc hs
    refine lv_iload_n hx hb dL_makes_2 rfl (lv_at hl 2 rfl) ?_
    refine lv_iconst (v := 4) hx hb dL_makes_3 (by decide) ?_
    refine lv_icmp_ge (tgt := 180) hx hb dL_makes_4 (by decide) (fun _ => ?_) (fun h => absurd (nI_le (Nat.le_refl 4) (by omega)) h)
    exact W.widen (by omega) (by omega) (kk σ a H locs ls hM hR hP hD hS (lv_sub hl [0, 1, 2] rfl))
  | succ d ih =>
    intro i hi a hM c0 s0 hc hs σ H locs ls hR hP hD hS hl
    rw [Nat.succ_mul] at hc hs
    refine lv_iload_n hx hb dL_makes_2 rfl (lv_at hl 2 rfl) ?_
    refine lv_iconst (v := 4) hx hb dL_makes_3 (by decide) ?_
    refine lv_icmp_ge (tgt := 180) hx hb dL_makes_4 (by decide) (fun h => absurd h (nI_ge (a := i) (b := 4) (by omega) (by omega))) (fun _ => ?_)
    refine lv_aload_n hx hb dL_makes_7 rfl (lv_at hl 0 rfl) ?_
    refine lv_aload_n hx hb dL_makes_8 rfl (lv_at hl 1 rfl) ?_
    refine lv_iload_n hx hb dL_makes_9 rfl (lv_at hl 2 rfl) ?_
    refine fc_c0 (cells' := c0 + 0) (slots' := s0 + 0) (fc_runS (n := 2) (As := [.ref (kB k), .int (nI i)]) (rest := [.ref (ad 0)]) (isC := []) (maxL := 2) ⟨hx, hb, hml, hown, hts⟩ (c_L_at (k := k) (D := D) (l := l) i (by omega) hL H.size) gL_makes_L_at rfl (by decide +kernel) rfl ⟨Nat.le_of_ble_eq_true rfl, Nat.le_of_ble_eq_true rfl⟩ ⟨by show c0 + 0 + 0 ≤ 49; omega, by show s0 + 0 + 0 ≤ 294; omega⟩ hE hP hD hS hA rfl rfl hl rfl (Nat.le_of_ble_eq_true rfl) dL_makes_10) hP hD hS hA (by show c0 + 0 + 0 = c0 + 0; omega) (by show s0 + 0 + 0 = s0 + 0; omega) (fun H locs hP hD hS => ?_)
    refine lv_iconst (v := 5) hx hb dL_makes_13 (by decide) ?_
    obtain ⟨q0, hq0, eq0⟩ := some_lt (atN k i) (n := 5) (by decide) (by decide)
    refine fc_c0 (cells' := c0 + 0) (slots' := s0 + 0) (fc_runS (n := 2) (As := [.int (atN k i), .int (5 : Int32)]) (rest := [.ref (ad 0)]) (isC := []) (maxL := 3) ⟨hx, hb, hml, hown, hts⟩ (FCi.to0 (c_L_some (k := k) (D := D) (l := l) (atN k i) 5 (by decide) (by decide)) eq0 H.size) gL_makes_L_some rfl (by decide +kernel) rfl ⟨Nat.le_of_ble_eq_true rfl, Nat.le_of_ble_eq_true rfl⟩ ⟨by show c0 + 0 + 0 ≤ 49; omega, by show s0 + 0 + 0 ≤ 294; omega⟩ hE hP hD hS hA rfl rfl hl rfl (Nat.le_of_ble_eq_true rfl) dL_makes_14) hP hD hS hA (by show c0 + 0 + 0 = c0 + 0; omega) (by show s0 + 0 + 0 = s0 + 0; omega) (fun H locs hP hD hS => ?_)
    obtain ⟨a1, e1, hJ⟩ := mk_tour hM (by omega) hq0
    refine lc_k (v := (nI i)) (a1 := a1) (cells' := c0 + 1) (slots' := s0 + 6) (fc_runSW (n := 2) (As := [.ref (ad 0), .int (nI q0)]) (rest := []) (isC := iL) (maxL := 3) ⟨hx, hb, hml, hown, hts⟩ ((LCi.at (LC_tour hlst ad a (nI q0)) e1) σ hR H.size) gL_makes_L_tour rfl (by decide +kernel) rfl ⟨Nat.le_of_ble_eq_true rfl, Nat.le_of_ble_eq_true rfl⟩ ⟨by show c0 + 0 + 1 ≤ 49; omega, by show s0 + 0 + 6 ≤ 294; omega⟩ hE hP hD hS hA (iL_C k ad σ ([] : va_W)) iL_nd hl rfl (Nat.le_of_ble_eq_true rfl) dL_makes_17) hP hD hS hA (by show c0 + 0 + 1 = c0 + 1; omega) (by show s0 + 0 + 6 = s0 + 6; omega) (fun σ H locs hR hP hD hS => ?_)
    refine lv_iload_n hx hb dL_makes_20 rfl (lv_at hl 2 rfl) ?_
    refine lv_icmp_eq (tgt := 26) hx hb dL_makes_21 (by decide) (fun _ => ?_) (fun h => absurd rfl h)
    refine lv_iconst (v := 0) hx hb dL_makes_26 (by decide) ?_
    refine lv_istore_n (lv' := [(3, .int (0 : Int32)), (0, .ref (ad 0)), (1, .ref (kB k)), (2, .int (nI i))]) hx hb dL_makes_27 rfl hl (by decide) rfl (fun ls hl => ?_)
    obtain ⟨q, hq, eq⟩ := some_lt (atN k i >>> ((3 : Int32) &&& 31)) (n := 5) (by decide) (by decide)
    refine lpM_28 hx hb hml hts hown hA hE hlst hL ad (i := i) (q := q) (by omega) hq eq (c0 + 11) (s0 + 66) (by show _ ≤ 49; omega) (by show _ ≤ 294; omega) (fun σ a H locs ls hJ hR hP hD hS hl => ?_) (1 + q) 0 (Nat.zero_add _) a1 hJ (c0 + 1) (s0 + 6) (by omega) (by omega) σ H locs ls hR hP hD hS (lv_sub hl [1, 2, 3, 0] rfl)
    refine lv_iload_n hx hb dL_makes_158 rfl (lv_at hl 2 rfl) ?_
    refine lv_iconst (v := 3) hx hb dL_makes_159 (by decide) ?_
    refine lv_icmp_ge (tgt := 174) hx hb dL_makes_160 (by decide) (fun h9 => ?_) (fun h9 => ?_)
    · skip
      have hi3 : i = 3 := by
        have g : ¬ i < 3 := fun z => nI_ge (a := i) (b := 3) z (by omega) h9
        omega
      refine lv_iinc (v := (nI (i + 1))) (lv' := [(2, .int (nI (i + 1))), (0, .ref (ad 0)), (1, .ref (kB k)), (3, .int (nI (1 + q)))]) hx hb dL_makes_174 hl (k := 2) rfl (nI_add _ 1) (by decide) rfl (fun ls hl => ?_)
      refine lv_goto (tgt := 2) hx hb dL_makes_177 (by decide) ?_
      exact ih (i + 1) (by omega) a (by rw [hi3] at hJ ⊢; exact mk_last hJ) (c0 + 11) (s0 + 66) (by omega) (by omega) σ H locs ls hR hP hD hS (lv_sub hl [1, 2, 0] rfl)
    · skip
      have hi3 : i < 3 := by
        have g : ¬ 3 ≤ i := fun z => h9 (nI_le (a := 3) (b := i) z (by omega))
        omega
      obtain ⟨m1, a2, hm1, hm2, e2, hM2⟩ := mk_start hJ hi3 (by omega) (by omega)
      refine lv_aload_n hx hb dL_makes_163 rfl (lv_at hl 0 rfl) ?_
      refine lv_iload_n hx hb dL_makes_164 rfl (lv_at hl 2 rfl) ?_
      refine lc_k (v := (nI m1)) (a1 := a2) (cells' := c0 + 12) (slots' := s0 + 72) (fc_runSW (n := 2) (As := [.ref (ad 0), .int (nI i)]) (rest := []) (isC := iL) (maxL := 3) ⟨hx, hb, hml, hown, hts⟩ ((LCi.at (LC_start hlst ad a (nI i)) e2) σ hR H.size) gL_makes_L_start rfl (by decide +kernel) rfl ⟨Nat.le_of_ble_eq_true rfl, Nat.le_of_ble_eq_true rfl⟩ ⟨by show c0 + 11 + 1 ≤ 49; omega, by show s0 + 66 + 6 ≤ 294; omega⟩ hE hP hD hS hA (iL_C k ad σ ([] : va_W)) iL_nd hl rfl (Nat.le_of_ble_eq_true rfl) dL_makes_165) hP hD hS hA (by show c0 + 11 + 1 = c0 + 12; omega) (by show s0 + 66 + 6 = s0 + 72; omega) (fun σ H locs hR hP hD hS => ?_)
      refine lv_iconst (v := 1) hx hb dL_makes_168 (by decide) ?_
      refine lv_icmp_ge (tgt := 174) hx hb dL_makes_169 (by decide) (fun _ => ?_) (fun h => absurd (nI_le (a := 1) (b := m1) hm1 (by omega)) h)
      refine lv_iinc (v := (nI (i + 1))) (lv' := [(2, .int (nI (i + 1))), (0, .ref (ad 0)), (1, .ref (kB k)), (3, .int (nI (1 + q)))]) hx hb dL_makes_174 hl (k := 2) rfl (nI_add _ 1) (by decide) rfl (fun ls hl => ?_)
      refine lv_goto (tgt := 2) hx hb dL_makes_177 (by decide) ?_
      exact ih (i + 1) (by omega) a2 hM2 (c0 + 12) (s0 + 72) (by omega) (by omega) σ H locs ls hR hP hD hS (lv_sub hl [1, 2, 0] rfl)
set_option maxRecDepth 100000 in
set_option maxHeartbeats 4000000 in
theorem LC_makes {l : Launch} {D : va_G} {k : tyK} (hlst : l.stackTraces = false) (hL : kL k ≤ 1000) (ad : Nat → Nat) (a : Abs) (hM : MI 0 a) : LCi l yL_makes wsL_makes rm_L_makes D k ad [.ref (kB k)] a (fun r a' => r = 1 ∧ MI 4 a') := by
  intro σ hR
  refine fc_start (cc := cL_makes) (maxL := 7) (ret := (some .boolean)) (own := RL) (Qc := fun A => va_Qi (fun r (u : TSt × Abs) => (r = 1 ∧ MI 4 u.2) ∧ Rep u.1 u.2) (Bt D (fun u => WT k ad u.1) A) A) (by decide) rfl rfl (Nat.le_of_ble_eq_true rfl) ?_
  intro p e s m below meth c A H hx hb hml hr hts hown hlk hname hA hP hE hD hS ls hl
  have hl : lv_has ls 7 [(0, .ref (ad 0)), (1, .ref (kB k))] := hl
  obtain ⟨locs, hlocs⟩ : ∃ z : List Loc, z = [] := ⟨_, rfl⟩
  rw [← hlocs] at hS ⊢
  have hP : va_P D vwCl (WT k ad σ ++ ([] : va_W)) H := by rw [List.append_nil]; exact hP
  have hD : va_D A (WT k ad σ ++ ([] : va_W)) := by rw [List.append_nil]; exact hD
  refine lv_iconst (v := 0) hx hb dL_makes_0 (by decide) ?_
  refine lv_istore_n (lv' := [(2, .int (0 : Int32)), (0, .ref (ad 0)), (1, .ref (kB k))]) hx hb dL_makes_1 rfl hl (by decide) rfl (fun ls hl => ?_)
  refine lpM_2 hx hb hml hts hown hA hE hlst hL ad 48 288 (Nat.le_of_ble_eq_true rfl) (Nat.le_of_ble_eq_true rfl) (fun σ a H locs ls hM hR hP hD hS hl => ?_) 4 0 rfl a hM 0 0 (by omega) (by omega) σ H locs ls hR hP hD hS (lv_sub hl [1, 2, 0] rfl)
  refine lv_aload_n hx hb dL_makes_180 rfl (lv_at hl 1 rfl) ?_
  refine lv_bipush (v := 24) hx hb dL_makes_181 (by decide) ?_
  refine fc_c0 (cells' := 48) (slots' := 288) (fc_runS (n := 2) (As := [.ref (kB k), .int (nI 24)]) (rest := []) (isC := []) (maxL := 2) ⟨hx, hb, hml, hown, hts⟩ (c_L_at (k := k) (D := D) (l := l) 24 (by decide) hL H.size) gL_makes_L_at rfl (by decide +kernel) rfl ⟨Nat.le_of_ble_eq_true rfl, Nat.le_of_ble_eq_true rfl⟩ ⟨Nat.le_of_ble_eq_true rfl, Nat.le_of_ble_eq_true rfl⟩ hE hP hD hS hA rfl rfl hl rfl (Nat.le_of_ble_eq_true rfl) dL_makes_183) hP hD hS hA rfl rfl (fun H locs hP hD hS => ?_)
  refine lv_bipush (v := 6) hx hb dL_makes_186 (by decide) ?_
  obtain ⟨q6, hq6, eq6⟩ := some_lt (atN k 24) (n := 6) (by decide) (by decide)
  refine fc_c0 (cells' := 48) (slots' := 288) (fc_runS (n := 2) (As := [.int (atN k 24), .int (6 : Int32)]) (rest := []) (isC := []) (maxL := 3) ⟨hx, hb, hml, hown, hts⟩ (FCi.to0 (c_L_some (k := k) (D := D) (l := l) (atN k 24) 6 (by decide) (by decide)) eq6 H.size) gL_makes_L_some rfl (by decide +kernel) rfl ⟨Nat.le_of_ble_eq_true rfl, Nat.le_of_ble_eq_true rfl⟩ ⟨Nat.le_of_ble_eq_true rfl, Nat.le_of_ble_eq_true rfl⟩ hE hP hD hS hA rfl rfl hl rfl (Nat.le_of_ble_eq_true rfl) dL_makes_188) hP hD hS hA rfl rfl (fun H locs hP hD hS => ?_)
  refine lv_istore_n (lv' := [(2, .int (nI q6)), (0, .ref (ad 0)), (1, .ref (kB k))]) hx hb dL_makes_191 rfl hl (by decide) rfl (fun ls hl => ?_)
  refine lv_iload_n hx hb dL_makes_192 rfl (lv_at hl 0 rfl) ?_
  refine lv_if_eq (tgt := 204) hx hb dL_makes_193 (by decide) (fun h9 => ?_) (fun h9 => ?_)
  · skip
    refine lv_iconst (v := 1) hx hb dL_makes_204 (by decide) ?_
    refine lv_goto (tgt := 209) hx hb dL_makes_205 (by decide) ?_
    have hP : va_P D vwCl (WT k ad σ) H := by rw [← List.append_nil (WT k ad σ)]; exact hP
    have hD : va_D A (WT k ad σ) := by rw [← List.append_nil (WT k ad σ)]; exact hD
    exact fc_iret hx hb hr rfl hlk hS (σ, a) ⟨⟨rfl, hM⟩, hR⟩ hP hD (by decide) (by decide) dL_makes_209
  · skip
    refine lv_aload_n hx hb dL_makes_196 rfl (lv_at hl 1 rfl) ?_
    refine lv_iload_n hx hb dL_makes_197 rfl (lv_at hl 0 rfl) ?_
    have hq0 : 1 ≤ q6 := by
      rcases Nat.eq_zero_or_pos q6 with z | z
      · exact absurd (by rw [z]; exact nI_0) h9
      · exact z
    obtain ⟨m1, a2, hm1, e2, hM2⟩ := mk_pass hM hq0 (by omega)
    refine lc_k (v := (nI m1)) (a1 := a2) (cells' := 49) (slots' := 294) (fc_runSW (n := 2) (As := [.ref (ad 0), .int (nI q6)]) (rest := []) (isC := iL) (maxL := 3) ⟨hx, hb, hml, hown, hts⟩ ((LCi.at (LC_pass hlst ad a (nI q6)) e2) σ hR H.size) gL_makes_L_pass rfl (by decide +kernel) rfl ⟨Nat.le_of_ble_eq_true rfl, Nat.le_of_ble_eq_true rfl⟩ ⟨Nat.le_of_ble_eq_true rfl, Nat.le_of_ble_eq_true rfl⟩ hE hP hD hS hA (iL_C k ad σ ([] : va_W)) iL_nd hl rfl (Nat.le_of_ble_eq_true rfl) dL_makes_198) hP hD hS hA rfl rfl (fun σ H locs hR hP hD hS => ?_)
    refine lv_if_lt (tgt := 208) hx hb dL_makes_201 (by decide) (fun h => absurd h (nI_pos (by omega))) (fun _ => ?_)
    refine lv_iconst (v := 1) hx hb dL_makes_204 (by decide) ?_
    refine lv_goto (tgt := 209) hx hb dL_makes_205 (by decide) ?_
    have hP : va_P D vwCl (WT k ad σ) H := by rw [← List.append_nil (WT k ad σ)]; exact hP
    have hD : va_D A (WT k ad σ) := by rw [← List.append_nil (WT k ad σ)]; exact hD
    exact fc_iret hx hb hr rfl hlk hS (σ, a2) ⟨⟨rfl, hM2⟩, hR⟩ hP hD (by decide) (by decide) dL_makes_209
end TSmakes
