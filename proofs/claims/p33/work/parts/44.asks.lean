/-! THE LAW'S ASKS, row by row. -/
section TSasks2
abbrev rm_L_asks : Room := { frames := 10, cells := 2627, slots := 69618, locals := 274 }
set_option maxRecDepth 100000 in
set_option maxHeartbeats 4000000 in
theorem lpA_23 {p : Program} {l : Launch} {e : Env} {s : State} {m : MethodId} {args : Array Value} {below : List Frame} {meth : Method} {c : Code} {D : va_G} {k : tyK} {A : Nat → Prop} {Q : State → Prop} (hx : p.tables.exec = Jvm.exec) (hb : c.code = cL_asks) (hml : c.maxLocals = 6) (hts : ∀ w ∈ wsL_asks, w.before args s = true) (hown : s.vm.findClass RL = some m.cls) (hA : ∀ q : Nat, s.heap.size ≤ q → A q) (hE : GE D k A s) (hlst : l.stackTraces = false) (ad : Nat → Nat) (a : Abs)  (cK sK : Nat) (hcK : cK ≤ 2627) (hsK : sK ≤ 69618) (VF : Int64) (kk : ∀ (σ : TSt) (H : Heap) (locs : List Loc) (ls : Array Slot), Rep σ (a) → va_P D vwCl (WT k ad σ ++ ([] : va_W)) H → va_D A (WT k ad σ ++ ([] : va_W)) → va_S A s.heap H locs → lv_has ls 6 [(0, .ref (ad 0)), (1, .long VF), (3, .int (nI 16))] → W p l e rm_L_asks s m args below meth c H locs cK sK Q (F0 m 48 ls [])) :
    ∀ (d i : Nat), i + d = 16 → ∀ (v : Int64), it (aN a.1) d i v = VF → ∀ (c0 s0 : Nat), c0 + d * 1 + 0 ≤ cK → s0 + d * 6 + 0 ≤ sK → ∀ (σ : TSt) (H : Heap) (locs : List Loc) (ls : Array Slot), Rep σ (a) → va_P D vwCl (WT k ad σ ++ ([] : va_W)) H → va_D A (WT k ad σ ++ ([] : va_W)) → va_S A s.heap H locs → lv_has ls 6 [(0, .ref (ad 0)), (1, .long v), (3, .int (nI i))] → W p l e rm_L_asks s m args below meth c H locs c0 s0 Q (F0 m 23 ls []) := by
  intro d
  induction d with
  | zero =>
    intro i hi v hF c0 s0 hc hs σ H locs ls hR hP hD hS hl
    obtain rfl : i = 16 := by omega
    have hF : v = VF := hF
    rw [hF] at hl
    rw [Nat.zero_mul, Nat.add_zero] at hc hs
    refine W.eq (g2 := F0 m 23 ls []) rfl ?_
    refine lv_iload_n hx hb dL_asks_23 rfl (lv_at hl 2 rfl) ?_
    refine lv_bipush (v := 16) hx hb dL_asks_24 (by decide) ?_
    refine lv_icmp_ge (tgt := 48) hx hb dL_asks_26 (by decide) (fun _ => ?_) (fun h => absurd (nI_le (Nat.le_refl 16) (by omega)) h)
    exact W.widen (by omega) (by omega) (kk σ H locs ls hR hP hD hS (lv_sub hl [0, 1, 2] rfl))
  | succ d ih =>
    intro i hi v hF c0 s0 hc hs σ H locs ls hR hP hD hS hl
    rw [Nat.succ_mul] at hc hs
    refine lv_iload_n hx hb dL_asks_23 rfl (lv_at hl 2 rfl) ?_
    refine lv_bipush (v := 16) hx hb dL_asks_24 (by decide) ?_
    refine lv_icmp_ge (tgt := 48) hx hb dL_asks_26 (by decide) (fun h => absurd h (nI_ge (a := i) (b := 16) (by omega) (by omega))) (fun _ => ?_)
    refine lv_ldc2 (v := 31) hx hb hown (hts (.constantLong RL 159 (31)) (by decide +kernel)) dL_asks_29 ?_
    refine lv_lload_n hx hb dL_asks_32 rfl (lv_at hl 1 rfl) ?_
    refine lv_lmul hx hb dL_asks_33 ?_
    refine lv_aload_n hx hb dL_asks_34 rfl (lv_at hl 0 rfl) ?_
    refine lv_iload_n hx hb dL_asks_35 rfl (lv_at hl 2 rfl) ?_
    refine lc_k (v := (Q_number a.1 0 0 (nI i))) (a1 := a) (cells' := c0 + 1) (slots' := s0 + 6) (fc_runSW (n := 2) (As := [.ref (ad 0), .int (nI i)]) (rest := [.long ((31 : Int64) * v)]) (isC := iL) (maxL := 3) ⟨hx, hb, hml, hown, hts⟩ (LC_num hlst ad a (i := i) (by omega) σ hR H.size) gL_asks_L_number rfl (by decide +kernel) rfl ⟨Nat.le_of_ble_eq_true rfl, Nat.le_of_ble_eq_true rfl⟩ ⟨by show c0 + 0 + 1 ≤ 2627; omega, by show s0 + 0 + 6 ≤ 69618; omega⟩ hE hP hD hS hA (iL_C k ad σ ([] : va_W)) iL_nd hl rfl (Nat.le_of_ble_eq_true rfl) dL_asks_36) hP hD hS hA (by show c0 + 0 + 1 = c0 + 1; omega) (by show s0 + 0 + 6 = s0 + 6; omega) (fun σ H locs hR hP hD hS => ?_)
    refine lv_i2l hx hb dL_asks_39 rfl ?_
    refine lv_ladd hx hb dL_asks_40 ?_
    refine lv_lstore_n (lv' := [(1, .long (((31 : Int64) * v) + ((Q_number a.1 0 0 (nI i)).toInt64))), (0, .ref (ad 0)), (3, .int (nI i))]) hx hb dL_asks_41 rfl hl (by decide) rfl (fun ls hl => ?_)
    refine lv_iinc (v := (nI (i + 1))) (lv' := [(3, .int (nI (i + 1))), (1, .long (((31 : Int64) * v) + ((Q_number a.1 0 0 (nI i)).toInt64))), (0, .ref (ad 0))]) hx hb dL_asks_42 hl (k := 2) rfl (nI_add _ 1) (by decide) rfl (fun ls hl => ?_)
    refine lv_goto (tgt := 23) hx hb dL_asks_45 (by decide) ?_
    exact ih (i + 1) (by omega) (((31 : Int64) * v) + ((Q_number a.1 0 0 (nI i)).toInt64)) hF (c0 + 1) (s0 + 6) (by omega) (by omega) σ H locs ls hR hP hD hS (lv_sub hl [2, 1, 0] rfl)
set_option maxRecDepth 100000 in
set_option maxHeartbeats 4000000 in
theorem lpA_62 {p : Program} {l : Launch} {e : Env} {s : State} {m : MethodId} {args : Array Value} {below : List Frame} {meth : Method} {c : Code} {D : va_G} {k : tyK} {A : Nat → Prop} {Q : State → Prop} (hx : p.tables.exec = Jvm.exec) (hb : c.code = cL_asks) (hml : c.maxLocals = 6) (hts : ∀ w ∈ wsL_asks, w.before args s = true) (hown : s.vm.findClass RL = some m.cls) (hA : ∀ q : Nat, s.heap.size ≤ q → A q) (hE : GE D k A s) (hlst : l.stackTraces = false) (ad : Nat → Nat) (a : Abs) (t : Nat) (cK sK : Nat) (hcK : cK ≤ 2627) (hsK : sK ≤ 69618) (VF : Int64) (kk : ∀ (σ : TSt) (H : Heap) (locs : List Loc) (ls : Array Slot), Rep σ (a) → va_P D vwCl (WT k ad σ ++ ([] : va_W)) H → va_D A (WT k ad σ ++ ([] : va_W)) → va_S A s.heap H locs → lv_has ls 6 [(0, .ref (ad 0)), (1, .long VF), (3, .int (nI t)), (4, .int (nI 9))] → W p l e rm_L_asks s m args below meth c H locs cK sK Q (F0 m 90 ls [])) :
    ∀ (d i : Nat), i + d = 9 → ∀ (v : Int64), it (aT a.1 t) d i v = VF → ∀ (c0 s0 : Nat), c0 + d * 2 + 0 ≤ cK → s0 + d * 12 + 0 ≤ sK → ∀ (σ : TSt) (H : Heap) (locs : List Loc) (ls : Array Slot), Rep σ (a) → va_P D vwCl (WT k ad σ ++ ([] : va_W)) H → va_D A (WT k ad σ ++ ([] : va_W)) → va_S A s.heap H locs → lv_has ls 6 [(0, .ref (ad 0)), (1, .long v), (3, .int (nI t)), (4, .int (nI i))] → W p l e rm_L_asks s m args below meth c H locs c0 s0 Q (F0 m 62 ls []) := by
  intro d
  induction d with
  | zero =>
    intro i hi v hF c0 s0 hc hs σ H locs ls hR hP hD hS hl
    obtain rfl : i = 9 := by omega
    have hF : v = VF := hF
    rw [hF] at hl
    rw [Nat.zero_mul, Nat.add_zero] at hc hs
    refine W.eq (g2 := F0 m 62 ls []) rfl ?_
    refine lv_iload hx hb dL_asks_62 (lv_at hl 3 rfl) ?_
    refine lv_bipush (v := 9) hx hb dL_asks_64 (by decide) ?_
    refine lv_icmp_ge (tgt := 90) hx hb dL_asks_66 (by decide) (fun _ => ?_) (fun h => absurd (nI_le (Nat.le_refl 9) (by omega)) h)
    exact W.widen (by omega) (by omega) (kk σ H locs ls hR hP hD hS (lv_sub hl [0, 1, 2, 3] rfl))
  | succ d ih =>
    intro i hi v hF c0 s0 hc hs σ H locs ls hR hP hD hS hl
    rw [Nat.succ_mul] at hc hs
    refine lv_iload hx hb dL_asks_62 (lv_at hl 3 rfl) ?_
    refine lv_bipush (v := 9) hx hb dL_asks_64 (by decide) ?_
    refine lv_icmp_ge (tgt := 90) hx hb dL_asks_66 (by decide) (fun h => absurd h (nI_ge (a := i) (b := 9) (by omega) (by omega))) (fun _ => ?_)
    refine lv_ldc2 (v := 31) hx hb hown (hts (.constantLong RL 159 (31)) (by decide +kernel)) dL_asks_69 ?_
    refine lv_lload_n hx hb dL_asks_72 rfl (lv_at hl 1 rfl) ?_
    refine lv_lmul hx hb dL_asks_73 ?_
    refine lv_aload_n hx hb dL_asks_74 rfl (lv_at hl 0 rfl) ?_
    refine lv_iload_n hx hb dL_asks_75 rfl (lv_at hl 2 rfl) ?_
    refine lv_iload hx hb dL_asks_76 (lv_at hl 3 rfl) ?_
    refine lc_k (v := (Q_tourOf a.1 (nI t) (nI i))) (a1 := a) (cells' := c0 + 2) (slots' := s0 + 12) (fc_runSW (n := 3) (As := [.ref (ad 0), .int (nI t), .int (nI i)]) (rest := [.long ((31 : Int64) * v)]) (isC := iL) (maxL := 4) ⟨hx, hb, hml, hown, hts⟩ (LC_tourOf hlst ad a (nI t) (nI i) σ hR H.size) gL_asks_L_tourOf rfl (by decide +kernel) rfl ⟨Nat.le_of_ble_eq_true rfl, Nat.le_of_ble_eq_true rfl⟩ ⟨by show c0 + 0 + 2 ≤ 2627; omega, by show s0 + 0 + 12 ≤ 69618; omega⟩ hE hP hD hS hA (iL_C k ad σ ([] : va_W)) iL_nd hl rfl (Nat.le_of_ble_eq_true rfl) dL_asks_78) hP hD hS hA (by show c0 + 0 + 2 = c0 + 2; omega) (by show s0 + 0 + 12 = s0 + 12; omega) (fun σ H locs hR hP hD hS => ?_)
    refine lv_i2l hx hb dL_asks_81 rfl ?_
    refine lv_ladd hx hb dL_asks_82 ?_
    refine lv_lstore_n (lv' := [(1, .long (((31 : Int64) * v) + ((Q_tourOf a.1 (nI t) (nI i)).toInt64))), (0, .ref (ad 0)), (3, .int (nI t)), (4, .int (nI i))]) hx hb dL_asks_83 rfl hl (by decide) rfl (fun ls hl => ?_)
    refine lv_iinc (v := (nI (i + 1))) (lv' := [(4, .int (nI (i + 1))), (1, .long (((31 : Int64) * v) + ((Q_tourOf a.1 (nI t) (nI i)).toInt64))), (0, .ref (ad 0)), (3, .int (nI t))]) hx hb dL_asks_84 hl (k := 3) rfl (nI_add _ 1) (by decide) rfl (fun ls hl => ?_)
    refine lv_goto (tgt := 62) hx hb dL_asks_87 (by decide) ?_
    exact ih (i + 1) (by omega) (((31 : Int64) * v) + ((Q_tourOf a.1 (nI t) (nI i)).toInt64)) hF (c0 + 2) (s0 + 12) (by omega) (by omega) σ H locs ls hR hP hD hS (lv_sub hl [2, 1, 3, 0] rfl)
set_option maxRecDepth 100000 in
set_option maxHeartbeats 4000000 in
theorem lpA_107 {p : Program} {l : Launch} {e : Env} {s : State} {m : MethodId} {args : Array Value} {below : List Frame} {meth : Method} {c : Code} {D : va_G} {k : tyK} {A : Nat → Prop} {Q : State → Prop} (hx : p.tables.exec = Jvm.exec) (hb : c.code = cL_asks) (hml : c.maxLocals = 6) (hts : ∀ w ∈ wsL_asks, w.before args s = true) (hown : s.vm.findClass RL = some m.cls) (hA : ∀ q : Nat, s.heap.size ≤ q → A q) (hE : GE D k A s) (hlst : l.stackTraces = false) (ad : Nat → Nat) (a : Abs) (t z : Nat) (cK sK : Nat) (hcK : cK ≤ 2627) (hsK : sK ≤ 69618) (VF : Int64) (kk : ∀ (σ : TSt) (H : Heap) (locs : List Loc) (ls : Array Slot), Rep σ (a) → va_P D vwCl (WT k ad σ ++ ([] : va_W)) H → va_D A (WT k ad σ ++ ([] : va_W)) → va_S A s.heap H locs → lv_has ls 6 [(0, .ref (ad 0)), (1, .long VF), (3, .int (nI t)), (4, .int (nI z)), (5, .int (nI 5))] → W p l e rm_L_asks s m args below meth c H locs cK sK Q (F0 m 136 ls [])) :
    ∀ (d i : Nat), i + d = 5 → ∀ (v : Int64), it (aS a.1 t z) d i v = VF → ∀ (c0 s0 : Nat), c0 + d * 3 + 0 ≤ cK → s0 + d * 18 + 0 ≤ sK → ∀ (σ : TSt) (H : Heap) (locs : List Loc) (ls : Array Slot), Rep σ (a) → va_P D vwCl (WT k ad σ ++ ([] : va_W)) H → va_D A (WT k ad σ ++ ([] : va_W)) → va_S A s.heap H locs → lv_has ls 6 [(0, .ref (ad 0)), (1, .long v), (3, .int (nI t)), (4, .int (nI z)), (5, .int (nI i))] → W p l e rm_L_asks s m args below meth c H locs c0 s0 Q (F0 m 107 ls []) := by
  intro d
  induction d with
  | zero =>
    intro i hi v hF c0 s0 hc hs σ H locs ls hR hP hD hS hl
    obtain rfl : i = 5 := by omega
    have hF : v = VF := hF
    rw [hF] at hl
    rw [Nat.zero_mul, Nat.add_zero] at hc hs
    refine W.eq (g2 := F0 m 107 ls []) rfl ?_
    refine lv_iload hx hb dL_asks_107 (lv_at hl 4 rfl) ?_
    refine lv_iconst (v := 5) hx hb dL_asks_109 (by decide) ?_
    refine lv_icmp_ge (tgt := 136) hx hb dL_asks_110 (by decide) (fun _ => ?_) (fun h => absurd (nI_le (Nat.le_refl 5) (by omega)) h)
    exact W.widen (by omega) (by omega) (kk σ H locs ls hR hP hD hS (lv_sub hl [0, 1, 2, 3, 4] rfl))
  | succ d ih =>
    intro i hi v hF c0 s0 hc hs σ H locs ls hR hP hD hS hl
    rw [Nat.succ_mul] at hc hs
    refine lv_iload hx hb dL_asks_107 (lv_at hl 4 rfl) ?_
    refine lv_iconst (v := 5) hx hb dL_asks_109 (by decide) ?_
    refine lv_icmp_ge (tgt := 136) hx hb dL_asks_110 (by decide) (fun h => absurd h (nI_ge (a := i) (b := 5) (by omega) (by omega))) (fun _ => ?_)
    refine lv_ldc2 (v := 31) hx hb hown (hts (.constantLong RL 159 (31)) (by decide +kernel)) dL_asks_113 ?_
    refine lv_lload_n hx hb dL_asks_116 rfl (lv_at hl 1 rfl) ?_
    refine lv_lmul hx hb dL_asks_117 ?_
    refine lv_aload_n hx hb dL_asks_118 rfl (lv_at hl 0 rfl) ?_
    refine lv_iload_n hx hb dL_asks_119 rfl (lv_at hl 2 rfl) ?_
    refine lv_iload hx hb dL_asks_120 (lv_at hl 3 rfl) ?_
    refine lv_iload hx hb dL_asks_122 (lv_at hl 4 rfl) ?_
    refine lc_k (v := (Q_stepOf a.1 (nI t) (nI z) (nI i))) (a1 := a) (cells' := c0 + 3) (slots' := s0 + 18) (fc_runSW (n := 4) (As := [.ref (ad 0), .int (nI t), .int (nI z), .int (nI i)]) (rest := [.long ((31 : Int64) * v)]) (isC := iL) (maxL := 5) ⟨hx, hb, hml, hown, hts⟩ (LC_stepOf hlst ad a (nI t) (nI z) (nI i) σ hR H.size) gL_asks_L_stepOf rfl (by decide +kernel) rfl ⟨Nat.le_of_ble_eq_true rfl, Nat.le_of_ble_eq_true rfl⟩ ⟨by show c0 + 0 + 3 ≤ 2627; omega, by show s0 + 0 + 18 ≤ 69618; omega⟩ hE hP hD hS hA (iL_C k ad σ ([] : va_W)) iL_nd hl rfl (Nat.le_of_ble_eq_true rfl) dL_asks_124) hP hD hS hA (by show c0 + 0 + 3 = c0 + 3; omega) (by show s0 + 0 + 18 = s0 + 18; omega) (fun σ H locs hR hP hD hS => ?_)
    refine lv_i2l hx hb dL_asks_127 rfl ?_
    refine lv_ladd hx hb dL_asks_128 ?_
    refine lv_lstore_n (lv' := [(1, .long (((31 : Int64) * v) + ((Q_stepOf a.1 (nI t) (nI z) (nI i)).toInt64))), (0, .ref (ad 0)), (3, .int (nI t)), (4, .int (nI z)), (5, .int (nI i))]) hx hb dL_asks_129 rfl hl (by decide) rfl (fun ls hl => ?_)
    refine lv_iinc (v := (nI (i + 1))) (lv' := [(5, .int (nI (i + 1))), (1, .long (((31 : Int64) * v) + ((Q_stepOf a.1 (nI t) (nI z) (nI i)).toInt64))), (0, .ref (ad 0)), (3, .int (nI t)), (4, .int (nI z))]) hx hb dL_asks_130 hl (k := 4) rfl (nI_add _ 1) (by decide) rfl (fun ls hl => ?_)
    refine lv_goto (tgt := 107) hx hb dL_asks_133 (by decide) ?_
    exact ih (i + 1) (by omega) (((31 : Int64) * v) + ((Q_stepOf a.1 (nI t) (nI z) (nI i)).toInt64)) hF (c0 + 3) (s0 + 18) (by omega) (by omega) σ H locs ls hR hP hD hS (lv_sub hl [2, 1, 3, 4, 0] rfl)
set_option maxRecDepth 100000 in
set_option maxHeartbeats 4000000 in
theorem lpA_93 {p : Program} {l : Launch} {e : Env} {s : State} {m : MethodId} {args : Array Value} {below : List Frame} {meth : Method} {c : Code} {D : va_G} {k : tyK} {A : Nat → Prop} {Q : State → Prop} (hx : p.tables.exec = Jvm.exec) (hb : c.code = cL_asks) (hml : c.maxLocals = 6) (hts : ∀ w ∈ wsL_asks, w.before args s = true) (hown : s.vm.findClass RL = some m.cls) (hA : ∀ q : Nat, s.heap.size ≤ q → A q) (hE : GE D k A s) (hlst : l.stackTraces = false) (ad : Nat → Nat) (a : Abs) (hB : BK a.1) {t : Nat} (ht : t < NT a.1) (cK sK : Nat) (hcK : cK ≤ 2627) (hsK : sK ≤ 69618) (VF : Int64) (kk : ∀ (σ : TSt) (H : Heap) (locs : List Loc) (ls : Array Slot), Rep σ (a) → va_P D vwCl (WT k ad σ ++ ([] : va_W)) H → va_D A (WT k ad σ ++ ([] : va_W)) → va_S A s.heap H locs → lv_has ls 6 [(0, .ref (ad 0)), (1, .long VF), (3, .int (nI t)), (4, .int (nI (NZ a.1 t)))] → W p l e rm_L_asks s m args below meth c H locs cK sK Q (F0 m 142 ls [])) :
    ∀ (d i : Nat), i + d = (NZ a.1 t) → ∀ (v : Int64), it (aZ a.1 t) d i v = VF → ∀ (c0 s0 : Nat), c0 + d * 17 + 2 ≤ cK → s0 + d * 102 + 12 ≤ sK → ∀ (σ : TSt) (H : Heap) (locs : List Loc) (ls : Array Slot), Rep σ (a) → va_P D vwCl (WT k ad σ ++ ([] : va_W)) H → va_D A (WT k ad σ ++ ([] : va_W)) → va_S A s.heap H locs → lv_has ls 6 [(0, .ref (ad 0)), (1, .long v), (3, .int (nI t)), (4, .int (nI i))] → W p l e rm_L_asks s m args below meth c H locs c0 s0 Q (F0 m 93 ls []) := by
  intro d
  induction d with
  | zero =>
    intro i hi v hF c0 s0 hc hs σ H locs ls hR hP hD hS hl
    obtain rfl : i = (NZ a.1 t) := by omega
    have hF : v = VF := hF
    rw [hF] at hl
    rw [Nat.zero_mul, Nat.add_zero] at hc hs
    refine W.eq (g2 := F0 m 93 ls []) rfl ?_
    refine lv_iload hx hb dL_asks_93 (lv_at hl 3 rfl) ?_
    refine lv_aload_n hx hb dL_asks_95 rfl (lv_at hl 0 rfl) ?_
    refine lv_iload_n hx hb dL_asks_96 rfl (lv_at hl 2 rfl) ?_
    refine lv_iconst (v := 2) hx hb dL_asks_97 (by decide) ?_
    refine lc_k (v := (nI (NZ a.1 t))) (a1 := a) (cells' := c0 + 2) (slots' := s0 + 12) (fc_runSW (n := 3) (As := [.ref (ad 0), .int (nI t), .int (2 : Int32)]) (rest := [.int (nI (NZ a.1 t))]) (isC := iL) (maxL := 4) ⟨hx, hb, hml, hown, hts⟩ (LC_steps hlst ad a hB ht σ hR H.size) gL_asks_L_tourOf rfl (by decide +kernel) rfl ⟨Nat.le_of_ble_eq_true rfl, Nat.le_of_ble_eq_true rfl⟩ ⟨by show c0 + 0 + 2 ≤ 2627; omega, by show s0 + 0 + 12 ≤ 69618; omega⟩ hE hP hD hS hA (iL_C k ad σ ([] : va_W)) iL_nd hl rfl (Nat.le_of_ble_eq_true rfl) dL_asks_98) hP hD hS hA (by show c0 + 0 + 2 = c0 + 2; omega) (by show s0 + 0 + 12 = s0 + 12; omega) (fun σ H locs hR hP hD hS => ?_)
    refine lv_icmp_ge (tgt := 142) hx hb dL_asks_101 (by decide) (fun _ => ?_) (fun h => absurd (nI_le (Nat.le_refl (NZ a.1 t)) (by have := (BK_z hB (t := t) (by have := (BK_n hB).2; omega)).2; omega)) h)
    exact W.widen (by omega) (by omega) (kk σ H locs ls hR hP hD hS (lv_sub hl [0, 1, 2, 3] rfl))
  | succ d ih =>
    intro i hi v hF c0 s0 hc hs σ H locs ls hR hP hD hS hl
    rw [Nat.succ_mul] at hc hs
    refine lv_iload hx hb dL_asks_93 (lv_at hl 3 rfl) ?_
    refine lv_aload_n hx hb dL_asks_95 rfl (lv_at hl 0 rfl) ?_
    refine lv_iload_n hx hb dL_asks_96 rfl (lv_at hl 2 rfl) ?_
    refine lv_iconst (v := 2) hx hb dL_asks_97 (by decide) ?_
    refine lc_k (v := (nI (NZ a.1 t))) (a1 := a) (cells' := c0 + 2) (slots' := s0 + 12) (fc_runSW (n := 3) (As := [.ref (ad 0), .int (nI t), .int (2 : Int32)]) (rest := [.int (nI i)]) (isC := iL) (maxL := 4) ⟨hx, hb, hml, hown, hts⟩ (LC_steps hlst ad a hB ht σ hR H.size) gL_asks_L_tourOf rfl (by decide +kernel) rfl ⟨Nat.le_of_ble_eq_true rfl, Nat.le_of_ble_eq_true rfl⟩ ⟨by show c0 + 0 + 2 ≤ 2627; omega, by show s0 + 0 + 12 ≤ 69618; omega⟩ hE hP hD hS hA (iL_C k ad σ ([] : va_W)) iL_nd hl rfl (Nat.le_of_ble_eq_true rfl) dL_asks_98) hP hD hS hA (by show c0 + 0 + 2 = c0 + 2; omega) (by show s0 + 0 + 12 = s0 + 12; omega) (fun σ H locs hR hP hD hS => ?_)
    refine lv_icmp_ge (tgt := 142) hx hb dL_asks_101 (by decide) (fun h => absurd h (nI_ge (a := i) (b := NZ a.1 t) (by omega) (by have := (BK_z hB (t := t) (by have := (BK_n hB).2; omega)).2; omega))) (fun _ => ?_)
    refine lv_iconst (v := 0) hx hb dL_asks_104 (by decide) ?_
    refine lv_istore (lv' := [(5, .int (0 : Int32)), (0, .ref (ad 0)), (1, .long v), (3, .int (nI t)), (4, .int (nI i))]) hx hb dL_asks_105 hl (by decide) rfl (fun ls hl => ?_)
    refine lpA_107 hx hb hml hts hown hA hE hlst ad a t i (c0 + 17) (s0 + 102) (by show _ ≤ 2627; omega) (by show _ ≤ 69618; omega) (it (aS a.1 t i) 5 0 v) (fun σ H locs ls hR hP hD hS hl => ?_) 5 0 (Nat.zero_add _) v rfl (c0 + 2) (s0 + 12) (by omega) (by omega) σ H locs ls hR hP hD hS (lv_sub hl [1, 2, 3, 4, 0] rfl)
    refine lv_iinc (v := (nI (i + 1))) (lv' := [(4, .int (nI (i + 1))), (0, .ref (ad 0)), (1, .long (it (aS a.1 t i) 5 0 v)), (3, .int (nI t)), (5, .int (nI 5))]) hx hb dL_asks_136 hl (k := 3) rfl (nI_add _ 1) (by decide) rfl (fun ls hl => ?_)
    refine lv_goto (tgt := 93) hx hb dL_asks_139 (by decide) ?_
    exact ih (i + 1) (by omega) (it (aS a.1 t i) 5 0 v) hF (c0 + 17) (s0 + 102) (by omega) (by omega) σ H locs ls hR hP hD hS (lv_sub hl [1, 2, 3, 0] rfl)
set_option maxRecDepth 100000 in
set_option maxHeartbeats 4000000 in
theorem lpA_198 {p : Program} {l : Launch} {e : Env} {s : State} {m : MethodId} {args : Array Value} {below : List Frame} {meth : Method} {c : Code} {D : va_G} {k : tyK} {A : Nat → Prop} {Q : State → Prop} (hx : p.tables.exec = Jvm.exec) (hb : c.code = cL_asks) (hml : c.maxLocals = 6) (hts : ∀ w ∈ wsL_asks, w.before args s = true) (hown : s.vm.findClass RL = some m.cls) (hA : ∀ q : Nat, s.heap.size ≤ q → A q) (hE : GE D k A s) (hlst : l.stackTraces = false) (ad : Nat → Nat) (a : Abs) (L : List Int32) (hL : a.2.2.2.2.2.2.2 = L) (hL9 : L.length ≤ 91) (t : Nat) (cK sK : Nat) (hcK : cK ≤ 2627) (hsK : sK ≤ 69618) (VF : Int64) (kk : ∀ (σ : TSt) (H : Heap) (locs : List Loc) (ls : Array Slot), Rep σ (a) → va_P D vwCl (WT k ad σ ++ ([] : va_W)) H → va_D A (WT k ad σ ++ ([] : va_W)) → va_S A s.heap H locs → lv_has ls 6 [(0, .ref (ad 0)), (1, .long VF), (3, .int (nI t)), (4, .int (nI L.length)), (5, .int (nI L.length))] → W p l e rm_L_asks s m args below meth c H locs cK sK Q (F0 m 225 ls [])) :
    ∀ (d i : Nat), i + d = L.length → ∀ (v : Int64), it (aC L) d i v = VF → ∀ (c0 s0 : Nat), c0 + d * 1 + 0 ≤ cK → s0 + d * 6 + 0 ≤ sK → ∀ (σ : TSt) (H : Heap) (locs : List Loc) (ls : Array Slot), Rep σ (a) → va_P D vwCl (WT k ad σ ++ ([] : va_W)) H → va_D A (WT k ad σ ++ ([] : va_W)) → va_S A s.heap H locs → lv_has ls 6 [(0, .ref (ad 0)), (1, .long v), (3, .int (nI t)), (4, .int (nI L.length)), (5, .int (nI i))] → W p l e rm_L_asks s m args below meth c H locs c0 s0 Q (F0 m 198 ls []) := by
  intro d
  induction d with
  | zero =>
    intro i hi v hF c0 s0 hc hs σ H locs ls hR hP hD hS hl
    obtain rfl : i = L.length := by omega
    have hF : v = VF := hF
    rw [hF] at hl
    rw [Nat.zero_mul, Nat.add_zero] at hc hs
    refine W.eq (g2 := F0 m 198 ls []) rfl ?_
    refine lv_iload hx hb dL_asks_198 (lv_at hl 4 rfl) ?_
    refine lv_iload hx hb dL_asks_200 (lv_at hl 3 rfl) ?_
    refine lv_icmp_ge (tgt := 225) hx hb dL_asks_202 (by decide) (fun _ => ?_) (fun h => absurd (nI_le (Nat.le_refl L.length) (by omega)) h)
    exact W.widen (by omega) (by omega) (kk σ H locs ls hR hP hD hS (lv_sub hl [0, 1, 2, 3, 4] rfl))
  | succ d ih =>
    intro i hi v hF c0 s0 hc hs σ H locs ls hR hP hD hS hl
    rw [Nat.succ_mul] at hc hs
    refine lv_iload hx hb dL_asks_198 (lv_at hl 4 rfl) ?_
    refine lv_iload hx hb dL_asks_200 (lv_at hl 3 rfl) ?_
    refine lv_icmp_ge (tgt := 225) hx hb dL_asks_202 (by decide) (fun h => absurd h (nI_ge (a := i) (b := L.length) (by omega) (by omega))) (fun _ => ?_)
    refine lv_ldc2 (v := 31) hx hb hown (hts (.constantLong RL 159 (31)) (by decide +kernel)) dL_asks_205 ?_
    refine lv_lload_n hx hb dL_asks_208 rfl (lv_at hl 1 rfl) ?_
    refine lv_lmul hx hb dL_asks_209 ?_
    refine lv_aload_n hx hb dL_asks_210 rfl (lv_at hl 0 rfl) ?_
    refine lv_iload hx hb dL_asks_211 (lv_at hl 4 rfl) ?_
    refine lc_k (v := (Q_character L (nI i))) (a1 := a) (cells' := c0 + 1) (slots' := s0 + 6) (fc_runSW (n := 2) (As := [.ref (ad 0), .int (nI i)]) (rest := [.long ((31 : Int64) * v)]) (isC := iL) (maxL := 3) ⟨hx, hb, hml, hown, hts⟩ (LC_charA hlst ad a hL (nI i) σ hR H.size) gL_asks_L_character rfl (by decide +kernel) rfl ⟨Nat.le_of_ble_eq_true rfl, Nat.le_of_ble_eq_true rfl⟩ ⟨by show c0 + 0 + 1 ≤ 2627; omega, by show s0 + 0 + 6 ≤ 69618; omega⟩ hE hP hD hS hA (iL_C k ad σ ([] : va_W)) iL_nd hl rfl (Nat.le_of_ble_eq_true rfl) dL_asks_213) hP hD hS hA (by show c0 + 0 + 1 = c0 + 1; omega) (by show s0 + 0 + 6 = s0 + 6; omega) (fun σ H locs hR hP hD hS => ?_)
    refine lv_i2l hx hb dL_asks_216 rfl ?_
    refine lv_ladd hx hb dL_asks_217 ?_
    refine lv_lstore_n (lv' := [(1, .long (((31 : Int64) * v) + ((Q_character L (nI i)).toInt64))), (0, .ref (ad 0)), (3, .int (nI t)), (4, .int (nI L.length)), (5, .int (nI i))]) hx hb dL_asks_218 rfl hl (by decide) rfl (fun ls hl => ?_)
    refine lv_iinc (v := (nI (i + 1))) (lv' := [(5, .int (nI (i + 1))), (1, .long (((31 : Int64) * v) + ((Q_character L (nI i)).toInt64))), (0, .ref (ad 0)), (3, .int (nI t)), (4, .int (nI L.length))]) hx hb dL_asks_219 hl (k := 4) rfl (nI_add _ 1) (by decide) rfl (fun ls hl => ?_)
    refine lv_goto (tgt := 198) hx hb dL_asks_222 (by decide) ?_
    exact ih (i + 1) (by omega) (((31 : Int64) * v) + ((Q_character L (nI i)).toInt64)) hF (c0 + 1) (s0 + 6) (by omega) (by omega) σ H locs ls hR hP hD hS (lv_sub hl [2, 1, 3, 4, 0] rfl)
set_option maxRecDepth 100000 in
set_option maxHeartbeats 4000000 in
theorem lpA_50 {p : Program} {l : Launch} {e : Env} {s : State} {m : MethodId} {args : Array Value} {below : List Frame} {meth : Method} {c : Code} {D : va_G} {k : tyK} {A : Nat → Prop} {Q : State → Prop} (hx : p.tables.exec = Jvm.exec) (hb : c.code = cL_asks) (hml : c.maxLocals = 6) (hts : ∀ w ∈ wsL_asks, w.before args s = true) (hown : s.vm.findClass RL = some m.cls) (hA : ∀ q : Nat, s.heap.size ≤ q → A q) (hE : GE D k A s) (hlst : l.stackTraces = false) (ad : Nat → Nat) (a : Abs) (hB : BK a.1) (LX : List Int32 → Prop) (hLX : ∀ L : List Int32, L.length ≤ 91 → LX L) (cK sK : Nat) (hcK : cK ≤ 2627) (hsK : sK ≤ 69618) (VF : Int64) (kk : ∀ (σ : TSt) (L : List Int32) (H : Heap) (locs : List Loc) (ls : Array Slot), LX L → Rep σ (withL a L) → va_P D vwCl (WT k ad σ ++ ([] : va_W)) H → va_D A (WT k ad σ ++ ([] : va_W)) → va_S A s.heap H locs → lv_has ls 6 [(0, .ref (ad 0)), (1, .long VF), (3, .int (nI (NT a.1)))] → W p l e rm_L_asks s m args below meth c H locs cK sK Q (F0 m 231 ls [])) :
    ∀ (d i : Nat), i + d = (NT a.1) → ∀ (v : Int64), it (aU a.1) d i v = VF → ∀ (c0 s0 : Nat), c0 + d * 321 + 1 ≤ cK → s0 + d * 10902 + 6 ≤ sK → ∀ (σ : TSt) (L : List Int32) (H : Heap) (locs : List Loc) (ls : Array Slot), LX L → Rep σ (withL a L) → va_P D vwCl (WT k ad σ ++ ([] : va_W)) H → va_D A (WT k ad σ ++ ([] : va_W)) → va_S A s.heap H locs → lv_has ls 6 [(0, .ref (ad 0)), (1, .long v), (3, .int (nI i))] → W p l e rm_L_asks s m args below meth c H locs c0 s0 Q (F0 m 50 ls []) := by
  intro d
  induction d with
  | zero =>
    intro i hi v hF c0 s0 hc hs σ L H locs ls hX hR hP hD hS hl
    obtain rfl : i = (NT a.1) := by omega
    have hF : v = VF := hF
    rw [hF] at hl
    rw [Nat.zero_mul, Nat.add_zero] at hc hs
    refine W.eq (g2 := F0 m 50 ls []) rfl ?_
    refine lv_iload_n hx hb dL_asks_50 rfl (lv_at hl 2 rfl) ?_
    refine lv_aload_n hx hb dL_asks_51 rfl (lv_at hl 0 rfl) ?_
    refine lv_iconst (v := 1) hx hb dL_asks_52 (by decide) ?_
    refine lc_k (v := (nI (NT a.1))) (a1 := (withL a L)) (cells' := c0 + 1) (slots' := s0 + 6) (fc_runSW (n := 2) (As := [.ref (ad 0), .int (1 : Int32)]) (rest := [.int (nI (NT a.1))]) (isC := iL) (maxL := 3) ⟨hx, hb, hml, hown, hts⟩ (LC_count hlst ad (withL a L) hB σ hR H.size) gL_asks_L_number rfl (by decide +kernel) rfl ⟨Nat.le_of_ble_eq_true rfl, Nat.le_of_ble_eq_true rfl⟩ ⟨by show c0 + 0 + 1 ≤ 2627; omega, by show s0 + 0 + 6 ≤ 69618; omega⟩ hE hP hD hS hA (iL_C k ad σ ([] : va_W)) iL_nd hl rfl (Nat.le_of_ble_eq_true rfl) dL_asks_53) hP hD hS hA (by show c0 + 0 + 1 = c0 + 1; omega) (by show s0 + 0 + 6 = s0 + 6; omega) (fun σ H locs hR hP hD hS => ?_)
    refine lv_icmp_ge (tgt := 231) hx hb dL_asks_56 (by decide) (fun _ => ?_) (fun h => absurd (nI_le (Nat.le_refl (NT a.1)) (by have := (BK_n hB).2; omega)) h)
    exact W.widen (by omega) (by omega) (kk σ L H locs ls hX hR hP hD hS (lv_sub hl [0, 1, 2] rfl))
  | succ d ih =>
    intro i hi v hF c0 s0 hc hs σ L H locs ls hX hR hP hD hS hl
    rw [Nat.succ_mul] at hc hs
    refine lv_iload_n hx hb dL_asks_50 rfl (lv_at hl 2 rfl) ?_
    refine lv_aload_n hx hb dL_asks_51 rfl (lv_at hl 0 rfl) ?_
    refine lv_iconst (v := 1) hx hb dL_asks_52 (by decide) ?_
    refine lc_k (v := (nI (NT a.1))) (a1 := (withL a L)) (cells' := c0 + 1) (slots' := s0 + 6) (fc_runSW (n := 2) (As := [.ref (ad 0), .int (1 : Int32)]) (rest := [.int (nI i)]) (isC := iL) (maxL := 3) ⟨hx, hb, hml, hown, hts⟩ (LC_count hlst ad (withL a L) hB σ hR H.size) gL_asks_L_number rfl (by decide +kernel) rfl ⟨Nat.le_of_ble_eq_true rfl, Nat.le_of_ble_eq_true rfl⟩ ⟨by show c0 + 0 + 1 ≤ 2627; omega, by show s0 + 0 + 6 ≤ 69618; omega⟩ hE hP hD hS hA (iL_C k ad σ ([] : va_W)) iL_nd hl rfl (Nat.le_of_ble_eq_true rfl) dL_asks_53) hP hD hS hA (by show c0 + 0 + 1 = c0 + 1; omega) (by show s0 + 0 + 6 = s0 + 6; omega) (fun σ H locs hR hP hD hS => ?_)
    refine lv_icmp_ge (tgt := 231) hx hb dL_asks_56 (by decide) (fun h => absurd h (nI_ge (a := i) (b := NT a.1) (by omega) (by have := (BK_n hB).2; omega))) (fun _ => ?_)
    refine lv_iconst (v := 0) hx hb dL_asks_59 (by decide) ?_
    refine lv_istore (lv' := [(4, .int (0 : Int32)), (0, .ref (ad 0)), (1, .long v), (3, .int (nI i))]) hx hb dL_asks_60 hl (by decide) rfl (fun ls hl => ?_)
    refine lpA_62 hx hb hml hts hown hA hE hlst ad (withL a L) i (c0 + 19) (s0 + 114) (by show _ ≤ 2627; omega) (by show _ ≤ 69618; omega) (it (aT a.1 i) 9 0 v) (fun σ H locs ls hR hP hD hS hl => ?_) 9 0 (Nat.zero_add _) v rfl (c0 + 1) (s0 + 6) (by omega) (by omega) σ H locs ls hR hP hD hS (lv_sub hl [1, 2, 3, 0] rfl)
    refine lv_iconst (v := 0) hx hb dL_asks_90 (by decide) ?_
    refine lv_istore (lv' := [(4, .int (0 : Int32)), (0, .ref (ad 0)), (1, .long (it (aT a.1 i) 9 0 v)), (3, .int (nI i))]) hx hb dL_asks_91 hl (by decide) rfl (fun ls hl => ?_)
    have hz := (BK_z hB (t := i) (by have := (BK_n hB).2; omega)).2
    refine lpA_93 hx hb hml hts hown hA hE hlst ad (withL a L) hB (t := i) (by show i < NT a.1; omega) (c0 + 157) (s0 + 942) (by show _ ≤ 2627; omega) (by show _ ≤ 69618; omega) (it (aZ a.1 i) (NZ a.1 i) 0 (it (aT a.1 i) 9 0 v)) (fun σ H locs ls hR hP hD hS hl => ?_) (NZ a.1 i) 0 (Nat.zero_add _) (it (aT a.1 i) 9 0 v) rfl (c0 + 19) (s0 + 114) (by omega) (by omega) σ H locs ls hR hP hD hS (lv_sub hl [1, 2, 3, 0] rfl)
    refine lv_ldc2 (v := 31) hx hb hown (hts (.constantLong RL 159 (31)) (by decide +kernel)) dL_asks_142 ?_
    refine lv_ldc2 (v := 31) hx hb hown (hts (.constantLong RL 159 (31)) (by decide +kernel)) dL_asks_145 ?_
    refine lv_ldc2 (v := 31) hx hb hown (hts (.constantLong RL 159 (31)) (by decide +kernel)) dL_asks_148 ?_
    refine lv_ldc2 (v := 31) hx hb hown (hts (.constantLong RL 159 (31)) (by decide +kernel)) dL_asks_151 ?_
    refine lv_lload_n hx hb dL_asks_154 rfl (lv_at hl 1 rfl) ?_
    refine lv_lmul hx hb dL_asks_155 ?_
    refine lv_aload_n hx hb dL_asks_156 rfl (lv_at hl 0 rfl) ?_
    refine lv_iload_n hx hb dL_asks_157 rfl (lv_at hl 2 rfl) ?_
    refine lc_k (v := (Q_faultOf a.1 (nI i))) (a1 := (withL a L)) (cells' := c0 + 159) (slots' := s0 + 954) (fc_runSW (n := 2) (As := [.ref (ad 0), .int (nI i)]) (rest := [.long ((31 : Int64) * (it (aZ a.1 i) (NZ a.1 i) 0 (it (aT a.1 i) 9 0 v))), .long (31 : Int64), .long (31 : Int64), .long (31 : Int64)]) (isC := iL) (maxL := 3) ⟨hx, hb, hml, hown, hts⟩ (LC_faultOf hlst ad (withL a L) (nI i) σ hR H.size) gL_asks_L_faultOf rfl (by decide +kernel) rfl ⟨Nat.le_of_ble_eq_true rfl, Nat.le_of_ble_eq_true rfl⟩ ⟨by show c0 + 157 + 2 ≤ 2627; omega, by show s0 + 942 + 12 ≤ 69618; omega⟩ hE hP hD hS hA (iL_C k ad σ ([] : va_W)) iL_nd hl rfl (Nat.le_of_ble_eq_true rfl) dL_asks_158) hP hD hS hA (by show c0 + 157 + 2 = c0 + 159; omega) (by show s0 + 942 + 12 = s0 + 954; omega) (fun σ H locs hR hP hD hS => ?_)
    refine lv_i2l hx hb dL_asks_161 rfl ?_
    refine lv_ladd hx hb dL_asks_162 ?_
    refine lv_lmul hx hb dL_asks_163 ?_
    refine lv_aload_n hx hb dL_asks_164 rfl (lv_at hl 0 rfl) ?_
    refine lv_iload_n hx hb dL_asks_165 rfl (lv_at hl 2 rfl) ?_
    refine lc_k (v := (Q_endsIn a.1 (nI i))) (a1 := (withL a L)) (cells' := c0 + 161) (slots' := s0 + 966) (fc_runSW (n := 2) (As := [.ref (ad 0), .int (nI i)]) (rest := [.long ((31 : Int64) * (((31 : Int64) * (it (aZ a.1 i) (NZ a.1 i) 0 (it (aT a.1 i) 9 0 v))) + ((Q_faultOf a.1 (nI i)).toInt64))), .long (31 : Int64), .long (31 : Int64)]) (isC := iL) (maxL := 3) ⟨hx, hb, hml, hown, hts⟩ (LC_endsIn hlst ad (withL a L) (nI i) σ hR H.size) gL_asks_L_endsIn rfl (by decide +kernel) rfl ⟨Nat.le_of_ble_eq_true rfl, Nat.le_of_ble_eq_true rfl⟩ ⟨by show c0 + 159 + 2 ≤ 2627; omega, by show s0 + 954 + 12 ≤ 69618; omega⟩ hE hP hD hS hA (iL_C k ad σ ([] : va_W)) iL_nd hl rfl (Nat.le_of_ble_eq_true rfl) dL_asks_166) hP hD hS hA (by show c0 + 159 + 2 = c0 + 161; omega) (by show s0 + 954 + 12 = s0 + 966; omega) (fun σ H locs hR hP hD hS => ?_)
    refine lv_i2l hx hb dL_asks_169 rfl ?_
    refine lv_ladd hx hb dL_asks_170 ?_
    refine lv_lmul hx hb dL_asks_171 ?_
    refine lv_aload_n hx hb dL_asks_172 rfl (lv_at hl 0 rfl) ?_
    refine lv_iload_n hx hb dL_asks_173 rfl (lv_at hl 2 rfl) ?_
    refine lc_k (v := (Q_costs a.1 (nI i))) (a1 := (withL a L)) (cells' := c0 + 162) (slots' := s0 + 972) (fc_runSW (n := 2) (As := [.ref (ad 0), .int (nI i)]) (rest := [.long ((31 : Int64) * (((31 : Int64) * (((31 : Int64) * (it (aZ a.1 i) (NZ a.1 i) 0 (it (aT a.1 i) 9 0 v))) + ((Q_faultOf a.1 (nI i)).toInt64))) + ((Q_endsIn a.1 (nI i)).toInt64))), .long (31 : Int64)]) (isC := iL) (maxL := 3) ⟨hx, hb, hml, hown, hts⟩ (LC_costs hlst ad (withL a L) (nI i) σ hR H.size) gL_asks_L_costs rfl (by decide +kernel) rfl ⟨Nat.le_of_ble_eq_true rfl, Nat.le_of_ble_eq_true rfl⟩ ⟨by show c0 + 161 + 1 ≤ 2627; omega, by show s0 + 966 + 6 ≤ 69618; omega⟩ hE hP hD hS hA (iL_C k ad σ ([] : va_W)) iL_nd hl rfl (Nat.le_of_ble_eq_true rfl) dL_asks_174) hP hD hS hA (by show c0 + 161 + 1 = c0 + 162; omega) (by show s0 + 966 + 6 = s0 + 972; omega) (fun σ H locs hR hP hD hS => ?_)
    refine lv_i2l hx hb dL_asks_177 rfl ?_
    refine lv_ladd hx hb dL_asks_178 ?_
    refine lv_lmul hx hb dL_asks_179 ?_
    refine lv_aload_n hx hb dL_asks_180 rfl (lv_at hl 0 rfl) ?_
    refine lv_iload_n hx hb dL_asks_181 rfl (lv_at hl 2 rfl) ?_
    refine lc_k (v := (Q_ranked a.1 (nI i))) (a1 := (withL a L)) (cells' := c0 + 163) (slots' := s0 + 978) (fc_runSW (n := 2) (As := [.ref (ad 0), .int (nI i)]) (rest := [.long ((31 : Int64) * (((31 : Int64) * (((31 : Int64) * (((31 : Int64) * (it (aZ a.1 i) (NZ a.1 i) 0 (it (aT a.1 i) 9 0 v))) + ((Q_faultOf a.1 (nI i)).toInt64))) + ((Q_endsIn a.1 (nI i)).toInt64))) + ((Q_costs a.1 (nI i)).toInt64)))]) (isC := iL) (maxL := 3) ⟨hx, hb, hml, hown, hts⟩ (LC_ranked hlst ad (withL a L) (nI i) σ hR H.size) gL_asks_L_ranked rfl (by decide +kernel) rfl ⟨Nat.le_of_ble_eq_true rfl, Nat.le_of_ble_eq_true rfl⟩ ⟨by show c0 + 162 + 1 ≤ 2627; omega, by show s0 + 972 + 6 ≤ 69618; omega⟩ hE hP hD hS hA (iL_C k ad σ ([] : va_W)) iL_nd hl rfl (Nat.le_of_ble_eq_true rfl) dL_asks_182) hP hD hS hA (by show c0 + 162 + 1 = c0 + 163; omega) (by show s0 + 972 + 6 = s0 + 978; omega) (fun σ H locs hR hP hD hS => ?_)
    refine lv_i2l hx hb dL_asks_185 rfl ?_
    refine lv_ladd hx hb dL_asks_186 ?_
    refine lv_lstore_n (lv' := [(1, .long (((31 : Int64) * (((31 : Int64) * (((31 : Int64) * (((31 : Int64) * (it (aZ a.1 i) (NZ a.1 i) 0 (it (aT a.1 i) 9 0 v))) + ((Q_faultOf a.1 (nI i)).toInt64))) + ((Q_endsIn a.1 (nI i)).toInt64))) + ((Q_costs a.1 (nI i)).toInt64))) + ((Q_ranked a.1 (nI i)).toInt64))), (0, .ref (ad 0)), (3, .int (nI i)), (4, .int (nI (NZ a.1 i)))]) hx hb dL_asks_187 rfl hl (by decide) rfl (fun ls hl => ?_)
    refine lv_aload_n hx hb dL_asks_188 rfl (lv_at hl 1 rfl) ?_
    refine lv_iload_n hx hb dL_asks_189 rfl (lv_at hl 2 rfl) ?_
    refine lc_k (v := (nI (lineOf a.1 (nI i)).length)) (a1 := (withL a (lineOf a.1 (nI i)))) (cells' := c0 + 230) (slots' := s0 + 10356) (fc_runSW (n := 2) (As := [.ref (ad 0), .int (nI i)]) (rest := []) (isC := iL) (maxL := 3) ⟨hx, hb, hml, hown, hts⟩ (LC_lineIn hlst ad (withL a L) hB (t := i) (by show i < NT a.1; omega) σ hR H.size) gL_asks_L_line rfl (by decide +kernel) rfl ⟨Nat.le_of_ble_eq_true rfl, Nat.le_of_ble_eq_true rfl⟩ ⟨by show c0 + 163 + 67 ≤ 2627; omega, by show s0 + 978 + 9378 ≤ 69618; omega⟩ hE hP hD hS hA (iL_C k ad σ ([] : va_W)) iL_nd hl rfl (Nat.le_of_ble_eq_true rfl) dL_asks_190) hP hD hS hA (by show c0 + 163 + 67 = c0 + 230; omega) (by show s0 + 978 + 9378 = s0 + 10356; omega) (fun σ H locs hR hP hD hS => ?_)
    refine lv_istore (lv' := [(4, .int (nI (lineOf a.1 (nI i)).length)), (1, .long (((31 : Int64) * (((31 : Int64) * (((31 : Int64) * (((31 : Int64) * (it (aZ a.1 i) (NZ a.1 i) 0 (it (aT a.1 i) 9 0 v))) + ((Q_faultOf a.1 (nI i)).toInt64))) + ((Q_endsIn a.1 (nI i)).toInt64))) + ((Q_costs a.1 (nI i)).toInt64))) + ((Q_ranked a.1 (nI i)).toInt64))), (0, .ref (ad 0)), (3, .int (nI i))]) hx hb dL_asks_193 hl (by decide) rfl (fun ls hl => ?_)
    refine lv_iconst (v := 0) hx hb dL_asks_195 (by decide) ?_
    refine lv_istore (lv' := [(5, .int (0 : Int32)), (4, .int (nI (lineOf a.1 (nI i)).length)), (1, .long (((31 : Int64) * (((31 : Int64) * (((31 : Int64) * (((31 : Int64) * (it (aZ a.1 i) (NZ a.1 i) 0 (it (aT a.1 i) 9 0 v))) + ((Q_faultOf a.1 (nI i)).toInt64))) + ((Q_endsIn a.1 (nI i)).toInt64))) + ((Q_costs a.1 (nI i)).toInt64))) + ((Q_ranked a.1 (nI i)).toInt64))), (0, .ref (ad 0)), (3, .int (nI i))]) hx hb dL_asks_196 hl (by decide) rfl (fun ls hl => ?_)
    have hq := line_91 hB (t := i) (by omega)
    refine lpA_198 hx hb hml hts hown hA hE hlst ad (withL a (lineOf a.1 (nI i))) (lineOf a.1 (nI i)) rfl hq i (c0 + 321) (s0 + 10902) (by show _ ≤ 2627; omega) (by show _ ≤ 69618; omega) (it (aC (lineOf a.1 (nI i))) ((lineOf a.1 (nI i)).length) 0 (((31 : Int64) * (((31 : Int64) * (((31 : Int64) * (((31 : Int64) * (it (aZ a.1 i) (NZ a.1 i) 0 (it (aT a.1 i) 9 0 v))) + ((Q_faultOf a.1 (nI i)).toInt64))) + ((Q_endsIn a.1 (nI i)).toInt64))) + ((Q_costs a.1 (nI i)).toInt64))) + ((Q_ranked a.1 (nI i)).toInt64))) (fun σ H locs ls hR hP hD hS hl => ?_) ((lineOf a.1 (nI i)).length) 0 (Nat.zero_add _) (((31 : Int64) * (((31 : Int64) * (((31 : Int64) * (((31 : Int64) * (it (aZ a.1 i) (NZ a.1 i) 0 (it (aT a.1 i) 9 0 v))) + ((Q_faultOf a.1 (nI i)).toInt64))) + ((Q_endsIn a.1 (nI i)).toInt64))) + ((Q_costs a.1 (nI i)).toInt64))) + ((Q_ranked a.1 (nI i)).toInt64)) rfl (c0 + 230) (s0 + 10356) (by omega) (by omega) σ H locs ls hR hP hD hS (lv_sub hl [3, 2, 4, 1, 0] rfl)
    refine lv_iinc (v := (nI (i + 1))) (lv' := [(3, .int (nI (i + 1))), (0, .ref (ad 0)), (1, .long (it (aC (lineOf a.1 (nI i))) ((lineOf a.1 (nI i)).length) 0 (((31 : Int64) * (((31 : Int64) * (((31 : Int64) * (((31 : Int64) * (it (aZ a.1 i) (NZ a.1 i) 0 (it (aT a.1 i) 9 0 v))) + ((Q_faultOf a.1 (nI i)).toInt64))) + ((Q_endsIn a.1 (nI i)).toInt64))) + ((Q_costs a.1 (nI i)).toInt64))) + ((Q_ranked a.1 (nI i)).toInt64)))), (4, .int (nI (lineOf a.1 (nI i)).length)), (5, .int (nI (lineOf a.1 (nI i)).length))]) hx hb dL_asks_225 hl (k := 2) rfl (nI_add _ 1) (by decide) rfl (fun ls hl => ?_)
    refine lv_goto (tgt := 50) hx hb dL_asks_228 (by decide) ?_
    exact ih (i + 1) (by omega) (it (aC (lineOf a.1 (nI i))) ((lineOf a.1 (nI i)).length) 0 (((31 : Int64) * (((31 : Int64) * (((31 : Int64) * (((31 : Int64) * (it (aZ a.1 i) (NZ a.1 i) 0 (it (aT a.1 i) 9 0 v))) + ((Q_faultOf a.1 (nI i)).toInt64))) + ((Q_endsIn a.1 (nI i)).toInt64))) + ((Q_costs a.1 (nI i)).toInt64))) + ((Q_ranked a.1 (nI i)).toInt64))) hF (c0 + 321) (s0 + 10902) (by omega) (by omega) σ (lineOf a.1 (nI i)) H locs ls (hLX _ hq) hR hP hD hS (lv_sub hl [1, 2, 0] rfl)
set_option maxRecDepth 100000 in
set_option maxHeartbeats 4000000 in
theorem lpA_241 {p : Program} {l : Launch} {e : Env} {s : State} {m : MethodId} {args : Array Value} {below : List Frame} {meth : Method} {c : Code} {D : va_G} {k : tyK} {A : Nat → Prop} {Q : State → Prop} (hx : p.tables.exec = Jvm.exec) (hb : c.code = cL_asks) (hml : c.maxLocals = 6) (hts : ∀ w ∈ wsL_asks, w.before args s = true) (hown : s.vm.findClass RL = some m.cls) (hA : ∀ q : Nat, s.heap.size ≤ q → A q) (hE : GE D k A s) (hlst : l.stackTraces = false) (ad : Nat → Nat) (a : Abs) (t : Nat) (cK sK : Nat) (hcK : cK ≤ 2627) (hsK : sK ≤ 69618) (VF : Int64) (kk : ∀ (σ : TSt) (H : Heap) (locs : List Loc) (ls : Array Slot), Rep σ (a) → va_P D vwCl (WT k ad σ ++ ([] : va_W)) H → va_D A (WT k ad σ ++ ([] : va_W)) → va_S A s.heap H locs → lv_has ls 6 [(0, .ref (ad 0)), (1, .long VF), (3, .int (nI t)), (4, .int (nI 4))] → W p l e rm_L_asks s m args below meth c H locs cK sK Q (F0 m 268 ls [])) :
    ∀ (d i : Nat), i + d = 4 → ∀ (v : Int64), it (aW a.1 t) d i v = VF → ∀ (c0 s0 : Nat), c0 + d * 2 + 0 ≤ cK → s0 + d * 12 + 0 ≤ sK → ∀ (σ : TSt) (H : Heap) (locs : List Loc) (ls : Array Slot), Rep σ (a) → va_P D vwCl (WT k ad σ ++ ([] : va_W)) H → va_D A (WT k ad σ ++ ([] : va_W)) → va_S A s.heap H locs → lv_has ls 6 [(0, .ref (ad 0)), (1, .long v), (3, .int (nI t)), (4, .int (nI i))] → W p l e rm_L_asks s m args below meth c H locs c0 s0 Q (F0 m 241 ls []) := by
  intro d
  induction d with
  | zero =>
    intro i hi v hF c0 s0 hc hs σ H locs ls hR hP hD hS hl
    obtain rfl : i = 4 := by omega
    have hF : v = VF := hF
    rw [hF] at hl
    rw [Nat.zero_mul, Nat.add_zero] at hc hs
    refine W.eq (g2 := F0 m 241 ls []) rfl ?_
    refine lv_iload hx hb dL_asks_241 (lv_at hl 3 rfl) ?_
    refine lv_iconst (v := 4) hx hb dL_asks_243 (by decide) ?_
    refine lv_icmp_ge (tgt := 268) hx hb dL_asks_244 (by decide) (fun _ => ?_) (fun h => absurd (nI_le (Nat.le_refl 4) (by omega)) h)
    exact W.widen (by omega) (by omega) (kk σ H locs ls hR hP hD hS (lv_sub hl [0, 1, 2, 3] rfl))
  | succ d ih =>
    intro i hi v hF c0 s0 hc hs σ H locs ls hR hP hD hS hl
    rw [Nat.succ_mul] at hc hs
    refine lv_iload hx hb dL_asks_241 (lv_at hl 3 rfl) ?_
    refine lv_iconst (v := 4) hx hb dL_asks_243 (by decide) ?_
    refine lv_icmp_ge (tgt := 268) hx hb dL_asks_244 (by decide) (fun h => absurd h (nI_ge (a := i) (b := 4) (by omega) (by omega))) (fun _ => ?_)
    refine lv_ldc2 (v := 31) hx hb hown (hts (.constantLong RL 159 (31)) (by decide +kernel)) dL_asks_247 ?_
    refine lv_lload_n hx hb dL_asks_250 rfl (lv_at hl 1 rfl) ?_
    refine lv_lmul hx hb dL_asks_251 ?_
    refine lv_aload_n hx hb dL_asks_252 rfl (lv_at hl 0 rfl) ?_
    refine lv_iload_n hx hb dL_asks_253 rfl (lv_at hl 2 rfl) ?_
    refine lv_iload hx hb dL_asks_254 (lv_at hl 3 rfl) ?_
    refine lc_k (v := (Q_townOf a.1 (nI t) (nI i))) (a1 := a) (cells' := c0 + 2) (slots' := s0 + 12) (fc_runSW (n := 3) (As := [.ref (ad 0), .int (nI t), .int (nI i)]) (rest := [.long ((31 : Int64) * v)]) (isC := iL) (maxL := 4) ⟨hx, hb, hml, hown, hts⟩ (LC_townOf hlst ad a (nI t) (nI i) σ hR H.size) gL_asks_L_townOf rfl (by decide +kernel) rfl ⟨Nat.le_of_ble_eq_true rfl, Nat.le_of_ble_eq_true rfl⟩ ⟨by show c0 + 0 + 2 ≤ 2627; omega, by show s0 + 0 + 12 ≤ 69618; omega⟩ hE hP hD hS hA (iL_C k ad σ ([] : va_W)) iL_nd hl rfl (Nat.le_of_ble_eq_true rfl) dL_asks_256) hP hD hS hA (by show c0 + 0 + 2 = c0 + 2; omega) (by show s0 + 0 + 12 = s0 + 12; omega) (fun σ H locs hR hP hD hS => ?_)
    refine lv_i2l hx hb dL_asks_259 rfl ?_
    refine lv_ladd hx hb dL_asks_260 ?_
    refine lv_lstore_n (lv' := [(1, .long (((31 : Int64) * v) + ((Q_townOf a.1 (nI t) (nI i)).toInt64))), (0, .ref (ad 0)), (3, .int (nI t)), (4, .int (nI i))]) hx hb dL_asks_261 rfl hl (by decide) rfl (fun ls hl => ?_)
    refine lv_iinc (v := (nI (i + 1))) (lv' := [(4, .int (nI (i + 1))), (1, .long (((31 : Int64) * v) + ((Q_townOf a.1 (nI t) (nI i)).toInt64))), (0, .ref (ad 0)), (3, .int (nI t))]) hx hb dL_asks_262 hl (k := 3) rfl (nI_add _ 1) (by decide) rfl (fun ls hl => ?_)
    refine lv_goto (tgt := 241) hx hb dL_asks_265 (by decide) ?_
    exact ih (i + 1) (by omega) (((31 : Int64) * v) + ((Q_townOf a.1 (nI t) (nI i)).toInt64)) hF (c0 + 2) (s0 + 12) (by omega) (by omega) σ H locs ls hR hP hD hS (lv_sub hl [2, 1, 3, 0] rfl)
set_option maxRecDepth 100000 in
set_option maxHeartbeats 4000000 in
theorem lpA_281 {p : Program} {l : Launch} {e : Env} {s : State} {m : MethodId} {args : Array Value} {below : List Frame} {meth : Method} {c : Code} {D : va_G} {k : tyK} {A : Nat → Prop} {Q : State → Prop} (hx : p.tables.exec = Jvm.exec) (hb : c.code = cL_asks) (hml : c.maxLocals = 6) (hts : ∀ w ∈ wsL_asks, w.before args s = true) (hown : s.vm.findClass RL = some m.cls) (hA : ∀ q : Nat, s.heap.size ≤ q → A q) (hE : GE D k A s) (hlst : l.stackTraces = false) (ad : Nat → Nat) (a : Abs) (t z : Nat) (cK sK : Nat) (hcK : cK ≤ 2627) (hsK : sK ≤ 69618) (VF : Int64) (kk : ∀ (σ : TSt) (H : Heap) (locs : List Loc) (ls : Array Slot), Rep σ (a) → va_P D vwCl (WT k ad σ ++ ([] : va_W)) H → va_D A (WT k ad σ ++ ([] : va_W)) → va_S A s.heap H locs → lv_has ls 6 [(0, .ref (ad 0)), (1, .long VF), (3, .int (nI t)), (4, .int (nI z)), (5, .int (nI 3))] → W p l e rm_L_asks s m args below meth c H locs cK sK Q (F0 m 325 ls [])) :
    ∀ (d i : Nat), i + d = 3 → ∀ (v : Int64), it (aL a.1 t z) d i v = VF → ∀ (c0 s0 : Nat), c0 + d * 6 + 0 ≤ cK → s0 + d * 36 + 0 ≤ sK → ∀ (σ : TSt) (H : Heap) (locs : List Loc) (ls : Array Slot), Rep σ (a) → va_P D vwCl (WT k ad σ ++ ([] : va_W)) H → va_D A (WT k ad σ ++ ([] : va_W)) → va_S A s.heap H locs → lv_has ls 6 [(0, .ref (ad 0)), (1, .long v), (3, .int (nI t)), (4, .int (nI z)), (5, .int (nI i))] → W p l e rm_L_asks s m args below meth c H locs c0 s0 Q (F0 m 281 ls []) := by
  intro d
  induction d with
  | zero =>
    intro i hi v hF c0 s0 hc hs σ H locs ls hR hP hD hS hl
    obtain rfl : i = 3 := by omega
    have hF : v = VF := hF
    rw [hF] at hl
    rw [Nat.zero_mul, Nat.add_zero] at hc hs
    refine W.eq (g2 := F0 m 281 ls []) rfl ?_
    refine lv_iload hx hb dL_asks_281 (lv_at hl 4 rfl) ?_
    refine lv_iconst (v := 3) hx hb dL_asks_283 (by decide) ?_
    refine lv_icmp_ge (tgt := 325) hx hb dL_asks_284 (by decide) (fun _ => ?_) (fun h => absurd (nI_le (Nat.le_refl 3) (by omega)) h)
    exact W.widen (by omega) (by omega) (kk σ H locs ls hR hP hD hS (lv_sub hl [0, 1, 2, 3, 4] rfl))
  | succ d ih =>
    intro i hi v hF c0 s0 hc hs σ H locs ls hR hP hD hS hl
    rw [Nat.succ_mul] at hc hs
    refine lv_iload hx hb dL_asks_281 (lv_at hl 4 rfl) ?_
    refine lv_iconst (v := 3) hx hb dL_asks_283 (by decide) ?_
    refine lv_icmp_ge (tgt := 325) hx hb dL_asks_284 (by decide) (fun h => absurd h (nI_ge (a := i) (b := 3) (by omega) (by omega))) (fun _ => ?_)
    refine lv_ldc2 (v := 31) hx hb hown (hts (.constantLong RL 159 (31)) (by decide +kernel)) dL_asks_287 ?_
    refine lv_ldc2 (v := 31) hx hb hown (hts (.constantLong RL 159 (31)) (by decide +kernel)) dL_asks_290 ?_
    refine lv_lload_n hx hb dL_asks_293 rfl (lv_at hl 1 rfl) ?_
    refine lv_lmul hx hb dL_asks_294 ?_
    refine lv_aload_n hx hb dL_asks_295 rfl (lv_at hl 0 rfl) ?_
    refine lv_iload hx hb dL_asks_296 (lv_at hl 4 rfl) ?_
    refine lv_iload_n hx hb dL_asks_298 rfl (lv_at hl 2 rfl) ?_
    refine lv_iload hx hb dL_asks_299 (lv_at hl 3 rfl) ?_
    refine lc_k (v := (Q_left a.1 (nI i) (nI t) (nI z))) (a1 := a) (cells' := c0 + 3) (slots' := s0 + 18) (fc_runSW (n := 4) (As := [.ref (ad 0), .int (nI i), .int (nI t), .int (nI z)]) (rest := [.long ((31 : Int64) * v), .long (31 : Int64)]) (isC := iL) (maxL := 5) ⟨hx, hb, hml, hown, hts⟩ (LC_left hlst ad a (nI i) (nI t) (nI z) σ hR H.size) gL_asks_L_left rfl (by decide +kernel) rfl ⟨Nat.le_of_ble_eq_true rfl, Nat.le_of_ble_eq_true rfl⟩ ⟨by show c0 + 0 + 3 ≤ 2627; omega, by show s0 + 0 + 18 ≤ 69618; omega⟩ hE hP hD hS hA (iL_C k ad σ ([] : va_W)) iL_nd hl rfl (Nat.le_of_ble_eq_true rfl) dL_asks_301) hP hD hS hA (by show c0 + 0 + 3 = c0 + 3; omega) (by show s0 + 0 + 18 = s0 + 18; omega) (fun σ H locs hR hP hD hS => ?_)
    refine lv_i2l hx hb dL_asks_304 rfl ?_
    refine lv_ladd hx hb dL_asks_305 ?_
    refine lv_lmul hx hb dL_asks_306 ?_
    refine lv_aload_n hx hb dL_asks_307 rfl (lv_at hl 0 rfl) ?_
    refine lv_iload hx hb dL_asks_308 (lv_at hl 4 rfl) ?_
    refine lv_iload_n hx hb dL_asks_310 rfl (lv_at hl 2 rfl) ?_
    refine lv_iload hx hb dL_asks_311 (lv_at hl 3 rfl) ?_
    refine lc_k (v := (Q_leftAgain a.1 (nI i) (nI t) (nI z))) (a1 := a) (cells' := c0 + 6) (slots' := s0 + 36) (fc_runSW (n := 4) (As := [.ref (ad 0), .int (nI i), .int (nI t), .int (nI z)]) (rest := [.long ((31 : Int64) * (((31 : Int64) * v) + ((Q_left a.1 (nI i) (nI t) (nI z)).toInt64)))]) (isC := iL) (maxL := 5) ⟨hx, hb, hml, hown, hts⟩ (LC_leftAgain hlst ad a (nI i) (nI t) (nI z) σ hR H.size) gL_asks_L_leftAgain rfl (by decide +kernel) rfl ⟨Nat.le_of_ble_eq_true rfl, Nat.le_of_ble_eq_true rfl⟩ ⟨by show c0 + 3 + 3 ≤ 2627; omega, by show s0 + 18 + 18 ≤ 69618; omega⟩ hE hP hD hS hA (iL_C k ad σ ([] : va_W)) iL_nd hl rfl (Nat.le_of_ble_eq_true rfl) dL_asks_313) hP hD hS hA (by show c0 + 3 + 3 = c0 + 6; omega) (by show s0 + 18 + 18 = s0 + 36; omega) (fun σ H locs hR hP hD hS => ?_)
    refine lv_i2l hx hb dL_asks_316 rfl ?_
    refine lv_ladd hx hb dL_asks_317 ?_
    refine lv_lstore_n (lv' := [(1, .long (((31 : Int64) * (((31 : Int64) * v) + ((Q_left a.1 (nI i) (nI t) (nI z)).toInt64))) + ((Q_leftAgain a.1 (nI i) (nI t) (nI z)).toInt64))), (0, .ref (ad 0)), (3, .int (nI t)), (4, .int (nI z)), (5, .int (nI i))]) hx hb dL_asks_318 rfl hl (by decide) rfl (fun ls hl => ?_)
    refine lv_iinc (v := (nI (i + 1))) (lv' := [(5, .int (nI (i + 1))), (1, .long (((31 : Int64) * (((31 : Int64) * v) + ((Q_left a.1 (nI i) (nI t) (nI z)).toInt64))) + ((Q_leftAgain a.1 (nI i) (nI t) (nI z)).toInt64))), (0, .ref (ad 0)), (3, .int (nI t)), (4, .int (nI z))]) hx hb dL_asks_319 hl (k := 4) rfl (nI_add _ 1) (by decide) rfl (fun ls hl => ?_)
    refine lv_goto (tgt := 281) hx hb dL_asks_322 (by decide) ?_
    exact ih (i + 1) (by omega) (((31 : Int64) * (((31 : Int64) * v) + ((Q_left a.1 (nI i) (nI t) (nI z)).toInt64))) + ((Q_leftAgain a.1 (nI i) (nI t) (nI z)).toInt64)) hF (c0 + 6) (s0 + 36) (by omega) (by omega) σ H locs ls hR hP hD hS (lv_sub hl [2, 1, 3, 4, 0] rfl)
set_option maxRecDepth 100000 in
set_option maxHeartbeats 4000000 in
theorem lpA_271 {p : Program} {l : Launch} {e : Env} {s : State} {m : MethodId} {args : Array Value} {below : List Frame} {meth : Method} {c : Code} {D : va_G} {k : tyK} {A : Nat → Prop} {Q : State → Prop} (hx : p.tables.exec = Jvm.exec) (hb : c.code = cL_asks) (hml : c.maxLocals = 6) (hts : ∀ w ∈ wsL_asks, w.before args s = true) (hown : s.vm.findClass RL = some m.cls) (hA : ∀ q : Nat, s.heap.size ≤ q → A q) (hE : GE D k A s) (hlst : l.stackTraces = false) (ad : Nat → Nat) (a : Abs) (t : Nat) (cK sK : Nat) (hcK : cK ≤ 2627) (hsK : sK ≤ 69618) (VF : Int64) (kk : ∀ (σ : TSt) (H : Heap) (locs : List Loc) (ls : Array Slot), Rep σ (a) → va_P D vwCl (WT k ad σ ++ ([] : va_W)) H → va_D A (WT k ad σ ++ ([] : va_W)) → va_S A s.heap H locs → lv_has ls 6 [(0, .ref (ad 0)), (1, .long VF), (3, .int (nI t)), (4, .int (nI (3 * 7)))] → W p l e rm_L_asks s m args below meth c H locs cK sK Q (F0 m 331 ls [])) :
    ∀ (d i : Nat), i + d = 7 → ∀ (v : Int64), it (aD a.1 t) d i v = VF → ∀ (c0 s0 : Nat), c0 + d * 18 + 0 ≤ cK → s0 + d * 108 + 0 ≤ sK → ∀ (σ : TSt) (H : Heap) (locs : List Loc) (ls : Array Slot), Rep σ (a) → va_P D vwCl (WT k ad σ ++ ([] : va_W)) H → va_D A (WT k ad σ ++ ([] : va_W)) → va_S A s.heap H locs → lv_has ls 6 [(0, .ref (ad 0)), (1, .long v), (3, .int (nI t)), (4, .int (nI (3 * i)))] → W p l e rm_L_asks s m args below meth c H locs c0 s0 Q (F0 m 271 ls []) := by
  intro d
  induction d with
  | zero =>
    intro i hi v hF c0 s0 hc hs σ H locs ls hR hP hD hS hl
    obtain rfl : i = 7 := by omega
    have hF : v = VF := hF
    rw [hF] at hl
    rw [Nat.zero_mul, Nat.add_zero] at hc hs
    refine W.eq (g2 := F0 m 271 ls []) rfl ?_
    refine lv_iload hx hb dL_asks_271 (lv_at hl 3 rfl) ?_
    refine lv_bipush (v := 20) hx hb dL_asks_273 (by decide) ?_
    refine lv_icmp_ge (tgt := 331) hx hb dL_asks_275 (by decide) (fun _ => ?_) (fun h => absurd (nI_le (a := 20) (b := 3 * 7) (by omega) (by omega)) h)
    exact W.widen (by omega) (by omega) (kk σ H locs ls hR hP hD hS (lv_sub hl [0, 1, 2, 3] rfl))
  | succ d ih =>
    intro i hi v hF c0 s0 hc hs σ H locs ls hR hP hD hS hl
    rw [Nat.succ_mul] at hc hs
    refine lv_iload hx hb dL_asks_271 (lv_at hl 3 rfl) ?_
    refine lv_bipush (v := 20) hx hb dL_asks_273 (by decide) ?_
    refine lv_icmp_ge (tgt := 331) hx hb dL_asks_275 (by decide) (fun h => absurd h (nI_ge (a := 3 * i) (b := 20) (by omega) (by omega))) (fun _ => ?_)
    refine lv_iconst (v := 0) hx hb dL_asks_278 (by decide) ?_
    refine lv_istore (lv' := [(5, .int (0 : Int32)), (0, .ref (ad 0)), (1, .long v), (3, .int (nI t)), (4, .int (nI (3 * i)))]) hx hb dL_asks_279 hl (by decide) rfl (fun ls hl => ?_)
    refine lpA_281 hx hb hml hts hown hA hE hlst ad a t (3 * i) (c0 + 18) (s0 + 108) (by show _ ≤ 2627; omega) (by show _ ≤ 69618; omega) (it (aL a.1 t (3 * i)) 3 0 v) (fun σ H locs ls hR hP hD hS hl => ?_) 3 0 (Nat.zero_add _) v rfl (c0 + 0) (s0 + 0) (by omega) (by omega) σ H locs ls hR hP hD hS (lv_sub hl [1, 2, 3, 4, 0] rfl)
    refine lv_iinc (v := (nI ((3 * i) + 3))) (lv' := [(4, .int (nI ((3 * i) + 3))), (0, .ref (ad 0)), (1, .long (it (aL a.1 t (3 * i)) 3 0 v)), (3, .int (nI t)), (5, .int (nI 3))]) hx hb dL_asks_325 hl (k := 3) rfl (nI_add _ 3) (by decide) rfl (fun ls hl => ?_)
    refine lv_goto (tgt := 271) hx hb dL_asks_328 (by decide) ?_
    exact ih (i + 1) (by omega) (it (aL a.1 t (3 * i)) 3 0 v) hF (c0 + 18) (s0 + 108) (by omega) (by omega) σ H locs ls hR hP hD hS (lv_sub hl [1, 2, 3, 0] rfl)
set_option maxRecDepth 100000 in
set_option maxHeartbeats 4000000 in
theorem lpA_233 {p : Program} {l : Launch} {e : Env} {s : State} {m : MethodId} {args : Array Value} {below : List Frame} {meth : Method} {c : Code} {D : va_G} {k : tyK} {A : Nat → Prop} {Q : State → Prop} (hx : p.tables.exec = Jvm.exec) (hb : c.code = cL_asks) (hml : c.maxLocals = 6) (hts : ∀ w ∈ wsL_asks, w.before args s = true) (hown : s.vm.findClass RL = some m.cls) (hA : ∀ q : Nat, s.heap.size ≤ q → A q) (hE : GE D k A s) (hlst : l.stackTraces = false) (ad : Nat → Nat) (a : Abs)  (cK sK : Nat) (hcK : cK ≤ 2627) (hsK : sK ≤ 69618) (VF : Int64) (kk : ∀ (σ : TSt) (H : Heap) (locs : List Loc) (ls : Array Slot), Rep σ (a) → va_P D vwCl (WT k ad σ ++ ([] : va_W)) H → va_D A (WT k ad σ ++ ([] : va_W)) → va_S A s.heap H locs → lv_has ls 6 [(0, .ref (ad 0)), (1, .long VF), (3, .int (nI 5))] → W p l e rm_L_asks s m args below meth c H locs cK sK Q (F0 m 337 ls [])) :
    ∀ (d i : Nat), i + d = 5 → ∀ (v : Int64), it (aV a.1) d i v = VF → ∀ (c0 s0 : Nat), c0 + d * 134 + 0 ≤ cK → s0 + d * 804 + 0 ≤ sK → ∀ (σ : TSt) (H : Heap) (locs : List Loc) (ls : Array Slot), Rep σ (a) → va_P D vwCl (WT k ad σ ++ ([] : va_W)) H → va_D A (WT k ad σ ++ ([] : va_W)) → va_S A s.heap H locs → lv_has ls 6 [(0, .ref (ad 0)), (1, .long v), (3, .int (nI i))] → W p l e rm_L_asks s m args below meth c H locs c0 s0 Q (F0 m 233 ls []) := by
  intro d
  induction d with
  | zero =>
    intro i hi v hF c0 s0 hc hs σ H locs ls hR hP hD hS hl
    obtain rfl : i = 5 := by omega
    have hF : v = VF := hF
    rw [hF] at hl
    rw [Nat.zero_mul, Nat.add_zero] at hc hs
    refine W.eq (g2 := F0 m 233 ls []) rfl ?_
    refine lv_iload_n hx hb dL_asks_233 rfl (lv_at hl 2 rfl) ?_
    refine lv_iconst (v := 5) hx hb dL_asks_234 (by decide) ?_
    refine lv_icmp_ge (tgt := 337) hx hb dL_asks_235 (by decide) (fun _ => ?_) (fun h => absurd (nI_le (Nat.le_refl 5) (by omega)) h)
    exact W.widen (by omega) (by omega) (kk σ H locs ls hR hP hD hS (lv_sub hl [0, 1, 2] rfl))
  | succ d ih =>
    intro i hi v hF c0 s0 hc hs σ H locs ls hR hP hD hS hl
    rw [Nat.succ_mul] at hc hs
    refine lv_iload_n hx hb dL_asks_233 rfl (lv_at hl 2 rfl) ?_
    refine lv_iconst (v := 5) hx hb dL_asks_234 (by decide) ?_
    refine lv_icmp_ge (tgt := 337) hx hb dL_asks_235 (by decide) (fun h => absurd h (nI_ge (a := i) (b := 5) (by omega) (by omega))) (fun _ => ?_)
    refine lv_iconst (v := 0) hx hb dL_asks_238 (by decide) ?_
    refine lv_istore (lv' := [(4, .int (0 : Int32)), (0, .ref (ad 0)), (1, .long v), (3, .int (nI i))]) hx hb dL_asks_239 hl (by decide) rfl (fun ls hl => ?_)
    refine lpA_241 hx hb hml hts hown hA hE hlst ad a i (c0 + 8) (s0 + 48) (by show _ ≤ 2627; omega) (by show _ ≤ 69618; omega) (it (aW a.1 i) 4 0 v) (fun σ H locs ls hR hP hD hS hl => ?_) 4 0 (Nat.zero_add _) v rfl (c0 + 0) (s0 + 0) (by omega) (by omega) σ H locs ls hR hP hD hS (lv_sub hl [1, 2, 3, 0] rfl)
    refine lv_iconst (v := 0) hx hb dL_asks_268 (by decide) ?_
    refine lv_istore (lv' := [(4, .int (0 : Int32)), (0, .ref (ad 0)), (1, .long (it (aW a.1 i) 4 0 v)), (3, .int (nI i))]) hx hb dL_asks_269 hl (by decide) rfl (fun ls hl => ?_)
    refine lpA_271 hx hb hml hts hown hA hE hlst ad a i (c0 + 134) (s0 + 804) (by show _ ≤ 2627; omega) (by show _ ≤ 69618; omega) (it (aD a.1 i) 7 0 (it (aW a.1 i) 4 0 v)) (fun σ H locs ls hR hP hD hS hl => ?_) 7 0 (Nat.zero_add _) (it (aW a.1 i) 4 0 v) rfl (c0 + 8) (s0 + 48) (by omega) (by omega) σ H locs ls hR hP hD hS (lv_sub hl [1, 2, 3, 0] rfl)
    refine lv_iinc (v := (nI (i + 1))) (lv' := [(3, .int (nI (i + 1))), (0, .ref (ad 0)), (1, .long (it (aD a.1 i) 7 0 (it (aW a.1 i) 4 0 v))), (4, .int (nI (3 * 7)))]) hx hb dL_asks_331 hl (k := 2) rfl (nI_add _ 1) (by decide) rfl (fun ls hl => ?_)
    refine lv_goto (tgt := 233) hx hb dL_asks_334 (by decide) ?_
    exact ih (i + 1) (by omega) (it (aD a.1 i) 7 0 (it (aW a.1 i) 4 0 v)) hF (c0 + 134) (s0 + 804) (by omega) (by omega) σ H locs ls hR hP hD hS (lv_sub hl [1, 2, 0] rfl)
set_option maxRecDepth 100000 in
set_option maxHeartbeats 4000000 in
theorem lpA_339 {p : Program} {l : Launch} {e : Env} {s : State} {m : MethodId} {args : Array Value} {below : List Frame} {meth : Method} {c : Code} {D : va_G} {k : tyK} {A : Nat → Prop} {Q : State → Prop} (hx : p.tables.exec = Jvm.exec) (hb : c.code = cL_asks) (hml : c.maxLocals = 6) (hts : ∀ w ∈ wsL_asks, w.before args s = true) (hown : s.vm.findClass RL = some m.cls) (hA : ∀ q : Nat, s.heap.size ≤ q → A q) (hE : GE D k A s) (hlst : l.stackTraces = false) (ad : Nat → Nat) (a : Abs)  (cK sK : Nat) (hcK : cK ≤ 2627) (hsK : sK ≤ 69618) (VF : Int64) (kk : ∀ (σ : TSt) (H : Heap) (locs : List Loc) (ls : Array Slot), Rep σ (a) → va_P D vwCl (WT k ad σ ++ ([] : va_W)) H → va_D A (WT k ad σ ++ ([] : va_W)) → va_S A s.heap H locs → lv_has ls 6 [(0, .ref (ad 0)), (1, .long VF), (3, .int (nI 3))] → W p l e rm_L_asks s m args below meth c H locs cK sK Q (F0 m 365 ls [])) :
    ∀ (d i : Nat), i + d = 3 → ∀ (v : Int64), it (aH a.1) d i v = VF → ∀ (c0 s0 : Nat), c0 + d * 4 + 0 ≤ cK → s0 + d * 24 + 0 ≤ sK → ∀ (σ : TSt) (H : Heap) (locs : List Loc) (ls : Array Slot), Rep σ (a) → va_P D vwCl (WT k ad σ ++ ([] : va_W)) H → va_D A (WT k ad σ ++ ([] : va_W)) → va_S A s.heap H locs → lv_has ls 6 [(0, .ref (ad 0)), (1, .long v), (3, .int (nI i))] → W p l e rm_L_asks s m args below meth c H locs c0 s0 Q (F0 m 339 ls []) := by
  intro d
  induction d with
  | zero =>
    intro i hi v hF c0 s0 hc hs σ H locs ls hR hP hD hS hl
    obtain rfl : i = 3 := by omega
    have hF : v = VF := hF
    rw [hF] at hl
    rw [Nat.zero_mul, Nat.add_zero] at hc hs
    refine W.eq (g2 := F0 m 339 ls []) rfl ?_
    refine lv_iload_n hx hb dL_asks_339 rfl (lv_at hl 2 rfl) ?_
    refine lv_iconst (v := 3) hx hb dL_asks_340 (by decide) ?_
    refine lv_icmp_ge (tgt := 365) hx hb dL_asks_341 (by decide) (fun _ => ?_) (fun h => absurd (nI_le (Nat.le_refl 3) (by omega)) h)
    exact W.widen (by omega) (by omega) (kk σ H locs ls hR hP hD hS (lv_sub hl [0, 1, 2] rfl))
  | succ d ih =>
    intro i hi v hF c0 s0 hc hs σ H locs ls hR hP hD hS hl
    rw [Nat.succ_mul] at hc hs
    refine lv_iload_n hx hb dL_asks_339 rfl (lv_at hl 2 rfl) ?_
    refine lv_iconst (v := 3) hx hb dL_asks_340 (by decide) ?_
    refine lv_icmp_ge (tgt := 365) hx hb dL_asks_341 (by decide) (fun h => absurd h (nI_ge (a := i) (b := 3) (by omega) (by omega))) (fun _ => ?_)
    refine lv_ldc2 (v := 31) hx hb hown (hts (.constantLong RL 159 (31)) (by decide +kernel)) dL_asks_344 ?_
    refine lv_lload_n hx hb dL_asks_347 rfl (lv_at hl 1 rfl) ?_
    refine lv_lmul hx hb dL_asks_348 ?_
    refine lv_aload_n hx hb dL_asks_349 rfl (lv_at hl 0 rfl) ?_
    refine lv_iload_n hx hb dL_asks_350 rfl (lv_at hl 2 rfl) ?_
    refine lv_iconst (v := 1) hx hb dL_asks_351 (by decide) ?_
    refine lv_iconst (v := 1) hx hb dL_asks_352 (by decide) ?_
    refine lc_k (v := (Q_cheapest a.1 (nI i) 1 1)) (a1 := a) (cells' := c0 + 4) (slots' := s0 + 24) (fc_runSW (n := 4) (As := [.ref (ad 0), .int (nI i), .int (1 : Int32), .int (1 : Int32)]) (rest := [.long ((31 : Int64) * v)]) (isC := iL) (maxL := 5) ⟨hx, hb, hml, hown, hts⟩ (LC_cheapest hlst ad a (nI i) 1 1 σ hR H.size) gL_asks_L_cheapest rfl (by decide +kernel) rfl ⟨Nat.le_of_ble_eq_true rfl, Nat.le_of_ble_eq_true rfl⟩ ⟨by show c0 + 0 + 4 ≤ 2627; omega, by show s0 + 0 + 24 ≤ 69618; omega⟩ hE hP hD hS hA (iL_C k ad σ ([] : va_W)) iL_nd hl rfl (Nat.le_of_ble_eq_true rfl) dL_asks_353) hP hD hS hA (by show c0 + 0 + 4 = c0 + 4; omega) (by show s0 + 0 + 24 = s0 + 24; omega) (fun σ H locs hR hP hD hS => ?_)
    refine lv_i2l hx hb dL_asks_356 rfl ?_
    refine lv_ladd hx hb dL_asks_357 ?_
    refine lv_lstore_n (lv' := [(1, .long (((31 : Int64) * v) + ((Q_cheapest a.1 (nI i) 1 1).toInt64))), (0, .ref (ad 0)), (3, .int (nI i))]) hx hb dL_asks_358 rfl hl (by decide) rfl (fun ls hl => ?_)
    refine lv_iinc (v := (nI (i + 1))) (lv' := [(3, .int (nI (i + 1))), (1, .long (((31 : Int64) * v) + ((Q_cheapest a.1 (nI i) 1 1).toInt64))), (0, .ref (ad 0))]) hx hb dL_asks_359 hl (k := 2) rfl (nI_add _ 1) (by decide) rfl (fun ls hl => ?_)
    refine lv_goto (tgt := 339) hx hb dL_asks_362 (by decide) ?_
    exact ih (i + 1) (by omega) (((31 : Int64) * v) + ((Q_cheapest a.1 (nI i) 1 1).toInt64)) hF (c0 + 4) (s0 + 24) (by omega) (by omega) σ H locs ls hR hP hD hS (lv_sub hl [2, 1, 0] rfl)
set_option maxRecDepth 100000 in
set_option maxHeartbeats 4000000 in
theorem LC_asks {l : Launch} {D : va_G} {k : tyK} (hlst : l.stackTraces = false) (ad : Nat → Nat) (a : Abs) (hB : BK a.1) : LCl l yL_asks wsL_asks rm_L_asks D k ad [] a (fun r a' => r = ASK a.1 ∧ ∃ L, (L = a.2.2.2.2.2.2.2 ∨ L.length ≤ 91) ∧ a' = withL a L) := by
  intro σ hR
  refine fc_start (cc := cL_asks) (maxL := 6) (ret := (some .long)) (own := RL) (Qc := fun A => va_Ql (fun r (u : TSt × Abs) => (r = ASK a.1 ∧ ∃ L, (L = a.2.2.2.2.2.2.2 ∨ L.length ≤ 91) ∧ u.2 = withL a L) ∧ Rep u.1 u.2) (Bt D (fun u => WT k ad u.1) A) A) (by decide) rfl rfl (Nat.le_of_ble_eq_true rfl) ?_
  intro p e s m below meth c A H hx hb hml hr hts hown hlk hname hA hP hE hD hS ls hl
  have hl : lv_has ls 6 [(0, .ref (ad 0))] := hl
  obtain ⟨locs, hlocs⟩ : ∃ z : List Loc, z = [] := ⟨_, rfl⟩
  rw [← hlocs] at hS ⊢
  have hP : va_P D vwCl (WT k ad σ ++ ([] : va_W)) H := by rw [List.append_nil]; exact hP
  have hD : va_D A (WT k ad σ ++ ([] : va_W)) := by rw [List.append_nil]; exact hD
  refine lv_ldc2 (v := 31) hx hb hown (hts (.constantLong RL 159 (31)) (by decide +kernel)) dL_asks_0 ?_
  refine lv_aload_n hx hb dL_asks_3 rfl (lv_at hl 0 rfl) ?_
  refine lc_d (v := (Q_meanSteps a.1)) (cells' := 1) (slots' := 6) (fc_runSW (n := 1) (As := [.ref (ad 0)]) (rest := [.long (31 : Int64)]) (isC := iL) (maxL := 2) ⟨hx, hb, hml, hown, hts⟩ (LC_meanSteps hlst ad hR H.size) gL_asks_L_meanSteps rfl (by decide +kernel) rfl ⟨Nat.le_of_ble_eq_true rfl, Nat.le_of_ble_eq_true rfl⟩ ⟨Nat.le_of_ble_eq_true rfl, Nat.le_of_ble_eq_true rfl⟩ hE hP hD hS hA (iL_C k ad σ ([] : va_W)) iL_nd hl rfl (Nat.le_of_ble_eq_true rfl) dL_asks_4) hP hD hS hA rfl rfl (fun H locs hP hD hS => ?_)
  refine fc_l0 (cells' := 1) (slots' := 6) (fc_runS (n := 1) (As := [.double (Q_meanSteps a.1)]) (rest := [.long (31 : Int64)]) (isC := []) (maxL := 2) ⟨hx, hb, hml, hown, hts⟩ (c_bitsD (Q_meanSteps a.1) H.size) gL_asks_Jxe99ae_doubleToLongBits_ccdee rfl (by decide +kernel) rfl ⟨Nat.le_of_ble_eq_true rfl, Nat.le_of_ble_eq_true rfl⟩ ⟨Nat.le_of_ble_eq_true rfl, Nat.le_of_ble_eq_true rfl⟩ hE hP hD hS hA rfl rfl hl rfl (Nat.le_of_ble_eq_true rfl) dL_asks_7) hP hD hS hA rfl rfl (fun H locs hP hD hS => ?_)
  refine lv_lmul hx hb dL_asks_10 ?_
  refine lv_aload_n hx hb dL_asks_11 rfl (lv_at hl 0 rfl) ?_
  refine lc_f (v := (Q_failedShare a.1)) (cells' := 2) (slots' := 12) (fc_runSW (n := 1) (As := [.ref (ad 0)]) (rest := [.long ((31 : Int64) * (bitsD (Q_meanSteps a.1)))]) (isC := iL) (maxL := 2) ⟨hx, hb, hml, hown, hts⟩ (LC_failedShare hlst ad hR H.size) gL_asks_L_failedShare rfl (by decide +kernel) rfl ⟨Nat.le_of_ble_eq_true rfl, Nat.le_of_ble_eq_true rfl⟩ ⟨Nat.le_of_ble_eq_true rfl, Nat.le_of_ble_eq_true rfl⟩ hE hP hD hS hA (iL_C k ad σ ([] : va_W)) iL_nd hl rfl (Nat.le_of_ble_eq_true rfl) dL_asks_12) hP hD hS hA rfl rfl (fun H locs hP hD hS => ?_)
  refine fc_c0 (cells' := 2) (slots' := 12) (fc_runS (n := 1) (As := [.float (Q_failedShare a.1)]) (rest := [.long ((31 : Int64) * (bitsD (Q_meanSteps a.1)))]) (isC := []) (maxL := 1) ⟨hx, hb, hml, hown, hts⟩ (c_bitsF (Q_failedShare a.1) H.size) gL_asks_Jxf58ca_floatToIntBits_5c35a rfl (by decide +kernel) rfl ⟨Nat.le_of_ble_eq_true rfl, Nat.le_of_ble_eq_true rfl⟩ ⟨Nat.le_of_ble_eq_true rfl, Nat.le_of_ble_eq_true rfl⟩ hE hP hD hS hA rfl rfl hl rfl (Nat.le_of_ble_eq_true rfl) dL_asks_15) hP hD hS hA rfl rfl (fun H locs hP hD hS => ?_)
  refine lv_i2l hx hb dL_asks_18 rfl ?_
  refine lv_ladd hx hb dL_asks_19 ?_
  refine lv_lstore_n (lv' := [(1, .long (((31 : Int64) * (bitsD (Q_meanSteps a.1))) + ((bitsF (Q_failedShare a.1)).toInt64))), (0, .ref (ad 0))]) hx hb dL_asks_20 rfl hl (by decide) rfl (fun ls hl => ?_)
  refine lv_iconst (v := 0) hx hb dL_asks_21 (by decide) ?_
  refine lv_istore_n (lv' := [(3, .int (0 : Int32)), (1, .long (((31 : Int64) * (bitsD (Q_meanSteps a.1))) + ((bitsF (Q_failedShare a.1)).toInt64))), (0, .ref (ad 0))]) hx hb dL_asks_22 rfl hl (by decide) rfl (fun ls hl => ?_)
  refine lpA_23 hx hb hml hts hown hA hE hlst ad a  18 108 (Nat.le_of_ble_eq_true rfl) (Nat.le_of_ble_eq_true rfl) (it (aN a.1) 16 0 (((31 : Int64) * (bitsD (Q_meanSteps a.1))) + ((bitsF (Q_failedShare a.1)).toInt64))) (fun σ H locs ls hR hP hD hS hl => ?_) 16 0 (Nat.zero_add _) (((31 : Int64) * (bitsD (Q_meanSteps a.1))) + ((bitsF (Q_failedShare a.1)).toInt64)) rfl 2 12 (by have := (BK_n hB).2; omega) (by have := (BK_n hB).2; omega) σ H locs ls hR hP hD hS (lv_sub hl [2, 1, 0] rfl)
  refine lv_iconst (v := 0) hx hb dL_asks_48 (by decide) ?_
  refine lv_istore_n (lv' := [(3, .int (0 : Int32)), (0, .ref (ad 0)), (1, .long (it (aN a.1) 16 0 (((31 : Int64) * (bitsD (Q_meanSteps a.1))) + ((bitsF (Q_failedShare a.1)).toInt64))))]) hx hb dL_asks_49 rfl hl (by decide) rfl (fun ls hl => ?_)
  refine lpA_50 hx hb hml hts hown hA hE hlst ad a hB (fun L => L = a.2.2.2.2.2.2.2 ∨ L.length ≤ 91) (fun _ h => Or.inr h) 1945 65526 (Nat.le_of_ble_eq_true rfl) (Nat.le_of_ble_eq_true rfl) (it (aU a.1) (NT a.1) 0 (it (aN a.1) 16 0 (((31 : Int64) * (bitsD (Q_meanSteps a.1))) + ((bitsF (Q_failedShare a.1)).toInt64)))) (fun σ L H locs ls hX hR hP hD hS hl => ?_) (NT a.1) 0 (Nat.zero_add _) (it (aN a.1) 16 0 (((31 : Int64) * (bitsD (Q_meanSteps a.1))) + ((bitsF (Q_failedShare a.1)).toInt64))) rfl 18 108 (by have := (BK_n hB).2; omega) (by have := (BK_n hB).2; omega) σ a.2.2.2.2.2.2.2 H locs ls (Or.inl rfl) (show Rep σ (withL a a.2.2.2.2.2.2.2) from hR) hP hD hS (lv_sub hl [1, 2, 0] rfl)
  refine lv_iconst (v := 0) hx hb dL_asks_231 (by decide) ?_
  refine lv_istore_n (lv' := [(3, .int (0 : Int32)), (0, .ref (ad 0)), (1, .long (it (aU a.1) (NT a.1) 0 (it (aN a.1) 16 0 (((31 : Int64) * (bitsD (Q_meanSteps a.1))) + ((bitsF (Q_failedShare a.1)).toInt64)))))]) hx hb dL_asks_232 rfl hl (by decide) rfl (fun ls hl => ?_)
  refine lpA_233 hx hb hml hts hown hA hE hlst ad (withL a L)  2615 69546 (Nat.le_of_ble_eq_true rfl) (Nat.le_of_ble_eq_true rfl) (it (aV a.1) 5 0 (it (aU a.1) (NT a.1) 0 (it (aN a.1) 16 0 (((31 : Int64) * (bitsD (Q_meanSteps a.1))) + ((bitsF (Q_failedShare a.1)).toInt64))))) (fun σ H locs ls hR hP hD hS hl => ?_) 5 0 (Nat.zero_add _) (it (aU a.1) (NT a.1) 0 (it (aN a.1) 16 0 (((31 : Int64) * (bitsD (Q_meanSteps a.1))) + ((bitsF (Q_failedShare a.1)).toInt64)))) rfl 1945 65526 (by have := (BK_n hB).2; omega) (by have := (BK_n hB).2; omega) σ H locs ls hR hP hD hS (lv_sub hl [1, 2, 0] rfl)
  refine lv_iconst (v := 0) hx hb dL_asks_337 (by decide) ?_
  refine lv_istore_n (lv' := [(3, .int (0 : Int32)), (0, .ref (ad 0)), (1, .long (it (aV a.1) 5 0 (it (aU a.1) (NT a.1) 0 (it (aN a.1) 16 0 (((31 : Int64) * (bitsD (Q_meanSteps a.1))) + ((bitsF (Q_failedShare a.1)).toInt64))))))]) hx hb dL_asks_338 rfl hl (by decide) rfl (fun ls hl => ?_)
  refine lpA_339 hx hb hml hts hown hA hE hlst ad (withL a L)  2627 69618 (Nat.le_of_ble_eq_true rfl) (Nat.le_of_ble_eq_true rfl) (it (aH a.1) 3 0 (it (aV a.1) 5 0 (it (aU a.1) (NT a.1) 0 (it (aN a.1) 16 0 (((31 : Int64) * (bitsD (Q_meanSteps a.1))) + ((bitsF (Q_failedShare a.1)).toInt64)))))) (fun σ H locs ls hR hP hD hS hl => ?_) 3 0 (Nat.zero_add _) (it (aV a.1) 5 0 (it (aU a.1) (NT a.1) 0 (it (aN a.1) 16 0 (((31 : Int64) * (bitsD (Q_meanSteps a.1))) + ((bitsF (Q_failedShare a.1)).toInt64))))) rfl 2615 69546 (by have := (BK_n hB).2; omega) (by have := (BK_n hB).2; omega) σ H locs ls hR hP hD hS (lv_sub hl [1, 2, 0] rfl)
  refine lv_ldc2 (v := 31) hx hb hown (hts (.constantLong RL 159 (31)) (by decide +kernel)) dL_asks_365 ?_
  refine lv_lload_n hx hb dL_asks_368 rfl (lv_at hl 1 rfl) ?_
  refine lv_lmul hx hb dL_asks_369 ?_
  refine lv_aload_n hx hb dL_asks_370 rfl (lv_at hl 0 rfl) ?_
  obtain ⟨hs, fk, f, f2, f3, f4, jr, jd, nx, kp, g, ln, tp, wd, fi, tw, dy, mn, vl, sg, ml, txt, q, cap, yb⟩ := σ
  obtain rfl : f = a.1 := (Rep.books (a := withL a L) hR)
  refine fc_ci (isC := [0, 1, 2, 3]) (cells' := 2627) (slots' := 69618) (fc_runV (n := 0) (As := []) (rest := [.long ((31 : Int64) * (it (aH a.1) 3 0 (it (aV a.1) 5 0 (it (aU a.1) (NT a.1) 0 (it (aN a.1) 16 0 (((31 : Int64) * (bitsD (Q_meanSteps a.1))) + ((bitsF (Q_failedShare a.1)).toInt64)))))))]) (isC := [0, 1, 2, 3]) (maxL := 2) ⟨hx, hb, hml, hown, hts⟩ (c_X6_coinsAgain (ad 0) (ad 1) (ad 2) (ad 4) (ad 7) (ad 8) (ad 26) (ad 28) (ad 30) (ad 32) (ad 3) hs fk a.1 H.size) gL_asks_X6_coinsAgain rfl (by decide +kernel) rfl ⟨Nat.le_of_ble_eq_true rfl, Nat.le_of_ble_eq_true rfl⟩ ⟨Nat.le_of_ble_eq_true rfl, Nat.le_of_ble_eq_true rfl⟩ hE hP hD hS hA rfl rfl (va_recv hE.1 hP (ci := 10) (q0 := 0) rfl rfl) hl rfl (Nat.le_of_ble_eq_true rfl) dL_asks_371) hP hD hS hA rfl (fun _ => rfl) rfl rfl (fun r u H locs hp hP hD hS => ?_)
  subst hp
  have hP : va_P D vwCl (WT k ad (hs, fk, a.1, f2, f3, f4, jr, jd, nx, kp, g, ln, tp, wd, fi, tw, dy, mn, vl, sg, ml, txt, q, cap, yb)) H := by rw [← List.append_nil (WT k ad (hs, fk, a.1, f2, f3, f4, jr, jd, nx, kp, g, ln, tp, wd, fi, tw, dy, mn, vl, sg, ml, txt, q, cap, yb))]; exact hP
  have hD : va_D A (WT k ad (hs, fk, a.1, f2, f3, f4, jr, jd, nx, kp, g, ln, tp, wd, fi, tw, dy, mn, vl, sg, ml, txt, q, cap, yb)) := by rw [← List.append_nil (WT k ad (hs, fk, a.1, f2, f3, f4, jr, jd, nx, kp, g, ln, tp, wd, fi, tw, dy, mn, vl, sg, ml, txt, q, cap, yb))]; exact hD
  refine lv_i2l hx hb dL_asks_374 rfl ?_
  refine lv_ladd hx hb dL_asks_375 ?_
  exact fc_lret hx hb hr hlk hS ((hs, fk, a.1, f2, f3, f4, jr, jd, nx, kp, g, ln, tp, wd, fi, tw, dy, mn, vl, sg, ml, txt, q, cap, yb), withL a L) ⟨⟨rfl, L, hX, rfl⟩, hR⟩ hP hD (by decide) (by decide) dL_asks_376
end TSasks2
