/-! THE LAW'S FIRST OBJECT: the walk. -/
section TSewalk
set_option maxRecDepth 100000 in
set_option maxHeartbeats 4000000 in
theorem wE_8 {p : Program} {l : Launch} {e : Env} {s : State} {m : MethodId} {args : Array Value} {below : List Frame} {meth : Method} {c : Code} {D : va_G} {k : tyK} {A : Nat → Prop} {Q : State → Prop} (hx : p.tables.exec = Jvm.exec) (hb : c.code = cL_law) (hml : c.maxLocals = 11) (hts : ∀ w ∈ wsL_law, w.before args s = true) (hown : s.vm.findClass RL = some m.cls) (hA : ∀ q : Nat, s.heap.size ≤ q → A q) (hE : GE D k A s) (hlst : l.stackTraces = false) (ad : Nat → Nat) (c0 s0 cK sK : Nat) (hcK : cK ≤ 600258) (hsK : sK ≤ 7294185) (hc : c0 + 4 ≤ cK) (hs : s0 + 24 ≤ sK)
    (kk : ∀ (σ : TSt) (H : Heap) (locs : List Loc) (ls : Array Slot), Rep σ eS4 → va_P D vwCl (WT k ad σ ++ ([] : va_W)) H → va_D A (WT k ad σ ++ ([] : va_W)) → va_S A s.heap H locs → lv_has ls 11 [(1, .ref (ad 0)), (0, .ref (kB k))] → W p l e room_1 s m args below meth c H locs cK sK Q (F0 m 56 ls []))
    (σ : TSt) (H : Heap) (locs : List Loc) (ls : Array Slot) (hR : Rep σ a00) (hP : va_P D vwCl (WT k ad σ ++ ([] : va_W)) H) (hD : va_D A (WT k ad σ ++ ([] : va_W))) (hS : va_S A s.heap H locs) (hl : lv_has ls 11 [(1, .ref (ad 0)), (0, .ref (kB k))]) : W p l e room_1 s m args below meth c H locs c0 s0 Q (F0 m 8 ls []) := by
  refine lv_aload_n hx hb dL_law_8 rfl (lv_at hl 0 rfl) ?_
  refine lc_k (v := (-1001 : Int32)) (a1 := eS1) (cells' := c0 + 1) (slots' := s0 + 6) (fc_runSW (n := 1) (As := [.ref (ad 0)]) (rest := []) (isC := iL) (maxL := 2) ⟨hx, hb, hml, hown, hts⟩ ((LCi.at (LC_undo hlst ad a00) eS1_eq) σ hR H.size) gL_law_L_undo rfl (by decide +kernel) rfl ⟨Nat.le_of_ble_eq_true rfl, Nat.le_of_ble_eq_true rfl⟩ ⟨by show c0 + 0 + 1 ≤ 600258; omega, by show s0 + 0 + 6 ≤ 7294185; omega⟩ hE hP hD hS hA (iL_C k ad σ ([] : va_W)) iL_nd hl rfl (Nat.le_of_ble_eq_true rfl) dL_law_9) hP hD hS hA (by show c0 + 0 + 1 = c0 + 1; omega) (by show s0 + 0 + 6 = s0 + 6; omega) (fun σ H locs hR hP hD hS => ?_)
  refine lv_sipush (v := -1001) hx hb dL_law_12 (by decide) ?_
  refine lv_icmp_ne (tgt := 54) hx hb dL_law_15 (by decide) (fun h => absurd h (by decide)) (fun _ => ?_)
  refine lv_aload_n hx hb dL_law_18 rfl (lv_at hl 0 rfl) ?_
  refine lc_k (v := (-1001 : Int32)) (a1 := eS2) (cells' := c0 + 2) (slots' := s0 + 12) (fc_runSW (n := 1) (As := [.ref (ad 0)]) (rest := []) (isC := iL) (maxL := 2) ⟨hx, hb, hml, hown, hts⟩ ((LCi.at (LC_restore hlst ad eS1) eS2_eq) σ hR H.size) gL_law_L_restore rfl (by decide +kernel) rfl ⟨Nat.le_of_ble_eq_true rfl, Nat.le_of_ble_eq_true rfl⟩ ⟨by show c0 + 1 + 1 ≤ 600258; omega, by show s0 + 6 + 6 ≤ 7294185; omega⟩ hE hP hD hS hA (iL_C k ad σ ([] : va_W)) iL_nd hl rfl (Nat.le_of_ble_eq_true rfl) dL_law_19) hP hD hS hA (by show c0 + 1 + 1 = c0 + 2; omega) (by show s0 + 6 + 6 = s0 + 12; omega) (fun σ H locs hR hP hD hS => ?_)
  refine lv_sipush (v := -1001) hx hb dL_law_22 (by decide) ?_
  refine lv_icmp_ne (tgt := 54) hx hb dL_law_25 (by decide) (fun h => absurd h (by decide)) (fun _ => ?_)
  refine lv_aload_n hx hb dL_law_28 rfl (lv_at hl 0 rfl) ?_
  refine lw_save hx hb hml hts hown hA hE hlst ad eS2 σ hR hP hD hS hl (by show c0 + 2 + 0 ≤ _; omega) (by show s0 + 12 + 0 ≤ _; omega) dL_law_29 (fun σ H locs hR hP hD hS => ?_)
  rw [ev3]
  have hR : Rep σ eS3 := hR
  refine lv_if_ne (tgt := 54) hx hb dL_law_32 (by decide) (fun h => absurd h (by decide)) (fun _ => ?_)
  refine lv_aload_n hx hb dL_law_35 rfl (lv_at hl 0 rfl) ?_
  refine lv_bipush (v := 40) hx hb dL_law_36 (by decide) ?_
  refine lc_k (v := (0 : Int32)) (a1 := eS4) (cells' := c0 + 3) (slots' := s0 + 18) (fc_runSW (n := 2) (As := [.ref (ad 0), .int (40 : Int32)]) (rest := []) (isC := iL) (maxL := 3) ⟨hx, hb, hml, hown, hts⟩ ((LCi.at (LC_pass hlst ad eS3 (40 : Int32)) eS4_eq) σ hR H.size) gL_law_L_pass rfl (by decide +kernel) rfl ⟨Nat.le_of_ble_eq_true rfl, Nat.le_of_ble_eq_true rfl⟩ ⟨by show c0 + 2 + 1 ≤ 600258; omega, by show s0 + 12 + 6 ≤ 7294185; omega⟩ hE hP hD hS hA (iL_C k ad σ ([] : va_W)) iL_nd hl rfl (Nat.le_of_ble_eq_true rfl) dL_law_38) hP hD hS hA (by show c0 + 2 + 1 = c0 + 3; omega) (by show s0 + 12 + 6 = s0 + 18; omega) (fun σ H locs hR hP hD hS => ?_)
  refine lv_if_ne (tgt := 54) hx hb dL_law_41 (by decide) (fun h => absurd h (by decide)) (fun _ => ?_)
  refine lv_aload_n hx hb dL_law_44 rfl (lv_at hl 0 rfl) ?_
  refine lv_iconst (v := 0) hx hb dL_law_45 (by decide) ?_
  refine lc_k (v := (40 : Int32)) (a1 := eS4) (cells' := c0 + 4) (slots' := s0 + 24) (fc_runSW (n := 2) (As := [.ref (ad 0), .int (0 : Int32)]) (rest := []) (isC := iL) (maxL := 3) ⟨hx, hb, hml, hown, hts⟩ ((LCi.to (LC_number hlst ad eS4 (0 : Int32)) ev5) σ hR H.size) gL_law_L_number rfl (by decide +kernel) rfl ⟨Nat.le_of_ble_eq_true rfl, Nat.le_of_ble_eq_true rfl⟩ ⟨by show c0 + 3 + 1 ≤ 600258; omega, by show s0 + 18 + 6 ≤ 7294185; omega⟩ hE hP hD hS hA (iL_C k ad σ ([] : va_W)) iL_nd hl rfl (Nat.le_of_ble_eq_true rfl) dL_law_46) hP hD hS hA (by show c0 + 3 + 1 = c0 + 4; omega) (by show s0 + 18 + 6 = s0 + 24; omega) (fun σ H locs hR hP hD hS => ?_)
  refine lv_bipush (v := 40) hx hb dL_law_49 (by decide) ?_
  refine lv_icmp_eq (tgt := 56) hx hb dL_law_51 (by decide) (fun _ => ?_) (fun h => absurd h (by decide))
  exact W.widen (by omega) (by omega) (kk σ H locs ls hR hP hD hS (lv_sub hl [0, 1] rfl))
set_option maxRecDepth 100000 in
set_option maxHeartbeats 4000000 in
theorem lpE_58 {p : Program} {l : Launch} {e : Env} {s : State} {m : MethodId} {args : Array Value} {below : List Frame} {meth : Method} {c : Code} {D : va_G} {k : tyK} {A : Nat → Prop} {Q : State → Prop} (hx : p.tables.exec = Jvm.exec) (hb : c.code = cL_law) (hml : c.maxLocals = 11) (hts : ∀ w ∈ wsL_law, w.before args s = true) (hown : s.vm.findClass RL = some m.cls) (hA : ∀ q : Nat, s.heap.size ≤ q → A q) (hE : GE D k A s) (hlst : l.stackTraces = false) (ad : Nat → Nat) (cK sK : Nat) (hcK : cK ≤ 600258) (hsK : sK ≤ 7294185)
    (kk : ∀ (σ : TSt) (H : Heap) (locs : List Loc) (ls : Array Slot), Rep σ (eF 60) → va_P D vwCl (WT k ad σ ++ ([] : va_W)) H → va_D A (WT k ad σ ++ ([] : va_W)) → va_S A s.heap H locs → lv_has ls 11 [(1, .ref (ad 0)), (0, .ref (kB k))] → W p l e room_1 s m args below meth c H locs cK sK Q (F0 m 87 ls [])) :
    ∀ (d i : Nat), i + d = 60 → ∀ (c0 s0 : Nat), c0 + d * 1 ≤ cK → s0 + d * 6 ≤ sK → ∀ (σ : TSt) (H : Heap) (locs : List Loc) (ls : Array Slot), Rep σ (eF i) → va_P D vwCl (WT k ad σ ++ ([] : va_W)) H → va_D A (WT k ad σ ++ ([] : va_W)) → va_S A s.heap H locs → lv_has ls 11 [(2, .int (nI i)), (1, .ref (ad 0)), (0, .ref (kB k))] → W p l e room_1 s m args below meth c H locs c0 s0 Q (F0 m 58 ls []) := by
  intro d
  induction d with
  | zero =>
    intro i hi c0 s0 hc hs σ H locs ls hR hP hD hS hl
    obtain rfl : i = 60 := by omega
    rw [Nat.zero_mul, Nat.add_zero] at hc hs
    refine lv_iload_n hx hb dL_law_58 rfl (lv_at hl 0 rfl) ?_
    refine lv_bipush (v := 60) hx hb dL_law_59 (by decide) ?_
    refine lv_icmp_ge (tgt := 87) hx hb dL_law_61 (by decide) (fun _ => ?_) (fun h => absurd (nI_le (Nat.le_refl 60) (by omega)) h)
    exact W.widen (by omega) (by omega) (kk σ H locs ls hR hP hD hS (lv_sub hl [1, 2] rfl))
  | succ d ih =>
    intro i hi c0 s0 hc hs σ H locs ls hR hP hD hS hl
    rw [Nat.succ_mul] at hc hs
    refine lv_iload_n hx hb dL_law_58 rfl (lv_at hl 0 rfl) ?_
    refine lv_bipush (v := 60) hx hb dL_law_59 (by decide) ?_
    refine lv_icmp_ge (tgt := 87) hx hb dL_law_61 (by decide) (fun h => absurd h (nI_ge (a := i) (b := 60) (by omega) (by omega))) (fun _ => ?_)
    have hi2 : i < 60 := by omega
    refine lv_aload_n hx hb dL_law_64 rfl (lv_at hl 1 rfl) ?_
    refine lv_bipush (v := 65) hx hb dL_law_65 (by decide) ?_
    refine lv_iload_n hx hb dL_law_67 rfl (lv_at hl 0 rfl) ?_
    refine lv_iadd hx hb dL_law_68 ?_
    refine lv_i2c hx hb dL_law_69 rfl ?_
    rw [e_i2c ⟨i, hi2⟩]
    refine lc_k (v := (nI (i + 1))) (a1 := (eF (i + 1))) (cells' := c0 + 1) (slots' := s0 + 6) (fc_runSW (n := 2) (As := [.ref (ad 0), .int (nI (65 + i))]) (rest := []) (isC := iL) (maxL := 3) ⟨hx, hb, hml, hown, hts⟩ ((LCi.at (LC_feed hlst ad (eF i) (65 + i) (by omega)) (eF_st hi2)) σ hR H.size) gL_law_L_feed rfl (by decide +kernel) rfl ⟨Nat.le_of_ble_eq_true rfl, Nat.le_of_ble_eq_true rfl⟩ ⟨by show c0 + 0 + 1 ≤ 600258; omega, by show s0 + 0 + 6 ≤ 7294185; omega⟩ hE hP hD hS hA (iL_C k ad σ ([] : va_W)) iL_nd hl rfl (Nat.le_of_ble_eq_true rfl) dL_law_70) hP hD hS hA (by show c0 + 0 + 1 = c0 + 1; omega) (by show s0 + 0 + 6 = s0 + 6; omega) (fun σ H locs hR hP hD hS => ?_)
    refine lv_iload_n hx hb dL_law_73 rfl (lv_at hl 0 rfl) ?_
    refine lv_iconst (v := 1) hx hb dL_law_74 (by decide) ?_
    refine lv_iadd hx hb dL_law_75 ?_
    refine lv_icmp_eq (tgt := 81) hx hb dL_law_76 (by decide) (fun _ => ?_) (fun h => absurd (nI_1 i).symm h)
    refine lv_iinc (v := (nI (i + 1))) (lv' := [(2, .int (nI (i + 1))), (1, .ref (ad 0)), (0, .ref (kB k))]) hx hb dL_law_81 hl (k := 0) rfl (nI_add _ 1) (by decide) rfl (fun ls hl => ?_)
    refine lv_goto (tgt := 58) hx hb dL_law_84 (by decide) ?_
    exact ih (i + 1) (by omega) (c0 + 1) (s0 + 6) (by omega) (by omega) σ H locs ls hR hP hD hS (lv_sub hl [0, 1, 2] rfl)
set_option maxRecDepth 100000 in
set_option maxHeartbeats 4000000 in
theorem wE_56 {p : Program} {l : Launch} {e : Env} {s : State} {m : MethodId} {args : Array Value} {below : List Frame} {meth : Method} {c : Code} {D : va_G} {k : tyK} {A : Nat → Prop} {Q : State → Prop} (hx : p.tables.exec = Jvm.exec) (hb : c.code = cL_law) (hml : c.maxLocals = 11) (hts : ∀ w ∈ wsL_law, w.before args s = true) (hown : s.vm.findClass RL = some m.cls) (hA : ∀ q : Nat, s.heap.size ≤ q → A q) (hE : GE D k A s) (hlst : l.stackTraces = false) (ad : Nat → Nat) (c0 s0 cK sK : Nat) (hcK : cK ≤ 600258) (hsK : sK ≤ 7294185) (hc : c0 + 65 ≤ cK) (hs : s0 + 390 ≤ sK)
    (kk : ∀ (σ : TSt) (H : Heap) (locs : List Loc) (ls : Array Slot), Rep σ eS6 → va_P D vwCl (WT k ad σ ++ ([] : va_W)) H → va_D A (WT k ad σ ++ ([] : va_W)) → va_S A s.heap H locs → lv_has ls 11 [(1, .ref (ad 0)), (0, .ref (kB k))] → W p l e room_1 s m args below meth c H locs cK sK Q (F0 m 138 ls []))
    (σ : TSt) (H : Heap) (locs : List Loc) (ls : Array Slot) (hR : Rep σ eS4) (hP : va_P D vwCl (WT k ad σ ++ ([] : va_W)) H) (hD : va_D A (WT k ad σ ++ ([] : va_W))) (hS : va_S A s.heap H locs) (hl : lv_has ls 11 [(1, .ref (ad 0)), (0, .ref (kB k))]) : W p l e room_1 s m args below meth c H locs c0 s0 Q (F0 m 56 ls []) := by
  refine lv_iconst (v := 0) hx hb dL_law_56 (by decide) ?_
  refine lv_istore_n (lv' := [(2, .int (0 : Int32)), (1, .ref (ad 0)), (0, .ref (kB k))]) hx hb dL_law_57 rfl hl (by decide) rfl (fun ls hl => ?_)
  refine lpE_58 hx hb hml hts hown hA hE hlst ad (c0 + 60) (s0 + 360) (by omega) (by omega) (fun σ H locs ls hR hP hD hS hl => ?_) 60 0 (Nat.zero_add _) (c0 + 0) (s0 + 0) (by omega) (by omega) σ H locs ls hR hP hD hS (lv_sub hl [0, 1, 2] rfl)
  have hR : Rep σ eF60 := hR
  refine lv_aload_n hx hb dL_law_87 rfl (lv_at hl 0 rfl) ?_
  refine lv_bipush (v := 116) hx hb dL_law_88 (by decide) ?_
  refine lc_k (v := (-1001 : Int32)) (a1 := eS5) (cells' := c0 + 61) (slots' := s0 + 366) (fc_runSW (n := 2) (As := [.ref (ad 0), .int (nI 116)]) (rest := []) (isC := iL) (maxL := 3) ⟨hx, hb, hml, hown, hts⟩ ((LCi.at (LC_feed hlst ad eF60 116 (by omega)) eS5_eq) σ hR H.size) gL_law_L_feed rfl (by decide +kernel) rfl ⟨Nat.le_of_ble_eq_true rfl, Nat.le_of_ble_eq_true rfl⟩ ⟨by show c0 + 60 + 1 ≤ 600258; omega, by show s0 + 360 + 6 ≤ 7294185; omega⟩ hE hP hD hS hA (iL_C k ad σ ([] : va_W)) iL_nd hl rfl (Nat.le_of_ble_eq_true rfl) dL_law_90) hP hD hS hA (by show c0 + 60 + 1 = c0 + 61; omega) (by show s0 + 360 + 6 = s0 + 366; omega) (fun σ H locs hR hP hD hS => ?_)
  refine lv_sipush (v := -1001) hx hb dL_law_93 (by decide) ?_
  refine lv_icmp_ne (tgt := 136) hx hb dL_law_96 (by decide) (fun h => absurd h (by decide)) (fun _ => ?_)
  refine lv_aload_n hx hb dL_law_99 rfl (lv_at hl 0 rfl) ?_
  refine lv_bipush (v := 17) hx hb dL_law_100 (by decide) ?_
  refine lc_k (v := (60 : Int32)) (a1 := eS5) (cells' := c0 + 62) (slots' := s0 + 372) (fc_runSW (n := 2) (As := [.ref (ad 0), .int (17 : Int32)]) (rest := []) (isC := iL) (maxL := 3) ⟨hx, hb, hml, hown, hts⟩ ((LCi.to (LC_number hlst ad eS5 (17 : Int32)) ev7) σ hR H.size) gL_law_L_number rfl (by decide +kernel) rfl ⟨Nat.le_of_ble_eq_true rfl, Nat.le_of_ble_eq_true rfl⟩ ⟨by show c0 + 61 + 1 ≤ 600258; omega, by show s0 + 366 + 6 ≤ 7294185; omega⟩ hE hP hD hS hA (iL_C k ad σ ([] : va_W)) iL_nd hl rfl (Nat.le_of_ble_eq_true rfl) dL_law_102) hP hD hS hA (by show c0 + 61 + 1 = c0 + 62; omega) (by show s0 + 366 + 6 = s0 + 372; omega) (fun σ H locs hR hP hD hS => ?_)
  refine lv_bipush (v := 60) hx hb dL_law_105 (by decide) ?_
  refine lv_icmp_ne (tgt := 136) hx hb dL_law_107 (by decide) (fun h => absurd h (by decide)) (fun _ => ?_)
  refine lv_aload_n hx hb dL_law_110 rfl (lv_at hl 0 rfl) ?_
  refine lc_k (v := (-1001 : Int32)) (a1 := eS6) (cells' := c0 + 63) (slots' := s0 + 378) (fc_runSW (n := 1) (As := [.ref (ad 0)]) (rest := []) (isC := iL) (maxL := 2) ⟨hx, hb, hml, hown, hts⟩ ((LCi.at (LC_readBad hlst ad eS5 ev8) eS6_eq) σ hR H.size) gL_law_L_read rfl (by decide +kernel) rfl ⟨Nat.le_of_ble_eq_true rfl, Nat.le_of_ble_eq_true rfl⟩ ⟨by show c0 + 62 + 1 ≤ 600258; omega, by show s0 + 372 + 6 ≤ 7294185; omega⟩ hE hP hD hS hA (iL_C k ad σ ([] : va_W)) iL_nd hl rfl (Nat.le_of_ble_eq_true rfl) dL_law_111) hP hD hS hA (by show c0 + 62 + 1 = c0 + 63; omega) (by show s0 + 372 + 6 = s0 + 378; omega) (fun σ H locs hR hP hD hS => ?_)
  refine lv_sipush (v := -1001) hx hb dL_law_114 (by decide) ?_
  refine lv_icmp_ne (tgt := 136) hx hb dL_law_117 (by decide) (fun h => absurd h (by decide)) (fun _ => ?_)
  refine lv_aload_n hx hb dL_law_120 rfl (lv_at hl 0 rfl) ?_
  refine lc_k (v := (0 : Int32)) (a1 := eS6) (cells' := c0 + 64) (slots' := s0 + 384) (fc_runSW (n := 1) (As := [.ref (ad 0)]) (rest := []) (isC := iL) (maxL := 2) ⟨hx, hb, hml, hown, hts⟩ ((LCi.to (LC_faultPosition hlst ad eS6 ) ev9) σ hR H.size) gL_law_L_faultPosition rfl (by decide +kernel) rfl ⟨Nat.le_of_ble_eq_true rfl, Nat.le_of_ble_eq_true rfl⟩ ⟨by show c0 + 63 + 1 ≤ 600258; omega, by show s0 + 378 + 6 ≤ 7294185; omega⟩ hE hP hD hS hA (iL_C k ad σ ([] : va_W)) iL_nd hl rfl (Nat.le_of_ble_eq_true rfl) dL_law_121) hP hD hS hA (by show c0 + 63 + 1 = c0 + 64; omega) (by show s0 + 378 + 6 = s0 + 384; omega) (fun σ H locs hR hP hD hS => ?_)
  refine lv_if_ne (tgt := 136) hx hb dL_law_124 (by decide) (fun h => absurd h (by decide)) (fun _ => ?_)
  refine lv_aload_n hx hb dL_law_127 rfl (lv_at hl 0 rfl) ?_
  refine lv_bipush (v := 17) hx hb dL_law_128 (by decide) ?_
  refine lc_k (v := (0 : Int32)) (a1 := eS6) (cells' := c0 + 65) (slots' := s0 + 390) (fc_runSW (n := 2) (As := [.ref (ad 0), .int (17 : Int32)]) (rest := []) (isC := iL) (maxL := 3) ⟨hx, hb, hml, hown, hts⟩ ((LCi.to (LC_number hlst ad eS6 (17 : Int32)) ev10) σ hR H.size) gL_law_L_number rfl (by decide +kernel) rfl ⟨Nat.le_of_ble_eq_true rfl, Nat.le_of_ble_eq_true rfl⟩ ⟨by show c0 + 64 + 1 ≤ 600258; omega, by show s0 + 384 + 6 ≤ 7294185; omega⟩ hE hP hD hS hA (iL_C k ad σ ([] : va_W)) iL_nd hl rfl (Nat.le_of_ble_eq_true rfl) dL_law_130) hP hD hS hA (by show c0 + 64 + 1 = c0 + 65; omega) (by show s0 + 384 + 6 = s0 + 390; omega) (fun σ H locs hR hP hD hS => ?_)
  refine lv_if_eq (tgt := 138) hx hb dL_law_133 (by decide) (fun _ => ?_) (fun h => absurd h (by decide))
  exact W.widen (by omega) (by omega) (kk σ H locs ls hR hP hD hS (lv_sub hl [0, 1] rfl))
set_option maxRecDepth 100000 in
set_option maxHeartbeats 4000000 in
theorem lpE_140 {p : Program} {l : Launch} {e : Env} {s : State} {m : MethodId} {args : Array Value} {below : List Frame} {meth : Method} {c : Code} {D : va_G} {k : tyK} {A : Nat → Prop} {Q : State → Prop} (hx : p.tables.exec = Jvm.exec) (hb : c.code = cL_law) (hml : c.maxLocals = 11) (hts : ∀ w ∈ wsL_law, w.before args s = true) (hown : s.vm.findClass RL = some m.cls) (hA : ∀ q : Nat, s.heap.size ≤ q → A q) (hE : GE D k A s) (hlst : l.stackTraces = false) (ad : Nat → Nat) (cK sK : Nat) (hcK : cK ≤ 600258) (hsK : sK ≤ 7294185)
    (kk : ∀ (σ : TSt) (H : Heap) (locs : List Loc) (ls : Array Slot), Rep σ (eT 6) → va_P D vwCl (WT k ad σ ++ ([] : va_W)) H → va_D A (WT k ad σ ++ ([] : va_W)) → va_S A s.heap H locs → lv_has ls 11 [(1, .ref (ad 0)), (0, .ref (kB k))] → W p l e room_1 s m args below meth c H locs cK sK Q (F0 m 163 ls [])) :
    ∀ (d i : Nat), i + d = 6 → ∀ (c0 s0 : Nat), c0 + d * 1 ≤ cK → s0 + d * 6 ≤ sK → ∀ (σ : TSt) (H : Heap) (locs : List Loc) (ls : Array Slot), Rep σ (eT i) → va_P D vwCl (WT k ad σ ++ ([] : va_W)) H → va_D A (WT k ad σ ++ ([] : va_W)) → va_S A s.heap H locs → lv_has ls 11 [(2, .int (nI i)), (1, .ref (ad 0)), (0, .ref (kB k))] → W p l e room_1 s m args below meth c H locs c0 s0 Q (F0 m 140 ls []) := by
  intro d
  induction d with
  | zero =>
    intro i hi c0 s0 hc hs σ H locs ls hR hP hD hS hl
    obtain rfl : i = 6 := by omega
    rw [Nat.zero_mul, Nat.add_zero] at hc hs
    refine lv_iload_n hx hb dL_law_140 rfl (lv_at hl 0 rfl) ?_
    refine lv_bipush (v := 6) hx hb dL_law_141 (by decide) ?_
    refine lv_icmp_ge (tgt := 163) hx hb dL_law_143 (by decide) (fun _ => ?_) (fun h => absurd (nI_le (Nat.le_refl 6) (by omega)) h)
    exact W.widen (by omega) (by omega) (kk σ H locs ls hR hP hD hS (lv_sub hl [1, 2] rfl))
  | succ d ih =>
    intro i hi c0 s0 hc hs σ H locs ls hR hP hD hS hl
    rw [Nat.succ_mul] at hc hs
    refine lv_iload_n hx hb dL_law_140 rfl (lv_at hl 0 rfl) ?_
    refine lv_bipush (v := 6) hx hb dL_law_141 (by decide) ?_
    refine lv_icmp_ge (tgt := 163) hx hb dL_law_143 (by decide) (fun h => absurd h (nI_ge (a := i) (b := 6) (by omega) (by omega))) (fun _ => ?_)
    have hi2 : i < 6 := by omega
    refine lv_aload_n hx hb dL_law_146 rfl (lv_at hl 1 rfl) ?_
    refine lv_iconst (v := 4) hx hb dL_law_147 (by decide) ?_
    refine lc_k (v := (nI i)) (a1 := (eT (i + 1))) (cells' := c0 + 1) (slots' := s0 + 6) (fc_runSW (n := 2) (As := [.ref (ad 0), .int (4 : Int32)]) (rest := []) (isC := iL) (maxL := 3) ⟨hx, hb, hml, hown, hts⟩ ((LCi.at (LC_tour hlst ad (eT i) 4) (eT_st hi2)) σ hR H.size) gL_law_L_tour rfl (by decide +kernel) rfl ⟨Nat.le_of_ble_eq_true rfl, Nat.le_of_ble_eq_true rfl⟩ ⟨by show c0 + 0 + 1 ≤ 600258; omega, by show s0 + 0 + 6 ≤ 7294185; omega⟩ hE hP hD hS hA (iL_C k ad σ ([] : va_W)) iL_nd hl rfl (Nat.le_of_ble_eq_true rfl) dL_law_148) hP hD hS hA (by show c0 + 0 + 1 = c0 + 1; omega) (by show s0 + 0 + 6 = s0 + 6; omega) (fun σ H locs hR hP hD hS => ?_)
    refine lv_iload_n hx hb dL_law_151 rfl (lv_at hl 0 rfl) ?_
    refine lv_icmp_eq (tgt := 157) hx hb dL_law_152 (by decide) (fun _ => ?_) (fun h => absurd rfl h)
    refine lv_iinc (v := (nI (i + 1))) (lv' := [(2, .int (nI (i + 1))), (1, .ref (ad 0)), (0, .ref (kB k))]) hx hb dL_law_157 hl (k := 0) rfl (nI_add _ 1) (by decide) rfl (fun ls hl => ?_)
    refine lv_goto (tgt := 140) hx hb dL_law_160 (by decide) ?_
    exact ih (i + 1) (by omega) (c0 + 1) (s0 + 6) (by omega) (by omega) σ H locs ls hR hP hD hS (lv_sub hl [0, 1, 2] rfl)
set_option maxRecDepth 100000 in
set_option maxHeartbeats 4000000 in
theorem wE_138 {p : Program} {l : Launch} {e : Env} {s : State} {m : MethodId} {args : Array Value} {below : List Frame} {meth : Method} {c : Code} {D : va_G} {k : tyK} {A : Nat → Prop} {Q : State → Prop} (hx : p.tables.exec = Jvm.exec) (hb : c.code = cL_law) (hml : c.maxLocals = 11) (hts : ∀ w ∈ wsL_law, w.before args s = true) (hown : s.vm.findClass RL = some m.cls) (hA : ∀ q : Nat, s.heap.size ≤ q → A q) (hE : GE D k A s) (hlst : l.stackTraces = false) (ad : Nat → Nat) (c0 s0 cK sK : Nat) (hcK : cK ≤ 600258) (hsK : sK ≤ 7294185) (hc : c0 + 16 ≤ cK) (hs : s0 + 96 ≤ sK)
    (kk : ∀ (σ : TSt) (H : Heap) (locs : List Loc) (ls : Array Slot), Rep σ eS8 → va_P D vwCl (WT k ad σ ++ ([] : va_W)) H → va_D A (WT k ad σ ++ ([] : va_W)) → va_S A s.heap H locs → lv_has ls 11 [(1, .ref (ad 0)), (0, .ref (kB k))] → W p l e room_1 s m args below meth c H locs cK sK Q (F0 m 228 ls []))
    (σ : TSt) (H : Heap) (locs : List Loc) (ls : Array Slot) (hR : Rep σ eS6) (hP : va_P D vwCl (WT k ad σ ++ ([] : va_W)) H) (hD : va_D A (WT k ad σ ++ ([] : va_W))) (hS : va_S A s.heap H locs) (hl : lv_has ls 11 [(1, .ref (ad 0)), (0, .ref (kB k))]) : W p l e room_1 s m args below meth c H locs c0 s0 Q (F0 m 138 ls []) := by
  refine lv_iconst (v := 0) hx hb dL_law_138 (by decide) ?_
  refine lv_istore_n (lv' := [(2, .int (0 : Int32)), (1, .ref (ad 0)), (0, .ref (kB k))]) hx hb dL_law_139 rfl hl (by decide) rfl (fun ls hl => ?_)
  refine lpE_140 hx hb hml hts hown hA hE hlst ad (c0 + 6) (s0 + 36) (by omega) (by omega) (fun σ H locs ls hR hP hD hS hl => ?_) 6 0 (Nat.zero_add _) (c0 + 0) (s0 + 0) (by omega) (by omega) σ H locs ls hR hP hD hS (lv_sub hl [0, 1, 2] rfl)
  have hR : Rep σ eT6 := hR
  refine lv_aload_n hx hb dL_law_163 rfl (lv_at hl 0 rfl) ?_
  refine lv_iconst (v := 0) hx hb dL_law_164 (by decide) ?_
  refine lc_k (v := (-1002 : Int32)) (a1 := eS7) (cells' := c0 + 7) (slots' := s0 + 42) (fc_runSW (n := 2) (As := [.ref (ad 0), .int (0 : Int32)]) (rest := []) (isC := iL) (maxL := 3) ⟨hx, hb, hml, hown, hts⟩ ((LCi.at (LC_tour hlst ad eT6 (0 : Int32)) eS7_eq) σ hR H.size) gL_law_L_tour rfl (by decide +kernel) rfl ⟨Nat.le_of_ble_eq_true rfl, Nat.le_of_ble_eq_true rfl⟩ ⟨by show c0 + 6 + 1 ≤ 600258; omega, by show s0 + 36 + 6 ≤ 7294185; omega⟩ hE hP hD hS hA (iL_C k ad σ ([] : va_W)) iL_nd hl rfl (Nat.le_of_ble_eq_true rfl) dL_law_165) hP hD hS hA (by show c0 + 6 + 1 = c0 + 7; omega) (by show s0 + 36 + 6 = s0 + 42; omega) (fun σ H locs hR hP hD hS => ?_)
  refine lv_sipush (v := -1002) hx hb dL_law_168 (by decide) ?_
  refine lv_icmp_ne (tgt := 226) hx hb dL_law_171 (by decide) (fun h => absurd h (by decide)) (fun _ => ?_)
  refine lv_aload_n hx hb dL_law_174 rfl (lv_at hl 0 rfl) ?_
  refine lv_iconst (v := 1) hx hb dL_law_175 (by decide) ?_
  refine lv_bipush (v := 6) hx hb dL_law_176 (by decide) ?_
  refine lc_k (v := (1 : Int32)) (a1 := eS7) (cells' := c0 + 9) (slots' := s0 + 54) (fc_runS (n := 3) (As := [.ref (ad 0), .int (1 : Int32), .int (6 : Int32)]) (rest := []) (isC := iL) (maxL := 3) ⟨hx, hb, hml, hown, hts⟩ ((LCi.to (LC_is hlst ad eS7 (1 : Int32) (6 : Int32)) ev12) σ hR H.size) gL_law_L_is rfl (by decide +kernel) rfl ⟨Nat.le_of_ble_eq_true rfl, Nat.le_of_ble_eq_true rfl⟩ ⟨by show c0 + 7 + 2 ≤ 600258; omega, by show s0 + 42 + 12 ≤ 7294185; omega⟩ hE hP hD hS hA (iL_C k ad σ ([] : va_W)) iL_nd hl rfl (Nat.le_of_ble_eq_true rfl) dL_law_178) hP hD hS hA (by show c0 + 7 + 2 = c0 + 9; omega) (by show s0 + 42 + 12 = s0 + 54; omega) (fun σ H locs hR hP hD hS => ?_)
  refine lv_if_eq (tgt := 226) hx hb dL_law_181 (by decide) (fun h => absurd h (by decide)) (fun _ => ?_)
  refine lv_aload_n hx hb dL_law_184 rfl (lv_at hl 0 rfl) ?_
  refine lv_iconst (v := 5) hx hb dL_law_185 (by decide) ?_
  refine lc_k (v := (-1002 : Int32)) (a1 := eS8) (cells' := c0 + 10) (slots' := s0 + 60) (fc_runSW (n := 2) (As := [.ref (ad 0), .int (5 : Int32)]) (rest := []) (isC := iL) (maxL := 3) ⟨hx, hb, hml, hown, hts⟩ ((LCi.at (LC_start hlst ad eS7 (5 : Int32)) eS8_eq) σ hR H.size) gL_law_L_start rfl (by decide +kernel) rfl ⟨Nat.le_of_ble_eq_true rfl, Nat.le_of_ble_eq_true rfl⟩ ⟨by show c0 + 9 + 1 ≤ 600258; omega, by show s0 + 54 + 6 ≤ 7294185; omega⟩ hE hP hD hS hA (iL_C k ad σ ([] : va_W)) iL_nd hl rfl (Nat.le_of_ble_eq_true rfl) dL_law_186) hP hD hS hA (by show c0 + 9 + 1 = c0 + 10; omega) (by show s0 + 54 + 6 = s0 + 60; omega) (fun σ H locs hR hP hD hS => ?_)
  refine lv_sipush (v := -1002) hx hb dL_law_189 (by decide) ?_
  refine lv_icmp_ne (tgt := 226) hx hb dL_law_192 (by decide) (fun h => absurd h (by decide)) (fun _ => ?_)
  refine lv_aload_n hx hb dL_law_195 rfl (lv_at hl 0 rfl) ?_
  refine lv_iconst (v := 3) hx hb dL_law_196 (by decide) ?_
  refine lv_iconst (v := 5) hx hb dL_law_197 (by decide) ?_
  refine lc_k (v := (1 : Int32)) (a1 := eS8) (cells' := c0 + 12) (slots' := s0 + 72) (fc_runS (n := 3) (As := [.ref (ad 0), .int (3 : Int32), .int (5 : Int32)]) (rest := []) (isC := iL) (maxL := 3) ⟨hx, hb, hml, hown, hts⟩ ((LCi.to (LC_is hlst ad eS8 (3 : Int32) (5 : Int32)) ev14) σ hR H.size) gL_law_L_is rfl (by decide +kernel) rfl ⟨Nat.le_of_ble_eq_true rfl, Nat.le_of_ble_eq_true rfl⟩ ⟨by show c0 + 10 + 2 ≤ 600258; omega, by show s0 + 60 + 12 ≤ 7294185; omega⟩ hE hP hD hS hA (iL_C k ad σ ([] : va_W)) iL_nd hl rfl (Nat.le_of_ble_eq_true rfl) dL_law_198) hP hD hS hA (by show c0 + 10 + 2 = c0 + 12; omega) (by show s0 + 60 + 12 = s0 + 72; omega) (fun σ H locs hR hP hD hS => ?_)
  refine lv_if_eq (tgt := 226) hx hb dL_law_201 (by decide) (fun h => absurd h (by decide)) (fun _ => ?_)
  refine lv_aload_n hx hb dL_law_204 rfl (lv_at hl 0 rfl) ?_
  refine lv_iconst (v := 0) hx hb dL_law_205 (by decide) ?_
  refine lc_k (v := (-1002 : Int32)) (a1 := eS8) (cells' := c0 + 14) (slots' := s0 + 84) (fc_runSW (n := 2) (As := [.ref (ad 0), .int (0 : Int32)]) (rest := []) (isC := iL) (maxL := 3) ⟨hx, hb, hml, hown, hts⟩ ((LCi.to (LC_endsIn hlst ad eS8 (0 : Int32)) ev15) σ hR H.size) gL_law_L_endsIn rfl (by decide +kernel) rfl ⟨Nat.le_of_ble_eq_true rfl, Nat.le_of_ble_eq_true rfl⟩ ⟨by show c0 + 12 + 2 ≤ 600258; omega, by show s0 + 72 + 12 ≤ 7294185; omega⟩ hE hP hD hS hA (iL_C k ad σ ([] : va_W)) iL_nd hl rfl (Nat.le_of_ble_eq_true rfl) dL_law_206) hP hD hS hA (by show c0 + 12 + 2 = c0 + 14; omega) (by show s0 + 72 + 12 = s0 + 84; omega) (fun σ H locs hR hP hD hS => ?_)
  refine lv_sipush (v := -1002) hx hb dL_law_209 (by decide) ?_
  refine lv_icmp_ne (tgt := 226) hx hb dL_law_212 (by decide) (fun h => absurd h (by decide)) (fun _ => ?_)
  refine lv_aload_n hx hb dL_law_215 rfl (lv_at hl 0 rfl) ?_
  refine lv_iconst (v := 0) hx hb dL_law_216 (by decide) ?_
  refine lc_k (v := (-1002 : Int32)) (a1 := eS8) (cells' := c0 + 16) (slots' := s0 + 96) (fc_runSW (n := 2) (As := [.ref (ad 0), .int (0 : Int32)]) (rest := []) (isC := iL) (maxL := 3) ⟨hx, hb, hml, hown, hts⟩ ((LCi.to (LC_faultOf hlst ad eS8 (0 : Int32)) ev16) σ hR H.size) gL_law_L_faultOf rfl (by decide +kernel) rfl ⟨Nat.le_of_ble_eq_true rfl, Nat.le_of_ble_eq_true rfl⟩ ⟨by show c0 + 14 + 2 ≤ 600258; omega, by show s0 + 84 + 12 ≤ 7294185; omega⟩ hE hP hD hS hA (iL_C k ad σ ([] : va_W)) iL_nd hl rfl (Nat.le_of_ble_eq_true rfl) dL_law_217) hP hD hS hA (by show c0 + 14 + 2 = c0 + 16; omega) (by show s0 + 84 + 12 = s0 + 96; omega) (fun σ H locs hR hP hD hS => ?_)
  refine lv_sipush (v := -1002) hx hb dL_law_220 (by decide) ?_
  refine lv_icmp_eq (tgt := 228) hx hb dL_law_223 (by decide) (fun _ => ?_) (fun h => absurd h (by decide))
  exact W.widen (by omega) (by omega) (kk σ H locs ls hR hP hD hS (lv_sub hl [0, 1] rfl))
set_option maxRecDepth 100000 in
set_option maxHeartbeats 4000000 in
theorem lpE_230 {p : Program} {l : Launch} {e : Env} {s : State} {m : MethodId} {args : Array Value} {below : List Frame} {meth : Method} {c : Code} {D : va_G} {k : tyK} {A : Nat → Prop} {Q : State → Prop} (hx : p.tables.exec = Jvm.exec) (hb : c.code = cL_law) (hml : c.maxLocals = 11) (hts : ∀ w ∈ wsL_law, w.before args s = true) (hown : s.vm.findClass RL = some m.cls) (hA : ∀ q : Nat, s.heap.size ≤ q → A q) (hE : GE D k A s) (hlst : l.stackTraces = false) (ad : Nat → Nat) (cK sK : Nat) (hcK : cK ≤ 600258) (hsK : sK ≤ 7294185)
    (kk : ∀ (σ : TSt) (H : Heap) (locs : List Loc) (ls : Array Slot), Rep σ (eD 5) → va_P D vwCl (WT k ad σ ++ ([] : va_W)) H → va_D A (WT k ad σ ++ ([] : va_W)) → va_S A s.heap H locs → lv_has ls 11 [(1, .ref (ad 0)), (0, .ref (kB k))] → W p l e room_1 s m args below meth c H locs cK sK Q (F0 m 253 ls [])) :
    ∀ (d i : Nat), i + d = 5 → ∀ (c0 s0 : Nat), c0 + d * 2 ≤ cK → s0 + d * 12 ≤ sK → ∀ (σ : TSt) (H : Heap) (locs : List Loc) (ls : Array Slot), Rep σ (eD i) → va_P D vwCl (WT k ad σ ++ ([] : va_W)) H → va_D A (WT k ad σ ++ ([] : va_W)) → va_S A s.heap H locs → lv_has ls 11 [(2, .int (nI i)), (1, .ref (ad 0)), (0, .ref (kB k))] → W p l e room_1 s m args below meth c H locs c0 s0 Q (F0 m 230 ls []) := by
  intro d
  induction d with
  | zero =>
    intro i hi c0 s0 hc hs σ H locs ls hR hP hD hS hl
    obtain rfl : i = 5 := by omega
    rw [Nat.zero_mul, Nat.add_zero] at hc hs
    refine lv_iload_n hx hb dL_law_230 rfl (lv_at hl 0 rfl) ?_
    refine lv_iconst (v := 5) hx hb dL_law_231 (by decide) ?_
    refine lv_icmp_ge (tgt := 253) hx hb dL_law_232 (by decide) (fun _ => ?_) (fun h => absurd (nI_le (Nat.le_refl 5) (by omega)) h)
    exact W.widen (by omega) (by omega) (kk σ H locs ls hR hP hD hS (lv_sub hl [1, 2] rfl))
  | succ d ih =>
    intro i hi c0 s0 hc hs σ H locs ls hR hP hD hS hl
    rw [Nat.succ_mul] at hc hs
    refine lv_iload_n hx hb dL_law_230 rfl (lv_at hl 0 rfl) ?_
    refine lv_iconst (v := 5) hx hb dL_law_231 (by decide) ?_
    refine lv_icmp_ge (tgt := 253) hx hb dL_law_232 (by decide) (fun h => absurd h (nI_ge (a := i) (b := 5) (by omega) (by omega))) (fun _ => ?_)
    have hi2 : i < 5 := by omega
    refine lv_aload_n hx hb dL_law_235 rfl (lv_at hl 1 rfl) ?_
    refine lv_iload_n hx hb dL_law_236 rfl (lv_at hl 0 rfl) ?_
    refine lv_iconst (v := 1) hx hb dL_law_237 (by decide) ?_
    refine lc_k (v := (2 : Int32)) (a1 := (eD (i + 1))) (cells' := c0 + 2) (slots' := s0 + 12) (fc_runSW (n := 3) (As := [.ref (ad 0), .int (nI i), .int (1 : Int32)]) (rest := []) (isC := iL) (maxL := 4) ⟨hx, hb, hml, hown, hts⟩ ((LCi.at (LC_dear hlst ad (eD i) (nI i) 1) (eD_st hi2)) σ hR H.size) gL_law_L_dear rfl (by decide +kernel) rfl ⟨Nat.le_of_ble_eq_true rfl, Nat.le_of_ble_eq_true rfl⟩ ⟨by show c0 + 0 + 2 ≤ 600258; omega, by show s0 + 0 + 12 ≤ 7294185; omega⟩ hE hP hD hS hA (iL_C k ad σ ([] : va_W)) iL_nd hl rfl (Nat.le_of_ble_eq_true rfl) dL_law_238) hP hD hS hA (by show c0 + 0 + 2 = c0 + 2; omega) (by show s0 + 0 + 12 = s0 + 12; omega) (fun σ H locs hR hP hD hS => ?_)
    refine lv_iconst (v := 2) hx hb dL_law_241 (by decide) ?_
    refine lv_icmp_eq (tgt := 247) hx hb dL_law_242 (by decide) (fun _ => ?_) (fun h => absurd rfl h)
    refine lv_iinc (v := (nI (i + 1))) (lv' := [(2, .int (nI (i + 1))), (1, .ref (ad 0)), (0, .ref (kB k))]) hx hb dL_law_247 hl (k := 0) rfl (nI_add _ 1) (by decide) rfl (fun ls hl => ?_)
    refine lv_goto (tgt := 230) hx hb dL_law_250 (by decide) ?_
    exact ih (i + 1) (by omega) (c0 + 2) (s0 + 12) (by omega) (by omega) σ H locs ls hR hP hD hS (lv_sub hl [0, 1, 2] rfl)
set_option maxRecDepth 100000 in
set_option maxHeartbeats 4000000 in
theorem wE_228 {p : Program} {l : Launch} {e : Env} {s : State} {m : MethodId} {args : Array Value} {below : List Frame} {meth : Method} {c : Code} {D : va_G} {k : tyK} {A : Nat → Prop} {Q : State → Prop} (hx : p.tables.exec = Jvm.exec) (hb : c.code = cL_law) (hml : c.maxLocals = 11) (hts : ∀ w ∈ wsL_law, w.before args s = true) (hown : s.vm.findClass RL = some m.cls) (hA : ∀ q : Nat, s.heap.size ≤ q → A q) (hE : GE D k A s) (hlst : l.stackTraces = false) (ad : Nat → Nat) (c0 s0 cK sK : Nat) (hcK : cK ≤ 600258) (hsK : sK ≤ 7294185) (hc : c0 + 10 ≤ cK) (hs : s0 + 60 ≤ sK)
    (kk : ∀ (σ : TSt) (H : Heap) (locs : List Loc) (ls : Array Slot), Rep σ eD5 → va_P D vwCl (WT k ad σ ++ ([] : va_W)) H → va_D A (WT k ad σ ++ ([] : va_W)) → va_S A s.heap H locs → lv_has ls 11 [(1, .ref (ad 0)), (0, .ref (kB k))] → W p l e room_1 s m args below meth c H locs cK sK Q (F0 m 253 ls []))
    (σ : TSt) (H : Heap) (locs : List Loc) (ls : Array Slot) (hR : Rep σ eS8) (hP : va_P D vwCl (WT k ad σ ++ ([] : va_W)) H) (hD : va_D A (WT k ad σ ++ ([] : va_W))) (hS : va_S A s.heap H locs) (hl : lv_has ls 11 [(1, .ref (ad 0)), (0, .ref (kB k))]) : W p l e room_1 s m args below meth c H locs c0 s0 Q (F0 m 228 ls []) := by
  refine lv_iconst (v := 0) hx hb dL_law_228 (by decide) ?_
  refine lv_istore_n (lv' := [(2, .int (0 : Int32)), (1, .ref (ad 0)), (0, .ref (kB k))]) hx hb dL_law_229 rfl hl (by decide) rfl (fun ls hl => ?_)
  refine lpE_230 hx hb hml hts hown hA hE hlst ad (c0 + 10) (s0 + 60) (by omega) (by omega) (fun σ H locs ls hR hP hD hS hl => ?_) 5 0 (Nat.zero_add _) (c0 + 0) (s0 + 0) (by omega) (by omega) σ H locs ls hR hP hD hS (lv_sub hl [0, 1, 2] rfl)
  have hR : Rep σ eD5 := hR
  exact W.widen (by omega) (by omega) (kk σ H locs ls hR hP hD hS (lv_sub hl [0, 1] rfl))
set_option maxRecDepth 100000 in
set_option maxHeartbeats 4000000 in
theorem lpE_262 {p : Program} {l : Launch} {e : Env} {s : State} {m : MethodId} {args : Array Value} {below : List Frame} {meth : Method} {c : Code} {D : va_G} {k : tyK} {A : Nat → Prop} {Q : State → Prop} (hx : p.tables.exec = Jvm.exec) (hb : c.code = cL_law) (hml : c.maxLocals = 11) (hts : ∀ w ∈ wsL_law, w.before args s = true) (hown : s.vm.findClass RL = some m.cls) (hA : ∀ q : Nat, s.heap.size ≤ q → A q) (hE : GE D k A s) (hlst : l.stackTraces = false) (ad : Nat → Nat) {t : Nat} (ht : t < 5) (cK sK : Nat) (hcK : cK ≤ 600258) (hsK : sK ≤ 7294185)
    (kk : ∀ (σ : TSt) (H : Heap) (locs : List Loc) (ls : Array Slot), Rep σ (eQ (8 * t + 8)) → va_P D vwCl (WT k ad σ ++ ([] : va_W)) H → va_D A (WT k ad σ ++ ([] : va_W)) → va_S A s.heap H locs → lv_has ls 11 [(3, .int (nI 8)), (2, .int (nI t)), (1, .ref (ad 0)), (0, .ref (kB k))] → W p l e room_1 s m args below meth c H locs cK sK Q (F0 m 291 ls [])) :
    ∀ (d i : Nat), i + d = 8 → ∀ (c0 s0 : Nat), c0 + d * 1 ≤ cK → s0 + d * 6 ≤ sK → ∀ (σ : TSt) (H : Heap) (locs : List Loc) (ls : Array Slot), Rep σ (eQ (8 * t + i)) → va_P D vwCl (WT k ad σ ++ ([] : va_W)) H → va_D A (WT k ad σ ++ ([] : va_W)) → va_S A s.heap H locs → lv_has ls 11 [(3, .int (nI i)), (2, .int (nI t)), (1, .ref (ad 0)), (0, .ref (kB k))] → W p l e room_1 s m args below meth c H locs c0 s0 Q (F0 m 262 ls []) := by
  intro d
  induction d with
  | zero =>
    intro i hi c0 s0 hc hs σ H locs ls hR hP hD hS hl
    obtain rfl : i = 8 := by omega
    rw [Nat.zero_mul, Nat.add_zero] at hc hs
    refine lv_iload_n hx hb dL_law_262 rfl (lv_at hl 0 rfl) ?_
    refine lv_bipush (v := 8) hx hb dL_law_263 (by decide) ?_
    refine lv_icmp_ge (tgt := 291) hx hb dL_law_265 (by decide) (fun _ => ?_) (fun h => absurd (nI_le (Nat.le_refl 8) (by omega)) h)
    exact W.widen (by omega) (by omega) (kk σ H locs ls hR hP hD hS hl)
  | succ d ih =>
    intro i hi c0 s0 hc hs σ H locs ls hR hP hD hS hl
    rw [Nat.succ_mul] at hc hs
    refine lv_iload_n hx hb dL_law_262 rfl (lv_at hl 0 rfl) ?_
    refine lv_bipush (v := 8) hx hb dL_law_263 (by decide) ?_
    refine lv_icmp_ge (tgt := 291) hx hb dL_law_265 (by decide) (fun h => absurd h (nI_ge (a := i) (b := 8) (by omega) (by omega))) (fun _ => ?_)
    refine lv_aload_n hx hb dL_law_268 rfl (lv_at hl 2 rfl) ?_
    refine lv_iload_n hx hb dL_law_269 rfl (lv_at hl 1 rfl) ?_
    refine lv_iconst (v := 0) hx hb dL_law_270 (by decide) ?_
    refine lv_iload_n hx hb dL_law_271 rfl (lv_at hl 1 rfl) ?_
    refine lv_iload_n hx hb dL_law_272 rfl (lv_at hl 0 rfl) ?_
    refine lv_iconst (v := 1) hx hb dL_law_273 (by decide) ?_
    refine lc_k (v := (nI (i + 1))) (a1 := (eQ (8 * t + (i + 1)))) (cells' := c0 + 1) (slots' := s0 + 6) (fc_runSW (n := 6) (As := [.ref (ad 0), .int (nI t), .int (0 : Int32), .int (nI t), .int (nI i), .int (1 : Int32)]) (rest := []) (isC := iL) (maxL := 7) ⟨hx, hb, hml, hown, hts⟩ ((LCi.at (LC_step hlst ad (eQ (8 * t + i)) (nI t) 0 (nI t) (nI i) 1) (eQ_st ht (by omega))) σ hR H.size) gL_law_L_step rfl (by decide +kernel) rfl ⟨Nat.le_of_ble_eq_true rfl, Nat.le_of_ble_eq_true rfl⟩ ⟨by show c0 + 0 + 1 ≤ 600258; omega, by show s0 + 0 + 6 ≤ 7294185; omega⟩ hE hP hD hS hA (iL_C k ad σ ([] : va_W)) iL_nd hl rfl (Nat.le_of_ble_eq_true rfl) dL_law_274) hP hD hS hA (by show c0 + 0 + 1 = c0 + 1; omega) (by show s0 + 0 + 6 = s0 + 6; omega) (fun σ H locs hR hP hD hS => ?_)
    refine lv_iload_n hx hb dL_law_277 rfl (lv_at hl 0 rfl) ?_
    refine lv_iconst (v := 1) hx hb dL_law_278 (by decide) ?_
    refine lv_iadd hx hb dL_law_279 ?_
    refine lv_icmp_eq (tgt := 285) hx hb dL_law_280 (by decide) (fun _ => ?_) (fun h => absurd (nI_1 i).symm h)
    refine lv_iinc (v := (nI (i + 1))) (lv' := [(3, .int (nI (i + 1))), (2, .int (nI t)), (1, .ref (ad 0)), (0, .ref (kB k))]) hx hb dL_law_285 hl (k := 0) rfl (nI_add _ 1) (by decide) rfl (fun ls hl => ?_)
    refine lv_goto (tgt := 262) hx hb dL_law_288 (by decide) ?_
    exact ih (i + 1) (by omega) (c0 + 1) (s0 + 6) (by omega) (by omega) σ H locs ls hR hP hD hS (lv_sub hl [0, 1, 2, 3] rfl)
set_option maxRecDepth 100000 in
set_option maxHeartbeats 4000000 in
theorem lpE_255 {p : Program} {l : Launch} {e : Env} {s : State} {m : MethodId} {args : Array Value} {below : List Frame} {meth : Method} {c : Code} {D : va_G} {k : tyK} {A : Nat → Prop} {Q : State → Prop} (hx : p.tables.exec = Jvm.exec) (hb : c.code = cL_law) (hml : c.maxLocals = 11) (hts : ∀ w ∈ wsL_law, w.before args s = true) (hown : s.vm.findClass RL = some m.cls) (hA : ∀ q : Nat, s.heap.size ≤ q → A q) (hE : GE D k A s) (hlst : l.stackTraces = false) (ad : Nat → Nat) (cK sK : Nat) (hcK : cK ≤ 600258) (hsK : sK ≤ 7294185)
    (kk : ∀ (σ : TSt) (H : Heap) (locs : List Loc) (ls : Array Slot), Rep σ (eP 5) → va_P D vwCl (WT k ad σ ++ ([] : va_W)) H → va_D A (WT k ad σ ++ ([] : va_W)) → va_S A s.heap H locs → lv_has ls 11 [(1, .ref (ad 0)), (0, .ref (kB k))] → W p l e room_1 s m args below meth c H locs cK sK Q (F0 m 297 ls [])) :
    ∀ (d i : Nat), i + d = 5 → ∀ (c0 s0 : Nat), c0 + d * 8 ≤ cK → s0 + d * 48 ≤ sK → ∀ (σ : TSt) (H : Heap) (locs : List Loc) (ls : Array Slot), Rep σ (eP i) → va_P D vwCl (WT k ad σ ++ ([] : va_W)) H → va_D A (WT k ad σ ++ ([] : va_W)) → va_S A s.heap H locs → lv_has ls 11 [(2, .int (nI i)), (1, .ref (ad 0)), (0, .ref (kB k))] → W p l e room_1 s m args below meth c H locs c0 s0 Q (F0 m 255 ls []) := by
  intro d
  induction d with
  | zero =>
    intro i hi c0 s0 hc hs σ H locs ls hR hP hD hS hl
    obtain rfl : i = 5 := by omega
    rw [Nat.zero_mul, Nat.add_zero] at hc hs
    refine lv_iload_n hx hb dL_law_255 rfl (lv_at hl 0 rfl) ?_
    refine lv_iconst (v := 5) hx hb dL_law_256 (by decide) ?_
    refine lv_icmp_ge (tgt := 297) hx hb dL_law_257 (by decide) (fun _ => ?_) (fun h => absurd (nI_le (Nat.le_refl 5) (by omega)) h)
    exact W.widen (by omega) (by omega) (kk σ H locs ls hR hP hD hS (lv_sub hl [1, 2] rfl))
  | succ d ih =>
    intro i hi c0 s0 hc hs σ H locs ls hR hP hD hS hl
    rw [Nat.succ_mul] at hc hs
    refine lv_iload_n hx hb dL_law_255 rfl (lv_at hl 0 rfl) ?_
    refine lv_iconst (v := 5) hx hb dL_law_256 (by decide) ?_
    refine lv_icmp_ge (tgt := 297) hx hb dL_law_257 (by decide) (fun h => absurd h (nI_ge (a := i) (b := 5) (by omega) (by omega))) (fun _ => ?_)
    have hi2 : i < 5 := by omega
    refine lv_iconst (v := 0) hx hb dL_law_260 (by decide) ?_
    refine lv_istore_n (lv' := [(3, .int (0 : Int32)), (2, .int (nI i)), (1, .ref (ad 0)), (0, .ref (kB k))]) hx hb dL_law_261 rfl hl (by decide) rfl (fun ls hl => ?_)
    refine lpE_262 hx hb hml hts hown hA hE hlst ad (t := i) hi2 (c0 + 8) (s0 + 48) (by omega) (by omega) (fun σ H locs ls hR hP hD hS hl => ?_) 8 0 (Nat.zero_add _) (c0 + 0) (s0 + 0) (by omega) (by omega) σ H locs ls hR hP hD hS (lv_sub hl [0, 1, 2, 3] rfl)
    have hR : Rep σ (eP (i + 1)) := hR
    refine lv_iinc (v := (nI (i + 1))) (lv' := [(2, .int (nI (i + 1))), (3, .int (nI 8)), (1, .ref (ad 0)), (0, .ref (kB k))]) hx hb dL_law_291 hl (k := 1) rfl (nI_add _ 1) (by decide) rfl (fun ls hl => ?_)
    refine lv_goto (tgt := 255) hx hb dL_law_294 (by decide) ?_
    exact ih (i + 1) (by omega) (c0 + 8) (s0 + 48) (by omega) (by omega) σ H locs ls hR hP hD hS (lv_sub hl [0, 2, 3] rfl)
set_option maxRecDepth 100000 in
set_option maxHeartbeats 4000000 in
theorem wE_253 {p : Program} {l : Launch} {e : Env} {s : State} {m : MethodId} {args : Array Value} {below : List Frame} {meth : Method} {c : Code} {D : va_G} {k : tyK} {A : Nat → Prop} {Q : State → Prop} (hx : p.tables.exec = Jvm.exec) (hb : c.code = cL_law) (hml : c.maxLocals = 11) (hts : ∀ w ∈ wsL_law, w.before args s = true) (hown : s.vm.findClass RL = some m.cls) (hA : ∀ q : Nat, s.heap.size ≤ q → A q) (hE : GE D k A s) (hlst : l.stackTraces = false) (ad : Nat → Nat) (c0 s0 cK sK : Nat) (hcK : cK ≤ 600258) (hsK : sK ≤ 7294185) (hc : c0 + 48 ≤ cK) (hs : s0 + 288 ≤ sK)
    (kk : ∀ (σ : TSt) (H : Heap) (locs : List Loc) (ls : Array Slot), Rep σ eS10 → va_P D vwCl (WT k ad σ ++ ([] : va_W)) H → va_D A (WT k ad σ ++ ([] : va_W)) → va_S A s.heap H locs → lv_has ls 11 [(1, .ref (ad 0)), (0, .ref (kB k))] → W p l e room_1 s m args below meth c H locs cK sK Q (F0 m 371 ls []))
    (σ : TSt) (H : Heap) (locs : List Loc) (ls : Array Slot) (hR : Rep σ eD5) (hP : va_P D vwCl (WT k ad σ ++ ([] : va_W)) H) (hD : va_D A (WT k ad σ ++ ([] : va_W))) (hS : va_S A s.heap H locs) (hl : lv_has ls 11 [(1, .ref (ad 0)), (0, .ref (kB k))]) : W p l e room_1 s m args below meth c H locs c0 s0 Q (F0 m 253 ls []) := by
  refine lv_iconst (v := 0) hx hb dL_law_253 (by decide) ?_
  refine lv_istore_n (lv' := [(2, .int (0 : Int32)), (1, .ref (ad 0)), (0, .ref (kB k))]) hx hb dL_law_254 rfl hl (by decide) rfl (fun ls hl => ?_)
  refine lpE_255 hx hb hml hts hown hA hE hlst ad (c0 + 40) (s0 + 240) (by omega) (by omega) (fun σ H locs ls hR hP hD hS hl => ?_) 5 0 (Nat.zero_add _) (c0 + 0) (s0 + 0) (by omega) (by omega) σ H locs ls hR hP hD hS (lv_sub hl [0, 1, 2] rfl)
  obtain ⟨σ, hR, hP, hD⟩ := rep_nm (a := eP 5) eTS hR (fun j hj => eTS_all ⟨j, hj⟩) hP hD
  have hR : Rep σ eN0 := hR
  refine lv_aload_n hx hb dL_law_297 rfl (lv_at hl 0 rfl) ?_
  refine lv_iconst (v := 0) hx hb dL_law_298 (by decide) ?_
  refine lv_iconst (v := 1) hx hb dL_law_299 (by decide) ?_
  refine lv_iconst (v := 0) hx hb dL_law_300 (by decide) ?_
  refine lv_iconst (v := 0) hx hb dL_law_301 (by decide) ?_
  refine lv_iconst (v := 1) hx hb dL_law_302 (by decide) ?_
  refine lc_k (v := (-1003 : Int32)) (a1 := eS9) (cells' := c0 + 41) (slots' := s0 + 246) (fc_runSW (n := 6) (As := [.ref (ad 0), .int (0 : Int32), .int (1 : Int32), .int (0 : Int32), .int (0 : Int32), .int (1 : Int32)]) (rest := []) (isC := iL) (maxL := 7) ⟨hx, hb, hml, hown, hts⟩ ((LCi.at (LC_step hlst ad eN0 (0 : Int32) (1 : Int32) (0 : Int32) (0 : Int32) (1 : Int32)) eS9_eq) σ hR H.size) gL_law_L_step rfl (by decide +kernel) rfl ⟨Nat.le_of_ble_eq_true rfl, Nat.le_of_ble_eq_true rfl⟩ ⟨by show c0 + 40 + 1 ≤ 600258; omega, by show s0 + 240 + 6 ≤ 7294185; omega⟩ hE hP hD hS hA (iL_C k ad σ ([] : va_W)) iL_nd hl rfl (Nat.le_of_ble_eq_true rfl) dL_law_303) hP hD hS hA (by show c0 + 40 + 1 = c0 + 41; omega) (by show s0 + 240 + 6 = s0 + 246; omega) (fun σ H locs hR hP hD hS => ?_)
  refine lv_sipush (v := -1003) hx hb dL_law_306 (by decide) ?_
  refine lv_icmp_ne (tgt := 369) hx hb dL_law_309 (by decide) (fun h => absurd h (by decide)) (fun _ => ?_)
  refine lv_aload_n hx hb dL_law_312 rfl (lv_at hl 0 rfl) ?_
  refine lv_iconst (v := 1) hx hb dL_law_313 (by decide) ?_
  refine lv_bipush (v := 8) hx hb dL_law_314 (by decide) ?_
  refine lc_k (v := (1 : Int32)) (a1 := eS9) (cells' := c0 + 43) (slots' := s0 + 258) (fc_runS (n := 3) (As := [.ref (ad 0), .int (1 : Int32), .int (8 : Int32)]) (rest := []) (isC := iL) (maxL := 3) ⟨hx, hb, hml, hown, hts⟩ ((LCi.to (LC_is hlst ad eS9 (1 : Int32) (8 : Int32)) ev18) σ hR H.size) gL_law_L_is rfl (by decide +kernel) rfl ⟨Nat.le_of_ble_eq_true rfl, Nat.le_of_ble_eq_true rfl⟩ ⟨by show c0 + 41 + 2 ≤ 600258; omega, by show s0 + 246 + 12 ≤ 7294185; omega⟩ hE hP hD hS hA (iL_C k ad σ ([] : va_W)) iL_nd hl rfl (Nat.le_of_ble_eq_true rfl) dL_law_316) hP hD hS hA (by show c0 + 41 + 2 = c0 + 43; omega) (by show s0 + 246 + 12 = s0 + 258; omega) (fun σ H locs hR hP hD hS => ?_)
  refine lv_if_eq (tgt := 369) hx hb dL_law_319 (by decide) (fun h => absurd h (by decide)) (fun _ => ?_)
  refine lv_aload_n hx hb dL_law_322 rfl (lv_at hl 0 rfl) ?_
  refine lv_iconst (v := 0) hx hb dL_law_323 (by decide) ?_
  refine lv_iconst (v := 0) hx hb dL_law_324 (by decide) ?_
  refine lv_iconst (v := 0) hx hb dL_law_325 (by decide) ?_
  refine lv_bipush (v := 7) hx hb dL_law_326 (by decide) ?_
  refine lv_iconst (v := 1) hx hb dL_law_328 (by decide) ?_
  refine lc_k (v := (-1003 : Int32)) (a1 := eS10) (cells' := c0 + 44) (slots' := s0 + 264) (fc_runSW (n := 6) (As := [.ref (ad 0), .int (0 : Int32), .int (0 : Int32), .int (0 : Int32), .int (7 : Int32), .int (1 : Int32)]) (rest := []) (isC := iL) (maxL := 7) ⟨hx, hb, hml, hown, hts⟩ ((LCi.at (LC_step hlst ad eS9 (0 : Int32) (0 : Int32) (0 : Int32) (7 : Int32) (1 : Int32)) eS10_eq) σ hR H.size) gL_law_L_step rfl (by decide +kernel) rfl ⟨Nat.le_of_ble_eq_true rfl, Nat.le_of_ble_eq_true rfl⟩ ⟨by show c0 + 43 + 1 ≤ 600258; omega, by show s0 + 258 + 6 ≤ 7294185; omega⟩ hE hP hD hS hA (iL_C k ad σ ([] : va_W)) iL_nd hl rfl (Nat.le_of_ble_eq_true rfl) dL_law_329) hP hD hS hA (by show c0 + 43 + 1 = c0 + 44; omega) (by show s0 + 258 + 6 = s0 + 264; omega) (fun σ H locs hR hP hD hS => ?_)
  refine lv_sipush (v := -1003) hx hb dL_law_332 (by decide) ?_
  refine lv_icmp_ne (tgt := 369) hx hb dL_law_335 (by decide) (fun h => absurd h (by decide)) (fun _ => ?_)
  refine lv_aload_n hx hb dL_law_338 rfl (lv_at hl 0 rfl) ?_
  refine lv_iconst (v := 5) hx hb dL_law_339 (by decide) ?_
  refine lv_bipush (v := 7) hx hb dL_law_340 (by decide) ?_
  refine lc_k (v := (1 : Int32)) (a1 := eS10) (cells' := c0 + 46) (slots' := s0 + 276) (fc_runS (n := 3) (As := [.ref (ad 0), .int (5 : Int32), .int (7 : Int32)]) (rest := []) (isC := iL) (maxL := 3) ⟨hx, hb, hml, hown, hts⟩ ((LCi.to (LC_is hlst ad eS10 (5 : Int32) (7 : Int32)) ev20) σ hR H.size) gL_law_L_is rfl (by decide +kernel) rfl ⟨Nat.le_of_ble_eq_true rfl, Nat.le_of_ble_eq_true rfl⟩ ⟨by show c0 + 44 + 2 ≤ 600258; omega, by show s0 + 264 + 12 ≤ 7294185; omega⟩ hE hP hD hS hA (iL_C k ad σ ([] : va_W)) iL_nd hl rfl (Nat.le_of_ble_eq_true rfl) dL_law_342) hP hD hS hA (by show c0 + 44 + 2 = c0 + 46; omega) (by show s0 + 264 + 12 = s0 + 276; omega) (fun σ H locs hR hP hD hS => ?_)
  refine lv_if_eq (tgt := 369) hx hb dL_law_345 (by decide) (fun h => absurd h (by decide)) (fun _ => ?_)
  refine lv_aload_n hx hb dL_law_348 rfl (lv_at hl 0 rfl) ?_
  refine lv_iconst (v := 4) hx hb dL_law_349 (by decide) ?_
  refine lc_k (v := (48 : Int32)) (a1 := eS10) (cells' := c0 + 47) (slots' := s0 + 282) (fc_runSW (n := 2) (As := [.ref (ad 0), .int (4 : Int32)]) (rest := []) (isC := iL) (maxL := 3) ⟨hx, hb, hml, hown, hts⟩ ((LCi.to (LC_costs hlst ad eS10 (4 : Int32)) ev21) σ hR H.size) gL_law_L_costs rfl (by decide +kernel) rfl ⟨Nat.le_of_ble_eq_true rfl, Nat.le_of_ble_eq_true rfl⟩ ⟨by show c0 + 46 + 1 ≤ 600258; omega, by show s0 + 276 + 6 ≤ 7294185; omega⟩ hE hP hD hS hA (iL_C k ad σ ([] : va_W)) iL_nd hl rfl (Nat.le_of_ble_eq_true rfl) dL_law_350) hP hD hS hA (by show c0 + 46 + 1 = c0 + 47; omega) (by show s0 + 276 + 6 = s0 + 282; omega) (fun σ H locs hR hP hD hS => ?_)
  refine lv_bipush (v := 48) hx hb dL_law_353 (by decide) ?_
  refine lv_icmp_ne (tgt := 369) hx hb dL_law_355 (by decide) (fun h => absurd h (by decide)) (fun _ => ?_)
  refine lv_aload_n hx hb dL_law_358 rfl (lv_at hl 0 rfl) ?_
  refine lv_bipush (v := 16) hx hb dL_law_359 (by decide) ?_
  refine lc_k (v := (8 : Int32)) (a1 := eS10) (cells' := c0 + 48) (slots' := s0 + 288) (fc_runSW (n := 2) (As := [.ref (ad 0), .int (16 : Int32)]) (rest := []) (isC := iL) (maxL := 3) ⟨hx, hb, hml, hown, hts⟩ ((LCi.to (LC_number hlst ad eS10 (16 : Int32)) ev22) σ hR H.size) gL_law_L_number rfl (by decide +kernel) rfl ⟨Nat.le_of_ble_eq_true rfl, Nat.le_of_ble_eq_true rfl⟩ ⟨by show c0 + 47 + 1 ≤ 600258; omega, by show s0 + 282 + 6 ≤ 7294185; omega⟩ hE hP hD hS hA (iL_C k ad σ ([] : va_W)) iL_nd hl rfl (Nat.le_of_ble_eq_true rfl) dL_law_361) hP hD hS hA (by show c0 + 47 + 1 = c0 + 48; omega) (by show s0 + 282 + 6 = s0 + 288; omega) (fun σ H locs hR hP hD hS => ?_)
  refine lv_bipush (v := 8) hx hb dL_law_364 (by decide) ?_
  refine lv_icmp_eq (tgt := 371) hx hb dL_law_366 (by decide) (fun _ => ?_) (fun h => absurd h (by decide))
  exact W.widen (by omega) (by omega) (kk σ H locs ls hR hP hD hS (lv_sub hl [0, 1] rfl))
set_option maxRecDepth 100000 in
set_option maxHeartbeats 4000000 in
theorem wE_371 {p : Program} {l : Launch} {e : Env} {s : State} {m : MethodId} {args : Array Value} {below : List Frame} {meth : Method} {c : Code} {D : va_G} {k : tyK} {A : Nat → Prop} {Q : State → Prop} (hx : p.tables.exec = Jvm.exec) (hb : c.code = cL_law) (hml : c.maxLocals = 11) (hts : ∀ w ∈ wsL_law, w.before args s = true) (hown : s.vm.findClass RL = some m.cls) (hA : ∀ q : Nat, s.heap.size ≤ q → A q) (hE : GE D k A s) (hlst : l.stackTraces = false) (ad : Nat → Nat) (c0 s0 cK sK : Nat) (hcK : cK ≤ 600258) (hsK : sK ≤ 7294185) (hc : c0 + 12 ≤ cK) (hs : s0 + 72 ≤ sK)
    (kk : ∀ (σ : TSt) (H : Heap) (locs : List Loc) (ls : Array Slot), Rep σ eS15 → va_P D vwCl (WT k ad σ ++ ([] : va_W)) H → va_D A (WT k ad σ ++ ([] : va_W)) → va_S A s.heap H locs → lv_has ls 11 [(1, .ref (ad 0)), (0, .ref (kB k))] → W p l e room_1 s m args below meth c H locs cK sK Q (F0 m 460 ls []))
    (σ : TSt) (H : Heap) (locs : List Loc) (ls : Array Slot) (hR : Rep σ eS10) (hP : va_P D vwCl (WT k ad σ ++ ([] : va_W)) H) (hD : va_D A (WT k ad σ ++ ([] : va_W))) (hS : va_S A s.heap H locs) (hl : lv_has ls 11 [(1, .ref (ad 0)), (0, .ref (kB k))]) : W p l e room_1 s m args below meth c H locs c0 s0 Q (F0 m 371 ls []) := by
  refine lv_aload_n hx hb dL_law_371 rfl (lv_at hl 0 rfl) ?_
  refine lv_iconst (v := 0) hx hb dL_law_372 (by decide) ?_
  refine lc_k (v := (1 : Int32)) (a1 := eS11) (cells' := c0 + 1) (slots' := s0 + 6) (fc_runSW (n := 2) (As := [.ref (ad 0), .int (0 : Int32)]) (rest := []) (isC := iL) (maxL := 3) ⟨hx, hb, hml, hown, hts⟩ ((LCi.at (LC_start hlst ad eS10 (0 : Int32)) eS11_eq) σ hR H.size) gL_law_L_start rfl (by decide +kernel) rfl ⟨Nat.le_of_ble_eq_true rfl, Nat.le_of_ble_eq_true rfl⟩ ⟨by show c0 + 0 + 1 ≤ 600258; omega, by show s0 + 0 + 6 ≤ 7294185; omega⟩ hE hP hD hS hA (iL_C k ad σ ([] : va_W)) iL_nd hl rfl (Nat.le_of_ble_eq_true rfl) dL_law_373) hP hD hS hA (by show c0 + 0 + 1 = c0 + 1; omega) (by show s0 + 0 + 6 = s0 + 6; omega) (fun σ H locs hR hP hD hS => ?_)
  refine lv_iconst (v := 1) hx hb dL_law_376 (by decide) ?_
  refine lv_icmp_ne (tgt := 593) hx hb dL_law_377 (by decide) (fun h => absurd h (by decide)) (fun _ => ?_)
  refine lv_aload_n hx hb dL_law_380 rfl (lv_at hl 0 rfl) ?_
  refine lv_iconst (v := 0) hx hb dL_law_381 (by decide) ?_
  refine lc_k (v := (8 : Int32)) (a1 := eS11) (cells' := c0 + 3) (slots' := s0 + 18) (fc_runSW (n := 2) (As := [.ref (ad 0), .int (0 : Int32)]) (rest := []) (isC := iL) (maxL := 3) ⟨hx, hb, hml, hown, hts⟩ ((LCi.to (LC_endsIn hlst ad eS11 (0 : Int32)) ev24) σ hR H.size) gL_law_L_endsIn rfl (by decide +kernel) rfl ⟨Nat.le_of_ble_eq_true rfl, Nat.le_of_ble_eq_true rfl⟩ ⟨by show c0 + 1 + 2 ≤ 600258; omega, by show s0 + 6 + 12 ≤ 7294185; omega⟩ hE hP hD hS hA (iL_C k ad σ ([] : va_W)) iL_nd hl rfl (Nat.le_of_ble_eq_true rfl) dL_law_382) hP hD hS hA (by show c0 + 1 + 2 = c0 + 3; omega) (by show s0 + 6 + 12 = s0 + 18; omega) (fun σ H locs hR hP hD hS => ?_)
  refine lv_bipush (v := 8) hx hb dL_law_385 (by decide) ?_
  refine lv_icmp_ne (tgt := 593) hx hb dL_law_387 (by decide) (fun h => absurd h (by decide)) (fun _ => ?_)
  refine lv_aload_n hx hb dL_law_390 rfl (lv_at hl 0 rfl) ?_
  refine lv_bipush (v := 8) hx hb dL_law_391 (by decide) ?_
  refine lc_k (v := (1 : Int32)) (a1 := eS12) (cells' := c0 + 4) (slots' := s0 + 24) (fc_runSW (n := 2) (As := [.ref (ad 0), .int (8 : Int32)]) (rest := []) (isC := iL) (maxL := 3) ⟨hx, hb, hml, hown, hts⟩ ((LCi.at (LC_pass hlst ad eS11 (8 : Int32)) eS12_eq) σ hR H.size) gL_law_L_pass rfl (by decide +kernel) rfl ⟨Nat.le_of_ble_eq_true rfl, Nat.le_of_ble_eq_true rfl⟩ ⟨by show c0 + 3 + 1 ≤ 600258; omega, by show s0 + 18 + 6 ≤ 7294185; omega⟩ hE hP hD hS hA (iL_C k ad σ ([] : va_W)) iL_nd hl rfl (Nat.le_of_ble_eq_true rfl) dL_law_393) hP hD hS hA (by show c0 + 3 + 1 = c0 + 4; omega) (by show s0 + 18 + 6 = s0 + 24; omega) (fun σ H locs hR hP hD hS => ?_)
  refine lv_iconst (v := 1) hx hb dL_law_396 (by decide) ?_
  refine lv_icmp_ne (tgt := 593) hx hb dL_law_397 (by decide) (fun h => absurd h (by decide)) (fun _ => ?_)
  refine lv_aload_n hx hb dL_law_400 rfl (lv_at hl 0 rfl) ?_
  refine lv_bipush (v := 7) hx hb dL_law_401 (by decide) ?_
  refine lc_k (v := (132 : Int32)) (a1 := eS12) (cells' := c0 + 5) (slots' := s0 + 30) (fc_runSW (n := 2) (As := [.ref (ad 0), .int (7 : Int32)]) (rest := []) (isC := iL) (maxL := 3) ⟨hx, hb, hml, hown, hts⟩ ((LCi.to (LC_number hlst ad eS12 (7 : Int32)) ev26) σ hR H.size) gL_law_L_number rfl (by decide +kernel) rfl ⟨Nat.le_of_ble_eq_true rfl, Nat.le_of_ble_eq_true rfl⟩ ⟨by show c0 + 4 + 1 ≤ 600258; omega, by show s0 + 24 + 6 ≤ 7294185; omega⟩ hE hP hD hS hA (iL_C k ad σ ([] : va_W)) iL_nd hl rfl (Nat.le_of_ble_eq_true rfl) dL_law_403) hP hD hS hA (by show c0 + 4 + 1 = c0 + 5; omega) (by show s0 + 24 + 6 = s0 + 30; omega) (fun σ H locs hR hP hD hS => ?_)
  refine lv_sipush (v := 132) hx hb dL_law_406 (by decide) ?_
  refine lv_icmp_ne (tgt := 593) hx hb dL_law_409 (by decide) (fun h => absurd h (by decide)) (fun _ => ?_)
  refine lv_aload_n hx hb dL_law_412 rfl (lv_at hl 0 rfl) ?_
  refine lv_iconst (v := 1) hx hb dL_law_413 (by decide) ?_
  refine lc_k (v := (1 : Int32)) (a1 := eS13) (cells' := c0 + 6) (slots' := s0 + 36) (fc_runSW (n := 2) (As := [.ref (ad 0), .int (1 : Int32)]) (rest := []) (isC := iL) (maxL := 3) ⟨hx, hb, hml, hown, hts⟩ ((LCi.at (LC_start hlst ad eS12 (1 : Int32)) eS13_eq) σ hR H.size) gL_law_L_start rfl (by decide +kernel) rfl ⟨Nat.le_of_ble_eq_true rfl, Nat.le_of_ble_eq_true rfl⟩ ⟨by show c0 + 5 + 1 ≤ 600258; omega, by show s0 + 30 + 6 ≤ 7294185; omega⟩ hE hP hD hS hA (iL_C k ad σ ([] : va_W)) iL_nd hl rfl (Nat.le_of_ble_eq_true rfl) dL_law_414) hP hD hS hA (by show c0 + 5 + 1 = c0 + 6; omega) (by show s0 + 30 + 6 = s0 + 36; omega) (fun σ H locs hR hP hD hS => ?_)
  refine lv_iconst (v := 1) hx hb dL_law_417 (by decide) ?_
  refine lv_icmp_ne (tgt := 593) hx hb dL_law_418 (by decide) (fun h => absurd h (by decide)) (fun _ => ?_)
  refine lv_aload_n hx hb dL_law_421 rfl (lv_at hl 0 rfl) ?_
  refine lv_iconst (v := 2) hx hb dL_law_422 (by decide) ?_
  refine lc_k (v := (2 : Int32)) (a1 := eS14) (cells' := c0 + 7) (slots' := s0 + 42) (fc_runSW (n := 2) (As := [.ref (ad 0), .int (2 : Int32)]) (rest := []) (isC := iL) (maxL := 3) ⟨hx, hb, hml, hown, hts⟩ ((LCi.at (LC_start hlst ad eS13 (2 : Int32)) eS14_eq) σ hR H.size) gL_law_L_start rfl (by decide +kernel) rfl ⟨Nat.le_of_ble_eq_true rfl, Nat.le_of_ble_eq_true rfl⟩ ⟨by show c0 + 6 + 1 ≤ 600258; omega, by show s0 + 36 + 6 ≤ 7294185; omega⟩ hE hP hD hS hA (iL_C k ad σ ([] : va_W)) iL_nd hl rfl (Nat.le_of_ble_eq_true rfl) dL_law_423) hP hD hS hA (by show c0 + 6 + 1 = c0 + 7; omega) (by show s0 + 36 + 6 = s0 + 42; omega) (fun σ H locs hR hP hD hS => ?_)
  refine lv_iconst (v := 2) hx hb dL_law_426 (by decide) ?_
  refine lv_icmp_ne (tgt := 593) hx hb dL_law_427 (by decide) (fun h => absurd h (by decide)) (fun _ => ?_)
  refine lv_aload_n hx hb dL_law_430 rfl (lv_at hl 0 rfl) ?_
  refine lv_iconst (v := 1) hx hb dL_law_431 (by decide) ?_
  refine lc_k (v := (8 : Int32)) (a1 := eS14) (cells' := c0 + 9) (slots' := s0 + 54) (fc_runSW (n := 2) (As := [.ref (ad 0), .int (1 : Int32)]) (rest := []) (isC := iL) (maxL := 3) ⟨hx, hb, hml, hown, hts⟩ ((LCi.to (LC_endsIn hlst ad eS14 (1 : Int32)) ev29) σ hR H.size) gL_law_L_endsIn rfl (by decide +kernel) rfl ⟨Nat.le_of_ble_eq_true rfl, Nat.le_of_ble_eq_true rfl⟩ ⟨by show c0 + 7 + 2 ≤ 600258; omega, by show s0 + 42 + 12 ≤ 7294185; omega⟩ hE hP hD hS hA (iL_C k ad σ ([] : va_W)) iL_nd hl rfl (Nat.le_of_ble_eq_true rfl) dL_law_432) hP hD hS hA (by show c0 + 7 + 2 = c0 + 9; omega) (by show s0 + 42 + 12 = s0 + 54; omega) (fun σ H locs hR hP hD hS => ?_)
  refine lv_bipush (v := 8) hx hb dL_law_435 (by decide) ?_
  refine lv_icmp_ne (tgt := 593) hx hb dL_law_437 (by decide) (fun h => absurd h (by decide)) (fun _ => ?_)
  refine lv_aload_n hx hb dL_law_440 rfl (lv_at hl 0 rfl) ?_
  refine lv_iconst (v := 2) hx hb dL_law_441 (by decide) ?_
  refine lc_k (v := (8 : Int32)) (a1 := eS14) (cells' := c0 + 11) (slots' := s0 + 66) (fc_runSW (n := 2) (As := [.ref (ad 0), .int (2 : Int32)]) (rest := []) (isC := iL) (maxL := 3) ⟨hx, hb, hml, hown, hts⟩ ((LCi.to (LC_endsIn hlst ad eS14 (2 : Int32)) ev30) σ hR H.size) gL_law_L_endsIn rfl (by decide +kernel) rfl ⟨Nat.le_of_ble_eq_true rfl, Nat.le_of_ble_eq_true rfl⟩ ⟨by show c0 + 9 + 2 ≤ 600258; omega, by show s0 + 54 + 12 ≤ 7294185; omega⟩ hE hP hD hS hA (iL_C k ad σ ([] : va_W)) iL_nd hl rfl (Nat.le_of_ble_eq_true rfl) dL_law_442) hP hD hS hA (by show c0 + 9 + 2 = c0 + 11; omega) (by show s0 + 54 + 12 = s0 + 66; omega) (fun σ H locs hR hP hD hS => ?_)
  refine lv_bipush (v := 8) hx hb dL_law_445 (by decide) ?_
  refine lv_icmp_ne (tgt := 593) hx hb dL_law_447 (by decide) (fun h => absurd h (by decide)) (fun _ => ?_)
  refine lv_aload_n hx hb dL_law_450 rfl (lv_at hl 0 rfl) ?_
  refine lv_bipush (v := 8) hx hb dL_law_451 (by decide) ?_
  refine lc_k (v := (2 : Int32)) (a1 := eS15) (cells' := c0 + 12) (slots' := s0 + 72) (fc_runSW (n := 2) (As := [.ref (ad 0), .int (8 : Int32)]) (rest := []) (isC := iL) (maxL := 3) ⟨hx, hb, hml, hown, hts⟩ ((LCi.at (LC_pass hlst ad eS14 (8 : Int32)) eS15_eq) σ hR H.size) gL_law_L_pass rfl (by decide +kernel) rfl ⟨Nat.le_of_ble_eq_true rfl, Nat.le_of_ble_eq_true rfl⟩ ⟨by show c0 + 11 + 1 ≤ 600258; omega, by show s0 + 66 + 6 ≤ 7294185; omega⟩ hE hP hD hS hA (iL_C k ad σ ([] : va_W)) iL_nd hl rfl (Nat.le_of_ble_eq_true rfl) dL_law_453) hP hD hS hA (by show c0 + 11 + 1 = c0 + 12; omega) (by show s0 + 66 + 6 = s0 + 72; omega) (fun σ H locs hR hP hD hS => ?_)
  refine lv_iconst (v := 2) hx hb dL_law_456 (by decide) ?_
  refine lv_icmp_ne (tgt := 593) hx hb dL_law_457 (by decide) (fun h => absurd h (by decide)) (fun _ => ?_)
  exact W.widen (by omega) (by omega) (kk σ H locs ls hR hP hD hS (lv_sub hl [0, 1] rfl))
set_option maxRecDepth 100000 in
set_option maxHeartbeats 4000000 in
theorem wE_460 {p : Program} {l : Launch} {e : Env} {s : State} {m : MethodId} {args : Array Value} {below : List Frame} {meth : Method} {c : Code} {D : va_G} {k : tyK} {A : Nat → Prop} {Q : State → Prop} (hx : p.tables.exec = Jvm.exec) (hb : c.code = cL_law) (hml : c.maxLocals = 11) (hts : ∀ w ∈ wsL_law, w.before args s = true) (hown : s.vm.findClass RL = some m.cls) (hA : ∀ q : Nat, s.heap.size ≤ q → A q) (hE : GE D k A s) (hlst : l.stackTraces = false) (ad : Nat → Nat) (c0 s0 cK sK : Nat) (hcK : cK ≤ 600258) (hsK : sK ≤ 7294185) (hc : c0 + 23 ≤ cK) (hs : s0 + 138 ≤ sK)
    (kk : ∀ (σ : TSt) (H : Heap) (locs : List Loc) (ls : Array Slot), Rep σ eS21 → va_P D vwCl (WT k ad σ ++ ([] : va_W)) H → va_D A (WT k ad σ ++ ([] : va_W)) → va_S A s.heap H locs → lv_has ls 11 [(1, .ref (ad 0)), (0, .ref (kB k))] → W p l e room_1 s m args below meth c H locs cK sK Q (F0 m 640 ls []))
    (σ : TSt) (H : Heap) (locs : List Loc) (ls : Array Slot) (hR : Rep σ eS15) (hP : va_P D vwCl (WT k ad σ ++ ([] : va_W)) H) (hD : va_D A (WT k ad σ ++ ([] : va_W))) (hS : va_S A s.heap H locs) (hl : lv_has ls 11 [(1, .ref (ad 0)), (0, .ref (kB k))]) : W p l e room_1 s m args below meth c H locs c0 s0 Q (F0 m 460 ls []) := by
  refine lv_aload_n hx hb dL_law_460 rfl (lv_at hl 0 rfl) ?_
  refine lv_bipush (v := 7) hx hb dL_law_461 (by decide) ?_
  refine lc_k (v := (196 : Int32)) (a1 := eS15) (cells' := c0 + 1) (slots' := s0 + 6) (fc_runSW (n := 2) (As := [.ref (ad 0), .int (7 : Int32)]) (rest := []) (isC := iL) (maxL := 3) ⟨hx, hb, hml, hown, hts⟩ ((LCi.to (LC_number hlst ad eS15 (7 : Int32)) ev32) σ hR H.size) gL_law_L_number rfl (by decide +kernel) rfl ⟨Nat.le_of_ble_eq_true rfl, Nat.le_of_ble_eq_true rfl⟩ ⟨by show c0 + 0 + 1 ≤ 600258; omega, by show s0 + 0 + 6 ≤ 7294185; omega⟩ hE hP hD hS hA (iL_C k ad σ ([] : va_W)) iL_nd hl rfl (Nat.le_of_ble_eq_true rfl) dL_law_463) hP hD hS hA (by show c0 + 0 + 1 = c0 + 1; omega) (by show s0 + 0 + 6 = s0 + 6; omega) (fun σ H locs hR hP hD hS => ?_)
  refine lv_sipush (v := 196) hx hb dL_law_466 (by decide) ?_
  refine lv_icmp_ne (tgt := 593) hx hb dL_law_469 (by decide) (fun h => absurd h (by decide)) (fun _ => ?_)
  refine lv_aload_n hx hb dL_law_472 rfl (lv_at hl 0 rfl) ?_
  refine lv_bipush (v := 10) hx hb dL_law_473 (by decide) ?_
  refine lc_k (v := (240 : Int32)) (a1 := eS15) (cells' := c0 + 2) (slots' := s0 + 12) (fc_runSW (n := 2) (As := [.ref (ad 0), .int (10 : Int32)]) (rest := []) (isC := iL) (maxL := 3) ⟨hx, hb, hml, hown, hts⟩ ((LCi.to (LC_number hlst ad eS15 (10 : Int32)) ev33) σ hR H.size) gL_law_L_number rfl (by decide +kernel) rfl ⟨Nat.le_of_ble_eq_true rfl, Nat.le_of_ble_eq_true rfl⟩ ⟨by show c0 + 1 + 1 ≤ 600258; omega, by show s0 + 6 + 6 ≤ 7294185; omega⟩ hE hP hD hS hA (iL_C k ad σ ([] : va_W)) iL_nd hl rfl (Nat.le_of_ble_eq_true rfl) dL_law_475) hP hD hS hA (by show c0 + 1 + 1 = c0 + 2; omega) (by show s0 + 6 + 6 = s0 + 12; omega) (fun σ H locs hR hP hD hS => ?_)
  refine lv_sipush (v := 240) hx hb dL_law_478 (by decide) ?_
  refine lv_icmp_ne (tgt := 593) hx hb dL_law_481 (by decide) (fun h => absurd h (by decide)) (fun _ => ?_)
  refine lv_aload_n hx hb dL_law_484 rfl (lv_at hl 0 rfl) ?_
  refine lv_bipush (v := 8) hx hb dL_law_485 (by decide) ?_
  refine lc_k (v := (144 : Int32)) (a1 := eS15) (cells' := c0 + 3) (slots' := s0 + 18) (fc_runSW (n := 2) (As := [.ref (ad 0), .int (8 : Int32)]) (rest := []) (isC := iL) (maxL := 3) ⟨hx, hb, hml, hown, hts⟩ ((LCi.to (LC_number hlst ad eS15 (8 : Int32)) ev34) σ hR H.size) gL_law_L_number rfl (by decide +kernel) rfl ⟨Nat.le_of_ble_eq_true rfl, Nat.le_of_ble_eq_true rfl⟩ ⟨by show c0 + 2 + 1 ≤ 600258; omega, by show s0 + 12 + 6 ≤ 7294185; omega⟩ hE hP hD hS hA (iL_C k ad σ ([] : va_W)) iL_nd hl rfl (Nat.le_of_ble_eq_true rfl) dL_law_487) hP hD hS hA (by show c0 + 2 + 1 = c0 + 3; omega) (by show s0 + 12 + 6 = s0 + 18; omega) (fun σ H locs hR hP hD hS => ?_)
  refine lv_sipush (v := 144) hx hb dL_law_490 (by decide) ?_
  refine lv_icmp_ne (tgt := 593) hx hb dL_law_493 (by decide) (fun h => absurd h (by decide)) (fun _ => ?_)
  refine lv_aload_n hx hb dL_law_496 rfl (lv_at hl 0 rfl) ?_
  refine lv_bipush (v := 15) hx hb dL_law_497 (by decide) ?_
  refine lc_k (v := (24 : Int32)) (a1 := eS15) (cells' := c0 + 4) (slots' := s0 + 24) (fc_runSW (n := 2) (As := [.ref (ad 0), .int (15 : Int32)]) (rest := []) (isC := iL) (maxL := 3) ⟨hx, hb, hml, hown, hts⟩ ((LCi.to (LC_number hlst ad eS15 (15 : Int32)) ev35) σ hR H.size) gL_law_L_number rfl (by decide +kernel) rfl ⟨Nat.le_of_ble_eq_true rfl, Nat.le_of_ble_eq_true rfl⟩ ⟨by show c0 + 3 + 1 ≤ 600258; omega, by show s0 + 18 + 6 ≤ 7294185; omega⟩ hE hP hD hS hA (iL_C k ad σ ([] : va_W)) iL_nd hl rfl (Nat.le_of_ble_eq_true rfl) dL_law_499) hP hD hS hA (by show c0 + 3 + 1 = c0 + 4; omega) (by show s0 + 18 + 6 = s0 + 24; omega) (fun σ H locs hR hP hD hS => ?_)
  refine lv_bipush (v := 24) hx hb dL_law_502 (by decide) ?_
  refine lv_icmp_ne (tgt := 593) hx hb dL_law_504 (by decide) (fun h => absurd h (by decide)) (fun _ => ?_)
  refine lv_aload_n hx hb dL_law_507 rfl (lv_at hl 0 rfl) ?_
  refine lv_iconst (v := 0) hx hb dL_law_508 (by decide) ?_
  refine lv_iconst (v := 2) hx hb dL_law_509 (by decide) ?_
  refine lv_bipush (v := 7) hx hb dL_law_510 (by decide) ?_
  refine lc_k (v := (0 : Int32)) (a1 := eS15) (cells' := c0 + 7) (slots' := s0 + 42) (fc_runSW (n := 4) (As := [.ref (ad 0), .int (0 : Int32), .int (2 : Int32), .int (7 : Int32)]) (rest := []) (isC := iL) (maxL := 5) ⟨hx, hb, hml, hown, hts⟩ ((LCi.to (LC_left hlst ad eS15 (0 : Int32) (2 : Int32) (7 : Int32)) ev36) σ hR H.size) gL_law_L_left rfl (by decide +kernel) rfl ⟨Nat.le_of_ble_eq_true rfl, Nat.le_of_ble_eq_true rfl⟩ ⟨by show c0 + 4 + 3 ≤ 600258; omega, by show s0 + 24 + 18 ≤ 7294185; omega⟩ hE hP hD hS hA (iL_C k ad σ ([] : va_W)) iL_nd hl rfl (Nat.le_of_ble_eq_true rfl) dL_law_512) hP hD hS hA (by show c0 + 4 + 3 = c0 + 7; omega) (by show s0 + 24 + 18 = s0 + 42; omega) (fun σ H locs hR hP hD hS => ?_)
  refine lv_if_ne (tgt := 593) hx hb dL_law_515 (by decide) (fun h => absurd h (by decide)) (fun _ => ?_)
  refine lv_aload_n hx hb dL_law_518 rfl (lv_at hl 0 rfl) ?_
  refine lc_k (v := (7 : Int32)) (a1 := eS16) (cells' := c0 + 8) (slots' := s0 + 48) (fc_runSW (n := 1) (As := [.ref (ad 0)]) (rest := []) (isC := iL) (maxL := 2) ⟨hx, hb, hml, hown, hts⟩ ((LCi.at (LC_undo hlst ad eS15) eS16_eq) σ hR H.size) gL_law_L_undo rfl (by decide +kernel) rfl ⟨Nat.le_of_ble_eq_true rfl, Nat.le_of_ble_eq_true rfl⟩ ⟨by show c0 + 7 + 1 ≤ 600258; omega, by show s0 + 42 + 6 ≤ 7294185; omega⟩ hE hP hD hS hA (iL_C k ad σ ([] : va_W)) iL_nd hl rfl (Nat.le_of_ble_eq_true rfl) dL_law_519) hP hD hS hA (by show c0 + 7 + 1 = c0 + 8; omega) (by show s0 + 42 + 6 = s0 + 48; omega) (fun σ H locs hR hP hD hS => ?_)
  refine lv_bipush (v := 7) hx hb dL_law_522 (by decide) ?_
  refine lv_icmp_ne (tgt := 593) hx hb dL_law_524 (by decide) (fun h => absurd h (by decide)) (fun _ => ?_)
  refine lv_aload_n hx hb dL_law_527 rfl (lv_at hl 0 rfl) ?_
  refine lv_bipush (v := 7) hx hb dL_law_528 (by decide) ?_
  refine lc_k (v := (132 : Int32)) (a1 := eS16) (cells' := c0 + 9) (slots' := s0 + 54) (fc_runSW (n := 2) (As := [.ref (ad 0), .int (7 : Int32)]) (rest := []) (isC := iL) (maxL := 3) ⟨hx, hb, hml, hown, hts⟩ ((LCi.to (LC_number hlst ad eS16 (7 : Int32)) ev38) σ hR H.size) gL_law_L_number rfl (by decide +kernel) rfl ⟨Nat.le_of_ble_eq_true rfl, Nat.le_of_ble_eq_true rfl⟩ ⟨by show c0 + 8 + 1 ≤ 600258; omega, by show s0 + 48 + 6 ≤ 7294185; omega⟩ hE hP hD hS hA (iL_C k ad σ ([] : va_W)) iL_nd hl rfl (Nat.le_of_ble_eq_true rfl) dL_law_530) hP hD hS hA (by show c0 + 8 + 1 = c0 + 9; omega) (by show s0 + 48 + 6 = s0 + 54; omega) (fun σ H locs hR hP hD hS => ?_)
  refine lv_sipush (v := 132) hx hb dL_law_533 (by decide) ?_
  refine lv_icmp_ne (tgt := 593) hx hb dL_law_536 (by decide) (fun h => absurd h (by decide)) (fun _ => ?_)
  refine lv_aload_n hx hb dL_law_539 rfl (lv_at hl 0 rfl) ?_
  refine lv_iconst (v := 2) hx hb dL_law_540 (by decide) ?_
  refine lv_iconst (v := 3) hx hb dL_law_541 (by decide) ?_
  refine lc_k (v := (0 : Int32)) (a1 := eS16) (cells' := c0 + 11) (slots' := s0 + 66) (fc_runSW (n := 3) (As := [.ref (ad 0), .int (2 : Int32), .int (3 : Int32)]) (rest := []) (isC := iL) (maxL := 4) ⟨hx, hb, hml, hown, hts⟩ ((LCi.to (LC_tourOf hlst ad eS16 (2 : Int32) (3 : Int32)) ev39) σ hR H.size) gL_law_L_tourOf rfl (by decide +kernel) rfl ⟨Nat.le_of_ble_eq_true rfl, Nat.le_of_ble_eq_true rfl⟩ ⟨by show c0 + 9 + 2 ≤ 600258; omega, by show s0 + 54 + 12 ≤ 7294185; omega⟩ hE hP hD hS hA (iL_C k ad σ ([] : va_W)) iL_nd hl rfl (Nat.le_of_ble_eq_true rfl) dL_law_542) hP hD hS hA (by show c0 + 9 + 2 = c0 + 11; omega) (by show s0 + 54 + 12 = s0 + 66; omega) (fun σ H locs hR hP hD hS => ?_)
  refine lv_if_ne (tgt := 593) hx hb dL_law_545 (by decide) (fun h => absurd h (by decide)) (fun _ => ?_)
  refine lv_aload_n hx hb dL_law_548 rfl (lv_at hl 0 rfl) ?_
  refine lc_k (v := (6 : Int32)) (a1 := eS17) (cells' := c0 + 12) (slots' := s0 + 72) (fc_runSW (n := 1) (As := [.ref (ad 0)]) (rest := []) (isC := iL) (maxL := 2) ⟨hx, hb, hml, hown, hts⟩ ((LCi.at (LC_undo hlst ad eS16) eS17_eq) σ hR H.size) gL_law_L_undo rfl (by decide +kernel) rfl ⟨Nat.le_of_ble_eq_true rfl, Nat.le_of_ble_eq_true rfl⟩ ⟨by show c0 + 11 + 1 ≤ 600258; omega, by show s0 + 66 + 6 ≤ 7294185; omega⟩ hE hP hD hS hA (iL_C k ad σ ([] : va_W)) iL_nd hl rfl (Nat.le_of_ble_eq_true rfl) dL_law_549) hP hD hS hA (by show c0 + 11 + 1 = c0 + 12; omega) (by show s0 + 66 + 6 = s0 + 72; omega) (fun σ H locs hR hP hD hS => ?_)
  refine lv_bipush (v := 6) hx hb dL_law_552 (by decide) ?_
  refine lv_icmp_ne (tgt := 593) hx hb dL_law_554 (by decide) (fun h => absurd h (by decide)) (fun _ => ?_)
  refine lv_aload_n hx hb dL_law_557 rfl (lv_at hl 0 rfl) ?_
  refine lv_iconst (v := 2) hx hb dL_law_558 (by decide) ?_
  refine lv_iconst (v := 0) hx hb dL_law_559 (by decide) ?_
  refine lc_k (v := (0 : Int32)) (a1 := eS17) (cells' := c0 + 14) (slots' := s0 + 84) (fc_runSW (n := 3) (As := [.ref (ad 0), .int (2 : Int32), .int (0 : Int32)]) (rest := []) (isC := iL) (maxL := 4) ⟨hx, hb, hml, hown, hts⟩ ((LCi.to (LC_tourOf hlst ad eS17 (2 : Int32) (0 : Int32)) ev41) σ hR H.size) gL_law_L_tourOf rfl (by decide +kernel) rfl ⟨Nat.le_of_ble_eq_true rfl, Nat.le_of_ble_eq_true rfl⟩ ⟨by show c0 + 12 + 2 ≤ 600258; omega, by show s0 + 72 + 12 ≤ 7294185; omega⟩ hE hP hD hS hA (iL_C k ad σ ([] : va_W)) iL_nd hl rfl (Nat.le_of_ble_eq_true rfl) dL_law_560) hP hD hS hA (by show c0 + 12 + 2 = c0 + 14; omega) (by show s0 + 72 + 12 = s0 + 84; omega) (fun σ H locs hR hP hD hS => ?_)
  refine lv_if_ne (tgt := 593) hx hb dL_law_563 (by decide) (fun h => absurd h (by decide)) (fun _ => ?_)
  refine lv_aload_n hx hb dL_law_566 rfl (lv_at hl 0 rfl) ?_
  refine lc_k (v := (5 : Int32)) (a1 := eS18) (cells' := c0 + 15) (slots' := s0 + 90) (fc_runSW (n := 1) (As := [.ref (ad 0)]) (rest := []) (isC := iL) (maxL := 2) ⟨hx, hb, hml, hown, hts⟩ ((LCi.at (LC_undo hlst ad eS17) eS18_eq) σ hR H.size) gL_law_L_undo rfl (by decide +kernel) rfl ⟨Nat.le_of_ble_eq_true rfl, Nat.le_of_ble_eq_true rfl⟩ ⟨by show c0 + 14 + 1 ≤ 600258; omega, by show s0 + 84 + 6 ≤ 7294185; omega⟩ hE hP hD hS hA (iL_C k ad σ ([] : va_W)) iL_nd hl rfl (Nat.le_of_ble_eq_true rfl) dL_law_567) hP hD hS hA (by show c0 + 14 + 1 = c0 + 15; omega) (by show s0 + 84 + 6 = s0 + 90; omega) (fun σ H locs hR hP hD hS => ?_)
  refine lv_iconst (v := 5) hx hb dL_law_570 (by decide) ?_
  refine lv_icmp_ne (tgt := 593) hx hb dL_law_571 (by decide) (fun h => absurd h (by decide)) (fun _ => ?_)
  refine lv_aload_n hx hb dL_law_574 rfl (lv_at hl 0 rfl) ?_
  refine lc_k (v := (4 : Int32)) (a1 := eS19) (cells' := c0 + 16) (slots' := s0 + 96) (fc_runSW (n := 1) (As := [.ref (ad 0)]) (rest := []) (isC := iL) (maxL := 2) ⟨hx, hb, hml, hown, hts⟩ ((LCi.at (LC_undo hlst ad eS18) eS19_eq) σ hR H.size) gL_law_L_undo rfl (by decide +kernel) rfl ⟨Nat.le_of_ble_eq_true rfl, Nat.le_of_ble_eq_true rfl⟩ ⟨by show c0 + 15 + 1 ≤ 600258; omega, by show s0 + 90 + 6 ≤ 7294185; omega⟩ hE hP hD hS hA (iL_C k ad σ ([] : va_W)) iL_nd hl rfl (Nat.le_of_ble_eq_true rfl) dL_law_575) hP hD hS hA (by show c0 + 15 + 1 = c0 + 16; omega) (by show s0 + 90 + 6 = s0 + 96; omega) (fun σ H locs hR hP hD hS => ?_)
  refine lv_iconst (v := 4) hx hb dL_law_578 (by decide) ?_
  refine lv_icmp_ne (tgt := 593) hx hb dL_law_579 (by decide) (fun h => absurd h (by decide)) (fun _ => ?_)
  refine lv_aload_n hx hb dL_law_582 rfl (lv_at hl 0 rfl) ?_
  refine lv_bipush (v := 7) hx hb dL_law_583 (by decide) ?_
  refine lc_k (v := (100 : Int32)) (a1 := eS19) (cells' := c0 + 17) (slots' := s0 + 102) (fc_runSW (n := 2) (As := [.ref (ad 0), .int (7 : Int32)]) (rest := []) (isC := iL) (maxL := 3) ⟨hx, hb, hml, hown, hts⟩ ((LCi.to (LC_number hlst ad eS19 (7 : Int32)) ev44) σ hR H.size) gL_law_L_number rfl (by decide +kernel) rfl ⟨Nat.le_of_ble_eq_true rfl, Nat.le_of_ble_eq_true rfl⟩ ⟨by show c0 + 16 + 1 ≤ 600258; omega, by show s0 + 96 + 6 ≤ 7294185; omega⟩ hE hP hD hS hA (iL_C k ad σ ([] : va_W)) iL_nd hl rfl (Nat.le_of_ble_eq_true rfl) dL_law_585) hP hD hS hA (by show c0 + 16 + 1 = c0 + 17; omega) (by show s0 + 96 + 6 = s0 + 102; omega) (fun σ H locs hR hP hD hS => ?_)
  refine lv_bipush (v := 100) hx hb dL_law_588 (by decide) ?_
  refine lv_icmp_eq (tgt := 595) hx hb dL_law_590 (by decide) (fun _ => ?_) (fun h => absurd h (by decide))
  refine lv_aload_n hx hb dL_law_595 rfl (lv_at hl 0 rfl) ?_
  refine lc_k (v := (0 : Int32)) (a1 := eS20) (cells' := c0 + 18) (slots' := s0 + 108) (fc_runSW (n := 1) (As := [.ref (ad 0)]) (rest := []) (isC := iL) (maxL := 2) ⟨hx, hb, hml, hown, hts⟩ ((LCi.at (LC_restore hlst ad eS19) eS20_eq) σ hR H.size) gL_law_L_restore rfl (by decide +kernel) rfl ⟨Nat.le_of_ble_eq_true rfl, Nat.le_of_ble_eq_true rfl⟩ ⟨by show c0 + 17 + 1 ≤ 600258; omega, by show s0 + 102 + 6 ≤ 7294185; omega⟩ hE hP hD hS hA (iL_C k ad σ ([] : va_W)) iL_nd hl rfl (Nat.le_of_ble_eq_true rfl) dL_law_596) hP hD hS hA (by show c0 + 17 + 1 = c0 + 18; omega) (by show s0 + 102 + 6 = s0 + 108; omega) (fun σ H locs hR hP hD hS => ?_)
  refine lv_if_ne (tgt := 638) hx hb dL_law_599 (by decide) (fun h => absurd h (by decide)) (fun _ => ?_)
  refine lv_aload_n hx hb dL_law_602 rfl (lv_at hl 0 rfl) ?_
  refine lv_iconst (v := 1) hx hb dL_law_603 (by decide) ?_
  refine lc_k (v := (0 : Int32)) (a1 := eS20) (cells' := c0 + 19) (slots' := s0 + 114) (fc_runSW (n := 2) (As := [.ref (ad 0), .int (1 : Int32)]) (rest := []) (isC := iL) (maxL := 3) ⟨hx, hb, hml, hown, hts⟩ ((LCi.to (LC_number hlst ad eS20 (1 : Int32)) ev46) σ hR H.size) gL_law_L_number rfl (by decide +kernel) rfl ⟨Nat.le_of_ble_eq_true rfl, Nat.le_of_ble_eq_true rfl⟩ ⟨by show c0 + 18 + 1 ≤ 600258; omega, by show s0 + 108 + 6 ≤ 7294185; omega⟩ hE hP hD hS hA (iL_C k ad σ ([] : va_W)) iL_nd hl rfl (Nat.le_of_ble_eq_true rfl) dL_law_604) hP hD hS hA (by show c0 + 18 + 1 = c0 + 19; omega) (by show s0 + 108 + 6 = s0 + 114; omega) (fun σ H locs hR hP hD hS => ?_)
  refine lv_if_ne (tgt := 638) hx hb dL_law_607 (by decide) (fun h => absurd h (by decide)) (fun _ => ?_)
  refine lv_aload_n hx hb dL_law_610 rfl (lv_at hl 0 rfl) ?_
  refine lv_iconst (v := 0) hx hb dL_law_611 (by decide) ?_
  refine lv_iconst (v := 1) hx hb dL_law_612 (by decide) ?_
  refine lc_k (v := (2 : Int32)) (a1 := eS20) (cells' := c0 + 21) (slots' := s0 + 126) (fc_runSW (n := 3) (As := [.ref (ad 0), .int (0 : Int32), .int (1 : Int32)]) (rest := []) (isC := iL) (maxL := 4) ⟨hx, hb, hml, hown, hts⟩ ((LCi.to (LC_townOf hlst ad eS20 (0 : Int32) (1 : Int32)) ev47) σ hR H.size) gL_law_L_townOf rfl (by decide +kernel) rfl ⟨Nat.le_of_ble_eq_true rfl, Nat.le_of_ble_eq_true rfl⟩ ⟨by show c0 + 19 + 2 ≤ 600258; omega, by show s0 + 114 + 12 ≤ 7294185; omega⟩ hE hP hD hS hA (iL_C k ad σ ([] : va_W)) iL_nd hl rfl (Nat.le_of_ble_eq_true rfl) dL_law_613) hP hD hS hA (by show c0 + 19 + 2 = c0 + 21; omega) (by show s0 + 114 + 12 = s0 + 126; omega) (fun σ H locs hR hP hD hS => ?_)
  refine lv_iconst (v := 2) hx hb dL_law_616 (by decide) ?_
  refine lv_icmp_ne (tgt := 638) hx hb dL_law_617 (by decide) (fun h => absurd h (by decide)) (fun _ => ?_)
  refine lv_aload_n hx hb dL_law_620 rfl (lv_at hl 0 rfl) ?_
  refine lv_iconst (v := 0) hx hb dL_law_621 (by decide) ?_
  refine lc_k (v := (0 : Int32)) (a1 := eS20) (cells' := c0 + 22) (slots' := s0 + 132) (fc_runSW (n := 2) (As := [.ref (ad 0), .int (0 : Int32)]) (rest := []) (isC := iL) (maxL := 3) ⟨hx, hb, hml, hown, hts⟩ ((LCi.to (LC_number hlst ad eS20 (0 : Int32)) ev48) σ hR H.size) gL_law_L_number rfl (by decide +kernel) rfl ⟨Nat.le_of_ble_eq_true rfl, Nat.le_of_ble_eq_true rfl⟩ ⟨by show c0 + 21 + 1 ≤ 600258; omega, by show s0 + 126 + 6 ≤ 7294185; omega⟩ hE hP hD hS hA (iL_C k ad σ ([] : va_W)) iL_nd hl rfl (Nat.le_of_ble_eq_true rfl) dL_law_622) hP hD hS hA (by show c0 + 21 + 1 = c0 + 22; omega) (by show s0 + 126 + 6 = s0 + 132; omega) (fun σ H locs hR hP hD hS => ?_)
  refine lv_if_ne (tgt := 638) hx hb dL_law_625 (by decide) (fun h => absurd h (by decide)) (fun _ => ?_)
  refine lv_aload_n hx hb dL_law_628 rfl (lv_at hl 0 rfl) ?_
  refine lc_k (v := (-1001 : Int32)) (a1 := eS21) (cells' := c0 + 23) (slots' := s0 + 138) (fc_runSW (n := 1) (As := [.ref (ad 0)]) (rest := []) (isC := iL) (maxL := 2) ⟨hx, hb, hml, hown, hts⟩ ((LCi.at (LC_undo hlst ad eS20) eS21_eq) σ hR H.size) gL_law_L_undo rfl (by decide +kernel) rfl ⟨Nat.le_of_ble_eq_true rfl, Nat.le_of_ble_eq_true rfl⟩ ⟨by show c0 + 22 + 1 ≤ 600258; omega, by show s0 + 132 + 6 ≤ 7294185; omega⟩ hE hP hD hS hA (iL_C k ad σ ([] : va_W)) iL_nd hl rfl (Nat.le_of_ble_eq_true rfl) dL_law_629) hP hD hS hA (by show c0 + 22 + 1 = c0 + 23; omega) (by show s0 + 132 + 6 = s0 + 138; omega) (fun σ H locs hR hP hD hS => ?_)
  refine lv_sipush (v := -1001) hx hb dL_law_632 (by decide) ?_
  refine lv_icmp_eq (tgt := 640) hx hb dL_law_635 (by decide) (fun _ => ?_) (fun h => absurd h (by decide))
  exact W.widen (by omega) (by omega) (kk σ H locs ls hR hP hD hS (lv_sub hl [0, 1] rfl))
set_option maxRecDepth 100000 in
set_option maxHeartbeats 4000000 in
theorem wE {p : Program} {l : Launch} {e : Env} {s : State} {m : MethodId} {args : Array Value} {below : List Frame} {meth : Method} {c : Code} {D : va_G} {k : tyK} {A : Nat → Prop} {Q : State → Prop} (hx : p.tables.exec = Jvm.exec) (hb : c.code = cL_law) (hml : c.maxLocals = 11) (hts : ∀ w ∈ wsL_law, w.before args s = true) (hown : s.vm.findClass RL = some m.cls) (hA : ∀ q : Nat, s.heap.size ≤ q → A q) (hE : GE D k A s) (hlst : l.stackTraces = false) (ad : Nat → Nat) (c0 s0 : Nat) (hc : c0 + 178 ≤ 600258) (hs : s0 + 1068 ≤ 7294185)
    (kk : ∀ (H : Heap) (locs : List Loc) (ls : Array Slot), va_S A s.heap H locs → lv_has ls 11 [(0, .ref (kB k))] → W p l e room_1 s m args below meth c H locs (c0 + 178) (s0 + 1068) Q (F0 m 640 ls []))
    (σ : TSt) (H : Heap) (locs : List Loc) (ls : Array Slot) (hR : Rep σ a00) (hP : va_P D vwCl (WT k ad σ ++ ([] : va_W)) H) (hD : va_D A (WT k ad σ ++ ([] : va_W))) (hS : va_S A s.heap H locs) (hl : lv_has ls 11 [(1, .ref (ad 0)), (0, .ref (kB k))]) : W p l e room_1 s m args below meth c H locs c0 s0 Q (F0 m 8 ls []) := by
  refine wE_8 hx hb hml hts hown hA hE hlst ad (c0 + 0) (s0 + 0) (c0 + 4) (s0 + 24) (by omega) (by omega) (by omega) (by omega) (fun σ H locs ls hR hP hD hS hl => ?_) σ H locs ls hR hP hD hS hl
  refine wE_56 hx hb hml hts hown hA hE hlst ad (c0 + 4) (s0 + 24) (c0 + 69) (s0 + 414) (by omega) (by omega) (by omega) (by omega) (fun σ H locs ls hR hP hD hS hl => ?_) σ H locs ls hR hP hD hS hl
  refine wE_138 hx hb hml hts hown hA hE hlst ad (c0 + 69) (s0 + 414) (c0 + 85) (s0 + 510) (by omega) (by omega) (by omega) (by omega) (fun σ H locs ls hR hP hD hS hl => ?_) σ H locs ls hR hP hD hS hl
  refine wE_228 hx hb hml hts hown hA hE hlst ad (c0 + 85) (s0 + 510) (c0 + 95) (s0 + 570) (by omega) (by omega) (by omega) (by omega) (fun σ H locs ls hR hP hD hS hl => ?_) σ H locs ls hR hP hD hS hl
  refine wE_253 hx hb hml hts hown hA hE hlst ad (c0 + 95) (s0 + 570) (c0 + 143) (s0 + 858) (by omega) (by omega) (by omega) (by omega) (fun σ H locs ls hR hP hD hS hl => ?_) σ H locs ls hR hP hD hS hl
  refine wE_371 hx hb hml hts hown hA hE hlst ad (c0 + 143) (s0 + 858) (c0 + 155) (s0 + 930) (by omega) (by omega) (by omega) (by omega) (fun σ H locs ls hR hP hD hS hl => ?_) σ H locs ls hR hP hD hS hl
  refine wE_460 hx hb hml hts hown hA hE hlst ad (c0 + 155) (s0 + 930) (c0 + 178) (s0 + 1068) (by omega) (by omega) (by omega) (by omega) (fun σ H locs ls hR hP hD hS hl => ?_) σ H locs ls hR hP hD hS hl
  exact kk H locs ls hS (lv_sub hl [1] rfl)
end TSewalk
