/-! THE LAW'S SECOND OBJECT: the walk. -/
section TSowalk
theorem iA_35 (k : tyK) (ad : Nat → Nat) (σ : TSt) (x : Nat × va_E) : (WT k ad σ ++ [x])[35]? = some x := by
  obtain ⟨hs, fk, f, f2, f3, f4, jr, jd, nx, kp, g, ln, tp, wd, fi, tw, dy, mn, vl, sg, ml, txt, q, cap, yb⟩ := σ
  rfl
theorem iA_set {k : tyK} {ad : Nat → Nat} {σ : TSt} {x y : Nat × va_E} : (WT k ad σ ++ [x]).set 35 y = WT k ad σ ++ [y] := by
  obtain ⟨hs, fk, f, f2, f3, f4, jr, jd, nx, kp, g, ln, tp, wd, fi, tw, dy, mn, vl, sg, ml, txt, q, cap, yb⟩ := σ
  rfl
set_option maxRecDepth 100000 in
set_option maxHeartbeats 4000000 in
theorem wO_647 {p : Program} {l : Launch} {e : Env} {s : State} {m : MethodId} {args : Array Value} {below : List Frame} {meth : Method} {c : Code} {D : va_G} {k : tyK} {A : Nat → Prop} {Q : State → Prop} (hx : p.tables.exec = Jvm.exec) (hb : c.code = cL_law) (hml : c.maxLocals = 11) (hts : ∀ w ∈ wsL_law, w.before args s = true) (hown : s.vm.findClass RL = some m.cls) (hA : ∀ q : Nat, s.heap.size ≤ q → A q) (hE : GE D k A s) (hlst : l.stackTraces = false) (hL : kL k ≤ 1000) (ad : Nat → Nat) (c0 s0 cK sK : Nat) (hcK : cK ≤ 600258) (hsK : sK ≤ 7294185) (hc : c0 + 13552 ≤ cK) (hs : s0 + 359568 ≤ sK)
    (kk : ∀ (b0 : Nat → Int32) (a : Abs) (σ : TSt) (H : Heap) (locs : List Loc) (ls : Array Slot), GD a → a.1 = b0 → a.2.2.1 = some b0 → Rep σ a → va_P D vwCl (WT k ad σ ++ ([] : va_W)) H → va_D A (WT k ad σ ++ ([] : va_W)) → va_S A s.heap H locs → lv_has ls 11 [(5, .int (b0 1)), (3, .long (ASK b0)), (2, .ref (ad 0)), (0, .ref (kB k))] → W p l e room_1 s m args below meth c H locs cK sK Q (F0 m 708 ls []))
    (σ : TSt) (H : Heap) (locs : List Loc) (ls : Array Slot) (hR : Rep σ a00) (hP : va_P D vwCl (WT k ad σ ++ ([] : va_W)) H) (hD : va_D A (WT k ad σ ++ ([] : va_W))) (hS : va_S A s.heap H locs) (hl : lv_has ls 11 [(0, .ref (kB k))]) : W p l e room_1 s m args below meth c H locs c0 s0 Q (F0 m 647 ls [.ref (ad 0)]) := by
  refine lv_astore_n (lv' := [(2, .ref (ad 0)), (0, .ref (kB k))]) hx hb dL_law_647 rfl hl (by decide) rfl (fun ls hl => ?_)
  refine lv_aload_n hx hb dL_law_648 rfl (lv_at hl 0 rfl) ?_
  refine lv_aload_n hx hb dL_law_649 rfl (lv_at hl 1 rfl) ?_
  refine lc_ci (post := fun r a' => r = 1 ∧ MI 4 a') (cells' := c0 + 49) (slots' := s0 + 294) (fc_runS (n := 2) (As := [.ref (ad 0), .ref (kB k)]) (rest := []) (isC := iL) (maxL := 7) ⟨hx, hb, hml, hown, hts⟩ (LC_makes hlst hL ad a00 MI_0 σ hR H.size) gL_law_L_makes rfl (by decide +kernel) rfl ⟨Nat.le_of_ble_eq_true rfl, Nat.le_of_ble_eq_true rfl⟩ ⟨by (dsimp only [rm_L_makes, room_1] <;> omega), by (dsimp only [rm_L_makes, room_1] <;> omega)⟩ hE hP hD hS hA (iL_C k ad σ ([] : va_W)) iL_nd hl rfl (Nat.le_of_ble_eq_true rfl) dL_law_650) hP hD hS hA (by (dsimp only [rm_L_makes, room_1] <;> omega)) (by (dsimp only [rm_L_makes, room_1] <;> omega)) (fun r σ o0 H locs hp hR hP hD hS => ?_)
  obtain ⟨rfl, hM⟩ := hp
  refine lv_if_ne (tgt := 658) hx hb dL_law_653 (by decide) (fun _ => ?_) (fun h => absurd h (by decide))
  have go0 : GD o0 := hM.1
  refine lv_aload_n hx hb dL_law_658 rfl (lv_at hl 0 rfl) ?_
  refine lc_cl (post := fun r a2 => r = ASK o0.1 ∧ ∃ L, (L = o0.2.2.2.2.2.2.2 ∨ L.length ≤ 91) ∧ a2 = withL o0 L) (cells' := c0 + 2676) (slots' := s0 + 69912) (fc_runS (n := 1) (As := [.ref (ad 0)]) (rest := []) (isC := iL) (maxL := 6) ⟨hx, hb, hml, hown, hts⟩ (LC_asks hlst ad o0 go0.1.1 σ hR H.size) gL_law_L_asks rfl (by decide +kernel) rfl ⟨Nat.le_of_ble_eq_true rfl, Nat.le_of_ble_eq_true rfl⟩ ⟨by (dsimp only [rm_L_asks, room_1] <;> omega), by (dsimp only [rm_L_asks, room_1] <;> omega)⟩ hE hP hD hS hA (iL_C k ad σ ([] : va_W)) iL_nd hl rfl (Nat.le_of_ble_eq_true rfl) dL_law_659) hP hD hS hA (by (dsimp only [rm_L_asks, room_1] <;> omega)) (by (dsimp only [rm_L_asks, room_1] <;> omega)) (fun r σ ob1 H locs hp hR hP hD hS => ?_)
  obtain ⟨hr9, L9, hX9, ha9⟩ := hp
  subst hr9
  have gob1 : GD ob1 := by rw [ha9]; exact GD_withL go0 hX9
  have bob1 : ob1.1 = o0.1 := by rw [ha9]; rfl
  have hob1 : ob1.2.1 = o0.2.1 := by rw [ha9]; rfl
  have sob1 : ob1.2.2.1 = o0.2.2.1 := by rw [ha9]; rfl
  have hM1 : MI 4 ob1 := by rw [ha9]; exact MI_withL hM hX9
  refine lv_lstore_n (lv' := [(3, .long (ASK o0.1)), (2, .ref (ad 0)), (0, .ref (kB k))]) hx hb dL_law_662 rfl hl (by decide) rfl (fun ls hl => ?_)
  refine lv_aload_n hx hb dL_law_663 rfl (lv_at hl 1 rfl) ?_
  refine lc_cl (post := fun r a2 => r = ASK ob1.1 ∧ ∃ L, (L = ob1.2.2.2.2.2.2.2 ∨ L.length ≤ 91) ∧ a2 = withL ob1 L) (cells' := c0 + 5303) (slots' := s0 + 139530) (fc_runS (n := 1) (As := [.ref (ad 0)]) (rest := []) (isC := iL) (maxL := 6) ⟨hx, hb, hml, hown, hts⟩ (LC_asks hlst ad ob1 gob1.1.1 σ hR H.size) gL_law_L_asks rfl (by decide +kernel) rfl ⟨Nat.le_of_ble_eq_true rfl, Nat.le_of_ble_eq_true rfl⟩ ⟨by (dsimp only [rm_L_asks, room_1] <;> omega), by (dsimp only [rm_L_asks, room_1] <;> omega)⟩ hE hP hD hS hA (iL_C k ad σ ([] : va_W)) iL_nd hl rfl (Nat.le_of_ble_eq_true rfl) dL_law_664) hP hD hS hA (by (dsimp only [rm_L_asks, room_1] <;> omega)) (by (dsimp only [rm_L_asks, room_1] <;> omega)) (fun r σ ob2 H locs hp hR hP hD hS => ?_)
  obtain ⟨hr9, L9, hX9, ha9⟩ := hp
  subst hr9
  have gob2 : GD ob2 := by rw [ha9]; exact GD_withL gob1 hX9
  have bob2 : ob2.1 = ob1.1 := by rw [ha9]; rfl
  have hob2 : ob2.2.1 = ob1.2.1 := by rw [ha9]; rfl
  have sob2 : ob2.2.2.1 = ob1.2.2.1 := by rw [ha9]; rfl
  have hM2 : MI 4 ob2 := by rw [ha9]; exact MI_withL hM1 hX9
  refine lv_lload_n hx hb dL_law_667 rfl (lv_at hl 0 rfl) ?_
  refine W.lcmp hx hb dL_law_668 ?_
  have z3 : lg_cmp (ASK ob1.1) (ASK o0.1) = 0 := by rw [show (ASK ob1.1) = (ASK o0.1) from (congrArg ASK bob1)]; exact lg_cmp_self _
  refine lv_if_ne (tgt := 679) hx hb dL_law_669 (by decide) (fun h => absurd z3 h) (fun _ => ?_)
  refine lv_aload_n hx hb dL_law_672 rfl (lv_at hl 1 rfl) ?_
  refine lc_ci (post := fun r a' => r = 1 ∧ REFd ob2 a') (cells' := c0 + 10924) (slots' := s0 + 289944) (fc_runS (n := 1) (As := [.ref (ad 0)]) (rest := []) (isC := iL) (maxL := 6) ⟨hx, hb, hml, hown, hts⟩ (LC_refused hlst ad ob2 hM2 σ hR H.size) gL_law_L_refused rfl (by decide +kernel) rfl ⟨Nat.le_of_ble_eq_true rfl, Nat.le_of_ble_eq_true rfl⟩ ⟨by (dsimp only [rm_L_refused, room_1] <;> omega), by (dsimp only [rm_L_refused, room_1] <;> omega)⟩ hE hP hD hS hA (iL_C k ad σ ([] : va_W)) iL_nd hl rfl (Nat.le_of_ble_eq_true rfl) dL_law_673) hP hD hS hA (by (dsimp only [rm_L_refused, room_1] <;> omega)) (by (dsimp only [rm_L_refused, room_1] <;> omega)) (fun r σ oR H locs hp hR hP hD hS => ?_)
  obtain ⟨rfl, hRF⟩ := hp
  have goR : GD oR := GD_REF gob2 hRF
  have boR : oR.1 = o0.1 := by obtain ⟨_, _, _, _, _, e⟩ := hRF; rw [e]; exact bob2.trans bob1
  refine lv_if_ne (tgt := 681) hx hb dL_law_676 (by decide) (fun _ => ?_) (fun h => absurd h (by decide))
  refine lv_aload_n hx hb dL_law_681 rfl (lv_at hl 1 rfl) ?_
  refine lw_save hx hb hml hts hown hA hE hlst ad oR σ hR hP hD hS hl (by show c0 + 10924 + 0 ≤ _; omega) (by show s0 + 289944 + 0 ≤ _; omega) dL_law_682 (fun σ H locs hR hP hD hS => ?_)
  have goS : GD (A_save oR).2 := GD_save goR
  generalize eS : (A_save oR).2 = oS at hR goS
  have boS : oS.1 = o0.1 := by rw [← eS]; exact boR
  have soS : oS.2.2.1 = some o0.1 := by rw [← eS]; show some oR.1 = _; rw [boR]
  rw [boR]
  refine lv_istore (lv' := [(5, .int (o0.1 1)), (3, .long (ASK o0.1)), (2, .ref (ad 0)), (0, .ref (kB k))]) hx hb dL_law_685 hl (by decide) rfl (fun ls hl => ?_)
  refine lv_iload hx hb dL_law_687 (lv_at hl 0 rfl) ?_
  refine lv_aload_n hx hb dL_law_689 rfl (lv_at hl 2 rfl) ?_
  refine lv_iconst (v := 1) hx hb dL_law_690 (by decide) ?_
  refine lc_k (v := (o0.1 1)) (a1 := oS) (cells' := c0 + 10925) (slots' := s0 + 289950) (fc_runSW (n := 2) (As := [.ref (ad 0), .int (1 : Int32)]) (rest := [.int (o0.1 1)]) (isC := iL) (maxL := 3) ⟨hx, hb, hml, hown, hts⟩ ((LCi.to (LC_number hlst ad oS 1) ((Q_count _ _).trans (congrArg (fun f => f 1) boS))) σ hR H.size) gL_law_L_number rfl (by decide +kernel) rfl ⟨Nat.le_of_ble_eq_true rfl, Nat.le_of_ble_eq_true rfl⟩ ⟨by (dsimp only [rm_L_number, room_1] <;> omega), by (dsimp only [rm_L_number, room_1] <;> omega)⟩ hE hP hD hS hA (iL_C k ad σ ([] : va_W)) iL_nd hl rfl (Nat.le_of_ble_eq_true rfl) dL_law_691) hP hD hS hA (by (dsimp only [rm_L_number, room_1] <;> omega)) (by (dsimp only [rm_L_number, room_1] <;> omega)) (fun σ H locs hR hP hD hS => ?_)
  refine lv_icmp_ne (tgt := 706) hx hb dL_law_694 (by decide) (fun h => absurd rfl h) (fun _ => ?_)
  refine lv_aload_n hx hb dL_law_697 rfl (lv_at hl 2 rfl) ?_
  refine lc_cl (post := fun r a2 => r = ASK oS.1 ∧ ∃ L, (L = oS.2.2.2.2.2.2.2 ∨ L.length ≤ 91) ∧ a2 = withL oS L) (cells' := c0 + 13552) (slots' := s0 + 359568) (fc_runS (n := 1) (As := [.ref (ad 0)]) (rest := []) (isC := iL) (maxL := 6) ⟨hx, hb, hml, hown, hts⟩ (LC_asks hlst ad oS goS.1.1 σ hR H.size) gL_law_L_asks rfl (by decide +kernel) rfl ⟨Nat.le_of_ble_eq_true rfl, Nat.le_of_ble_eq_true rfl⟩ ⟨by (dsimp only [rm_L_asks, room_1] <;> omega), by (dsimp only [rm_L_asks, room_1] <;> omega)⟩ hE hP hD hS hA (iL_C k ad σ ([] : va_W)) iL_nd hl rfl (Nat.le_of_ble_eq_true rfl) dL_law_698) hP hD hS hA (by (dsimp only [rm_L_asks, room_1] <;> omega)) (by (dsimp only [rm_L_asks, room_1] <;> omega)) (fun r σ ob4 H locs hp hR hP hD hS => ?_)
  obtain ⟨hr9, L9, hX9, ha9⟩ := hp
  subst hr9
  have gob4 : GD ob4 := by rw [ha9]; exact GD_withL goS hX9
  have bob4 : ob4.1 = oS.1 := by rw [ha9]; rfl
  have hob4 : ob4.2.1 = oS.2.1 := by rw [ha9]; rfl
  have sob4 : ob4.2.2.1 = oS.2.2.1 := by rw [ha9]; rfl
  refine lv_lload_n hx hb dL_law_701 rfl (lv_at hl 1 rfl) ?_
  refine W.lcmp hx hb dL_law_702 ?_
  have z5 : lg_cmp (ASK oS.1) (ASK o0.1) = 0 := by rw [show (ASK oS.1) = (ASK o0.1) from (congrArg ASK boS)]; exact lg_cmp_self _
  refine lv_if_eq (tgt := 708) hx hb dL_law_703 (by decide) (fun _ => ?_) (fun h => absurd z5 h)
  exact W.widen (by omega) (by omega) (kk o0.1 ob4 σ H locs ls gob4 (bob4.trans boS) (sob4.trans soS) hR hP hD hS (lv_sub hl [0, 1, 2, 3] rfl))
set_option maxRecDepth 100000 in
set_option maxHeartbeats 4000000 in
theorem lpO_720 {p : Program} {l : Launch} {e : Env} {s : State} {m : MethodId} {args : Array Value} {below : List Frame} {meth : Method} {c : Code} {D : va_G} {k : tyK} {A : Nat → Prop} {Q : State → Prop} (hx : p.tables.exec = Jvm.exec) (hb : c.code = cL_law) (hml : c.maxLocals = 11) (hts : ∀ w ∈ wsL_law, w.before args s = true) (hown : s.vm.findClass RL = some m.cls) (hA : ∀ q : Nat, s.heap.size ≤ q → A q) (hE : GE D k A s) (hlst : l.stackTraces = false) (hL : kL k ≤ 1000) (ad : Nat → Nat) {qa : Nat} {cA : ClassId} (hK5 : va_K D vwCl (TY k ++ [(cA, .long)]) s) (b0 : Nat → Int32) (H0 : List (Nat → Int32)) (XC XS : Nat) (hXC : 5325 ≤ XC) (hXS : 140484 ≤ XS) (cK sK : Nat) (hcK : cK ≤ 600258) (hsK : sK ≤ 7294185)
    (kk : ∀ (dn : Nat) (B : Nat → Nat → Int32) (wf : Nat → Int64) (a : Abs) (σ : TSt) (H : Heap) (locs : List Loc) (ls : Array Slot), dn ≤ 10 → GD a → a.2.1 = HB B H0 dn → a.2.2.1 = some b0 → (∀ j, j < dn → wf j = ASK (B j)) → Rep σ a → va_P D vwCl (WT k ad σ ++ [(qa, .inl (cA, 11, .inr (.inl wf)))]) H → va_D A (WT k ad σ ++ [(qa, .inl (cA, 11, .inr (.inl wf)))]) → va_S A s.heap H locs → lv_has ls 11 [(8, .int (nI 10)), (7, .int (nI dn)), (6, .ref qa), (5, .int (b0 1)), (3, .long (ASK b0)), (2, .ref (ad 0)), (0, .ref (kB k))] → W p l e room_1 s m args below meth c H locs cK sK Q (F0 m 787 ls [])) :
    ∀ (d i : Nat), i + d = 10 → ∀ (dn : Nat) (B : Nat → Nat → Int32) (wf : Nat → Int64) (a : Abs), dn ≤ i → GD a → a.2.1 = HB B H0 dn → a.2.2.1 = some b0 → (∀ j, j < dn → wf j = ASK (B j)) → ∀ (c0 s0 : Nat), c0 + d * XC ≤ cK → s0 + d * XS ≤ sK → ∀ (σ : TSt) (H : Heap) (locs : List Loc) (ls : Array Slot), Rep σ a → va_P D vwCl (WT k ad σ ++ [(qa, .inl (cA, 11, .inr (.inl wf)))]) H → va_D A (WT k ad σ ++ [(qa, .inl (cA, 11, .inr (.inl wf)))]) → va_S A s.heap H locs → lv_has ls 11 [(8, .int (nI i)), (7, .int (nI dn)), (6, .ref qa), (5, .int (b0 1)), (3, .long (ASK b0)), (2, .ref (ad 0)), (0, .ref (kB k))] → W p l e room_1 s m args below meth c H locs c0 s0 Q (F0 m 720 ls []) := by
  intro d
  induction d with
  | zero =>
    intro i hi dn B wf a hdn hG hH hsn hw c0 s0 hc hs σ H locs ls hR hP hD hS hl
    obtain rfl : i = 10 := by omega
    rw [Nat.zero_mul, Nat.add_zero] at hc hs
    refine lv_iload hx hb dL_law_720 (lv_at hl 0 rfl) ?_
    refine lv_bipush (v := 10) hx hb dL_law_722 (by decide) ?_
    refine lv_icmp_ge (tgt := 787) hx hb dL_law_724 (by decide) (fun _ => ?_) (fun h => absurd (nI_le (Nat.le_refl 10) (by omega)) h)
    exact W.widen (by omega) (by omega) (kk dn B wf a σ H locs ls hdn hG hH hsn hw hR hP hD hS hl)
  | succ d ih =>
    intro i hi dn B wf a hdn hG hH hsn hw c0 s0 hc hs σ H locs ls hR hP hD hS hl
    rw [Nat.succ_mul] at hc hs
    refine lv_iload hx hb dL_law_720 (lv_at hl 0 rfl) ?_
    refine lv_bipush (v := 10) hx hb dL_law_722 (by decide) ?_
    refine lv_icmp_ge (tgt := 787) hx hb dL_law_724 (by decide) (fun h => absurd h (nI_ge (a := i) (b := 10) (by omega) (by omega))) (fun _ => ?_)
    refine lv_aload_n hx hb dL_law_727 rfl (lv_at hl 5 rfl) ?_
    refine lc_cl (post := fun r a2 => r = ASK a.1 ∧ ∃ L, (L = a.2.2.2.2.2.2.2 ∨ L.length ≤ 91) ∧ a2 = withL a L) (cells' := c0 + 2627) (slots' := s0 + 69618) (fc_runS (n := 1) (As := [.ref (ad 0)]) (rest := []) (isC := iL) (maxL := 6) ⟨hx, hb, hml, hown, hts⟩ (LC_asks hlst ad a hG.1.1 σ hR H.size) gL_law_L_asks rfl (by decide +kernel) rfl ⟨Nat.le_of_ble_eq_true rfl, Nat.le_of_ble_eq_true rfl⟩ ⟨by (dsimp only [rm_L_asks, room_1] <;> omega), by (dsimp only [rm_L_asks, room_1] <;> omega)⟩ hE hP hD hS hA (iL_C k ad σ [(qa, .inl (cA, 11, .inr (.inl wf)))]) iL_nd hl rfl (Nat.le_of_ble_eq_true rfl) dL_law_728) hP hD hS hA (by (dsimp only [rm_L_asks, room_1] <;> omega)) (by (dsimp only [rm_L_asks, room_1] <;> omega)) (fun r σ ob6 H locs hp hR hP hD hS => ?_)
    obtain ⟨hr9, L9, hX9, ha9⟩ := hp
    subst hr9
    have gob6 : GD ob6 := by rw [ha9]; exact GD_withL hG hX9
    have bob6 : ob6.1 = a.1 := by rw [ha9]; rfl
    have hob6 : ob6.2.1 = a.2.1 := by rw [ha9]; rfl
    have sob6 : ob6.2.2.1 = a.2.2.1 := by rw [ha9]; rfl
    refine lv_lstore (lv' := [(9, .long (ASK a.1)), (8, .int (nI i)), (7, .int (nI dn)), (6, .ref qa), (5, .int (b0 1)), (3, .long (ASK b0)), (2, .ref (ad 0)), (0, .ref (kB k))]) hx hb dL_law_731 hl (by decide) rfl (fun ls hl => ?_)
    refine lv_aload_n hx hb dL_law_733 rfl (lv_at hl 6 rfl) ?_
    refine lv_aload_n hx hb dL_law_734 rfl (lv_at hl 7 rfl) ?_
    refine lv_bipush (v := 20) hx hb dL_law_735 (by decide) ?_
    refine lv_iload hx hb dL_law_737 (lv_at hl 1 rfl) ?_
    refine lv_iadd hx hb dL_law_739 ?_
    rw [show (20 : Int32) + nI i = nI (20 + i) from nI_add 20 i]
    refine fc_c0 (cells' := c0 + 2627) (slots' := s0 + 69618) (fc_runS (n := 2) (As := [.ref (kB k), .int (nI (20 + i))]) (rest := [.ref (ad 0)]) (isC := []) (maxL := 2) ⟨hx, hb, hml, hown, hts⟩ (c_L_at (k := k) (D := D) (l := l) (20 + i) (by omega) hL H.size) gL_law_L_at rfl (by decide +kernel) rfl ⟨Nat.le_of_ble_eq_true rfl, Nat.le_of_ble_eq_true rfl⟩ ⟨by (dsimp only [rm_L_at, room_1] <;> omega), by (dsimp only [rm_L_at, room_1] <;> omega)⟩ hE hP hD hS hA rfl rfl hl rfl (Nat.le_of_ble_eq_true rfl) dL_law_740) hP hD hS hA (by (dsimp only [rm_L_at, room_1] <;> omega)) (by (dsimp only [rm_L_at, room_1] <;> omega)) (fun H locs hP hD hS => ?_)
    refine lv_iload hx hb dL_law_743 (lv_at hl 1 rfl) ?_
    refine lv_sipush (v := 977) hx hb dL_law_745 (by decide) ?_
    refine lv_imul hx hb dL_law_748 ?_
    refine lv_ixor hx hb dL_law_749 ?_
    refine lc_ci (post := fun r a' => CHG ob6 r a') (cells' := c0 + 2698) (slots' := s0 + 70866) (fc_runS (n := 2) (As := [.ref (ad 0), .int ((atN k (20 + i)) ^^^ ((nI i) * (977 : Int32)))]) (rest := []) (isC := iL) (maxL := 3) ⟨hx, hb, hml, hown, hts⟩ (LC_changes hlst ad ob6 gob6 ((atN k (20 + i)) ^^^ ((nI i) * (977 : Int32))) σ hR H.size) gL_law_L_changes rfl (by decide +kernel) rfl ⟨Nat.le_of_ble_eq_true rfl, Nat.le_of_ble_eq_true rfl⟩ ⟨by (dsimp only [rm_L_changes, room_1] <;> omega), by (dsimp only [rm_L_changes, room_1] <;> omega)⟩ hE hP hD hS hA (iL_C k ad σ [(qa, .inl (cA, 11, .inr (.inl wf)))]) iL_nd hl rfl (Nat.le_of_ble_eq_true rfl) dL_law_750) hP hD hS hA (by (dsimp only [rm_L_changes, room_1] <;> omega)) (by (dsimp only [rm_L_changes, room_1] <;> omega)) (fun r σ o9 H locs hp hR hP hD hS => ?_)
    obtain ⟨gC, hC⟩ := hp
    rcases hC with ⟨hr9, c1, c2, c3⟩ | ⟨hr9, c2, c3⟩
    · skip
      subst hr9
      refine lv_if_eq (tgt := 769) hx hb dL_law_753 (by decide) (fun _ => ?_) (fun h => absurd rfl h)
      refine lv_aload_n hx hb dL_law_769 rfl (lv_at hl 6 rfl) ?_
      refine lc_cl (post := fun r a2 => r = ASK o9.1 ∧ ∃ L, (L = o9.2.2.2.2.2.2.2 ∨ L.length ≤ 91) ∧ a2 = withL o9 L) (cells' := c0 + 5325) (slots' := s0 + 140484) (fc_runS (n := 1) (As := [.ref (ad 0)]) (rest := []) (isC := iL) (maxL := 6) ⟨hx, hb, hml, hown, hts⟩ (LC_asks hlst ad o9 gC.1.1 σ hR H.size) gL_law_L_asks rfl (by decide +kernel) rfl ⟨Nat.le_of_ble_eq_true rfl, Nat.le_of_ble_eq_true rfl⟩ ⟨by (dsimp only [rm_L_asks, room_1] <;> omega), by (dsimp only [rm_L_asks, room_1] <;> omega)⟩ hE hP hD hS hA (iL_C k ad σ [(qa, .inl (cA, 11, .inr (.inl wf)))]) iL_nd hl rfl (Nat.le_of_ble_eq_true rfl) dL_law_770) hP hD hS hA (by (dsimp only [rm_L_asks, room_1] <;> omega)) (by (dsimp only [rm_L_asks, room_1] <;> omega)) (fun r σ ob7 H locs hp hR hP hD hS => ?_)
      obtain ⟨hr9, L9, hX9, ha9⟩ := hp
      subst hr9
      have gob7 : GD ob7 := by rw [ha9]; exact GD_withL gC hX9
      have bob7 : ob7.1 = o9.1 := by rw [ha9]; rfl
      have hob7 : ob7.2.1 = o9.2.1 := by rw [ha9]; rfl
      have sob7 : ob7.2.2.1 = o9.2.2.1 := by rw [ha9]; rfl
      refine lv_lload hx hb dL_law_773 (lv_at hl 0 rfl) ?_
      refine W.lcmp hx hb dL_law_775 ?_
      have z8 : lg_cmp (ASK o9.1) (ASK a.1) = 0 := by rw [show (ASK o9.1) = (ASK a.1) from (congrArg ASK (c1.trans bob6))]; exact lg_cmp_self _
      refine lv_if_eq (tgt := 781) hx hb dL_law_776 (by decide) (fun _ => ?_) (fun h => absurd z8 h)
      refine lv_iinc (v := (nI (i + 1))) (lv' := [(8, .int (nI (i + 1))), (9, .long (ASK a.1)), (7, .int (nI dn)), (6, .ref qa), (5, .int (b0 1)), (3, .long (ASK b0)), (2, .ref (ad 0)), (0, .ref (kB k))]) hx hb dL_law_781 hl (k := 1) rfl (nI_add _ 1) (by decide) rfl (fun ls hl => ?_)
      refine lv_goto (tgt := 720) hx hb dL_law_784 (by decide) ?_
      exact ih (i + 1) (by omega) dn B wf ob7 (by omega) gob7 (by rw [hob7, c2, hob6]; exact hH) (by rw [sob7, c3, sob6]; exact hsn) hw (c0 + 5325) (s0 + 140484) (by omega) (by omega) σ H locs ls hR hP hD hS (lv_sub hl [0, 2, 3, 4, 5, 6, 7] rfl)
    · skip
      subst hr9
      refine lv_if_eq (tgt := 769) hx hb dL_law_753 (by decide) (fun h => absurd h (by decide)) (fun _ => ?_)
      refine lv_aload hx hb dL_law_756 (lv_at hl 3 rfl) ?_
      refine lv_iload hx hb dL_law_758 (lv_at hl 2 rfl) ?_
      refine lv_iinc (v := (nI (dn + 1))) (lv' := [(7, .int (nI (dn + 1))), (9, .long (ASK a.1)), (8, .int (nI i)), (6, .ref qa), (5, .int (b0 1)), (3, .long (ASK b0)), (2, .ref (ad 0)), (0, .ref (kB k))]) hx hb dL_law_760 hl (k := 2) rfl (nI_add _ 1) (by decide) rfl (fun ls hl => ?_)
      refine lv_lload hx hb dL_law_763 (lv_at hl 1 rfl) ?_
      refine va_last hx hb hK5 hP hD hS 35 4 (iA_35 _ _ _ _) rfl (nI_in (show dn < 11 by omega) (by omega)) dL_law_765 (fun H locs hP hD hS => ?_)
      rw [nI_clamp (show dn < 2 ^ 31 by omega), iA_set] at hP hD
      refine lv_goto (tgt := 781) hx hb dL_law_766 (by decide) ?_
      refine lv_iinc (v := (nI (i + 1))) (lv' := [(8, .int (nI (i + 1))), (7, .int (nI (dn + 1))), (9, .long (ASK a.1)), (6, .ref qa), (5, .int (b0 1)), (3, .long (ASK b0)), (2, .ref (ad 0)), (0, .ref (kB k))]) hx hb dL_law_781 hl (k := 2) rfl (nI_add _ 1) (by decide) rfl (fun ls hl => ?_)
      refine lv_goto (tgt := 720) hx hb dL_law_784 (by decide) ?_
      exact ih (i + 1) (by omega) (dn + 1) (fun j => if j = dn then a.1 else B j) (vp_updL wf dn (ASK a.1)) o9 (by omega) gC (by
          rw [c2, hob6, bob6, hH]
          show push a.1 (HB B H0 dn) = push (if dn = dn then a.1 else B dn) (HB (fun j => if j = dn then a.1 else B j) H0 dn)
          rw [if_pos rfl, HB_congr (B' := fun j => if j = dn then a.1 else B j) (fun j hj => (if_neg (by omega)).symm)]) (by rw [c3, sob6]; exact hsn) (fun j hj => by
          show (if j = dn then ASK a.1 else wf j) = ASK (if j = dn then a.1 else B j)
          by_cases z : j = dn
          · rw [if_pos z, if_pos z]
          · rw [if_neg z, if_neg z]; exact hw j (by omega)) (c0 + 2698) (s0 + 70866) (by omega) (by omega) σ H locs ls hR hP hD hS (lv_sub hl [0, 1, 3, 4, 5, 6, 7] rfl)
set_option maxRecDepth 100000 in
set_option maxHeartbeats 4000000 in
theorem lpO_799 {p : Program} {l : Launch} {e : Env} {s : State} {m : MethodId} {args : Array Value} {below : List Frame} {meth : Method} {c : Code} {D : va_G} {k : tyK} {A : Nat → Prop} {Q : State → Prop} (hx : p.tables.exec = Jvm.exec) (hb : c.code = cL_law) (hml : c.maxLocals = 11) (hts : ∀ w ∈ wsL_law, w.before args s = true) (hown : s.vm.findClass RL = some m.cls) (hA : ∀ q : Nat, s.heap.size ≤ q → A q) (hE : GE D k A s) (hlst : l.stackTraces = false) (ad : Nat → Nat) {qa : Nat} {cA : ClassId} (hK5 : va_K D vwCl (TY k ++ [(cA, .long)]) s) (b0 : Nat → Int32) {H0 : List (Nat → Int32)} (h8 : H0.length ≤ 8) {dn cn : Nat} (hdn : dn ≤ 10) (hcn : cn ≤ 8 ∧ cn ≤ dn ∧ (cn = 8 ∨ cn = dn)) (B : Nat → Nat → Int32) (wf : Nat → Int64) (hw : ∀ j, j < dn → wf j = ASK (B j)) (XC XS : Nat) (hXC : 2628 ≤ XC) (hXS : 69624 ≤ XS) (cK sK : Nat) (hcK : cK ≤ 600258) (hsK : sK ≤ 7294185)
    (kk : ∀ (a : Abs) (σ : TSt) (H : Heap) (locs : List Loc) (ls : Array Slot), GD a → a.2.2.1 = some b0 → Rep σ a → va_P D vwCl (WT k ad σ ++ [(qa, .inl (cA, 11, .inr (.inl wf)))]) H → va_D A (WT k ad σ ++ [(qa, .inl (cA, 11, .inr (.inl wf)))]) → va_S A s.heap H locs → lv_has ls 11 [(5, .int (b0 1)), (3, .long (ASK b0)), (2, .ref (ad 0)), (0, .ref (kB k))] → W p l e room_1 s m args below meth c H locs cK sK Q (F0 m 856 ls [])) :
    ∀ (d u : Nat), u + d = cn + 1 → 1 ≤ u → ∀ (a : Abs), GD a → a.2.1 = (HB B H0 dn).drop (u - 1) → a.2.2.1 = some b0 → ∀ (c0 s0 : Nat), c0 + d * XC ≤ cK → s0 + d * XS ≤ sK → ∀ (σ : TSt) (H : Heap) (locs : List Loc) (ls : Array Slot), Rep σ a → va_P D vwCl (WT k ad σ ++ [(qa, .inl (cA, 11, .inr (.inl wf)))]) H → va_D A (WT k ad σ ++ [(qa, .inl (cA, 11, .inr (.inl wf)))]) → va_S A s.heap H locs → lv_has ls 11 [(9, .int (nI u)), (8, .int (nI cn)), (7, .int (nI dn)), (6, .ref qa), (5, .int (b0 1)), (3, .long (ASK b0)), (2, .ref (ad 0)), (0, .ref (kB k))] → W p l e room_1 s m args below meth c H locs c0 s0 Q (F0 m 799 ls []) := by
  intro d
  induction d with
  | zero =>
    intro u hu hu1 a hG hH hsn c0 s0 hc hs σ H locs ls hR hP hD hS hl
    obtain rfl : u = cn + 1 := by omega
    rw [Nat.zero_mul, Nat.add_zero] at hc hs
    refine lv_iload hx hb dL_law_799 (lv_at hl 0 rfl) ?_
    refine lv_iload hx hb dL_law_801 (lv_at hl 1 rfl) ?_
    refine lv_icmp_gt (tgt := 856) hx hb dL_law_803 (by decide) (fun _ => ?_) (fun h => absurd (nI_lt (show cn < cn + 1 by omega) (by omega)) h)
    exact W.widen (by omega) (by omega) (kk a σ H locs ls hG hsn hR hP hD hS (lv_sub hl [4, 5, 6, 7] rfl))
  | succ d ih =>
    intro u hu hu1 a hG hH hsn c0 s0 hc hs σ H locs ls hR hP hD hS hl
    rw [Nat.succ_mul] at hc hs
    refine lv_iload hx hb dL_law_799 (lv_at hl 0 rfl) ?_
    refine lv_iload hx hb dL_law_801 (lv_at hl 1 rfl) ?_
    refine lv_icmp_gt (tgt := 856) hx hb dL_law_803 (by decide) (fun h => absurd h (nI_nlt (show u ≤ cn by omega) (by omega))) (fun _ => ?_)
    have hg := HB_get (B := B) (H0 := H0) dn (u - 1) (by omega) (by omega)
    rw [show dn - 1 - (u - 1) = dn - u by omega] at hg
    have hc9 : a.2.1 = B (dn - u) :: (HB B H0 dn).drop u := by rw [hH, drop_c hg, show u - 1 + 1 = u by omega]
    have hU := A_undo_c hc9
    rw [List.length_drop] at hU
    have gU := GD_pop hG hc9
    refine lv_aload_n hx hb dL_law_806 rfl (lv_at hl 6 rfl) ?_
    refine lc_k (v := (nI ((HB B H0 dn).length - u))) (a1 := (B (dn - u), (HB B H0 dn).drop u, a.2.2)) (cells' := c0 + 1) (slots' := s0 + 6) (fc_runSW (n := 1) (As := [.ref (ad 0)]) (rest := []) (isC := iL) (maxL := 2) ⟨hx, hb, hml, hown, hts⟩ ((LCi.at (LC_undo hlst ad a) hU) σ hR H.size) gL_law_L_undo rfl (by decide +kernel) rfl ⟨Nat.le_of_ble_eq_true rfl, Nat.le_of_ble_eq_true rfl⟩ ⟨by (dsimp only [rm_L_undo, room_1] <;> omega), by (dsimp only [rm_L_undo, room_1] <;> omega)⟩ hE hP hD hS hA (iL_C k ad σ [(qa, .inl (cA, 11, .inr (.inl wf)))]) iL_nd hl rfl (Nat.le_of_ble_eq_true rfl) dL_law_807) hP hD hS hA (by (dsimp only [rm_L_undo, room_1] <;> omega)) (by (dsimp only [rm_L_undo, room_1] <;> omega)) (fun σ H locs hR hP hD hS => ?_)
    generalize eU : ((B (dn - u), (HB B H0 dn).drop u, a.2.2) : Abs) = o9 at hR gU
    have bU : o9.1 = B (dn - u) := by rw [← eU]
    have hU9 : o9.2.1 = (HB B H0 dn).drop u := by rw [← eU]
    have sU : o9.2.2.1 = a.2.2.1 := by rw [← eU]
    obtain ⟨hl8, hln⟩ := HB_len (B := B) h8 dn
    refine lv_istore (lv' := [(10, .int (nI ((HB B H0 dn).length - u))), (9, .int (nI u)), (8, .int (nI cn)), (7, .int (nI dn)), (6, .ref qa), (5, .int (b0 1)), (3, .long (ASK b0)), (2, .ref (ad 0)), (0, .ref (kB k))]) hx hb dL_law_810 hl (by decide) rfl (fun ls hl => ?_)
    refine lv_iload hx hb dL_law_812 (lv_at hl 0 rfl) ?_
    refine lv_iload hx hb dL_law_814 (lv_at hl 2 rfl) ?_
    refine lv_iload hx hb dL_law_816 (lv_at hl 1 rfl) ?_
    refine lv_isub hx hb dL_law_818 ?_
    rw [show nI cn - nI u = nI (cn - u) from pk_sub (by omega)]
    refine lv_icmp_lt (tgt := 848) hx hb dL_law_819 (by decide) (fun h => absurd h (nI_nlt (show cn - u ≤ (HB B H0 dn).length - u by omega) (by omega))) (fun _ => ?_)
    refine lv_iload hx hb dL_law_822 (lv_at hl 0 rfl) ?_
    refine lv_bipush (v := 8) hx hb dL_law_824 (by decide) ?_
    refine lv_iload hx hb dL_law_826 (lv_at hl 1 rfl) ?_
    refine lv_isub hx hb dL_law_828 ?_
    rw [show (8 : Int32) - nI u = nI (8 - u) from pk_sub (a := 8) (by omega)]
    refine lv_icmp_gt (tgt := 848) hx hb dL_law_829 (by decide) (fun h => absurd h (nI_nlt (show (HB B H0 dn).length - u ≤ 8 - u by omega) (by omega))) (fun _ => ?_)
    refine lv_aload_n hx hb dL_law_832 rfl (lv_at hl 7 rfl) ?_
    refine lc_cl (post := fun r a2 => r = ASK o9.1 ∧ ∃ L, (L = o9.2.2.2.2.2.2.2 ∨ L.length ≤ 91) ∧ a2 = withL o9 L) (cells' := c0 + 2628) (slots' := s0 + 69624) (fc_runS (n := 1) (As := [.ref (ad 0)]) (rest := []) (isC := iL) (maxL := 6) ⟨hx, hb, hml, hown, hts⟩ (LC_asks hlst ad o9 gU.1.1 σ hR H.size) gL_law_L_asks rfl (by decide +kernel) rfl ⟨Nat.le_of_ble_eq_true rfl, Nat.le_of_ble_eq_true rfl⟩ ⟨by (dsimp only [rm_L_asks, room_1] <;> omega), by (dsimp only [rm_L_asks, room_1] <;> omega)⟩ hE hP hD hS hA (iL_C k ad σ [(qa, .inl (cA, 11, .inr (.inl wf)))]) iL_nd hl rfl (Nat.le_of_ble_eq_true rfl) dL_law_833) hP hD hS hA (by (dsimp only [rm_L_asks, room_1] <;> omega)) (by (dsimp only [rm_L_asks, room_1] <;> omega)) (fun r σ ob9 H locs hp hR hP hD hS => ?_)
    obtain ⟨hr9, L9, hX9, ha9⟩ := hp
    subst hr9
    have gob9 : GD ob9 := by rw [ha9]; exact GD_withL gU hX9
    have bob9 : ob9.1 = o9.1 := by rw [ha9]; rfl
    have hob9 : ob9.2.1 = o9.2.1 := by rw [ha9]; rfl
    have sob9 : ob9.2.2.1 = o9.2.2.1 := by rw [ha9]; rfl
    refine lv_aload hx hb dL_law_836 (lv_at hl 4 rfl) ?_
    refine lv_iload hx hb dL_law_838 (lv_at hl 3 rfl) ?_
    refine lv_iload hx hb dL_law_840 (lv_at hl 1 rfl) ?_
    refine lv_isub hx hb dL_law_842 ?_
    rw [show nI dn - nI u = nI (dn - u) from pk_sub (by omega)]
    refine va_lald hx hb hK5 hP 35 4 (iA_35 _ _ _ _) rfl (nI_in (show dn - u < 11 by omega) (by omega)) dL_law_843 ?_
    rw [nI_clamp (show dn - u < 2 ^ 31 by omega), hw (dn - u) (by omega)]
    refine W.lcmp hx hb dL_law_844 ?_
    have z10 : lg_cmp (ASK o9.1) (ASK (B (dn - u))) = 0 := by rw [show (ASK o9.1) = (ASK (B (dn - u))) from (congrArg ASK bU)]; exact lg_cmp_self _
    refine lv_if_eq (tgt := 850) hx hb dL_law_845 (by decide) (fun _ => ?_) (fun h => absurd z10 h)
    refine lv_iinc (v := (nI (u + 1))) (lv' := [(9, .int (nI (u + 1))), (10, .int (nI ((HB B H0 dn).length - u))), (8, .int (nI cn)), (7, .int (nI dn)), (6, .ref qa), (5, .int (b0 1)), (3, .long (ASK b0)), (2, .ref (ad 0)), (0, .ref (kB k))]) hx hb dL_law_850 hl (k := 1) rfl (nI_add _ 1) (by decide) rfl (fun ls hl => ?_)
    refine lv_goto (tgt := 799) hx hb dL_law_853 (by decide) ?_
    exact ih (u + 1) (by omega) (by omega) ob9 gob9 (by rw [hob9, hU9, Nat.add_sub_cancel]) (by rw [sob9, sU]; exact hsn) (c0 + 2628) (s0 + 69624) (by omega) (by omega) σ H locs ls hR hP hD hS (lv_sub hl [0, 2, 3, 4, 5, 6, 7, 8] rfl)
set_option maxRecDepth 100000 in
set_option maxHeartbeats 4000000 in
theorem wO_856 {p : Program} {l : Launch} {e : Env} {s : State} {m : MethodId} {args : Array Value} {below : List Frame} {meth : Method} {c : Code} {D : va_G} {k : tyK} {A : Nat → Prop} {Q : State → Prop} (hx : p.tables.exec = Jvm.exec) (hb : c.code = cL_law) (hml : c.maxLocals = 11) (hts : ∀ w ∈ wsL_law, w.before args s = true) (hown : s.vm.findClass RL = some m.cls) (hA : ∀ q : Nat, s.heap.size ≤ q → A q) (hE : GE D k A s) (hlst : l.stackTraces = false) (ad : Nat → Nat) {qa : Nat} {cA : ClassId} {wf : Nat → Int64} {b0 : Nat → Int32} {a : Abs} (hG : GD a) (hsn : a.2.2.1 = some b0) (c0 s0 cK sK : Nat) (hcK : cK ≤ 600258) (hsK : sK ≤ 7294185) (hc : c0 + 5257 ≤ cK) (hs : s0 + 139254 ≤ sK)
    (kk : ∀ (H : Heap) (locs : List Loc) (ls : Array Slot), va_S A s.heap H locs → W p l e room_1 s m args below meth c H locs cK sK Q (F0 m 907 ls [.int 1]))
    (σ : TSt) (H : Heap) (locs : List Loc) (ls : Array Slot) (hR : Rep σ a) (hP : va_P D vwCl (WT k ad σ ++ [(qa, .inl (cA, 11, .inr (.inl wf)))]) H) (hD : va_D A (WT k ad σ ++ [(qa, .inl (cA, 11, .inr (.inl wf)))])) (hS : va_S A s.heap H locs) (hl : lv_has ls 11 [(5, .int (b0 1)), (3, .long (ASK b0)), (2, .ref (ad 0)), (0, .ref (kB k))]) : W p l e room_1 s m args below meth c H locs c0 s0 Q (F0 m 856 ls []) := by
  have hE1 := A_rest_s hsn
  have gR := GD_rest hG hsn
  refine lv_aload_n hx hb dL_law_856 rfl (lv_at hl 2 rfl) ?_
  refine lc_k (v := (b0 1)) (a1 := (b0, [], a.2.2)) (cells' := c0 + 1) (slots' := s0 + 6) (fc_runSW (n := 1) (As := [.ref (ad 0)]) (rest := []) (isC := iL) (maxL := 2) ⟨hx, hb, hml, hown, hts⟩ ((LCi.at (LC_restore hlst ad a) hE1) σ hR H.size) gL_law_L_restore rfl (by decide +kernel) rfl ⟨Nat.le_of_ble_eq_true rfl, Nat.le_of_ble_eq_true rfl⟩ ⟨by (dsimp only [rm_L_restore, room_1] <;> omega), by (dsimp only [rm_L_restore, room_1] <;> omega)⟩ hE hP hD hS hA (iL_C k ad σ [(qa, .inl (cA, 11, .inr (.inl wf)))]) iL_nd hl rfl (Nat.le_of_ble_eq_true rfl) dL_law_857) hP hD hS hA (by (dsimp only [rm_L_restore, room_1] <;> omega)) (by (dsimp only [rm_L_restore, room_1] <;> omega)) (fun σ H locs hR hP hD hS => ?_)
  refine lv_iload hx hb dL_law_860 (lv_at hl 0 rfl) ?_
  refine lv_icmp_ne (tgt := 906) hx hb dL_law_862 (by decide) (fun h => absurd rfl h) (fun _ => ?_)
  refine lv_aload_n hx hb dL_law_865 rfl (lv_at hl 2 rfl) ?_
  refine lc_k (v := (-1001 : Int32)) (a1 := (b0, [], a.2.2)) (cells' := c0 + 2) (slots' := s0 + 12) (fc_runSW (n := 1) (As := [.ref (ad 0)]) (rest := []) (isC := iL) (maxL := 2) ⟨hx, hb, hml, hown, hts⟩ ((LCi.at (LC_undo hlst ad (b0, [], a.2.2)) (A_undo_n rfl)) σ hR H.size) gL_law_L_undo rfl (by decide +kernel) rfl ⟨Nat.le_of_ble_eq_true rfl, Nat.le_of_ble_eq_true rfl⟩ ⟨by (dsimp only [rm_L_undo, room_1] <;> omega), by (dsimp only [rm_L_undo, room_1] <;> omega)⟩ hE hP hD hS hA (iL_C k ad σ [(qa, .inl (cA, 11, .inr (.inl wf)))]) iL_nd hl rfl (Nat.le_of_ble_eq_true rfl) dL_law_866) hP hD hS hA (by (dsimp only [rm_L_undo, room_1] <;> omega)) (by (dsimp only [rm_L_undo, room_1] <;> omega)) (fun σ H locs hR hP hD hS => ?_)
  refine lv_sipush (v := -1001) hx hb dL_law_869 (by decide) ?_
  refine lv_icmp_ne (tgt := 906) hx hb dL_law_872 (by decide) (fun h => absurd rfl h) (fun _ => ?_)
  generalize eV : ((b0, [], a.2.2) : Abs) = o9 at hR gR
  have bV : o9.1 = b0 := by rw [← eV]
  have sV : o9.2.2.1 = some b0 := by rw [← eV]; exact hsn
  refine lv_aload_n hx hb dL_law_875 rfl (lv_at hl 2 rfl) ?_
  refine lc_cl (post := fun r a2 => r = ASK o9.1 ∧ ∃ L, (L = o9.2.2.2.2.2.2.2 ∨ L.length ≤ 91) ∧ a2 = withL o9 L) (cells' := c0 + 2629) (slots' := s0 + 69630) (fc_runS (n := 1) (As := [.ref (ad 0)]) (rest := []) (isC := iL) (maxL := 6) ⟨hx, hb, hml, hown, hts⟩ (LC_asks hlst ad o9 gR.1.1 σ hR H.size) gL_law_L_asks rfl (by decide +kernel) rfl ⟨Nat.le_of_ble_eq_true rfl, Nat.le_of_ble_eq_true rfl⟩ ⟨by (dsimp only [rm_L_asks, room_1] <;> omega), by (dsimp only [rm_L_asks, room_1] <;> omega)⟩ hE hP hD hS hA (iL_C k ad σ [(qa, .inl (cA, 11, .inr (.inl wf)))]) iL_nd hl rfl (Nat.le_of_ble_eq_true rfl) dL_law_876) hP hD hS hA (by (dsimp only [rm_L_asks, room_1] <;> omega)) (by (dsimp only [rm_L_asks, room_1] <;> omega)) (fun r σ ob11 H locs hp hR hP hD hS => ?_)
  obtain ⟨hr9, L9, hX9, ha9⟩ := hp
  subst hr9
  have gob11 : GD ob11 := by rw [ha9]; exact GD_withL gR hX9
  have bob11 : ob11.1 = o9.1 := by rw [ha9]; rfl
  have hob11 : ob11.2.1 = o9.2.1 := by rw [ha9]; rfl
  have sob11 : ob11.2.2.1 = o9.2.2.1 := by rw [ha9]; rfl
  refine lv_lload_n hx hb dL_law_879 rfl (lv_at hl 1 rfl) ?_
  refine W.lcmp hx hb dL_law_880 ?_
  have z12 : lg_cmp (ASK o9.1) (ASK b0) = 0 := by rw [show (ASK o9.1) = (ASK b0) from (congrArg ASK bV)]; exact lg_cmp_self _
  refine lv_if_ne (tgt := 906) hx hb dL_law_881 (by decide) (fun h => absurd z12 h) (fun _ => ?_)
  have hE2 := A_rest_s (sob11.trans sV)
  have gR2 := GD_rest gob11 (sob11.trans sV)
  refine lv_aload_n hx hb dL_law_884 rfl (lv_at hl 2 rfl) ?_
  refine lc_k (v := (b0 1)) (a1 := (b0, [], ob11.2.2)) (cells' := c0 + 2630) (slots' := s0 + 69636) (fc_runSW (n := 1) (As := [.ref (ad 0)]) (rest := []) (isC := iL) (maxL := 2) ⟨hx, hb, hml, hown, hts⟩ ((LCi.at (LC_restore hlst ad ob11) hE2) σ hR H.size) gL_law_L_restore rfl (by decide +kernel) rfl ⟨Nat.le_of_ble_eq_true rfl, Nat.le_of_ble_eq_true rfl⟩ ⟨by (dsimp only [rm_L_restore, room_1] <;> omega), by (dsimp only [rm_L_restore, room_1] <;> omega)⟩ hE hP hD hS hA (iL_C k ad σ [(qa, .inl (cA, 11, .inr (.inl wf)))]) iL_nd hl rfl (Nat.le_of_ble_eq_true rfl) dL_law_885) hP hD hS hA (by (dsimp only [rm_L_restore, room_1] <;> omega)) (by (dsimp only [rm_L_restore, room_1] <;> omega)) (fun σ H locs hR hP hD hS => ?_)
  refine lv_iload hx hb dL_law_888 (lv_at hl 0 rfl) ?_
  refine lv_icmp_ne (tgt := 906) hx hb dL_law_890 (by decide) (fun h => absurd rfl h) (fun _ => ?_)
  generalize eV2 : ((b0, [], ob11.2.2) : Abs) = o8 at hR gR2
  have bV2 : o8.1 = b0 := by rw [← eV2]
  refine lv_aload_n hx hb dL_law_893 rfl (lv_at hl 2 rfl) ?_
  refine lc_cl (post := fun r a2 => r = ASK o8.1 ∧ ∃ L, (L = o8.2.2.2.2.2.2.2 ∨ L.length ≤ 91) ∧ a2 = withL o8 L) (cells' := c0 + 5257) (slots' := s0 + 139254) (fc_runS (n := 1) (As := [.ref (ad 0)]) (rest := []) (isC := iL) (maxL := 6) ⟨hx, hb, hml, hown, hts⟩ (LC_asks hlst ad o8 gR2.1.1 σ hR H.size) gL_law_L_asks rfl (by decide +kernel) rfl ⟨Nat.le_of_ble_eq_true rfl, Nat.le_of_ble_eq_true rfl⟩ ⟨by (dsimp only [rm_L_asks, room_1] <;> omega), by (dsimp only [rm_L_asks, room_1] <;> omega)⟩ hE hP hD hS hA (iL_C k ad σ [(qa, .inl (cA, 11, .inr (.inl wf)))]) iL_nd hl rfl (Nat.le_of_ble_eq_true rfl) dL_law_894) hP hD hS hA (by (dsimp only [rm_L_asks, room_1] <;> omega)) (by (dsimp only [rm_L_asks, room_1] <;> omega)) (fun r σ ob13 H locs hp hR hP hD hS => ?_)
  obtain ⟨hr9, L9, hX9, ha9⟩ := hp
  subst hr9
  have gob13 : GD ob13 := by rw [ha9]; exact GD_withL gR2 hX9
  have bob13 : ob13.1 = o8.1 := by rw [ha9]; rfl
  have hob13 : ob13.2.1 = o8.2.1 := by rw [ha9]; rfl
  have sob13 : ob13.2.2.1 = o8.2.2.1 := by rw [ha9]; rfl
  refine lv_lload_n hx hb dL_law_897 rfl (lv_at hl 1 rfl) ?_
  refine W.lcmp hx hb dL_law_898 ?_
  have z14 : lg_cmp (ASK o8.1) (ASK b0) = 0 := by rw [show (ASK o8.1) = (ASK b0) from (congrArg ASK bV2)]; exact lg_cmp_self _
  refine lv_if_ne (tgt := 906) hx hb dL_law_899 (by decide) (fun h => absurd z14 h) (fun _ => ?_)
  refine lv_iconst (v := 1) hx hb dL_law_902 (by decide) ?_
  refine lv_goto (tgt := 907) hx hb dL_law_903 (by decide) ?_
  exact W.widen (by omega) (by omega) (kk H locs ls hS)
theorem min_ok {dn : Nat} (hdn : dn ≤ 10) : ∃ cn, (cn ≤ 8 ∧ cn ≤ dn ∧ (cn = 8 ∨ cn = dn)) ∧ (if nI dn < (8 : Int32) then nI dn else (8 : Int32)) = nI cn := by
  by_cases h : dn < 8
  · exact ⟨dn, by omega, if_pos (nI_lt (b := 8) h (by decide))⟩
  · exact ⟨8, by omega, if_neg (nI_nlt (b := 8) (by omega) (by omega))⟩
set_option maxRecDepth 100000 in
set_option maxHeartbeats 4000000 in
theorem wO {p : Program} {l : Launch} {e : Env} {s : State} {m : MethodId} {args : Array Value} {below : List Frame} {meth : Method} {c : Code} {D : va_G} {k : tyK} {A : Nat → Prop} {Q : State → Prop} (hx : p.tables.exec = Jvm.exec) (hb : c.code = cL_law) (hml : c.maxLocals = 11) (hts : ∀ w ∈ wsL_law, w.before args s = true) (hown : s.vm.findClass RL = some m.cls) (hA : ∀ q : Nat, s.heap.size ≤ q → A q) (hE : GE D k A s) (hlst : l.stackTraces = false) (hL : kL k ≤ 1000) (ad : Nat → Nat) (c0 s0 : Nat) (hc : c0 + 93084 ≤ 600258) (hs : s0 + 2460665 ≤ 7294185)
    (kk : ∀ (H : Heap) (locs : List Loc) (ls : Array Slot), va_S A s.heap H locs → W p l e room_1 s m args below meth c H locs (c0 + 93084) (s0 + 2460665) Q (F0 m 907 ls [.int 1]))
    (σ : TSt) (H : Heap) (locs : List Loc) (ls : Array Slot) (hR : Rep σ a00) (hP : va_P D vwCl (WT k ad σ ++ ([] : va_W)) H) (hD : va_D A (WT k ad σ ++ ([] : va_W))) (hS : va_S A s.heap H locs) (hl : lv_has ls 11 [(0, .ref (kB k))]) : W p l e room_1 s m args below meth c H locs c0 s0 Q (F0 m 647 ls [.ref (ad 0)]) := by
  refine wO_647 hx hb hml hts hown hA hE hlst hL ad c0 s0 (c0 + 13552) (s0 + 359568) (by omega) (by omega) (by omega) (by omega) (fun b0 a σ H locs ls hG hb0 hsn hR hP hD hS hl => ?_) σ H locs ls hR hP hD hS hl
  have h8 := Rep_h8 hR
  refine lv_bipush (v := 11) hx hb dL_law_708 (by decide) ?_
  refine va_newa (atype := .long) (a0 := (11, .inr (.inl (fun _ => 0)))) hx hb (hts (.arrayClass .long) (List.mem_append_left _ (List.mem_append_left _ (List.mem_append_left _ (List.mem_append_left _ (List.mem_append_left _ (List.mem_append_left _ (List.mem_append_left _ (List.mem_append_left _ (List.mem_append_left _ (List.mem_append_left _ (List.mem_append_left _ (List.mem_append_left _ (List.mem_append_left _ (List.mem_append_left _ (List.mem_append_left _ (List.mem_append_left _ (List.mem_append_left _ (List.mem_append_left _ (List.mem_append_left _ (List.mem_append_left _ (List.mem_append_left _ (List.mem_of_getElem? (i := 3) (rfl : wsL_law0_r1[3]? = _)))))))))))))))))))))))) rfl hE.1 hP hD hS hA (fun _ => rfl) (by decide) (by decide) (by decide) (by show c0 + 13552 + 1 ≤ 600258; omega) (by show s0 + 359568 + 11 ≤ 7294185; omega) dL_law_710 (fun qa cA H hK5 hP hD hS => ?_)
  have hP : va_P D vwCl (WT k ad σ ++ [(qa, .inl (cA, 11, .inr (.inl (fun _ => 0))))]) H := by rw [← List.append_nil (WT k ad σ)]; exact hP
  have hD : va_D A (WT k ad σ ++ [(qa, .inl (cA, 11, .inr (.inl (fun _ => 0))))]) := by rw [← List.append_nil (WT k ad σ)]; exact hD
  refine lv_astore (lv' := [(6, .ref qa), (5, .int (b0 1)), (3, .long (ASK b0)), (2, .ref (ad 0)), (0, .ref (kB k))]) hx hb dL_law_712 hl (by decide) rfl (fun ls hl => ?_)
  refine lv_iconst (v := 0) hx hb dL_law_714 (by decide) ?_
  refine lv_istore (lv' := [(7, .int (0 : Int32)), (6, .ref qa), (5, .int (b0 1)), (3, .long (ASK b0)), (2, .ref (ad 0)), (0, .ref (kB k))]) hx hb dL_law_715 hl (by decide) rfl (fun ls hl => ?_)
  refine lv_iconst (v := 0) hx hb dL_law_717 (by decide) ?_
  refine lv_istore (lv' := [(8, .int (0 : Int32)), (7, .int (0 : Int32)), (6, .ref qa), (5, .int (b0 1)), (3, .long (ASK b0)), (2, .ref (ad 0)), (0, .ref (kB k))]) hx hb dL_law_718 hl (by decide) rfl (fun ls hl => ?_)
  refine lpO_720 hx hb hml hts hown hA hE hlst hL ad hK5 b0 a.2.1 5325 140484 (Nat.le_refl _) (Nat.le_refl _) (c0 + 66803) (s0 + 1764419) (by omega) (by omega) (fun dn B wf a1 σ H locs ls hdn hG hH hsn hw hR hP hD hS hl => ?_) 10 0 rfl 0 (fun _ => b0) (fun _ => 0) a (Nat.le_refl 0) hG rfl hsn (fun j hj => absurd hj (Nat.not_lt_zero j)) (c0 + 13553) (s0 + 359579) (by omega) (by omega) σ H locs ls hR hP hD hS (lv_sub hl [0, 1, 2, 3, 4, 5, 6] rfl)
  refine lv_bipush (v := 8) hx hb dL_law_787 (by decide) ?_
  refine lv_iload hx hb dL_law_789 (lv_at hl 1 rfl) ?_
  refine va_mmin hx hb (hml.trans hl.1.symm) hown (hts (.methodLink RL 278 Lib.Math.min.name) (List.mem_append_left _ (List.mem_append_left _ (List.mem_append_left _ (List.mem_append_left _ (List.mem_append_left _ (List.mem_append_left _ (List.mem_append_left _ (List.mem_append_left _ (List.mem_append_left _ (List.mem_append_left _ (List.mem_append_left _ (List.mem_append_left _ (List.mem_append_left _ (List.mem_append_left _ (List.mem_append_left _ (List.mem_append_left _ (List.mem_append_left _ (List.mem_append_left _ (List.mem_append_left _ (List.mem_append_left _ (List.mem_append_left _ (List.mem_of_getElem? (i := 4) (rfl : wsL_law0_r1[4]? = _)))))))))))))))))))))))) (hts (.static Lib.Math.min.name) (List.mem_append_left _ (List.mem_append_left _ (List.mem_append_left _ (List.mem_append_left _ (List.mem_append_left _ (List.mem_append_left _ (List.mem_append_left _ (List.mem_append_left _ (List.mem_append_left _ (List.mem_append_left _ (List.mem_append_left _ (List.mem_append_left _ (List.mem_append_left _ (List.mem_append_left _ (List.mem_append_left _ (List.mem_append_left _ (List.mem_append_left _ (List.mem_append_left _ (List.mem_append_left _ (List.mem_append_left _ (List.mem_append_left _ (List.mem_of_getElem? (i := 5) (rfl : wsL_law0_r1[5]? = _)))))))))))))))))))))))) (hts (.initialized "java/lang/Math") (List.mem_append_left _ (List.mem_append_left _ (List.mem_append_left _ (List.mem_append_left _ (List.mem_append_left _ (List.mem_append_left _ (List.mem_append_left _ (List.mem_append_left _ (List.mem_append_left _ (List.mem_append_left _ (List.mem_append_left _ (List.mem_append_left _ (List.mem_append_left _ (List.mem_append_left _ (List.mem_append_left _ (List.mem_append_left _ (List.mem_append_left _ (List.mem_append_left _ (List.mem_append_left _ (List.mem_append_left _ (List.mem_append_left _ (List.mem_of_getElem? (i := 6) (rfl : wsL_law0_r1[6]? = _)))))))))))))))))))))))) (hts (.code Lib.Math.min.name Lib.Math.min.code 2 (some .int)) (List.mem_append_left _ (List.mem_append_left _ (List.mem_append_left _ (List.mem_append_left _ (List.mem_append_left _ (List.mem_append_left _ (List.mem_append_left _ (List.mem_append_left _ (List.mem_append_left _ (List.mem_append_left _ (List.mem_append_left _ (List.mem_append_left _ (List.mem_append_left _ (List.mem_append_left _ (List.mem_append_left _ (List.mem_append_left _ (List.mem_append_left _ (List.mem_append_left _ (List.mem_append_left _ (List.mem_append_left _ (List.mem_append_left _ (List.mem_of_getElem? (i := 7) (rfl : wsL_law0_r1[7]? = _)))))))))))))))))))))))) (by decide) (Nat.le_of_ble_eq_true rfl) (by show c0 + 66803 ≤ 600258; omega) (by show s0 + 1764419 ≤ 7294185; omega) dL_law_791 ?_
  obtain ⟨cn, hcn, ecn⟩ := min_ok (dn := dn) hdn
  rw [ecn]
  refine lv_istore (lv' := [(8, .int (nI cn)), (7, .int (nI dn)), (6, .ref qa), (5, .int (b0 1)), (3, .long (ASK b0)), (2, .ref (ad 0)), (0, .ref (kB k))]) hx hb dL_law_794 hl (by decide) rfl (fun ls hl => ?_)
  refine lv_iconst (v := 1) hx hb dL_law_796 (by decide) ?_
  refine lv_istore (lv' := [(9, .int (1 : Int32)), (8, .int (nI cn)), (7, .int (nI dn)), (6, .ref qa), (5, .int (b0 1)), (3, .long (ASK b0)), (2, .ref (ad 0)), (0, .ref (kB k))]) hx hb dL_law_797 hl (by decide) rfl (fun ls hl => ?_)
  refine lpO_799 hx hb hml hts hown hA hE hlst ad hK5 b0 h8 hdn hcn B wf hw 2628 69624 (Nat.le_refl _) (Nat.le_refl _) (c0 + 87827) (s0 + 2321411) (by omega) (by omega) (fun a2 σ H locs ls hG hsn hR hP hD hS hl => ?_) cn 1 (Nat.add_comm 1 cn) (Nat.le_refl 1) a1 hG (by rw [hH]; rfl) hsn (c0 + 66803) (s0 + 1764419) (Nat.le_trans (Nat.add_le_add_left (Nat.mul_le_mul_right _ hcn.1) _) (by omega)) (Nat.le_trans (Nat.add_le_add_left (Nat.mul_le_mul_right _ hcn.1) _) (by omega)) σ H locs ls hR hP hD hS (lv_sub hl [0, 1, 2, 3, 4, 5, 6, 7] rfl)
  exact wO_856 hx hb hml hts hown hA hE hlst ad hG hsn (c0 + 87827) (s0 + 2321411) (c0 + 93084) (s0 + 2460665) (by omega) (by omega) (by omega) (by omega) kk σ H locs ls hR hP hD hS hl
end TSowalk
