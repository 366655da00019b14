/-! THE LAW'S reads, of a constant: the input is its letters, then it is read. -/
section TSreads
def withT (a : Abs) (L : List Int32) : Abs := (a.1, a.2.1, a.2.2.1, a.2.2.2.1, a.2.2.2.2.1, a.2.2.2.2.2.1, L, a.2.2.2.2.2.2.2)
theorem withT_nil {a : Abs} {σ : TSt} (h : a.2.2.2.2.2.2.1 = []) (hR : Rep σ a) : Rep σ (withT a []) := by
  unfold withT; rw [← h]; exact hR
def chN (j i : Nat) : Nat := ((SB j).getD i 0).toNatClampNeg
theorem chr_all : ∀ j : Fin 34, ∀ i : Fin 60, i.val < (SB j.val).length → (SB j.val).getD i.val 0 = nI (chN j.val i.val) ∧ chN j.val i.val < 128 ∧ ((nI (chN j.val i.val) &&& (255 : Int32)).toUInt32 % 65536).toInt32 = nI (chN j.val i.val) := by decide +kernel
theorem len_all : ∀ j : Fin 34, (SB j.val).length < 60 := by decide +kernel
theorem LEN_k {l : Launch} {D : va_G} {k : tyK} {j : Nat} (hj : j < 34) : FCi l yJ0_length_8abf5 wsJ0_length_8abf5 rm_J0_length_8abf5 D k [.ref (kS k j)] [] (fun r (_ : Unit) => r = nI (SB j).length) (fun _ => []) := by
  have e : F_J0_length_8abf5 j = nI (SB j).length := Int32.shiftRight_zero
  rw [← e]
  exact c_J0_length_8abf5 j hj
theorem CHR_k {l : Launch} {D : va_G} {k : tyK} {j : Nat} (hj : j < 34) {i : Nat} (hi : i < (SB j).length) : FCi l yJ0_charAt_5068e wsJ0_charAt_5068e rm_J0_charAt_5068e_k D k [.ref (kS k j), .int (nI i)] [] (fun r (_ : Unit) => r = nI (chN j i)) (fun _ => []) := by
  have h60 := len_all ⟨j, hj⟩
  dsimp only at h60
  obtain ⟨e1, e2, e3⟩ := chr_all ⟨j, hj⟩ ⟨i, by omega⟩ hi
  dsimp only at e1 e2 e3
  have e : F_J0_charAt_5068e_k (nI i) j = nI (chN j i) := by
    unfold F_J0_charAt_5068e_k F_J1_charAt_3b067_k
    rw [nI_clamp (by omega), e1]
    exact e3
  rw [← e]
  exact c_J0_charAt_5068e_k (nI i) j hj (nI_pos (by omega)) (nI_lt hi (by omega))
theorem LC_feedK {l : Launch} {D : va_G} {k : tyK} (hlst : l.stackTraces = false) (ad : Nat → Nat) (a : Abs) (h0 : a.2.2.2.2.2.2.1 = []) {j : Nat} (hj : j < 34) (hlen : (SB j).length ≤ 60) {i : Nat} (hi : i < (SB j).length) : LCi l yL_feed wsL_feed rm_L_feed D k ad [.int (nI (chN j i))] (withT a ((SB j).take i)) (fun r a' => r = nI (i + 1) ∧ a' = withT a ((SB j).take (i + 1))) := by
  obtain ⟨e1, e2, e3⟩ := chr_all ⟨j, hj⟩ ⟨i, by omega⟩ hi
  dsimp only at e1 e2 e3
  have h := LC_feed (D := D) (k := k) hlst ad (withT a ((SB j).take i)) (chN j i) (by omega)
  have e : A_feed (withT a ((SB j).take i)) (nI (chN j i)) = (nI (i + 1), withT a ((SB j).take (i + 1))) := by
    have hl : ((SB j).take i).length = i := by rw [List.length_take]; omega
    have hs : (SB j).take (i + 1) = (SB j).take i ++ [nI (chN j i)] := by
      rw [List.take_add_one, ← e1, List.getD_eq_getElem?_getD, List.getElem?_eq_getElem hi]
      rfl
    show (if ((SB j).take i).length < 60 then _ else _) = _
    rw [if_pos (by omega)]
    show (nI (((SB j).take i).length + 1), _) = _
    rw [hl, hs]
    rfl
  rw [e] at h
  exact h
abbrev rm_L_reads : Room := { frames := 10, cells := 61, slots := 366, locals := 232 }
set_option maxHeartbeats 4000000 in
theorem lpR_2 {p : Program} {l : Launch} {e : Env} {s : State} {m : MethodId} {args : Array Value} {below : List Frame} {meth : Method} {c : Code} {D : va_G} {k : tyK} {A : Nat → Prop} {Q : State → Prop} (hx : p.tables.exec = Jvm.exec) (hb : c.code = cL_reads) (hml : c.maxLocals = 3) (hts : ∀ w ∈ wsL_reads, w.before args s = true) (hown : s.vm.findClass RL = some m.cls) (hA : ∀ q : Nat, s.heap.size ≤ q → A q) (hE : GE D k A s) (hlst : l.stackTraces = false) (ad : Nat → Nat) (a : Abs) (h0 : a.2.2.2.2.2.2.1 = []) {j : Nat} (hj : j < 34) (hlen : (SB j).length ≤ 60) (cK sK : Nat) (hcK : cK ≤ 61) (hsK : sK ≤ 366) (kk : ∀ (σ : TSt) (H : Heap) (locs : List Loc) (ls : Array Slot), Rep σ (withT a ((SB j).take (SB j).length)) → va_P D vwCl (WT k ad σ ++ ([] : va_W)) H → va_D A (WT k ad σ ++ ([] : va_W)) → va_S A s.heap H locs → lv_has ls 3 [(0, .ref (ad 0)), (1, .ref (kS k j)), (2, .int (nI (SB j).length))] → W p l e rm_L_reads s m args below meth c H locs cK sK Q (F0 m 35 ls [])) :
    ∀ (d i : Nat), i + d = (SB j).length → ∀ (c0 s0 : Nat), c0 + d * 1 + 0 ≤ cK → s0 + d * 6 + 0 ≤ sK → ∀ (σ : TSt) (H : Heap) (locs : List Loc) (ls : Array Slot), Rep σ (withT a ((SB j).take i)) → va_P D vwCl (WT k ad σ ++ ([] : va_W)) H → va_D A (WT k ad σ ++ ([] : va_W)) → va_S A s.heap H locs → lv_has ls 3 [(0, .ref (ad 0)), (1, .ref (kS k j)), (2, .int (nI i))] → W p l e rm_L_reads s m args below meth c H locs c0 s0 Q (F0 m 2 ls []) := by
  intro d
  induction d with
  | zero =>
    intro i hi c0 s0 hc hs σ H locs ls hR hP hD hS hl
    obtain rfl : i = (SB j).length := by omega
    rw [Nat.zero_mul, Nat.add_zero] at hc hs
    refine lv_iload_n hx hb dL_reads_2 rfl (lv_at hl 2 rfl) ?_
    refine lv_aload_n hx hb dL_reads_3 rfl (lv_at hl 1 rfl) ?_
    refine fc_c0 (v := (nI (SB j).length)) (cells' := c0 + 0) (slots' := s0 + 0) (fc_runV (n := 0) (As := []) (rest := [.int (nI (SB j).length)]) (isC := []) (maxL := 1) ⟨hx, hb, hml, hown, hts⟩ ((LEN_k hj) H.size) gL_reads_J0_length_8abf5 rfl (by decide +kernel) rfl ⟨Nat.le_of_ble_eq_true rfl, Nat.le_of_ble_eq_true rfl⟩ ⟨by show c0 + 0 + 0 ≤ 61; omega, by show s0 + 0 + 0 ≤ 366; omega⟩ hE hP hD hS hA rfl rfl (GE.rcv hE hj hS) hl rfl (Nat.le_of_ble_eq_true rfl) dL_reads_4) hP hD hS hA (by show c0 + 0 + 0 = c0 + 0; omega) (by show s0 + 0 + 0 = s0 + 0; omega) (fun H locs hP hD hS => ?_)
    refine lv_icmp_ge (tgt := 35) hx hb dL_reads_7 (by decide) (fun _ => ?_) (fun h => absurd (nI_le (Nat.le_refl (SB j).length) (by omega)) h)
    exact W.widen (by omega) (by omega) (kk σ H locs ls hR hP hD hS (lv_sub hl [0, 1, 2] rfl))
  | succ d ih =>
    intro i hi c0 s0 hc hs σ H locs ls hR hP hD hS hl
    rw [Nat.succ_mul] at hc hs
    refine lv_iload_n hx hb dL_reads_2 rfl (lv_at hl 2 rfl) ?_
    refine lv_aload_n hx hb dL_reads_3 rfl (lv_at hl 1 rfl) ?_
    refine fc_c0 (v := (nI (SB j).length)) (cells' := c0 + 0) (slots' := s0 + 0) (fc_runV (n := 0) (As := []) (rest := [.int (nI i)]) (isC := []) (maxL := 1) ⟨hx, hb, hml, hown, hts⟩ ((LEN_k hj) H.size) gL_reads_J0_length_8abf5 rfl (by decide +kernel) rfl ⟨Nat.le_of_ble_eq_true rfl, Nat.le_of_ble_eq_true rfl⟩ ⟨by show c0 + 0 + 0 ≤ 61; omega, by show s0 + 0 + 0 ≤ 366; omega⟩ hE hP hD hS hA rfl rfl (GE.rcv hE hj hS) hl rfl (Nat.le_of_ble_eq_true rfl) dL_reads_4) hP hD hS hA (by show c0 + 0 + 0 = c0 + 0; omega) (by show s0 + 0 + 0 = s0 + 0; omega) (fun H locs hP hD hS => ?_)
    refine lv_icmp_ge (tgt := 35) hx hb dL_reads_7 (by decide) (fun h => absurd h (nI_ge (a := i) (b := (SB j).length) (by omega) (by omega))) (fun _ => ?_)
    refine lv_aload_n hx hb dL_reads_10 rfl (lv_at hl 0 rfl) ?_
    refine lv_aload_n hx hb dL_reads_11 rfl (lv_at hl 1 rfl) ?_
    refine lv_iload_n hx hb dL_reads_12 rfl (lv_at hl 2 rfl) ?_
    refine fc_c0 (v := (nI (chN j i))) (cells' := c0 + 0) (slots' := s0 + 0) (fc_runV (n := 1) (As := [.int (nI i)]) (rest := [.ref (ad 0)]) (isC := []) (maxL := 2) ⟨hx, hb, hml, hown, hts⟩ ((CHR_k hj (i := i) (by omega)) H.size) gL_reads_J0_charAt_5068e rfl (by decide +kernel) rfl ⟨Nat.le_of_ble_eq_true rfl, Nat.le_of_ble_eq_true rfl⟩ ⟨by show c0 + 0 + 0 ≤ 61; omega, by show s0 + 0 + 0 ≤ 366; omega⟩ hE hP hD hS hA rfl rfl (GE.rcv hE hj hS) hl rfl (Nat.le_of_ble_eq_true rfl) dL_reads_13) hP hD hS hA (by show c0 + 0 + 0 = c0 + 0; omega) (by show s0 + 0 + 0 = s0 + 0; omega) (fun H locs hP hD hS => ?_)
    refine lc_k (v := (nI (i + 1))) (a1 := (withT a ((SB j).take (i + 1)))) (cells' := c0 + 1) (slots' := s0 + 6) (fc_runSW (n := 2) (As := [.ref (ad 0), .int (nI (chN j i))]) (rest := []) (isC := iL) (maxL := 3) ⟨hx, hb, hml, hown, hts⟩ (LC_feedK hlst ad a h0 hj hlen (i := i) (by omega) σ hR H.size) gL_reads_L_feed rfl (by decide +kernel) rfl ⟨Nat.le_of_ble_eq_true rfl, Nat.le_of_ble_eq_true rfl⟩ ⟨by show c0 + 0 + 1 ≤ 61; omega, by show s0 + 0 + 6 ≤ 366; omega⟩ hE hP hD hS hA (iL_C k ad σ ([] : va_W)) iL_nd hl rfl (Nat.le_of_ble_eq_true rfl) dL_reads_16) hP hD hS hA (by show c0 + 0 + 1 = c0 + 1; omega) (by show s0 + 0 + 6 = s0 + 6; omega) (fun σ H locs hR hP hD hS => ?_)
    refine lv_iload_n hx hb dL_reads_19 rfl (lv_at hl 2 rfl) ?_
    refine lv_iconst (v := 1) hx hb dL_reads_20 (by decide) ?_
    refine lv_iadd hx hb dL_reads_21 ?_
    refine lv_icmp_eq (tgt := 29) hx hb dL_reads_22 (by decide) (fun _ => ?_) (fun h => absurd (nI_1 i).symm h)
    refine lv_iinc (v := (nI (i + 1))) (lv' := [(2, .int (nI (i + 1))), (0, .ref (ad 0)), (1, .ref (kS k j))]) hx hb dL_reads_29 hl (k := 2) rfl (nI_add _ 1) (by decide) rfl (fun ls hl => ?_)
    refine lv_goto (tgt := 2) hx hb dL_reads_32 (by decide) ?_
    exact ih (i + 1) (by omega) (c0 + 1) (s0 + 6) (by omega) (by omega) σ H locs ls hR hP hD hS (lv_sub hl [1, 2, 0] rfl)
set_option maxHeartbeats 4000000 in
theorem LC_readsK {l : Launch} {D : va_G} {k : tyK} (hlst : l.stackTraces = false) (ad : Nat → Nat) (a : Abs) (h0 : a.2.2.2.2.2.2.1 = []) {j : Nat} (hj : j < 34) {v : Int32} {a1 : Abs} (hRead : LCi l yL_read wsL_read rm_L_read D k ad [] (withT a (SB j)) (fun r a' => r = v ∧ a' = a1)) : LCi l yL_reads wsL_reads rm_L_reads D k ad [.ref (kS k j)] a (fun r a' => r = v ∧ a' = a1) := by
  intro σ hR
  have hlen : (SB j).length ≤ 60 := Nat.le_of_lt (len_all ⟨j, hj⟩)
  refine fc_start (cc := cL_reads) (maxL := 3) (ret := (some .int)) (own := RL) (Qc := fun A => va_Qi (fun r (u : TSt × Abs) => (r = v ∧ u.2 = a1) ∧ Rep u.1 u.2) (Bt D (fun u => WT k ad u.1) A) A) (by decide) rfl rfl (Nat.le_of_ble_eq_true rfl) ?_
  intro p e s m below meth c A H hx hb hml hr hts hown hlk hname hA hP hE hD hS ls hl
  have hl : lv_has ls 3 [(0, .ref (ad 0)), (1, .ref (kS k j))] := hl
  obtain ⟨locs, hlocs⟩ : ∃ z : List Loc, z = [] := ⟨_, rfl⟩
  rw [← hlocs] at hS ⊢
  have hP : va_P D vwCl (WT k ad σ ++ ([] : va_W)) H := by rw [List.append_nil]; exact hP
  have hD : va_D A (WT k ad σ ++ ([] : va_W)) := by rw [List.append_nil]; exact hD
  refine lv_iconst (v := 0) hx hb dL_reads_0 (by decide) ?_
  refine lv_istore_n (lv' := [(2, .int (0 : Int32)), (0, .ref (ad 0)), (1, .ref (kS k j))]) hx hb dL_reads_1 rfl hl (by decide) rfl (fun ls hl => ?_)
  refine lpR_2 hx hb hml hts hown hA hE hlst ad a h0 hj hlen 60 360 (Nat.le_of_ble_eq_true rfl) (Nat.le_of_ble_eq_true rfl) (fun σ H locs ls hR hP hD hS hl => ?_) (SB j).length 0 (Nat.zero_add _) 0 0 (by omega) (by omega) σ H locs ls (by rw [List.take_zero]; exact withT_nil h0 hR) hP hD hS (lv_sub hl [1, 2, 0] rfl)
  rw [List.take_length] at hR
  refine lv_aload_n hx hb dL_reads_35 rfl (lv_at hl 0 rfl) ?_
  refine lc_k (v := v) (a1 := a1) (cells' := 61) (slots' := 366) (fc_runSW (n := 1) (As := [.ref (ad 0)]) (rest := []) (isC := iL) (maxL := 2) ⟨hx, hb, hml, hown, hts⟩ (hRead σ hR H.size) gL_reads_L_read rfl (by decide +kernel) rfl ⟨Nat.le_of_ble_eq_true rfl, Nat.le_of_ble_eq_true rfl⟩ ⟨Nat.le_of_ble_eq_true rfl, Nat.le_of_ble_eq_true rfl⟩ hE hP hD hS hA (iL_C k ad σ ([] : va_W)) iL_nd hl rfl (Nat.le_of_ble_eq_true rfl) dL_reads_36) hP hD hS hA rfl rfl (fun σ H locs hR hP hD hS => ?_)
  have hP : va_P D vwCl (WT k ad σ) H := by rw [← List.append_nil (WT k ad σ)]; exact hP
  have hD : va_D A (WT k ad σ) := by rw [← List.append_nil (WT k ad σ)]; exact hD
  exact fc_iret hx hb hr rfl hlk hS (σ, a1) ⟨⟨rfl, rfl⟩, hR⟩ hP hD (by decide) (by decide) dL_reads_39
end TSreads
