/-! THE LAW'S reads, of a fresh String. -/
section TSreadsW
abbrev sW (k : tyK) (st va N : Nat) (bt : Nat → Int32) : va_W := [(st, .inr (0, [.ref va, .int (0 : Int32), .int (0 : Int32), .int (0 : Int32)])), (va, .inl (k.2.2.1, N, .inl bt))]
def STRok (L : List Int32) (bt : Nat → Int32) : Prop := ∀ i, i < L.length → bt i = L.getD i 0 ∧ SBch (L.getD i 0)
theorem iR_C (k : tyK) (ad : Nat → Nat) (σ : TSt) (x y : Nat × va_E) : [35, 36].map (fun i => (WT k ad σ ++ [x, y])[i]?) = [x, y].map some := by
  obtain ⟨hs, fk, f, f2, f3, f4, jr, jd, nx, kp, g, ln, tp, wd, fi, tw, dy, mn, vl, sg, ml, txt, q, cap, yb⟩ := σ
  rfl
theorem iR_35 (k : tyK) (ad : Nat → Nat) (σ : TSt) (x y : Nat × va_E) : (WT k ad σ ++ [x, y])[35]? = some x := by
  obtain ⟨hs, fk, f, f2, f3, f4, jr, jd, nx, kp, g, ln, tp, wd, fi, tw, dy, mn, vl, sg, ml, txt, q, cap, yb⟩ := σ
  rfl
theorem iR_fs (k : tyK) (ad : Nat → Nat) (σ : TSt) (x y x' y' : Nat × va_E) : fs (WT k ad σ ++ [x, y]) [35, 36] [x', y'] = WT k ad σ ++ [x', y'] := by
  obtain ⟨hs, fk, f, f2, f3, f4, jr, jd, nx, kp, g, ln, tp, wd, fi, tw, dy, mn, vl, sg, ml, txt, q, cap, yb⟩ := σ
  rfl
section
variable {p : Program} {l : Launch} {e : Env} {R : Room} {s : State} {m : MethodId} {args : Array Value} {below : List Frame} {meth : Method} {c : Code} {H : Heap} {locs : List Loc} {cells slots : Nat} {Q : State → Prop} {D : va_G} {k : tyK} {A : Nat → Prop} {pc : Nat} {ls : Array Slot} {rest st0 : List Value} {a0 : Array Value} {mc ms : Nat} {ad : Nat → Nat} {σ : TSt}
theorem lc_w {v : Int32} {x y : Nat × va_E} (hr : va_Run p l e R s m args below meth c H locs cells slots mc ms (F0 m pc ls st0) rest (va_Qi (fun r (_ : Unit) => r = v) (Bt D (fun _ => [x, y]) (va_A [x, y] H.size)) (va_A [x, y] H.size) a0) (va_A [x, y] H.size)) (hP : va_P D vwCl (WT k ad σ ++ [x, y]) H) (hD : va_D A (WT k ad σ ++ [x, y])) (hS : va_S A s.heap H locs) (hA : ∀ q : Nat, s.heap.size ≤ q → A q) {cells' slots' : Nat} (hcs : cells + mc = cells') (hss : slots + ms = slots')
    (kk : ∀ (H1 : Heap) (locs1 : List Loc), va_P D vwCl (WT k ad σ ++ [x, y]) H1 → va_D A (WT k ad σ ++ [x, y]) → va_S A s.heap H1 locs1 → W p l e R s m args below meth c H1 locs1 cells' slots' Q (F0 m (pc + 3) ls (.int v :: rest))) : W p l e R s m args below meth c H locs cells slots Q (F0 m pc ls st0) :=
  fc_ci (isC := [35, 36]) hr hP hD hS hA (iR_C k ad σ x y) (fun _ => rfl) hcs hss (fun r _ H1 locs1 hp hP1 hD1 hS1 => by
    rw [iR_fs] at hP1 hD1
    subst hp
    exact kk H1 locs1 hP1 hD1 hS1)
end
def chW (L : List Int32) (i : Nat) : Nat := (L.getD i 0).toNatClampNeg
theorem chW_all : ∀ n : Fin 128, ((nI n.val &&& (255 : Int32)).toUInt32 % 65536).toInt32 = nI n.val := by decide +kernel
theorem chW_ok {L : List Int32} {bt : Nat → Int32} (hL : STRok L bt) {i : Nat} (hi : i < L.length) : bt i = nI (chW L i) ∧ L.getD i 0 = nI (chW L i) ∧ chW L i < 128 ∧ ((nI (chW L i) &&& (255 : Int32)).toUInt32 % 65536).toInt32 = nI (chW L i) := by
  obtain ⟨h1, n, hn, h2⟩ := hL i hi
  have e : chW L i = n := by unfold chW; rw [h2, nI_clamp (by omega)]
  rw [e]
  exact ⟨h1.trans h2, h2, hn, chW_all ⟨n, hn⟩⟩
theorem LEN_w {l : Launch} {D : va_G} {k : tyK} (st va N : Nat) (bt : Nat → Int32) : FCi l yJ0_length_8abf5 wsJ0_length_8abf5 rm_J0_length_w D k [.ref st] (sW k st va N bt) (fun r (_ : Unit) => r = nI N) (fun _ => sW k st va N bt) := by
  have e : F_J0_length_w N bt = nI N := Int32.shiftRight_zero
  rw [← e]
  exact c_J0_length_w st va N bt
theorem CHR_w {l : Launch} {D : va_G} {k : tyK} (st va : Nat) {L : List Int32} {bt : Nat → Int32} (hL : STRok L bt) {i : Nat} (hi : i < L.length) (hlen : L.length ≤ 60) : FCi l yJ0_charAt_5068e wsJ0_charAt_5068e rm_J0_charAt_w D k [.ref st, .int (nI i)] (sW k st va L.length bt) (fun r (_ : Unit) => r = nI (chW L i)) (fun _ => sW k st va L.length bt) := by
  obtain ⟨e1, e2, e3, e4⟩ := chW_ok hL hi
  have e : F_J0_charAt_w bt (nI i) = nI (chW L i) := by
    unfold F_J0_charAt_w F_J1_charAt_w
    rw [nI_clamp (by omega), e1]
    exact e4
  rw [← e]
  exact c_J0_charAt_w st va L.length bt (nI i) (nI_pos (by omega)) (nI_lt hi (by omega)) (by omega)
theorem LC_feedW {l : Launch} {D : va_G} {k : tyK} (hlst : l.stackTraces = false) (ad : Nat → Nat) (a : Abs) (h0 : a.2.2.2.2.2.2.1 = []) {L : List Int32} {bt : Nat → Int32} (hlen : L.length ≤ 60) (hL : STRok L bt) {i : Nat} (hi : i < L.length) : LCi l yL_feed wsL_feed rm_L_feed D k ad [.int (nI (chW L i))] (withT a (L.take i)) (fun r a' => r = nI (i + 1) ∧ a' = withT a (L.take (i + 1))) := by
  obtain ⟨e0, e1, e2, e3⟩ := chW_ok hL hi
  have h := LC_feed (D := D) (k := k) hlst ad (withT a (L.take i)) (chW L i) (by omega)
  have e : A_feed (withT a (L.take i)) (nI (chW L i)) = (nI (i + 1), withT a (L.take (i + 1))) := by
    have hl : (L.take i).length = i := by rw [List.length_take]; omega
    have hs : L.take (i + 1) = L.take i ++ [nI (chW L i)] := by
      rw [List.take_add_one, ← e1, List.getD_eq_getElem?_getD, List.getElem?_eq_getElem hi]
      rfl
    show (if (L.take i).length < 60 then _ else _) = _
    rw [if_pos (by omega)]
    show (nI ((L.take i).length + 1), _) = _
    rw [hl, hs]
    rfl
  rw [e] at h
  exact h
abbrev rm_L_readsw : Room := { frames := 10, cells := 61, slots := 366, locals := 232 }
set_option maxHeartbeats 4000000 in
theorem lpW_2 {p : Program} {l : Launch} {e : Env} {s : State} {m : MethodId} {args : Array Value} {below : List Frame} {meth : Method} {c : Code} {D : va_G} {k : tyK} {A : Nat → Prop} {Q : State → Prop} (hx : p.tables.exec = Jvm.exec) (hb : c.code = cL_reads) (hml : c.maxLocals = 3) (hts : ∀ w ∈ wsL_reads, w.before args s = true) (hown : s.vm.findClass RL = some m.cls) (hA : ∀ q : Nat, s.heap.size ≤ q → A q) (hE : GE D k A s) (hlst : l.stackTraces = false) (ad : Nat → Nat) (a : Abs) (h0 : a.2.2.2.2.2.2.1 = []) (st va : Nat) {L : List Int32} {bt : Nat → Int32} (hlen : L.length ≤ 60) (hL : STRok L bt) (cK sK : Nat) (hcK : cK ≤ 61) (hsK : sK ≤ 366) (kk : ∀ (σ : TSt) (H : Heap) (locs : List Loc) (ls : Array Slot), Rep σ (withT a (L.take L.length)) → va_P D vwCl (WT k ad σ ++ (sW k st va L.length bt)) H → va_D A (WT k ad σ ++ (sW k st va L.length bt)) → va_S A s.heap H locs → lv_has ls 3 [(0, .ref (ad 0)), (1, .ref st), (2, .int (nI L.length))] → W p l e rm_L_readsw s m args below meth c H locs cK sK Q (F0 m 35 ls [])) :
    ∀ (d i : Nat), i + d = L.length → ∀ (c0 s0 : Nat), c0 + d * 1 + 0 ≤ cK → s0 + d * 6 + 0 ≤ sK → ∀ (σ : TSt) (H : Heap) (locs : List Loc) (ls : Array Slot), Rep σ (withT a (L.take i)) → va_P D vwCl (WT k ad σ ++ (sW k st va L.length bt)) H → va_D A (WT k ad σ ++ (sW k st va L.length bt)) → va_S A s.heap H locs → lv_has ls 3 [(0, .ref (ad 0)), (1, .ref st), (2, .int (nI i))] → W p l e rm_L_readsw s m args below meth c H locs c0 s0 Q (F0 m 2 ls []) := by
  intro d
  induction d with
  | zero =>
    intro i hi c0 s0 hc hs σ H locs ls hR hP hD hS hl
    obtain rfl : i = L.length := by omega
    rw [Nat.zero_mul, Nat.add_zero] at hc hs
    refine lv_iload_n hx hb dL_reads_2 rfl (lv_at hl 2 rfl) ?_
    refine lv_aload_n hx hb dL_reads_3 rfl (lv_at hl 1 rfl) ?_
    refine lc_w (v := (nI L.length)) (cells' := c0 + 0) (slots' := s0 + 0) (fc_runV (n := 0) (As := []) (rest := [.int (nI L.length)]) (isC := [35, 36]) (maxL := 1) ⟨hx, hb, hml, hown, hts⟩ ((LEN_w st va L.length bt) H.size) gL_reads_J0_length_8abf5 rfl (by decide +kernel) rfl ⟨Nat.le_of_ble_eq_true rfl, Nat.le_of_ble_eq_true rfl⟩ ⟨by show c0 + 0 + 0 ≤ 61; omega, by show s0 + 0 + 0 ≤ 366; omega⟩ hE hP hD hS hA (iR_C _ _ _ _ _) (by decide) (va_recv hE.1 hP (ci := 0) (q0 := 35) rfl (iR_35 _ _ _ _ _)) hl rfl (Nat.le_of_ble_eq_true rfl) dL_reads_4) hP hD hS hA (by show c0 + 0 + 0 = c0 + 0; omega) (by show s0 + 0 + 0 = s0 + 0; omega) (fun H locs hP hD hS => ?_)
    refine lv_icmp_ge (tgt := 35) hx hb dL_reads_7 (by decide) (fun _ => ?_) (fun h => absurd (nI_le (Nat.le_refl L.length) (by omega)) h)
    exact W.widen (by omega) (by omega) (kk σ H locs ls hR hP hD hS (lv_sub hl [0, 1, 2] rfl))
  | succ d ih =>
    intro i hi c0 s0 hc hs σ H locs ls hR hP hD hS hl
    rw [Nat.succ_mul] at hc hs
    have hi2 : i < L.length := by omega
    refine lv_iload_n hx hb dL_reads_2 rfl (lv_at hl 2 rfl) ?_
    refine lv_aload_n hx hb dL_reads_3 rfl (lv_at hl 1 rfl) ?_
    refine lc_w (v := (nI L.length)) (cells' := c0 + 0) (slots' := s0 + 0) (fc_runV (n := 0) (As := []) (rest := [.int (nI i)]) (isC := [35, 36]) (maxL := 1) ⟨hx, hb, hml, hown, hts⟩ ((LEN_w st va L.length bt) H.size) gL_reads_J0_length_8abf5 rfl (by decide +kernel) rfl ⟨Nat.le_of_ble_eq_true rfl, Nat.le_of_ble_eq_true rfl⟩ ⟨by show c0 + 0 + 0 ≤ 61; omega, by show s0 + 0 + 0 ≤ 366; omega⟩ hE hP hD hS hA (iR_C _ _ _ _ _) (by decide) (va_recv hE.1 hP (ci := 0) (q0 := 35) rfl (iR_35 _ _ _ _ _)) hl rfl (Nat.le_of_ble_eq_true rfl) dL_reads_4) hP hD hS hA (by show c0 + 0 + 0 = c0 + 0; omega) (by show s0 + 0 + 0 = s0 + 0; omega) (fun H locs hP hD hS => ?_)
    refine lv_icmp_ge (tgt := 35) hx hb dL_reads_7 (by decide) (fun h => absurd h (nI_ge (a := i) (b := L.length) (by omega) (by omega))) (fun _ => ?_)
    refine lv_aload_n hx hb dL_reads_10 rfl (lv_at hl 0 rfl) ?_
    refine lv_aload_n hx hb dL_reads_11 rfl (lv_at hl 1 rfl) ?_
    refine lv_iload_n hx hb dL_reads_12 rfl (lv_at hl 2 rfl) ?_
    refine lc_w (v := (nI (chW L i))) (cells' := c0 + 0) (slots' := s0 + 0) (fc_runV (n := 1) (As := [.int (nI i)]) (rest := [.ref (ad 0)]) (isC := [35, 36]) (maxL := 2) ⟨hx, hb, hml, hown, hts⟩ ((CHR_w st va hL hi2 hlen) H.size) gL_reads_J0_charAt_5068e rfl (by decide +kernel) rfl ⟨Nat.le_of_ble_eq_true rfl, Nat.le_of_ble_eq_true rfl⟩ ⟨by show c0 + 0 + 0 ≤ 61; omega, by show s0 + 0 + 0 ≤ 366; omega⟩ hE hP hD hS hA (iR_C _ _ _ _ _) (by decide) (va_recv hE.1 hP (ci := 0) (q0 := 35) rfl (iR_35 _ _ _ _ _)) hl rfl (Nat.le_of_ble_eq_true rfl) dL_reads_13) hP hD hS hA (by show c0 + 0 + 0 = c0 + 0; omega) (by show s0 + 0 + 0 = s0 + 0; omega) (fun H locs hP hD hS => ?_)
    refine lc_k (v := (nI (i + 1))) (a1 := (withT a (L.take (i + 1)))) (cells' := c0 + 1) (slots' := s0 + 6) (fc_runSW (n := 2) (As := [.ref (ad 0), .int (nI (chW L i))]) (rest := []) (isC := iL) (maxL := 3) ⟨hx, hb, hml, hown, hts⟩ (LC_feedW hlst ad a h0 hlen hL hi2 σ hR H.size) gL_reads_L_feed rfl (by decide +kernel) rfl ⟨Nat.le_of_ble_eq_true rfl, Nat.le_of_ble_eq_true rfl⟩ ⟨by show c0 + 0 + 1 ≤ 61; omega, by show s0 + 0 + 6 ≤ 366; omega⟩ hE hP hD hS hA (iL_C k ad σ (sW k st va L.length bt)) iL_nd hl rfl (Nat.le_of_ble_eq_true rfl) dL_reads_16) hP hD hS hA (by show c0 + 0 + 1 = c0 + 1; omega) (by show s0 + 0 + 6 = s0 + 6; omega) (fun σ H locs hR hP hD hS => ?_)
    refine lv_iload_n hx hb dL_reads_19 rfl (lv_at hl 2 rfl) ?_
    refine lv_iconst (v := 1) hx hb dL_reads_20 (by decide) ?_
    refine lv_iadd hx hb dL_reads_21 ?_
    refine lv_icmp_eq (tgt := 29) hx hb dL_reads_22 (by decide) (fun _ => ?_) (fun h => absurd (nI_1 i).symm h)
    refine lv_iinc (v := (nI (i + 1))) (lv' := [(2, .int (nI (i + 1))), (0, .ref (ad 0)), (1, .ref st)]) hx hb dL_reads_29 hl (k := 2) rfl (nI_add _ 1) (by decide) rfl (fun ls hl => ?_)
    refine lv_goto (tgt := 2) hx hb dL_reads_32 (by decide) ?_
    exact ih (i + 1) (by omega) (c0 + 1) (s0 + 6) (by omega) (by omega) σ H locs ls hR hP hD hS (lv_sub hl [1, 2, 0] rfl)
set_option maxHeartbeats 4000000 in
theorem LC_readsW {l : Launch} {D : va_G} {k : tyK} (hlst : l.stackTraces = false) (ad : Nat → Nat) (a : Abs) (h0 : a.2.2.2.2.2.2.1 = []) (st va : Nat) {L : List Int32} {bt : Nat → Int32} (hlen : L.length ≤ 60) (hL : STRok L bt) {v : Int32} {a1 : Abs} (hRead : LCi l yL_read wsL_read rm_L_read D k ad [] (withT a L) (fun r a' => r = v ∧ a' = a1)) : ∀ σ, Rep σ a → FCi l yL_reads wsL_reads rm_L_readsw D k [.ref (ad 0), .ref st] (WT k ad σ ++ (sW k st va L.length bt)) (fun r (u : TSt × Abs) => (r = v ∧ u.2 = a1) ∧ Rep u.1 u.2) (fun u => WT k ad u.1 ++ (sW k st va L.length bt)) := by
  intro σ hR
  refine fc_start (cc := cL_reads) (maxL := 3) (ret := (some .int)) (own := RL) (Qc := fun A => va_Qi (fun r (u : TSt × Abs) => (r = v ∧ u.2 = a1) ∧ Rep u.1 u.2) (Bt D (fun u => WT k ad u.1 ++ (sW k st va L.length bt)) A) A) (by decide) rfl rfl (Nat.le_of_ble_eq_true rfl) ?_
  intro p e s m below meth c A H hx hb hml hr hts hown hlk hname hA hP hE hD hS ls hl
  have hl : lv_has ls 3 [(0, .ref (ad 0)), (1, .ref st)] := hl
  obtain ⟨locs, hlocs⟩ : ∃ z : List Loc, z = [] := ⟨_, rfl⟩
  rw [← hlocs] at hS ⊢
  refine lv_iconst (v := 0) hx hb dL_reads_0 (by decide) ?_
  refine lv_istore_n (lv' := [(2, .int (0 : Int32)), (0, .ref (ad 0)), (1, .ref st)]) hx hb dL_reads_1 rfl hl (by decide) rfl (fun ls hl => ?_)
  refine lpW_2 hx hb hml hts hown hA hE hlst ad a h0 st va hlen hL 60 360 (Nat.le_of_ble_eq_true rfl) (Nat.le_of_ble_eq_true rfl) (fun σ H locs ls hR hP hD hS hl => ?_) L.length 0 (Nat.zero_add _) 0 0 (by omega) (by omega) σ H locs ls (by rw [List.take_zero]; exact withT_nil h0 hR) hP hD hS (lv_sub hl [1, 2, 0] rfl)
  rw [List.take_length] at hR
  refine lv_aload_n hx hb dL_reads_35 rfl (lv_at hl 0 rfl) ?_
  refine lc_k (v := v) (a1 := a1) (cells' := 61) (slots' := 366) (fc_runSW (n := 1) (As := [.ref (ad 0)]) (rest := []) (isC := iL) (maxL := 2) ⟨hx, hb, hml, hown, hts⟩ (hRead σ hR H.size) gL_reads_L_read rfl (by decide +kernel) rfl ⟨Nat.le_of_ble_eq_true rfl, Nat.le_of_ble_eq_true rfl⟩ ⟨Nat.le_of_ble_eq_true rfl, Nat.le_of_ble_eq_true rfl⟩ hE hP hD hS hA (iL_C k ad σ (sW k st va L.length bt)) iL_nd hl rfl (Nat.le_of_ble_eq_true rfl) dL_reads_36) hP hD hS hA rfl rfl (fun σ H locs hR hP hD hS => ?_)
  exact fc_iret hx hb hr rfl hlk hS (σ, a1) ⟨⟨rfl, rfl⟩, hR⟩ hP hD (by decide) (by decide) dL_reads_39
end TSreadsW
