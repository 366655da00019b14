/-! THE LAW'S ASKS: its answer is a function of the books alone. */ -/
section TSasks
def it {α : Type} (G : Nat → α → α) : Nat → Nat → α → α
  | 0, _, v => v
  | d + 1, i, v => it G d (i + 1) (G i v)
def NT (f : Nat → Int32) : Nat := (f 1).toNatClampNeg
def NZ (f : Nat → Int32) (t : Nat) : Nat := (f (14 + t * 9 + 2)).toNatClampNeg
def aN (f : Nat → Int32) (i : Nat) (v : Int64) : Int64 := (31 * v + (Q_number f 0 0 (nI i)).toInt64)
def aT (f : Nat → Int32) (t i : Nat) (v : Int64) : Int64 := (31 * v + (Q_tourOf f (nI t) (nI i)).toInt64)
def aS (f : Nat → Int32) (t z i : Nat) (v : Int64) : Int64 := (31 * v + (Q_stepOf f (nI t) (nI z) (nI i)).toInt64)
def aZ (f : Nat → Int32) (t z : Nat) (v : Int64) : Int64 := it (aS f t z) 5 0 v
def aC (L : List Int32) (i : Nat) (v : Int64) : Int64 := (31 * v + (Q_character L (nI i)).toInt64)
def aY (f : Nat → Int32) (t : Nat) (v : Int64) : Int64 := (31 * (31 * (31 * (31 * v + (Q_faultOf f (nI t)).toInt64) + (Q_endsIn f (nI t)).toInt64) + (Q_costs f (nI t)).toInt64) + (Q_ranked f (nI t)).toInt64)
def aU (f : Nat → Int32) (t : Nat) (v : Int64) : Int64 := it (aC (lineOf f (nI t))) (lineOf f (nI t)).length 0 (aY f t (it (aZ f t) (NZ f t) 0 (it (aT f t) 9 0 v)))
def aW (f : Nat → Int32) (w i : Nat) (v : Int64) : Int64 := (31 * v + (Q_townOf f (nI w) (nI i)).toInt64)
def aL (f : Nat → Int32) (w d i : Nat) (v : Int64) : Int64 := (31 * (31 * v + (Q_left f (nI i) (nI w) (nI d)).toInt64) + (Q_leftAgain f (nI i) (nI w) (nI d)).toInt64)
def aD (f : Nat → Int32) (w j : Nat) (v : Int64) : Int64 := it (aL f w (3 * j)) 3 0 v
def aV (f : Nat → Int32) (w : Nat) (v : Int64) : Int64 := it (aD f w) 7 0 (it (aW f w) 4 0 v)
def aH (f : Nat → Int32) (i : Nat) (v : Int64) : Int64 := (31 * v + (Q_cheapest f (nI i) 1 1).toInt64)
def ASK (f : Nat → Int32) : Int64 := (31 * it (aH f) 3 0 (it (aV f) 5 0 (it (aU f) (NT f) 0 (it (aN f) 16 0 (31 * bitsD (Q_meanSteps f) + (bitsF (Q_failedShare f)).toInt64)))) + (F_X6_coinsAgain 0 0 f).toInt64)
def withL (a : Abs) (L : List Int32) : Abs := (a.1, a.2.1, a.2.2.1, a.2.2.2.1, a.2.2.2.2.1, a.2.2.2.2.2.1, a.2.2.2.2.2.2.1, L)
theorem Rep.books {hs fk : Int32} {f f2 f3 f4 : Nat → Int32} {jr jd nx kp : Int32} {g : Nat → Nat → Int32} {ln tp wd fi tw dy mn vl : Int32} {sg : Nat → Int32} {ml : Int32} {txt : List Int32} {q cap : Nat} {yb : Nat → Int32} {a : Abs} (h : Rep (hs, fk, f, f2, f3, f4, jr, jd, nx, kp, g, ln, tp, wd, fi, tw, dy, mn, vl, sg, ml, txt, q, cap, yb) a) : f = a.1 := by
  obtain ⟨af, aH, aS, aj, ajd, ak, atx, al⟩ := a
  exact h.1.1
theorem BK_n {f : Nat → Int32} (hB : BK f) : f 1 = nI (NT f) ∧ NT f ≤ 6 := by
  obtain ⟨n, hn, h1, -⟩ := hB.1
  have e : NT f = n := by unfold NT; rw [h1, nI_clamp (by omega)]
  rw [e]; exact ⟨h1, hn⟩
theorem BK_z {f : Nat → Int32} (hB : BK f) {t : Nat} (ht : t < 6) : f (14 + t * 9 + 2) = nI (NZ f t) ∧ NZ f t ≤ 8 := by
  obtain ⟨c', b', s', q1, q2, q3, q4, q5, -⟩ := hB.2.1 t ht
  have e : NZ f t = s' := by unfold NZ; rw [q3, nI_clamp (by omega)]
  rw [e]; exact ⟨q3, q5⟩
theorem below_ok {a b : Nat} (h : a < b) (hb : b < 2 ^ 31) : F_X6_needBelow (nI a) (nI b) = none := by
  unfold F_X6_needBelow F_X6_isBelow
  rw [if_neg (nI_pos (by omega)), if_neg (nI_ge h hb)]
  rfl
theorem need_ok {f : Nat → Int32} (hB : BK f) {t : Nat} (ht : t < NT f) : F_X6_needTour 0 0 f (nI t) = none := by
  obtain ⟨h1, h6⟩ := BK_n hB
  unfold F_X6_needTour
  rw [gN_1, h1, below_ok ht (by omega), if_pos rfl]
theorem lnStep_len (ml : Int32) (f : Nat → Int32) (it bk : Int32) (t : List Int32) (j : Nat) : (lnStep ml f it bk t j).length ≤ t.length + 11 := by
  have h := len_X3_writeStep ml t f it (nI j)
  unfold lnStep
  split
  · rw [List.length_append]; show _ + 1 ≤ _; omega
  · omega
theorem lnLoop_len (ml : Int32) (f : Nat → Int32) (it bk : Int32) : ∀ (n j : Nat) (t : List Int32), (lnLoop ml f it bk n j t).length ≤ t.length + 11 * n
  | 0, j, t => by show t.length ≤ _; omega
  | n + 1, j, t => by
    show (lnLoop ml f it bk n (j + 1) (lnStep ml f it bk t j)).length ≤ _
    have h1 := lnLoop_len ml f it bk n (j + 1) (lnStep ml f it bk t j)
    have h2 := lnStep_len ml f it bk t j
    omega
theorem line_91 {f : Nat → Int32} (hB : BK f) {t : Nat} (ht : t < NT f) : (lineOf f (nI t)).length ≤ 91 := by
  obtain ⟨h1, h6⟩ := BK_n hB
  obtain ⟨z1, z8⟩ := BK_z hB (t := t) (by omega)
  have e : nSt f (nI t) = NZ f t := by unfold nSt NZ; rw [gT_2 (by omega)]
  unfold lineOf F_X3_write
  rw [e]
  refine Nat.le_trans (lnLoop_len _ _ _ _ _ _ _) ?_
  have h2 := @sbI_len (nI t)
  simp only [List.length_append, List.length_cons, List.length_nil]
  omega
theorem number_lo {f : Nat → Int32} (kp ln : Int32) {i : Nat} (hi : i < 16) : Q_number f kp ln (nI i) = Q_number f 0 0 (nI i) := by
  have h1 : ¬ nI i = (16 : Int32) := fun h => by have := (nI_eq (a := i) (b := 16) (by omega) (by decide)).mp h; omega
  have h2 : ¬ nI i = (17 : Int32) := fun h => by have := (nI_eq (a := i) (b := 17) (by omega) (by decide)).mp h; omega
  unfold Q_number F_X6_number
  simp only [if_neg h1, if_neg h2]
theorem range_ok {i lo hi : Nat} (h1 : lo ≤ i) (h2 : i ≤ hi) (hh : hi < 2 ^ 31) : F_X6_needRange (nI i) (nI lo) (nI hi) = none := by
  have a1 : ¬ nI i < nI lo := nI_nlt h1 (by omega)
  have a2 : ¬ nI hi < nI i := nI_nlt h2 hh
  unfold F_X6_needRange F_X6_isWithin
  rw [if_neg a1]
  by_cases q : nI i ≤ nI hi
  · simp [q, a2]
  · exact absurd (nI_le h2 hh) q
theorem Q_count {f : Nat → Int32} (kp ln : Int32) : Q_number f kp ln 1 = f 1 := by
  have h := range_ok (i := 1) (lo := 0) (hi := 17) (by omega) (by omega) (by omega)
  unfold Q_number F_X6_number
  rw [if_pos (show F_X6_needRange 1 0 17 = none from h)]
  exact gN_1
theorem Q_tour {f : Nat → Int32} (hB : BK f) {t : Nat} (ht : t < NT f) {w : Nat} (hw : w ≤ 8) : Q_tourOf f (nI t) (nI w) = f (14 + t * 9 + w) := by
  have h6 := (BK_n hB).2
  unfold Q_tourOf F_X6_tourOf
  rw [if_pos (need_ok hB ht), if_pos (show F_X6_needRange (nI w) 0 8 = none from range_ok (lo := 0) (hi := 8) (by omega) hw (by omega))]
  show F_X0_get f (F_X6_ofTour (nI t) (nI w)) = _
  rw [ofTour_nI, get_nI (by omega)]
section TSlck
variable {p : Program} {l : Launch} {e : Env} {R : Room} {s : State} {m : MethodId} {args : Array Value} {below : List Frame} {meth : Method} {c : Code} {H : Heap} {locs : List Loc} {cells slots : Nat} {Q : State → Prop} {D : va_G} {k : tyK} {A : Nat → Prop} {cc : ByteArray} {pc : Nat} {ls : Array Slot} {rest st0 : List Value} {a0 : Array Value} {mc ms : Nat} {wr : va_W} {ad : Nat → Nat} {σ : TSt}
theorem lc_k {v : Int32} {a1 : Abs} (hr : va_Run p l e R s m args below meth c H locs cells slots mc ms (F0 m pc ls st0) rest (va_Qi (fun r (u : TSt × Abs) => (r = v ∧ u.2 = a1) ∧ Rep u.1 u.2) (Bt D (fun u => WT k ad u.1) (va_A (WT k ad σ) H.size)) (va_A (WT k ad σ) H.size) a0) (va_A (WT k ad σ) H.size)) (hP : va_P D vwCl (WT k ad σ ++ wr) H) (hD : va_D A (WT k ad σ ++ wr)) (hS : va_S A s.heap H locs) (hA : ∀ q : Nat, s.heap.size ≤ q → A q) {cells' slots' : Nat} (hcs : cells + mc = cells') (hss : slots + ms = slots')
    (kk : ∀ (σ' : TSt) (H1 : Heap) (locs1 : List Loc), Rep σ' a1 → va_P D vwCl (WT k ad σ' ++ wr) H1 → va_D A (WT k ad σ' ++ wr) → va_S A s.heap H1 locs1 → W p l e R s m args below meth c H1 locs1 cells' slots' Q (F0 m (pc + 3) ls (.int v :: rest))) : W p l e R s m args below meth c H locs cells slots Q (F0 m pc ls st0) :=
  lc_ci (post := fun r a' => r = v ∧ a' = a1) hr hP hD hS hA hcs hss (fun r σ' a' H1 locs1 hp hR hP1 hD1 hS1 => by
    obtain ⟨rfl, rfl⟩ := hp
    exact kk σ' H1 locs1 hR hP1 hD1 hS1)
theorem lc_d {v : UInt64} (hr : va_Run p l e R s m args below meth c H locs cells slots mc ms (F0 m pc ls st0) rest (va_Qd (fun r (_ : Unit) => r = v) (Bt D (fun _ => WT k ad σ) (va_A (WT k ad σ) H.size)) (va_A (WT k ad σ) H.size) a0) (va_A (WT k ad σ) H.size)) (hP : va_P D vwCl (WT k ad σ ++ wr) H) (hD : va_D A (WT k ad σ ++ wr)) (hS : va_S A s.heap H locs) (hA : ∀ q : Nat, s.heap.size ≤ q → A q) {cells' slots' : Nat} (hcs : cells + mc = cells') (hss : slots + ms = slots')
    (kk : ∀ (H1 : Heap) (locs1 : List Loc), va_P D vwCl (WT k ad σ ++ wr) H1 → va_D A (WT k ad σ ++ wr) → va_S A s.heap H1 locs1 → W p l e R s m args below meth c H1 locs1 cells' slots' Q (F0 m (pc + 3) ls (.double v :: rest))) : W p l e R s m args below meth c H locs cells slots Q (F0 m pc ls st0) :=
  fc_cd (isC := iL) hr hP hD hS hA (iL_C k ad σ wr) (fun _ => WT_len k ad σ) hcs hss (fun r _ H1 locs1 hp hP1 hD1 hS1 => by
    rw [iL_fs] at hP1 hD1
    subst hp
    exact kk H1 locs1 hP1 hD1 hS1)
theorem lc_f {v : UInt32} (hr : va_Run p l e R s m args below meth c H locs cells slots mc ms (F0 m pc ls st0) rest (va_Qf (fun r (_ : Unit) => r = v) (Bt D (fun _ => WT k ad σ) (va_A (WT k ad σ) H.size)) (va_A (WT k ad σ) H.size) a0) (va_A (WT k ad σ) H.size)) (hP : va_P D vwCl (WT k ad σ ++ wr) H) (hD : va_D A (WT k ad σ ++ wr)) (hS : va_S A s.heap H locs) (hA : ∀ q : Nat, s.heap.size ≤ q → A q) {cells' slots' : Nat} (hcs : cells + mc = cells') (hss : slots + ms = slots')
    (kk : ∀ (H1 : Heap) (locs1 : List Loc), va_P D vwCl (WT k ad σ ++ wr) H1 → va_D A (WT k ad σ ++ wr) → va_S A s.heap H1 locs1 → W p l e R s m args below meth c H1 locs1 cells' slots' Q (F0 m (pc + 3) ls (.float v :: rest))) : W p l e R s m args below meth c H locs cells slots Q (F0 m pc ls st0) :=
  fc_cf (isC := iL) hr hP hD hS hA (iL_C k ad σ wr) (fun _ => WT_len k ad σ) hcs hss (fun r _ H1 locs1 hp hP1 hD1 hS1 => by
    rw [iL_fs] at hP1 hD1
    subst hp
    exact kk H1 locs1 hP1 hD1 hS1)
end TSlck
theorem LCi.to {l : Launch} {y : MethodName} {ws : List Cond} {rm : Room} {D : va_G} {k : tyK} {ad : Nat → Nat} {args : List Value} {a a1 : Abs} {v v' : Int32} (h : LCi l y ws rm D k ad args a (fun r a' => r = v ∧ a' = a1)) (e : v = v') : LCi l y ws rm D k ad args a (fun r a' => r = v' ∧ a' = a1) := e ▸ h
theorem LC_num {l : Launch} {D : va_G} {k : tyK} (hlst : l.stackTraces = false) (ad : Nat → Nat) (a : Abs) {i : Nat} (hi : i < 16) : LCi l yL_number wsL_number rm_L_number D k ad [.int (nI i)] a (fun r a' => r = Q_number a.1 0 0 (nI i) ∧ a' = a) := LCi.to (LC_number hlst ad a (nI i)) (number_lo _ _ hi)
theorem LC_count {l : Launch} {D : va_G} {k : tyK} (hlst : l.stackTraces = false) (ad : Nat → Nat) (a : Abs) (hB : BK a.1) : LCi l yL_number wsL_number rm_L_number D k ad [.int 1] a (fun r a' => r = nI (NT a.1) ∧ a' = a) := LCi.to (LC_number hlst ad a 1) ((Q_count _ _).trans (BK_n hB).1)
theorem LC_steps {l : Launch} {D : va_G} {k : tyK} (hlst : l.stackTraces = false) (ad : Nat → Nat) (a : Abs) (hB : BK a.1) {t : Nat} (ht : t < NT a.1) : LCi l yL_tourOf wsL_tourOf rm_L_tourOf D k ad [.int (nI t), .int 2] a (fun r a' => r = nI (NZ a.1 t) ∧ a' = a) := LCi.to (LC_tourOf hlst ad a (nI t) 2) ((Q_tour hB ht (w := 2) (by omega)).trans (BK_z hB (t := t) (by have := (BK_n hB).2; omega)).1)
theorem LC_charA {l : Launch} {D : va_G} {k : tyK} (hlst : l.stackTraces = false) (ad : Nat → Nat) (a : Abs) {L : List Int32} (hL : a.2.2.2.2.2.2.2 = L) (i : Int32) : LCi l yL_character wsL_character rm_L_character D k ad [.int i] a (fun r a' => r = Q_character L i ∧ a' = a) := LCi.to (LC_character hlst ad a i) (by rw [hL])
theorem A_line_in {a : Abs} (hB : BK a.1) {t : Nat} (ht : t < NT a.1) : A_line a (nI t) = (nI (lineOf a.1 (nI t)).length, withL a (lineOf a.1 (nI t))) := by
  unfold A_line
  rw [if_pos (need_ok hB ht)]
  rfl
theorem LC_lineIn {l : Launch} {D : va_G} {k : tyK} (hlst : l.stackTraces = false) (ad : Nat → Nat) (a : Abs) (hB : BK a.1) {t : Nat} (ht : t < NT a.1) : LCi l yL_line wsL_line rm_L_line D k ad [.int (nI t)] a (fun r a' => r = nI (lineOf a.1 (nI t)).length ∧ a' = withL a (lineOf a.1 (nI t))) := by
  have h := LC_line (D := D) (k := k) hlst ad a hB (nI t)
  rw [A_line_in hB ht] at h
  exact h

end TSasks
