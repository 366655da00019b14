/-! FACTS OF THE CHANGES, over the object abstractly: what is answered, what stays in order. -/
section TSfacts
def GD (a : Abs) : Prop := Good a ∧ a.2.2.2.2.2.2.2.length ≤ 91 ∧ a.2.2.2.2.2.2.1 = []
theorem LCi.at {l : Launch} {y : MethodName} {ws : List Cond} {rm : Room} {D : va_G} {k : tyK} {ad : Nat → Nat} {args : List Value} {a a1 : Abs} {v : Int32} {x : Int32 × Abs} (h : LCi l y ws rm D k ad args a (fun r a' => r = x.1 ∧ a' = x.2)) (e : x = (v, a1)) : LCi l y ws rm D k ad args a (fun r a' => r = v ∧ a' = a1) := by
  rw [e] at h
  exact h
theorem FCi.to0 {l : Launch} {y : MethodName} {ws : List Cond} {rm : Room} {D : va_G} {k : tyK} {av : List Value} {W0 : va_W} {W1 : Unit → va_W} {v v' : Int32} (h : FCi l y ws rm D k av W0 (fun r (_ : Unit) => r = v) W1) (e : v = v') : FCi l y ws rm D k av W0 (fun r (_ : Unit) => r = v') W1 := e ▸ h
theorem within_1 {i lo hi : Nat} (h1 : lo ≤ i) (h2 : i ≤ hi) (hh : hi < 2 ^ 31) : F_X6_isWithin (nI i) (nI lo) (nI hi) = 1 := by
  unfold F_X6_isWithin
  rw [if_neg (nI_nlt h1 (by omega)), if_neg (nI_nlt h2 hh)]
theorem within_hi {i lo hi : Nat} (h1 : lo ≤ hi) (h2 : hi < i) (hh : i < 2 ^ 31) : F_X6_isWithin (nI i) (nI lo) (nI hi) = 0 := by
  unfold F_X6_isWithin
  rw [if_neg (nI_nlt (by omega) (by omega)), if_pos (nI_lt h2 hh)]
theorem within_lo {i lo hi : Nat} (h1 : i < lo) (hh : lo < 2 ^ 31) : F_X6_isWithin (nI i) (nI lo) (nI hi) = 0 := by
  unfold F_X6_isWithin
  rw [if_pos (nI_lt h1 hh)]
theorem below_1 {a b : Nat} (h : a < b) (hb : b < 2 ^ 31) : F_X6_isBelow (nI a) (nI b) = 1 := by
  unfold F_X6_isBelow
  rw [if_neg (nI_pos (by omega)), if_neg (nI_ge h hb)]
theorem below_0 {a b : Nat} (h : b ≤ a) (hb : a < 2 ^ 31) : F_X6_isBelow (nI a) (nI b) = 0 := by
  unfold F_X6_isBelow
  rw [if_neg (nI_pos (by omega)), if_pos (nI_le h hb)]
theorem below_m (b : Int32) : F_X6_isBelow (-1) b = 0 := by
  unfold F_X6_isBelow
  rw [if_pos (by decide)]
theorem AMx_ok {a : Abs} {X : Option String} {jr jd : Int32} {x : Int32 × (Nat → Int32)} {tab : List (String × Int32)} (hX : X = none) : AMx a X jr jd x tab = (x.1, x.2, push a.1 a.2.1, a.2.2.1, jr, jd, a.2.2.2.2.2) := by unfold AMx; rw [if_pos hX]
theorem AMx_no {a : Abs} {X : Option String} {E : String} {jr jd v : Int32} {x : Int32 × (Nat → Int32)} {tab : List (String × Int32)} (hX : X = some E) (hv : xc (some E) 0 tab = v) : AMx a X jr jd x tab = (v, a.1, a.2.1, a.2.2.1, jr, jd, a.2.2.2.2.2) := by
  unfold AMx
  rw [if_neg (by rw [hX]; exact fun z => nomatch z), hX, hv]
theorem allow_0 : F_X6_allow 0 = none := by decide
theorem allow_m1 : F_X6_allow (-1) = some "java/lang/IndexOutOfBoundsException" := by decide
theorem allow_m2 : F_X6_allow (-2) = some "java/lang/IllegalArgumentException" := by decide
theorem allow_pos {n : Nat} (h0 : 0 < n) (h : n < 100) : F_X6_allow (nI n) = some "java/lang/UnsupportedOperationException" := by
  have h1 : ¬ nI n = -1 := fun e => by have := congrArg Int32.toInt e; rw [nI_toInt (by omega), show (-1 : Int32).toInt = -1 from rfl] at this; omega
  have h2 : ¬ nI n = -2 := fun e => by have := congrArg Int32.toInt e; rw [nI_toInt (by omega), show (-2 : Int32).toInt = -2 from rfl] at this; omega
  unfold F_X6_allow
  rw [if_neg h1, if_neg h2, if_neg (nI_ne0 h0 (by omega))]
theorem push_BK {f : Nat → Int32} {H : List (Nat → Int32)} (hf : BK f) (h : ∀ b, b ∈ H → BK b) : ∀ b, b ∈ push f H → BK b := fun b hb => by
  rcases List.mem_cons.mp (List.mem_of_mem_take hb) with e | e
  · rw [e]; exact hf
  · exact h b e
/-- an object behind a change -/
def chg (a : Abs) (f : Nat → Int32) (jr jd : Int32) : Abs := (f, push a.1 a.2.1, a.2.2.1, jr, jd, a.2.2.2.2.2)
def ref (a : Abs) (jr jd : Int32) : Abs := (a.1, a.2.1, a.2.2.1, jr, jd, a.2.2.2.2.2)
theorem GD_chg {a : Abs} {f : Nat → Int32} {jr jd : Int32} (h : GD a) (hf : BK f) : GD (chg a f jr jd) := ⟨⟨hf, push_BK h.1.1 h.1.2.1, h.1.2.2⟩, h.2⟩
theorem GD_ref {a : Abs} {jr jd : Int32} (h : GD a) : GD (ref a jr jd) := ⟨⟨h.1.1, h.1.2.1, h.1.2.2⟩, h.2⟩
theorem plan_ok {jr jd : Int32} {f : Nat → Int32} {n q : Nat} (h1 : f 1 = nI n) (hn : n < 6) (hq : q < 5) : F_X2_planning jr jd f (nI q) = (0, jr, jd) := by
  unfold F_X2_planning
  rw [show F_X6_isWithin (nI q) 0 4 = 1 from within_1 (lo := 0) (hi := 4) (by omega) (by omega) (by omega), if_neg (by decide), gN_1, h1, if_neg (show ¬ (6 : Int32) ≤ nI n from nI_ge (b := 6) hn (by omega))]
theorem hasT {f : Nat → Int32} {n t : Nat} (h1 : f 1 = nI n) (ht : t < n) (hn : n ≤ 6) : F_X2_hasTour f (nI t) = 1 := by
  unfold F_X2_hasTour
  rw [gN_1, h1, below_1 ht (by omega)]
theorem hasT_no {f : Nat → Int32} {n t : Nat} (h1 : f 1 = nI n) (ht : n ≤ t) (hn : t < 100) : F_X2_hasTour f (nI t) = 0 := by
  unfold F_X2_hasTour
  rw [gN_1, h1, below_0 ht (by omega)]
theorem hasT_m {f : Nat → Int32} : F_X2_hasTour f (-1) = 0 := by
  unfold F_X2_hasTour
  exact below_m _
theorem A_tour_ok {a : Abs} {n q : Nat} (h1 : a.1 1 = nI n) (hn : n < 6) (hq : q < 5) : A_tour a (nI q) = ((F_X5_planTour a.1 (nI q)).1, chg a (F_X5_planTour a.1 (nI q)).2 a.2.2.2.1 a.2.2.2.2.1) := by
  unfold A_tour
  rw [plan_ok h1 hn hq]
  exact AMx_ok allow_0
/-- the seats of a kind -/
def most (k : Nat) : Nat := if k = 0 then 1 else if k = 1 then 4 else 12
theorem most_eq {k : Nat} (hk : k < 3) : F_X6_mostOf (nI k) = nI (most k) := by
  have h : k = 0 ∨ k = 1 ∨ k = 2 := by omega
  rcases h with rfl | rfl | rfl <;> decide
theorem find_none {f : Nat → Int32} {t : Nat} (ht : t < 6) (h2 : f (14 + t * 9 + 2) = nI 0) (k w d : Int32) : F_X6_findStep f (nI t) k w d = -1 := by
  unfold F_X6_findStep
  rw [gT_2 ht, h2, show ((nI 0).toInt - ((0 : Int32) : Int32).toInt).toNat + 1 = 1 by decide, FL_X6_findStep_3, gT_2 ht, h2, if_pos (by decide)]
/-- a step where its tour is planned and not full: given, or refused as the same again -/
theorem giv_pl {jr jd : Int32} {f : Nat → Int32} {n t s kd tw dy mn : Nat} (h1 : f 1 = nI n) (hn : n ≤ 6) (ht : t < n) (hc : f (14 + t * 9) = nI 0) (h2 : f (14 + t * 9 + 2) = nI s) (hs : s < 8) (hkd : kd < 3) (htw : tw < 5) (hdy : dy < 20) (hm1 : 1 ≤ mn) (hm2 : mn ≤ most kd) :
    F_X2_giving jr jd f (nI t) (nI kd) (nI tw) (nI dy) (nI mn) = (0, jr, jd) ∨ (0 < s ∧ ∃ x, F_X2_giving jr jd f (nI t) (nI kd) (nI tw) (nI dy) (nI mn) = (5, 5, x)) := by
  have hm12 : most kd ≤ 12 := by unfold most; split <;> (try split) <;> omega
  unfold F_X2_giving
  rw [hasT h1 ht hn, if_neg (by decide), show F_X6_isBelow (nI tw) 5 = 1 from below_1 (b := 5) htw (by omega), if_neg (by decide), show F_X6_isBelow (nI dy) 20 = 1 from below_1 (b := 20) hdy (by omega), if_neg (by decide),
    show F_X6_isBelow (nI kd) 3 = 1 from below_1 (b := 3) hkd (by omega), if_neg (by decide), most_eq hkd, show F_X6_isWithin (nI mn) 1 (nI (most kd)) = 1 from within_1 (lo := 1) hm1 hm2 (by omega), if_neg (by decide), gT_0 (by omega), hc, if_pos (show nI 0 = 0 by decide), gT_2 (by omega), h2]
  by_cases q : F_X6_findStep f (nI t) (nI kd) (nI tw) (nI dy) = -1
  · rw [if_pos q, if_neg (show ¬ (8 : Int32) ≤ nI s from nI_ge (b := 8) hs (by omega))]
    exact Or.inl rfl
  · rw [if_neg q]
    refine Or.inr ⟨?_, _, rfl⟩
    rcases Nat.eq_zero_or_pos s with z | z
    · subst z
      exact absurd (find_none (by omega) h2 _ _ _) q
    · exact z
theorem A_step_pl {a : Abs} {n t s kd tw dy mn : Nat} (h1 : a.1 1 = nI n) (hn : n ≤ 6) (ht : t < n) (hc : a.1 (14 + t * 9) = nI 0) (h2 : a.1 (14 + t * 9 + 2) = nI s) (hs : s < 8) (hkd : kd < 3) (htw : tw < 5) (hdy : dy < 20) (hm1 : 1 ≤ mn) (hm2 : mn ≤ most kd) :
    A_step a (nI t) (nI kd) (nI tw) (nI dy) (nI mn) = ((F_X5_giveStep a.1 (nI t) (nI kd) (nI tw) (nI dy) (nI mn)).1, chg a (F_X5_giveStep a.1 (nI t) (nI kd) (nI tw) (nI dy) (nI mn)).2 a.2.2.2.1 a.2.2.2.2.1) ∨ (0 < s ∧ ∃ x, A_step a (nI t) (nI kd) (nI tw) (nI dy) (nI mn) = (-1003, ref a 5 x)) := by
  rcases giv_pl (jr := a.2.2.2.1) (jd := a.2.2.2.2.1) h1 hn ht hc h2 hs hkd htw hdy hm1 hm2 with e | ⟨e0, x, e⟩
  · refine Or.inl ?_
    unfold A_step
    rw [e]
    exact AMx_ok allow_0
  · refine Or.inr ⟨e0, x, ?_⟩
    unfold A_step
    rw [e]
    exact AMx_no (allow_pos (n := 5) (by omega) (by omega)) (xc_at rfl _)
theorem A_start_pl {a : Abs} {n t s : Nat} (h1 : a.1 1 = nI n) (hn : n ≤ 6) (ht : t < n) (hc : a.1 (14 + t * 9) = nI 0) (h2 : a.1 (14 + t * 9 + 2) = nI s) (h0 : 0 < s) (hs : s ≤ 8) : A_start a (nI t) = ((F_X5_startTour a.1 (nI t)).1, chg a (F_X5_startTour a.1 (nI t)).2 a.2.2.2.1 a.2.2.2.2.1) := by
  unfold A_start F_X2_starting
  rw [hasT h1 ht hn, if_neg (by decide), gT_0 (by omega), hc, if_pos (show nI 0 = 0 by decide), gT_2 (by omega), h2, if_neg (nI_nle h0 (by omega))]
  exact AMx_ok allow_0
theorem A_pass_ok {a : Abs} {h : Nat} (h1 : 1 ≤ h) (h2 : h ≤ 40) : A_pass a (nI h) = ((F_X5_passHours a.1 (nI h)).1, chg a (F_X5_passHours a.1 (nI h)).2 a.2.2.2.1 a.2.2.2.2.1) := by
  unfold A_pass F_X2_passing
  rw [show F_X6_isWithin (nI h) 1 40 = 1 from within_1 (lo := 1) (hi := 40) h1 h2 (by omega), if_neg (by decide)]
  exact AMx_ok allow_0
end TSfacts
