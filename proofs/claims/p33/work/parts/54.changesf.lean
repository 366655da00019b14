/-! FACTS OF CHANGES: each change either leaves the books as they are (an answer below 0) or changes them and keeps them (an answer from 0 on). -/
section TSchg
/-- what a change leaves: below 0 the books, history and snapshot as they were; else books in order, the old ones kept -/
def CHD (a : Abs) (x : Int32 × Abs) : Prop := GD x.2 ∧ ((x.1 < 0 ∧ x.2.1 = a.1 ∧ x.2.2.1 = a.2.1 ∧ x.2.2.2.1 = a.2.2.1) ∨ (¬ x.1 < 0 ∧ x.2.2.1 = push a.1 a.2.1 ∧ x.2.2.2.1 = a.2.2.1))
theorem CHD_no {a : Abs} (h : GD a) {X : Option String} {E : String} {jr jd v : Int32} {x : Int32 × (Nat → Int32)} {tab : List (String × Int32)} (hX : X = some E) (hv : xc (some E) 0 tab = v) (hn : v < 0) : CHD a (AMx a X jr jd x tab) := by
  rw [AMx_no hX hv]
  exact ⟨GD_ref (jr := jr) (jd := jd) h, Or.inl ⟨hn, rfl, rfl, rfl⟩⟩
theorem CHD_ok {a : Abs} (h : GD a) {X : Option String} {jr jd : Int32} {x : Int32 × (Nat → Int32)} {tab : List (String × Int32)} (hX : X = none) (hB : BK x.2) {n : Nat} (hx : x.1 = nI n) (hn : n < 1000) : CHD a (AMx a X jr jd x tab) := by
  rw [AMx_ok hX]
  refine ⟨GD_chg (jr := jr) (jd := jd) h hB, Or.inr ⟨?_, rfl, rfl⟩⟩
  show ¬ x.1 < 0
  rw [hx]
  exact nI_pos (by omega)
theorem CHD_tour {a : Abs} (h : GD a) {q : Nat} (hq : q < 100) : CHD a (A_tour a (nI q)) := by
  obtain ⟨n, hn, h1, -⟩ := h.1.1.1
  unfold A_tour
  by_cases q5 : q < 5
  · by_cases n6 : n < 6
    · rw [plan_ok h1 n6 q5]
      obtain ⟨e1, e2, -⟩ := plan_eff h.1.1 h1 n6 (nI q)
      exact CHD_ok h allow_0 e2 e1 (by omega)
    · have e : F_X2_planning a.2.2.2.1 a.2.2.2.2.1 a.1 (nI q) = (1, 1, 6) := by
        unfold F_X2_planning
        rw [show F_X6_isWithin (nI q) 0 4 = 1 from within_1 (lo := 0) (hi := 4) (by omega) (by omega) (by omega), if_neg (by decide), gN_1, h1, if_pos (show (6 : Int32) ≤ nI n from nI_le (a := 6) (by omega) (by omega))]
        rfl
      rw [e]
      exact CHD_no h (allow_pos (n := 1) (by omega) (by omega)) (xc_at rfl _) (by decide)
  · have e : F_X2_planning a.2.2.2.1 a.2.2.2.2.1 a.1 (nI q) = (-2, a.2.2.2.1, a.2.2.2.2.1) := by
      unfold F_X2_planning
      rw [show F_X6_isWithin (nI q) 0 4 = 0 from within_hi (lo := 0) (hi := 4) (by omega) (by omega) (by omega), if_pos rfl]
    rw [e]
    exact CHD_no h allow_m2 (xc_at rfl _) (by decide)
theorem CHD_pass {a : Abs} (h : GD a) {q : Nat} (hq : q < 100) : CHD a (A_pass a (nI q)) := by
  unfold A_pass F_X2_passing
  by_cases h1 : 1 ≤ q
  · by_cases h2 : q ≤ 40
    · rw [show F_X6_isWithin (nI q) 1 40 = 1 from within_1 (lo := 1) (hi := 40) h1 h2 (by omega), if_neg (by decide)]
      obtain ⟨⟨e, e1, e2⟩, e3, -⟩ := pass_eff (h := q) (by omega) h.1.1
      exact CHD_ok h allow_0 e3 e2 (by omega)
    · rw [show F_X6_isWithin (nI q) 1 40 = 0 from within_hi (lo := 1) (hi := 40) (by omega) (by omega) (by omega), if_pos rfl]
      exact CHD_no h allow_m2 (xc_at rfl _) (by decide)
  · rw [show F_X6_isWithin (nI q) 1 40 = 0 from within_lo (lo := 1) (hi := 40) (by omega) (by omega), if_pos rfl]
    exact CHD_no h allow_m2 (xc_at rfl _) (by decide)
theorem CHD_dear {a : Abs} (h : GD a) {w d : Nat} (hw : w < 100) (hd : d < 100) : CHD a (A_dear a (nI w) (nI d)) := by
  unfold A_dear
  by_cases w5 : w < 5
  · have e : F_X6_needBelow (nI w) 5 = none := below_ok (b := 5) w5 (by omega)
    rw [if_pos e]
    by_cases d5 : 1 ≤ d ∧ d ≤ 5
    · obtain ⟨e1, e2⟩ := dear_eff h.1.1 w5 d5.1 d5.2
      obtain ⟨-, d', g1, g2, g3⟩ := h.1.1.2.2.2.1 w w5
      refine CHD_ok h (range_ok (lo := 1) (hi := 5) d5.1 d5.2 (by omega)) (n := d') (by rw [e1]; exact e2) ?_ (by omega)
      show F_X0_get a.1 (F_X6_ofTown (nI w) 1) = nI d'
      rw [iW_1, get_nI (by omega), g3]
    · have e2 : F_X6_needRange (nI d) 1 5 = some "java/lang/IllegalArgumentException" := by
        have z : F_X6_isWithin (nI d) 1 5 = 0 := by
          by_cases d1 : d < 1
          · exact within_lo (lo := 1) (hi := 5) d1 (by omega)
          · exact within_hi (lo := 1) (hi := 5) (by omega) (by omega) (by omega)
        unfold F_X6_needRange
        rw [z, if_pos rfl]
      exact CHD_no h e2 (xc_at rfl _) (by decide)
  · have e : F_X6_needBelow (nI w) 5 = some "java/lang/IndexOutOfBoundsException" := by
      unfold F_X6_needBelow
      rw [show F_X6_isBelow (nI w) 5 = 0 from below_0 (b := 5) (by omega) (by omega), if_pos rfl]
    rw [if_neg (by rw [e]; exact fun z => nomatch z)]
    exact CHD_no h e (xc_at rfl _) (by decide)
theorem CHD_shut {a : Abs} (h : GD a) {w : Nat} (hw : w < 100) {is : Int32} (hs : is = 0 ∨ is = 1) : CHD a (A_shut a (nI w) is) := by
  unfold A_shut
  by_cases w5 : w < 5
  · obtain ⟨⟨c, c1, c2⟩, b2, -⟩ := shut_eff h.1.1 w5 is
    have hk : F_X6_isBelow (nI w) 5 = 1 := below_1 (b := 5) w5 (by omega)
    have key : F_X2_shutting a.2.2.2.1 a.2.2.2.2.1 a.1 (nI w) is = (0, a.2.2.2.1, a.2.2.2.2.1) ∨ ∃ x, F_X2_shutting a.2.2.2.1 a.2.2.2.2.1 a.1 (nI w) is = (4, 4, x) := by
      unfold F_X2_shutting
      rw [hk, if_neg (by decide)]
      by_cases o : F_X0_get a.1 (F_X6_ofTown (nI w) 0) = 1
      · rw [if_pos o]
        by_cases s1 : is = 1
        · rw [if_pos s1]; exact Or.inl rfl
        · rw [if_neg s1]; exact Or.inr ⟨_, rfl⟩
      · rw [if_neg o]
        by_cases s0 : is = 0
        · rw [if_pos s0]; exact Or.inl rfl
        · rw [if_neg s0]; exact Or.inr ⟨_, rfl⟩
    rcases key with e | ⟨x, e⟩
    · rw [e]; exact CHD_ok h allow_0 b2 c2 (by omega)
    · rw [e]; exact CHD_no h (allow_pos (n := 4) (by omega) (by omega)) (xc_at rfl _) (by decide)
  · have e : F_X2_shutting a.2.2.2.1 a.2.2.2.2.1 a.1 (nI w) is = (-1, a.2.2.2.1, a.2.2.2.2.1) := by
      unfold F_X2_shutting
      rw [show F_X6_isBelow (nI w) 5 = 0 from below_0 (b := 5) (by omega) (by omega), if_pos rfl]
    rw [e]
    exact CHD_no h allow_m1 (xc_at rfl _) (by decide)
end TSchg
