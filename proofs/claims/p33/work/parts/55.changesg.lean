/-! FACTS OF CHANGES: start, back, step. -/
section TSchg2
theorem CHD_start {a : Abs} (h : GD a) {t : Nat} (ht : t < 100) : CHD a (A_start a (nI t)) := by
  obtain ⟨n, hn, h1, -⟩ := h.1.1.1
  unfold A_start
  by_cases tn : t < n
  · have t6 : t < 6 := by omega
    obtain ⟨c', b', s', q1, q2, q3, q4, q5, -⟩ := h.1.1.2.1 t t6
    by_cases c0 : a.1 (14 + t * 9) = nI 0
    · by_cases s0 : 0 < s'
      · obtain ⟨e2, e3, e4⟩ := start_eff h.1.1 (t := t) t6 c0 (by rw [q3, nI_eq (by omega) (by omega)]; omega)
        obtain ⟨c, c1, c2, c3⟩ := tours_are (x := 1) (N := n) hn (show upd a.1 (14 + t * 9) 1 1 = nI n by rw [upd_ne (by omega)]; exact h1)
        have e : F_X2_starting a.2.2.2.1 a.2.2.2.2.1 a.1 (nI t) = (0, a.2.2.2.1, a.2.2.2.2.1) := by
          unfold F_X2_starting
          rw [hasT h1 tn hn, if_neg (by decide), gT_0 t6, c0, if_pos (show nI 0 = 0 by decide), gT_2 t6, q3, if_neg (nI_nle s0 (by omega))]
        rw [e]
        exact CHD_ok h allow_0 e2 (e4.trans c2) (by omega)
      · have z : s' = 0 := by omega
        have e : F_X2_starting a.2.2.2.1 a.2.2.2.2.1 a.1 (nI t) = (3, 3, nI t) := by
          unfold F_X2_starting
          rw [hasT h1 tn hn, if_neg (by decide), gT_0 t6, c0, if_pos (show nI 0 = 0 by decide), gT_2 t6, q3, z, if_pos (by decide)]
          rfl
        rw [e]
        exact CHD_no h (allow_pos (n := 3) (by omega) (by omega)) (xc_at rfl _) (by decide)
    · have e : F_X2_starting a.2.2.2.1 a.2.2.2.2.1 a.1 (nI t) = (2, 2, a.1 (14 + t * 9)) := by
        unfold F_X2_starting
        rw [hasT h1 tn hn, if_neg (by decide), gT_0 t6, if_neg (show ¬ a.1 (14 + t * 9) = 0 from c0)]
        rfl
      rw [e]
      exact CHD_no h (allow_pos (n := 2) (by omega) (by omega)) (xc_at rfl _) (by decide)
  · have e : F_X2_starting a.2.2.2.1 a.2.2.2.2.1 a.1 (nI t) = (-1, a.2.2.2.1, a.2.2.2.2.1) := by
      unfold F_X2_starting
      rw [hasT_no h1 (by omega) ht, if_pos rfl]
    rw [e]
    exact CHD_no h allow_m1 (xc_at rfl _) (by decide)
theorem CHD_back {a : Abs} (h : GD a) {t : Nat} (ht : t < 100) : CHD a (A_back a (nI t)) := by
  obtain ⟨n, hn, h1, -⟩ := h.1.1.1
  unfold A_back
  by_cases tn : t < n
  · have t6 : t < 6 := by omega
    by_cases c1 : a.1 (14 + t * 9) = nI 1
    · obtain ⟨⟨b, g1, g2⟩, g3⟩ := back_eff h.1.1 t6 c1
      have e : F_X2_callingBack a.2.2.2.1 a.2.2.2.2.1 a.1 (nI t) = (0, a.2.2.2.1, a.2.2.2.2.1) := by
        unfold F_X2_callingBack
        rw [hasT h1 tn hn, if_neg (by decide), gT_0 t6, if_pos (show a.1 (14 + t * 9) = 1 from c1)]
      rw [e]
      exact CHD_ok h allow_0 g3 g2 (by omega)
    · have e : F_X2_callingBack a.2.2.2.1 a.2.2.2.2.1 a.1 (nI t) = (2, 2, a.1 (14 + t * 9)) := by
        unfold F_X2_callingBack
        rw [hasT h1 tn hn, if_neg (by decide), gT_0 t6, if_neg (show ¬ a.1 (14 + t * 9) = 1 from c1)]
        rfl
      rw [e]
      exact CHD_no h (allow_pos (n := 2) (by omega) (by omega)) (xc_at rfl _) (by decide)
  · have e : F_X2_callingBack a.2.2.2.1 a.2.2.2.2.1 a.1 (nI t) = (-1, a.2.2.2.1, a.2.2.2.2.1) := by
      unfold F_X2_callingBack
      rw [hasT_no h1 (by omega) ht, if_pos rfl]
    rw [e]
    exact CHD_no h allow_m1 (xc_at rfl _) (by decide)
/-- a step's judgement: below 0, or refused for a reason, or all as it should be -/
theorem giv_any {jr jd : Int32} {f : Nat → Int32} {n t kd tw dy mn : Nat} (hB : BK f) (h1 : f 1 = nI n) (hn : n ≤ 6) (ht : t < 100) (hkd : kd < 100) (htw : tw < 100) (hdy : dy < 100) (hmn : mn < 100) :
    (∃ v, F_X2_giving jr jd f (nI t) (nI kd) (nI tw) (nI dy) (nI mn) = (v, jr, jd) ∧ (v = -1 ∨ v = -2)) ∨ (∃ (r : Nat) (x : Int32), 0 < r ∧ r < 100 ∧ F_X2_giving jr jd f (nI t) (nI kd) (nI tw) (nI dy) (nI mn) = (nI r, nI r, x)) ∨
    (F_X2_giving jr jd f (nI t) (nI kd) (nI tw) (nI dy) (nI mn) = (0, jr, jd) ∧ t < n ∧ f (14 + t * 9) = nI 0 ∧ (∃ s, f (14 + t * 9 + 2) = nI s ∧ s < 8) ∧ kd < 3 ∧ tw < 5 ∧ dy < 20 ∧ mn ≤ 12) := by
  unfold F_X2_giving
  by_cases tn : t < n
  · have t6 : t < 6 := by omega
    obtain ⟨c', b', s', q1, q2, q3, q4, q5, -⟩ := hB.2.1 t t6
    rw [hasT h1 tn hn, if_neg (by decide)]
    by_cases w5 : tw < 5
    · rw [show F_X6_isBelow (nI tw) 5 = 1 from below_1 (b := 5) w5 (by omega), if_neg (by decide)]
      by_cases d20 : dy < 20
      · rw [show F_X6_isBelow (nI dy) 20 = 1 from below_1 (b := 20) d20 (by omega), if_neg (by decide)]
        by_cases k3 : kd < 3
        · have hm12 : most kd ≤ 12 := by unfold most; split <;> (try split) <;> omega
          rw [show F_X6_isBelow (nI kd) 3 = 1 from below_1 (b := 3) k3 (by omega), if_neg (by decide), most_eq k3]
          by_cases m1 : 1 ≤ mn ∧ mn ≤ most kd
          · rw [show F_X6_isWithin (nI mn) 1 (nI (most kd)) = 1 from within_1 (lo := 1) m1.1 m1.2 (by omega), if_neg (by decide), gT_0 t6]
            by_cases c0 : f (14 + t * 9) = nI 0
            · rw [if_pos (show f (14 + t * 9) = 0 from c0)]
              by_cases q : F_X6_findStep f (nI t) (nI kd) (nI tw) (nI dy) = -1
              · rw [if_pos q, gT_2 t6, q3]
                by_cases s8 : 8 ≤ s'
                · rw [if_pos (show (8 : Int32) ≤ nI s' from nI_le (a := 8) s8 (by omega))]
                  exact Or.inr (Or.inl ⟨1, 8, by omega, by omega, rfl⟩)
                · rw [if_neg (show ¬ (8 : Int32) ≤ nI s' from nI_ge (b := 8) (by omega) (by omega))]
                  exact Or.inr (Or.inr ⟨rfl, tn, c0, ⟨s', rfl, by omega⟩, k3, w5, d20, by omega⟩)
              · rw [if_neg q]
                exact Or.inr (Or.inl ⟨5, _, by omega, by omega, rfl⟩)
            · rw [if_neg (show ¬ f (14 + t * 9) = 0 from c0)]
              exact Or.inr (Or.inl ⟨2, _, by omega, by omega, rfl⟩)
          · have z : F_X6_isWithin (nI mn) 1 (nI (most kd)) = 0 := by
              by_cases d1 : mn < 1
              · exact within_lo (lo := 1) d1 (by omega)
              · have hm1 : 1 ≤ most kd := by unfold most; split <;> (try split) <;> omega
                exact within_hi (lo := 1) hm1 (by omega) (by omega)
            rw [z, if_pos rfl]
            exact Or.inl ⟨-2, rfl, Or.inr rfl⟩
        · rw [show F_X6_isBelow (nI kd) 3 = 0 from below_0 (b := 3) (by omega) (by omega), if_pos rfl]
          exact Or.inl ⟨-2, rfl, Or.inr rfl⟩
      · rw [show F_X6_isBelow (nI dy) 20 = 0 from below_0 (b := 20) (by omega) (by omega), if_pos rfl]
        exact Or.inl ⟨-1, rfl, Or.inl rfl⟩
    · rw [show F_X6_isBelow (nI tw) 5 = 0 from below_0 (b := 5) (by omega) (by omega), if_pos rfl]
      exact Or.inl ⟨-1, rfl, Or.inl rfl⟩
  · rw [hasT_no h1 (by omega) ht, if_pos rfl]
    exact Or.inl ⟨-1, rfl, Or.inl rfl⟩
theorem CHD_step {a : Abs} (h : GD a) {t kd tw dy mn : Nat} (ht : t < 100) (hkd : kd < 100) (htw : tw < 100) (hdy : dy < 100) (hmn : mn < 100) : CHD a (A_step a (nI t) (nI kd) (nI tw) (nI dy) (nI mn)) := by
  obtain ⟨n, hn, h1, -⟩ := h.1.1.1
  unfold A_step
  rcases giv_any (jr := a.2.2.2.1) (jd := a.2.2.2.2.1) h.1.1 h1 hn ht hkd htw hdy hmn with ⟨v, e, hv⟩ | ⟨r, x, r0, r1, e⟩ | ⟨e, tn, c0, ⟨s, s1, s2⟩, k3, w5, d20, m12⟩
  · rw [e]
    rcases hv with rfl | rfl
    · exact CHD_no h allow_m1 (xc_at rfl _) (by decide)
    · exact CHD_no h allow_m2 (xc_at rfl _) (by decide)
  · rw [e]
    exact CHD_no h (allow_pos (n := r) r0 r1) (xc_at rfl _) (by decide)
  · rw [e]
    obtain ⟨e1, e2, -⟩ := give_eff (mn := mn) h.1.1 h1 hn tn c0 s1 s2 k3 w5 d20 m12
    exact CHD_ok h allow_0 e2 e1 (by omega)
end TSchg2
