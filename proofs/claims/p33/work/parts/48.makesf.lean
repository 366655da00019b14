/-! MAKES: what holds of the object while it plans four tours. -/
section TSmakesF
def T0 (f : Nat → Int32) : Prop := ¬ f 14 = nI 0 ∧ ¬ f 16 = nI 0
def MI (i : Nat) (a : Abs) : Prop := GD a ∧ a.1 1 = nI i ∧ a.1 324 = nI 1 ∧ (0 < i → T0 a.1) ∧ (3 < i → a.1 41 = nI 0)
def MJ (i j : Nat) (a : Abs) : Prop := GD a ∧ a.1 1 = nI (i + 1) ∧ a.1 324 = nI 1 ∧ (0 < i → T0 a.1) ∧ a.1 (14 + i * 9) = nI 0 ∧ ∃ s : Nat, a.1 (14 + i * 9 + 2) = nI s ∧ s ≤ j ∧ (0 < j → 0 < s)
theorem T0_of {f f' : Nat → Int32} (h : T0 f) (h1 : f' 14 = f 14) (h2 : f' 16 = f 16) : T0 f' := ⟨by rw [h1]; exact h.1, by rw [h2]; exact h.2⟩
theorem mk_tour {a : Abs} {i q : Nat} (h : MI i a) (hi : i < 4) (hq : q < 5) : ∃ a1, A_tour a (nI q) = (nI i, a1) ∧ MJ i 0 a1 := by
  obtain ⟨hG, h1, h2, h3, -⟩ := h
  obtain ⟨e1, e2, e3, e4⟩ := plan_eff hG.1.1 h1 (by omega) (nI q)
  obtain ⟨n0, hn0, hn1, hz⟩ := hG.1.1.1
  have hn : n0 = i := by rw [h1] at hn1; exact ((nI_eq (by omega) (by omega)).mp hn1).symm
  subst hn
  have hzi := hz n0 (Nat.le_refl _) (by omega)
  refine ⟨_, (A_tour_ok h1 (by omega) hq).trans (by rw [e1]), GD_chg hG e2, e3, ?_, fun h0 => ?_, ?_, 0, ?_, Nat.le_refl _, fun z => z⟩
  · exact (e4 324 (rel_W (w := 4) (by omega)).1 (by omega)).trans h2
  · exact T0_of (h3 h0) (e4 14 (rel_T (t := 0) (by omega)) (by omega)) (e4 16 (rel_T2 (t := 0) (by omega)) (by omega))
  · exact (e4 _ (rel_T (t := n0) (by omega)) (by omega)).trans hzi.1
  · exact (e4 _ (rel_T2 (t := n0) (by omega)) (by omega)).trans hzi.2
theorem mk_step {a : Abs} {i j kd tw dy mn : Nat} (h : MJ i j a) (hi : i < 4) (hj : j < 5) (hkd : kd < 3) (htw : tw < 5) (hdy : dy < 20) (hm1 : 1 ≤ mn) (hm2 : mn ≤ most kd) : (∃ m a1, m < 100 ∧ A_step a (nI i) (nI kd) (nI tw) (nI dy) (nI mn) = (nI m, a1) ∧ MJ i (j + 1) a1) ∨ (∃ x, A_step a (nI i) (nI kd) (nI tw) (nI dy) (nI mn) = (-1003, ref a 5 x) ∧ MJ i (j + 1) (ref a 5 x)) := by
  obtain ⟨hG, h1, h2, h3, h4, s, h5, h6, h7⟩ := h
  rcases A_step_pl h1 (by omega) (Nat.lt_succ_self i) h4 h5 (by omega) hkd htw hdy hm1 hm2 with e | ⟨e0, x, e⟩
  · obtain ⟨e1, e2, e3, e4⟩ := give_eff (mn := mn) hG.1.1 h1 (by omega) (Nat.lt_succ_self i) h4 h5 (by omega) hkd htw hdy (by unfold most at hm2; split at hm2 <;> (try split at hm2) <;> omega)
    refine Or.inl ⟨s + 1, _, by omega, e.trans (by rw [e1]), GD_chg hG e2, ?_, ?_, fun h0 => ?_, ?_, s + 1, e3, by omega, fun _ => by omega⟩
    · exact (e4 1 rel_1 (by omega)).trans h1
    · exact (e4 324 (rel_W (w := 4) (by omega)).1 (by omega)).trans h2
    · exact T0_of (h3 h0) (e4 14 (rel_T (t := 0) (by omega)) (by omega)) (e4 16 (rel_T2 (t := 0) (by omega)) (by omega))
    · exact (e4 _ (rel_T (t := i) (by omega)) (by omega)).trans h4
  · exact Or.inr ⟨x, e, GD_ref hG, h1, h2, h3, h4, s, h5, by omega, fun _ => e0⟩
theorem mk_start {a : Abs} {i j : Nat} (h : MJ i j a) (hi : i < 3) (hj0 : 0 < j) (hj : j ≤ 5) : ∃ m a1, 1 ≤ m ∧ m < 100 ∧ A_start a (nI i) = (nI m, a1) ∧ MI (i + 1) a1 := by
  obtain ⟨hG, h1, h2, h3, h4, s, h5, h6, h7⟩ := h
  have hs0 := h7 hj0
  obtain ⟨e2, e3, e4⟩ := start_eff hG.1.1 (t := i) (by omega) h4 (by rw [h5, nI_eq (by omega) (by omega)]; omega)
  obtain ⟨c, c1, c2, c3⟩ := tours_are (x := 1) (N := i + 1) (by omega) (show upd a.1 (14 + i * 9) 1 1 = nI (i + 1) by rw [upd_ne (by omega)]; exact h1)
  have c4 := c3 i (by omega) upd_eq
  refine ⟨c, _, c4, by omega, (A_start_pl h1 (by omega) (Nat.lt_succ_self i) h4 h5 hs0 (by omega)).trans (by rw [e4, c2]), GD_chg hG e2, ?_, ?_, fun _ => ?_, fun z => absurd z (by omega)⟩
  · show (F_X5_startTour a.1 (nI i)).2 1 = _
    rw [e3, upd_ne (by omega)]; exact h1
  · show (F_X5_startTour a.1 (nI i)).2 324 = _
    rw [e3, upd_ne (by omega)]; exact h2
  · show T0 (F_X5_startTour a.1 (nI i)).2
    rw [e3]
    rcases Nat.eq_zero_or_pos i with z | z
    · subst z
      refine ⟨by rw [show (14 + 0 * 9 : Nat) = 14 from rfl, upd_eq]; decide, ?_⟩
      rw [upd_ne (by omega), show a.1 16 = nI s from h5, nI_eq (by omega) (by omega)]; omega
    · exact T0_of (h3 z) (upd_ne (by omega)) (upd_ne (by omega))
theorem mk_last {a : Abs} {j : Nat} (h : MJ 3 j a) : MI 4 a := by
  obtain ⟨hG, h1, h2, h3, h4, -⟩ := h
  exact ⟨hG, h1, h2, fun _ => h3 (by omega), fun _ => h4⟩
theorem mk_pass {a : Abs} {h : Nat} (hM : MI 4 a) (h1 : 1 ≤ h) (h2 : h ≤ 40) : ∃ m a1, m < 1000 ∧ A_pass a (nI h) = (nI m, a1) ∧ MI 4 a1 := by
  obtain ⟨hG, g1, g2, g3, g4⟩ := hM
  obtain ⟨⟨e, e1, e2⟩, e3, k1, k2, k3, -⟩ := pass_eff (h := h) (by omega) hG.1.1
  refine ⟨e, _, by omega, (A_pass_ok h1 h2).trans (by rw [e2]), GD_chg hG e3, k1.trans g1, (k3 4 (by omega)).1.trans g2, fun _ => ⟨fun z => ?_, fun z => ?_⟩, fun _ => ?_⟩
  · exact (g3 (by omega)).1 ((k2 0 (by omega)).2.mpr z)
  · exact (g3 (by omega)).2 ((k2 0 (by omega)).1.symm.trans z)
  · exact (k2 3 (by omega)).2.mp (g4 (by omega))
theorem mk_ix (i j : Nat) : (4 : Int32) + (5 : Int32) * nI i + nI j = nI (4 + 5 * i + j) := by
  show nI 4 + nI 5 * nI i + nI j = _
  have e : nI 5 * nI i = nI (5 * i) := (Int32.ofNat_mul 5 i).symm
  rw [e, nI_add, nI_add]
end TSmakesF
