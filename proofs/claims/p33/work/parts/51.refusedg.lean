/-! FACTS OF THE REFUSED: the rank out of reach, the hall that is too small. -/
section TSrefG
theorem before_0 {f : Nat → Int32} (t : Int32) : F_X5_comesBefore f t t = 0 := by
  unfold F_X5_comesBefore
  rw [if_pos rfl, if_pos rfl, if_pos (Int32.le_refl t)]
theorem rank22 {f : Nat → Int32} {x1 : Int32} {n p : Nat} (hp : p < n) (hn : n < 50) : ∀ (m j c : Nat), j ≤ n → n - j < m → c + (n - j) < 100 → ∃ c' : Nat, c' ≤ c + (n - j) ∧ (j ≤ p → c' + 1 ≤ c + (n - j)) ∧ (FL_X5_tourInPlace_22 m f x1 (nI n) (nI p) (nI c) (nI j)).1 = nI c'
  | 0, _, _, _, h, _ => absurd h (Nat.not_lt_zero _)
  | m + 1, j, c, hj, hm, hcn => by
    rw [FL_X5_tourInPlace_22]
    by_cases q : n ≤ j
    · rw [if_pos (nI_le q (by omega))]
      exact ⟨c, by omega, fun z => absurd z (by omega), rfl⟩
    · rw [if_neg (nI_ge (by omega) (by omega))]
      by_cases b : F_X5_comesBefore f (nI j) (nI p) = 0
      · rw [if_pos b, Int32.add_zero, nI_1]
        obtain ⟨c', g1, g2, g3⟩ := rank22 (f := f) (x1 := x1) hp hn m (j + 1) c (by omega) (by omega) (by omega)
        exact ⟨c', by omega, fun z => by omega, g3⟩
      · have hjp : j ≠ p := fun z => b (by rw [z]; exact before_0 _)
        rw [if_neg b, nI_1, nI_1]
        obtain ⟨c', g1, g2, g3⟩ := rank22 (f := f) (x1 := x1) hp hn m (j + 1) (c + 1) (by omega) (by omega) (by omega)
        exact ⟨c', by omega, fun z => by have := g2 (by omega); omega, g3⟩
theorem rank11 {f : Nat → Int32} {x1 : Int32} {n : Nat} (hn : n < 20) (hx : ∀ c : Nat, c + 1 ≤ n → ¬ nI c = x1) : ∀ (m p : Nat), p ≤ n → n - p < m → FL_X5_tourInPlace_11 m f x1 (nI n) (nI p) = -1
  | 0, _, _, h => absurd h (Nat.not_lt_zero _)
  | m + 1, p, hp, hm => by
    rw [FL_X5_tourInPlace_11]
    by_cases q : n ≤ p
    · rw [if_pos (nI_le q (by omega))]
    · rw [if_neg (nI_ge (by omega) (by omega)), show ((nI n).toInt - ((0 : Int32) : Int32).toInt).toNat + 1 = n + 1 by rw [nI_toInt (by omega), show (0 : Int32).toInt = 0 from rfl]; omega]
      obtain ⟨c', g1, g2, g3⟩ := rank22 (f := f) (x1 := x1) (n := n) (p := p) (by omega) (by omega) (n + 1) 0 0 (Nat.zero_le _) (by omega) (by omega)
      rw [if_neg (by rw [show (FL_X5_tourInPlace_22 (n + 1) f x1 (nI n) (nI p) 0 0).1 = nI c' from g3]; exact hx c' (by have := g2 (Nat.zero_le _); omega)), nI_1]
      exact rank11 hn hx m (p + 1) (by omega) (by omega)
theorem rank_no {f : Nat → Int32} {x1 : Int32} (h1 : f 1 = nI 4) (hx : ∀ c : Nat, c + 1 ≤ 4 → ¬ nI c = x1) : Q_ranked f x1 = -1001 := by
  have e : F_X5_tourInPlace f x1 = -1 := by
    unfold F_X5_tourInPlace
    rw [gN_1, h1]
    exact rank11 (n := 4) (by omega) hx _ 0 (by omega) (by decide)
  unfold Q_ranked F_X6_ranked
  rw [e, if_pos rfl]
  exact xc_at rfl _
theorem rq_ranked_hi {f : Nat → Int32} (h1 : f 1 = nI 4) : Q_ranked f 4 = -1001 := rank_no h1 (fun c hc => by rw [show (4 : Int32) = nI 4 from rfl, nI_eq (by omega) (by omega)]; omega)
theorem rq_ranked_m {f : Nat → Int32} (h1 : f 1 = nI 4) : Q_ranked f (-1) = -1001 := rank_no h1 (fun c hc h => by
  have := congrArg Int32.toInt h
  rw [nI_toInt (by omega), show (-1 : Int32).toInt = -1 from rfl] at this
  omega)
theorem sum_nn : ∀ (n : Nat) {g : Nat → Int32}, n ≤ 100 → (∀ j, j < n → ∃ q : Nat, q ≤ 12 ∧ g j = nI q) → ∃ Q : Nat, Q ≤ 12 * n ∧ sumN n g = nI Q
  | 0, _, _, _ => ⟨0, Nat.zero_le _, rfl⟩
  | n + 1, g, hn, h => by
    obtain ⟨Q, hQ, e⟩ := sum_nn n (g := g) (by omega) (fun j hj => h j (by omega))
    obtain ⟨q, hq, e'⟩ := h n (by omega)
    refine ⟨Q + q, by omega, ?_⟩
    show sumN n g + g n = _
    rw [e, e', nI_add]
theorem left_small {f : Nat → Int32} (hB : BK f) {w d : Nat} (hw : w < 5) (hd : d < 20) : f (328 + (0 * 5 + w) * 20 + d) < 2 := by
  have h := hB.2.2.2.2 0 w d (by omega) hw hd
  obtain ⟨Q, hQ, e⟩ := sum_nn 48 (g := bterm f 0 w d) (by omega) (fun j hj => by
    unfold bterm
    by_cases z : j % 8 < (f (14 + (j / 8) * 9 + 3)).toNatClampNeg ∧ f (68 + j * 5) = nI 0 ∧ f (68 + j * 5 + 1) = nI w ∧ f (68 + j * 5 + 2) = nI d
    · rw [if_pos z]
      obtain ⟨-, -, -, ⟨q, hq, eq⟩⟩ := hB.2.2.1 (j / 8) (j % 8) (by omega) (by omega)
      rw [show (j / 8) * 8 + j % 8 = j by omega] at eq
      exact ⟨q, hq, eq⟩
    · rw [if_neg z]
      exact ⟨0, by omega, rfl⟩)
  rw [e, show F_X6_mostOf (nI 0) = nI 1 from by decide] at h
  have h2 : f (328 + (0 * 5 + w) * 20 + d) = nI 1 - nI Q := by
    rw [← h, Int32.add_sub_cancel]
  rw [h2, Int32.lt_iff_toInt_lt, Int32.toInt_sub, nI_toInt (by omega), nI_toInt (by omega), show (2 : Int32).toInt = 2 from rfl, Int.bmod_eq_of_le (by omega) (by omega)]
  omega
theorem cheap_no {f : Nat → Int32} (hB : BK f) : ∀ (m w : Nat), w ≤ 5 → 5 - w < m → FL_X5_cheapestTown_10 m f 0 0 2 (-1) 6 (nI w) = -1
  | 0, _, _, h => absurd h (Nat.not_lt_zero _)
  | m + 1, w, hw, hm => by
    rw [FL_X5_cheapestTown_10]
    by_cases q : 5 ≤ w
    · rw [if_pos (show (5 : Int32) ≤ nI w from nI_le (a := 5) q (by omega))]
    · have hl := left_small hB (w := w) (d := 0) (by omega) (by omega)
      have e : F_X0_get f (F_X6_ofLeft 0 (nI w) 0) = f (328 + (0 * 5 + w) * 20 + 0) := (congrArg (F_X0_get f) (ofLeft_nI 0 w 0)).trans (get_nI (by omega))
      have ih := cheap_no hB m (w + 1) (by omega) (by omega)
      rw [if_neg (show ¬ (5 : Int32) ≤ nI w from nI_ge (b := 5) (by omega) (by omega)), e, if_pos hl, nI_1, ih, ite_self]
theorem rq_cheap_5 {f : Nat → Int32} (hB : BK f) : Q_cheapest f 0 0 2 = -1003 := by
  have e : F_X5_cheapestTown f 0 0 2 = -1 := by
    unfold F_X5_cheapestTown
    exact cheap_no hB 6 0 (by omega) (by omega)
  unfold Q_cheapest F_X6_cheapest
  rw [show F_X6_needBelow 0 3 = none by decide, if_pos rfl, show F_X6_needBelow 0 20 = none by decide, if_pos rfl, show F_X6_needRange 2 1 12 = none by decide, if_pos rfl, e, if_pos rfl]
  exact xc_at rfl _
end TSrefG
