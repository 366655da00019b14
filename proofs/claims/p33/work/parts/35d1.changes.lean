/-! HOURS, JUDGES, and what each change does to books in order. -/
section TSchanges
theorem under_cases {f : Nat → Int32} {t : Nat} (ht : t < 6) : (F_X5_isUnderWay f (nI t) = 0 ∧ ¬ f (14 + t * 9) = nI 1 ∧ ¬ f (14 + t * 9) = nI 2) ∨ (F_X5_isUnderWay f (nI t) = 1 ∧ (f (14 + t * 9) = nI 1 ∨ f (14 + t * 9) = nI 2)) := by
  simp only [F_X5_isUnderWay, gT_0 ht]
  by_cases h1 : f (14 + t * 9) = 1
  · exact Or.inr ⟨by rw [if_pos h1], Or.inl h1⟩
  · by_cases h2 : f (14 + t * 9) = 2
    · exact Or.inr ⟨by rw [if_neg h1, if_pos h2], Or.inr h2⟩
    · exact Or.inl ⟨by rw [if_neg h1, if_neg h2], h1, h2⟩
theorem hour_eff : ∀ (n j e : Nat) (f : Nat → Int32) (x1 x3 : Int32), j ≤ 6 → 6 - j < n → e + (6 - j) < 1000 → BK f → ∃ e' : Nat, e ≤ e' ∧ e' ≤ e + (6 - j) ∧ (FL_X5_passHours_12 n f x1 (nI e) x3 (nI j)).1 = nI e' ∧ BK (FL_X5_passHours_12 n f x1 (nI e) x3 (nI j)).2.2 ∧ KP f (FL_X5_passHours_12 n f x1 (nI e) x3 (nI j)).2.2
  | 0, _, _, _, _, _, _, h, _, _ => absurd h (Nat.not_lt_zero _)
  | n + 1, j, e, f, x1, x3, hj, hn, he, h => by
    simp only [FL_X5_passHours_12]
    by_cases q : 6 ≤ j
    · rw [if_pos (show (6 : Int32) ≤ nI j from nI_le (a := 6) q (by omega))]
      exact ⟨e, Nat.le_refl _, by omega, rfl, h, KP.rf⟩
    · rw [if_neg (show ¬ (6 : Int32) ≤ nI j from nI_ge (b := 6) (by omega) (by decide))]
      have ht : j < 6 := by omega
      rw [nI_1]
      rcases under_cases (f := f) ht with ⟨u, -⟩ | ⟨u, hu⟩
      · rw [if_pos u]
        obtain ⟨e', a, b, c⟩ := hour_eff n (j + 1) e f x1 x3 (by omega) (by omega) (by omega) h
        exact ⟨e', a, by omega, c⟩
      · rw [if_neg (by rw [u]; decide)]
        obtain ⟨b1, b2⟩ := try_eff ht h hu
        rcases under_cases (f := F_X5_makeTry f (nI j)) ht with ⟨u2, -⟩ | ⟨u2, -⟩
        · rw [if_pos u2, nI_1]
          obtain ⟨e', a, b, c, d, g⟩ := hour_eff n (j + 1) (e + 1) (F_X5_makeTry f (nI j)) x1 x3 (by omega) (by omega) (by omega) b1
          exact ⟨e', by omega, by omega, c, d, b2.trans g⟩
        · rw [if_neg (by rw [u2]; decide), show nI e + (0 : Int32) = nI e from Int32.add_zero _]
          obtain ⟨e', a, b, c, d, g⟩ := hour_eff n (j + 1) e (F_X5_makeTry f (nI j)) x1 x3 (by omega) (by omega) (by omega) b1
          exact ⟨e', by omega, by omega, c, d, b2.trans g⟩
theorem hours_eff : ∀ (n i e h : Nat) (f : Nat → Int32), i ≤ h → h - i < n → h ≤ 60 → e ≤ 6 * i → BK f → ∃ e' : Nat, e' ≤ 6 * h ∧ (FL_X5_passHours_4 n f (nI h) (nI e) (nI i)).1 = nI e' ∧ BK (FL_X5_passHours_4 n f (nI h) (nI e) (nI i)).2 ∧ KP f (FL_X5_passHours_4 n f (nI h) (nI e) (nI i)).2
  | 0, _, _, _, _, _, h, _, _, _ => absurd h (Nat.not_lt_zero _)
  | n + 1, i, e, h, f, hi, hn, h60, he, hB => by
    simp only [FL_X5_passHours_4]
    by_cases q : h ≤ i
    · rw [if_pos (nI_le q (by omega))]
      exact ⟨e, by omega, rfl, hB, KP.rf⟩
    · rw [if_neg (nI_ge (by omega) (by omega))]
      obtain ⟨e1, a, b, c, d, g⟩ := hour_eff 7 0 e f (nI h) (nI i) (by omega) (by omega) (by omega) hB
      rw [show (0 : Int32) = nI 0 from rfl, c]
      generalize (FL_X5_passHours_12 7 f (nI h) (nI e) (nI i) (nI 0)).2.2 = f1 at d g
      rw [show F_X0_add f1 (nI 0) 1 = upd f1 0 (f1 0 + 1) from aN_0, nI_1]
      have hS : Same f1 (upd f1 0 (f1 0 + 1)) E0 := (Same.rf (f := f1)).u1 (nrel_lo (by omega))
      obtain ⟨e', a', c', d', g'⟩ := hours_eff n (i + 1) e1 h (upd f1 0 (f1 0 + 1)) (by omega) (by omega) h60 (by omega) (BK_same hS d)
      exact ⟨e', a', c', d', (g.trans (KP.same hS)).trans g'⟩
theorem pass_eff {f : Nat → Int32} {h : Nat} (hh : h ≤ 60) (hB : BK f) : (∃ e : Nat, e ≤ 360 ∧ (F_X5_passHours f (nI h)).1 = nI e) ∧ BK (F_X5_passHours f (nI h)).2 ∧ KP f (F_X5_passHours f (nI h)).2 := by
  unfold F_X5_passHours
  have hn : ((nI h).toInt - ((0 : Int32) : Int32).toInt).toNat + 1 = h + 1 := by rw [nI_toInt (by omega), show (0 : Int32).toInt = 0 from rfl]; omega
  rw [hn]
  obtain ⟨e', a, b, c, d⟩ := hours_eff (h + 1) 0 0 h f (Nat.zero_le _) (by omega) hh (by omega) hB
  exact ⟨⟨e', by omega, b⟩, c, d⟩
theorem count_tours : ∀ (n j c : Nat) (f : Nat → Int32) (x : Int32) (N : Nat), N ≤ 6 → f 1 = nI N → j ≤ N → N - j < n → c ≤ j → ∃ c' : Nat, c ≤ c' ∧ c' ≤ N ∧ FL_X5_toursThatAre_4 n f x (nI c) (nI j) = nI c' ∧ (∀ t, j ≤ t → t < N → f (14 + t * 9) = x → 0 < c')
  | 0, _, _, _, _, _, _, _, _, h, _ => absurd h (Nat.not_lt_zero _)
  | n + 1, j, c, f, x, N, hN, h1, hj, hn, hc => by
    simp only [FL_X5_toursThatAre_4, gN_1, h1]
    by_cases q : N ≤ j
    · rw [if_pos (nI_le q (by omega))]
      exact ⟨c, Nat.le_refl _, by omega, rfl, fun t a b => by omega⟩
    · rw [if_neg (nI_ge (by omega) (by omega)), nI_1, nI_1, gT_0 (by omega)]
      split
      · obtain ⟨c', a, b, d, g⟩ := count_tours n (j + 1) (c + 1) f x N hN h1 (by omega) (by omega) (by omega)
        exact ⟨c', by omega, b, d, fun _ _ _ _ => by omega⟩
      · rename_i hne
        rw [show nI c + (0 : Int32) = nI c from Int32.add_zero _]
        obtain ⟨c', a, b, d, g⟩ := count_tours n (j + 1) c f x N hN h1 (by omega) (by omega) (by omega)
        refine ⟨c', a, b, d, fun t ht hN' hx => ?_⟩
        by_cases z : t = j
        · subst z; exact absurd hx hne
        · exact g t (by omega) hN' hx
theorem tours_are {f : Nat → Int32} {x : Int32} {N : Nat} (hN : N ≤ 6) (h1 : f 1 = nI N) : ∃ c : Nat, c ≤ N ∧ F_X5_toursThatAre f x = nI c ∧ (∀ t, t < N → f (14 + t * 9) = x → 0 < c) := by
  unfold F_X5_toursThatAre
  rw [gN_1, h1, show ((nI N).toInt - ((0 : Int32) : Int32).toInt).toNat + 1 = N + 1 by rw [nI_toInt (by omega), show (0 : Int32).toInt = 0 from rfl]; omega]
  obtain ⟨c', a, b, d, g⟩ := count_tours (N + 1) 0 0 f x N hN h1 (Nat.zero_le _) (by omega) (Nat.le_refl _)
  exact ⟨c', b, d, fun t ht => g t (Nat.zero_le _) ht⟩
theorem open_count : ∀ (n j c : Nat) (f : Nat → Int32), BW f → j ≤ 5 → 5 - j < n → c ≤ j → ∃ c' : Nat, c' ≤ 5 ∧ FL_X5_openTowns_4 n f (nI c) (nI j) = nI c'
  | 0, _, _, _, _, _, h, _ => absurd h (Nat.not_lt_zero _)
  | n + 1, j, c, f, hW, hj, hn, hc => by
    simp only [FL_X5_openTowns_4]
    by_cases q : 5 ≤ j
    · rw [if_pos (show (5 : Int32) ≤ nI j from nI_le (a := 5) q (by omega))]
      exact ⟨c, by omega, rfl⟩
    · rw [if_neg (show ¬ (5 : Int32) ≤ nI j from nI_ge (b := 5) (by omega) (by decide)), iW_0, get_nI (by omega)]
      obtain ⟨m, hm, e⟩ := (hW j (by omega)).1
      rw [e, nI_add, nI_1]
      exact open_count n (j + 1) (c + m) f hW (by omega) (by omega) (by omega)
theorem open_towns {f : Nat → Int32} (hW : BW f) : ∃ c : Nat, c ≤ 5 ∧ F_X5_openTowns f = nI c := open_count 6 0 0 f hW (by omega) (by omega) (by omega)
/-- a tour more -/
theorem plan_eff {f : Nat → Int32} {n : Nat} (hB : BK f) (h1 : f 1 = nI n) (hn : n < 6) (l : Int32) : (F_X5_planTour f l).1 = nI n ∧ BK (F_X5_planTour f l).2 ∧ (F_X5_planTour f l).2 1 = nI (n + 1) ∧ Same f (F_X5_planTour f l).2 (fun i => i = 1) := by
  have e : F_X5_planTour f l = (nI n, upd (upd f (14 + n * 9 + 1) l) 1 (nI (n + 1))) := by
    simp only [F_X5_planTour, gN_1, h1, sT_1 hn, aN_1]
    rw [upd_ne (by omega), h1, nI_1]
  rw [e]
  dsimp only
  have hS : Same f (upd (upd f (14 + n * 9 + 1) l) 1 (nI (n + 1))) (fun i => i = 1) := ((Same.rf (f := f)).u1 (nrel_T hn (w := 1) (Or.inl rfl))).u2 rfl
  refine ⟨rfl, ?_, upd_eq, hS⟩
  have e1 : ∀ i, Rel i → i ≠ 1 → upd (upd f (14 + n * 9 + 1) l) 1 (nI (n + 1)) i = f i := fun i hi h => hS i hi h
  generalize hf' : upd (upd f (14 + n * 9 + 1) l) 1 (nI (n + 1)) = f' at e1 hS
  have hf1 : f' 1 = nI (n + 1) := by rw [← hf']; exact upd_eq
  obtain ⟨⟨n0, hn0, h10, h2⟩, hT, hs, hW, hL⟩ := hB
  have hnn : n0 = n := by rw [h10] at h1; exact (nI_eq (by omega) (by omega)).mp h1
  subst hnn
  refine ⟨⟨n0 + 1, by omega, hf1, fun t ht h6 => ?_⟩, fun t ht => ?_, fun t s ht hs8 => ?_, fun w hw => ?_, fun k w d hk hw hd => ?_⟩
  · rw [e1 _ (rel_T h6) (by omega), e1 _ (rel_T2 h6) (by omega)]; exact h2 t (by omega) h6
  · rw [e1 _ (rel_T ht) (by omega), e1 _ (rel_T2 ht) (by omega), e1 _ (rel_T3 ht) (by omega)]; exact hT t ht
  · obtain ⟨a, b, c, d⟩ := rel_S (j := t * 8 + s) (by omega)
    rw [e1 _ a (by omega), e1 _ b (by omega), e1 _ c (by omega), e1 _ d (by omega)]; exact hs t s ht hs8
  · obtain ⟨a, b⟩ := rel_W hw
    rw [e1 _ a (by omega), e1 _ b (by omega)]; exact hW w hw
  · rw [e1 _ (rel_L hk hw hd) (by omega), sumN_congr 48 (g := bterm f' k w d) (g' := bterm f k w d) (fun j hj => bterm_congr hj (e1 _ (rel_T3 (by omega)) (by omega)) (fun v hv => ?_))]
    · exact hL k w d hk hw hd
    · obtain ⟨a, b, c, d⟩ := rel_S hj
      match v, hv with
      | 0, _ => exact e1 _ a (by omega)
      | 1, _ => exact e1 _ b (by omega)
      | 2, _ => exact e1 _ c (by omega)
      | 3, _ => exact e1 _ d (by omega)
end TSchanges
