section TSchanges2
/-- a step more -/
theorem give_eff {f : Nat → Int32} {n t s kd tw dy mn : Nat} (hB : BK f) (h1 : f 1 = nI n) (hn6 : n ≤ 6) (ht : t < n) (hc : f (14 + t * 9) = nI 0) (h2 : f (14 + t * 9 + 2) = nI s) (hs : s < 8) (hkd : kd < 3) (htw : tw < 5) (hdy : dy < 20) (hmn : mn ≤ 12) :
    (F_X5_giveStep f (nI t) (nI kd) (nI tw) (nI dy) (nI mn)).1 = nI (s + 1) ∧ BK (F_X5_giveStep f (nI t) (nI kd) (nI tw) (nI dy) (nI mn)).2 ∧ (F_X5_giveStep f (nI t) (nI kd) (nI tw) (nI dy) (nI mn)).2 (14 + t * 9 + 2) = nI (s + 1) ∧ Same f (F_X5_giveStep f (nI t) (nI kd) (nI tw) (nI dy) (nI mn)).2 (fun i => i = 14 + t * 9 + 2 ∨ (68 + (t * 8 + s) * 5 ≤ i ∧ i < 68 + (t * 8 + s) * 5 + 4)) := by
  obtain ⟨⟨n0, hn0, h10, hz⟩, hT, hS0, hW, hL⟩ := hB
  have hnn : n0 = n := by rw [h10] at h1; exact (nI_eq (by omega) (by omega)).mp h1
  subst hnn
  have ht6 : t < 6 := by omega
  have e : F_X5_giveStep f (nI t) (nI kd) (nI tw) (nI dy) (nI mn) = (nI (s + 1), upd (upd (upd (upd (upd f (68 + (t * 8 + s) * 5) (nI kd)) (68 + (t * 8 + s) * 5 + 1) (nI tw)) (68 + (t * 8 + s) * 5 + 2) (nI dy)) (68 + (t * 8 + s) * 5 + 3) (nI mn)) (14 + t * 9 + 2) (nI (s + 1))) := by
    simp only [F_X5_giveStep, letp_n, gT_2 ht6, h2, iS_0, iS_1, iS_2, iS_3]
    rw [set_nI (by omega), set_nI (by omega), set_nI (by omega), set_nI (by omega), sT_2 ht6, nI_1]
  rw [e]
  dsimp only
  have hS : Same f (upd (upd (upd (upd (upd f (68 + (t * 8 + s) * 5) (nI kd)) (68 + (t * 8 + s) * 5 + 1) (nI tw)) (68 + (t * 8 + s) * 5 + 2) (nI dy)) (68 + (t * 8 + s) * 5 + 3) (nI mn)) (14 + t * 9 + 2) (nI (s + 1))) (fun i => i = 14 + t * 9 + 2 ∨ (68 + (t * 8 + s) * 5 ≤ i ∧ i < 68 + (t * 8 + s) * 5 + 4)) :=
    (((((Same.rf (f := f)).u2 (Or.inr ⟨by omega, by omega⟩)).u2 (Or.inr ⟨by omega, by omega⟩)).u2 (Or.inr ⟨by omega, by omega⟩)).u2 (Or.inr ⟨by omega, by omega⟩)).u2 (Or.inl rfl)
  refine ⟨rfl, ?_, upd_eq, hS⟩
  have v0 : upd (upd (upd (upd (upd f (68 + (t * 8 + s) * 5) (nI kd)) (68 + (t * 8 + s) * 5 + 1) (nI tw)) (68 + (t * 8 + s) * 5 + 2) (nI dy)) (68 + (t * 8 + s) * 5 + 3) (nI mn)) (14 + t * 9 + 2) (nI (s + 1)) (68 + (t * 8 + s) * 5) = nI kd := by
    rw [upd_ne (by omega), upd_ne (by omega), upd_ne (by omega), upd_ne (by omega), upd_eq]
  have v1 : upd (upd (upd (upd (upd f (68 + (t * 8 + s) * 5) (nI kd)) (68 + (t * 8 + s) * 5 + 1) (nI tw)) (68 + (t * 8 + s) * 5 + 2) (nI dy)) (68 + (t * 8 + s) * 5 + 3) (nI mn)) (14 + t * 9 + 2) (nI (s + 1)) (68 + (t * 8 + s) * 5 + 1) = nI tw := by
    rw [upd_ne (by omega), upd_ne (by omega), upd_ne (by omega), upd_eq]
  have v2 : upd (upd (upd (upd (upd f (68 + (t * 8 + s) * 5) (nI kd)) (68 + (t * 8 + s) * 5 + 1) (nI tw)) (68 + (t * 8 + s) * 5 + 2) (nI dy)) (68 + (t * 8 + s) * 5 + 3) (nI mn)) (14 + t * 9 + 2) (nI (s + 1)) (68 + (t * 8 + s) * 5 + 2) = nI dy := by
    rw [upd_ne (by omega), upd_ne (by omega), upd_eq]
  have v3 : upd (upd (upd (upd (upd f (68 + (t * 8 + s) * 5) (nI kd)) (68 + (t * 8 + s) * 5 + 1) (nI tw)) (68 + (t * 8 + s) * 5 + 2) (nI dy)) (68 + (t * 8 + s) * 5 + 3) (nI mn)) (14 + t * 9 + 2) (nI (s + 1)) (68 + (t * 8 + s) * 5 + 3) = nI mn := by
    rw [upd_ne (by omega), upd_eq]
  have v9 : upd (upd (upd (upd (upd f (68 + (t * 8 + s) * 5) (nI kd)) (68 + (t * 8 + s) * 5 + 1) (nI tw)) (68 + (t * 8 + s) * 5 + 2) (nI dy)) (68 + (t * 8 + s) * 5 + 3) (nI mn)) (14 + t * 9 + 2) (nI (s + 1)) (14 + t * 9 + 2) = nI (s + 1) := upd_eq
  generalize upd (upd (upd (upd (upd f (68 + (t * 8 + s) * 5) (nI kd)) (68 + (t * 8 + s) * 5 + 1) (nI tw)) (68 + (t * 8 + s) * 5 + 2) (nI dy)) (68 + (t * 8 + s) * 5 + 3) (nI mn)) (14 + t * 9 + 2) (nI (s + 1)) = f' at hS v0 v1 v2 v3 v9
  have e1 : ∀ i, Rel i → i ≠ 14 + t * 9 + 2 → (i < 68 + (t * 8 + s) * 5 ∨ 68 + (t * 8 + s) * 5 + 4 ≤ i) → f' i = f i := fun i hi a b => hS i hi (fun z => by omega)
  obtain ⟨c', b', s', q1, q2, q3, q4, q5, q6, q7, q8, q9⟩ := hT t ht6
  have hc0 : c' = 0 := by rw [q1] at hc; exact (nI_eq (by omega) (by omega)).mp hc
  have hb0 := q7 hc0
  refine ⟨⟨n0, hn0, (e1 _ rel_1 (by omega) (by omega)).trans h10, fun t' h' h6 => ?_⟩, fun t' h' => ?_, fun t' s9 h' hs8 => ?_, fun w hw => ?_, fun k w d hk hw hd => ?_⟩
  · rw [e1 _ (rel_T h6) (by omega) (by omega), e1 _ (rel_T2 h6) (by omega) (by omega)]; exact hz t' h' h6
  · rw [e1 _ (rel_T h') (by omega) (by omega), e1 _ (rel_T3 h') (by omega) (by omega)]
    by_cases z : t' = t
    · subst z
      rw [v9, q1, q2, hc0, hb0]
      exact CB_of (c := 0) rfl rfl rfl (by omega)
    · rw [e1 _ (rel_T2 h') (by omega) (by omega)]; exact hT t' h'
  · by_cases z : t' * 8 + s9 = t * 8 + s
    · rw [z, v0, v1, v2, v3]
      exact ⟨⟨kd, by omega, rfl⟩, ⟨tw, by omega, rfl⟩, ⟨dy, by omega, rfl⟩, ⟨mn, hmn, rfl⟩⟩
    · obtain ⟨a, b, c, d⟩ := rel_S (j := t' * 8 + s9) (by omega)
      rw [e1 _ a (by omega) (by omega), e1 _ b (by omega) (by omega), e1 _ c (by omega) (by omega), e1 _ d (by omega) (by omega)]; exact hS0 t' s9 h' hs8
  · obtain ⟨a, b⟩ := rel_W hw
    rw [e1 _ a (by omega) (by omega), e1 _ b (by omega) (by omega)]; exact hW w hw
  · rw [e1 _ (rel_L hk hw hd) (by omega) (by omega), sumN_congr 48 (g := bterm f' k w d) (g' := bterm f k w d) (fun j hj => ?_)]
    · exact hL k w d hk hw hd
    · by_cases z : j / 8 = t
      · unfold bterm
        rw [e1 _ (rel_T3 (t := j / 8) (by omega)) (by omega) (by omega), z, q2, hb0, nI_clamp (by omega), if_neg (fun y => absurd y.1 (Nat.not_lt_zero _)), if_neg (fun y => absurd y.1 (Nat.not_lt_zero _))]
      · refine bterm_congr hj (e1 _ (rel_T3 (by omega)) (by omega) (by omega)) (fun v hv => ?_)
        obtain ⟨a, b, c, d⟩ := rel_S hj
        match v, hv with
        | 0, _ => exact e1 _ a (by omega) (by omega)
        | 1, _ => exact e1 _ b (by omega) (by omega)
        | 2, _ => exact e1 _ c (by omega) (by omega)
        | 3, _ => exact e1 _ d (by omega) (by omega)
/-- a tour starts -/
theorem start_eff {f : Nat → Int32} {t : Nat} (hB : BK f) (ht : t < 6) (hc : f (14 + t * 9) = nI 0) (h2 : ¬ f (14 + t * 9 + 2) = nI 0) : BK (F_X5_startTour f (nI t)).2 ∧ (F_X5_startTour f (nI t)).2 = upd f (14 + t * 9) 1 ∧ (F_X5_startTour f (nI t)).1 = F_X5_toursThatAre (upd f (14 + t * 9) 1) 1 := by
  have e : F_X5_startTour f (nI t) = (F_X5_toursThatAre (upd f (14 + t * 9) 1) 1, upd f (14 + t * 9) 1) := by
    simp only [F_X5_startTour, letp_n, sT_0 ht]
  rw [e]
  dsimp only
  obtain ⟨c', b', s', q1, q2, q3, q4, q5, q6, q7, q8, q9⟩ := hB.2.1 t ht
  have hc0 : c' = 0 := by rw [q1] at hc; exact (nI_eq (by omega) (by omega)).mp hc
  have hb0 := q7 hc0
  have hs0 : s' ≠ 0 := fun z => h2 (by rw [q3, z])
  refine ⟨BK_cond ht ((Same.rf (f := f)).u2 rfl) hB ?_ h2, rfl, rfl⟩
  rw [upd_eq, q2, q3, hb0]
  exact CB_of (c := 1) rfl rfl rfl (by omega)
/-- a tour is called back -/
theorem back_eff {f : Nat → Int32} {t : Nat} (hB : BK f) (ht : t < 6) (hc : f (14 + t * 9) = nI 1) : (∃ b : Nat, b ≤ 8 ∧ (F_X5_callBack f (nI t)).1 = nI b) ∧ BK (F_X5_callBack f (nI t)).2 := by
  have hS0 : Same f (upd f (14 + t * 9 + 5) 4) E0 := (Same.rf (f := f)).u1 (nrel_T ht (w := 5) (by omega))
  simp only [F_X5_callBack, letp_n, sT_5 ht]
  generalize upd f (14 + t * 9 + 5) 4 = g at hS0
  have hg : BK g := BK_same hS0 hB
  rw [turn_eq ht, gT_3 ht]
  obtain ⟨c', b', s', q1, q2, q3, q4, q5, q6, q7, q8, q9⟩ := hg.2.1 t ht
  have hc1 : c' = 1 := by rw [← hS0.at (rel_T ht), q1] at hc; exact (nI_eq (by omega) (by omega)).mp hc
  have hS2 : Same g (upd (upd g (14 + t * 9 + 4) 0) (14 + t * 9) (if g (14 + t * 9 + 3) = 0 then 4 else 2)) (fun i => i = 14 + t * 9) := ((Same.rf (f := g)).u1 (nrel_T ht (w := 4) (by omega))).u2 rfl
  refine ⟨⟨b', by omega, ?_⟩, BK_cond ht hS2 hg ?_ ?_⟩
  · rw [upd_ne (by omega), upd_ne (by omega), q2]
  · rw [upd_eq]
    by_cases hb0 : b' = 0
    · rw [if_pos (by rw [q2, hb0]; rfl)]
      exact CB_of (c := 4) rfl q2 q3 (by omega)
    · rw [if_neg (by rw [q2]; exact nI_ne0 (by omega) (by omega))]
      exact CB_of (c := 2) rfl q2 q3 (by omega)
  · rw [q3]; intro z; have := (nI_eq (by omega) (by omega)).mp z; omega
/-- a town's two numbers are others -/
theorem BK_town {f f' : Nat → Int32} {w : Nat} (hw : w < 5) (hS : Same f f' (fun i => i = 308 + w * 4 ∨ i = 308 + w * 4 + 1)) (h : BK f) (h0 : NB (f' (308 + w * 4)) 1) (h1 : ∃ d : Nat, 1 ≤ d ∧ d ≤ 5 ∧ f' (308 + w * 4 + 1) = nI d) : BK f' := by
  have e : ∀ i, Rel i → i ≠ 308 + w * 4 → i ≠ 308 + w * 4 + 1 → f' i = f i := fun i hi a b => hS i hi (fun z => by omega)
  obtain ⟨⟨n, hn, h10, h2⟩, hT, hs, hW, hL⟩ := h
  refine ⟨⟨n, hn, by rw [e _ rel_1 (by omega) (by omega)]; exact h10, fun t' ht' h6 => ?_⟩, fun t' ht' => ?_, fun t' s ht' hs8 => ?_, fun w' hw' => ?_, fun k w' d hk hw' hd => ?_⟩
  · rw [e _ (rel_T h6) (by omega) (by omega), e _ (rel_T2 h6) (by omega) (by omega)]; exact h2 t' ht' h6
  · rw [e _ (rel_T ht') (by omega) (by omega), e _ (rel_T2 ht') (by omega) (by omega), e _ (rel_T3 ht') (by omega) (by omega)]; exact hT t' ht'
  · obtain ⟨a, b, c, d⟩ := rel_S (j := t' * 8 + s) (by omega)
    rw [e _ a (by omega) (by omega), e _ b (by omega) (by omega), e _ c (by omega) (by omega), e _ d (by omega) (by omega)]; exact hs t' s ht' hs8
  · by_cases q : w' = w
    · subst q; exact ⟨h0, h1⟩
    · obtain ⟨a, b⟩ := rel_W hw'
      rw [e _ a (by omega) (by omega), e _ b (by omega) (by omega)]; exact hW w' hw'
  · rw [e _ (rel_L hk hw' hd) (by omega) (by omega), sumN_congr 48 (g := bterm f' k w' d) (g' := bterm f k w' d) (fun j hj => bterm_congr hj (e _ (rel_T3 (by omega)) (by omega) (by omega)) (fun v hv => ?_))]
    · exact hL k w' d hk hw' hd
    · obtain ⟨a, b, c, d⟩ := rel_S hj
      match v, hv with
      | 0, _ => exact e _ a (by omega) (by omega)
      | 1, _ => exact e _ b (by omega) (by omega)
      | 2, _ => exact e _ c (by omega) (by omega)
      | 3, _ => exact e _ d (by omega) (by omega)
theorem shut_eff {f : Nat → Int32} {w : Nat} (hB : BK f) (hw : w < 5) (is : Int32) : (∃ c : Nat, c ≤ 5 ∧ (F_X5_shutTown f (nI w) is).1 = nI c) ∧ BK (F_X5_shutTown f (nI w) is).2 ∧ (F_X5_shutTown f (nI w) is).2 = upd f (308 + w * 4) (if is = 0 then 1 else 0) := by
  have e : F_X5_shutTown f (nI w) is = (F_X5_openTowns (upd f (308 + w * 4) (if is = 0 then 1 else 0)), upd f (308 + w * 4) (if is = 0 then 1 else 0)) := by
    simp only [F_X5_shutTown, letp_n, iW_0]
    split
    · rw [set_nI (by omega)]
    · rw [set_nI (by omega)]
  rw [e]
  dsimp only
  have hb : BK (upd f (308 + w * 4) (if is = 0 then 1 else 0)) := by
    refine BK_town hw ((Same.rf (f := f)).u2 (Or.inl rfl)) hB ?_ ?_
    · rw [upd_eq]
      split
      · exact ⟨1, by omega, rfl⟩
      · exact ⟨0, by omega, rfl⟩
    · rw [upd_ne (by omega)]; exact (hB.2.2.2.1 w hw).2
  exact ⟨open_towns hb.2.2.2.1, hb, rfl⟩
theorem dear_eff {f : Nat → Int32} {w d : Nat} (hB : BK f) (hw : w < 5) (h1 : 1 ≤ d) (h5 : d ≤ 5) : F_X0_set f (F_X6_ofTown (nI w) (1 : Int32)) (nI d) = upd f (308 + w * 4 + 1) (nI d) ∧ BK (upd f (308 + w * 4 + 1) (nI d)) := by
  refine ⟨by rw [iW_1, set_nI (by omega)], BK_town hw ((Same.rf (f := f)).u2 (Or.inr rfl)) hB ?_ ?_⟩
  · rw [upd_ne (by omega)]; exact (hB.2.2.2.1 w hw).1
  · exact ⟨d, h1, h5, upd_eq⟩
end TSchanges2
