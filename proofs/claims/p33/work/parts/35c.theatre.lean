/-! THE THEATRE'S CHANGES keep the books in order (BK). -/
section TStheatreB
theorem nrel_lo {i : Nat} (h : i = 0 ∨ (2 ≤ i ∧ i < 14)) : ¬ Rel i := by
  rintro (q | ⟨t, ht, q⟩ | ⟨j, hj, q⟩ | ⟨w, hw, q⟩ | q) <;> omega
theorem nrel_T {t w : Nat} (ht : t < 6) (hw : w = 1 ∨ (4 ≤ w ∧ w ≤ 8)) : ¬ Rel (14 + t * 9 + w) := by
  rintro (q | ⟨t, ht, q⟩ | ⟨j, hj, q⟩ | ⟨w, hw, q⟩ | q) <;> omega
theorem nrel_S {j : Nat} (hj : j < 48) : ¬ Rel (68 + j * 5 + 4) := by
  rintro (q | ⟨t, ht, q⟩ | ⟨j, hj, q⟩ | ⟨w, hw, q⟩ | q) <;> omega
theorem nrel_W {w v : Nat} (hw : w < 5) (hv : v = 2 ∨ v = 3) : ¬ Rel (308 + w * 4 + v) := by
  rintro (q | ⟨t, ht, q⟩ | ⟨j, hj, q⟩ | ⟨w, hw, q⟩ | q) <;> omega
def E0 : Nat → Prop := fun _ => False
theorem Same.rf {f : Nat → Int32} {E : Nat → Prop} : Same f f E := fun _ _ _ => rfl
theorem Same.u1 {f g : Nat → Int32} {E : Nat → Prop} {i : Nat} {v : Int32} (h : Same f g E) (hi : ¬ Rel i) : Same f (upd g i v) E := fun j hj hE => by
  rw [upd_ne (fun z : j = i => hi (z ▸ hj))]; exact h j hj hE
theorem Same.u2 {f g : Nat → Int32} {E : Nat → Prop} {i : Nat} {v : Int32} (h : Same f g E) (hi : E i) : Same f (upd g i v) E := fun j hj hE => by
  rw [upd_ne (fun z : j = i => hE (z.symm ▸ hi))]; exact h j hj hE
theorem Same.mono {f g : Nat → Int32} {E F : Nat → Prop} (h : Same f g E) (hE : ∀ i, E i → F i) : Same f g F := fun j hj hF => h j hj (fun z => hF (hE j z))
theorem Same.trans {f g h : Nat → Int32} {E : Nat → Prop} (h1 : Same f g E) (h2 : Same g h E) : Same f h E := fun j hj hE => (h2 j hj hE).trans (h1 j hj hE)
theorem Same.at {f g : Nat → Int32} (h : Same f g E0) {i : Nat} (hi : Rel i) : g i = f i := h i hi (fun z => z)
/-- what a change of the theatre's leaves as it was -/
def KP (f f' : Nat → Int32) : Prop := f' 1 = f 1 ∧ (∀ t, t < 6 → f' (14 + t * 9 + 2) = f (14 + t * 9 + 2) ∧ (f (14 + t * 9) = nI 0 ↔ f' (14 + t * 9) = nI 0)) ∧ (∀ w, w < 5 → f' (308 + w * 4) = f (308 + w * 4) ∧ f' (308 + w * 4 + 1) = f (308 + w * 4 + 1)) ∧ (∀ j v, j < 48 → v < 4 → f' (68 + j * 5 + v) = f (68 + j * 5 + v))
theorem KP.rf {f : Nat → Int32} : KP f f := ⟨rfl, fun _ _ => ⟨rfl, Iff.rfl⟩, fun _ _ => ⟨rfl, rfl⟩, fun _ _ _ _ => rfl⟩
theorem KP.trans {f g h : Nat → Int32} (a : KP f g) (b : KP g h) : KP f h :=
  ⟨b.1.trans a.1, fun t ht => ⟨(b.2.1 t ht).1.trans (a.2.1 t ht).1, (a.2.1 t ht).2.trans (b.2.1 t ht).2⟩, fun w hw => ⟨(b.2.2.1 w hw).1.trans (a.2.2.1 w hw).1, (b.2.2.1 w hw).2.trans (a.2.2.1 w hw).2⟩, fun j v hj hv => (b.2.2.2 j v hj hv).trans (a.2.2.2 j v hj hv)⟩
theorem KP.same {f f' : Nat → Int32} (h : Same f f' E0) : KP f f' :=
  ⟨h.at rel_1, fun t ht => ⟨h.at (rel_T2 ht), by rw [h.at (rel_T ht)]⟩, fun w hw => ⟨h.at (rel_W hw).1, h.at (rel_W hw).2⟩, fun j v hj hv => by
    obtain ⟨a, b, c, d⟩ := rel_S hj
    match v, hv with
    | 0, _ => exact h.at a
    | 1, _ => exact h.at b
    | 2, _ => exact h.at c
    | 3, _ => exact h.at d⟩
theorem KP.at {f f' : Nat → Int32} {t : Nat} {E : Nat → Prop} (ht : t < 6) (h : Same f f' E) (hE : ∀ i, E i → i = 14 + t * 9 ∨ i = 14 + t * 9 + 3 ∨ 328 ≤ i) (h0 : ¬ f (14 + t * 9) = nI 0) (h1 : ¬ f' (14 + t * 9) = nI 0) : KP f f' := by
  have e : ∀ i, Rel i → i ≠ 14 + t * 9 → i ≠ 14 + t * 9 + 3 → i < 328 → f' i = f i := fun i hi a b c => h i hi (fun z => by rcases hE i z with q | q | q <;> omega)
  refine ⟨e _ rel_1 (by omega) (by omega) (by omega), fun t' ht' => ⟨e _ (rel_T2 ht') (by omega) (by omega) (by omega), ?_⟩, fun w hw => ⟨e _ (rel_W hw).1 (by omega) (by omega) (by omega), e _ (rel_W hw).2 (by omega) (by omega) (by omega)⟩, fun j v hj hv => ?_⟩
  · by_cases q : t' = t
    · subst q; exact ⟨fun z => absurd z h0, fun z => absurd z h1⟩
    · rw [e _ (rel_T ht') (by omega) (by omega) (by omega)]
  · obtain ⟨a, b, c, d⟩ := rel_S hj
    match v, hv with
    | 0, _ => exact e _ a (by omega) (by omega) (by omega)
    | 1, _ => exact e _ b (by omega) (by omega) (by omega)
    | 2, _ => exact e _ c (by omega) (by omega) (by omega)
    | 3, _ => exact e _ d (by omega) (by omega) (by omega)
theorem gain_same {f g : Nat → Int32} {E : Nat → Prop} (h : Same f g E) (c : Int32) : Same f (F_X5_gainCoins g c) E := by
  simp only [F_X5_gainCoins, letp_n, aN_7, aN_11]
  exact (h.u1 (nrel_lo (by omega))).u1 (nrel_lo (by omega))
theorem gain_at {g : Nat → Int32} {i : Nat} (c : Int32) (h7 : i ≠ 7) (h11 : i ≠ 11) : F_X5_gainCoins g c i = g i := by
  simp only [F_X5_gainCoins, letp_n, aN_7, aN_11]
  rw [upd_ne h11, upd_ne h7]
theorem turn_eq {f : Nat → Int32} {t : Nat} (ht : t < 6) : F_X5_turnBack f (nI t) = upd (upd f (14 + t * 9 + 4) 0) (14 + t * 9) (if f (14 + t * 9 + 3) = 0 then 4 else 2) := by
  simp only [F_X5_turnBack, letp_n, sT_4 ht, gT_3 ht, sT_0 ht]
  rw [upd_ne (by omega)]
  split <;> rfl
/-- how many steps are booked, one more or less -/
theorem count_eff {f g : Nat → Int32} {t s kd tw dy : Nat} {ig : Int32} (ht : t < 6) (hs : s < 8) (hkd : kd < 3) (htw : tw < 5) (hdy : dy < 20) (hg : Same f g E0) (h0 : f (68 + (t * 8 + s) * 5) = nI kd) (h1 : f (68 + (t * 8 + s) * 5 + 1) = nI tw) (h2 : f (68 + (t * 8 + s) * 5 + 2) = nI dy) :
    Same f (F_X5_countBooking g (nI t) (nI s) ig) (fun i => i = 14 + t * 9 ∨ i = 14 + t * 9 + 3 ∨ i = 328 + (kd * 5 + tw) * 20 + dy) ∧ F_X5_countBooking g (nI t) (nI s) ig (14 + t * 9 + 3) = f (14 + t * 9 + 3) + ig ∧ F_X5_countBooking g (nI t) (nI s) ig (328 + (kd * 5 + tw) * 20 + dy) = f (328 + (kd * 5 + tw) * 20 + dy) + -ig * f (68 + (t * 8 + s) * 5 + 3) ∧ F_X5_countBooking g (nI t) (nI s) ig (14 + t * 9) = f (14 + t * 9) := by
  obtain ⟨a, b, c, d⟩ := rel_S (j := t * 8 + s) (by omega)
  have e : F_X5_countBooking g (nI t) (nI s) ig = upd (upd (upd (upd g (328 + (kd * 5 + tw) * 20 + dy) (g (328 + (kd * 5 + tw) * 20 + dy) + -ig * f (68 + (t * 8 + s) * 5 + 3))) (308 + tw * 4 + 2) (g (308 + tw * 4 + 2) + ig)) (14 + t * 9 + 3) (g (14 + t * 9 + 3) + ig)) (14 + t * 9 + 4) 0 := by
    simp only [F_X5_countBooking, letp_n, iS_0, iS_1, iS_2, iS_3]
    rw [get_nI (by omega), get_nI (by omega), get_nI (by omega), get_nI (by omega), hg.at a, hg.at b, hg.at c, hg.at d, h0, h1, h2, ofLeft_nI, iW_2, add_nI (by omega), add_nI (by omega), aT_3 ht, sT_4 ht]
    rw [upd_ne (by omega), upd_ne (by omega), upd_ne (by omega)]
  rw [e]
  refine ⟨?_, ?_, ?_, ?_⟩
  · exact (((((hg.mono (fun i z => z.elim)).u2 (Or.inr (Or.inr rfl))).u1 (nrel_W htw (Or.inl rfl))).u2 (Or.inr (Or.inl rfl))).u1 (nrel_T ht (w := 4) (by omega)))
  · rw [upd_ne (by omega), upd_eq, hg.at (rel_T3 ht)]
  · rw [upd_ne (by omega), upd_ne (by omega), upd_ne (by omega), upd_eq, hg.at (rel_L hkd htw hdy)]
  · rw [upd_ne (by omega), upd_ne (by omega), upd_ne (by omega), upd_ne (by omega), hg.at (rel_T ht)]
theorem book_eq {f : Nat → Int32} {t b tw : Nat} (ht : t < 6) (hs : b < 8) (htw : tw < 5) (hb : f (14 + t * 9 + 3) = nI b) (h1 : f (68 + (t * 8 + b) * 5 + 1) = nI tw) : ∃ g, Same f g E0 ∧ F_X5_bookNextStep f (nI t) = F_X5_countBooking g (nI t) (nI b) 1 := by
  simp only [F_X5_bookNextStep, letp_n, gT_3 ht, hb, iS_1, iS_4]
  generalize F_X5_priceOf f (nI t) (nI b) = P
  rw [get_nI (f := f) (i := 68 + (t * 8 + b) * 5 + 1) (by omega), h1, iW_3, set_nI (f := f) (i := 68 + (t * 8 + b) * 5 + 4) (by omega), aT_6 ht]
  have S1 : Same f (upd f (68 + (t * 8 + b) * 5 + 4) P) E0 := (Same.rf (f := f)).u1 (nrel_S (j := t * 8 + b) (by omega))
  generalize upd f (68 + (t * 8 + b) * 5 + 4) P = g1 at S1 ⊢
  have S2 : Same f (upd g1 (14 + t * 9 + 6) (g1 (14 + t * 9 + 6) + P)) E0 := S1.u1 (nrel_T ht (w := 6) (by omega))
  generalize upd g1 (14 + t * 9 + 6) (g1 (14 + t * 9 + 6) + P) = g2 at S2 ⊢
  rw [add_nI (f := g2) (i := 308 + tw * 4 + 3) (by omega)]
  have S3 : Same f (upd g2 (308 + tw * 4 + 3) (g2 (308 + tw * 4 + 3) + P)) E0 := S2.u1 (nrel_W htw (v := 3) (Or.inr rfl))
  generalize upd g2 (308 + tw * 4 + 3) (g2 (308 + tw * 4 + 3) + P) = g3 at S3 ⊢
  rw [aN_8]
  have S4 : Same f (upd g3 8 (g3 8 + P)) E0 := S3.u1 (nrel_lo (i := 8) (by omega))
  generalize upd g3 8 (g3 8 + P) = g4 at S4 ⊢
  rw [aN_7]
  exact ⟨_, S4.u1 (nrel_lo (i := 7) (by omega)), rfl⟩
theorem book_eff {f : Nat → Int32} {t b kd tw dy : Nat} (ht : t < 6) (hs : b < 8) (hkd : kd < 3) (htw : tw < 5) (hdy : dy < 20) (hb : f (14 + t * 9 + 3) = nI b) (h0 : f (68 + (t * 8 + b) * 5) = nI kd) (h1 : f (68 + (t * 8 + b) * 5 + 1) = nI tw) (h2 : f (68 + (t * 8 + b) * 5 + 2) = nI dy) :
    Same f (F_X5_bookNextStep f (nI t)) (fun i => i = 14 + t * 9 ∨ i = 14 + t * 9 + 3 ∨ i = 328 + (kd * 5 + tw) * 20 + dy) ∧ F_X5_bookNextStep f (nI t) (14 + t * 9 + 3) = nI (b + 1) ∧ F_X5_bookNextStep f (nI t) (328 + (kd * 5 + tw) * 20 + dy) + f (68 + (t * 8 + b) * 5 + 3) = f (328 + (kd * 5 + tw) * 20 + dy) ∧ F_X5_bookNextStep f (nI t) (14 + t * 9) = f (14 + t * 9) := by
  obtain ⟨g, hg, e⟩ := book_eq ht hs htw hb h1
  rw [e]
  obtain ⟨a1, a2, a3, a4⟩ := count_eff (ig := 1) ht hs hkd htw hdy hg h0 h1 h2
  refine ⟨a1, a2.trans (by rw [hb, nI_1]), ?_, a4⟩
  rw [a3, Int32.add_assoc]
  have z : ∀ x : Int32, -1 * x + x = 0 := fun x => by rw [Int32.neg_mul, Int32.one_mul, Int32.add_left_neg]
  rw [z, Int32.add_zero]
theorem unbook_eq {f : Nat → Int32} {t b : Nat} (ht : t < 6) (hs : b < 8) (hb : f (14 + t * 9 + 3) = nI (b + 1)) : ∃ g, Same f g E0 ∧ F_X5_undoLastStep f (nI t) = F_X5_countBooking g (nI t) (nI b) (-1) := by
  simp only [F_X5_undoLastStep, letp_n, gT_3 ht, hb, nI_pred, iS_4]
  generalize F_X0_get f (nI (68 + (t * 8 + b) * 5 + 4)) / 2 = C
  rw [set_nI (f := f) (i := 68 + (t * 8 + b) * 5 + 4) (by omega), aT_7 ht]
  have S1 : Same f (upd f (68 + (t * 8 + b) * 5 + 4) 0) E0 := (Same.rf (f := f)).u1 (nrel_S (j := t * 8 + b) (by omega))
  generalize upd f (68 + (t * 8 + b) * 5 + 4) 0 = g1 at S1 ⊢
  have S2 : Same f (upd g1 (14 + t * 9 + 7) (g1 (14 + t * 9 + 7) + C)) E0 := S1.u1 (nrel_T ht (w := 7) (by omega))
  generalize upd g1 (14 + t * 9 + 7) (g1 (14 + t * 9 + 7) + C) = g2 at S2 ⊢
  rw [aN_9]
  exact ⟨_, gain_same (S2.u1 (nrel_lo (i := 9) (by omega))) C, rfl⟩
theorem unbook_eff {f : Nat → Int32} {t b kd tw dy : Nat} (ht : t < 6) (hs : b < 8) (hkd : kd < 3) (htw : tw < 5) (hdy : dy < 20) (hb : f (14 + t * 9 + 3) = nI (b + 1)) (h0 : f (68 + (t * 8 + b) * 5) = nI kd) (h1 : f (68 + (t * 8 + b) * 5 + 1) = nI tw) (h2 : f (68 + (t * 8 + b) * 5 + 2) = nI dy) :
    Same f (F_X5_undoLastStep f (nI t)) (fun i => i = 14 + t * 9 ∨ i = 14 + t * 9 + 3 ∨ i = 328 + (kd * 5 + tw) * 20 + dy) ∧ F_X5_undoLastStep f (nI t) (14 + t * 9 + 3) = nI b ∧ F_X5_undoLastStep f (nI t) (328 + (kd * 5 + tw) * 20 + dy) = f (328 + (kd * 5 + tw) * 20 + dy) + f (68 + (t * 8 + b) * 5 + 3) ∧ F_X5_undoLastStep f (nI t) (14 + t * 9) = f (14 + t * 9) := by
  obtain ⟨g, hg, e⟩ := unbook_eq ht hs hb
  rw [e]
  obtain ⟨a1, a2, a3, a4⟩ := count_eff (ig := -1) ht hs hkd htw hdy hg h0 h1 h2
  refine ⟨a1, a2.trans (by rw [hb]; exact pk_m1 b), ?_, a4⟩
  rw [a3]
  have z : ∀ x : Int32, -(-1) * x = x := fun x => by rw [show -(-1 : Int32) = 1 from rfl, Int32.one_mul]
  rw [z]
theorem finish_loop {f : Nat → Int32} {t s : Nat} (ht : t < 6) (hs : s ≤ 8) (h2 : f (14 + t * 9 + 2) = nI s) : ∀ (n j : Nat) (x : Int32), j ≤ s → s - j < n → ∃ c : Int32, FL_X5_finishTour_4 n f (nI t) x (nI j) = F_X5_gainCoins (upd (upd (upd f (14 + t * 9) 3) (14 + t * 9 + 8) (f (14 + t * 9 + 8) + c)) 10 (f 10 + c)) c
  | 0, _, _, _, h => absurd h (Nat.not_lt_zero _)
  | n + 1, j, x, hj, h => by
    simp only [FL_X5_finishTour_4, letp_n, gT_2 ht, h2]
    by_cases q : s ≤ j
    · rw [if_pos (nI_le q (by omega))]
      refine ⟨x, ?_⟩
      rw [sT_0 ht, aT_8 ht, aN_10, upd_ne (by omega), upd_ne (by omega), upd_ne (by omega)]
    · rw [if_neg (nI_ge (by omega) (by omega)), nI_1]
      split
      · exact finish_loop ht hs h2 n (j + 1) _ (by omega) (by omega)
      · exact finish_loop ht hs h2 n (j + 1) _ (by omega) (by omega)
theorem finish_eff {f : Nat → Int32} {t s : Nat} (ht : t < 6) (hs : s ≤ 8) (h2 : f (14 + t * 9 + 2) = nI s) : Same f (F_X5_finishTour f (nI t)) (fun i => i = 14 + t * 9) ∧ F_X5_finishTour f (nI t) (14 + t * 9) = 3 := by
  have e : ∃ c : Int32, F_X5_finishTour f (nI t) = F_X5_gainCoins (upd (upd (upd f (14 + t * 9) 3) (14 + t * 9 + 8) (f (14 + t * 9 + 8) + c)) 10 (f 10 + c)) c := by
    unfold F_X5_finishTour
    rw [gT_2 ht, h2]
    have hn : ((nI s).toInt - ((0 : Int32) : Int32).toInt).toNat + 1 = s + 1 := by rw [nI_toInt (by omega), show (0 : Int32).toInt = 0 from rfl]; omega
    rw [hn]
    exact finish_loop ht hs h2 (s + 1) 0 0 (Nat.zero_le _) (by omega)
  obtain ⟨c, e⟩ := e
  rw [e]
  refine ⟨gain_same (((Same.u2 (E := fun i => i = 14 + t * 9) (i := 14 + t * 9) (Same.rf (f := f)) rfl).u1 (nrel_T ht (w := 8) (by omega))).u1 (nrel_lo (i := 10) (by omega))) c, ?_⟩
  rw [gain_at c (by omega) (by omega), upd_ne (by omega), upd_ne (by omega), upd_eq]
theorem CB_of {c b s : Nat} {x y z : Int32} (hx : x = nI c) (hy : y = nI b) (hz : z = nI s) (h : c ≤ 4 ∧ s ≤ 8 ∧ b ≤ s ∧ (c = 0 → b = 0) ∧ (c = 1 → b < s) ∧ (c = 2 → 0 < b)) : CB x y z := ⟨c, b, s, hx, hy, hz, h⟩
theorem fail_eff {f : Nat → Int32} {t : Nat} (ht : t < 6) (h : BK f) (hc : ¬ f (14 + t * 9) = nI 0) (x : Int32) : BK (F_X5_failTry f (nI t) x) ∧ KP f (F_X5_failTry f (nI t) x) := by
  have hS : Same f (upd (upd (upd f 13 (f 13 + 1)) (14 + t * 9 + 4) (f (14 + t * 9 + 4) + 1)) (14 + t * 9 + 5) x) E0 := ((((Same.rf (f := f)).u1 (nrel_lo (i := 13) (by omega))).u1 (nrel_T ht (w := 4) (by omega))).u1 (nrel_T ht (w := 5) (by omega)))
  have e : F_X5_failTry f (nI t) x = (if (upd (upd (upd f 13 (f 13 + 1)) (14 + t * 9 + 4) (f (14 + t * 9 + 4) + 1)) (14 + t * 9 + 5) x) (14 + t * 9 + 4) ≤ (upd (upd (upd f 13 (f 13 + 1)) (14 + t * 9 + 4) (f (14 + t * 9 + 4) + 1)) (14 + t * 9 + 5) x) (14 + t * 9 + 1) then (upd (upd (upd f 13 (f 13 + 1)) (14 + t * 9 + 4) (f (14 + t * 9 + 4) + 1)) (14 + t * 9 + 5) x) else if (upd (upd (upd f 13 (f 13 + 1)) (14 + t * 9 + 4) (f (14 + t * 9 + 4) + 1)) (14 + t * 9 + 5) x) (14 + t * 9) = 1 then F_X5_turnBack (upd (upd (upd f 13 (f 13 + 1)) (14 + t * 9 + 4) (f (14 + t * 9 + 4) + 1)) (14 + t * 9 + 5) x) (nI t) else (upd (upd (upd f 13 (f 13 + 1)) (14 + t * 9 + 4) (f (14 + t * 9 + 4) + 1)) (14 + t * 9 + 5) x)) := by
    simp only [F_X5_failTry, letp_n, aN_13, aT_4 ht, sT_5 ht, gT_4 ht, gT_1 ht, gT_0 ht]
    rw [show upd f 13 (f 13 + 1) (14 + t * 9 + 4) = f (14 + t * 9 + 4) from upd_ne (by omega)]
  rw [e]
  generalize upd (upd (upd f 13 (f 13 + 1)) (14 + t * 9 + 4) (f (14 + t * 9 + 4) + 1)) (14 + t * 9 + 5) x = g at hS
  have hg : BK g := BK_same hS h
  have hk : KP f g := KP.same hS
  split
  · exact ⟨hg, hk⟩
  · split
    · rename_i h1
      rw [turn_eq ht]
      obtain ⟨c', b', s', q1, q2, q3, q4, q5, q6, q7, q8, q9⟩ := hg.2.1 t ht
      have hc1 : c' = 1 := by
        rw [q1] at h1
        exact (nI_eq (by omega) (by omega)).mp h1
      have hS2 : Same g (upd (upd g (14 + t * 9 + 4) 0) (14 + t * 9) (if g (14 + t * 9 + 3) = 0 then 4 else 2)) (fun i => i = 14 + t * 9) := ((Same.rf (f := g)).u1 (nrel_T ht (w := 4) (by omega))).u2 rfl
      have hv : upd (upd g (14 + t * 9 + 4) 0) (14 + t * 9) (if g (14 + t * 9 + 3) = 0 then 4 else 2) (14 + t * 9) = (if g (14 + t * 9 + 3) = 0 then 4 else 2) := upd_eq
      refine ⟨BK_cond ht hS2 hg ?_ ?_, hk.trans (KP.at ht hS2 (fun i z => Or.inl z) ?_ ?_)⟩
      · rw [hv]
        by_cases hb0 : b' = 0
        · rw [if_pos (by rw [q2, hb0]; rfl)]
          exact CB_of (c := 4) rfl q2 q3 (by omega)
        · rw [if_neg (by rw [q2]; exact nI_ne0 (by omega) (by omega))]
          exact CB_of (c := 2) rfl q2 q3 (by omega)
      · rw [q3]; intro z; have := (nI_eq (by omega) (by omega)).mp z; omega
      · rw [h1]; decide
      · rw [hv]; split <;> decide
    · exact ⟨hg, hk⟩
theorem try_eff {f : Nat → Int32} {t : Nat} (ht : t < 6) (h : BK f) (hu : f (14 + t * 9) = nI 1 ∨ f (14 + t * 9) = nI 2) : BK (F_X5_makeTry f (nI t)) ∧ KP f (F_X5_makeTry f (nI t)) := by
  simp only [F_X5_makeTry, letp_n, aN_12, gT_0 ht]
  have hS0 : Same f (upd f 12 (f 12 + 1)) E0 := (Same.rf (f := f)).u1 (nrel_lo (i := 12) (by omega))
  have e0 : upd f 12 (f 12 + 1) (14 + t * 9) = f (14 + t * 9) := upd_ne (by omega)
  generalize upd f 12 (f 12 + 1) = g at hS0 e0 ⊢
  have hg : BK g := BK_same hS0 h
  have hk : KP f g := KP.same hS0
  rw [← e0] at hu
  obtain ⟨c', b', s', q1, q2, q3, q4, q5, q6, q7, q8, q9⟩ := hg.2.1 t ht
  have hs0 : ¬ g (14 + t * 9 + 2) = nI 0 := by
    rw [q3]; intro z
    have z := (nI_eq (by omega) (by omega)).mp z
    rcases hu with hu | hu <;> rw [q1] at hu <;> have hu := (nI_eq (by omega) (by omega)).mp hu
    · have := q8 hu; omega
    · have := q9 hu; omega
  split
  · split
    · rename_i h1
      have hc1 : c' = 1 := by rw [q1] at h1; exact (nI_eq (by omega) (by omega)).mp h1
      have hb := q8 hc1
      obtain ⟨⟨kd, w0, k0⟩, ⟨tw, w1, k1⟩, ⟨dy, w2, k2⟩, ⟨mn, w3, k3⟩⟩ := hg.2.2.1 t b' ht (by omega)
      obtain ⟨a1, a2, a3, a4⟩ := book_eff ht (by omega) (by omega) (by omega) (by omega) q2 k0 k1 k2
      have a5 : F_X5_bookNextStep g (nI t) (14 + t * 9 + 2) = g (14 + t * 9 + 2) := a1 _ (rel_T2 ht) (by omega)
      rw [gT_3 ht, gT_2 ht, a2, a5, q3]
      split
      · rename_i h2
        have h2 := (nI_eq (by omega) (by omega)).mp h2
        obtain ⟨f1, f2⟩ := finish_eff ht (s := s') (f := F_X5_bookNextStep g (nI t)) (by omega) (a5.trans q3)
        have hS3 : Same g (F_X5_finishTour (F_X5_bookNextStep g (nI t)) (nI t)) (fun i => i = 14 + t * 9 ∨ i = 14 + t * 9 + 3 ∨ i = 328 + (kd * 5 + tw) * 20 + dy) := a1.trans (f1.mono (fun i z => Or.inl z))
        have f3 : F_X5_finishTour (F_X5_bookNextStep g (nI t)) (nI t) (14 + t * 9 + 3) = nI (b' + 1) := (f1 _ (rel_T3 ht) (by omega)).trans a2
        have f4 : F_X5_finishTour (F_X5_bookNextStep g (nI t)) (nI t) (328 + (kd * 5 + tw) * 20 + dy) = F_X5_bookNextStep g (nI t) (328 + (kd * 5 + tw) * 20 + dy) := f1 _ (rel_L (by omega) (by omega) (by omega)) (by omega)
        refine ⟨BK_book ht (j := b') (b := b') (b' := b' + 1) (x := g (68 + (t * 8 + b') * 5 + 3)) (by omega) (by omega) (by omega) (by omega) hS3 hg ?_ hs0 q2 f3 (by omega) (by omega) k0 k1 k2 (Or.inl ⟨rfl, rfl, by rw [f4]; exact a3, rfl⟩), hk.trans (KP.at ht hS3 (fun i z => by omega) (by rw [q1, hc1]; decide) (by rw [f2]; decide))⟩
        rw [f2, f3, q3]
        exact CB_of (c := 3) rfl rfl rfl (by omega)
      · rename_i h2
        have h2 : ¬ b' + 1 = s' := fun z => h2 (by rw [z])
        refine ⟨BK_book ht (j := b') (b := b') (b' := b' + 1) (x := g (68 + (t * 8 + b') * 5 + 3)) (by omega) (by omega) (by omega) (by omega) a1 hg ?_ hs0 q2 a2 (by omega) (by omega) k0 k1 k2 (Or.inl ⟨rfl, rfl, a3, rfl⟩), hk.trans (KP.at ht a1 (fun i z => by omega) (by rw [q1, hc1]; decide) (by rw [a4, q1, hc1]; decide))⟩
        rw [a4, a2, q3, q1, hc1]
        exact CB_of (c := 1) rfl rfl rfl (by omega)
    · rename_i h1
      have hc2 : c' = 2 := by
        rcases hu with hu | hu
        · exact absurd hu h1
        · rw [q1] at hu; exact (nI_eq (by omega) (by omega)).mp hu
      have hb := q9 hc2
      obtain ⟨b9, rfl⟩ : ∃ z, b' = z + 1 := ⟨b' - 1, by omega⟩
      obtain ⟨⟨kd, w0, k0⟩, ⟨tw, w1, k1⟩, ⟨dy, w2, k2⟩, ⟨mn, w3, k3⟩⟩ := hg.2.2.1 t b9 ht (by omega)
      obtain ⟨a1, a2, a3, a4⟩ := unbook_eff ht (by omega) (by omega) (by omega) (by omega) q2 k0 k1 k2
      rw [gT_3 ht, a2]
      split
      · rename_i h2
        have h2 : b9 = 0 := (nI_eq (by omega) (by omega)).mp h2
        rw [sT_0 ht]
        have hS3 : Same g (upd (F_X5_undoLastStep g (nI t)) (14 + t * 9) 4) (fun i => i = 14 + t * 9 ∨ i = 14 + t * 9 + 3 ∨ i = 328 + (kd * 5 + tw) * 20 + dy) := a1.u2 (Or.inl rfl)
        have f3 : upd (F_X5_undoLastStep g (nI t)) (14 + t * 9) 4 (14 + t * 9 + 3) = nI b9 := (upd_ne (by omega)).trans a2
        have f4 : upd (F_X5_undoLastStep g (nI t)) (14 + t * 9) 4 (328 + (kd * 5 + tw) * 20 + dy) = F_X5_undoLastStep g (nI t) (328 + (kd * 5 + tw) * 20 + dy) := upd_ne (by omega)
        refine ⟨BK_book ht (j := b9) (b := b9 + 1) (b' := b9) (x := g (68 + (t * 8 + b9) * 5 + 3)) (by omega) (by omega) (by omega) (by omega) hS3 hg ?_ hs0 q2 f3 (by omega) (by omega) k0 k1 k2 (Or.inr ⟨rfl, rfl, by rw [f4]; exact a3, rfl⟩), hk.trans (KP.at ht hS3 (fun i z => by omega) (by rw [q1, hc2]; decide) (by rw [upd_eq]; decide))⟩
        rw [upd_eq, f3, q3]
        exact CB_of (c := 4) rfl rfl rfl (by omega)
      · rename_i h2
        have h2 : ¬ b9 = 0 := fun z => h2 (by rw [z]; rfl)
        refine ⟨BK_book ht (j := b9) (b := b9 + 1) (b' := b9) (x := g (68 + (t * 8 + b9) * 5 + 3)) (by omega) (by omega) (by omega) (by omega) a1 hg ?_ hs0 q2 a2 (by omega) (by omega) k0 k1 k2 (Or.inr ⟨rfl, rfl, a3, rfl⟩), hk.trans (KP.at ht a1 (fun i z => by omega) (by rw [q1, hc2]; decide) (by rw [a4, q1, hc2]; decide))⟩
        rw [a4, a2, q3, q1, hc2]
        exact CB_of (c := 2) rfl rfl rfl (by omega)
  · obtain ⟨a, b⟩ := fail_eff ht hg (by rcases hu with hu | hu <;> rw [hu] <;> decide) (F_X5_nextFault g (nI t))
    exact ⟨a, hk.trans b⟩
end TStheatreB
