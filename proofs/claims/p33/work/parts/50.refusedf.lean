/-! FACTS OF THE REFUSED: what is answered out of reach, and that nothing changes. -/
section TSrefF
theorem nt_hi {f : Nat → Int32} (h1 : f 1 = nI 4) : F_X6_needTour 0 0 f 4 = some "java/lang/IndexOutOfBoundsException" := by
  unfold F_X6_needTour
  rw [gN_1, h1]
  decide
theorem nt_m {f : Nat → Int32} : F_X6_needTour 0 0 f (-1) = some "java/lang/IndexOutOfBoundsException" := by
  unfold F_X6_needTour F_X6_needBelow
  rw [below_m, if_pos rfl]
  rfl
theorem nt_0 {f : Nat → Int32} (h1 : f 1 = nI 4) : F_X6_needTour 0 0 f 0 = none := by
  unfold F_X6_needTour
  rw [gN_1, h1]
  decide
theorem hT_hi {f : Nat → Int32} (h1 : f 1 = nI 4) : F_X2_hasTour f 4 = 0 := hasT_no (t := 4) h1 (by omega) (by omega)
theorem hT_0 {f : Nat → Int32} (h1 : f 1 = nI 4) : F_X2_hasTour f 0 = 1 := hasT (t := 0) h1 (by omega) (by omega)
theorem hT_3 {f : Nat → Int32} (h1 : f 1 = nI 4) : F_X2_hasTour f 3 = 1 := hasT (t := 3) h1 (by omega) (by omega)
theorem xc_of {X : Option String} {E : String} {r v : Int32} {tab : List (String × Int32)} (h : X = some E) (hv : xc (some E) 0 tab = v) : xc X r tab = v := by
  rw [h]; unfold xc at hv ⊢; exact hv
theorem rf_tour_hi (a : Abs) : A_tour a 5 = (-1001, a) := by
  unfold A_tour F_X2_planning
  rw [show F_X6_isWithin 5 0 4 = 0 by decide, if_pos rfl]
  exact AMx_no allow_m2 (xc_at rfl _)
theorem rf_tour_m (a : Abs) : A_tour a (-1) = (-1001, a) := by
  unfold A_tour F_X2_planning
  rw [show F_X6_isWithin (-1) 0 4 = 0 by decide, if_pos rfl]
  exact AMx_no allow_m2 (xc_at rfl _)
theorem rf_step_1 (a : Abs) (h1 : a.1 1 = nI 4) : A_step a 4 9 0 0 0 = (-1001, a) := by
  unfold A_step F_X2_giving
  rw [hT_hi h1, if_pos rfl]
  exact AMx_no allow_m1 (xc_at rfl _)
theorem rf_step_2 (a : Abs) (h1 : a.1 1 = nI 4) : A_step a 0 9 5 0 0 = (-1001, a) := by
  unfold A_step F_X2_giving
  rw [hT_0 h1, if_neg (by decide), show F_X6_isBelow 5 5 = 0 by decide, if_pos rfl]
  exact AMx_no allow_m1 (xc_at rfl _)
theorem rf_step_3 (a : Abs) (h1 : a.1 1 = nI 4) : A_step a 0 9 0 20 0 = (-1001, a) := by
  unfold A_step F_X2_giving
  rw [hT_0 h1, if_neg (by decide), show F_X6_isBelow 0 5 = 1 by decide, if_neg (by decide), show F_X6_isBelow 20 20 = 0 by decide, if_pos rfl]
  exact AMx_no allow_m1 (xc_at rfl _)
theorem rf_step_4 (a : Abs) (h1 : a.1 1 = nI 4) : A_step a 0 9 0 (-1) 0 = (-1001, a) := by
  unfold A_step F_X2_giving
  rw [hT_0 h1, if_neg (by decide), show F_X6_isBelow 0 5 = 1 by decide, if_neg (by decide), show F_X6_isBelow (-1) 20 = 0 by decide, if_pos rfl]
  exact AMx_no allow_m1 (xc_at rfl _)
theorem rf_step_5 (a : Abs) (h1 : a.1 1 = nI 4) : A_step a 0 3 0 0 1 = (-1002, a) := by
  unfold A_step F_X2_giving
  rw [hT_0 h1, if_neg (by decide), show F_X6_isBelow 0 5 = 1 by decide, if_neg (by decide), show F_X6_isBelow 0 20 = 1 by decide, if_neg (by decide), show F_X6_isBelow 3 3 = 0 by decide, if_pos rfl]
  exact AMx_no allow_m2 (xc_at rfl _)
theorem rf_step_6 (a : Abs) (h1 : a.1 1 = nI 4) : A_step a 0 0 0 0 2 = (-1002, a) := by
  unfold A_step F_X2_giving
  rw [hT_0 h1, if_neg (by decide), show F_X6_isBelow 0 5 = 1 by decide, if_neg (by decide), show F_X6_isBelow 0 20 = 1 by decide, if_neg (by decide), show F_X6_isBelow 0 3 = 1 by decide, if_neg (by decide), show F_X6_mostOf 0 = 1 by decide, show F_X6_isWithin 2 1 1 = 0 by decide, if_pos rfl]
  exact AMx_no allow_m2 (xc_at rfl _)
theorem rf_step_7 (a : Abs) (h1 : a.1 1 = nI 4) : A_step a 0 1 0 0 5 = (-1002, a) := by
  unfold A_step F_X2_giving
  rw [hT_0 h1, if_neg (by decide), show F_X6_isBelow 0 5 = 1 by decide, if_neg (by decide), show F_X6_isBelow 0 20 = 1 by decide, if_neg (by decide), show F_X6_isBelow 1 3 = 1 by decide, if_neg (by decide), show F_X6_mostOf 1 = 4 by decide, show F_X6_isWithin 5 1 4 = 0 by decide, if_pos rfl]
  exact AMx_no allow_m2 (xc_at rfl _)
theorem rf_step_8 (a : Abs) (h1 : a.1 1 = nI 4) : A_step a 0 2 0 0 13 = (-1002, a) := by
  unfold A_step F_X2_giving
  rw [hT_0 h1, if_neg (by decide), show F_X6_isBelow 0 5 = 1 by decide, if_neg (by decide), show F_X6_isBelow 0 20 = 1 by decide, if_neg (by decide), show F_X6_isBelow 2 3 = 1 by decide, if_neg (by decide), show F_X6_mostOf 2 = 12 by decide, show F_X6_isWithin 13 1 12 = 0 by decide, if_pos rfl]
  exact AMx_no allow_m2 (xc_at rfl _)
theorem rf_step_9 (a : Abs) (h1 : a.1 1 = nI 4) : A_step a 0 2 0 0 0 = (-1002, a) := by
  unfold A_step F_X2_giving
  rw [hT_0 h1, if_neg (by decide), show F_X6_isBelow 0 5 = 1 by decide, if_neg (by decide), show F_X6_isBelow 0 20 = 1 by decide, if_neg (by decide), show F_X6_isBelow 2 3 = 1 by decide, if_neg (by decide), show F_X6_mostOf 2 = 12 by decide, show F_X6_isWithin 0 1 12 = 0 by decide, if_pos rfl]
  exact AMx_no allow_m2 (xc_at rfl _)
theorem rf_start_hi (a : Abs) (h1 : a.1 1 = nI 4) : A_start a 4 = (-1001, a) := by
  unfold A_start F_X2_starting
  rw [hT_hi h1, if_pos rfl]
  exact AMx_no allow_m1 (xc_at rfl _)
theorem rf_start_m (a : Abs) : A_start a (-1) = (-1001, a) := by
  unfold A_start F_X2_starting
  rw [hasT_m, if_pos rfl]
  exact AMx_no allow_m1 (xc_at rfl _)
theorem rf_back_hi (a : Abs) (h1 : a.1 1 = nI 4) : A_back a 4 = (-1001, a) := by
  unfold A_back F_X2_callingBack
  rw [hT_hi h1, if_pos rfl]
  exact AMx_no allow_m1 (xc_at rfl _)
theorem rf_shut_hi (a : Abs) : A_shut a 5 1 = (-1001, a) := by
  unfold A_shut F_X2_shutting
  rw [show F_X6_isBelow 5 5 = 0 by decide, if_pos rfl]
  exact AMx_no allow_m1 (xc_at rfl _)
theorem rf_shut_m (a : Abs) : A_shut a (-1) 0 = (-1001, a) := by
  unfold A_shut F_X2_shutting
  rw [show F_X6_isBelow (-1) 5 = 0 by decide, if_pos rfl]
  exact AMx_no allow_m1 (xc_at rfl _)
theorem rf_pass_0 (a : Abs) : A_pass a 0 = (-1001, a) := by
  unfold A_pass F_X2_passing
  rw [show F_X6_isWithin 0 1 40 = 0 by decide, if_pos rfl]
  exact AMx_no allow_m2 (xc_at rfl _)
theorem rf_pass_41 (a : Abs) : A_pass a 41 = (-1001, a) := by
  unfold A_pass F_X2_passing
  rw [show F_X6_isWithin 41 1 40 = 0 by decide, if_pos rfl]
  exact AMx_no allow_m2 (xc_at rfl _)
theorem rf_dear_1 (a : Abs) : A_dear a 5 9 = (-1001, a) := by
  unfold A_dear
  exact AMx_no (E := "java/lang/IndexOutOfBoundsException") (by decide) (xc_at rfl _)
theorem rf_dear_2 (a : Abs) : A_dear a 0 0 = (-1002, a) := by
  unfold A_dear
  exact AMx_no (E := "java/lang/IllegalArgumentException") (by decide) (xc_at rfl _)
theorem rf_dear_3 (a : Abs) : A_dear a 0 6 = (-1002, a) := by
  unfold A_dear
  exact AMx_no (E := "java/lang/IllegalArgumentException") (by decide) (xc_at rfl _)
theorem rq_tourOf_1 {f : Nat → Int32} (h1 : f 1 = nI 4) : Q_tourOf f 4 9 = -1001 := by
  unfold Q_tourOf F_X6_tourOf
  rw [nt_hi h1, if_neg (fun z => nomatch z)]
  exact xc_at rfl _
theorem rq_tourOf_2 {f : Nat → Int32} (h1 : f 1 = nI 4) : Q_tourOf f 0 9 = -1002 := by
  unfold Q_tourOf F_X6_tourOf
  rw [nt_0 h1, if_pos rfl, show F_X6_needRange 9 0 8 = some "java/lang/IllegalArgumentException" by decide, if_neg (fun z => nomatch z)]
  exact xc_at rfl _
theorem rq_tourOf_3 {f : Nat → Int32} (h1 : f 1 = nI 4) : Q_tourOf f 0 (-1) = -1002 := by
  unfold Q_tourOf F_X6_tourOf
  rw [nt_0 h1, if_pos rfl, show F_X6_needRange (-1) 0 8 = some "java/lang/IllegalArgumentException" by decide, if_neg (fun z => nomatch z)]
  exact xc_at rfl _
theorem rq_stepOf_1 {f : Nat → Int32} (h1 : f 1 = nI 4) : Q_stepOf f 4 0 0 = -1001 := by
  unfold Q_stepOf F_X6_stepOf
  rw [nt_hi h1, if_neg (fun z => nomatch z)]
  exact xc_at rfl _
theorem rq_stepOf_2 {f : Nat → Int32} (h1 : f 1 = nI 4) {s : Nat} (h2 : f 16 = nI s) (hs : s ≤ 8) : Q_stepOf f 0 (nI s) 9 = -1001 := by
  unfold Q_stepOf F_X6_stepOf
  rw [nt_0 h1, if_pos rfl, show F_X0_get f (F_X6_ofTour 0 2) = nI s from (gT_2 (t := 0) (by omega)).trans h2]
  have e : F_X6_needBelow (nI s) (nI s) = some "java/lang/IndexOutOfBoundsException" := by unfold F_X6_needBelow; rw [below_0 (Nat.le_refl s) (by omega), if_pos rfl]
  rw [e, if_neg (fun z => nomatch z)]
  exact xc_at rfl _
theorem rq_stepOf_3 {f : Nat → Int32} (h1 : f 1 = nI 4) {s : Nat} (h2 : f 16 = nI s) (hs0 : 0 < s) (hs : s ≤ 8) : Q_stepOf f 0 0 5 = -1002 := by
  unfold Q_stepOf F_X6_stepOf
  rw [nt_0 h1, if_pos rfl, show F_X0_get f (F_X6_ofTour 0 2) = nI s from (gT_2 (t := 0) (by omega)).trans h2, show F_X6_needBelow 0 (nI s) = none from below_ok (a := 0) hs0 (by omega), if_pos rfl, show F_X6_needRange 5 0 4 = some "java/lang/IllegalArgumentException" by decide, if_neg (fun z => nomatch z)]
  exact xc_at rfl _
theorem rq_stepOf_4 {f : Nat → Int32} (h1 : f 1 = nI 4) {s : Nat} (h2 : f 16 = nI s) (hs0 : 0 < s) (hs : s ≤ 8) : Q_stepOf f 0 0 (-1) = -1002 := by
  unfold Q_stepOf F_X6_stepOf
  rw [nt_0 h1, if_pos rfl, show F_X0_get f (F_X6_ofTour 0 2) = nI s from (gT_2 (t := 0) (by omega)).trans h2, show F_X6_needBelow 0 (nI s) = none from below_ok (a := 0) hs0 (by omega), if_pos rfl, show F_X6_needRange (-1) 0 4 = some "java/lang/IllegalArgumentException" by decide, if_neg (fun z => nomatch z)]
  exact xc_at rfl _
theorem rq_townOf_1 {f : Nat → Int32} : Q_townOf f 5 9 = -1001 := by
  unfold Q_townOf F_X6_townOf
  rw [show F_X6_needBelow 5 5 = some "java/lang/IndexOutOfBoundsException" by decide, if_neg (fun z => nomatch z)]
  exact xc_at rfl _
theorem rq_townOf_2 {f : Nat → Int32} : Q_townOf f 0 4 = -1002 := by
  unfold Q_townOf F_X6_townOf
  rw [show F_X6_needBelow 0 5 = none by decide, if_pos rfl, show F_X6_needRange 4 0 3 = some "java/lang/IllegalArgumentException" by decide, if_neg (fun z => nomatch z)]
  exact xc_at rfl _
theorem rq_townOf_3 {f : Nat → Int32} : Q_townOf f 0 (-1) = -1002 := by
  unfold Q_townOf F_X6_townOf
  rw [show F_X6_needBelow 0 5 = none by decide, if_pos rfl, show F_X6_needRange (-1) 0 3 = some "java/lang/IllegalArgumentException" by decide, if_neg (fun z => nomatch z)]
  exact xc_at rfl _
theorem rq_left_1 {f : Nat → Int32} : Q_left f 3 0 0 = -1001 := by
  unfold Q_left F_X6_left
  rw [show F_X6_needBelow 3 3 = some "java/lang/IndexOutOfBoundsException" by decide, if_neg (fun z => nomatch z)]
  exact xc_at rfl _
theorem rq_left_2 {f : Nat → Int32} : Q_left f 0 (-1) 0 = -1001 := by
  unfold Q_left F_X6_left
  rw [show F_X6_needBelow 0 3 = none by decide, if_pos rfl, show F_X6_needBelow (-1) 5 = some "java/lang/IndexOutOfBoundsException" by decide, if_neg (fun z => nomatch z)]
  exact xc_at rfl _
theorem rq_leftAgain {f : Nat → Int32} : Q_leftAgain f 0 0 20 = -1001 := by
  unfold Q_leftAgain F_X6_leftAgain
  rw [show F_X6_needBelow 0 3 = none by decide, if_pos rfl, show F_X6_needBelow 0 5 = none by decide, if_pos rfl, show F_X6_needBelow 20 20 = some "java/lang/IndexOutOfBoundsException" by decide, if_neg (fun z => nomatch z)]
  exact xc_at rfl _
theorem rq_faultOf {f : Nat → Int32} (h1 : f 1 = nI 4) : Q_faultOf f 4 = -1001 := by
  unfold Q_faultOf F_X6_faultOf
  rw [nt_hi h1, if_neg (fun z => nomatch z)]
  exact xc_at rfl _
theorem rq_endsIn {f : Nat → Int32} : Q_endsIn f (-1) = -1001 := by
  unfold Q_endsIn F_X6_endsIn
  rw [nt_m, if_neg (fun z => nomatch z)]
  exact xc_at rfl _
theorem rq_costs {f : Nat → Int32} (h1 : f 1 = nI 4) : Q_costs f 4 = -1001 := by
  unfold Q_costs F_X6_costs
  rw [nt_hi h1, if_neg (fun z => nomatch z)]
  exact xc_at rfl _
theorem rq_cheap_1 {f : Nat → Int32} : Q_cheapest f 3 0 99 = -1001 := by
  unfold Q_cheapest F_X6_cheapest
  rw [show F_X6_needBelow 3 3 = some "java/lang/IndexOutOfBoundsException" by decide, if_neg (fun z => nomatch z)]
  exact xc_at rfl _
theorem rq_cheap_2 {f : Nat → Int32} : Q_cheapest f 0 (-1) 99 = -1001 := by
  unfold Q_cheapest F_X6_cheapest
  rw [show F_X6_needBelow 0 3 = none by decide, if_pos rfl, show F_X6_needBelow (-1) 20 = some "java/lang/IndexOutOfBoundsException" by decide, if_neg (fun z => nomatch z)]
  exact xc_at rfl _
theorem rq_cheap_3 {f : Nat → Int32} : Q_cheapest f 0 0 0 = -1002 := by
  unfold Q_cheapest F_X6_cheapest
  rw [show F_X6_needBelow 0 3 = none by decide, if_pos rfl, show F_X6_needBelow 0 20 = none by decide, if_pos rfl, show F_X6_needRange 0 1 12 = some "java/lang/IllegalArgumentException" by decide, if_neg (fun z => nomatch z)]
  exact xc_at rfl _
theorem rq_cheap_4 {f : Nat → Int32} : Q_cheapest f 0 0 13 = -1002 := by
  unfold Q_cheapest F_X6_cheapest
  rw [show F_X6_needBelow 0 3 = none by decide, if_pos rfl, show F_X6_needBelow 0 20 = none by decide, if_pos rfl, show F_X6_needRange 13 1 12 = some "java/lang/IllegalArgumentException" by decide, if_neg (fun z => nomatch z)]
  exact xc_at rfl _
theorem rf_line (a : Abs) (h1 : a.1 1 = nI 4) : A_line a 4 = (-1001, a) := by
  unfold A_line
  rw [nt_hi h1, if_neg (fun z => nomatch z)]
theorem rq_char_m {L : List Int32} : Q_character L (-1) = -1001 := by
  unfold Q_character F_X6_character F_X6_needBelow
  rw [below_m, if_pos rfl, if_neg (fun z => nomatch z)]
  exact xc_at rfl _
theorem rq_char_hi {L : List Int32} (hL : L.length ≤ 91) : Q_character L 100 = -1001 := by
  have e : F_X6_isBelow 100 (nI L.length) = 0 := below_0 (a := 100) (b := L.length) (by omega) (by omega)
  unfold Q_character F_X6_character F_X6_needBelow
  rw [e, if_pos rfl, if_neg (fun z => nomatch z)]
  exact xc_at rfl _
theorem rq_num_hi {f : Nat → Int32} {kp ln : Int32} : Q_number f kp ln 18 = -1001 := by
  unfold Q_number F_X6_number
  rw [show F_X6_needRange 18 0 17 = some "java/lang/IllegalArgumentException" by decide, if_neg (fun z => nomatch z)]
  exact xc_at rfl _
theorem rq_num_m {f : Nat → Int32} {kp ln : Int32} : Q_number f kp ln (-1) = -1001 := by
  unfold Q_number F_X6_number
  rw [show F_X6_needRange (-1) 0 17 = some "java/lang/IllegalArgumentException" by decide, if_neg (fun z => nomatch z)]
  exact xc_at rfl _
theorem nI_lt100 {x : Int32} {n : Nat} (h : x = nI n) (h0 : ¬ x = nI 0) : 0 < n := by
  rcases Nat.eq_zero_or_pos n with z | z
  · exact absurd (by rw [h, z]) h0
  · exact z
theorem rr_start {a : Abs} (h1 : a.1 1 = nI 4) (h0 : ¬ a.1 14 = nI 0) : A_start a 0 = (-1002, ref a 2 (a.1 14)) := by
  unfold A_start F_X2_starting
  rw [hT_0 h1, if_neg (by decide), show F_X0_get a.1 (F_X6_ofTour 0 0) = a.1 14 from gT_0 (t := 0) (by omega), if_neg (show ¬ a.1 14 = 0 from h0)]
  exact AMx_no (allow_pos (n := 2) (by omega) (by omega)) (xc_at rfl _)
theorem rr_step {a : Abs} (h1 : a.1 1 = nI 4) (h0 : ¬ a.1 14 = nI 0) : A_step a 0 0 0 0 1 = (-1003, ref a 2 (a.1 14)) := by
  unfold A_step F_X2_giving
  rw [hT_0 h1, if_neg (by decide), show F_X6_isBelow 0 5 = 1 by decide, if_neg (by decide), show F_X6_isBelow 0 20 = 1 by decide, if_neg (by decide), show F_X6_isBelow 0 3 = 1 by decide, if_neg (by decide), show F_X6_mostOf 0 = 1 by decide, show F_X6_isWithin 1 1 1 = 1 by decide, if_neg (by decide), show F_X0_get a.1 (F_X6_ofTour 0 0) = a.1 14 from gT_0 (t := 0) (by omega), if_neg (show ¬ a.1 14 = 0 from h0)]
  exact AMx_no (allow_pos (n := 2) (by omega) (by omega)) (xc_at rfl _)
theorem rr_back {a : Abs} (h1 : a.1 1 = nI 4) (h3 : a.1 41 = nI 0) : A_back a 3 = (-1002, ref a 2 0) := by
  unfold A_back F_X2_callingBack
  rw [hT_3 h1, if_neg (by decide), show F_X0_get a.1 (F_X6_ofTour 3 0) = nI 0 from (gT_0 (t := 3) (by omega)).trans h3, if_neg (by decide)]
  exact AMx_no (allow_pos (n := 2) (by omega) (by omega)) (xc_at rfl _)
theorem rr_shut {a : Abs} (h4 : a.1 324 = nI 1) : A_shut a 4 0 = (-1002, ref a 4 1) := by
  unfold A_shut F_X2_shutting
  rw [show F_X6_isBelow 4 5 = 1 by decide, if_neg (by decide), show F_X0_get a.1 (F_X6_ofTown 4 0) = nI 1 from (congrArg (F_X0_get a.1) (iW_0 4)).trans ((get_nI (by omega)).trans h4), if_pos (by decide), if_neg (by decide)]
  exact AMx_no (allow_pos (n := 4) (by omega) (by omega)) (xc_at rfl _)
end TSrefF
