section
abbrev rm_X6_isBelow : Room := { frames := 0, cells := 0, slots := 0, locals := 0 }
def F_X6_isBelow  (iv : Int32) (ib : Int32) : Int32 := (if iv < (0 : Int32) then (0 : Int32) else (if ib ≤ iv then (0 : Int32) else (1 : Int32)))
set_option maxHeartbeats 4000000 in
set_option maxRecDepth 100000 in
theorem c_X6_isBelow {l : Launch} {D : va_G} {k : tyK}  (iv : Int32) (ib : Int32) : FCi l yX6_isBelow wsX6_isBelow rm_X6_isBelow D k [.int iv, .int ib] [] (fun r (_ : Unit) => r = (F_X6_isBelow iv ib)) (fun _ => []) := by
  refine fc_start (cc := cX6_isBelow) (maxL := 2) (ret := (some .boolean)) (own := RX6) (Qc := fun A => va_Qi (fun r (_ : Unit) => r = (F_X6_isBelow iv ib)) (Bt D (fun _ => []) A) A) (by decide) rfl rfl (Nat.le_of_ble_eq_true rfl) ?_
  intro p e s m below meth c A H hx hb hml hr hts hown hlk hname hA hP hE hD hS ls hl
  obtain ⟨RES, hF⟩ : ∃ z, (F_X6_isBelow iv ib) = z := ⟨_, rfl⟩
  rw [hF]
  unfold F_X6_isBelow at hF
  have hl : lv_has ls 2 [(0, .int iv), (1, .int ib)] := hl
  obtain ⟨locs, hlocs⟩ : ∃ z : List Loc, z = [] := ⟨_, rfl⟩
  rw [← hlocs] at hS ⊢
  refine lv_iload_n hx hb dX6_isBelow_0 rfl (lv_at hl 0 rfl) ?_
  refine lv_if_lt (tgt := 13) hx hb dX6_isBelow_1 (by decide) (fun c_1 => ?_) (fun c_1 => ?_)
  · rw [if_pos c_1] at hF
    refine lv_iconst (v := 0) hx hb dX6_isBelow_13 (by decide) ?_
    subst hF
    exact fc_iret hx hb hr rfl hlk hS () rfl hP hD (by decide) (by decide) dX6_isBelow_14
  · rw [if_neg c_1] at hF
    refine lv_iload_n hx hb dX6_isBelow_4 rfl (lv_at hl 0 rfl) ?_
    refine lv_iload_n hx hb dX6_isBelow_5 rfl (lv_at hl 1 rfl) ?_
    refine lv_icmp_ge (tgt := 13) hx hb dX6_isBelow_6 (by decide) (fun c_2 => ?_) (fun c_2 => ?_)
    · rw [if_pos c_2] at hF
      refine lv_iconst (v := 0) hx hb dX6_isBelow_13 (by decide) ?_
      subst hF
      exact fc_iret hx hb hr rfl hlk hS () rfl hP hD (by decide) (by decide) dX6_isBelow_14
    · rw [if_neg c_2] at hF
      refine lv_iconst (v := 1) hx hb dX6_isBelow_9 (by decide) ?_
      refine lv_goto (tgt := 14) hx hb dX6_isBelow_10 (by decide) ?_
      subst hF
      exact fc_iret hx hb hr rfl hlk hS () rfl hP hD (by decide) (by decide) dX6_isBelow_14

theorem F_X6_isBelow_b (iv ib : Int32) : F_X6_isBelow iv ib = 0 ∨ F_X6_isBelow iv ib = 1 := by
  unfold F_X6_isBelow
  repeat' split
  all_goals first | exact Or.inl rfl | exact Or.inr rfl

abbrev rm_X6_isWithin : Room := { frames := 0, cells := 0, slots := 0, locals := 0 }
def F_X6_isWithin  (iv : Int32) (ilo : Int32) (ihi : Int32) : Int32 := (if iv < ilo then (0 : Int32) else (if ihi < iv then (0 : Int32) else (1 : Int32)))
set_option maxHeartbeats 4000000 in
set_option maxRecDepth 100000 in
theorem c_X6_isWithin {l : Launch} {D : va_G} {k : tyK}  (iv : Int32) (ilo : Int32) (ihi : Int32) : FCi l yX6_isWithin wsX6_isWithin rm_X6_isWithin D k [.int iv, .int ilo, .int ihi] [] (fun r (_ : Unit) => r = (F_X6_isWithin iv ilo ihi)) (fun _ => []) := by
  refine fc_start (cc := cX6_isWithin) (maxL := 3) (ret := (some .boolean)) (own := RX6) (Qc := fun A => va_Qi (fun r (_ : Unit) => r = (F_X6_isWithin iv ilo ihi)) (Bt D (fun _ => []) A) A) (by decide) rfl rfl (Nat.le_of_ble_eq_true rfl) ?_
  intro p e s m below meth c A H hx hb hml hr hts hown hlk hname hA hP hE hD hS ls hl
  obtain ⟨RES, hF⟩ : ∃ z, (F_X6_isWithin iv ilo ihi) = z := ⟨_, rfl⟩
  rw [hF]
  unfold F_X6_isWithin at hF
  have hl : lv_has ls 3 [(0, .int iv), (1, .int ilo), (2, .int ihi)] := hl
  obtain ⟨locs, hlocs⟩ : ∃ z : List Loc, z = [] := ⟨_, rfl⟩
  rw [← hlocs] at hS ⊢
  refine lv_iload_n hx hb dX6_isWithin_0 rfl (lv_at hl 0 rfl) ?_
  refine lv_iload_n hx hb dX6_isWithin_1 rfl (lv_at hl 1 rfl) ?_
  refine lv_icmp_lt (tgt := 14) hx hb dX6_isWithin_2 (by decide) (fun c_1 => ?_) (fun c_1 => ?_)
  · rw [if_pos c_1] at hF
    refine lv_iconst (v := 0) hx hb dX6_isWithin_14 (by decide) ?_
    subst hF
    exact fc_iret hx hb hr rfl hlk hS () rfl hP hD (by decide) (by decide) dX6_isWithin_15
  · rw [if_neg c_1] at hF
    refine lv_iload_n hx hb dX6_isWithin_5 rfl (lv_at hl 0 rfl) ?_
    refine lv_iload_n hx hb dX6_isWithin_6 rfl (lv_at hl 2 rfl) ?_
    refine lv_icmp_gt (tgt := 14) hx hb dX6_isWithin_7 (by decide) (fun c_2 => ?_) (fun c_2 => ?_)
    · rw [if_pos c_2] at hF
      refine lv_iconst (v := 0) hx hb dX6_isWithin_14 (by decide) ?_
      subst hF
      exact fc_iret hx hb hr rfl hlk hS () rfl hP hD (by decide) (by decide) dX6_isWithin_15
    · rw [if_neg c_2] at hF
      refine lv_iconst (v := 1) hx hb dX6_isWithin_10 (by decide) ?_
      refine lv_goto (tgt := 15) hx hb dX6_isWithin_11 (by decide) ?_
      subst hF
      exact fc_iret hx hb hr rfl hlk hS () rfl hP hD (by decide) (by decide) dX6_isWithin_15

theorem F_X6_isWithin_b (iv ilo ihi : Int32) : F_X6_isWithin iv ilo ihi = 0 ∨ F_X6_isWithin iv ilo ihi = 1 := by
  unfold F_X6_isWithin
  repeat' split
  all_goals first | exact Or.inl rfl | exact Or.inr rfl

abbrev rm_X6_mostOf : Room := { frames := 0, cells := 0, slots := 0, locals := 0 }
def F_X6_mostOf  (ik : Int32) : Int32 := (if ik = (0 : Int32) then (1 : Int32) else if ik = (1 : Int32) then (4 : Int32) else if ik = (2 : Int32) then (12 : Int32) else (0 : Int32))
set_option maxHeartbeats 4000000 in
set_option maxRecDepth 100000 in
theorem c_X6_mostOf {l : Launch} {D : va_G} {k : tyK}  (ik : Int32) : FCi l yX6_mostOf wsX6_mostOf rm_X6_mostOf D k [.int ik] [] (fun r (_ : Unit) => r = (F_X6_mostOf ik)) (fun _ => []) := by
  refine fc_start (cc := cX6_mostOf) (maxL := 1) (ret := (some .int)) (own := RX6) (Qc := fun A => va_Qi (fun r (_ : Unit) => r = (F_X6_mostOf ik)) (Bt D (fun _ => []) A) A) (by decide) rfl rfl (Nat.le_of_ble_eq_true rfl) ?_
  intro p e s m below meth c A H hx hb hml hr hts hown hlk hname hA hP hE hD hS ls hl
  obtain ⟨RES, hF⟩ : ∃ z, (F_X6_mostOf ik) = z := ⟨_, rfl⟩
  rw [hF]
  unfold F_X6_mostOf at hF
  have hl : lv_has ls 1 [(0, .int ik)] := hl
  obtain ⟨locs, hlocs⟩ : ∃ z : List Loc, z = [] := ⟨_, rfl⟩
  rw [← hlocs] at hS ⊢
  refine lv_iload_n hx hb dX6_mostOf_0 rfl (lv_at hl 0 rfl) ?_
  by_cases c_1 : ik = (0 : Int32)
  · rw [if_pos c_1] at hF
    refine lv_tableIn (tgt := 28) (off := 27) hx hb dX6_mostOf_1 (by rw [c_1]; decide) (by rw [c_1]; decide) (by rw [c_1]; rfl) (by decide) ?_
    refine lv_iconst (v := 1) hx hb dX6_mostOf_28 (by decide) ?_
    subst hF
    exact fc_iret hx hb hr rfl hlk hS () rfl hP hD (by decide) (by decide) dX6_mostOf_29
  rw [if_neg c_1] at hF
  by_cases c_2 : ik = (1 : Int32)
  · rw [if_pos c_2] at hF
    refine lv_tableIn (tgt := 30) (off := 29) hx hb dX6_mostOf_1 (by rw [c_2]; decide) (by rw [c_2]; decide) (by rw [c_2]; rfl) (by decide) ?_
    refine lv_iconst (v := 4) hx hb dX6_mostOf_30 (by decide) ?_
    subst hF
    exact fc_iret hx hb hr rfl hlk hS () rfl hP hD (by decide) (by decide) dX6_mostOf_31
  rw [if_neg c_2] at hF
  by_cases c_3 : ik = (2 : Int32)
  · rw [if_pos c_3] at hF
    refine lv_tableIn (tgt := 32) (off := 31) hx hb dX6_mostOf_1 (by rw [c_3]; decide) (by rw [c_3]; decide) (by rw [c_3]; rfl) (by decide) ?_
    refine lv_bipush (v := 12) hx hb dX6_mostOf_32 (by decide) ?_
    subst hF
    exact fc_iret hx hb hr rfl hlk hS () rfl hP hD (by decide) (by decide) dX6_mostOf_34
  rw [if_neg c_3] at hF
  refine lv_tableOut (tgt := 35) hx hb dX6_mostOf_1 (by have z := And.intro (i32_ne (n := 0) rfl c_1) True.intro; have z0 := i32_ne (n := 0) rfl c_1; have z1 := i32_ne (n := 1) rfl c_2; have z2 := i32_ne (n := 2) rfl c_3; omega) (by decide) ?_
  refine lv_iconst (v := 0) hx hb dX6_mostOf_35 (by decide) ?_
  subst hF
  exact fc_iret hx hb hr rfl hlk hS () rfl hP hD (by decide) (by decide) dX6_mostOf_36

abbrev rm_X6_coinsOf : Room := { frames := 0, cells := 0, slots := 0, locals := 0 }
def F_X6_coinsOf  (ik : Int32) : Int32 := (if ik = (0 : Int32) then (6 : Int32) else if ik = (1 : Int32) then (2 : Int32) else if ik = (2 : Int32) then (1 : Int32) else (0 : Int32))
set_option maxHeartbeats 4000000 in
set_option maxRecDepth 100000 in
theorem c_X6_coinsOf {l : Launch} {D : va_G} {k : tyK}  (ik : Int32) : FCi l yX6_coinsOf wsX6_coinsOf rm_X6_coinsOf D k [.int ik] [] (fun r (_ : Unit) => r = (F_X6_coinsOf ik)) (fun _ => []) := by
  refine fc_start (cc := cX6_coinsOf) (maxL := 1) (ret := (some .int)) (own := RX6) (Qc := fun A => va_Qi (fun r (_ : Unit) => r = (F_X6_coinsOf ik)) (Bt D (fun _ => []) A) A) (by decide) rfl rfl (Nat.le_of_ble_eq_true rfl) ?_
  intro p e s m below meth c A H hx hb hml hr hts hown hlk hname hA hP hE hD hS ls hl
  obtain ⟨RES, hF⟩ : ∃ z, (F_X6_coinsOf ik) = z := ⟨_, rfl⟩
  rw [hF]
  unfold F_X6_coinsOf at hF
  have hl : lv_has ls 1 [(0, .int ik)] := hl
  obtain ⟨locs, hlocs⟩ : ∃ z : List Loc, z = [] := ⟨_, rfl⟩
  rw [← hlocs] at hS ⊢
  refine lv_iload_n hx hb dX6_coinsOf_0 rfl (lv_at hl 0 rfl) ?_
  by_cases c_1 : ik = (0 : Int32)
  · rw [if_pos c_1] at hF
    refine lv_tableIn (tgt := 28) (off := 27) hx hb dX6_coinsOf_1 (by rw [c_1]; decide) (by rw [c_1]; decide) (by rw [c_1]; rfl) (by decide) ?_
    refine lv_bipush (v := 6) hx hb dX6_coinsOf_28 (by decide) ?_
    subst hF
    exact fc_iret hx hb hr rfl hlk hS () rfl hP hD (by decide) (by decide) dX6_coinsOf_30
  rw [if_neg c_1] at hF
  by_cases c_2 : ik = (1 : Int32)
  · rw [if_pos c_2] at hF
    refine lv_tableIn (tgt := 31) (off := 30) hx hb dX6_coinsOf_1 (by rw [c_2]; decide) (by rw [c_2]; decide) (by rw [c_2]; rfl) (by decide) ?_
    refine lv_iconst (v := 2) hx hb dX6_coinsOf_31 (by decide) ?_
    subst hF
    exact fc_iret hx hb hr rfl hlk hS () rfl hP hD (by decide) (by decide) dX6_coinsOf_32
  rw [if_neg c_2] at hF
  by_cases c_3 : ik = (2 : Int32)
  · rw [if_pos c_3] at hF
    refine lv_tableIn (tgt := 33) (off := 32) hx hb dX6_coinsOf_1 (by rw [c_3]; decide) (by rw [c_3]; decide) (by rw [c_3]; rfl) (by decide) ?_
    refine lv_iconst (v := 1) hx hb dX6_coinsOf_33 (by decide) ?_
    subst hF
    exact fc_iret hx hb hr rfl hlk hS () rfl hP hD (by decide) (by decide) dX6_coinsOf_34
  rw [if_neg c_3] at hF
  refine lv_tableOut (tgt := 35) hx hb dX6_coinsOf_1 (by have z := And.intro (i32_ne (n := 0) rfl c_1) True.intro; have z0 := i32_ne (n := 0) rfl c_1; have z1 := i32_ne (n := 1) rfl c_2; have z2 := i32_ne (n := 2) rfl c_3; omega) (by decide) ?_
  refine lv_iconst (v := 0) hx hb dX6_coinsOf_35 (by decide) ?_
  subst hF
  exact fc_iret hx hb hr rfl hlk hS () rfl hP hD (by decide) (by decide) dX6_coinsOf_36

abbrev rm_X6_ofTour : Room := { frames := 0, cells := 0, slots := 0, locals := 0 }
def F_X6_ofTour  (it : Int32) (iw : Int32) : Int32 := (((14 : Int32) + (it * (9 : Int32))) + iw)
set_option maxHeartbeats 4000000 in
set_option maxRecDepth 100000 in
theorem c_X6_ofTour {l : Launch} {D : va_G} {k : tyK}  (it : Int32) (iw : Int32) : FCi l yX6_ofTour wsX6_ofTour rm_X6_ofTour D k [.int it, .int iw] [] (fun r (_ : Unit) => r = (F_X6_ofTour it iw)) (fun _ => []) := by
  refine fc_start (cc := cX6_ofTour) (maxL := 2) (ret := (some .int)) (own := RX6) (Qc := fun A => va_Qi (fun r (_ : Unit) => r = (F_X6_ofTour it iw)) (Bt D (fun _ => []) A) A) (by decide) rfl rfl (Nat.le_of_ble_eq_true rfl) ?_
  intro p e s m below meth c A H hx hb hml hr hts hown hlk hname hA hP hE hD hS ls hl
  obtain ⟨RES, hF⟩ : ∃ z, (F_X6_ofTour it iw) = z := ⟨_, rfl⟩
  rw [hF]
  unfold F_X6_ofTour at hF
  have hl : lv_has ls 2 [(0, .int it), (1, .int iw)] := hl
  obtain ⟨locs, hlocs⟩ : ∃ z : List Loc, z = [] := ⟨_, rfl⟩
  rw [← hlocs] at hS ⊢
  refine lv_bipush (v := 14) hx hb dX6_ofTour_0 (by decide) ?_
  refine lv_iload_n hx hb dX6_ofTour_2 rfl (lv_at hl 0 rfl) ?_
  refine lv_bipush (v := 9) hx hb dX6_ofTour_3 (by decide) ?_
  refine lv_imul hx hb dX6_ofTour_5 ?_
  refine lv_iadd hx hb dX6_ofTour_6 ?_
  refine lv_iload_n hx hb dX6_ofTour_7 rfl (lv_at hl 1 rfl) ?_
  refine lv_iadd hx hb dX6_ofTour_8 ?_
  subst hF
  exact fc_iret hx hb hr rfl hlk hS () rfl hP hD (by decide) (by decide) dX6_ofTour_9

abbrev rm_X6_ofStep : Room := { frames := 0, cells := 0, slots := 0, locals := 0 }
def F_X6_ofStep  (it : Int32) (is : Int32) (iw : Int32) : Int32 := (((68 : Int32) + (((it * (8 : Int32)) + is) * (5 : Int32))) + iw)
set_option maxHeartbeats 4000000 in
set_option maxRecDepth 100000 in
theorem c_X6_ofStep {l : Launch} {D : va_G} {k : tyK}  (it : Int32) (is : Int32) (iw : Int32) : FCi l yX6_ofStep wsX6_ofStep rm_X6_ofStep D k [.int it, .int is, .int iw] [] (fun r (_ : Unit) => r = (F_X6_ofStep it is iw)) (fun _ => []) := by
  refine fc_start (cc := cX6_ofStep) (maxL := 3) (ret := (some .int)) (own := RX6) (Qc := fun A => va_Qi (fun r (_ : Unit) => r = (F_X6_ofStep it is iw)) (Bt D (fun _ => []) A) A) (by decide) rfl rfl (Nat.le_of_ble_eq_true rfl) ?_
  intro p e s m below meth c A H hx hb hml hr hts hown hlk hname hA hP hE hD hS ls hl
  obtain ⟨RES, hF⟩ : ∃ z, (F_X6_ofStep it is iw) = z := ⟨_, rfl⟩
  rw [hF]
  unfold F_X6_ofStep at hF
  have hl : lv_has ls 3 [(0, .int it), (1, .int is), (2, .int iw)] := hl
  obtain ⟨locs, hlocs⟩ : ∃ z : List Loc, z = [] := ⟨_, rfl⟩
  rw [← hlocs] at hS ⊢
  refine lv_bipush (v := 68) hx hb dX6_ofStep_0 (by decide) ?_
  refine lv_iload_n hx hb dX6_ofStep_2 rfl (lv_at hl 0 rfl) ?_
  refine lv_bipush (v := 8) hx hb dX6_ofStep_3 (by decide) ?_
  refine lv_imul hx hb dX6_ofStep_5 ?_
  refine lv_iload_n hx hb dX6_ofStep_6 rfl (lv_at hl 1 rfl) ?_
  refine lv_iadd hx hb dX6_ofStep_7 ?_
  refine lv_iconst (v := 5) hx hb dX6_ofStep_8 (by decide) ?_
  refine lv_imul hx hb dX6_ofStep_9 ?_
  refine lv_iadd hx hb dX6_ofStep_10 ?_
  refine lv_iload_n hx hb dX6_ofStep_11 rfl (lv_at hl 2 rfl) ?_
  refine lv_iadd hx hb dX6_ofStep_12 ?_
  subst hF
  exact fc_iret hx hb hr rfl hlk hS () rfl hP hD (by decide) (by decide) dX6_ofStep_13

abbrev rm_X6_ofTown : Room := { frames := 0, cells := 0, slots := 0, locals := 0 }
def F_X6_ofTown  (iw : Int32) (ix : Int32) : Int32 := (((308 : Int32) + (iw * (4 : Int32))) + ix)
set_option maxHeartbeats 4000000 in
set_option maxRecDepth 100000 in
theorem c_X6_ofTown {l : Launch} {D : va_G} {k : tyK}  (iw : Int32) (ix : Int32) : FCi l yX6_ofTown wsX6_ofTown rm_X6_ofTown D k [.int iw, .int ix] [] (fun r (_ : Unit) => r = (F_X6_ofTown iw ix)) (fun _ => []) := by
  refine fc_start (cc := cX6_ofTown) (maxL := 2) (ret := (some .int)) (own := RX6) (Qc := fun A => va_Qi (fun r (_ : Unit) => r = (F_X6_ofTown iw ix)) (Bt D (fun _ => []) A) A) (by decide) rfl rfl (Nat.le_of_ble_eq_true rfl) ?_
  intro p e s m below meth c A H hx hb hml hr hts hown hlk hname hA hP hE hD hS ls hl
  obtain ⟨RES, hF⟩ : ∃ z, (F_X6_ofTown iw ix) = z := ⟨_, rfl⟩
  rw [hF]
  unfold F_X6_ofTown at hF
  have hl : lv_has ls 2 [(0, .int iw), (1, .int ix)] := hl
  obtain ⟨locs, hlocs⟩ : ∃ z : List Loc, z = [] := ⟨_, rfl⟩
  rw [← hlocs] at hS ⊢
  refine lv_sipush (v := 308) hx hb dX6_ofTown_0 (by decide) ?_
  refine lv_iload_n hx hb dX6_ofTown_3 rfl (lv_at hl 0 rfl) ?_
  refine lv_iconst (v := 4) hx hb dX6_ofTown_4 (by decide) ?_
  refine lv_imul hx hb dX6_ofTown_5 ?_
  refine lv_iadd hx hb dX6_ofTown_6 ?_
  refine lv_iload_n hx hb dX6_ofTown_7 rfl (lv_at hl 1 rfl) ?_
  refine lv_iadd hx hb dX6_ofTown_8 ?_
  subst hF
  exact fc_iret hx hb hr rfl hlk hS () rfl hP hD (by decide) (by decide) dX6_ofTown_9

abbrev rm_X6_ofLeft : Room := { frames := 0, cells := 0, slots := 0, locals := 0 }
def F_X6_ofLeft  (ik : Int32) (iw : Int32) (id : Int32) : Int32 := (((328 : Int32) + (((ik * (5 : Int32)) + iw) * (20 : Int32))) + id)
set_option maxHeartbeats 4000000 in
set_option maxRecDepth 100000 in
theorem c_X6_ofLeft {l : Launch} {D : va_G} {k : tyK}  (ik : Int32) (iw : Int32) (id : Int32) : FCi l yX6_ofLeft wsX6_ofLeft rm_X6_ofLeft D k [.int ik, .int iw, .int id] [] (fun r (_ : Unit) => r = (F_X6_ofLeft ik iw id)) (fun _ => []) := by
  refine fc_start (cc := cX6_ofLeft) (maxL := 3) (ret := (some .int)) (own := RX6) (Qc := fun A => va_Qi (fun r (_ : Unit) => r = (F_X6_ofLeft ik iw id)) (Bt D (fun _ => []) A) A) (by decide) rfl rfl (Nat.le_of_ble_eq_true rfl) ?_
  intro p e s m below meth c A H hx hb hml hr hts hown hlk hname hA hP hE hD hS ls hl
  obtain ⟨RES, hF⟩ : ∃ z, (F_X6_ofLeft ik iw id) = z := ⟨_, rfl⟩
  rw [hF]
  unfold F_X6_ofLeft at hF
  have hl : lv_has ls 3 [(0, .int ik), (1, .int iw), (2, .int id)] := hl
  obtain ⟨locs, hlocs⟩ : ∃ z : List Loc, z = [] := ⟨_, rfl⟩
  rw [← hlocs] at hS ⊢
  refine lv_sipush (v := 328) hx hb dX6_ofLeft_0 (by decide) ?_
  refine lv_iload_n hx hb dX6_ofLeft_3 rfl (lv_at hl 0 rfl) ?_
  refine lv_iconst (v := 5) hx hb dX6_ofLeft_4 (by decide) ?_
  refine lv_imul hx hb dX6_ofLeft_5 ?_
  refine lv_iload_n hx hb dX6_ofLeft_6 rfl (lv_at hl 1 rfl) ?_
  refine lv_iadd hx hb dX6_ofLeft_7 ?_
  refine lv_bipush (v := 20) hx hb dX6_ofLeft_8 (by decide) ?_
  refine lv_imul hx hb dX6_ofLeft_10 ?_
  refine lv_iadd hx hb dX6_ofLeft_11 ?_
  refine lv_iload_n hx hb dX6_ofLeft_12 rfl (lv_at hl 2 rfl) ?_
  refine lv_iadd hx hb dX6_ofLeft_13 ?_
  subst hF
  exact fc_iret hx hb hr rfl hlk hS () rfl hP hD (by decide) (by decide) dX6_ofLeft_14

abbrev rm_X0_get : Room := { frames := 0, cells := 0, slots := 0, locals := 0 }
theorem in_X0_get_X0 : ∀ w ∈ wsX00, w ∈ wsX0_get := by decide +kernel
theorem lk_X0_get_9 : (Cond.fieldLink RX0 9 "TheatreSaga$Books" "cells" "[I") ∈ wsX0_get := by decide +kernel
def F_X0_get (f : (Nat → Int32)) (i : Int32) : Int32 := (if i < (0 : Int32) then (0 : Int32) else (if (628 : Int32) ≤ i then (0 : Int32) else (f (i).toNatClampNeg)))
set_option maxHeartbeats 4000000 in
set_option maxRecDepth 100000 in
theorem c_X0_get {l : Launch} {D : va_G} {k : tyK} (b r : Nat) (f : (Nat → Int32)) (i : Int32) : FCi l yX0_get wsX0_get rm_X0_get D k [.ref b, .int i] [(b, .inr (4, [.ref r])), (r, .inl (k.1, 628, .inl f))] (fun r (_ : Unit) => r = (F_X0_get f i)) (fun _ => [(b, .inr (4, [.ref r])), (r, .inl (k.1, 628, .inl f))]) := by
  refine fc_start (cc := cX0_get) (maxL := 2) (ret := (some .int)) (own := RX0) (Qc := fun A => va_Qi (fun r (_ : Unit) => r = (F_X0_get f i)) (Bt D (fun _ => [(b, .inr (4, [.ref r])), (r, .inl (k.1, 628, .inl f))]) A) A) (by decide) rfl rfl (Nat.le_of_ble_eq_true rfl) ?_
  intro p e s m below meth c A H hx hb hml hr hts hown hlk hname hA hP hE hD hS ls hl
  obtain ⟨RES, hF⟩ : ∃ z, (F_X0_get f i) = z := ⟨_, rfl⟩
  rw [hF]
  unfold F_X0_get at hF
  have hl : lv_has ls 2 [(0, .ref b), (1, .int i)] := hl
  obtain ⟨locs, hlocs⟩ : ∃ z : List Loc, z = [] := ⟨_, rfl⟩
  rw [← hlocs] at hS ⊢
  refine lv_iload_n hx hb dX0_get_0 rfl (lv_at hl 1 rfl) ?_
  refine lv_if_lt (tgt := 22) hx hb dX0_get_1 (by decide) (fun c_1 => ?_) (fun c_1 => ?_)
  · rw [if_pos c_1] at hF
    refine lv_iconst (v := 0) hx hb dX0_get_22 (by decide) ?_
    subst hF
    exact fc_iret hx hb hr rfl hlk hS () rfl hP hD (by decide) (by decide) dX0_get_23
  · rw [if_neg c_1] at hF
    refine lv_iload_n hx hb dX0_get_4 rfl (lv_at hl 1 rfl) ?_
    refine lv_aload_n hx hb dX0_get_5 rfl (lv_at hl 0 rfl) ?_
    refine va_get (D := D) (ci := 4) (v := .ref r) (C := RX0) (T := TX0) (N := 1) hx hb hts in_X0_get_X0 hown hE.1 hP 0 rfl rfl 0 (by decide) (hts _ lk_X0_get_9) (fun _ h9 => h9) rfl dX0_get_6 ?_
    refine va_alen (v := (628 : Int32)) hx hb hE.1 hP 1 0 rfl rfl rfl dX0_get_9 ?_
    refine lv_icmp_ge (tgt := 22) hx hb dX0_get_10 (by decide) (fun c_2 => ?_) (fun c_2 => ?_)
    · rw [if_pos c_2] at hF
      refine lv_iconst (v := 0) hx hb dX0_get_22 (by decide) ?_
      subst hF
      exact fc_iret hx hb hr rfl hlk hS () rfl hP hD (by decide) (by decide) dX0_get_23
    · rw [if_neg c_2] at hF
      refine lv_aload_n hx hb dX0_get_13 rfl (lv_at hl 0 rfl) ?_
      refine va_get (D := D) (ci := 4) (v := .ref r) (C := RX0) (T := TX0) (N := 1) hx hb hts in_X0_get_X0 hown hE.1 hP 0 rfl rfl 0 (by decide) (hts _ lk_X0_get_9) (fun _ h9 => h9) rfl dX0_get_14 ?_
      refine lv_iload_n hx hb dX0_get_17 rfl (lv_at hl 1 rfl) ?_
      refine va_iald hx hb hE.1 hP 1 0 rfl rfl (vp_of (by decide) c_1 c_2) dX0_get_18 ?_
      refine lv_goto (tgt := 23) hx hb dX0_get_19 (by decide) ?_
      subst hF
      exact fc_iret hx hb hr rfl hlk hS () rfl hP hD (by decide) (by decide) dX0_get_23

abbrev rm_X0_set : Room := { frames := 0, cells := 0, slots := 0, locals := 0 }
theorem in_X0_set_X0 : ∀ w ∈ wsX00, w ∈ wsX0_set := by decide +kernel
theorem lk_X0_set_9 : (Cond.fieldLink RX0 9 "TheatreSaga$Books" "cells" "[I") ∈ wsX0_set := by decide +kernel
def F_X0_set (f : (Nat → Int32)) (i : Int32) (v : Int32) : (Nat → Int32) := (if i < (0 : Int32) then f else (if (628 : Int32) ≤ i then f else (upd f (i).toNatClampNeg v)))
set_option maxHeartbeats 4000000 in
set_option maxRecDepth 100000 in
theorem c_X0_set {l : Launch} {D : va_G} {k : tyK} (b r : Nat) (f : (Nat → Int32)) (i : Int32) (v : Int32) : FCv l yX0_set wsX0_set rm_X0_set D k [.ref b, .int i, .int v] [(b, .inr (4, [.ref r])), (r, .inl (k.1, 628, .inl f))] (fun (_ : Unit) => True) (fun _ => [(b, .inr (4, [.ref r])), (r, .inl (k.1, 628, .inl (F_X0_set f i v)))]) := by
  refine fc_start (cc := cX0_set) (maxL := 3) (ret := none) (own := RX0) (Qc := fun A => va_Qv (fun (_ : Unit) => True) (Bt D (fun _ => [(b, .inr (4, [.ref r])), (r, .inl (k.1, 628, .inl (F_X0_set f i v)))]) A) A) (by decide) rfl rfl (Nat.le_of_ble_eq_true rfl) ?_
  intro p e s m below meth c A H hx hb hml hr hts hown hlk hname hA hP hE hD hS ls hl
  obtain ⟨RES, hF⟩ : ∃ z, (F_X0_set f i v) = z := ⟨_, rfl⟩
  rw [hF]
  unfold F_X0_set at hF
  have hl : lv_has ls 3 [(0, .ref b), (1, .int i), (2, .int v)] := hl
  obtain ⟨locs, hlocs⟩ : ∃ z : List Loc, z = [] := ⟨_, rfl⟩
  rw [← hlocs] at hS ⊢
  refine lv_iload_n hx hb dX0_set_0 rfl (lv_at hl 1 rfl) ?_
  refine lv_if_lt (tgt := 20) hx hb dX0_set_1 (by decide) (fun c_1 => ?_) (fun c_1 => ?_)
  · rw [if_pos c_1] at hF
    subst hF
    exact fc_vret hx hb hr hlk hS () trivial hP hD (by decide) (by decide) dX0_set_20
  · rw [if_neg c_1] at hF
    refine lv_iload_n hx hb dX0_set_4 rfl (lv_at hl 1 rfl) ?_
    refine lv_aload_n hx hb dX0_set_5 rfl (lv_at hl 0 rfl) ?_
    refine va_get (D := D) (ci := 4) (v := .ref r) (C := RX0) (T := TX0) (N := 1) hx hb hts in_X0_set_X0 hown hE.1 hP 0 rfl rfl 0 (by decide) (hts _ lk_X0_set_9) (fun _ h9 => h9) rfl dX0_set_6 ?_
    refine va_alen (v := (628 : Int32)) hx hb hE.1 hP 1 0 rfl rfl rfl dX0_set_9 ?_
    refine lv_icmp_ge (tgt := 20) hx hb dX0_set_10 (by decide) (fun c_2 => ?_) (fun c_2 => ?_)
    · rw [if_pos c_2] at hF
      subst hF
      exact fc_vret hx hb hr hlk hS () trivial hP hD (by decide) (by decide) dX0_set_20
    · rw [if_neg c_2] at hF
      refine lv_aload_n hx hb dX0_set_13 rfl (lv_at hl 0 rfl) ?_
      refine va_get (D := D) (ci := 4) (v := .ref r) (C := RX0) (T := TX0) (N := 1) hx hb hts in_X0_set_X0 hown hE.1 hP 0 rfl rfl 0 (by decide) (hts _ lk_X0_set_9) (fun _ h9 => h9) rfl dX0_set_14 ?_
      refine lv_iload_n hx hb dX0_set_17 rfl (lv_at hl 1 rfl) ?_
      refine lv_iload_n hx hb dX0_set_18 rfl (lv_at hl 2 rfl) ?_
      refine va_iast hx hb hE.1 hP hD hS 1 0 rfl rfl (vp_of (by decide) c_1 c_2) dX0_set_19 (fun H locs hP hD hS => ?_)
      have hP : va_P D vwCl [(b, .inr (4, [.ref r])), (r, .inl (k.1, 628, .inl (upd f (i).toNatClampNeg v)))] H := hP
      have hD : va_D A [(b, .inr (4, [.ref r])), (r, .inl (k.1, 628, .inl (upd f (i).toNatClampNeg v)))] := hD
      subst hF
      exact fc_vret hx hb hr hlk hS () trivial hP hD (by decide) (by decide) dX0_set_20

abbrev rm_X0_add : Room := { frames := 0, cells := 0, slots := 0, locals := 0 }
theorem in_X0_add_X0 : ∀ w ∈ wsX00, w ∈ wsX0_add := by decide +kernel
theorem lk_X0_add_9 : (Cond.fieldLink RX0 9 "TheatreSaga$Books" "cells" "[I") ∈ wsX0_add := by decide +kernel
def F_X0_add (f : (Nat → Int32)) (i : Int32) (v : Int32) : (Nat → Int32) := (if i < (0 : Int32) then f else (if (628 : Int32) ≤ i then f else (upd f (i).toNatClampNeg ((f (i).toNatClampNeg) + v))))
set_option maxHeartbeats 4000000 in
set_option maxRecDepth 100000 in
theorem c_X0_add {l : Launch} {D : va_G} {k : tyK} (b r : Nat) (f : (Nat → Int32)) (i : Int32) (v : Int32) : FCv l yX0_add wsX0_add rm_X0_add D k [.ref b, .int i, .int v] [(b, .inr (4, [.ref r])), (r, .inl (k.1, 628, .inl f))] (fun (_ : Unit) => True) (fun _ => [(b, .inr (4, [.ref r])), (r, .inl (k.1, 628, .inl (F_X0_add f i v)))]) := by
  refine fc_start (cc := cX0_add) (maxL := 3) (ret := none) (own := RX0) (Qc := fun A => va_Qv (fun (_ : Unit) => True) (Bt D (fun _ => [(b, .inr (4, [.ref r])), (r, .inl (k.1, 628, .inl (F_X0_add f i v)))]) A) A) (by decide) rfl rfl (Nat.le_of_ble_eq_true rfl) ?_
  intro p e s m below meth c A H hx hb hml hr hts hown hlk hname hA hP hE hD hS ls hl
  obtain ⟨RES, hF⟩ : ∃ z, (F_X0_add f i v) = z := ⟨_, rfl⟩
  rw [hF]
  unfold F_X0_add at hF
  have hl : lv_has ls 3 [(0, .ref b), (1, .int i), (2, .int v)] := hl
  obtain ⟨locs, hlocs⟩ : ∃ z : List Loc, z = [] := ⟨_, rfl⟩
  rw [← hlocs] at hS ⊢
  refine lv_iload_n hx hb dX0_add_0 rfl (lv_at hl 1 rfl) ?_
  refine lv_if_lt (tgt := 23) hx hb dX0_add_1 (by decide) (fun c_1 => ?_) (fun c_1 => ?_)
  · rw [if_pos c_1] at hF
    subst hF
    exact fc_vret hx hb hr hlk hS () trivial hP hD (by decide) (by decide) dX0_add_23
  · rw [if_neg c_1] at hF
    refine lv_iload_n hx hb dX0_add_4 rfl (lv_at hl 1 rfl) ?_
    refine lv_aload_n hx hb dX0_add_5 rfl (lv_at hl 0 rfl) ?_
    refine va_get (D := D) (ci := 4) (v := .ref r) (C := RX0) (T := TX0) (N := 1) hx hb hts in_X0_add_X0 hown hE.1 hP 0 rfl rfl 0 (by decide) (hts _ lk_X0_add_9) (fun _ h9 => h9) rfl dX0_add_6 ?_
    refine va_alen (v := (628 : Int32)) hx hb hE.1 hP 1 0 rfl rfl rfl dX0_add_9 ?_
    refine lv_icmp_ge (tgt := 23) hx hb dX0_add_10 (by decide) (fun c_2 => ?_) (fun c_2 => ?_)
    · rw [if_pos c_2] at hF
      subst hF
      exact fc_vret hx hb hr hlk hS () trivial hP hD (by decide) (by decide) dX0_add_23
    · rw [if_neg c_2] at hF
      refine lv_aload_n hx hb dX0_add_13 rfl (lv_at hl 0 rfl) ?_
      refine va_get (D := D) (ci := 4) (v := .ref r) (C := RX0) (T := TX0) (N := 1) hx hb hts in_X0_add_X0 hown hE.1 hP 0 rfl rfl 0 (by decide) (hts _ lk_X0_add_9) (fun _ h9 => h9) rfl dX0_add_14 ?_
      refine lv_iload_n hx hb dX0_add_17 rfl (lv_at hl 1 rfl) ?_
      refine lv_dup2_11 hx hb dX0_add_18 rfl rfl ?_
      refine va_iald hx hb hE.1 hP 1 0 rfl rfl (vp_of (by decide) c_1 c_2) dX0_add_19 ?_
      refine lv_iload_n hx hb dX0_add_20 rfl (lv_at hl 2 rfl) ?_
      refine lv_iadd hx hb dX0_add_21 ?_
      refine va_iast hx hb hE.1 hP hD hS 1 0 rfl rfl (vp_of (by decide) c_1 c_2) dX0_add_22 (fun H locs hP hD hS => ?_)
      have hP : va_P D vwCl [(b, .inr (4, [.ref r])), (r, .inl (k.1, 628, .inl (upd f (i).toNatClampNeg ((f (i).toNatClampNeg) + v))))] H := hP
      have hD : va_D A [(b, .inr (4, [.ref r])), (r, .inl (k.1, 628, .inl (upd f (i).toNatClampNeg ((f (i).toNatClampNeg) + v))))] := hD
      subst hF
      exact fc_vret hx hb hr hlk hS () trivial hP hD (by decide) (by decide) dX0_add_23

abbrev rm_X0_take : Room := { frames := 1, cells := 0, slots := 0, locals := 40 }
theorem in_X0_take_X0 : ∀ w ∈ wsX00, w ∈ wsX0_take := by decide +kernel
theorem lk_X0_take_9 : (Cond.fieldLink RX0 9 "TheatreSaga$Books" "cells" "[I") ∈ wsX0_take := by decide +kernel
def F_X0_take (f : (Nat → Int32)) (f2 : (Nat → Int32))  : (Nat → Int32) := (va_cpy f2 f (((0 : Int32)) : Int32).toNatClampNeg (((0 : Int32)) : Int32).toNatClampNeg (((628 : Int32)) : Int32).toNatClampNeg)
set_option maxHeartbeats 4000000 in
set_option maxRecDepth 100000 in
theorem c_X0_take {l : Launch} {D : va_G} {k : tyK} (b r b2 r2 : Nat) (f : (Nat → Int32)) (f2 : (Nat → Int32))  : FCv l yX0_take wsX0_take rm_X0_take D k [.ref b, .ref b2] [(b, .inr (4, [.ref r])), (r, .inl (k.1, 628, .inl f)), (b2, .inr (4, [.ref r2])), (r2, .inl (k.1, 628, .inl f2))] (fun (_ : Unit) => True) (fun _ => [(b, .inr (4, [.ref r])), (r, .inl (k.1, 628, .inl (F_X0_take f f2))), (b2, .inr (4, [.ref r2])), (r2, .inl (k.1, 628, .inl f2))]) := by
  refine fc_start (cc := cX0_take) (maxL := 2) (ret := none) (own := RX0) (Qc := fun A => va_Qv (fun (_ : Unit) => True) (Bt D (fun _ => [(b, .inr (4, [.ref r])), (r, .inl (k.1, 628, .inl (F_X0_take f f2))), (b2, .inr (4, [.ref r2])), (r2, .inl (k.1, 628, .inl f2))]) A) A) (by decide) rfl rfl (Nat.le_of_ble_eq_true rfl) ?_
  intro p e s m below meth c A H hx hb hml hr hts hown hlk hname hA hP hE hD hS ls hl
  obtain ⟨RES, hF⟩ : ∃ z, (F_X0_take f f2) = z := ⟨_, rfl⟩
  rw [hF]
  unfold F_X0_take at hF
  have hl : lv_has ls 2 [(0, .ref b), (1, .ref b2)] := hl
  obtain ⟨locs, hlocs⟩ : ∃ z : List Loc, z = [] := ⟨_, rfl⟩
  rw [← hlocs] at hS ⊢
  refine lv_aload_n hx hb dX0_take_0 rfl (lv_at hl 1 rfl) ?_
  refine va_get (D := D) (ci := 4) (v := .ref r2) (C := RX0) (T := TX0) (N := 1) hx hb hts in_X0_take_X0 hown hE.1 hP 2 rfl rfl 0 (by decide) (hts _ lk_X0_take_9) (fun _ h9 => h9) rfl dX0_take_1 ?_
  refine lv_iconst (v := 0) hx hb dX0_take_4 (by decide) ?_
  refine lv_aload_n hx hb dX0_take_5 rfl (lv_at hl 0 rfl) ?_
  refine va_get (D := D) (ci := 4) (v := .ref r) (C := RX0) (T := TX0) (N := 1) hx hb hts in_X0_take_X0 hown hE.1 hP 0 rfl rfl 0 (by decide) (hts _ lk_X0_take_9) (fun _ h9 => h9) rfl dX0_take_6 ?_
  refine lv_iconst (v := 0) hx hb dX0_take_9 (by decide) ?_
  refine lv_sipush (v := 628) hx hb dX0_take_10 (by decide) ?_
  refine va_copyi hx hb (hml.trans hl.1.symm) hown (hts (.methodLink RX0 31 arraycopyName) (by decide +kernel)) (hts (.native arraycopyName) (by decide +kernel)) (hts (.static arraycopyName) (by decide +kernel)) (hts (.initialized "java/lang/System") (by decide +kernel)) hE.1 hP hD hS 3 1 0 0 rfl rfl rfl rfl rfl (by decide) (by decide) (by decide) (by decide) (by decide) (fun _ _ => rfl) (by decide) (by decide +kernel) dX0_take_13 (fun H locs hP hD hS => ?_)
  have hP : va_P D vwCl [(b, .inr (4, [.ref r])), (r, .inl (k.1, 628, .inl (va_cpy f2 f (((0 : Int32)) : Int32).toNatClampNeg (((0 : Int32)) : Int32).toNatClampNeg (((628 : Int32)) : Int32).toNatClampNeg))), (b2, .inr (4, [.ref r2])), (r2, .inl (k.1, 628, .inl f2))] H := hP
  have hD : va_D A [(b, .inr (4, [.ref r])), (r, .inl (k.1, 628, .inl (va_cpy f2 f (((0 : Int32)) : Int32).toNatClampNeg (((0 : Int32)) : Int32).toNatClampNeg (((628 : Int32)) : Int32).toNatClampNeg))), (b2, .inr (4, [.ref r2])), (r2, .inl (k.1, 628, .inl f2))] := hD
  subst hF
  exact fc_vret hx hb hr hlk hS () trivial hP hD (by decide) (by decide) dX0_take_16

abbrev rm_X6_findStep : Room := { frames := 1, cells := 0, slots := 0, locals := 22 }
def FL_X6_findStep_3 : Nat → (Nat → Int32) → Int32 → Int32 → Int32 → Int32 → Int32 → Int32
  | 0, f, x1, x2, x3, x4, x5 => 0
  | n + 1, f, x1, x2, x3, x4, x5 => (if (F_X0_get f (F_X6_ofTour x1 (2 : Int32))) ≤ x5 then (-1 : Int32) else (if (F_X0_get f (F_X6_ofStep x1 x5 (0 : Int32))) = x2 then (if (F_X0_get f (F_X6_ofStep x1 x5 (1 : Int32))) = x3 then (if (F_X0_get f (F_X6_ofStep x1 x5 (2 : Int32))) = x4 then x5 else (FL_X6_findStep_3 n f x1 x2 x3 x4 (x5 + (1 : Int32)))) else (FL_X6_findStep_3 n f x1 x2 x3 x4 (x5 + (1 : Int32)))) else (if (F_X0_get f (F_X6_ofStep x1 x5 (1 : Int32))) = x3 then (FL_X6_findStep_3 n f x1 x2 x3 x4 (x5 + (1 : Int32))) else (FL_X6_findStep_3 n f x1 x2 x3 x4 (x5 + (1 : Int32))))))
def F_X6_findStep (f : (Nat → Int32)) (it : Int32) (ik : Int32) (iw : Int32) (id : Int32) : Int32 := (FL_X6_findStep_3 (((F_X0_get f (F_X6_ofTour it (2 : Int32))).toInt - ((0 : Int32) : Int32).toInt).toNat + 1) f it ik iw id (0 : Int32))
set_option maxHeartbeats 4000000 in
set_option maxRecDepth 100000 in
theorem lp_X6_findStep_3 {p : Program} {l : Launch} {e : Env} {s : State} {m : MethodId} {args : Array Value} {below : List Frame} {meth : Method} {c : Code} {D : va_G} {k : tyK} {A : Nat → Prop} (hx : p.tables.exec = Jvm.exec) (hb : c.code = cX6_findStep) (hml : c.maxLocals = 8) (hr : meth.sig.returnType = (some .int)) (hts : ∀ w ∈ wsX6_findStep, w.before args s = true) (hown : s.vm.findClass RX6 = some m.cls) (hlk : meth.locks = false) (hA : ∀ q : Nat, s.heap.size ≤ q → A q) (hE : GE D k A s) (b r : Nat) :
    ∀ (n : Nat) (f : (Nat → Int32)) (x1 : Int32) (x2 : Int32) (x3 : Int32) (x4 : Int32) (x5 : Int32) (RES : Int32), FL_X6_findStep_3 n f x1 x2 x3 x4 x5 = RES → (((F_X0_get f (F_X6_ofTour x1 (2 : Int32))) : Int32).toInt - (x5 : Int32).toInt).toNat < n → ∀ (H : Heap) (locs : List Loc), va_P D vwCl [(b, .inr (4, [.ref r])), (r, .inl (k.1, 628, .inl f))] H → va_D A [(b, .inr (4, [.ref r])), (r, .inl (k.1, 628, .inl f))] → va_S A s.heap H locs → ∀ ls : Array Slot, lv_has ls 8 [(0, .ref b), (1, .int x1), (2, .int x2), (3, .int x3), (4, .int x4), (5, .int x5)] → W p l e rm_X6_findStep s m args below meth c H locs 0 0 (MQ below (va_Qi (fun r (_ : Unit) => r = RES) (Bt D (fun _ => [(b, .inr (4, [.ref r])), (r, .inl (k.1, 628, .inl f))]) A) A) args s rm_X6_findStep.cells rm_X6_findStep.slots A) (F0 m 3 ls []) := by
  intro n
  induction n with
  | zero =>
    intro f x1 x2 x3 x4 x5 RES hF hm H locs hP hD hS ls hl
    exact absurd hm (Nat.not_lt_zero _)
  | succ n ih =>
    intro f x1 x2 x3 x4 x5 RES hF hm H locs hP hD hS ls hl
    rw [FL_X6_findStep_3] at hF
    refine lv_iload hx hb dX6_findStep_3 (lv_at hl 5 rfl) ?_
    refine lv_aload_n hx hb dX6_findStep_5 rfl (lv_at hl 0 rfl) ?_
    refine lv_iload_n hx hb dX6_findStep_6 rfl (lv_at hl 1 rfl) ?_
    refine lv_iconst (v := 2) hx hb dX6_findStep_7 (by decide) ?_
    refine fc_ci (isC := []) (cells' := 0) (slots' := 0) (fc_runS (n := 2) (As := [.int x1, .int (2 : Int32)]) (rest := [.ref b, .int x5]) (isC := []) (maxL := 2) ⟨hx, hb, hml, hown, hts⟩ (c_X6_ofTour x1 (2 : Int32) H.size) gX6_findStep_X6_ofTour rfl (by decide +kernel) rfl ⟨Nat.le_of_ble_eq_true rfl, Nat.le_of_ble_eq_true rfl⟩ ⟨Nat.le_of_ble_eq_true rfl, Nat.le_of_ble_eq_true rfl⟩ hE hP hD hS hA rfl rfl hl rfl (Nat.le_of_ble_eq_true rfl) dX6_findStep_8) hP hD hS hA rfl (fun _ => rfl) rfl rfl (fun r_1 _ H locs hr_1 hP hD hS => ?_)
    obtain rfl : (F_X6_ofTour x1 (2 : Int32)) = r_1 := hr_1.symm
    dsimp only [fs, List.set] at hP hD
    have hP : va_P D vwCl [(b, .inr (4, [.ref r])), (r, .inl (k.1, 628, .inl f))] H := hP
    have hD : va_D A [(b, .inr (4, [.ref r])), (r, .inl (k.1, 628, .inl f))] := hD
    refine fc_ci (isC := [0, 1]) (cells' := 0) (slots' := 0) (fc_runV (n := 1) (As := [.int (F_X6_ofTour x1 (2 : Int32))]) (rest := [.int x5]) (isC := [0, 1]) (maxL := 2) ⟨hx, hb, hml, hown, hts⟩ (c_X0_get b r f (F_X6_ofTour x1 (2 : Int32)) H.size) gX6_findStep_X0_get rfl (by decide +kernel) rfl ⟨Nat.le_of_ble_eq_true rfl, Nat.le_of_ble_eq_true rfl⟩ ⟨Nat.le_of_ble_eq_true rfl, Nat.le_of_ble_eq_true rfl⟩ hE hP hD hS hA rfl rfl (va_recv hE.1 hP (ci := 4) (q0 := 0) rfl rfl) hl rfl (Nat.le_of_ble_eq_true rfl) dX6_findStep_11) hP hD hS hA rfl (fun _ => rfl) rfl rfl (fun r_2 _ H locs hr_2 hP hD hS => ?_)
    obtain rfl : (F_X0_get f (F_X6_ofTour x1 (2 : Int32))) = r_2 := hr_2.symm
    dsimp only [fs, List.set] at hP hD
    have hP : va_P D vwCl [(b, .inr (4, [.ref r])), (r, .inl (k.1, 628, .inl f))] H := hP
    have hD : va_D A [(b, .inr (4, [.ref r])), (r, .inl (k.1, 628, .inl f))] := hD
    refine lv_icmp_ge (tgt := 96) hx hb dX6_findStep_14 (by decide) (fun c_3 => ?_) (fun c_3 => ?_)
    · rw [if_pos c_3] at hF
      refine lv_iconst (v := -1) hx hb dX6_findStep_96 (by decide) ?_
      subst hF
      exact fc_iret hx hb hr rfl hlk hS () rfl hP hD (by decide) (by decide) dX6_findStep_97
    · rw [if_neg c_3] at hF
      refine lv_aload_n hx hb dX6_findStep_17 rfl (lv_at hl 0 rfl) ?_
      refine lv_iload_n hx hb dX6_findStep_18 rfl (lv_at hl 1 rfl) ?_
      refine lv_iload hx hb dX6_findStep_19 (lv_at hl 5 rfl) ?_
      refine lv_iconst (v := 0) hx hb dX6_findStep_21 (by decide) ?_
      refine fc_ci (isC := []) (cells' := 0) (slots' := 0) (fc_runS (n := 3) (As := [.int x1, .int x5, .int (0 : Int32)]) (rest := [.ref b]) (isC := []) (maxL := 3) ⟨hx, hb, hml, hown, hts⟩ (c_X6_ofStep x1 x5 (0 : Int32) H.size) gX6_findStep_X6_ofStep rfl (by decide +kernel) rfl ⟨Nat.le_of_ble_eq_true rfl, Nat.le_of_ble_eq_true rfl⟩ ⟨Nat.le_of_ble_eq_true rfl, Nat.le_of_ble_eq_true rfl⟩ hE hP hD hS hA rfl rfl hl rfl (Nat.le_of_ble_eq_true rfl) dX6_findStep_22) hP hD hS hA rfl (fun _ => rfl) rfl rfl (fun r_4 _ H locs hr_4 hP hD hS => ?_)
      obtain rfl : (F_X6_ofStep x1 x5 (0 : Int32)) = r_4 := hr_4.symm
      dsimp only [fs, List.set] at hP hD
      have hP : va_P D vwCl [(b, .inr (4, [.ref r])), (r, .inl (k.1, 628, .inl f))] H := hP
      have hD : va_D A [(b, .inr (4, [.ref r])), (r, .inl (k.1, 628, .inl f))] := hD
      refine fc_ci (isC := [0, 1]) (cells' := 0) (slots' := 0) (fc_runV (n := 1) (As := [.int (F_X6_ofStep x1 x5 (0 : Int32))]) (rest := []) (isC := [0, 1]) (maxL := 2) ⟨hx, hb, hml, hown, hts⟩ (c_X0_get b r f (F_X6_ofStep x1 x5 (0 : Int32)) H.size) gX6_findStep_X0_get rfl (by decide +kernel) rfl ⟨Nat.le_of_ble_eq_true rfl, Nat.le_of_ble_eq_true rfl⟩ ⟨Nat.le_of_ble_eq_true rfl, Nat.le_of_ble_eq_true rfl⟩ hE hP hD hS hA rfl rfl (va_recv hE.1 hP (ci := 4) (q0 := 0) rfl rfl) hl rfl (Nat.le_of_ble_eq_true rfl) dX6_findStep_25) hP hD hS hA rfl (fun _ => rfl) rfl rfl (fun r_5 _ H locs hr_5 hP hD hS => ?_)
      obtain rfl : (F_X0_get f (F_X6_ofStep x1 x5 (0 : Int32))) = r_5 := hr_5.symm
      dsimp only [fs, List.set] at hP hD
      have hP : va_P D vwCl [(b, .inr (4, [.ref r])), (r, .inl (k.1, 628, .inl f))] H := hP
      have hD : va_D A [(b, .inr (4, [.ref r])), (r, .inl (k.1, 628, .inl f))] := hD
      refine lv_iload_n hx hb dX6_findStep_28 rfl (lv_at hl 2 rfl) ?_
      refine lv_icmp_ne (tgt := 36) hx hb dX6_findStep_29 (by decide) (fun c_6 => ?_) (fun c_6 => ?_)
      · rw [if_neg c_6] at hF
        refine lv_iconst (v := 0) hx hb dX6_findStep_36 (by decide) ?_
        refine lv_istore (lv' := [(6, .int (0 : Int32)), (0, .ref b), (1, .int x1), (2, .int x2), (3, .int x3), (4, .int x4), (5, .int x5)]) hx hb dX6_findStep_37 hl (by decide) rfl (fun ls hl => ?_)
        refine lv_aload_n hx hb dX6_findStep_39 rfl (lv_at hl 1 rfl) ?_
        refine lv_iload_n hx hb dX6_findStep_40 rfl (lv_at hl 2 rfl) ?_
        refine lv_iload hx hb dX6_findStep_41 (lv_at hl 6 rfl) ?_
        refine lv_iconst (v := 1) hx hb dX6_findStep_43 (by decide) ?_
        refine fc_ci (isC := []) (cells' := 0) (slots' := 0) (fc_runS (n := 3) (As := [.int x1, .int x5, .int (1 : Int32)]) (rest := [.ref b]) (isC := []) (maxL := 3) ⟨hx, hb, hml, hown, hts⟩ (c_X6_ofStep x1 x5 (1 : Int32) H.size) gX6_findStep_X6_ofStep rfl (by decide +kernel) rfl ⟨Nat.le_of_ble_eq_true rfl, Nat.le_of_ble_eq_true rfl⟩ ⟨Nat.le_of_ble_eq_true rfl, Nat.le_of_ble_eq_true rfl⟩ hE hP hD hS hA rfl rfl hl rfl (Nat.le_of_ble_eq_true rfl) dX6_findStep_44) hP hD hS hA rfl (fun _ => rfl) rfl rfl (fun r_7 _ H locs hr_7 hP hD hS => ?_)
        obtain rfl : (F_X6_ofStep x1 x5 (1 : Int32)) = r_7 := hr_7.symm
        dsimp only [fs, List.set] at hP hD
        have hP : va_P D vwCl [(b, .inr (4, [.ref r])), (r, .inl (k.1, 628, .inl f))] H := hP
        have hD : va_D A [(b, .inr (4, [.ref r])), (r, .inl (k.1, 628, .inl f))] := hD
        refine fc_ci (isC := [0, 1]) (cells' := 0) (slots' := 0) (fc_runV (n := 1) (As := [.int (F_X6_ofStep x1 x5 (1 : Int32))]) (rest := []) (isC := [0, 1]) (maxL := 2) ⟨hx, hb, hml, hown, hts⟩ (c_X0_get b r f (F_X6_ofStep x1 x5 (1 : Int32)) H.size) gX6_findStep_X0_get rfl (by decide +kernel) rfl ⟨Nat.le_of_ble_eq_true rfl, Nat.le_of_ble_eq_true rfl⟩ ⟨Nat.le_of_ble_eq_true rfl, Nat.le_of_ble_eq_true rfl⟩ hE hP hD hS hA rfl rfl (va_recv hE.1 hP (ci := 4) (q0 := 0) rfl rfl) hl rfl (Nat.le_of_ble_eq_true rfl) dX6_findStep_47) hP hD hS hA rfl (fun _ => rfl) rfl rfl (fun r_8 _ H locs hr_8 hP hD hS => ?_)
        obtain rfl : (F_X0_get f (F_X6_ofStep x1 x5 (1 : Int32))) = r_8 := hr_8.symm
        dsimp only [fs, List.set] at hP hD
        have hP : va_P D vwCl [(b, .inr (4, [.ref r])), (r, .inl (k.1, 628, .inl f))] H := hP
        have hD : va_D A [(b, .inr (4, [.ref r])), (r, .inl (k.1, 628, .inl f))] := hD
        refine lv_iload_n hx hb dX6_findStep_50 rfl (lv_at hl 4 rfl) ?_
        refine lv_icmp_ne (tgt := 58) hx hb dX6_findStep_51 (by decide) (fun c_9 => ?_) (fun c_9 => ?_)
        · rw [if_neg c_9] at hF
          refine lv_iconst (v := 0) hx hb dX6_findStep_58 (by decide) ?_
          refine lv_istore (lv' := [(7, .int (0 : Int32)), (6, .int (0 : Int32)), (0, .ref b), (1, .int x1), (2, .int x2), (3, .int x3), (4, .int x4), (5, .int x5)]) hx hb dX6_findStep_59 hl (by decide) rfl (fun ls hl => ?_)
          refine lv_iload hx hb dX6_findStep_61 (lv_at hl 1 rfl) ?_
          refine lv_if_eq (tgt := 90) hx hb dX6_findStep_63 (by decide) (fun c_10 => ?_) (fun c_10 => absurd c_10 (by decide))
          refine lv_iinc (v := (x5 + (1 : Int32))) (lv' := [(5, .int (x5 + (1 : Int32))), (7, .int (0 : Int32)), (6, .int (0 : Int32)), (0, .ref b), (1, .int x1), (2, .int x2), (3, .int x3), (4, .int x4)]) hx hb dX6_findStep_90 hl (k := 7) rfl rfl (by decide) rfl (fun ls hl => ?_)
          refine lv_goto (tgt := 3) hx hb dX6_findStep_93 (by decide) ?_
          exact ih f x1 x2 x3 x4 (x5 + (1 : Int32)) RES hF (lp_step c_3 hm) H locs hP hD hS ls (lv_sub hl [3, 4, 5, 6, 7, 0] rfl)
        · rw [if_pos c_9] at hF
          refine lv_iconst (v := 1) hx hb dX6_findStep_54 (by decide) ?_
          refine lv_goto (tgt := 59) hx hb dX6_findStep_55 (by decide) ?_
          refine lv_istore (lv' := [(7, .int (1 : Int32)), (6, .int (0 : Int32)), (0, .ref b), (1, .int x1), (2, .int x2), (3, .int x3), (4, .int x4), (5, .int x5)]) hx hb dX6_findStep_59 hl (by decide) rfl (fun ls hl => ?_)
          refine lv_iload hx hb dX6_findStep_61 (lv_at hl 1 rfl) ?_
          refine lv_if_eq (tgt := 90) hx hb dX6_findStep_63 (by decide) (fun c_11 => ?_) (fun c_11 => absurd c_11 (by decide))
          refine lv_iinc (v := (x5 + (1 : Int32))) (lv' := [(5, .int (x5 + (1 : Int32))), (7, .int (1 : Int32)), (6, .int (0 : Int32)), (0, .ref b), (1, .int x1), (2, .int x2), (3, .int x3), (4, .int x4)]) hx hb dX6_findStep_90 hl (k := 7) rfl rfl (by decide) rfl (fun ls hl => ?_)
          refine lv_goto (tgt := 3) hx hb dX6_findStep_93 (by decide) ?_
          exact ih f x1 x2 x3 x4 (x5 + (1 : Int32)) RES hF (lp_step c_3 hm) H locs hP hD hS ls (lv_sub hl [3, 4, 5, 6, 7, 0] rfl)
      · rw [if_pos c_6] at hF
        refine lv_iconst (v := 1) hx hb dX6_findStep_32 (by decide) ?_
        refine lv_goto (tgt := 37) hx hb dX6_findStep_33 (by decide) ?_
        refine lv_istore (lv' := [(6, .int (1 : Int32)), (0, .ref b), (1, .int x1), (2, .int x2), (3, .int x3), (4, .int x4), (5, .int x5)]) hx hb dX6_findStep_37 hl (by decide) rfl (fun ls hl => ?_)
        refine lv_aload_n hx hb dX6_findStep_39 rfl (lv_at hl 1 rfl) ?_
        refine lv_iload_n hx hb dX6_findStep_40 rfl (lv_at hl 2 rfl) ?_
        refine lv_iload hx hb dX6_findStep_41 (lv_at hl 6 rfl) ?_
        refine lv_iconst (v := 1) hx hb dX6_findStep_43 (by decide) ?_
        refine fc_ci (isC := []) (cells' := 0) (slots' := 0) (fc_runS (n := 3) (As := [.int x1, .int x5, .int (1 : Int32)]) (rest := [.ref b]) (isC := []) (maxL := 3) ⟨hx, hb, hml, hown, hts⟩ (c_X6_ofStep x1 x5 (1 : Int32) H.size) gX6_findStep_X6_ofStep rfl (by decide +kernel) rfl ⟨Nat.le_of_ble_eq_true rfl, Nat.le_of_ble_eq_true rfl⟩ ⟨Nat.le_of_ble_eq_true rfl, Nat.le_of_ble_eq_true rfl⟩ hE hP hD hS hA rfl rfl hl rfl (Nat.le_of_ble_eq_true rfl) dX6_findStep_44) hP hD hS hA rfl (fun _ => rfl) rfl rfl (fun r_12 _ H locs hr_12 hP hD hS => ?_)
        obtain rfl : (F_X6_ofStep x1 x5 (1 : Int32)) = r_12 := hr_12.symm
        dsimp only [fs, List.set] at hP hD
        have hP : va_P D vwCl [(b, .inr (4, [.ref r])), (r, .inl (k.1, 628, .inl f))] H := hP
        have hD : va_D A [(b, .inr (4, [.ref r])), (r, .inl (k.1, 628, .inl f))] := hD
        refine fc_ci (isC := [0, 1]) (cells' := 0) (slots' := 0) (fc_runV (n := 1) (As := [.int (F_X6_ofStep x1 x5 (1 : Int32))]) (rest := []) (isC := [0, 1]) (maxL := 2) ⟨hx, hb, hml, hown, hts⟩ (c_X0_get b r f (F_X6_ofStep x1 x5 (1 : Int32)) H.size) gX6_findStep_X0_get rfl (by decide +kernel) rfl ⟨Nat.le_of_ble_eq_true rfl, Nat.le_of_ble_eq_true rfl⟩ ⟨Nat.le_of_ble_eq_true rfl, Nat.le_of_ble_eq_true rfl⟩ hE hP hD hS hA rfl rfl (va_recv hE.1 hP (ci := 4) (q0 := 0) rfl rfl) hl rfl (Nat.le_of_ble_eq_true rfl) dX6_findStep_47) hP hD hS hA rfl (fun _ => rfl) rfl rfl (fun r_13 _ H locs hr_13 hP hD hS => ?_)
        obtain rfl : (F_X0_get f (F_X6_ofStep x1 x5 (1 : Int32))) = r_13 := hr_13.symm
        dsimp only [fs, List.set] at hP hD
        have hP : va_P D vwCl [(b, .inr (4, [.ref r])), (r, .inl (k.1, 628, .inl f))] H := hP
        have hD : va_D A [(b, .inr (4, [.ref r])), (r, .inl (k.1, 628, .inl f))] := hD
        refine lv_iload_n hx hb dX6_findStep_50 rfl (lv_at hl 4 rfl) ?_
        refine lv_icmp_ne (tgt := 58) hx hb dX6_findStep_51 (by decide) (fun c_14 => ?_) (fun c_14 => ?_)
        · rw [if_neg c_14] at hF
          refine lv_iconst (v := 0) hx hb dX6_findStep_58 (by decide) ?_
          refine lv_istore (lv' := [(7, .int (0 : Int32)), (6, .int (1 : Int32)), (0, .ref b), (1, .int x1), (2, .int x2), (3, .int x3), (4, .int x4), (5, .int x5)]) hx hb dX6_findStep_59 hl (by decide) rfl (fun ls hl => ?_)
          refine lv_iload hx hb dX6_findStep_61 (lv_at hl 1 rfl) ?_
          refine lv_if_eq (tgt := 90) hx hb dX6_findStep_63 (by decide) (fun c_15 => absurd c_15 (by decide)) (fun c_15 => ?_)
          refine lv_iload hx hb dX6_findStep_66 (lv_at hl 0 rfl) ?_
          refine lv_if_eq (tgt := 90) hx hb dX6_findStep_68 (by decide) (fun c_16 => ?_) (fun c_16 => absurd c_16 (by decide))
          refine lv_iinc (v := (x5 + (1 : Int32))) (lv' := [(5, .int (x5 + (1 : Int32))), (7, .int (0 : Int32)), (6, .int (1 : Int32)), (0, .ref b), (1, .int x1), (2, .int x2), (3, .int x3), (4, .int x4)]) hx hb dX6_findStep_90 hl (k := 7) rfl rfl (by decide) rfl (fun ls hl => ?_)
          refine lv_goto (tgt := 3) hx hb dX6_findStep_93 (by decide) ?_
          exact ih f x1 x2 x3 x4 (x5 + (1 : Int32)) RES hF (lp_step c_3 hm) H locs hP hD hS ls (lv_sub hl [3, 4, 5, 6, 7, 0] rfl)
        · rw [if_pos c_14] at hF
          refine lv_iconst (v := 1) hx hb dX6_findStep_54 (by decide) ?_
          refine lv_goto (tgt := 59) hx hb dX6_findStep_55 (by decide) ?_
          refine lv_istore (lv' := [(7, .int (1 : Int32)), (6, .int (1 : Int32)), (0, .ref b), (1, .int x1), (2, .int x2), (3, .int x3), (4, .int x4), (5, .int x5)]) hx hb dX6_findStep_59 hl (by decide) rfl (fun ls hl => ?_)
          refine lv_iload hx hb dX6_findStep_61 (lv_at hl 1 rfl) ?_
          refine lv_if_eq (tgt := 90) hx hb dX6_findStep_63 (by decide) (fun c_17 => absurd c_17 (by decide)) (fun c_17 => ?_)
          refine lv_iload hx hb dX6_findStep_66 (lv_at hl 0 rfl) ?_
          refine lv_if_eq (tgt := 90) hx hb dX6_findStep_68 (by decide) (fun c_18 => absurd c_18 (by decide)) (fun c_18 => ?_)
          refine lv_aload_n hx hb dX6_findStep_71 rfl (lv_at hl 2 rfl) ?_
          refine lv_iload_n hx hb dX6_findStep_72 rfl (lv_at hl 3 rfl) ?_
          refine lv_iload hx hb dX6_findStep_73 (lv_at hl 7 rfl) ?_
          refine lv_iconst (v := 2) hx hb dX6_findStep_75 (by decide) ?_
          refine fc_ci (isC := []) (cells' := 0) (slots' := 0) (fc_runS (n := 3) (As := [.int x1, .int x5, .int (2 : Int32)]) (rest := [.ref b]) (isC := []) (maxL := 3) ⟨hx, hb, hml, hown, hts⟩ (c_X6_ofStep x1 x5 (2 : Int32) H.size) gX6_findStep_X6_ofStep rfl (by decide +kernel) rfl ⟨Nat.le_of_ble_eq_true rfl, Nat.le_of_ble_eq_true rfl⟩ ⟨Nat.le_of_ble_eq_true rfl, Nat.le_of_ble_eq_true rfl⟩ hE hP hD hS hA rfl rfl hl rfl (Nat.le_of_ble_eq_true rfl) dX6_findStep_76) hP hD hS hA rfl (fun _ => rfl) rfl rfl (fun r_19 _ H locs hr_19 hP hD hS => ?_)
          obtain rfl : (F_X6_ofStep x1 x5 (2 : Int32)) = r_19 := hr_19.symm
          dsimp only [fs, List.set] at hP hD
          have hP : va_P D vwCl [(b, .inr (4, [.ref r])), (r, .inl (k.1, 628, .inl f))] H := hP
          have hD : va_D A [(b, .inr (4, [.ref r])), (r, .inl (k.1, 628, .inl f))] := hD
          refine fc_ci (isC := [0, 1]) (cells' := 0) (slots' := 0) (fc_runV (n := 1) (As := [.int (F_X6_ofStep x1 x5 (2 : Int32))]) (rest := []) (isC := [0, 1]) (maxL := 2) ⟨hx, hb, hml, hown, hts⟩ (c_X0_get b r f (F_X6_ofStep x1 x5 (2 : Int32)) H.size) gX6_findStep_X0_get rfl (by decide +kernel) rfl ⟨Nat.le_of_ble_eq_true rfl, Nat.le_of_ble_eq_true rfl⟩ ⟨Nat.le_of_ble_eq_true rfl, Nat.le_of_ble_eq_true rfl⟩ hE hP hD hS hA rfl rfl (va_recv hE.1 hP (ci := 4) (q0 := 0) rfl rfl) hl rfl (Nat.le_of_ble_eq_true rfl) dX6_findStep_79) hP hD hS hA rfl (fun _ => rfl) rfl rfl (fun r_20 _ H locs hr_20 hP hD hS => ?_)
          obtain rfl : (F_X0_get f (F_X6_ofStep x1 x5 (2 : Int32))) = r_20 := hr_20.symm
          dsimp only [fs, List.set] at hP hD
          have hP : va_P D vwCl [(b, .inr (4, [.ref r])), (r, .inl (k.1, 628, .inl f))] H := hP
          have hD : va_D A [(b, .inr (4, [.ref r])), (r, .inl (k.1, 628, .inl f))] := hD
          refine lv_iload hx hb dX6_findStep_82 (lv_at hl 6 rfl) ?_
          refine lv_icmp_ne (tgt := 90) hx hb dX6_findStep_84 (by decide) (fun c_21 => ?_) (fun c_21 => ?_)
          · rw [if_neg c_21] at hF
            refine lv_iinc (v := (x5 + (1 : Int32))) (lv' := [(5, .int (x5 + (1 : Int32))), (7, .int (1 : Int32)), (6, .int (1 : Int32)), (0, .ref b), (1, .int x1), (2, .int x2), (3, .int x3), (4, .int x4)]) hx hb dX6_findStep_90 hl (k := 7) rfl rfl (by decide) rfl (fun ls hl => ?_)
            refine lv_goto (tgt := 3) hx hb dX6_findStep_93 (by decide) ?_
            exact ih f x1 x2 x3 x4 (x5 + (1 : Int32)) RES hF (lp_step c_3 hm) H locs hP hD hS ls (lv_sub hl [3, 4, 5, 6, 7, 0] rfl)
          · rw [if_pos c_21] at hF
            refine lv_iload hx hb dX6_findStep_87 (lv_at hl 7 rfl) ?_
            subst hF
            exact fc_iret hx hb hr rfl hlk hS () rfl hP hD (by decide) (by decide) dX6_findStep_89
set_option maxHeartbeats 4000000 in
set_option maxRecDepth 100000 in
theorem c_X6_findStep {l : Launch} {D : va_G} {k : tyK} (b r : Nat) (f : (Nat → Int32)) (it : Int32) (ik : Int32) (iw : Int32) (id : Int32) : FCi l yX6_findStep wsX6_findStep rm_X6_findStep D k [.ref b, .int it, .int ik, .int iw, .int id] [(b, .inr (4, [.ref r])), (r, .inl (k.1, 628, .inl f))] (fun r (_ : Unit) => r = (F_X6_findStep f it ik iw id)) (fun _ => [(b, .inr (4, [.ref r])), (r, .inl (k.1, 628, .inl f))]) := by
  refine fc_start (cc := cX6_findStep) (maxL := 8) (ret := (some .int)) (own := RX6) (Qc := fun A => va_Qi (fun r (_ : Unit) => r = (F_X6_findStep f it ik iw id)) (Bt D (fun _ => [(b, .inr (4, [.ref r])), (r, .inl (k.1, 628, .inl f))]) A) A) (by decide) rfl rfl (Nat.le_of_ble_eq_true rfl) ?_
  intro p e s m below meth c A H hx hb hml hr hts hown hlk hname hA hP hE hD hS ls hl
  obtain ⟨RES, hF⟩ : ∃ z, (F_X6_findStep f it ik iw id) = z := ⟨_, rfl⟩
  rw [hF]
  unfold F_X6_findStep at hF
  have hl : lv_has ls 8 [(0, .ref b), (1, .int it), (2, .int ik), (3, .int iw), (4, .int id)] := hl
  obtain ⟨locs, hlocs⟩ : ∃ z : List Loc, z = [] := ⟨_, rfl⟩
  rw [← hlocs] at hS ⊢
  refine lv_iconst (v := 0) hx hb dX6_findStep_0 (by decide) ?_
  refine lv_istore (lv' := [(5, .int (0 : Int32)), (0, .ref b), (1, .int it), (2, .int ik), (3, .int iw), (4, .int id)]) hx hb dX6_findStep_1 hl (by decide) rfl (fun ls hl => ?_)
  exact lp_X6_findStep_3 hx hb hml hr hts hown hlk hA hE b r (((F_X0_get f (F_X6_ofTour it (2 : Int32))).toInt - ((0 : Int32) : Int32).toInt).toNat + 1) f it ik iw id (0 : Int32) RES hF (Nat.lt_succ_self _) H locs hP hD hS ls (lv_sub hl [1, 2, 3, 4, 5, 0] rfl)
end
