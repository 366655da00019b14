section
theorem sb_below {ct ii ml : Int32} {bt : Nat → Int32} {cap : Nat} (h : ∃ n, n ≤ cap ∧ cap ≤ 142 ∧ ct = nI n) (hb : ¬ F_X6_isBelow ii (F_J4_length_8abf5 ml ct bt) = (0 : Int32)) : ¬ ii < 0 ∧ ii < (if ((Int32.ofNat cap) >>> ((0 : Int32) &&& 31)) < ct then ((Int32.ofNat cap) >>> ((0 : Int32) &&& 31)) else ct) ∧ vp_in ii cap := by
  obtain ⟨n, h1, h2, rfl⟩ := h
  have e : F_J4_length_8abf5 ml (nI n) bt = nI n := rfl
  rw [e] at hb
  have hh : ¬ ii < 0 ∧ ii < nI n := by
    unfold F_X6_isBelow at hb
    constructor
    · intro z
      exact hb (by first | rw [if_pos z] | (rw [if_neg (Int32.not_le.mpr z)]))
    · rw [← Int32.not_le]
      intro z
      apply hb
      repeat' split
      all_goals first | rfl | exact absurd z (by assumption) | exact absurd (Int32.not_le.mpr (by assumption)) (fun y => y z)
  obtain ⟨j, hj, rfl⟩ := nI_of hh.1
  have hjn : j < n := (nI_ltI hj (by omega)).mp hh.2
  refine ⟨hh.1, ?_, nI_in (by omega) (by omega)⟩
  rw [sb_shr0]
  show nI j < (if nI cap < nI n then nI cap else nI n)
  rw [if_neg (nI_nlt h1 (by omega))]
  exact hh.2

abbrev rm_X3_length : Room := { frames := 2, cells := 0, slots := 0, locals := 40 }
theorem in_X3_length_X3 : ∀ w ∈ wsX30, w ∈ wsX3_length := by decide +kernel
theorem lk_X3_length_12 : (Cond.fieldLink RX3 12 "TheatreSaga$Line" "signs" "Ljava/lang/StringBuilder;") ∈ wsX3_length := by decide +kernel
def F_X3_length (ml : Int32) (ct : Int32) (bt : (Nat → Int32))  : Int32 := (F_J4_length_8abf5 ml ct bt)
set_option maxHeartbeats 4000000 in
set_option maxRecDepth 100000 in
theorem c_X3_length {l : Launch} {D : va_G} {k : tyK} (ln sb va : Nat) (cap : Nat) (ml : Int32) (ct : Int32) (bt : (Nat → Int32))  : FCi l yX3_length wsX3_length rm_X3_length D k [.ref ln] [(ln, .inr (7, [.ref sb])), (sb, .inr (1, [.ref va, .int (0 : Int32), .int ml, .int ct])), (va, .inl (k.2.2.1, cap, .inl bt))] (fun r (_ : Unit) => r = (F_X3_length ml ct bt)) (fun _ => [(ln, .inr (7, [.ref sb])), (sb, .inr (1, [.ref va, .int (0 : Int32), .int ml, .int ct])), (va, .inl (k.2.2.1, cap, .inl bt))]) := by
  refine fc_start (cc := cX3_length) (maxL := 1) (ret := (some .int)) (own := RX3) (Qc := fun A => va_Qi (fun r (_ : Unit) => r = (F_X3_length ml ct bt)) (Bt D (fun _ => [(ln, .inr (7, [.ref sb])), (sb, .inr (1, [.ref va, .int (0 : Int32), .int ml, .int ct])), (va, .inl (k.2.2.1, cap, .inl bt))]) A) A) (by decide) rfl rfl (Nat.le_of_ble_eq_true rfl) ?_
  intro p e s m below meth c A H hx hb hml hr hts hown hlk hname hA hP hE hD hS ls hl
  obtain ⟨RES, hF⟩ : ∃ z, (F_X3_length ml ct bt) = z := ⟨_, rfl⟩
  rw [hF]
  unfold F_X3_length at hF
  have hl : lv_has ls 1 [(0, .ref ln)] := hl
  obtain ⟨locs, hlocs⟩ : ∃ z : List Loc, z = [] := ⟨_, rfl⟩
  rw [← hlocs] at hS ⊢
  refine lv_aload_n hx hb dX3_length_0 rfl (lv_at hl 0 rfl) ?_
  refine va_get (D := D) (ci := 7) (v := .ref sb) (C := RX3) (T := TX3) (N := 1) hx hb hts in_X3_length_X3 hown hE.1 hP 0 rfl rfl 0 (by decide) (hts _ lk_X3_length_12) (fun _ h9 => h9) rfl dX3_length_1 ?_
  refine fc_ci (isC := [1, 2]) (cells' := 0) (slots' := 0) (fc_runV (n := 0) (As := []) (rest := []) (isC := [1, 2]) (maxL := 1) ⟨hx, hb, hml, hown, hts⟩ (c_J4_length_8abf5 sb va cap ml ct bt H.size) gX3_length_J4_length_8abf5 rfl (by decide +kernel) rfl ⟨Nat.le_of_ble_eq_true rfl, Nat.le_of_ble_eq_true rfl⟩ ⟨Nat.le_of_ble_eq_true rfl, Nat.le_of_ble_eq_true rfl⟩ hE hP hD hS hA rfl rfl (va_recv hE.1 hP (ci := 1) (q0 := 1) rfl rfl) hl rfl (Nat.le_of_ble_eq_true rfl) dX3_length_4) hP hD hS hA rfl (fun _ => rfl) rfl rfl (fun r_1 _ H locs hr_1 hP hD hS => ?_)
  obtain rfl : (F_J4_length_8abf5 ml ct bt) = r_1 := hr_1.symm
  dsimp only [fs, List.set] at hP hD
  have hP : va_P D vwCl [(ln, .inr (7, [.ref sb])), (sb, .inr (1, [.ref va, .int (0 : Int32), .int ml, .int ct])), (va, .inl (k.2.2.1, cap, .inl bt))] H := hP
  have hD : va_D A [(ln, .inr (7, [.ref sb])), (sb, .inr (1, [.ref va, .int (0 : Int32), .int ml, .int ct])), (va, .inl (k.2.2.1, cap, .inl bt))] := hD
  subst hF
  exact fc_iret hx hb hr rfl hlk hS () rfl hP hD (by decide) (by decide) dX3_length_7

abbrev rm_X3_signAt : Room := { frames := 4, cells := 0, slots := 0, locals := 88 }
theorem in_X3_signAt_X3 : ∀ w ∈ wsX30, w ∈ wsX3_signAt := by decide +kernel
theorem lk_X3_signAt_12 : (Cond.fieldLink RX3 12 "TheatreSaga$Line" "signs" "Ljava/lang/StringBuilder;") ∈ wsX3_signAt := by decide +kernel
def F_X3_signAt (ml : Int32) (ct : Int32) (bt : (Nat → Int32)) (ii : Int32) : Int32 := (if (F_X6_isBelow ii (F_J4_length_8abf5 ml ct bt)) = (0 : Int32) then (0 : Int32) else (F_J4_charAt_5068e ml ct bt ii))
set_option maxHeartbeats 4000000 in
set_option maxRecDepth 100000 in
theorem c_X3_signAt {l : Launch} {D : va_G} {k : tyK} (ln sb va : Nat) (cap : Nat) (ml : Int32) (ct : Int32) (bt : (Nat → Int32)) (ii : Int32) (hct : ∃ n, n ≤ cap ∧ cap ≤ 142 ∧ ct = nI n) : FCi l yX3_signAt wsX3_signAt rm_X3_signAt D k [.ref ln, .int ii] [(ln, .inr (7, [.ref sb])), (sb, .inr (1, [.ref va, .int (0 : Int32), .int ml, .int ct])), (va, .inl (k.2.2.1, cap, .inl bt))] (fun r (_ : Unit) => r = (F_X3_signAt ml ct bt ii)) (fun _ => [(ln, .inr (7, [.ref sb])), (sb, .inr (1, [.ref va, .int (0 : Int32), .int ml, .int ct])), (va, .inl (k.2.2.1, cap, .inl bt))]) := by
  refine fc_start (cc := cX3_signAt) (maxL := 2) (ret := (some .char)) (own := RX3) (Qc := fun A => va_Qi (fun r (_ : Unit) => r = (F_X3_signAt ml ct bt ii)) (Bt D (fun _ => [(ln, .inr (7, [.ref sb])), (sb, .inr (1, [.ref va, .int (0 : Int32), .int ml, .int ct])), (va, .inl (k.2.2.1, cap, .inl bt))]) A) A) (by decide) rfl rfl (Nat.le_of_ble_eq_true rfl) ?_
  intro p e s m below meth c A H hx hb hml hr hts hown hlk hname hA hP hE hD hS ls hl
  obtain ⟨RES, hF⟩ : ∃ z, (F_X3_signAt ml ct bt ii) = z := ⟨_, rfl⟩
  rw [hF]
  unfold F_X3_signAt at hF
  have hl : lv_has ls 2 [(0, .ref ln), (1, .int ii)] := hl
  obtain ⟨locs, hlocs⟩ : ∃ z : List Loc, z = [] := ⟨_, rfl⟩
  rw [← hlocs] at hS ⊢
  refine lv_iload_n hx hb dX3_signAt_0 rfl (lv_at hl 1 rfl) ?_
  refine lv_aload_n hx hb dX3_signAt_1 rfl (lv_at hl 0 rfl) ?_
  refine va_get (D := D) (ci := 7) (v := .ref sb) (C := RX3) (T := TX3) (N := 1) hx hb hts in_X3_signAt_X3 hown hE.1 hP 0 rfl rfl 0 (by decide) (hts _ lk_X3_signAt_12) (fun _ h9 => h9) rfl dX3_signAt_2 ?_
  refine fc_ci (isC := [1, 2]) (cells' := 0) (slots' := 0) (fc_runV (n := 0) (As := []) (rest := [.int ii]) (isC := [1, 2]) (maxL := 1) ⟨hx, hb, hml, hown, hts⟩ (c_J4_length_8abf5 sb va cap ml ct bt H.size) gX3_signAt_J4_length_8abf5 rfl (by decide +kernel) rfl ⟨Nat.le_of_ble_eq_true rfl, Nat.le_of_ble_eq_true rfl⟩ ⟨Nat.le_of_ble_eq_true rfl, Nat.le_of_ble_eq_true rfl⟩ hE hP hD hS hA rfl rfl (va_recv hE.1 hP (ci := 1) (q0 := 1) rfl rfl) hl rfl (Nat.le_of_ble_eq_true rfl) dX3_signAt_5) hP hD hS hA rfl (fun _ => rfl) rfl rfl (fun r_1 _ H locs hr_1 hP hD hS => ?_)
  obtain rfl : (F_J4_length_8abf5 ml ct bt) = r_1 := hr_1.symm
  dsimp only [fs, List.set] at hP hD
  have hP : va_P D vwCl [(ln, .inr (7, [.ref sb])), (sb, .inr (1, [.ref va, .int (0 : Int32), .int ml, .int ct])), (va, .inl (k.2.2.1, cap, .inl bt))] H := hP
  have hD : va_D A [(ln, .inr (7, [.ref sb])), (sb, .inr (1, [.ref va, .int (0 : Int32), .int ml, .int ct])), (va, .inl (k.2.2.1, cap, .inl bt))] := hD
  refine fc_ci (isC := []) (cells' := 0) (slots' := 0) (fc_runSN (n := 2) (As := [.int ii, .int (F_J4_length_8abf5 ml ct bt)]) (rest := []) (isC := []) (maxL := 2) ⟨hx, hb, hml, hown, hts⟩ (c_X6_isBelow ii (F_J4_length_8abf5 ml ct bt) H.size) gX3_signAt_X6_isBelow_n22 (by decide +kernel) (by decide +kernel) (by decide +kernel) rfl (by decide +kernel) rfl ⟨Nat.le_of_ble_eq_true rfl, Nat.le_of_ble_eq_true rfl⟩ ⟨Nat.le_of_ble_eq_true rfl, Nat.le_of_ble_eq_true rfl⟩ hE hP hD hS hA rfl rfl hl rfl (Nat.le_of_ble_eq_true rfl) dX3_signAt_8) hP hD hS hA rfl (fun _ => rfl) rfl rfl (fun r_2 _ H locs hr_2 hP hD hS => ?_)
  obtain rfl : (F_X6_isBelow ii (F_J4_length_8abf5 ml ct bt)) = r_2 := hr_2.symm
  dsimp only [fs, List.set] at hP hD
  have hP : va_P D vwCl [(ln, .inr (7, [.ref sb])), (sb, .inr (1, [.ref va, .int (0 : Int32), .int ml, .int ct])), (va, .inl (k.2.2.1, cap, .inl bt))] H := hP
  have hD : va_D A [(ln, .inr (7, [.ref sb])), (sb, .inr (1, [.ref va, .int (0 : Int32), .int ml, .int ct])), (va, .inl (k.2.2.1, cap, .inl bt))] := hD
  refine lv_if_eq (tgt := 25) hx hb dX3_signAt_11 (by decide) (fun c_3 => ?_) (fun c_3 => ?_)
  · rw [if_pos c_3] at hF
    refine lv_iconst (v := 0) hx hb dX3_signAt_25 (by decide) ?_
    subst hF
    exact fc_iret hx hb hr rfl hlk hS () rfl hP hD (by decide) (by decide) dX3_signAt_26
  · rw [if_neg c_3] at hF
    refine lv_aload_n hx hb dX3_signAt_14 rfl (lv_at hl 0 rfl) ?_
    refine va_get (D := D) (ci := 7) (v := .ref sb) (C := RX3) (T := TX3) (N := 1) hx hb hts in_X3_signAt_X3 hown hE.1 hP 0 rfl rfl 0 (by decide) (hts _ lk_X3_signAt_12) (fun _ h9 => h9) rfl dX3_signAt_15 ?_
    refine lv_iload_n hx hb dX3_signAt_18 rfl (lv_at hl 1 rfl) ?_
    obtain ⟨h0, h1, hv⟩ := sb_below hct c_3
    refine fc_ci (isC := [1, 2]) (cells' := 0) (slots' := 0) (fc_runV (n := 1) (As := [.int ii]) (rest := []) (isC := [1, 2]) (maxL := 2) ⟨hx, hb, hml, hown, hts⟩ (c_J4_charAt_5068e sb va cap ml ct bt ii h0 h1 hv H.size) gX3_signAt_J4_charAt_5068e rfl (by decide +kernel) rfl ⟨Nat.le_of_ble_eq_true rfl, Nat.le_of_ble_eq_true rfl⟩ ⟨Nat.le_of_ble_eq_true rfl, Nat.le_of_ble_eq_true rfl⟩ hE hP hD hS hA rfl rfl (va_recv hE.1 hP (ci := 1) (q0 := 1) rfl rfl) hl rfl (Nat.le_of_ble_eq_true rfl) dX3_signAt_19) hP hD hS hA rfl (fun _ => rfl) rfl rfl (fun r_4 _ H locs hr_4 hP hD hS => ?_)
    obtain rfl : (F_J4_charAt_5068e ml ct bt ii) = r_4 := hr_4.symm
    dsimp only [fs, List.set] at hP hD
    have hP : va_P D vwCl [(ln, .inr (7, [.ref sb])), (sb, .inr (1, [.ref va, .int (0 : Int32), .int ml, .int ct])), (va, .inl (k.2.2.1, cap, .inl bt))] H := hP
    have hD : va_D A [(ln, .inr (7, [.ref sb])), (sb, .inr (1, [.ref va, .int (0 : Int32), .int ml, .int ct])), (va, .inl (k.2.2.1, cap, .inl bt))] := hD
    refine lv_goto (tgt := 26) hx hb dX3_signAt_22 (by decide) ?_
    subst hF
    exact fc_iret hx hb hr (by first | rfl | (unfold F_J4_charAt_5068e F_J5_charAt_5068e; exact pk_nc _)) hlk hS () rfl hP hD (by decide) (by decide) dX3_signAt_26

abbrev rm_X3_conditionSign : Room := { frames := 0, cells := 0, slots := 0, locals := 0 }
def F_X3_conditionSign  (ii : Int32) : Int32 := (if ii = (0 : Int32) then (112 : Int32) else if ii = (1 : Int32) then (114 : Int32) else if ii = (2 : Int32) then (98 : Int32) else if ii = (3 : Int32) then (100 : Int32) else (117 : Int32))
set_option maxHeartbeats 4000000 in
set_option maxRecDepth 100000 in
theorem c_X3_conditionSign {l : Launch} {D : va_G} {k : tyK}  (ii : Int32) : FCi l yX3_conditionSign wsX3_conditionSign rm_X3_conditionSign D k [.int ii] [] (fun r (_ : Unit) => r = (F_X3_conditionSign ii)) (fun _ => []) := by
  refine fc_start (cc := cX3_conditionSign) (maxL := 1) (ret := (some .char)) (own := RX3) (Qc := fun A => va_Qi (fun r (_ : Unit) => r = (F_X3_conditionSign ii)) (Bt D (fun _ => []) A) A) (by decide) rfl rfl (Nat.le_of_ble_eq_true rfl) ?_
  intro p e s m below meth c A H hx hb hml hr hts hown hlk hname hA hP hE hD hS ls hl
  obtain ⟨RES, hF⟩ : ∃ z, (F_X3_conditionSign ii) = z := ⟨_, rfl⟩
  rw [hF]
  unfold F_X3_conditionSign at hF
  have hl : lv_has ls 1 [(0, .int ii)] := hl
  obtain ⟨locs, hlocs⟩ : ∃ z : List Loc, z = [] := ⟨_, rfl⟩
  rw [← hlocs] at hS ⊢
  refine lv_iload_n hx hb dX3_conditionSign_0 rfl (lv_at hl 0 rfl) ?_
  by_cases c_1 : ii = (0 : Int32)
  · rw [if_pos c_1] at hF
    refine lv_tableIn (tgt := 32) (off := 31) hx hb dX3_conditionSign_1 (by rw [c_1]; decide) (by rw [c_1]; decide) (by rw [c_1]; rfl) (by decide) ?_
    refine lv_bipush (v := 112) hx hb dX3_conditionSign_32 (by decide) ?_
    subst hF
    exact fc_iret hx hb hr rfl hlk hS () rfl hP hD (by decide) (by decide) dX3_conditionSign_34
  rw [if_neg c_1] at hF
  by_cases c_2 : ii = (1 : Int32)
  · rw [if_pos c_2] at hF
    refine lv_tableIn (tgt := 35) (off := 34) hx hb dX3_conditionSign_1 (by rw [c_2]; decide) (by rw [c_2]; decide) (by rw [c_2]; rfl) (by decide) ?_
    refine lv_bipush (v := 114) hx hb dX3_conditionSign_35 (by decide) ?_
    subst hF
    exact fc_iret hx hb hr rfl hlk hS () rfl hP hD (by decide) (by decide) dX3_conditionSign_37
  rw [if_neg c_2] at hF
  by_cases c_3 : ii = (2 : Int32)
  · rw [if_pos c_3] at hF
    refine lv_tableIn (tgt := 38) (off := 37) hx hb dX3_conditionSign_1 (by rw [c_3]; decide) (by rw [c_3]; decide) (by rw [c_3]; rfl) (by decide) ?_
    refine lv_bipush (v := 98) hx hb dX3_conditionSign_38 (by decide) ?_
    subst hF
    exact fc_iret hx hb hr rfl hlk hS () rfl hP hD (by decide) (by decide) dX3_conditionSign_40
  rw [if_neg c_3] at hF
  by_cases c_4 : ii = (3 : Int32)
  · rw [if_pos c_4] at hF
    refine lv_tableIn (tgt := 41) (off := 40) hx hb dX3_conditionSign_1 (by rw [c_4]; decide) (by rw [c_4]; decide) (by rw [c_4]; rfl) (by decide) ?_
    refine lv_bipush (v := 100) hx hb dX3_conditionSign_41 (by decide) ?_
    subst hF
    exact fc_iret hx hb hr rfl hlk hS () rfl hP hD (by decide) (by decide) dX3_conditionSign_43
  rw [if_neg c_4] at hF
  refine lv_tableOut (tgt := 44) hx hb dX3_conditionSign_1 (by have z := And.intro (i32_ne (n := 0) rfl c_1) True.intro; have z0 := i32_ne (n := 0) rfl c_1; have z1 := i32_ne (n := 1) rfl c_2; have z2 := i32_ne (n := 2) rfl c_3; have z3 := i32_ne (n := 3) rfl c_4; omega) (by decide) ?_
  refine lv_bipush (v := 117) hx hb dX3_conditionSign_44 (by decide) ?_
  subst hF
  exact fc_iret hx hb hr rfl hlk hS () rfl hP hD (by decide) (by decide) dX3_conditionSign_46

abbrev rm_X3_kindSign : Room := { frames := 0, cells := 0, slots := 0, locals := 0 }
def F_X3_kindSign  (ii : Int32) : Int32 := (if ii = (0 : Int32) then (104 : Int32) else if ii = (1 : Int32) then (119 : Int32) else (98 : Int32))
set_option maxHeartbeats 4000000 in
set_option maxRecDepth 100000 in
theorem c_X3_kindSign {l : Launch} {D : va_G} {k : tyK}  (ii : Int32) : FCi l yX3_kindSign wsX3_kindSign rm_X3_kindSign D k [.int ii] [] (fun r (_ : Unit) => r = (F_X3_kindSign ii)) (fun _ => []) := by
  refine fc_start (cc := cX3_kindSign) (maxL := 1) (ret := (some .char)) (own := RX3) (Qc := fun A => va_Qi (fun r (_ : Unit) => r = (F_X3_kindSign ii)) (Bt D (fun _ => []) A) A) (by decide) rfl rfl (Nat.le_of_ble_eq_true rfl) ?_
  intro p e s m below meth c A H hx hb hml hr hts hown hlk hname hA hP hE hD hS ls hl
  obtain ⟨RES, hF⟩ : ∃ z, (F_X3_kindSign ii) = z := ⟨_, rfl⟩
  rw [hF]
  unfold F_X3_kindSign at hF
  have hl : lv_has ls 1 [(0, .int ii)] := hl
  obtain ⟨locs, hlocs⟩ : ∃ z : List Loc, z = [] := ⟨_, rfl⟩
  rw [← hlocs] at hS ⊢
  refine lv_iload_n hx hb dX3_kindSign_0 rfl (lv_at hl 0 rfl) ?_
  by_cases c_1 : ii = (0 : Int32)
  · rw [if_pos c_1] at hF
    refine lv_lookup (tgt := 28) (off := 27) hx hb dX3_kindSign_1 (by decide) (by rw [c_1]; rfl) (by decide) ?_
    refine lv_bipush (v := 104) hx hb dX3_kindSign_28 (by decide) ?_
    subst hF
    exact fc_iret hx hb hr rfl hlk hS () rfl hP hD (by decide) (by decide) dX3_kindSign_30
  rw [if_neg c_1] at hF
  by_cases c_2 : ii = (1 : Int32)
  · rw [if_pos c_2] at hF
    refine lv_lookup (tgt := 31) (off := 30) hx hb dX3_kindSign_1 (by decide) (by rw [c_2]; rfl) (by decide) ?_
    refine lv_bipush (v := 119) hx hb dX3_kindSign_31 (by decide) ?_
    subst hF
    exact fc_iret hx hb hr rfl hlk hS () rfl hP hD (by decide) (by decide) dX3_kindSign_33
  rw [if_neg c_2] at hF
  refine lv_lookup (tgt := 34) (off := 33) hx hb dX3_kindSign_1 (by decide) (by have z0 := i32_ne (n := 0) rfl c_1; have z1 := i32_ne (n := 1) rfl c_2; simp [Op.lookupswitch.offset, List.find?, z0, Ne.symm z0, z1, Ne.symm z1]) (by decide) ?_
  refine lv_bipush (v := 98) hx hb dX3_kindSign_34 (by decide) ?_
  subst hF
  exact fc_iret hx hb hr rfl hlk hS () rfl hP hD (by decide) (by decide) dX3_kindSign_36
end
section TSline0
/-- a number below 100 -/
def SBn (x : Int32) : Prop := ∃ n : Nat, n < 100 ∧ x = nI n
/-- its letters -/
def sbI (x : Int32) : List Int32 := sbD x.toNatClampNeg
theorem sbI_of {v : Nat} (h : v < 100) : sbI (nI v) = sbD v := by
  unfold sbI
  rw [nI_clamp (by omega)]
theorem sbI_len {x : Int32} : (sbI x).length ≤ 2 := by
  unfold sbI
  rw [sbD_len]
  split <;> decide
theorem cT_J4_append_N {l : Launch} {D : va_G} {k : tyK} (sb va : Nat) (cap : Nat) (ml : Int32) (txt : List Int32) (bt : (Nat → Int32)) (ii : Int32) (ok : SBok txt cap bt) (hv : SBn ii) (hlen : txt.length < 141) : FCrS l yJ4_append_bf812 wsJ4_append_bf812 rmT_J4_append_I D k [.ref sb, .int ii] [(sb, .inr (1, [.ref va, .int (0 : Int32), .int ml, .int (nI txt.length)])), (va, .inl (k.2.2.1, cap, .inl bt))] sb (fun u => SBok (txt ++ sbI ii) u.2.1 u.2.2) (sbW k sb ml (txt ++ sbI ii)) := by
  obtain ⟨v, hv, rfl⟩ := hv
  rw [sbI_of hv]
  exact cT_J4_append_I sb va cap ml txt bt v ok hv hlen
theorem ch_X3_kindSign (x : Int32) : SBch (F_X3_kindSign x) := by
  unfold F_X3_kindSign
  repeat' split
  · exact ⟨104, by decide, by decide⟩
  · exact ⟨119, by decide, by decide⟩
  · exact ⟨98, by decide, by decide⟩
theorem ch_X3_conditionSign (x : Int32) : SBch (F_X3_conditionSign x) := by
  unfold F_X3_conditionSign
  repeat' split
  · exact ⟨112, by decide, by decide⟩
  · exact ⟨114, by decide, by decide⟩
  · exact ⟨98, by decide, by decide⟩
  · exact ⟨100, by decide, by decide⟩
  · exact ⟨117, by decide, by decide⟩
end TSline0
