section
abbrev rm_X2_reason : Room := { frames := 0, cells := 0, slots := 0, locals := 0 }
theorem in_X2_reason_X2 : ∀ w ∈ wsX20, w ∈ wsX2_reason := by decide +kernel
theorem lk_X2_reason_9 : (Cond.fieldLink RX2 9 "TheatreSaga$Judge" "latestReason" "I") ∈ wsX2_reason := by decide +kernel
def F_X2_reason (jr : Int32) (jd : Int32)  : Int32 := jr
set_option maxHeartbeats 4000000 in
set_option maxRecDepth 100000 in
theorem c_X2_reason {l : Launch} {D : va_G} {k : tyK} (j : Nat) (jr : Int32) (jd : Int32)  : FCi l yX2_reason wsX2_reason rm_X2_reason D k [.ref j] [(j, .inr (6, [.int jr, .int jd]))] (fun r (_ : Unit) => r = (F_X2_reason jr jd)) (fun _ => [(j, .inr (6, [.int jr, .int jd]))]) := by
  refine fc_start (cc := cX2_reason) (maxL := 1) (ret := (some .int)) (own := RX2) (Qc := fun A => va_Qi (fun r (_ : Unit) => r = (F_X2_reason jr jd)) (Bt D (fun _ => [(j, .inr (6, [.int jr, .int jd]))]) A) A) (by decide) rfl rfl (Nat.le_of_ble_eq_true rfl) ?_
  intro p e s m below meth c A H hx hb hml hr hts hown hlk hname hA hP hE hD hS ls hl
  obtain ⟨RES, hF⟩ : ∃ z, (F_X2_reason jr jd) = z := ⟨_, rfl⟩
  rw [hF]
  unfold F_X2_reason at hF
  have hl : lv_has ls 1 [(0, .ref j)] := hl
  obtain ⟨locs, hlocs⟩ : ∃ z : List Loc, z = [] := ⟨_, rfl⟩
  rw [← hlocs] at hS ⊢
  refine lv_aload_n hx hb dX2_reason_0 rfl (lv_at hl 0 rfl) ?_
  refine va_get (D := D) (ci := 6) (v := .int jr) (C := RX2) (T := TX2) (N := 2) hx hb hts in_X2_reason_X2 hown hE.1 hP 0 rfl rfl 0 (by decide) (hts _ lk_X2_reason_9) (fun _ h9 => h9) rfl dX2_reason_1 ?_
  subst hF
  exact fc_iret hx hb hr rfl hlk hS () rfl hP hD (by decide) (by decide) dX2_reason_4

abbrev rm_X2_detail : Room := { frames := 0, cells := 0, slots := 0, locals := 0 }
theorem in_X2_detail_X2 : ∀ w ∈ wsX20, w ∈ wsX2_detail := by decide +kernel
theorem lk_X2_detail_15 : (Cond.fieldLink RX2 15 "TheatreSaga$Judge" "latestDetail" "I") ∈ wsX2_detail := by decide +kernel
def F_X2_detail (jr : Int32) (jd : Int32)  : Int32 := jd
set_option maxHeartbeats 4000000 in
set_option maxRecDepth 100000 in
theorem c_X2_detail {l : Launch} {D : va_G} {k : tyK} (j : Nat) (jr : Int32) (jd : Int32)  : FCi l yX2_detail wsX2_detail rm_X2_detail D k [.ref j] [(j, .inr (6, [.int jr, .int jd]))] (fun r (_ : Unit) => r = (F_X2_detail jr jd)) (fun _ => [(j, .inr (6, [.int jr, .int jd]))]) := by
  refine fc_start (cc := cX2_detail) (maxL := 1) (ret := (some .int)) (own := RX2) (Qc := fun A => va_Qi (fun r (_ : Unit) => r = (F_X2_detail jr jd)) (Bt D (fun _ => [(j, .inr (6, [.int jr, .int jd]))]) A) A) (by decide) rfl rfl (Nat.le_of_ble_eq_true rfl) ?_
  intro p e s m below meth c A H hx hb hml hr hts hown hlk hname hA hP hE hD hS ls hl
  obtain ⟨RES, hF⟩ : ∃ z, (F_X2_detail jr jd) = z := ⟨_, rfl⟩
  rw [hF]
  unfold F_X2_detail at hF
  have hl : lv_has ls 1 [(0, .ref j)] := hl
  obtain ⟨locs, hlocs⟩ : ∃ z : List Loc, z = [] := ⟨_, rfl⟩
  rw [← hlocs] at hS ⊢
  refine lv_aload_n hx hb dX2_detail_0 rfl (lv_at hl 0 rfl) ?_
  refine va_get (D := D) (ci := 6) (v := .int jd) (C := RX2) (T := TX2) (N := 2) hx hb hts in_X2_detail_X2 hown hE.1 hP 0 rfl rfl 1 (by decide) (hts _ lk_X2_detail_15) (fun _ h9 => h9) rfl dX2_detail_1 ?_
  subst hF
  exact fc_iret hx hb hr rfl hlk hS () rfl hP hD (by decide) (by decide) dX2_detail_4

abbrev rm_X2_refuse : Room := { frames := 0, cells := 0, slots := 0, locals := 0 }
theorem in_X2_refuse_X2 : ∀ w ∈ wsX20, w ∈ wsX2_refuse := by decide +kernel
theorem lk_X2_refuse_9 : (Cond.fieldLink RX2 9 "TheatreSaga$Judge" "latestReason" "I") ∈ wsX2_refuse := by decide +kernel
theorem lk_X2_refuse_15 : (Cond.fieldLink RX2 15 "TheatreSaga$Judge" "latestDetail" "I") ∈ wsX2_refuse := by decide +kernel
def F_X2_refuse (jr : Int32) (jd : Int32) (ir : Int32) (id : Int32) : Int32 × Int32 × Int32 := (ir, ir, id)
set_option maxHeartbeats 4000000 in
set_option maxRecDepth 100000 in
theorem c_X2_refuse {l : Launch} {D : va_G} {k : tyK} (j : Nat) (jr : Int32) (jd : Int32) (ir : Int32) (id : Int32) : FCi l yX2_refuse wsX2_refuse rm_X2_refuse D k [.ref j, .int ir, .int id] [(j, .inr (6, [.int jr, .int jd]))] (fun r (_ : Unit) => r = (F_X2_refuse jr jd ir id).1) (fun _ => [(j, .inr (6, [.int (F_X2_refuse jr jd ir id).2.1, .int (F_X2_refuse jr jd ir id).2.2]))]) := by
  refine fc_start (cc := cX2_refuse) (maxL := 3) (ret := (some .int)) (own := RX2) (Qc := fun A => va_Qi (fun r (_ : Unit) => r = (F_X2_refuse jr jd ir id).1) (Bt D (fun _ => [(j, .inr (6, [.int (F_X2_refuse jr jd ir id).2.1, .int (F_X2_refuse jr jd ir id).2.2]))]) A) A) (by decide) rfl rfl (Nat.le_of_ble_eq_true rfl) ?_
  intro p e s m below meth c A H hx hb hml hr hts hown hlk hname hA hP hE hD hS ls hl
  obtain ⟨RES, hF⟩ : ∃ z, (F_X2_refuse jr jd ir id) = z := ⟨_, rfl⟩
  rw [hF]
  unfold F_X2_refuse at hF
  have hl : lv_has ls 3 [(0, .ref j), (1, .int ir), (2, .int id)] := hl
  obtain ⟨locs, hlocs⟩ : ∃ z : List Loc, z = [] := ⟨_, rfl⟩
  rw [← hlocs] at hS ⊢
  refine lv_aload_n hx hb dX2_refuse_0 rfl (lv_at hl 0 rfl) ?_
  refine lv_iload_n hx hb dX2_refuse_1 rfl (lv_at hl 1 rfl) ?_
  refine va_put (D := D) (ci := 6) (v := .int ir) (ty := .int) (C := RX2) (T := TX2) (N := 2) hx hb hts in_X2_refuse_X2 tyX2 tyX2_ok nmX2 hown hE.1 hP hD hS 0 rfl rfl 0 (by decide) (hts _ lk_X2_refuse_9) (fun _ h9 => h9) rfl (by decide +kernel) rfl rfl (Nat.le_of_ble_eq_true rfl) dX2_refuse_2 (fun H locs hP hD hS => ?_)
  have hP : va_P D vwCl [(j, .inr (6, [.int ir, .int jd]))] H := hP
  have hD : va_D A [(j, .inr (6, [.int ir, .int jd]))] := hD
  refine lv_aload_n hx hb dX2_refuse_5 rfl (lv_at hl 0 rfl) ?_
  refine lv_iload_n hx hb dX2_refuse_6 rfl (lv_at hl 2 rfl) ?_
  refine va_put (D := D) (ci := 6) (v := .int id) (ty := .int) (C := RX2) (T := TX2) (N := 2) hx hb hts in_X2_refuse_X2 tyX2 tyX2_ok nmX2 hown hE.1 hP hD hS 0 rfl rfl 1 (by decide) (hts _ lk_X2_refuse_15) (fun _ h9 => h9) rfl (by decide +kernel) rfl rfl (Nat.le_of_ble_eq_true rfl) dX2_refuse_7 (fun H locs hP hD hS => ?_)
  have hP : va_P D vwCl [(j, .inr (6, [.int ir, .int id]))] H := hP
  have hD : va_D A [(j, .inr (6, [.int ir, .int id]))] := hD
  refine lv_iload_n hx hb dX2_refuse_10 rfl (lv_at hl 1 rfl) ?_
  subst hF
  exact fc_iret hx hb hr rfl hlk hS () rfl hP hD (by decide) (by decide) dX2_refuse_11

abbrev rm_X2_hasTour : Room := { frames := 1, cells := 0, slots := 0, locals := 21 }
def F_X2_hasTour (f : (Nat → Int32)) (it : Int32) : Int32 := (F_X6_isBelow it (F_X0_get f (1 : Int32)))
set_option maxHeartbeats 4000000 in
set_option maxRecDepth 100000 in
theorem c_X2_hasTour {l : Launch} {D : va_G} {k : tyK} (b r : Nat) (f : (Nat → Int32)) (it : Int32) : FCi l yX2_hasTour wsX2_hasTour rm_X2_hasTour D k [.ref b, .int it] [(b, .inr (4, [.ref r])), (r, .inl (k.1, 628, .inl f))] (fun r (_ : Unit) => r = (F_X2_hasTour f it)) (fun _ => [(b, .inr (4, [.ref r])), (r, .inl (k.1, 628, .inl f))]) := by
  refine fc_start (cc := cX2_hasTour) (maxL := 2) (ret := (some .boolean)) (own := RX2) (Qc := fun A => va_Qi (fun r (_ : Unit) => r = (F_X2_hasTour f it)) (Bt D (fun _ => [(b, .inr (4, [.ref r])), (r, .inl (k.1, 628, .inl f))]) A) A) (by decide) rfl rfl (Nat.le_of_ble_eq_true rfl) ?_
  intro p e s m below meth c A H hx hb hml hr hts hown hlk hname hA hP hE hD hS ls hl
  obtain ⟨RES, hF⟩ : ∃ z, (F_X2_hasTour f it) = z := ⟨_, rfl⟩
  rw [hF]
  unfold F_X2_hasTour at hF
  have hl : lv_has ls 2 [(0, .ref b), (1, .int it)] := hl
  obtain ⟨locs, hlocs⟩ : ∃ z : List Loc, z = [] := ⟨_, rfl⟩
  rw [← hlocs] at hS ⊢
  refine lv_iload_n hx hb dX2_hasTour_0 rfl (lv_at hl 1 rfl) ?_
  refine lv_aload_n hx hb dX2_hasTour_1 rfl (lv_at hl 0 rfl) ?_
  refine lv_iconst (v := 1) hx hb dX2_hasTour_2 (by decide) ?_
  refine fc_ci (isC := [0, 1]) (cells' := 0) (slots' := 0) (fc_runV (n := 1) (As := [.int (1 : Int32)]) (rest := [.int it]) (isC := [0, 1]) (maxL := 2) ⟨hx, hb, hml, hown, hts⟩ (c_X0_get b r f (1 : Int32) H.size) gX2_hasTour_X0_get rfl (by decide +kernel) rfl ⟨Nat.le_of_ble_eq_true rfl, Nat.le_of_ble_eq_true rfl⟩ ⟨Nat.le_of_ble_eq_true rfl, Nat.le_of_ble_eq_true rfl⟩ hE hP hD hS hA rfl rfl (va_recv hE.1 hP (ci := 4) (q0 := 0) rfl rfl) hl rfl (Nat.le_of_ble_eq_true rfl) dX2_hasTour_3) hP hD hS hA rfl (fun _ => rfl) rfl rfl (fun r_1 _ H locs hr_1 hP hD hS => ?_)
  obtain rfl : (F_X0_get f (1 : Int32)) = r_1 := hr_1.symm
  dsimp only [fs, List.set] at hP hD
  have hP : va_P D vwCl [(b, .inr (4, [.ref r])), (r, .inl (k.1, 628, .inl f))] H := hP
  have hD : va_D A [(b, .inr (4, [.ref r])), (r, .inl (k.1, 628, .inl f))] := hD
  refine fc_ci (isC := []) (cells' := 0) (slots' := 0) (fc_runSN (n := 2) (As := [.int it, .int (F_X0_get f (1 : Int32))]) (rest := []) (isC := []) (maxL := 2) ⟨hx, hb, hml, hown, hts⟩ (c_X6_isBelow it (F_X0_get f (1 : Int32)) H.size) gX2_hasTour_X6_isBelow_n36 (by decide +kernel) (by decide +kernel) (by decide +kernel) rfl (by decide +kernel) rfl ⟨Nat.le_of_ble_eq_true rfl, Nat.le_of_ble_eq_true rfl⟩ ⟨Nat.le_of_ble_eq_true rfl, Nat.le_of_ble_eq_true rfl⟩ hE hP hD hS hA rfl rfl hl rfl (Nat.le_of_ble_eq_true rfl) dX2_hasTour_6) hP hD hS hA rfl (fun _ => rfl) rfl rfl (fun r_2 _ H locs hr_2 hP hD hS => ?_)
  obtain rfl : (F_X6_isBelow it (F_X0_get f (1 : Int32))) = r_2 := hr_2.symm
  dsimp only [fs, List.set] at hP hD
  have hP : va_P D vwCl [(b, .inr (4, [.ref r])), (r, .inl (k.1, 628, .inl f))] H := hP
  have hD : va_D A [(b, .inr (4, [.ref r])), (r, .inl (k.1, 628, .inl f))] := hD
  subst hF
  exact fc_iret hx hb hr (nar_b (F_X6_isBelow_b ..)) hlk hS () rfl hP hD (by decide) (by decide) dX2_hasTour_9

theorem F_X2_hasTour_b (f : Nat → Int32) (it : Int32) : F_X2_hasTour f it = 0 ∨ F_X2_hasTour f it = 1 := F_X6_isBelow_b _ _

abbrev rm_X2_planning : Room := { frames := 1, cells := 0, slots := 0, locals := 22 }
def F_X2_planning (jr : Int32) (jd : Int32) (f : (Nat → Int32)) (il : Int32) : Int32 × Int32 × Int32 := (if (F_X6_isWithin il (0 : Int32) (4 : Int32)) = (0 : Int32) then ((-2 : Int32), jr, jd) else (if (6 : Int32) ≤ (F_X0_get f (1 : Int32)) then (letp (F_X2_refuse jr jd (1 : Int32) (6 : Int32)) (fun (p_5 : Int32 × Int32 × Int32) => (p_5.1, p_5.2.1, p_5.2.2))) else ((0 : Int32), jr, jd)))
set_option maxHeartbeats 4000000 in
set_option maxRecDepth 100000 in
theorem c_X2_planning {l : Launch} {D : va_G} {k : tyK} (j b r : Nat) (jr : Int32) (jd : Int32) (f : (Nat → Int32)) (il : Int32) : FCi l yX2_planning wsX2_planning rm_X2_planning D k [.ref j, .ref b, .int il] [(j, .inr (6, [.int jr, .int jd])), (b, .inr (4, [.ref r])), (r, .inl (k.1, 628, .inl f))] (fun r (_ : Unit) => r = (F_X2_planning jr jd f il).1) (fun _ => [(j, .inr (6, [.int (F_X2_planning jr jd f il).2.1, .int (F_X2_planning jr jd f il).2.2])), (b, .inr (4, [.ref r])), (r, .inl (k.1, 628, .inl f))]) := by
  refine fc_start (cc := cX2_planning) (maxL := 3) (ret := (some .int)) (own := RX2) (Qc := fun A => va_Qi (fun r (_ : Unit) => r = (F_X2_planning jr jd f il).1) (Bt D (fun _ => [(j, .inr (6, [.int (F_X2_planning jr jd f il).2.1, .int (F_X2_planning jr jd f il).2.2])), (b, .inr (4, [.ref r])), (r, .inl (k.1, 628, .inl f))]) A) A) (by decide) rfl rfl (Nat.le_of_ble_eq_true rfl) ?_
  intro p e s m below meth c A H hx hb hml hr hts hown hlk hname hA hP hE hD hS ls hl
  obtain ⟨RES, hF⟩ : ∃ z, (F_X2_planning jr jd f il) = z := ⟨_, rfl⟩
  rw [hF]
  unfold F_X2_planning at hF
  have hl : lv_has ls 3 [(0, .ref j), (1, .ref b), (2, .int il)] := hl
  obtain ⟨locs, hlocs⟩ : ∃ z : List Loc, z = [] := ⟨_, rfl⟩
  rw [← hlocs] at hS ⊢
  refine lv_iload_n hx hb dX2_planning_0 rfl (lv_at hl 2 rfl) ?_
  refine lv_iconst (v := 0) hx hb dX2_planning_1 (by decide) ?_
  refine lv_iconst (v := 4) hx hb dX2_planning_2 (by decide) ?_
  refine fc_ci (isC := []) (cells' := 0) (slots' := 0) (fc_runSN (n := 3) (As := [.int il, .int (0 : Int32), .int (4 : Int32)]) (rest := []) (isC := []) (maxL := 3) ⟨hx, hb, hml, hown, hts⟩ (c_X6_isWithin il (0 : Int32) (4 : Int32) H.size) gX2_planning_X6_isWithin_n18 (by decide +kernel) (by decide +kernel) (by decide +kernel) rfl (by decide +kernel) rfl ⟨Nat.le_of_ble_eq_true rfl, Nat.le_of_ble_eq_true rfl⟩ ⟨Nat.le_of_ble_eq_true rfl, Nat.le_of_ble_eq_true rfl⟩ hE hP hD hS hA rfl rfl hl rfl (Nat.le_of_ble_eq_true rfl) dX2_planning_3) hP hD hS hA rfl (fun _ => rfl) rfl rfl (fun r_1 _ H locs hr_1 hP hD hS => ?_)
  obtain rfl : (F_X6_isWithin il (0 : Int32) (4 : Int32)) = r_1 := hr_1.symm
  dsimp only [fs, List.set] at hP hD
  have hP : va_P D vwCl [(j, .inr (6, [.int jr, .int jd])), (b, .inr (4, [.ref r])), (r, .inl (k.1, 628, .inl f))] H := hP
  have hD : va_D A [(j, .inr (6, [.int jr, .int jd])), (b, .inr (4, [.ref r])), (r, .inl (k.1, 628, .inl f))] := hD
  refine lv_if_ne (tgt := 12) hx hb dX2_planning_6 (by decide) (fun c_2 => ?_) (fun c_2 => ?_)
  · rw [if_neg c_2] at hF
    refine lv_aload_n hx hb dX2_planning_12 rfl (lv_at hl 1 rfl) ?_
    refine lv_iconst (v := 1) hx hb dX2_planning_13 (by decide) ?_
    refine fc_ci (isC := [1, 2]) (cells' := 0) (slots' := 0) (fc_runV (n := 1) (As := [.int (1 : Int32)]) (rest := []) (isC := [1, 2]) (maxL := 2) ⟨hx, hb, hml, hown, hts⟩ (c_X0_get b r f (1 : Int32) H.size) gX2_planning_X0_get rfl (by decide +kernel) rfl ⟨Nat.le_of_ble_eq_true rfl, Nat.le_of_ble_eq_true rfl⟩ ⟨Nat.le_of_ble_eq_true rfl, Nat.le_of_ble_eq_true rfl⟩ hE hP hD hS hA rfl rfl (va_recv hE.1 hP (ci := 4) (q0 := 1) rfl rfl) hl rfl (Nat.le_of_ble_eq_true rfl) dX2_planning_14) hP hD hS hA rfl (fun _ => rfl) rfl rfl (fun r_3 _ H locs hr_3 hP hD hS => ?_)
    obtain rfl : (F_X0_get f (1 : Int32)) = r_3 := hr_3.symm
    dsimp only [fs, List.set] at hP hD
    have hP : va_P D vwCl [(j, .inr (6, [.int jr, .int jd])), (b, .inr (4, [.ref r])), (r, .inl (k.1, 628, .inl f))] H := hP
    have hD : va_D A [(j, .inr (6, [.int jr, .int jd])), (b, .inr (4, [.ref r])), (r, .inl (k.1, 628, .inl f))] := hD
    refine lv_bipush (v := 6) hx hb dX2_planning_17 (by decide) ?_
    refine lv_icmp_ge (tgt := 26) hx hb dX2_planning_19 (by decide) (fun c_4 => ?_) (fun c_4 => ?_)
    · rw [if_pos c_4] at hF
      refine lv_aload_n hx hb dX2_planning_26 rfl (lv_at hl 0 rfl) ?_
      refine lv_iconst (v := 1) hx hb dX2_planning_27 (by decide) ?_
      refine lv_bipush (v := 6) hx hb dX2_planning_28 (by decide) ?_
      generalize hp_5 : (F_X2_refuse jr jd (1 : Int32) (6 : Int32)) = p_5 at hF
      rw [letp_eq] at hF
      refine fc_ci (isC := [0]) (cells' := 0) (slots' := 0) (fc_runV (n := 2) (As := [.int (1 : Int32), .int (6 : Int32)]) (rest := []) (isC := [0]) (maxL := 3) ⟨hx, hb, hml, hown, hts⟩ (c_X2_refuse j jr jd (1 : Int32) (6 : Int32) H.size) gX2_planning_X2_refuse rfl (by decide +kernel) rfl ⟨Nat.le_of_ble_eq_true rfl, Nat.le_of_ble_eq_true rfl⟩ ⟨Nat.le_of_ble_eq_true rfl, Nat.le_of_ble_eq_true rfl⟩ hE hP hD hS hA rfl rfl (va_recv hE.1 hP (ci := 6) (q0 := 0) rfl rfl) hl rfl (Nat.le_of_ble_eq_true rfl) dX2_planning_30) hP hD hS hA rfl (fun _ => rfl) rfl rfl (fun r_6 _ H locs hr_6 hP hD hS => ?_)
      rw [hp_5] at hr_6 hP hD
      obtain rfl : p_5.1 = r_6 := hr_6.symm
      dsimp only [fs, List.set] at hP hD
      have hP : va_P D vwCl [(j, .inr (6, [.int p_5.2.1, .int p_5.2.2])), (b, .inr (4, [.ref r])), (r, .inl (k.1, 628, .inl f))] H := hP
      have hD : va_D A [(j, .inr (6, [.int p_5.2.1, .int p_5.2.2])), (b, .inr (4, [.ref r])), (r, .inl (k.1, 628, .inl f))] := hD
      subst hF
      exact fc_iret hx hb hr rfl hlk hS () rfl hP hD (by decide) (by decide) dX2_planning_33
    · rw [if_neg c_4] at hF
      refine lv_iconst (v := 0) hx hb dX2_planning_22 (by decide) ?_
      refine lv_goto (tgt := 33) hx hb dX2_planning_23 (by decide) ?_
      subst hF
      exact fc_iret hx hb hr rfl hlk hS () rfl hP hD (by decide) (by decide) dX2_planning_33
  · rw [if_pos c_2] at hF
    refine lv_bipush (v := -2) hx hb dX2_planning_9 (by decide) ?_
    subst hF
    exact fc_iret hx hb hr rfl hlk hS () rfl hP hD (by decide) (by decide) dX2_planning_11

abbrev rm_X2_giving : Room := { frames := 2, cells := 0, slots := 0, locals := 49 }
def F_X2_giving (jr : Int32) (jd : Int32) (f : (Nat → Int32)) (it : Int32) (ik : Int32) (iw : Int32) (id : Int32) (im : Int32) : Int32 × Int32 × Int32 := (if (F_X2_hasTour f it) = (0 : Int32) then ((-1 : Int32), jr, jd) else (if (F_X6_isBelow iw (5 : Int32)) = (0 : Int32) then ((-1 : Int32), jr, jd) else (if (F_X6_isBelow id (20 : Int32)) = (0 : Int32) then ((-1 : Int32), jr, jd) else (if (F_X6_isBelow ik (3 : Int32)) = (0 : Int32) then ((-2 : Int32), jr, jd) else (if (F_X6_isWithin im (1 : Int32) (F_X6_mostOf ik)) = (0 : Int32) then ((-2 : Int32), jr, jd) else (if (F_X0_get f (F_X6_ofTour it (0 : Int32))) = (0 : Int32) then (if (F_X6_findStep f it ik iw id) = (-1 : Int32) then (if (8 : Int32) ≤ (F_X0_get f (F_X6_ofTour it (2 : Int32))) then (letp (F_X2_refuse jr jd (1 : Int32) (8 : Int32)) (fun (p_20 : Int32 × Int32 × Int32) => (p_20.1, p_20.2.1, p_20.2.2))) else ((0 : Int32), jr, jd)) else (letp (F_X2_refuse jr jd (5 : Int32) (F_X6_findStep f it ik iw id)) (fun (p_22 : Int32 × Int32 × Int32) => (p_22.1, p_22.2.1, p_22.2.2)))) else (letp (F_X2_refuse jr jd (2 : Int32) (F_X0_get f (F_X6_ofTour it (0 : Int32)))) (fun (p_24 : Int32 × Int32 × Int32) => (p_24.1, p_24.2.1, p_24.2.2)))))))))
set_option maxHeartbeats 4000000 in
set_option maxRecDepth 100000 in
theorem c_X2_giving {l : Launch} {D : va_G} {k : tyK} (j b r : Nat) (jr : Int32) (jd : Int32) (f : (Nat → Int32)) (it : Int32) (ik : Int32) (iw : Int32) (id : Int32) (im : Int32) : FCi l yX2_giving wsX2_giving rm_X2_giving D k [.ref j, .ref b, .int it, .int ik, .int iw, .int id, .int im] [(j, .inr (6, [.int jr, .int jd])), (b, .inr (4, [.ref r])), (r, .inl (k.1, 628, .inl f))] (fun r (_ : Unit) => r = (F_X2_giving jr jd f it ik iw id im).1) (fun _ => [(j, .inr (6, [.int (F_X2_giving jr jd f it ik iw id im).2.1, .int (F_X2_giving jr jd f it ik iw id im).2.2])), (b, .inr (4, [.ref r])), (r, .inl (k.1, 628, .inl f))]) := by
  refine fc_start (cc := cX2_giving) (maxL := 9) (ret := (some .int)) (own := RX2) (Qc := fun A => va_Qi (fun r (_ : Unit) => r = (F_X2_giving jr jd f it ik iw id im).1) (Bt D (fun _ => [(j, .inr (6, [.int (F_X2_giving jr jd f it ik iw id im).2.1, .int (F_X2_giving jr jd f it ik iw id im).2.2])), (b, .inr (4, [.ref r])), (r, .inl (k.1, 628, .inl f))]) A) A) (by decide) rfl rfl (Nat.le_of_ble_eq_true rfl) ?_
  intro p e s m below meth c A H hx hb hml hr hts hown hlk hname hA hP hE hD hS ls hl
  obtain ⟨RES, hF⟩ : ∃ z, (F_X2_giving jr jd f it ik iw id im) = z := ⟨_, rfl⟩
  rw [hF]
  unfold F_X2_giving at hF
  have hl : lv_has ls 9 [(0, .ref j), (1, .ref b), (2, .int it), (3, .int ik), (4, .int iw), (5, .int id), (6, .int im)] := hl
  obtain ⟨locs, hlocs⟩ : ∃ z : List Loc, z = [] := ⟨_, rfl⟩
  rw [← hlocs] at hS ⊢
  refine lv_aload_n hx hb dX2_giving_0 rfl (lv_at hl 1 rfl) ?_
  refine lv_iload_n hx hb dX2_giving_1 rfl (lv_at hl 2 rfl) ?_
  refine fc_ci (isC := [1, 2]) (cells' := 0) (slots' := 0) (fc_runS (n := 2) (As := [.ref b, .int it]) (rest := []) (isC := [1, 2]) (maxL := 2) ⟨hx, hb, hml, hown, hts⟩ (c_X2_hasTour b r f it H.size) gX2_giving_X2_hasTour rfl (by decide +kernel) rfl ⟨Nat.le_of_ble_eq_true rfl, Nat.le_of_ble_eq_true rfl⟩ ⟨Nat.le_of_ble_eq_true rfl, Nat.le_of_ble_eq_true rfl⟩ hE hP hD hS hA rfl rfl hl rfl (Nat.le_of_ble_eq_true rfl) dX2_giving_2) hP hD hS hA rfl (fun _ => rfl) rfl rfl (fun r_1 _ H locs hr_1 hP hD hS => ?_)
  obtain rfl : (F_X2_hasTour f it) = r_1 := hr_1.symm
  dsimp only [fs, List.set] at hP hD
  have hP : va_P D vwCl [(j, .inr (6, [.int jr, .int jd])), (b, .inr (4, [.ref r])), (r, .inl (k.1, 628, .inl f))] H := hP
  have hD : va_D A [(j, .inr (6, [.int jr, .int jd])), (b, .inr (4, [.ref r])), (r, .inl (k.1, 628, .inl f))] := hD
  refine lv_if_eq (tgt := 27) hx hb dX2_giving_5 (by decide) (fun c_2 => ?_) (fun c_2 => ?_)
  · rw [if_pos c_2] at hF
    refine lv_iconst (v := -1) hx hb dX2_giving_27 (by decide) ?_
    subst hF
    exact fc_iret hx hb hr rfl hlk hS () rfl hP hD (by decide) (by decide) dX2_giving_28
  · rw [if_neg c_2] at hF
    refine lv_iload hx hb dX2_giving_8 (lv_at hl 4 rfl) ?_
    refine lv_iconst (v := 5) hx hb dX2_giving_10 (by decide) ?_
    refine fc_ci (isC := []) (cells' := 0) (slots' := 0) (fc_runSN (n := 2) (As := [.int iw, .int (5 : Int32)]) (rest := []) (isC := []) (maxL := 2) ⟨hx, hb, hml, hown, hts⟩ (c_X6_isBelow iw (5 : Int32) H.size) gX2_giving_X6_isBelow_n36 (by decide +kernel) (by decide +kernel) (by decide +kernel) rfl (by decide +kernel) rfl ⟨Nat.le_of_ble_eq_true rfl, Nat.le_of_ble_eq_true rfl⟩ ⟨Nat.le_of_ble_eq_true rfl, Nat.le_of_ble_eq_true rfl⟩ hE hP hD hS hA rfl rfl hl rfl (Nat.le_of_ble_eq_true rfl) dX2_giving_11) hP hD hS hA rfl (fun _ => rfl) rfl rfl (fun r_3 _ H locs hr_3 hP hD hS => ?_)
    obtain rfl : (F_X6_isBelow iw (5 : Int32)) = r_3 := hr_3.symm
    dsimp only [fs, List.set] at hP hD
    have hP : va_P D vwCl [(j, .inr (6, [.int jr, .int jd])), (b, .inr (4, [.ref r])), (r, .inl (k.1, 628, .inl f))] H := hP
    have hD : va_D A [(j, .inr (6, [.int jr, .int jd])), (b, .inr (4, [.ref r])), (r, .inl (k.1, 628, .inl f))] := hD
    refine lv_if_eq (tgt := 27) hx hb dX2_giving_14 (by decide) (fun c_4 => ?_) (fun c_4 => ?_)
    · rw [if_pos c_4] at hF
      refine lv_iconst (v := -1) hx hb dX2_giving_27 (by decide) ?_
      subst hF
      exact fc_iret hx hb hr rfl hlk hS () rfl hP hD (by decide) (by decide) dX2_giving_28
    · rw [if_neg c_4] at hF
      refine lv_iload hx hb dX2_giving_17 (lv_at hl 5 rfl) ?_
      refine lv_bipush (v := 20) hx hb dX2_giving_19 (by decide) ?_
      refine fc_ci (isC := []) (cells' := 0) (slots' := 0) (fc_runSN (n := 2) (As := [.int id, .int (20 : Int32)]) (rest := []) (isC := []) (maxL := 2) ⟨hx, hb, hml, hown, hts⟩ (c_X6_isBelow id (20 : Int32) H.size) gX2_giving_X6_isBelow_n36 (by decide +kernel) (by decide +kernel) (by decide +kernel) rfl (by decide +kernel) rfl ⟨Nat.le_of_ble_eq_true rfl, Nat.le_of_ble_eq_true rfl⟩ ⟨Nat.le_of_ble_eq_true rfl, Nat.le_of_ble_eq_true rfl⟩ hE hP hD hS hA rfl rfl hl rfl (Nat.le_of_ble_eq_true rfl) dX2_giving_21) hP hD hS hA rfl (fun _ => rfl) rfl rfl (fun r_5 _ H locs hr_5 hP hD hS => ?_)
      obtain rfl : (F_X6_isBelow id (20 : Int32)) = r_5 := hr_5.symm
      dsimp only [fs, List.set] at hP hD
      have hP : va_P D vwCl [(j, .inr (6, [.int jr, .int jd])), (b, .inr (4, [.ref r])), (r, .inl (k.1, 628, .inl f))] H := hP
      have hD : va_D A [(j, .inr (6, [.int jr, .int jd])), (b, .inr (4, [.ref r])), (r, .inl (k.1, 628, .inl f))] := hD
      refine lv_if_ne (tgt := 29) hx hb dX2_giving_24 (by decide) (fun c_6 => ?_) (fun c_6 => ?_)
      · rw [if_neg c_6] at hF
        refine lv_iload_n hx hb dX2_giving_29 rfl (lv_at hl 3 rfl) ?_
        refine lv_iconst (v := 3) hx hb dX2_giving_30 (by decide) ?_
        refine fc_ci (isC := []) (cells' := 0) (slots' := 0) (fc_runSN (n := 2) (As := [.int ik, .int (3 : Int32)]) (rest := []) (isC := []) (maxL := 2) ⟨hx, hb, hml, hown, hts⟩ (c_X6_isBelow ik (3 : Int32) H.size) gX2_giving_X6_isBelow_n36 (by decide +kernel) (by decide +kernel) (by decide +kernel) rfl (by decide +kernel) rfl ⟨Nat.le_of_ble_eq_true rfl, Nat.le_of_ble_eq_true rfl⟩ ⟨Nat.le_of_ble_eq_true rfl, Nat.le_of_ble_eq_true rfl⟩ hE hP hD hS hA rfl rfl hl rfl (Nat.le_of_ble_eq_true rfl) dX2_giving_31) hP hD hS hA rfl (fun _ => rfl) rfl rfl (fun r_7 _ H locs hr_7 hP hD hS => ?_)
        obtain rfl : (F_X6_isBelow ik (3 : Int32)) = r_7 := hr_7.symm
        dsimp only [fs, List.set] at hP hD
        have hP : va_P D vwCl [(j, .inr (6, [.int jr, .int jd])), (b, .inr (4, [.ref r])), (r, .inl (k.1, 628, .inl f))] H := hP
        have hD : va_D A [(j, .inr (6, [.int jr, .int jd])), (b, .inr (4, [.ref r])), (r, .inl (k.1, 628, .inl f))] := hD
        refine lv_if_eq (tgt := 50) hx hb dX2_giving_34 (by decide) (fun c_8 => ?_) (fun c_8 => ?_)
        · rw [if_pos c_8] at hF
          refine lv_bipush (v := -2) hx hb dX2_giving_50 (by decide) ?_
          subst hF
          exact fc_iret hx hb hr rfl hlk hS () rfl hP hD (by decide) (by decide) dX2_giving_52
        · rw [if_neg c_8] at hF
          refine lv_iload hx hb dX2_giving_37 (lv_at hl 6 rfl) ?_
          refine lv_iconst (v := 1) hx hb dX2_giving_39 (by decide) ?_
          refine lv_iload_n hx hb dX2_giving_40 rfl (lv_at hl 3 rfl) ?_
          refine fc_ci (isC := []) (cells' := 0) (slots' := 0) (fc_runSN (n := 1) (As := [.int ik]) (rest := [.int (1 : Int32), .int im]) (isC := []) (maxL := 1) ⟨hx, hb, hml, hown, hts⟩ (c_X6_mostOf ik H.size) gX2_giving_X6_mostOf_n40 (by decide +kernel) (by decide +kernel) (by decide +kernel) rfl (by decide +kernel) rfl ⟨Nat.le_of_ble_eq_true rfl, Nat.le_of_ble_eq_true rfl⟩ ⟨Nat.le_of_ble_eq_true rfl, Nat.le_of_ble_eq_true rfl⟩ hE hP hD hS hA rfl rfl hl rfl (Nat.le_of_ble_eq_true rfl) dX2_giving_41) hP hD hS hA rfl (fun _ => rfl) rfl rfl (fun r_9 _ H locs hr_9 hP hD hS => ?_)
          obtain rfl : (F_X6_mostOf ik) = r_9 := hr_9.symm
          dsimp only [fs, List.set] at hP hD
          have hP : va_P D vwCl [(j, .inr (6, [.int jr, .int jd])), (b, .inr (4, [.ref r])), (r, .inl (k.1, 628, .inl f))] H := hP
          have hD : va_D A [(j, .inr (6, [.int jr, .int jd])), (b, .inr (4, [.ref r])), (r, .inl (k.1, 628, .inl f))] := hD
          refine fc_ci (isC := []) (cells' := 0) (slots' := 0) (fc_runSN (n := 3) (As := [.int im, .int (1 : Int32), .int (F_X6_mostOf ik)]) (rest := []) (isC := []) (maxL := 3) ⟨hx, hb, hml, hown, hts⟩ (c_X6_isWithin im (1 : Int32) (F_X6_mostOf ik) H.size) gX2_giving_X6_isWithin_n18 (by decide +kernel) (by decide +kernel) (by decide +kernel) rfl (by decide +kernel) rfl ⟨Nat.le_of_ble_eq_true rfl, Nat.le_of_ble_eq_true rfl⟩ ⟨Nat.le_of_ble_eq_true rfl, Nat.le_of_ble_eq_true rfl⟩ hE hP hD hS hA rfl rfl hl rfl (Nat.le_of_ble_eq_true rfl) dX2_giving_44) hP hD hS hA rfl (fun _ => rfl) rfl rfl (fun r_10 _ H locs hr_10 hP hD hS => ?_)
          obtain rfl : (F_X6_isWithin im (1 : Int32) (F_X6_mostOf ik)) = r_10 := hr_10.symm
          dsimp only [fs, List.set] at hP hD
          have hP : va_P D vwCl [(j, .inr (6, [.int jr, .int jd])), (b, .inr (4, [.ref r])), (r, .inl (k.1, 628, .inl f))] H := hP
          have hD : va_D A [(j, .inr (6, [.int jr, .int jd])), (b, .inr (4, [.ref r])), (r, .inl (k.1, 628, .inl f))] := hD
          refine lv_if_ne (tgt := 53) hx hb dX2_giving_47 (by decide) (fun c_11 => ?_) (fun c_11 => ?_)
          · rw [if_neg c_11] at hF
            refine lv_aload_n hx hb dX2_giving_53 rfl (lv_at hl 1 rfl) ?_
            refine lv_iload_n hx hb dX2_giving_54 rfl (lv_at hl 2 rfl) ?_
            refine lv_iconst (v := 0) hx hb dX2_giving_55 (by decide) ?_
            refine fc_ci (isC := []) (cells' := 0) (slots' := 0) (fc_runSN (n := 2) (As := [.int it, .int (0 : Int32)]) (rest := [.ref b]) (isC := []) (maxL := 2) ⟨hx, hb, hml, hown, hts⟩ (c_X6_ofTour it (0 : Int32) H.size) gX2_giving_X6_ofTour_n43 (by decide +kernel) (by decide +kernel) (by decide +kernel) rfl (by decide +kernel) rfl ⟨Nat.le_of_ble_eq_true rfl, Nat.le_of_ble_eq_true rfl⟩ ⟨Nat.le_of_ble_eq_true rfl, Nat.le_of_ble_eq_true rfl⟩ hE hP hD hS hA rfl rfl hl rfl (Nat.le_of_ble_eq_true rfl) dX2_giving_56) hP hD hS hA rfl (fun _ => rfl) rfl rfl (fun r_12 _ H locs hr_12 hP hD hS => ?_)
            obtain rfl : (F_X6_ofTour it (0 : Int32)) = r_12 := hr_12.symm
            dsimp only [fs, List.set] at hP hD
            have hP : va_P D vwCl [(j, .inr (6, [.int jr, .int jd])), (b, .inr (4, [.ref r])), (r, .inl (k.1, 628, .inl f))] H := hP
            have hD : va_D A [(j, .inr (6, [.int jr, .int jd])), (b, .inr (4, [.ref r])), (r, .inl (k.1, 628, .inl f))] := hD
            refine fc_ci (isC := [1, 2]) (cells' := 0) (slots' := 0) (fc_runV (n := 1) (As := [.int (F_X6_ofTour it (0 : Int32))]) (rest := []) (isC := [1, 2]) (maxL := 2) ⟨hx, hb, hml, hown, hts⟩ (c_X0_get b r f (F_X6_ofTour it (0 : Int32)) H.size) gX2_giving_X0_get rfl (by decide +kernel) rfl ⟨Nat.le_of_ble_eq_true rfl, Nat.le_of_ble_eq_true rfl⟩ ⟨Nat.le_of_ble_eq_true rfl, Nat.le_of_ble_eq_true rfl⟩ hE hP hD hS hA rfl rfl (va_recv hE.1 hP (ci := 4) (q0 := 1) rfl rfl) hl rfl (Nat.le_of_ble_eq_true rfl) dX2_giving_59) hP hD hS hA rfl (fun _ => rfl) rfl rfl (fun r_13 _ H locs hr_13 hP hD hS => ?_)
            obtain rfl : (F_X0_get f (F_X6_ofTour it (0 : Int32))) = r_13 := hr_13.symm
            dsimp only [fs, List.set] at hP hD
            have hP : va_P D vwCl [(j, .inr (6, [.int jr, .int jd])), (b, .inr (4, [.ref r])), (r, .inl (k.1, 628, .inl f))] H := hP
            have hD : va_D A [(j, .inr (6, [.int jr, .int jd])), (b, .inr (4, [.ref r])), (r, .inl (k.1, 628, .inl f))] := hD
            refine lv_istore (lv' := [(7, .int (F_X0_get f (F_X6_ofTour it (0 : Int32)))), (0, .ref j), (1, .ref b), (2, .int it), (3, .int ik), (4, .int iw), (5, .int id), (6, .int im)]) hx hb dX2_giving_62 hl (by decide) rfl (fun ls hl => ?_)
            refine lv_iload hx hb dX2_giving_64 (lv_at hl 0 rfl) ?_
            refine lv_if_eq (tgt := 77) hx hb dX2_giving_66 (by decide) (fun c_14 => ?_) (fun c_14 => ?_)
            · rw [if_pos c_14] at hF
              refine lv_aload_n hx hb dX2_giving_77 rfl (lv_at hl 2 rfl) ?_
              refine lv_iload_n hx hb dX2_giving_78 rfl (lv_at hl 3 rfl) ?_
              refine lv_iload_n hx hb dX2_giving_79 rfl (lv_at hl 4 rfl) ?_
              refine lv_iload hx hb dX2_giving_80 (lv_at hl 5 rfl) ?_
              refine lv_iload hx hb dX2_giving_82 (lv_at hl 6 rfl) ?_
              refine fc_ci (isC := [1, 2]) (cells' := 0) (slots' := 0) (fc_runSN (n := 5) (As := [.ref b, .int it, .int ik, .int iw, .int id]) (rest := []) (isC := [1, 2]) (maxL := 8) ⟨hx, hb, hml, hown, hts⟩ (c_X6_findStep b r f it ik iw id H.size) gX2_giving_X6_findStep_n46 (by decide +kernel) (by decide +kernel) (by decide +kernel) rfl (by decide +kernel) rfl ⟨Nat.le_of_ble_eq_true rfl, Nat.le_of_ble_eq_true rfl⟩ ⟨Nat.le_of_ble_eq_true rfl, Nat.le_of_ble_eq_true rfl⟩ hE hP hD hS hA rfl rfl hl rfl (Nat.le_of_ble_eq_true rfl) dX2_giving_84) hP hD hS hA rfl (fun _ => rfl) rfl rfl (fun r_15 _ H locs hr_15 hP hD hS => ?_)
              obtain rfl : (F_X6_findStep f it ik iw id) = r_15 := hr_15.symm
              dsimp only [fs, List.set] at hP hD
              have hP : va_P D vwCl [(j, .inr (6, [.int jr, .int jd])), (b, .inr (4, [.ref r])), (r, .inl (k.1, 628, .inl f))] H := hP
              have hD : va_D A [(j, .inr (6, [.int jr, .int jd])), (b, .inr (4, [.ref r])), (r, .inl (k.1, 628, .inl f))] := hD
              refine lv_istore (lv' := [(8, .int (F_X6_findStep f it ik iw id)), (7, .int (F_X0_get f (F_X6_ofTour it (0 : Int32)))), (0, .ref j), (1, .ref b), (2, .int it), (3, .int ik), (4, .int iw), (5, .int id), (6, .int im)]) hx hb dX2_giving_87 hl (by decide) rfl (fun ls hl => ?_)
              refine lv_iload hx hb dX2_giving_89 (lv_at hl 0 rfl) ?_
              refine lv_iconst (v := -1) hx hb dX2_giving_91 (by decide) ?_
              refine lv_icmp_eq (tgt := 103) hx hb dX2_giving_92 (by decide) (fun c_16 => ?_) (fun c_16 => ?_)
              · rw [if_pos c_16] at hF
                refine lv_aload_n hx hb dX2_giving_103 rfl (lv_at hl 3 rfl) ?_
                refine lv_iload_n hx hb dX2_giving_104 rfl (lv_at hl 4 rfl) ?_
                refine lv_iconst (v := 2) hx hb dX2_giving_105 (by decide) ?_
                refine fc_ci (isC := []) (cells' := 0) (slots' := 0) (fc_runSN (n := 2) (As := [.int it, .int (2 : Int32)]) (rest := [.ref b]) (isC := []) (maxL := 2) ⟨hx, hb, hml, hown, hts⟩ (c_X6_ofTour it (2 : Int32) H.size) gX2_giving_X6_ofTour_n43 (by decide +kernel) (by decide +kernel) (by decide +kernel) rfl (by decide +kernel) rfl ⟨Nat.le_of_ble_eq_true rfl, Nat.le_of_ble_eq_true rfl⟩ ⟨Nat.le_of_ble_eq_true rfl, Nat.le_of_ble_eq_true rfl⟩ hE hP hD hS hA rfl rfl hl rfl (Nat.le_of_ble_eq_true rfl) dX2_giving_106) hP hD hS hA rfl (fun _ => rfl) rfl rfl (fun r_17 _ H locs hr_17 hP hD hS => ?_)
                obtain rfl : (F_X6_ofTour it (2 : Int32)) = r_17 := hr_17.symm
                dsimp only [fs, List.set] at hP hD
                have hP : va_P D vwCl [(j, .inr (6, [.int jr, .int jd])), (b, .inr (4, [.ref r])), (r, .inl (k.1, 628, .inl f))] H := hP
                have hD : va_D A [(j, .inr (6, [.int jr, .int jd])), (b, .inr (4, [.ref r])), (r, .inl (k.1, 628, .inl f))] := hD
                refine fc_ci (isC := [1, 2]) (cells' := 0) (slots' := 0) (fc_runV (n := 1) (As := [.int (F_X6_ofTour it (2 : Int32))]) (rest := []) (isC := [1, 2]) (maxL := 2) ⟨hx, hb, hml, hown, hts⟩ (c_X0_get b r f (F_X6_ofTour it (2 : Int32)) H.size) gX2_giving_X0_get rfl (by decide +kernel) rfl ⟨Nat.le_of_ble_eq_true rfl, Nat.le_of_ble_eq_true rfl⟩ ⟨Nat.le_of_ble_eq_true rfl, Nat.le_of_ble_eq_true rfl⟩ hE hP hD hS hA rfl rfl (va_recv hE.1 hP (ci := 4) (q0 := 1) rfl rfl) hl rfl (Nat.le_of_ble_eq_true rfl) dX2_giving_109) hP hD hS hA rfl (fun _ => rfl) rfl rfl (fun r_18 _ H locs hr_18 hP hD hS => ?_)
                obtain rfl : (F_X0_get f (F_X6_ofTour it (2 : Int32))) = r_18 := hr_18.symm
                dsimp only [fs, List.set] at hP hD
                have hP : va_P D vwCl [(j, .inr (6, [.int jr, .int jd])), (b, .inr (4, [.ref r])), (r, .inl (k.1, 628, .inl f))] H := hP
                have hD : va_D A [(j, .inr (6, [.int jr, .int jd])), (b, .inr (4, [.ref r])), (r, .inl (k.1, 628, .inl f))] := hD
                refine lv_bipush (v := 8) hx hb dX2_giving_112 (by decide) ?_
                refine lv_icmp_ge (tgt := 121) hx hb dX2_giving_114 (by decide) (fun c_19 => ?_) (fun c_19 => ?_)
                · rw [if_pos c_19] at hF
                  refine lv_aload_n hx hb dX2_giving_121 rfl (lv_at hl 2 rfl) ?_
                  refine lv_iconst (v := 1) hx hb dX2_giving_122 (by decide) ?_
                  refine lv_bipush (v := 8) hx hb dX2_giving_123 (by decide) ?_
                  generalize hp_20 : (F_X2_refuse jr jd (1 : Int32) (8 : Int32)) = p_20 at hF
                  rw [letp_eq] at hF
                  refine fc_ci (isC := [0]) (cells' := 0) (slots' := 0) (fc_runV (n := 2) (As := [.int (1 : Int32), .int (8 : Int32)]) (rest := []) (isC := [0]) (maxL := 3) ⟨hx, hb, hml, hown, hts⟩ (c_X2_refuse j jr jd (1 : Int32) (8 : Int32) H.size) gX2_giving_X2_refuse rfl (by decide +kernel) rfl ⟨Nat.le_of_ble_eq_true rfl, Nat.le_of_ble_eq_true rfl⟩ ⟨Nat.le_of_ble_eq_true rfl, Nat.le_of_ble_eq_true rfl⟩ hE hP hD hS hA rfl rfl (va_recv hE.1 hP (ci := 6) (q0 := 0) rfl rfl) hl rfl (Nat.le_of_ble_eq_true rfl) dX2_giving_125) hP hD hS hA rfl (fun _ => rfl) rfl rfl (fun r_21 _ H locs hr_21 hP hD hS => ?_)
                  rw [hp_20] at hr_21 hP hD
                  obtain rfl : p_20.1 = r_21 := hr_21.symm
                  dsimp only [fs, List.set] at hP hD
                  have hP : va_P D vwCl [(j, .inr (6, [.int p_20.2.1, .int p_20.2.2])), (b, .inr (4, [.ref r])), (r, .inl (k.1, 628, .inl f))] H := hP
                  have hD : va_D A [(j, .inr (6, [.int p_20.2.1, .int p_20.2.2])), (b, .inr (4, [.ref r])), (r, .inl (k.1, 628, .inl f))] := hD
                  subst hF
                  exact fc_iret hx hb hr rfl hlk hS () rfl hP hD (by decide) (by decide) dX2_giving_128
                · rw [if_neg c_19] at hF
                  refine lv_iconst (v := 0) hx hb dX2_giving_117 (by decide) ?_
                  refine lv_goto (tgt := 128) hx hb dX2_giving_118 (by decide) ?_
                  subst hF
                  exact fc_iret hx hb hr rfl hlk hS () rfl hP hD (by decide) (by decide) dX2_giving_128
              · rw [if_neg c_16] at hF
                refine lv_aload_n hx hb dX2_giving_95 rfl (lv_at hl 2 rfl) ?_
                refine lv_iconst (v := 5) hx hb dX2_giving_96 (by decide) ?_
                refine lv_iload hx hb dX2_giving_97 (lv_at hl 0 rfl) ?_
                generalize hp_22 : (F_X2_refuse jr jd (5 : Int32) (F_X6_findStep f it ik iw id)) = p_22 at hF
                rw [letp_eq] at hF
                refine fc_ci (isC := [0]) (cells' := 0) (slots' := 0) (fc_runV (n := 2) (As := [.int (5 : Int32), .int (F_X6_findStep f it ik iw id)]) (rest := []) (isC := [0]) (maxL := 3) ⟨hx, hb, hml, hown, hts⟩ (c_X2_refuse j jr jd (5 : Int32) (F_X6_findStep f it ik iw id) H.size) gX2_giving_X2_refuse rfl (by decide +kernel) rfl ⟨Nat.le_of_ble_eq_true rfl, Nat.le_of_ble_eq_true rfl⟩ ⟨Nat.le_of_ble_eq_true rfl, Nat.le_of_ble_eq_true rfl⟩ hE hP hD hS hA rfl rfl (va_recv hE.1 hP (ci := 6) (q0 := 0) rfl rfl) hl rfl (Nat.le_of_ble_eq_true rfl) dX2_giving_99) hP hD hS hA rfl (fun _ => rfl) rfl rfl (fun r_23 _ H locs hr_23 hP hD hS => ?_)
                rw [hp_22] at hr_23 hP hD
                obtain rfl : p_22.1 = r_23 := hr_23.symm
                dsimp only [fs, List.set] at hP hD
                have hP : va_P D vwCl [(j, .inr (6, [.int p_22.2.1, .int p_22.2.2])), (b, .inr (4, [.ref r])), (r, .inl (k.1, 628, .inl f))] H := hP
                have hD : va_D A [(j, .inr (6, [.int p_22.2.1, .int p_22.2.2])), (b, .inr (4, [.ref r])), (r, .inl (k.1, 628, .inl f))] := hD
                subst hF
                exact fc_iret hx hb hr rfl hlk hS () rfl hP hD (by decide) (by decide) dX2_giving_102
            · rw [if_neg c_14] at hF
              refine lv_aload_n hx hb dX2_giving_69 rfl (lv_at hl 1 rfl) ?_
              refine lv_iconst (v := 2) hx hb dX2_giving_70 (by decide) ?_
              refine lv_iload hx hb dX2_giving_71 (lv_at hl 0 rfl) ?_
              generalize hp_24 : (F_X2_refuse jr jd (2 : Int32) (F_X0_get f (F_X6_ofTour it (0 : Int32)))) = p_24 at hF
              rw [letp_eq] at hF
              refine fc_ci (isC := [0]) (cells' := 0) (slots' := 0) (fc_runV (n := 2) (As := [.int (2 : Int32), .int (F_X0_get f (F_X6_ofTour it (0 : Int32)))]) (rest := []) (isC := [0]) (maxL := 3) ⟨hx, hb, hml, hown, hts⟩ (c_X2_refuse j jr jd (2 : Int32) (F_X0_get f (F_X6_ofTour it (0 : Int32))) H.size) gX2_giving_X2_refuse rfl (by decide +kernel) rfl ⟨Nat.le_of_ble_eq_true rfl, Nat.le_of_ble_eq_true rfl⟩ ⟨Nat.le_of_ble_eq_true rfl, Nat.le_of_ble_eq_true rfl⟩ hE hP hD hS hA rfl rfl (va_recv hE.1 hP (ci := 6) (q0 := 0) rfl rfl) hl rfl (Nat.le_of_ble_eq_true rfl) dX2_giving_73) hP hD hS hA rfl (fun _ => rfl) rfl rfl (fun r_25 _ H locs hr_25 hP hD hS => ?_)
              rw [hp_24] at hr_25 hP hD
              obtain rfl : p_24.1 = r_25 := hr_25.symm
              dsimp only [fs, List.set] at hP hD
              have hP : va_P D vwCl [(j, .inr (6, [.int p_24.2.1, .int p_24.2.2])), (b, .inr (4, [.ref r])), (r, .inl (k.1, 628, .inl f))] H := hP
              have hD : va_D A [(j, .inr (6, [.int p_24.2.1, .int p_24.2.2])), (b, .inr (4, [.ref r])), (r, .inl (k.1, 628, .inl f))] := hD
              subst hF
              exact fc_iret hx hb hr rfl hlk hS () rfl hP hD (by decide) (by decide) dX2_giving_76
          · rw [if_pos c_11] at hF
            refine lv_bipush (v := -2) hx hb dX2_giving_50 (by decide) ?_
            subst hF
            exact fc_iret hx hb hr rfl hlk hS () rfl hP hD (by decide) (by decide) dX2_giving_52
      · rw [if_pos c_6] at hF
        refine lv_iconst (v := -1) hx hb dX2_giving_27 (by decide) ?_
        subst hF
        exact fc_iret hx hb hr rfl hlk hS () rfl hP hD (by decide) (by decide) dX2_giving_28

abbrev rm_X2_starting : Room := { frames := 2, cells := 0, slots := 0, locals := 42 }
def F_X2_starting (jr : Int32) (jd : Int32) (f : (Nat → Int32)) (it : Int32) : Int32 × Int32 × Int32 := (if (F_X2_hasTour f it) = (0 : Int32) then ((-1 : Int32), jr, jd) else (if (F_X0_get f (F_X6_ofTour it (0 : Int32))) = (0 : Int32) then (if (F_X0_get f (F_X6_ofTour it (2 : Int32))) ≤ (0 : Int32) then (letp (F_X2_refuse jr jd (3 : Int32) it) (fun (p_9 : Int32 × Int32 × Int32) => (p_9.1, p_9.2.1, p_9.2.2))) else ((0 : Int32), jr, jd)) else (letp (F_X2_refuse jr jd (2 : Int32) (F_X0_get f (F_X6_ofTour it (0 : Int32)))) (fun (p_11 : Int32 × Int32 × Int32) => (p_11.1, p_11.2.1, p_11.2.2)))))
set_option maxHeartbeats 4000000 in
set_option maxRecDepth 100000 in
theorem c_X2_starting {l : Launch} {D : va_G} {k : tyK} (j b r : Nat) (jr : Int32) (jd : Int32) (f : (Nat → Int32)) (it : Int32) : FCi l yX2_starting wsX2_starting rm_X2_starting D k [.ref j, .ref b, .int it] [(j, .inr (6, [.int jr, .int jd])), (b, .inr (4, [.ref r])), (r, .inl (k.1, 628, .inl f))] (fun r (_ : Unit) => r = (F_X2_starting jr jd f it).1) (fun _ => [(j, .inr (6, [.int (F_X2_starting jr jd f it).2.1, .int (F_X2_starting jr jd f it).2.2])), (b, .inr (4, [.ref r])), (r, .inl (k.1, 628, .inl f))]) := by
  refine fc_start (cc := cX2_starting) (maxL := 4) (ret := (some .int)) (own := RX2) (Qc := fun A => va_Qi (fun r (_ : Unit) => r = (F_X2_starting jr jd f it).1) (Bt D (fun _ => [(j, .inr (6, [.int (F_X2_starting jr jd f it).2.1, .int (F_X2_starting jr jd f it).2.2])), (b, .inr (4, [.ref r])), (r, .inl (k.1, 628, .inl f))]) A) A) (by decide) rfl rfl (Nat.le_of_ble_eq_true rfl) ?_
  intro p e s m below meth c A H hx hb hml hr hts hown hlk hname hA hP hE hD hS ls hl
  obtain ⟨RES, hF⟩ : ∃ z, (F_X2_starting jr jd f it) = z := ⟨_, rfl⟩
  rw [hF]
  unfold F_X2_starting at hF
  have hl : lv_has ls 4 [(0, .ref j), (1, .ref b), (2, .int it)] := hl
  obtain ⟨locs, hlocs⟩ : ∃ z : List Loc, z = [] := ⟨_, rfl⟩
  rw [← hlocs] at hS ⊢
  refine lv_aload_n hx hb dX2_starting_0 rfl (lv_at hl 1 rfl) ?_
  refine lv_iload_n hx hb dX2_starting_1 rfl (lv_at hl 2 rfl) ?_
  refine fc_ci (isC := [1, 2]) (cells' := 0) (slots' := 0) (fc_runS (n := 2) (As := [.ref b, .int it]) (rest := []) (isC := [1, 2]) (maxL := 2) ⟨hx, hb, hml, hown, hts⟩ (c_X2_hasTour b r f it H.size) gX2_starting_X2_hasTour rfl (by decide +kernel) rfl ⟨Nat.le_of_ble_eq_true rfl, Nat.le_of_ble_eq_true rfl⟩ ⟨Nat.le_of_ble_eq_true rfl, Nat.le_of_ble_eq_true rfl⟩ hE hP hD hS hA rfl rfl hl rfl (Nat.le_of_ble_eq_true rfl) dX2_starting_2) hP hD hS hA rfl (fun _ => rfl) rfl rfl (fun r_1 _ H locs hr_1 hP hD hS => ?_)
  obtain rfl : (F_X2_hasTour f it) = r_1 := hr_1.symm
  dsimp only [fs, List.set] at hP hD
  have hP : va_P D vwCl [(j, .inr (6, [.int jr, .int jd])), (b, .inr (4, [.ref r])), (r, .inl (k.1, 628, .inl f))] H := hP
  have hD : va_D A [(j, .inr (6, [.int jr, .int jd])), (b, .inr (4, [.ref r])), (r, .inl (k.1, 628, .inl f))] := hD
  refine lv_if_ne (tgt := 10) hx hb dX2_starting_5 (by decide) (fun c_2 => ?_) (fun c_2 => ?_)
  · rw [if_neg c_2] at hF
    refine lv_aload_n hx hb dX2_starting_10 rfl (lv_at hl 1 rfl) ?_
    refine lv_iload_n hx hb dX2_starting_11 rfl (lv_at hl 2 rfl) ?_
    refine lv_iconst (v := 0) hx hb dX2_starting_12 (by decide) ?_
    refine fc_ci (isC := []) (cells' := 0) (slots' := 0) (fc_runSN (n := 2) (As := [.int it, .int (0 : Int32)]) (rest := [.ref b]) (isC := []) (maxL := 2) ⟨hx, hb, hml, hown, hts⟩ (c_X6_ofTour it (0 : Int32) H.size) gX2_starting_X6_ofTour_n43 (by decide +kernel) (by decide +kernel) (by decide +kernel) rfl (by decide +kernel) rfl ⟨Nat.le_of_ble_eq_true rfl, Nat.le_of_ble_eq_true rfl⟩ ⟨Nat.le_of_ble_eq_true rfl, Nat.le_of_ble_eq_true rfl⟩ hE hP hD hS hA rfl rfl hl rfl (Nat.le_of_ble_eq_true rfl) dX2_starting_13) hP hD hS hA rfl (fun _ => rfl) rfl rfl (fun r_3 _ H locs hr_3 hP hD hS => ?_)
    obtain rfl : (F_X6_ofTour it (0 : Int32)) = r_3 := hr_3.symm
    dsimp only [fs, List.set] at hP hD
    have hP : va_P D vwCl [(j, .inr (6, [.int jr, .int jd])), (b, .inr (4, [.ref r])), (r, .inl (k.1, 628, .inl f))] H := hP
    have hD : va_D A [(j, .inr (6, [.int jr, .int jd])), (b, .inr (4, [.ref r])), (r, .inl (k.1, 628, .inl f))] := hD
    refine fc_ci (isC := [1, 2]) (cells' := 0) (slots' := 0) (fc_runV (n := 1) (As := [.int (F_X6_ofTour it (0 : Int32))]) (rest := []) (isC := [1, 2]) (maxL := 2) ⟨hx, hb, hml, hown, hts⟩ (c_X0_get b r f (F_X6_ofTour it (0 : Int32)) H.size) gX2_starting_X0_get rfl (by decide +kernel) rfl ⟨Nat.le_of_ble_eq_true rfl, Nat.le_of_ble_eq_true rfl⟩ ⟨Nat.le_of_ble_eq_true rfl, Nat.le_of_ble_eq_true rfl⟩ hE hP hD hS hA rfl rfl (va_recv hE.1 hP (ci := 4) (q0 := 1) rfl rfl) hl rfl (Nat.le_of_ble_eq_true rfl) dX2_starting_16) hP hD hS hA rfl (fun _ => rfl) rfl rfl (fun r_4 _ H locs hr_4 hP hD hS => ?_)
    obtain rfl : (F_X0_get f (F_X6_ofTour it (0 : Int32))) = r_4 := hr_4.symm
    dsimp only [fs, List.set] at hP hD
    have hP : va_P D vwCl [(j, .inr (6, [.int jr, .int jd])), (b, .inr (4, [.ref r])), (r, .inl (k.1, 628, .inl f))] H := hP
    have hD : va_D A [(j, .inr (6, [.int jr, .int jd])), (b, .inr (4, [.ref r])), (r, .inl (k.1, 628, .inl f))] := hD
    refine lv_istore_n (lv' := [(3, .int (F_X0_get f (F_X6_ofTour it (0 : Int32)))), (0, .ref j), (1, .ref b), (2, .int it)]) hx hb dX2_starting_19 rfl hl (by decide) rfl (fun ls hl => ?_)
    refine lv_iload_n hx hb dX2_starting_20 rfl (lv_at hl 0 rfl) ?_
    refine lv_if_eq (tgt := 31) hx hb dX2_starting_21 (by decide) (fun c_5 => ?_) (fun c_5 => ?_)
    · rw [if_pos c_5] at hF
      refine lv_aload_n hx hb dX2_starting_31 rfl (lv_at hl 2 rfl) ?_
      refine lv_iload_n hx hb dX2_starting_32 rfl (lv_at hl 3 rfl) ?_
      refine lv_iconst (v := 2) hx hb dX2_starting_33 (by decide) ?_
      refine fc_ci (isC := []) (cells' := 0) (slots' := 0) (fc_runSN (n := 2) (As := [.int it, .int (2 : Int32)]) (rest := [.ref b]) (isC := []) (maxL := 2) ⟨hx, hb, hml, hown, hts⟩ (c_X6_ofTour it (2 : Int32) H.size) gX2_starting_X6_ofTour_n43 (by decide +kernel) (by decide +kernel) (by decide +kernel) rfl (by decide +kernel) rfl ⟨Nat.le_of_ble_eq_true rfl, Nat.le_of_ble_eq_true rfl⟩ ⟨Nat.le_of_ble_eq_true rfl, Nat.le_of_ble_eq_true rfl⟩ hE hP hD hS hA rfl rfl hl rfl (Nat.le_of_ble_eq_true rfl) dX2_starting_34) hP hD hS hA rfl (fun _ => rfl) rfl rfl (fun r_6 _ H locs hr_6 hP hD hS => ?_)
      obtain rfl : (F_X6_ofTour it (2 : Int32)) = r_6 := hr_6.symm
      dsimp only [fs, List.set] at hP hD
      have hP : va_P D vwCl [(j, .inr (6, [.int jr, .int jd])), (b, .inr (4, [.ref r])), (r, .inl (k.1, 628, .inl f))] H := hP
      have hD : va_D A [(j, .inr (6, [.int jr, .int jd])), (b, .inr (4, [.ref r])), (r, .inl (k.1, 628, .inl f))] := hD
      refine fc_ci (isC := [1, 2]) (cells' := 0) (slots' := 0) (fc_runV (n := 1) (As := [.int (F_X6_ofTour it (2 : Int32))]) (rest := []) (isC := [1, 2]) (maxL := 2) ⟨hx, hb, hml, hown, hts⟩ (c_X0_get b r f (F_X6_ofTour it (2 : Int32)) H.size) gX2_starting_X0_get rfl (by decide +kernel) rfl ⟨Nat.le_of_ble_eq_true rfl, Nat.le_of_ble_eq_true rfl⟩ ⟨Nat.le_of_ble_eq_true rfl, Nat.le_of_ble_eq_true rfl⟩ hE hP hD hS hA rfl rfl (va_recv hE.1 hP (ci := 4) (q0 := 1) rfl rfl) hl rfl (Nat.le_of_ble_eq_true rfl) dX2_starting_37) hP hD hS hA rfl (fun _ => rfl) rfl rfl (fun r_7 _ H locs hr_7 hP hD hS => ?_)
      obtain rfl : (F_X0_get f (F_X6_ofTour it (2 : Int32))) = r_7 := hr_7.symm
      dsimp only [fs, List.set] at hP hD
      have hP : va_P D vwCl [(j, .inr (6, [.int jr, .int jd])), (b, .inr (4, [.ref r])), (r, .inl (k.1, 628, .inl f))] H := hP
      have hD : va_D A [(j, .inr (6, [.int jr, .int jd])), (b, .inr (4, [.ref r])), (r, .inl (k.1, 628, .inl f))] := hD
      refine lv_if_le (tgt := 47) hx hb dX2_starting_40 (by decide) (fun c_8 => ?_) (fun c_8 => ?_)
      · rw [if_pos c_8] at hF
        refine lv_aload_n hx hb dX2_starting_47 rfl (lv_at hl 1 rfl) ?_
        refine lv_iconst (v := 3) hx hb dX2_starting_48 (by decide) ?_
        refine lv_iload_n hx hb dX2_starting_49 rfl (lv_at hl 3 rfl) ?_
        generalize hp_9 : (F_X2_refuse jr jd (3 : Int32) it) = p_9 at hF
        rw [letp_eq] at hF
        refine fc_ci (isC := [0]) (cells' := 0) (slots' := 0) (fc_runV (n := 2) (As := [.int (3 : Int32), .int it]) (rest := []) (isC := [0]) (maxL := 3) ⟨hx, hb, hml, hown, hts⟩ (c_X2_refuse j jr jd (3 : Int32) it H.size) gX2_starting_X2_refuse rfl (by decide +kernel) rfl ⟨Nat.le_of_ble_eq_true rfl, Nat.le_of_ble_eq_true rfl⟩ ⟨Nat.le_of_ble_eq_true rfl, Nat.le_of_ble_eq_true rfl⟩ hE hP hD hS hA rfl rfl (va_recv hE.1 hP (ci := 6) (q0 := 0) rfl rfl) hl rfl (Nat.le_of_ble_eq_true rfl) dX2_starting_50) hP hD hS hA rfl (fun _ => rfl) rfl rfl (fun r_10 _ H locs hr_10 hP hD hS => ?_)
        rw [hp_9] at hr_10 hP hD
        obtain rfl : p_9.1 = r_10 := hr_10.symm
        dsimp only [fs, List.set] at hP hD
        have hP : va_P D vwCl [(j, .inr (6, [.int p_9.2.1, .int p_9.2.2])), (b, .inr (4, [.ref r])), (r, .inl (k.1, 628, .inl f))] H := hP
        have hD : va_D A [(j, .inr (6, [.int p_9.2.1, .int p_9.2.2])), (b, .inr (4, [.ref r])), (r, .inl (k.1, 628, .inl f))] := hD
        subst hF
        exact fc_iret hx hb hr rfl hlk hS () rfl hP hD (by decide) (by decide) dX2_starting_53
      · rw [if_neg c_8] at hF
        refine lv_iconst (v := 0) hx hb dX2_starting_43 (by decide) ?_
        refine lv_goto (tgt := 53) hx hb dX2_starting_44 (by decide) ?_
        subst hF
        exact fc_iret hx hb hr rfl hlk hS () rfl hP hD (by decide) (by decide) dX2_starting_53
    · rw [if_neg c_5] at hF
      refine lv_aload_n hx hb dX2_starting_24 rfl (lv_at hl 1 rfl) ?_
      refine lv_iconst (v := 2) hx hb dX2_starting_25 (by decide) ?_
      refine lv_iload_n hx hb dX2_starting_26 rfl (lv_at hl 0 rfl) ?_
      generalize hp_11 : (F_X2_refuse jr jd (2 : Int32) (F_X0_get f (F_X6_ofTour it (0 : Int32)))) = p_11 at hF
      rw [letp_eq] at hF
      refine fc_ci (isC := [0]) (cells' := 0) (slots' := 0) (fc_runV (n := 2) (As := [.int (2 : Int32), .int (F_X0_get f (F_X6_ofTour it (0 : Int32)))]) (rest := []) (isC := [0]) (maxL := 3) ⟨hx, hb, hml, hown, hts⟩ (c_X2_refuse j jr jd (2 : Int32) (F_X0_get f (F_X6_ofTour it (0 : Int32))) H.size) gX2_starting_X2_refuse rfl (by decide +kernel) rfl ⟨Nat.le_of_ble_eq_true rfl, Nat.le_of_ble_eq_true rfl⟩ ⟨Nat.le_of_ble_eq_true rfl, Nat.le_of_ble_eq_true rfl⟩ hE hP hD hS hA rfl rfl (va_recv hE.1 hP (ci := 6) (q0 := 0) rfl rfl) hl rfl (Nat.le_of_ble_eq_true rfl) dX2_starting_27) hP hD hS hA rfl (fun _ => rfl) rfl rfl (fun r_12 _ H locs hr_12 hP hD hS => ?_)
      rw [hp_11] at hr_12 hP hD
      obtain rfl : p_11.1 = r_12 := hr_12.symm
      dsimp only [fs, List.set] at hP hD
      have hP : va_P D vwCl [(j, .inr (6, [.int p_11.2.1, .int p_11.2.2])), (b, .inr (4, [.ref r])), (r, .inl (k.1, 628, .inl f))] H := hP
      have hD : va_D A [(j, .inr (6, [.int p_11.2.1, .int p_11.2.2])), (b, .inr (4, [.ref r])), (r, .inl (k.1, 628, .inl f))] := hD
      subst hF
      exact fc_iret hx hb hr rfl hlk hS () rfl hP hD (by decide) (by decide) dX2_starting_30
  · rw [if_pos c_2] at hF
    refine lv_iconst (v := -1) hx hb dX2_starting_8 (by decide) ?_
    subst hF
    exact fc_iret hx hb hr rfl hlk hS () rfl hP hD (by decide) (by decide) dX2_starting_9

abbrev rm_X2_callingBack : Room := { frames := 2, cells := 0, slots := 0, locals := 42 }
def F_X2_callingBack (jr : Int32) (jd : Int32) (f : (Nat → Int32)) (it : Int32) : Int32 × Int32 × Int32 := (if (F_X2_hasTour f it) = (0 : Int32) then ((-1 : Int32), jr, jd) else (if (F_X0_get f (F_X6_ofTour it (0 : Int32))) = (1 : Int32) then ((0 : Int32), jr, jd) else (letp (F_X2_refuse jr jd (2 : Int32) (F_X0_get f (F_X6_ofTour it (0 : Int32)))) (fun (p_6 : Int32 × Int32 × Int32) => (p_6.1, p_6.2.1, p_6.2.2)))))
set_option maxHeartbeats 4000000 in
set_option maxRecDepth 100000 in
theorem c_X2_callingBack {l : Launch} {D : va_G} {k : tyK} (j b r : Nat) (jr : Int32) (jd : Int32) (f : (Nat → Int32)) (it : Int32) : FCi l yX2_callingBack wsX2_callingBack rm_X2_callingBack D k [.ref j, .ref b, .int it] [(j, .inr (6, [.int jr, .int jd])), (b, .inr (4, [.ref r])), (r, .inl (k.1, 628, .inl f))] (fun r (_ : Unit) => r = (F_X2_callingBack jr jd f it).1) (fun _ => [(j, .inr (6, [.int (F_X2_callingBack jr jd f it).2.1, .int (F_X2_callingBack jr jd f it).2.2])), (b, .inr (4, [.ref r])), (r, .inl (k.1, 628, .inl f))]) := by
  refine fc_start (cc := cX2_callingBack) (maxL := 4) (ret := (some .int)) (own := RX2) (Qc := fun A => va_Qi (fun r (_ : Unit) => r = (F_X2_callingBack jr jd f it).1) (Bt D (fun _ => [(j, .inr (6, [.int (F_X2_callingBack jr jd f it).2.1, .int (F_X2_callingBack jr jd f it).2.2])), (b, .inr (4, [.ref r])), (r, .inl (k.1, 628, .inl f))]) A) A) (by decide) rfl rfl (Nat.le_of_ble_eq_true rfl) ?_
  intro p e s m below meth c A H hx hb hml hr hts hown hlk hname hA hP hE hD hS ls hl
  obtain ⟨RES, hF⟩ : ∃ z, (F_X2_callingBack jr jd f it) = z := ⟨_, rfl⟩
  rw [hF]
  unfold F_X2_callingBack at hF
  have hl : lv_has ls 4 [(0, .ref j), (1, .ref b), (2, .int it)] := hl
  obtain ⟨locs, hlocs⟩ : ∃ z : List Loc, z = [] := ⟨_, rfl⟩
  rw [← hlocs] at hS ⊢
  refine lv_aload_n hx hb dX2_callingBack_0 rfl (lv_at hl 1 rfl) ?_
  refine lv_iload_n hx hb dX2_callingBack_1 rfl (lv_at hl 2 rfl) ?_
  refine fc_ci (isC := [1, 2]) (cells' := 0) (slots' := 0) (fc_runS (n := 2) (As := [.ref b, .int it]) (rest := []) (isC := [1, 2]) (maxL := 2) ⟨hx, hb, hml, hown, hts⟩ (c_X2_hasTour b r f it H.size) gX2_callingBack_X2_hasTour rfl (by decide +kernel) rfl ⟨Nat.le_of_ble_eq_true rfl, Nat.le_of_ble_eq_true rfl⟩ ⟨Nat.le_of_ble_eq_true rfl, Nat.le_of_ble_eq_true rfl⟩ hE hP hD hS hA rfl rfl hl rfl (Nat.le_of_ble_eq_true rfl) dX2_callingBack_2) hP hD hS hA rfl (fun _ => rfl) rfl rfl (fun r_1 _ H locs hr_1 hP hD hS => ?_)
  obtain rfl : (F_X2_hasTour f it) = r_1 := hr_1.symm
  dsimp only [fs, List.set] at hP hD
  have hP : va_P D vwCl [(j, .inr (6, [.int jr, .int jd])), (b, .inr (4, [.ref r])), (r, .inl (k.1, 628, .inl f))] H := hP
  have hD : va_D A [(j, .inr (6, [.int jr, .int jd])), (b, .inr (4, [.ref r])), (r, .inl (k.1, 628, .inl f))] := hD
  refine lv_if_ne (tgt := 10) hx hb dX2_callingBack_5 (by decide) (fun c_2 => ?_) (fun c_2 => ?_)
  · rw [if_neg c_2] at hF
    refine lv_aload_n hx hb dX2_callingBack_10 rfl (lv_at hl 1 rfl) ?_
    refine lv_iload_n hx hb dX2_callingBack_11 rfl (lv_at hl 2 rfl) ?_
    refine lv_iconst (v := 0) hx hb dX2_callingBack_12 (by decide) ?_
    refine fc_ci (isC := []) (cells' := 0) (slots' := 0) (fc_runSN (n := 2) (As := [.int it, .int (0 : Int32)]) (rest := [.ref b]) (isC := []) (maxL := 2) ⟨hx, hb, hml, hown, hts⟩ (c_X6_ofTour it (0 : Int32) H.size) gX2_callingBack_X6_ofTour_n43 (by decide +kernel) (by decide +kernel) (by decide +kernel) rfl (by decide +kernel) rfl ⟨Nat.le_of_ble_eq_true rfl, Nat.le_of_ble_eq_true rfl⟩ ⟨Nat.le_of_ble_eq_true rfl, Nat.le_of_ble_eq_true rfl⟩ hE hP hD hS hA rfl rfl hl rfl (Nat.le_of_ble_eq_true rfl) dX2_callingBack_13) hP hD hS hA rfl (fun _ => rfl) rfl rfl (fun r_3 _ H locs hr_3 hP hD hS => ?_)
    obtain rfl : (F_X6_ofTour it (0 : Int32)) = r_3 := hr_3.symm
    dsimp only [fs, List.set] at hP hD
    have hP : va_P D vwCl [(j, .inr (6, [.int jr, .int jd])), (b, .inr (4, [.ref r])), (r, .inl (k.1, 628, .inl f))] H := hP
    have hD : va_D A [(j, .inr (6, [.int jr, .int jd])), (b, .inr (4, [.ref r])), (r, .inl (k.1, 628, .inl f))] := hD
    refine fc_ci (isC := [1, 2]) (cells' := 0) (slots' := 0) (fc_runV (n := 1) (As := [.int (F_X6_ofTour it (0 : Int32))]) (rest := []) (isC := [1, 2]) (maxL := 2) ⟨hx, hb, hml, hown, hts⟩ (c_X0_get b r f (F_X6_ofTour it (0 : Int32)) H.size) gX2_callingBack_X0_get rfl (by decide +kernel) rfl ⟨Nat.le_of_ble_eq_true rfl, Nat.le_of_ble_eq_true rfl⟩ ⟨Nat.le_of_ble_eq_true rfl, Nat.le_of_ble_eq_true rfl⟩ hE hP hD hS hA rfl rfl (va_recv hE.1 hP (ci := 4) (q0 := 1) rfl rfl) hl rfl (Nat.le_of_ble_eq_true rfl) dX2_callingBack_16) hP hD hS hA rfl (fun _ => rfl) rfl rfl (fun r_4 _ H locs hr_4 hP hD hS => ?_)
    obtain rfl : (F_X0_get f (F_X6_ofTour it (0 : Int32))) = r_4 := hr_4.symm
    dsimp only [fs, List.set] at hP hD
    have hP : va_P D vwCl [(j, .inr (6, [.int jr, .int jd])), (b, .inr (4, [.ref r])), (r, .inl (k.1, 628, .inl f))] H := hP
    have hD : va_D A [(j, .inr (6, [.int jr, .int jd])), (b, .inr (4, [.ref r])), (r, .inl (k.1, 628, .inl f))] := hD
    refine lv_istore_n (lv' := [(3, .int (F_X0_get f (F_X6_ofTour it (0 : Int32)))), (0, .ref j), (1, .ref b), (2, .int it)]) hx hb dX2_callingBack_19 rfl hl (by decide) rfl (fun ls hl => ?_)
    refine lv_iload_n hx hb dX2_callingBack_20 rfl (lv_at hl 0 rfl) ?_
    refine lv_iconst (v := 1) hx hb dX2_callingBack_21 (by decide) ?_
    refine lv_icmp_ne (tgt := 29) hx hb dX2_callingBack_22 (by decide) (fun c_5 => ?_) (fun c_5 => ?_)
    · rw [if_neg c_5] at hF
      refine lv_aload_n hx hb dX2_callingBack_29 rfl (lv_at hl 1 rfl) ?_
      refine lv_iconst (v := 2) hx hb dX2_callingBack_30 (by decide) ?_
      refine lv_iload_n hx hb dX2_callingBack_31 rfl (lv_at hl 0 rfl) ?_
      generalize hp_6 : (F_X2_refuse jr jd (2 : Int32) (F_X0_get f (F_X6_ofTour it (0 : Int32)))) = p_6 at hF
      rw [letp_eq] at hF
      refine fc_ci (isC := [0]) (cells' := 0) (slots' := 0) (fc_runV (n := 2) (As := [.int (2 : Int32), .int (F_X0_get f (F_X6_ofTour it (0 : Int32)))]) (rest := []) (isC := [0]) (maxL := 3) ⟨hx, hb, hml, hown, hts⟩ (c_X2_refuse j jr jd (2 : Int32) (F_X0_get f (F_X6_ofTour it (0 : Int32))) H.size) gX2_callingBack_X2_refuse rfl (by decide +kernel) rfl ⟨Nat.le_of_ble_eq_true rfl, Nat.le_of_ble_eq_true rfl⟩ ⟨Nat.le_of_ble_eq_true rfl, Nat.le_of_ble_eq_true rfl⟩ hE hP hD hS hA rfl rfl (va_recv hE.1 hP (ci := 6) (q0 := 0) rfl rfl) hl rfl (Nat.le_of_ble_eq_true rfl) dX2_callingBack_32) hP hD hS hA rfl (fun _ => rfl) rfl rfl (fun r_7 _ H locs hr_7 hP hD hS => ?_)
      rw [hp_6] at hr_7 hP hD
      obtain rfl : p_6.1 = r_7 := hr_7.symm
      dsimp only [fs, List.set] at hP hD
      have hP : va_P D vwCl [(j, .inr (6, [.int p_6.2.1, .int p_6.2.2])), (b, .inr (4, [.ref r])), (r, .inl (k.1, 628, .inl f))] H := hP
      have hD : va_D A [(j, .inr (6, [.int p_6.2.1, .int p_6.2.2])), (b, .inr (4, [.ref r])), (r, .inl (k.1, 628, .inl f))] := hD
      subst hF
      exact fc_iret hx hb hr rfl hlk hS () rfl hP hD (by decide) (by decide) dX2_callingBack_35
    · rw [if_pos c_5] at hF
      refine lv_iconst (v := 0) hx hb dX2_callingBack_25 (by decide) ?_
      refine lv_goto (tgt := 35) hx hb dX2_callingBack_26 (by decide) ?_
      subst hF
      exact fc_iret hx hb hr rfl hlk hS () rfl hP hD (by decide) (by decide) dX2_callingBack_35
  · rw [if_pos c_2] at hF
    refine lv_iconst (v := -1) hx hb dX2_callingBack_8 (by decide) ?_
    subst hF
    exact fc_iret hx hb hr rfl hlk hS () rfl hP hD (by decide) (by decide) dX2_callingBack_9

abbrev rm_X2_shutting : Room := { frames := 1, cells := 0, slots := 0, locals := 22 }
def F_X2_shutting (jr : Int32) (jd : Int32) (f : (Nat → Int32)) (iw : Int32) (is : Int32) : Int32 × Int32 × Int32 := (if (F_X6_isBelow iw (5 : Int32)) = (0 : Int32) then ((-1 : Int32), jr, jd) else (if (F_X0_get f (F_X6_ofTown iw (0 : Int32))) = (1 : Int32) then (if is = (1 : Int32) then ((0 : Int32), jr, jd) else (letp (F_X2_refuse jr jd (4 : Int32) (F_X0_get f (F_X6_ofTown iw (0 : Int32)))) (fun (p_10 : Int32 × Int32 × Int32) => (p_10.1, p_10.2.1, p_10.2.2)))) else (if is = (0 : Int32) then ((0 : Int32), jr, jd) else (letp (F_X2_refuse jr jd (4 : Int32) (F_X0_get f (F_X6_ofTown iw (0 : Int32)))) (fun (p_7 : Int32 × Int32 × Int32) => (p_7.1, p_7.2.1, p_7.2.2))))))
set_option maxHeartbeats 4000000 in
set_option maxRecDepth 100000 in
theorem c_X2_shutting {l : Launch} {D : va_G} {k : tyK} (j b r : Nat) (jr : Int32) (jd : Int32) (f : (Nat → Int32)) (iw : Int32) (is : Int32) : FCi l yX2_shutting wsX2_shutting rm_X2_shutting D k [.ref j, .ref b, .int iw, .int is] [(j, .inr (6, [.int jr, .int jd])), (b, .inr (4, [.ref r])), (r, .inl (k.1, 628, .inl f))] (fun r (_ : Unit) => r = (F_X2_shutting jr jd f iw is).1) (fun _ => [(j, .inr (6, [.int (F_X2_shutting jr jd f iw is).2.1, .int (F_X2_shutting jr jd f iw is).2.2])), (b, .inr (4, [.ref r])), (r, .inl (k.1, 628, .inl f))]) := by
  refine fc_start (cc := cX2_shutting) (maxL := 5) (ret := (some .int)) (own := RX2) (Qc := fun A => va_Qi (fun r (_ : Unit) => r = (F_X2_shutting jr jd f iw is).1) (Bt D (fun _ => [(j, .inr (6, [.int (F_X2_shutting jr jd f iw is).2.1, .int (F_X2_shutting jr jd f iw is).2.2])), (b, .inr (4, [.ref r])), (r, .inl (k.1, 628, .inl f))]) A) A) (by decide) rfl rfl (Nat.le_of_ble_eq_true rfl) ?_
  intro p e s m below meth c A H hx hb hml hr hts hown hlk hname hA hP hE hD hS ls hl
  obtain ⟨RES, hF⟩ : ∃ z, (F_X2_shutting jr jd f iw is) = z := ⟨_, rfl⟩
  rw [hF]
  unfold F_X2_shutting at hF
  have hl : lv_has ls 5 [(0, .ref j), (1, .ref b), (2, .int iw), (3, .int is)] := hl
  obtain ⟨locs, hlocs⟩ : ∃ z : List Loc, z = [] := ⟨_, rfl⟩
  rw [← hlocs] at hS ⊢
  refine lv_iload_n hx hb dX2_shutting_0 rfl (lv_at hl 2 rfl) ?_
  refine lv_iconst (v := 5) hx hb dX2_shutting_1 (by decide) ?_
  refine fc_ci (isC := []) (cells' := 0) (slots' := 0) (fc_runSN (n := 2) (As := [.int iw, .int (5 : Int32)]) (rest := []) (isC := []) (maxL := 2) ⟨hx, hb, hml, hown, hts⟩ (c_X6_isBelow iw (5 : Int32) H.size) gX2_shutting_X6_isBelow_n36 (by decide +kernel) (by decide +kernel) (by decide +kernel) rfl (by decide +kernel) rfl ⟨Nat.le_of_ble_eq_true rfl, Nat.le_of_ble_eq_true rfl⟩ ⟨Nat.le_of_ble_eq_true rfl, Nat.le_of_ble_eq_true rfl⟩ hE hP hD hS hA rfl rfl hl rfl (Nat.le_of_ble_eq_true rfl) dX2_shutting_2) hP hD hS hA rfl (fun _ => rfl) rfl rfl (fun r_1 _ H locs hr_1 hP hD hS => ?_)
  obtain rfl : (F_X6_isBelow iw (5 : Int32)) = r_1 := hr_1.symm
  dsimp only [fs, List.set] at hP hD
  have hP : va_P D vwCl [(j, .inr (6, [.int jr, .int jd])), (b, .inr (4, [.ref r])), (r, .inl (k.1, 628, .inl f))] H := hP
  have hD : va_D A [(j, .inr (6, [.int jr, .int jd])), (b, .inr (4, [.ref r])), (r, .inl (k.1, 628, .inl f))] := hD
  refine lv_if_ne (tgt := 10) hx hb dX2_shutting_5 (by decide) (fun c_2 => ?_) (fun c_2 => ?_)
  · rw [if_neg c_2] at hF
    refine lv_aload_n hx hb dX2_shutting_10 rfl (lv_at hl 1 rfl) ?_
    refine lv_iload_n hx hb dX2_shutting_11 rfl (lv_at hl 2 rfl) ?_
    refine lv_iconst (v := 0) hx hb dX2_shutting_12 (by decide) ?_
    refine fc_ci (isC := []) (cells' := 0) (slots' := 0) (fc_runSN (n := 2) (As := [.int iw, .int (0 : Int32)]) (rest := [.ref b]) (isC := []) (maxL := 2) ⟨hx, hb, hml, hown, hts⟩ (c_X6_ofTown iw (0 : Int32) H.size) gX2_shutting_X6_ofTown_n50 (by decide +kernel) (by decide +kernel) (by decide +kernel) rfl (by decide +kernel) rfl ⟨Nat.le_of_ble_eq_true rfl, Nat.le_of_ble_eq_true rfl⟩ ⟨Nat.le_of_ble_eq_true rfl, Nat.le_of_ble_eq_true rfl⟩ hE hP hD hS hA rfl rfl hl rfl (Nat.le_of_ble_eq_true rfl) dX2_shutting_13) hP hD hS hA rfl (fun _ => rfl) rfl rfl (fun r_3 _ H locs hr_3 hP hD hS => ?_)
    obtain rfl : (F_X6_ofTown iw (0 : Int32)) = r_3 := hr_3.symm
    dsimp only [fs, List.set] at hP hD
    have hP : va_P D vwCl [(j, .inr (6, [.int jr, .int jd])), (b, .inr (4, [.ref r])), (r, .inl (k.1, 628, .inl f))] H := hP
    have hD : va_D A [(j, .inr (6, [.int jr, .int jd])), (b, .inr (4, [.ref r])), (r, .inl (k.1, 628, .inl f))] := hD
    refine fc_ci (isC := [1, 2]) (cells' := 0) (slots' := 0) (fc_runV (n := 1) (As := [.int (F_X6_ofTown iw (0 : Int32))]) (rest := []) (isC := [1, 2]) (maxL := 2) ⟨hx, hb, hml, hown, hts⟩ (c_X0_get b r f (F_X6_ofTown iw (0 : Int32)) H.size) gX2_shutting_X0_get rfl (by decide +kernel) rfl ⟨Nat.le_of_ble_eq_true rfl, Nat.le_of_ble_eq_true rfl⟩ ⟨Nat.le_of_ble_eq_true rfl, Nat.le_of_ble_eq_true rfl⟩ hE hP hD hS hA rfl rfl (va_recv hE.1 hP (ci := 4) (q0 := 1) rfl rfl) hl rfl (Nat.le_of_ble_eq_true rfl) dX2_shutting_16) hP hD hS hA rfl (fun _ => rfl) rfl rfl (fun r_4 _ H locs hr_4 hP hD hS => ?_)
    obtain rfl : (F_X0_get f (F_X6_ofTown iw (0 : Int32))) = r_4 := hr_4.symm
    dsimp only [fs, List.set] at hP hD
    have hP : va_P D vwCl [(j, .inr (6, [.int jr, .int jd])), (b, .inr (4, [.ref r])), (r, .inl (k.1, 628, .inl f))] H := hP
    have hD : va_D A [(j, .inr (6, [.int jr, .int jd])), (b, .inr (4, [.ref r])), (r, .inl (k.1, 628, .inl f))] := hD
    refine lv_istore (lv' := [(4, .int (F_X0_get f (F_X6_ofTown iw (0 : Int32)))), (0, .ref j), (1, .ref b), (2, .int iw), (3, .int is)]) hx hb dX2_shutting_19 hl (by decide) rfl (fun ls hl => ?_)
    refine lv_iload_n hx hb dX2_shutting_21 rfl (lv_at hl 4 rfl) ?_
    refine lv_iload hx hb dX2_shutting_22 (lv_at hl 0 rfl) ?_
    refine lv_iconst (v := 1) hx hb dX2_shutting_24 (by decide) ?_
    refine lv_icmp_ne (tgt := 32) hx hb dX2_shutting_25 (by decide) (fun c_5 => ?_) (fun c_5 => ?_)
    · rw [if_neg c_5] at hF
      refine lv_iconst (v := 0) hx hb dX2_shutting_32 (by decide) ?_
      refine lv_icmp_ne (tgt := 40) hx hb dX2_shutting_33 (by decide) (fun c_6 => ?_) (fun c_6 => ?_)
      · rw [if_neg c_6] at hF
        refine lv_aload_n hx hb dX2_shutting_40 rfl (lv_at hl 1 rfl) ?_
        refine lv_iconst (v := 4) hx hb dX2_shutting_41 (by decide) ?_
        refine lv_iload hx hb dX2_shutting_42 (lv_at hl 0 rfl) ?_
        generalize hp_7 : (F_X2_refuse jr jd (4 : Int32) (F_X0_get f (F_X6_ofTown iw (0 : Int32)))) = p_7 at hF
        rw [letp_eq] at hF
        refine fc_ci (isC := [0]) (cells' := 0) (slots' := 0) (fc_runV (n := 2) (As := [.int (4 : Int32), .int (F_X0_get f (F_X6_ofTown iw (0 : Int32)))]) (rest := []) (isC := [0]) (maxL := 3) ⟨hx, hb, hml, hown, hts⟩ (c_X2_refuse j jr jd (4 : Int32) (F_X0_get f (F_X6_ofTown iw (0 : Int32))) H.size) gX2_shutting_X2_refuse rfl (by decide +kernel) rfl ⟨Nat.le_of_ble_eq_true rfl, Nat.le_of_ble_eq_true rfl⟩ ⟨Nat.le_of_ble_eq_true rfl, Nat.le_of_ble_eq_true rfl⟩ hE hP hD hS hA rfl rfl (va_recv hE.1 hP (ci := 6) (q0 := 0) rfl rfl) hl rfl (Nat.le_of_ble_eq_true rfl) dX2_shutting_44) hP hD hS hA rfl (fun _ => rfl) rfl rfl (fun r_8 _ H locs hr_8 hP hD hS => ?_)
        rw [hp_7] at hr_8 hP hD
        obtain rfl : p_7.1 = r_8 := hr_8.symm
        dsimp only [fs, List.set] at hP hD
        have hP : va_P D vwCl [(j, .inr (6, [.int p_7.2.1, .int p_7.2.2])), (b, .inr (4, [.ref r])), (r, .inl (k.1, 628, .inl f))] H := hP
        have hD : va_D A [(j, .inr (6, [.int p_7.2.1, .int p_7.2.2])), (b, .inr (4, [.ref r])), (r, .inl (k.1, 628, .inl f))] := hD
        subst hF
        exact fc_iret hx hb hr rfl hlk hS () rfl hP hD (by decide) (by decide) dX2_shutting_47
      · rw [if_pos c_6] at hF
        refine lv_iconst (v := 0) hx hb dX2_shutting_36 (by decide) ?_
        refine lv_goto (tgt := 47) hx hb dX2_shutting_37 (by decide) ?_
        subst hF
        exact fc_iret hx hb hr rfl hlk hS () rfl hP hD (by decide) (by decide) dX2_shutting_47
    · rw [if_pos c_5] at hF
      refine lv_iconst (v := 1) hx hb dX2_shutting_28 (by decide) ?_
      refine lv_goto (tgt := 33) hx hb dX2_shutting_29 (by decide) ?_
      refine lv_icmp_ne (tgt := 40) hx hb dX2_shutting_33 (by decide) (fun c_9 => ?_) (fun c_9 => ?_)
      · rw [if_neg c_9] at hF
        refine lv_aload_n hx hb dX2_shutting_40 rfl (lv_at hl 1 rfl) ?_
        refine lv_iconst (v := 4) hx hb dX2_shutting_41 (by decide) ?_
        refine lv_iload hx hb dX2_shutting_42 (lv_at hl 0 rfl) ?_
        generalize hp_10 : (F_X2_refuse jr jd (4 : Int32) (F_X0_get f (F_X6_ofTown iw (0 : Int32)))) = p_10 at hF
        rw [letp_eq] at hF
        refine fc_ci (isC := [0]) (cells' := 0) (slots' := 0) (fc_runV (n := 2) (As := [.int (4 : Int32), .int (F_X0_get f (F_X6_ofTown iw (0 : Int32)))]) (rest := []) (isC := [0]) (maxL := 3) ⟨hx, hb, hml, hown, hts⟩ (c_X2_refuse j jr jd (4 : Int32) (F_X0_get f (F_X6_ofTown iw (0 : Int32))) H.size) gX2_shutting_X2_refuse rfl (by decide +kernel) rfl ⟨Nat.le_of_ble_eq_true rfl, Nat.le_of_ble_eq_true rfl⟩ ⟨Nat.le_of_ble_eq_true rfl, Nat.le_of_ble_eq_true rfl⟩ hE hP hD hS hA rfl rfl (va_recv hE.1 hP (ci := 6) (q0 := 0) rfl rfl) hl rfl (Nat.le_of_ble_eq_true rfl) dX2_shutting_44) hP hD hS hA rfl (fun _ => rfl) rfl rfl (fun r_11 _ H locs hr_11 hP hD hS => ?_)
        rw [hp_10] at hr_11 hP hD
        obtain rfl : p_10.1 = r_11 := hr_11.symm
        dsimp only [fs, List.set] at hP hD
        have hP : va_P D vwCl [(j, .inr (6, [.int p_10.2.1, .int p_10.2.2])), (b, .inr (4, [.ref r])), (r, .inl (k.1, 628, .inl f))] H := hP
        have hD : va_D A [(j, .inr (6, [.int p_10.2.1, .int p_10.2.2])), (b, .inr (4, [.ref r])), (r, .inl (k.1, 628, .inl f))] := hD
        subst hF
        exact fc_iret hx hb hr rfl hlk hS () rfl hP hD (by decide) (by decide) dX2_shutting_47
      · rw [if_pos c_9] at hF
        refine lv_iconst (v := 0) hx hb dX2_shutting_36 (by decide) ?_
        refine lv_goto (tgt := 47) hx hb dX2_shutting_37 (by decide) ?_
        subst hF
        exact fc_iret hx hb hr rfl hlk hS () rfl hP hD (by decide) (by decide) dX2_shutting_47
  · rw [if_pos c_2] at hF
    refine lv_iconst (v := -1) hx hb dX2_shutting_8 (by decide) ?_
    subst hF
    exact fc_iret hx hb hr rfl hlk hS () rfl hP hD (by decide) (by decide) dX2_shutting_9

abbrev rm_X2_passing : Room := { frames := 1, cells := 0, slots := 0, locals := 22 }
def F_X2_passing (jr : Int32) (jd : Int32) (ih : Int32) : Int32 := (if (F_X6_isWithin ih (1 : Int32) (40 : Int32)) = (0 : Int32) then (-2 : Int32) else (0 : Int32))
set_option maxHeartbeats 4000000 in
set_option maxRecDepth 100000 in
theorem c_X2_passing {l : Launch} {D : va_G} {k : tyK} (j : Nat) (jr : Int32) (jd : Int32) (ih : Int32) : FCi l yX2_passing wsX2_passing rm_X2_passing D k [.ref j, .int ih] [(j, .inr (6, [.int jr, .int jd]))] (fun r (_ : Unit) => r = (F_X2_passing jr jd ih)) (fun _ => [(j, .inr (6, [.int jr, .int jd]))]) := by
  refine fc_start (cc := cX2_passing) (maxL := 2) (ret := (some .int)) (own := RX2) (Qc := fun A => va_Qi (fun r (_ : Unit) => r = (F_X2_passing jr jd ih)) (Bt D (fun _ => [(j, .inr (6, [.int jr, .int jd]))]) A) A) (by decide) rfl rfl (Nat.le_of_ble_eq_true rfl) ?_
  intro p e s m below meth c A H hx hb hml hr hts hown hlk hname hA hP hE hD hS ls hl
  obtain ⟨RES, hF⟩ : ∃ z, (F_X2_passing jr jd ih) = z := ⟨_, rfl⟩
  rw [hF]
  unfold F_X2_passing at hF
  have hl : lv_has ls 2 [(0, .ref j), (1, .int ih)] := hl
  obtain ⟨locs, hlocs⟩ : ∃ z : List Loc, z = [] := ⟨_, rfl⟩
  rw [← hlocs] at hS ⊢
  refine lv_iload_n hx hb dX2_passing_0 rfl (lv_at hl 1 rfl) ?_
  refine lv_iconst (v := 1) hx hb dX2_passing_1 (by decide) ?_
  refine lv_bipush (v := 40) hx hb dX2_passing_2 (by decide) ?_
  refine fc_ci (isC := []) (cells' := 0) (slots' := 0) (fc_runSN (n := 3) (As := [.int ih, .int (1 : Int32), .int (40 : Int32)]) (rest := []) (isC := []) (maxL := 3) ⟨hx, hb, hml, hown, hts⟩ (c_X6_isWithin ih (1 : Int32) (40 : Int32) H.size) gX2_passing_X6_isWithin_n18 (by decide +kernel) (by decide +kernel) (by decide +kernel) rfl (by decide +kernel) rfl ⟨Nat.le_of_ble_eq_true rfl, Nat.le_of_ble_eq_true rfl⟩ ⟨Nat.le_of_ble_eq_true rfl, Nat.le_of_ble_eq_true rfl⟩ hE hP hD hS hA rfl rfl hl rfl (Nat.le_of_ble_eq_true rfl) dX2_passing_4) hP hD hS hA rfl (fun _ => rfl) rfl rfl (fun r_1 _ H locs hr_1 hP hD hS => ?_)
  obtain rfl : (F_X6_isWithin ih (1 : Int32) (40 : Int32)) = r_1 := hr_1.symm
  dsimp only [fs, List.set] at hP hD
  have hP : va_P D vwCl [(j, .inr (6, [.int jr, .int jd]))] H := hP
  have hD : va_D A [(j, .inr (6, [.int jr, .int jd]))] := hD
  refine lv_if_eq (tgt := 14) hx hb dX2_passing_7 (by decide) (fun c_2 => ?_) (fun c_2 => ?_)
  · rw [if_pos c_2] at hF
    refine lv_bipush (v := -2) hx hb dX2_passing_14 (by decide) ?_
    subst hF
    exact fc_iret hx hb hr rfl hlk hS () rfl hP hD (by decide) (by decide) dX2_passing_16
  · rw [if_neg c_2] at hF
    refine lv_iconst (v := 0) hx hb dX2_passing_10 (by decide) ?_
    refine lv_goto (tgt := 16) hx hb dX2_passing_11 (by decide) ?_
    subst hF
    exact fc_iret hx hb hr rfl hlk hS () rfl hP hD (by decide) (by decide) dX2_passing_16
end
