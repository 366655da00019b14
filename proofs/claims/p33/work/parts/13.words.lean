section
abbrev rm_J0_coder_7d493 : Room := { frames := 0, cells := 0, slots := 0, locals := 0 }
theorem lk_J0_coder_7d493_15 : (Cond.fieldLink RJ0 15 "java/lang/String" "coder" "B") ∈ wsJ0_coder_7d493 := by decide +kernel
theorem lk_J0_coder_7d493_38 : (Cond.fieldLink RJ0 38 "java/lang/String" "COMPACT_STRINGS" "Z") ∈ wsJ0_coder_7d493 := by decide +kernel
def F_J0_coder_7d493  (sj : Nat) : Int32 := (0 : Int32)
set_option maxHeartbeats 4000000 in
set_option maxRecDepth 100000 in
theorem c_J0_coder_7d493 {l : Launch} {D : va_G} {k : tyK}  (sj : Nat) (hj_sj : sj < 34) : FCi l yJ0_coder_7d493 wsJ0_coder_7d493 rm_J0_coder_7d493 D k [.ref (kS k sj)] [] (fun r (_ : Unit) => r = (F_J0_coder_7d493 sj)) (fun _ => []) := by
  refine fc_start (cc := cJ0_coder_7d493) (maxL := 1) (ret := (some .byte)) (own := RJ0) (Qc := fun A => va_Qi (fun r (_ : Unit) => r = (F_J0_coder_7d493 sj)) (Bt D (fun _ => []) A) A) (by decide) rfl rfl (Nat.le_of_ble_eq_true rfl) ?_
  intro p e s m below meth c A H hx hb hml hr hts hown hlk hname hA hP hE hD hS ls hl
  obtain ⟨RES, hF⟩ : ∃ z, (F_J0_coder_7d493 sj) = z := ⟨_, rfl⟩
  rw [hF]
  unfold F_J0_coder_7d493 at hF
  have hl : lv_has ls 1 [(0, .ref (kS k sj))] := hl
  obtain ⟨locs, hlocs⟩ : ∃ z : List Loc, z = [] := ⟨_, rfl⟩
  rw [← hlocs] at hS ⊢
  refine va_gets hx hb (GE.cs hE) hS hown (hts _ lk_J0_coder_7d493_38) (fun _ h9 => h9) dJ0_coder_7d493_0 ?_
  refine lv_if_eq (tgt := 13) hx hb dJ0_coder_7d493_3 (by decide) (fun c_1 => absurd c_1 (by decide)) (fun c_1 => ?_)
  refine lv_aload_n hx hb dJ0_coder_7d493_6 rfl (lv_at hl 0 rfl) ?_
  refine vk_getf hx hb (GE.sc hE hj_sj) hS hown (hts _ lk_J0_coder_7d493_15) (fun _ h9 => h9) dJ0_coder_7d493_7 ?_
  refine lv_goto (tgt := 14) hx hb dJ0_coder_7d493_10 (by decide) ?_
  subst hF
  exact fc_iret hx hb hr rfl hlk hS () rfl hP hD (by decide) (by decide) dJ0_coder_7d493_14

abbrev rm_J0_isLatin1_aae02 : Room := { frames := 0, cells := 0, slots := 0, locals := 0 }
theorem lk_J0_isLatin1_aae02_15 : (Cond.fieldLink RJ0 15 "java/lang/String" "coder" "B") ∈ wsJ0_isLatin1_aae02 := by decide +kernel
theorem lk_J0_isLatin1_aae02_38 : (Cond.fieldLink RJ0 38 "java/lang/String" "COMPACT_STRINGS" "Z") ∈ wsJ0_isLatin1_aae02 := by decide +kernel
def F_J0_isLatin1_aae02  (sj : Nat) : Int32 := (1 : Int32)
set_option maxHeartbeats 4000000 in
set_option maxRecDepth 100000 in
theorem c_J0_isLatin1_aae02 {l : Launch} {D : va_G} {k : tyK}  (sj : Nat) (hj_sj : sj < 34) : FCi l yJ0_isLatin1_aae02 wsJ0_isLatin1_aae02 rm_J0_isLatin1_aae02 D k [.ref (kS k sj)] [] (fun r (_ : Unit) => r = (F_J0_isLatin1_aae02 sj)) (fun _ => []) := by
  refine fc_start (cc := cJ0_isLatin1_aae02) (maxL := 1) (ret := (some .boolean)) (own := RJ0) (Qc := fun A => va_Qi (fun r (_ : Unit) => r = (F_J0_isLatin1_aae02 sj)) (Bt D (fun _ => []) A) A) (by decide) rfl rfl (Nat.le_of_ble_eq_true rfl) ?_
  intro p e s m below meth c A H hx hb hml hr hts hown hlk hname hA hP hE hD hS ls hl
  obtain ⟨RES, hF⟩ : ∃ z, (F_J0_isLatin1_aae02 sj) = z := ⟨_, rfl⟩
  rw [hF]
  unfold F_J0_isLatin1_aae02 at hF
  have hl : lv_has ls 1 [(0, .ref (kS k sj))] := hl
  obtain ⟨locs, hlocs⟩ : ∃ z : List Loc, z = [] := ⟨_, rfl⟩
  rw [← hlocs] at hS ⊢
  refine va_gets hx hb (GE.cs hE) hS hown (hts _ lk_J0_isLatin1_aae02_38) (fun _ h9 => h9) dJ0_isLatin1_aae02_0 ?_
  refine lv_if_eq (tgt := 17) hx hb dJ0_isLatin1_aae02_3 (by decide) (fun c_1 => absurd c_1 (by decide)) (fun c_1 => ?_)
  refine lv_aload_n hx hb dJ0_isLatin1_aae02_6 rfl (lv_at hl 0 rfl) ?_
  refine vk_getf hx hb (GE.sc hE hj_sj) hS hown (hts _ lk_J0_isLatin1_aae02_15) (fun _ h9 => h9) dJ0_isLatin1_aae02_7 ?_
  refine lv_if_ne (tgt := 17) hx hb dJ0_isLatin1_aae02_10 (by decide) (fun c_2 => absurd c_2 (by decide)) (fun c_2 => ?_)
  refine lv_iconst (v := 1) hx hb dJ0_isLatin1_aae02_13 (by decide) ?_
  refine lv_goto (tgt := 18) hx hb dJ0_isLatin1_aae02_14 (by decide) ?_
  subst hF
  exact fc_iret hx hb hr rfl hlk hS () rfl hP hD (by decide) (by decide) dJ0_isLatin1_aae02_18

abbrev rm_J0_length_8abf5 : Room := { frames := 1, cells := 0, slots := 0, locals := 20 }
theorem lk_J0_length_8abf5_9 : (Cond.fieldLink RJ0 9 "java/lang/String" "value" "[B") ∈ wsJ0_length_8abf5 := by decide +kernel
def F_J0_length_8abf5  (sj : Nat) : Int32 := ((Int32.ofNat (SB sj).length) >>> ((0 : Int32) &&& 31))
set_option maxHeartbeats 4000000 in
set_option maxRecDepth 100000 in
theorem c_J0_length_8abf5 {l : Launch} {D : va_G} {k : tyK}  (sj : Nat) (hj_sj : sj < 34) : FCi l yJ0_length_8abf5 wsJ0_length_8abf5 rm_J0_length_8abf5 D k [.ref (kS k sj)] [] (fun r (_ : Unit) => r = (F_J0_length_8abf5 sj)) (fun _ => []) := by
  refine fc_start (cc := cJ0_length_8abf5) (maxL := 1) (ret := (some .int)) (own := RJ0) (Qc := fun A => va_Qi (fun r (_ : Unit) => r = (F_J0_length_8abf5 sj)) (Bt D (fun _ => []) A) A) (by decide) rfl rfl (Nat.le_of_ble_eq_true rfl) ?_
  intro p e s m below meth c A H hx hb hml hr hts hown hlk hname hA hP hE hD hS ls hl
  obtain ⟨RES, hF⟩ : ∃ z, (F_J0_length_8abf5 sj) = z := ⟨_, rfl⟩
  rw [hF]
  unfold F_J0_length_8abf5 at hF
  have hl : lv_has ls 1 [(0, .ref (kS k sj))] := hl
  obtain ⟨locs, hlocs⟩ : ∃ z : List Loc, z = [] := ⟨_, rfl⟩
  rw [← hlocs] at hS ⊢
  refine lv_aload_n hx hb dJ0_length_8abf5_0 rfl (lv_at hl 0 rfl) ?_
  refine vk_getf hx hb (GE.sv hE hj_sj) hS hown (hts _ lk_J0_length_8abf5_9) (fun _ h9 => h9) dJ0_length_8abf5_1 ?_
  refine va_tlen hx hb (GE.sb hE hj_sj) hS (v := Int32.ofNat (SB sj).length) rfl dJ0_length_8abf5_4 ?_
  refine lv_aload_n hx hb dJ0_length_8abf5_5 rfl (lv_at hl 0 rfl) ?_
  refine fc_ci (isC := []) (cells' := 0) (slots' := 0) (fc_runV (n := 0) (As := []) (rest := [.int (Int32.ofNat (SB sj).length)]) (isC := []) (maxL := 1) ⟨hx, hb, hml, hown, hts⟩ (c_J0_coder_7d493 sj hj_sj H.size) gJ0_length_8abf5_J0_coder_7d493 rfl (by decide +kernel) rfl ⟨Nat.le_of_ble_eq_true rfl, Nat.le_of_ble_eq_true rfl⟩ ⟨Nat.le_of_ble_eq_true rfl, Nat.le_of_ble_eq_true rfl⟩ hE hP hD hS hA rfl rfl (GE.rcv hE hj_sj hS) hl rfl (Nat.le_of_ble_eq_true rfl) dJ0_length_8abf5_6) hP hD hS hA rfl (fun _ => rfl) rfl rfl (fun r_1 _ H locs hr_1 hP hD hS => ?_)
  obtain rfl : (0 : Int32) = r_1 := hr_1.symm
  dsimp only [fs, List.set] at hP hD
  have hP : va_P D vwCl [] H := hP
  have hD : va_D A [] := hD
  refine lv_ishr hx hb dJ0_length_8abf5_9 ?_
  subst hF
  exact fc_iret hx hb hr rfl hlk hS () rfl hP hD (by decide) (by decide) dJ0_length_8abf5_10

abbrev rm_J3_checkIndex_8e157_n : Room := { frames := 0, cells := 0, slots := 0, locals := 0 }
def F_J3_checkIndex_8e157_n  (ii : Int32) (inn : Int32) : Int32 := ii
set_option maxHeartbeats 4000000 in
set_option maxRecDepth 100000 in
theorem c_J3_checkIndex_8e157_n {l : Launch} {D : va_G} {k : tyK}  (ii : Int32) (inn : Int32) (h0 : ¬ ii < 0) (h1 : ii < inn) : FCi l yJ3_checkIndex_8e157 wsJ3_checkIndex_8e157 rm_J3_checkIndex_8e157_n D k [.int ii, .int inn, .null] [] (fun r (_ : Unit) => r = (F_J3_checkIndex_8e157_n ii inn)) (fun _ => []) := by
  refine fc_start (cc := cJ3_checkIndex_8e157) (maxL := 3) (ret := (some .int)) (own := RJ3) (Qc := fun A => va_Qi (fun r (_ : Unit) => r = (F_J3_checkIndex_8e157_n ii inn)) (Bt D (fun _ => []) A) A) (by decide) rfl rfl (Nat.le_of_ble_eq_true rfl) ?_
  intro p e s m below meth c A H hx hb hml hr hts hown hlk hname hA hP hE hD hS ls hl
  obtain ⟨RES, hF⟩ : ∃ z, (F_J3_checkIndex_8e157_n ii inn) = z := ⟨_, rfl⟩
  rw [hF]
  unfold F_J3_checkIndex_8e157_n at hF
  have hl : lv_has ls 3 [(0, .int ii), (1, .int inn), (2, .null)] := hl
  obtain ⟨locs, hlocs⟩ : ∃ z : List Loc, z = [] := ⟨_, rfl⟩
  rw [← hlocs] at hS ⊢
  refine lv_iload_n hx hb dJ3_checkIndex_8e157_0 rfl (lv_at hl 0 rfl) ?_
  refine lv_if_lt (tgt := 9) hx hb dJ3_checkIndex_8e157_1 (by decide) (fun c_1 => absurd c_1 h0) (fun c_1 => ?_)
  refine lv_iload_n hx hb dJ3_checkIndex_8e157_4 rfl (lv_at hl 0 rfl) ?_
  refine lv_iload_n hx hb dJ3_checkIndex_8e157_5 rfl (lv_at hl 1 rfl) ?_
  refine lv_icmp_lt (tgt := 16) hx hb dJ3_checkIndex_8e157_6 (by decide) (fun c_2 => ?_) (fun c_2 => absurd h1 c_2)
  refine lv_iload_n hx hb dJ3_checkIndex_8e157_16 rfl (lv_at hl 0 rfl) ?_
  subst hF
  exact fc_iret hx hb hr rfl hlk hS () rfl hP hD (by decide) (by decide) dJ3_checkIndex_8e157_17

abbrev rm_J3_checkIndex_8e157_r : Room := { frames := 0, cells := 0, slots := 0, locals := 0 }
def F_J3_checkIndex_8e157_r  (ii : Int32) (inn : Int32) : Int32 := ii
set_option maxHeartbeats 4000000 in
set_option maxRecDepth 100000 in
theorem c_J3_checkIndex_8e157_r {l : Launch} {D : va_G} {k : tyK} (q9 : Nat)  (ii : Int32) (inn : Int32) (h0 : ¬ ii < 0) (h1 : ii < inn) : FCi l yJ3_checkIndex_8e157 wsJ3_checkIndex_8e157 rm_J3_checkIndex_8e157_r D k [.int ii, .int inn, .ref q9] [] (fun r (_ : Unit) => r = (F_J3_checkIndex_8e157_r ii inn)) (fun _ => []) := by
  refine fc_start (cc := cJ3_checkIndex_8e157) (maxL := 3) (ret := (some .int)) (own := RJ3) (Qc := fun A => va_Qi (fun r (_ : Unit) => r = (F_J3_checkIndex_8e157_r ii inn)) (Bt D (fun _ => []) A) A) (by decide) rfl rfl (Nat.le_of_ble_eq_true rfl) ?_
  intro p e s m below meth c A H hx hb hml hr hts hown hlk hname hA hP hE hD hS ls hl
  obtain ⟨RES, hF⟩ : ∃ z, (F_J3_checkIndex_8e157_r ii inn) = z := ⟨_, rfl⟩
  rw [hF]
  unfold F_J3_checkIndex_8e157_r at hF
  have hl : lv_has ls 3 [(0, .int ii), (1, .int inn), (2, .ref q9)] := hl
  obtain ⟨locs, hlocs⟩ : ∃ z : List Loc, z = [] := ⟨_, rfl⟩
  rw [← hlocs] at hS ⊢
  refine lv_iload_n hx hb dJ3_checkIndex_8e157_0 rfl (lv_at hl 0 rfl) ?_
  refine lv_if_lt (tgt := 9) hx hb dJ3_checkIndex_8e157_1 (by decide) (fun c_1 => absurd c_1 h0) (fun c_1 => ?_)
  refine lv_iload_n hx hb dJ3_checkIndex_8e157_4 rfl (lv_at hl 0 rfl) ?_
  refine lv_iload_n hx hb dJ3_checkIndex_8e157_5 rfl (lv_at hl 1 rfl) ?_
  refine lv_icmp_lt (tgt := 16) hx hb dJ3_checkIndex_8e157_6 (by decide) (fun c_2 => ?_) (fun c_2 => absurd h1 c_2)
  refine lv_iload_n hx hb dJ3_checkIndex_8e157_16 rfl (lv_at hl 0 rfl) ?_
  subst hF
  exact fc_iret hx hb hr rfl hlk hS () rfl hP hD (by decide) (by decide) dJ3_checkIndex_8e157_17

abbrev rm_J0_checkIndex_df160 : Room := { frames := 1, cells := 0, slots := 0, locals := 22 }
theorem lk_J0_checkIndex_df160_1053 : (Cond.fieldLink RJ0 1053 "jdk/internal/util/Preconditions" "SIOOBE_FORMATTER" "Ljava/util/function/BiFunction;") ∈ wsJ0_checkIndex_df160 := by decide +kernel
set_option maxHeartbeats 4000000 in
set_option maxRecDepth 100000 in
theorem c_J0_checkIndex_df160 {l : Launch} {D : va_G} {k : tyK}  (ii : Int32) (inn : Int32) (h0 : ¬ ii < 0) (h1 : ii < inn) : FCv l yJ0_checkIndex_df160 wsJ0_checkIndex_df160 rm_J0_checkIndex_df160 D k [.int ii, .int inn] [] (fun (_ : Unit) => True) (fun _ => []) := by
  refine fc_start (cc := cJ0_checkIndex_df160) (maxL := 2) (ret := none) (own := RJ0) (Qc := fun A => va_Qv (fun (_ : Unit) => True) (Bt D (fun _ => []) A) A) (by decide) rfl rfl (Nat.le_of_ble_eq_true rfl) ?_
  intro p e s m below meth c A H hx hb hml hr hts hown hlk hname hA hP hE hD hS ls hl
  have hl : lv_has ls 2 [(0, .int ii), (1, .int inn)] := hl
  obtain ⟨locs, hlocs⟩ : ∃ z : List Loc, z = [] := ⟨_, rfl⟩
  rw [← hlocs] at hS ⊢
  refine lv_iload_n hx hb dJ0_checkIndex_df160_0 rfl (lv_at hl 0 rfl) ?_
  refine lv_iload_n hx hb dJ0_checkIndex_df160_1 rfl (lv_at hl 1 rfl) ?_
  rcases GE.sf hE with hz9 | ⟨t9, hz9⟩
  · refine va_gets hx hb hz9 hS hown (hts _ lk_J0_checkIndex_df160_1053) (fun _ h9 => h9) dJ0_checkIndex_df160_2 ?_
    refine fc_ci (isC := []) (cells' := 0) (slots' := 0) (fc_runS (n := 3) (As := [.int ii, .int inn, .null]) (rest := []) (isC := []) (maxL := 3) ⟨hx, hb, hml, hown, hts⟩ (c_J3_checkIndex_8e157_n ii inn h0 h1 H.size) gJ0_checkIndex_df160_J3_checkIndex_8e157 rfl (by decide +kernel) rfl ⟨Nat.le_of_ble_eq_true rfl, Nat.le_of_ble_eq_true rfl⟩ ⟨Nat.le_of_ble_eq_true rfl, Nat.le_of_ble_eq_true rfl⟩ hE hP hD hS hA rfl rfl hl rfl (Nat.le_of_ble_eq_true rfl) dJ0_checkIndex_df160_5) hP hD hS hA rfl (fun _ => rfl) rfl rfl (fun r_1 _ H locs hr_1 hP hD hS => ?_)
    obtain rfl : (F_J3_checkIndex_8e157_n ii inn) = r_1 := hr_1.symm
    dsimp only [fs, List.set] at hP hD
    have hP : va_P D vwCl [] H := hP
    have hD : va_D A [] := hD
    refine lv_pop hx hb dJ0_checkIndex_df160_8 rfl ?_
    exact fc_vret hx hb hr hlk hS () trivial hP hD (by decide) (by decide) dJ0_checkIndex_df160_9
  · refine va_gets hx hb hz9 hS hown (hts _ lk_J0_checkIndex_df160_1053) (fun _ h9 => h9) dJ0_checkIndex_df160_2 ?_
    refine fc_ci (isC := []) (cells' := 0) (slots' := 0) (fc_runS (n := 3) (As := [.int ii, .int inn, .ref t9]) (rest := []) (isC := []) (maxL := 3) ⟨hx, hb, hml, hown, hts⟩ (c_J3_checkIndex_8e157_r t9 ii inn h0 h1 H.size) gJ0_checkIndex_df160_J3_checkIndex_8e157 rfl (by decide +kernel) rfl ⟨Nat.le_of_ble_eq_true rfl, Nat.le_of_ble_eq_true rfl⟩ ⟨Nat.le_of_ble_eq_true rfl, Nat.le_of_ble_eq_true rfl⟩ hE hP hD hS hA rfl rfl hl rfl (Nat.le_of_ble_eq_true rfl) dJ0_checkIndex_df160_5) hP hD hS hA rfl (fun _ => rfl) rfl rfl (fun r_2 _ H locs hr_2 hP hD hS => ?_)
    obtain rfl : (F_J3_checkIndex_8e157_r ii inn) = r_2 := hr_2.symm
    dsimp only [fs, List.set] at hP hD
    have hP : va_P D vwCl [] H := hP
    have hD : va_D A [] := hD
    refine lv_pop hx hb dJ0_checkIndex_df160_8 rfl ?_
    exact fc_vret hx hb hr hlk hS () trivial hP hD (by decide) (by decide) dJ0_checkIndex_df160_9

abbrev rm_J1_charAt_3b067_k : Room := { frames := 2, cells := 0, slots := 0, locals := 43 }
def F_J1_charAt_3b067_k  (ii : Int32) (sj : Nat) : Int32 := ((((((SB sj).getD (ii).toNatClampNeg 0) &&& (255 : Int32))).toUInt32 % 65536).toInt32)
set_option maxHeartbeats 4000000 in
set_option maxRecDepth 100000 in
theorem c_J1_charAt_3b067_k {l : Launch} {D : va_G} {k : tyK}  (ii : Int32) (sj : Nat) (hj_sj : sj < 34) (h0 : ¬ ii < 0) (h1 : ii < Int32.ofNat (SB sj).length) : FCi l yJ1_charAt_3b067 wsJ1_charAt_3b067 rm_J1_charAt_3b067_k D k [.ref (kV k sj), .int ii] [] (fun r (_ : Unit) => r = (F_J1_charAt_3b067_k ii sj)) (fun _ => []) := by
  refine fc_start (cc := cJ1_charAt_3b067) (maxL := 2) (ret := (some .char)) (own := RJ1) (Qc := fun A => va_Qi (fun r (_ : Unit) => r = (F_J1_charAt_3b067_k ii sj)) (Bt D (fun _ => []) A) A) (by decide) rfl rfl (Nat.le_of_ble_eq_true rfl) ?_
  intro p e s m below meth c A H hx hb hml hr hts hown hlk hname hA hP hE hD hS ls hl
  obtain ⟨RES, hF⟩ : ∃ z, (F_J1_charAt_3b067_k ii sj) = z := ⟨_, rfl⟩
  rw [hF]
  unfold F_J1_charAt_3b067_k at hF
  have hl : lv_has ls 2 [(0, .ref (kV k sj)), (1, .int ii)] := hl
  obtain ⟨locs, hlocs⟩ : ∃ z : List Loc, z = [] := ⟨_, rfl⟩
  rw [← hlocs] at hS ⊢
  refine lv_iload_n hx hb dJ1_charAt_3b067_0 rfl (lv_at hl 1 rfl) ?_
  refine lv_aload_n hx hb dJ1_charAt_3b067_1 rfl (lv_at hl 0 rfl) ?_
  refine va_tlen hx hb (GE.sb hE hj_sj) hS (v := Int32.ofNat (SB sj).length) rfl dJ1_charAt_3b067_2 ?_
  refine fc_cv (isC := []) (cells' := 0) (slots' := 0) (fc_runS (n := 2) (As := [.int ii, .int (Int32.ofNat (SB sj).length)]) (rest := []) (isC := []) (maxL := 2) ⟨hx, hb, hml, hown, hts⟩ (c_J0_checkIndex_df160 ii (Int32.ofNat (SB sj).length) h0 h1 H.size) gJ1_charAt_3b067_J0_checkIndex_df160 rfl (by decide +kernel) rfl ⟨Nat.le_of_ble_eq_true rfl, Nat.le_of_ble_eq_true rfl⟩ ⟨Nat.le_of_ble_eq_true rfl, Nat.le_of_ble_eq_true rfl⟩ hE hP hD hS hA rfl rfl hl rfl (Nat.le_of_ble_eq_true rfl) dJ1_charAt_3b067_3) hP hD hS hA rfl (fun _ => rfl) rfl rfl (fun _ H locs _ hP hD hS => ?_)
  dsimp only [fs, List.set] at hP hD
  have hP : va_P D vwCl [] H := hP
  have hD : va_D A [] := hD
  refine lv_aload_n hx hb dJ1_charAt_3b067_6 rfl (lv_at hl 0 rfl) ?_
  refine lv_iload_n hx hb dJ1_charAt_3b067_7 rfl (lv_at hl 1 rfl) ?_
  refine va_tb hx hb (GE.sb hE hj_sj) hS (vp_of2 h0 h1 (SB_len hj_sj)) (v := .int ((SB sj).getD (ii).toNatClampNeg 0)) rfl dJ1_charAt_3b067_8 ?_
  refine lv_sipush (v := 255) hx hb dJ1_charAt_3b067_9 (by decide) ?_
  refine lv_iand hx hb dJ1_charAt_3b067_12 ?_
  refine lv_i2c hx hb dJ1_charAt_3b067_13 rfl ?_
  subst hF
  exact fc_iret hx hb hr (pk_nc _) hlk hS () rfl hP hD (by decide) (by decide) dJ1_charAt_3b067_14

abbrev rm_J0_charAt_5068e_k : Room := { frames := 3, cells := 0, slots := 0, locals := 64 }
theorem lk_J0_charAt_5068e_k_9 : (Cond.fieldLink RJ0 9 "java/lang/String" "value" "[B") ∈ wsJ0_charAt_5068e := by decide +kernel
def F_J0_charAt_5068e_k  (ii : Int32) (sj : Nat) : Int32 := (F_J1_charAt_3b067_k ii sj)
set_option maxHeartbeats 4000000 in
set_option maxRecDepth 100000 in
theorem c_J0_charAt_5068e_k {l : Launch} {D : va_G} {k : tyK}  (ii : Int32) (sj : Nat) (hj_sj : sj < 34) (h0 : ¬ ii < 0) (h1 : ii < Int32.ofNat (SB sj).length) : FCi l yJ0_charAt_5068e wsJ0_charAt_5068e rm_J0_charAt_5068e_k D k [.ref (kS k sj), .int ii] [] (fun r (_ : Unit) => r = (F_J0_charAt_5068e_k ii sj)) (fun _ => []) := by
  refine fc_start (cc := cJ0_charAt_5068e) (maxL := 2) (ret := (some .char)) (own := RJ0) (Qc := fun A => va_Qi (fun r (_ : Unit) => r = (F_J0_charAt_5068e_k ii sj)) (Bt D (fun _ => []) A) A) (by decide) rfl rfl (Nat.le_of_ble_eq_true rfl) ?_
  intro p e s m below meth c A H hx hb hml hr hts hown hlk hname hA hP hE hD hS ls hl
  obtain ⟨RES, hF⟩ : ∃ z, (F_J0_charAt_5068e_k ii sj) = z := ⟨_, rfl⟩
  rw [hF]
  unfold F_J0_charAt_5068e_k at hF
  have hl : lv_has ls 2 [(0, .ref (kS k sj)), (1, .int ii)] := hl
  obtain ⟨locs, hlocs⟩ : ∃ z : List Loc, z = [] := ⟨_, rfl⟩
  rw [← hlocs] at hS ⊢
  refine lv_aload_n hx hb dJ0_charAt_5068e_0 rfl (lv_at hl 0 rfl) ?_
  refine fc_ci (isC := []) (cells' := 0) (slots' := 0) (fc_runV (n := 0) (As := []) (rest := []) (isC := []) (maxL := 1) ⟨hx, hb, hml, hown, hts⟩ (c_J0_isLatin1_aae02 sj hj_sj H.size) gJ0_charAt_5068e_J0_isLatin1_aae02 rfl (by decide +kernel) rfl ⟨Nat.le_of_ble_eq_true rfl, Nat.le_of_ble_eq_true rfl⟩ ⟨Nat.le_of_ble_eq_true rfl, Nat.le_of_ble_eq_true rfl⟩ hE hP hD hS hA rfl rfl (GE.rcv hE hj_sj hS) hl rfl (Nat.le_of_ble_eq_true rfl) dJ0_charAt_5068e_1) hP hD hS hA rfl (fun _ => rfl) rfl rfl (fun r_1 _ H locs hr_1 hP hD hS => ?_)
  obtain rfl : (1 : Int32) = r_1 := hr_1.symm
  dsimp only [fs, List.set] at hP hD
  have hP : va_P D vwCl [] H := hP
  have hD : va_D A [] := hD
  refine lv_if_eq (tgt := 16) hx hb dJ0_charAt_5068e_4 (by decide) (fun c_2 => absurd c_2 (by decide)) (fun c_2 => ?_)
  refine lv_aload_n hx hb dJ0_charAt_5068e_7 rfl (lv_at hl 0 rfl) ?_
  refine vk_getf hx hb (GE.sv hE hj_sj) hS hown (hts _ lk_J0_charAt_5068e_k_9) (fun _ h9 => h9) dJ0_charAt_5068e_8 ?_
  refine lv_iload_n hx hb dJ0_charAt_5068e_11 rfl (lv_at hl 1 rfl) ?_
  refine fc_ci (isC := []) (cells' := 0) (slots' := 0) (fc_runS (n := 2) (As := [.ref (kV k sj), .int ii]) (rest := []) (isC := []) (maxL := 2) ⟨hx, hb, hml, hown, hts⟩ (c_J1_charAt_3b067_k ii sj hj_sj h0 h1 H.size) gJ0_charAt_5068e_J1_charAt_3b067 rfl (by decide +kernel) rfl ⟨Nat.le_of_ble_eq_true rfl, Nat.le_of_ble_eq_true rfl⟩ ⟨Nat.le_of_ble_eq_true rfl, Nat.le_of_ble_eq_true rfl⟩ hE hP hD hS hA rfl rfl hl rfl (Nat.le_of_ble_eq_true rfl) dJ0_charAt_5068e_12) hP hD hS hA rfl (fun _ => rfl) rfl rfl (fun r_3 _ H locs hr_3 hP hD hS => ?_)
  obtain rfl : (F_J1_charAt_3b067_k ii sj) = r_3 := hr_3.symm
  dsimp only [fs, List.set] at hP hD
  have hP : va_P D vwCl [] H := hP
  have hD : va_D A [] := hD
  subst hF
  exact fc_iret hx hb hr (by unfold F_J1_charAt_3b067_k; exact pk_nc _) hlk hS () rfl hP hD (by decide) (by decide) dJ0_charAt_5068e_15

abbrev rm_X6_wordOf : Room := { frames := 0, cells := 0, slots := 0, locals := 0 }
def F_X6_wordOf  (iw : Int32) : Nat := (if iw = (0 : Int32) then 17 else if iw = (1 : Int32) then 18 else if iw = (2 : Int32) then 19 else if iw = (3 : Int32) then 20 else if iw = (4 : Int32) then 21 else if iw = (5 : Int32) then 22 else if iw = (6 : Int32) then 23 else if iw = (7 : Int32) then 24 else 25)
set_option maxHeartbeats 4000000 in
set_option maxRecDepth 100000 in
theorem c_X6_wordOf {l : Launch} {D : va_G} {k : tyK}  (iw : Int32) : FCr l yX6_wordOf wsX6_wordOf rm_X6_wordOf D k [.int iw] [] (kS k (F_X6_wordOf iw)) [] := by
  refine fc_start (cc := cX6_wordOf) (maxL := 1) (ret := (some (.object "java/lang/String"))) (own := RX6) (Qc := fun A => va_Qr (fun (_ : Unit) => True) (fun _ a t => a = (kS k (F_X6_wordOf iw)) ∧ va_P D vwCl [] t.heap ∧ va_D A []) A) (by decide) rfl rfl (Nat.le_of_ble_eq_true rfl) ?_
  intro p e s m below meth c A H hx hb hml hr hts hown hlk hname hA hP hE hD hS ls hl
  obtain ⟨RES, hF⟩ : ∃ z, (F_X6_wordOf iw) = z := ⟨_, rfl⟩
  rw [hF]
  unfold F_X6_wordOf at hF
  have hl : lv_has ls 1 [(0, .int iw)] := hl
  obtain ⟨locs, hlocs⟩ : ∃ z : List Loc, z = [] := ⟨_, rfl⟩
  rw [← hlocs] at hS ⊢
  refine lv_iload_n hx hb dX6_wordOf_0 rfl (lv_at hl 0 rfl) ?_
  by_cases c_1 : iw = (0 : Int32)
  · rw [if_pos c_1] at hF
    refine lv_tableIn (tgt := 48) (off := 47) hx hb dX6_wordOf_1 (by rw [c_1]; decide) (by rw [c_1]; decide) (by rw [c_1]; rfl) (by decide) ?_
    refine va_ldcSW hx hb hown (hE.2.2.1 17 _ rfl).1 dX6_wordOf_48 ?_
    subst hF
    exact fc_aret hx hb hr (Or.inl ⟨_, rfl⟩) hlk hS rfl hP hD (by decide) (by decide) dX6_wordOf_51
  rw [if_neg c_1] at hF
  by_cases c_2 : iw = (1 : Int32)
  · rw [if_pos c_2] at hF
    refine lv_tableIn (tgt := 52) (off := 51) hx hb dX6_wordOf_1 (by rw [c_2]; decide) (by rw [c_2]; decide) (by rw [c_2]; rfl) (by decide) ?_
    refine va_ldcSW hx hb hown (hE.2.2.1 18 _ rfl).1 dX6_wordOf_52 ?_
    subst hF
    exact fc_aret hx hb hr (Or.inl ⟨_, rfl⟩) hlk hS rfl hP hD (by decide) (by decide) dX6_wordOf_55
  rw [if_neg c_2] at hF
  by_cases c_3 : iw = (2 : Int32)
  · rw [if_pos c_3] at hF
    refine lv_tableIn (tgt := 56) (off := 55) hx hb dX6_wordOf_1 (by rw [c_3]; decide) (by rw [c_3]; decide) (by rw [c_3]; rfl) (by decide) ?_
    refine va_ldcSW hx hb hown (hE.2.2.1 19 _ rfl).1 dX6_wordOf_56 ?_
    subst hF
    exact fc_aret hx hb hr (Or.inl ⟨_, rfl⟩) hlk hS rfl hP hD (by decide) (by decide) dX6_wordOf_59
  rw [if_neg c_3] at hF
  by_cases c_4 : iw = (3 : Int32)
  · rw [if_pos c_4] at hF
    refine lv_tableIn (tgt := 60) (off := 59) hx hb dX6_wordOf_1 (by rw [c_4]; decide) (by rw [c_4]; decide) (by rw [c_4]; rfl) (by decide) ?_
    refine va_ldcSW hx hb hown (hE.2.2.1 20 _ rfl).1 dX6_wordOf_60 ?_
    subst hF
    exact fc_aret hx hb hr (Or.inl ⟨_, rfl⟩) hlk hS rfl hP hD (by decide) (by decide) dX6_wordOf_63
  rw [if_neg c_4] at hF
  by_cases c_5 : iw = (4 : Int32)
  · rw [if_pos c_5] at hF
    refine lv_tableIn (tgt := 64) (off := 63) hx hb dX6_wordOf_1 (by rw [c_5]; decide) (by rw [c_5]; decide) (by rw [c_5]; rfl) (by decide) ?_
    refine va_ldcSW hx hb hown (hE.2.2.1 21 _ rfl).1 dX6_wordOf_64 ?_
    subst hF
    exact fc_aret hx hb hr (Or.inl ⟨_, rfl⟩) hlk hS rfl hP hD (by decide) (by decide) dX6_wordOf_67
  rw [if_neg c_5] at hF
  by_cases c_6 : iw = (5 : Int32)
  · rw [if_pos c_6] at hF
    refine lv_tableIn (tgt := 68) (off := 67) hx hb dX6_wordOf_1 (by rw [c_6]; decide) (by rw [c_6]; decide) (by rw [c_6]; rfl) (by decide) ?_
    refine va_ldcSW hx hb hown (hE.2.2.1 22 _ rfl).1 dX6_wordOf_68 ?_
    subst hF
    exact fc_aret hx hb hr (Or.inl ⟨_, rfl⟩) hlk hS rfl hP hD (by decide) (by decide) dX6_wordOf_71
  rw [if_neg c_6] at hF
  by_cases c_7 : iw = (6 : Int32)
  · rw [if_pos c_7] at hF
    refine lv_tableIn (tgt := 72) (off := 71) hx hb dX6_wordOf_1 (by rw [c_7]; decide) (by rw [c_7]; decide) (by rw [c_7]; rfl) (by decide) ?_
    refine va_ldcSW hx hb hown (hE.2.2.1 23 _ rfl).1 dX6_wordOf_72 ?_
    subst hF
    exact fc_aret hx hb hr (Or.inl ⟨_, rfl⟩) hlk hS rfl hP hD (by decide) (by decide) dX6_wordOf_75
  rw [if_neg c_7] at hF
  by_cases c_8 : iw = (7 : Int32)
  · rw [if_pos c_8] at hF
    refine lv_tableIn (tgt := 76) (off := 75) hx hb dX6_wordOf_1 (by rw [c_8]; decide) (by rw [c_8]; decide) (by rw [c_8]; rfl) (by decide) ?_
    refine va_ldcSW hx hb hown (hE.2.2.1 24 _ rfl).1 dX6_wordOf_76 ?_
    subst hF
    exact fc_aret hx hb hr (Or.inl ⟨_, rfl⟩) hlk hS rfl hP hD (by decide) (by decide) dX6_wordOf_79
  rw [if_neg c_8] at hF
  refine lv_tableOut (tgt := 80) hx hb dX6_wordOf_1 (by have z := And.intro (i32_ne (n := 0) rfl c_1) True.intro; have z0 := i32_ne (n := 0) rfl c_1; have z1 := i32_ne (n := 1) rfl c_2; have z2 := i32_ne (n := 2) rfl c_3; have z3 := i32_ne (n := 3) rfl c_4; have z4 := i32_ne (n := 4) rfl c_5; have z5 := i32_ne (n := 5) rfl c_6; have z6 := i32_ne (n := 6) rfl c_7; have z7 := i32_ne (n := 7) rfl c_8; omega) (by decide) ?_
  refine va_ldcSW hx hb hown (hE.2.2.1 25 _ rfl).1 dX6_wordOf_80 ?_
  subst hF
  exact fc_aret hx hb hr (Or.inl ⟨_, rfl⟩) hlk hS rfl hP hD (by decide) (by decide) dX6_wordOf_83

theorem wordOf_lt (iw : Int32) : F_X6_wordOf iw < 34 := by
  unfold F_X6_wordOf
  repeat' split
  all_goals decide
theorem sl_lt {sj : Nat} (hj : sj < 34) {i : Int32} (c : ¬ (F_J0_length_8abf5 sj) ≤ i) : i < Int32.ofNat (SB sj).length := by
  unfold F_J0_length_8abf5 at c
  rw [sb_shr0] at c
  exact Int32.not_le.mp c
theorem vp_of3 {i : Int32} (c : ¬ (F_X6_isBelow i (60 : Int32)) = (0 : Int32)) : vp_in i 60 := by
  unfold F_X6_isBelow at c
  by_cases h0 : i < (0 : Int32)
  · rw [if_pos h0] at c
    exact absurd rfl c
  · rw [if_neg h0] at c
    by_cases h1 : (60 : Int32) ≤ i
    · rw [if_pos h1] at c
      exact absurd rfl c
    · exact vp_of (by decide) h0 h1
end
