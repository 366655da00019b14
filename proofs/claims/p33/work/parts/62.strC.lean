/-! What a fresh String answers. -/
section
abbrev rm_J0_coder_w : Room := { frames := 0, cells := 0, slots := 0, locals := 0 }
theorem in_J0_coder_w_J0 : ∀ w ∈ wsJ00, w ∈ wsJ0_coder_7d493 := by decide +kernel
theorem lk_J0_coder_w_15 : (Cond.fieldLink RJ0 15 "java/lang/String" "coder" "B") ∈ wsJ0_coder_7d493 := by decide +kernel
theorem lk_J0_coder_w_38 : (Cond.fieldLink RJ0 38 "java/lang/String" "COMPACT_STRINGS" "Z") ∈ wsJ0_coder_7d493 := by decide +kernel
def F_J0_coder_w (bt : (Nat → Int32))  : Int32 := (0 : Int32)
set_option maxHeartbeats 4000000 in
set_option maxRecDepth 100000 in
theorem c_J0_coder_w {l : Launch} {D : va_G} {k : tyK} (st va : Nat) (cap : Nat) (bt : (Nat → Int32))  : FCi l yJ0_coder_7d493 wsJ0_coder_7d493 rm_J0_coder_w D k [.ref st] [(st, .inr (0, [.ref va, .int (0 : Int32), .int (0 : Int32), .int (0 : Int32)])), (va, .inl (k.2.2.1, cap, .inl bt))] (fun r (_ : Unit) => r = (F_J0_coder_w bt)) (fun _ => [(st, .inr (0, [.ref va, .int (0 : Int32), .int (0 : Int32), .int (0 : Int32)])), (va, .inl (k.2.2.1, cap, .inl bt))]) := by
  refine fc_start (cc := cJ0_coder_7d493) (maxL := 1) (ret := (some .byte)) (own := RJ0) (Qc := fun A => va_Qi (fun r (_ : Unit) => r = (F_J0_coder_w bt)) (Bt D (fun _ => [(st, .inr (0, [.ref va, .int (0 : Int32), .int (0 : Int32), .int (0 : Int32)])), (va, .inl (k.2.2.1, cap, .inl bt))]) A) A) (by decide) rfl rfl (Nat.le_of_ble_eq_true rfl) ?_
  intro p e s m below meth c A H hx hb hml hr hts hown hlk hname hA hP hE hD hS ls hl
  obtain ⟨RES, hF⟩ : ∃ z, (F_J0_coder_w bt) = z := ⟨_, rfl⟩
  rw [hF]
  unfold F_J0_coder_w at hF
  have hl : lv_has ls 1 [(0, .ref st)] := hl
  obtain ⟨locs, hlocs⟩ : ∃ z : List Loc, z = [] := ⟨_, rfl⟩
  rw [← hlocs] at hS ⊢
  refine va_gets hx hb (GE.cs hE) hS hown (hts _ lk_J0_coder_w_38) (fun _ h9 => h9) dJ0_coder_7d493_0 ?_
  refine lv_if_eq (tgt := 13) hx hb dJ0_coder_7d493_3 (by decide) (fun c_1 => absurd c_1 (by decide)) (fun c_1 => ?_)
  refine lv_aload_n hx hb dJ0_coder_7d493_6 rfl (lv_at hl 0 rfl) ?_
  refine va_get (D := D) (ci := 0) (v := .int (0 : Int32)) (C := RJ0) (T := TJ0) (N := 4) hx hb hts in_J0_coder_w_J0 hown hE.1 hP 0 rfl rfl 1 (by decide) (hts _ lk_J0_coder_w_15) (fun _ h9 => h9) rfl dJ0_coder_7d493_7 ?_
  refine lv_goto (tgt := 14) hx hb dJ0_coder_7d493_10 (by decide) ?_
  subst hF
  exact fc_iret hx hb hr rfl hlk hS () rfl hP hD (by decide) (by decide) dJ0_coder_7d493_14

abbrev rm_J0_isLatin1_w : Room := { frames := 0, cells := 0, slots := 0, locals := 0 }
theorem in_J0_isLatin1_w_J0 : ∀ w ∈ wsJ00, w ∈ wsJ0_isLatin1_aae02 := by decide +kernel
theorem lk_J0_isLatin1_w_15 : (Cond.fieldLink RJ0 15 "java/lang/String" "coder" "B") ∈ wsJ0_isLatin1_aae02 := by decide +kernel
theorem lk_J0_isLatin1_w_38 : (Cond.fieldLink RJ0 38 "java/lang/String" "COMPACT_STRINGS" "Z") ∈ wsJ0_isLatin1_aae02 := by decide +kernel
def F_J0_isLatin1_w (bt : (Nat → Int32))  : Int32 := (1 : Int32)
set_option maxHeartbeats 4000000 in
set_option maxRecDepth 100000 in
theorem c_J0_isLatin1_w {l : Launch} {D : va_G} {k : tyK} (st va : Nat) (cap : Nat) (bt : (Nat → Int32))  : FCi l yJ0_isLatin1_aae02 wsJ0_isLatin1_aae02 rm_J0_isLatin1_w D k [.ref st] [(st, .inr (0, [.ref va, .int (0 : Int32), .int (0 : Int32), .int (0 : Int32)])), (va, .inl (k.2.2.1, cap, .inl bt))] (fun r (_ : Unit) => r = (F_J0_isLatin1_w bt)) (fun _ => [(st, .inr (0, [.ref va, .int (0 : Int32), .int (0 : Int32), .int (0 : Int32)])), (va, .inl (k.2.2.1, cap, .inl bt))]) := by
  refine fc_start (cc := cJ0_isLatin1_aae02) (maxL := 1) (ret := (some .boolean)) (own := RJ0) (Qc := fun A => va_Qi (fun r (_ : Unit) => r = (F_J0_isLatin1_w bt)) (Bt D (fun _ => [(st, .inr (0, [.ref va, .int (0 : Int32), .int (0 : Int32), .int (0 : Int32)])), (va, .inl (k.2.2.1, cap, .inl bt))]) A) A) (by decide) rfl rfl (Nat.le_of_ble_eq_true rfl) ?_
  intro p e s m below meth c A H hx hb hml hr hts hown hlk hname hA hP hE hD hS ls hl
  obtain ⟨RES, hF⟩ : ∃ z, (F_J0_isLatin1_w bt) = z := ⟨_, rfl⟩
  rw [hF]
  unfold F_J0_isLatin1_w at hF
  have hl : lv_has ls 1 [(0, .ref st)] := hl
  obtain ⟨locs, hlocs⟩ : ∃ z : List Loc, z = [] := ⟨_, rfl⟩
  rw [← hlocs] at hS ⊢
  refine va_gets hx hb (GE.cs hE) hS hown (hts _ lk_J0_isLatin1_w_38) (fun _ h9 => h9) dJ0_isLatin1_aae02_0 ?_
  refine lv_if_eq (tgt := 17) hx hb dJ0_isLatin1_aae02_3 (by decide) (fun c_1 => absurd c_1 (by decide)) (fun c_1 => ?_)
  refine lv_aload_n hx hb dJ0_isLatin1_aae02_6 rfl (lv_at hl 0 rfl) ?_
  refine va_get (D := D) (ci := 0) (v := .int (0 : Int32)) (C := RJ0) (T := TJ0) (N := 4) hx hb hts in_J0_isLatin1_w_J0 hown hE.1 hP 0 rfl rfl 1 (by decide) (hts _ lk_J0_isLatin1_w_15) (fun _ h9 => h9) rfl dJ0_isLatin1_aae02_7 ?_
  refine lv_if_ne (tgt := 17) hx hb dJ0_isLatin1_aae02_10 (by decide) (fun c_2 => absurd c_2 (by decide)) (fun c_2 => ?_)
  refine lv_iconst (v := 1) hx hb dJ0_isLatin1_aae02_13 (by decide) ?_
  refine lv_goto (tgt := 18) hx hb dJ0_isLatin1_aae02_14 (by decide) ?_
  subst hF
  exact fc_iret hx hb hr rfl hlk hS () rfl hP hD (by decide) (by decide) dJ0_isLatin1_aae02_18

abbrev rm_J0_length_w : Room := { frames := 1, cells := 0, slots := 0, locals := 20 }
theorem in_J0_length_w_J0 : ∀ w ∈ wsJ00, w ∈ wsJ0_length_8abf5 := by decide +kernel
theorem lk_J0_length_w_9 : (Cond.fieldLink RJ0 9 "java/lang/String" "value" "[B") ∈ wsJ0_length_8abf5 := by decide +kernel
def F_J0_length_w (cap : Nat) (bt : (Nat → Int32))  : Int32 := ((Int32.ofNat cap) >>> ((0 : Int32) &&& 31))
set_option maxHeartbeats 4000000 in
set_option maxRecDepth 100000 in
theorem c_J0_length_w {l : Launch} {D : va_G} {k : tyK} (st va : Nat) (cap : Nat) (bt : (Nat → Int32))  : FCi l yJ0_length_8abf5 wsJ0_length_8abf5 rm_J0_length_w D k [.ref st] [(st, .inr (0, [.ref va, .int (0 : Int32), .int (0 : Int32), .int (0 : Int32)])), (va, .inl (k.2.2.1, cap, .inl bt))] (fun r (_ : Unit) => r = (F_J0_length_w cap bt)) (fun _ => [(st, .inr (0, [.ref va, .int (0 : Int32), .int (0 : Int32), .int (0 : Int32)])), (va, .inl (k.2.2.1, cap, .inl bt))]) := by
  refine fc_start (cc := cJ0_length_8abf5) (maxL := 1) (ret := (some .int)) (own := RJ0) (Qc := fun A => va_Qi (fun r (_ : Unit) => r = (F_J0_length_w cap bt)) (Bt D (fun _ => [(st, .inr (0, [.ref va, .int (0 : Int32), .int (0 : Int32), .int (0 : Int32)])), (va, .inl (k.2.2.1, cap, .inl bt))]) A) A) (by decide) rfl rfl (Nat.le_of_ble_eq_true rfl) ?_
  intro p e s m below meth c A H hx hb hml hr hts hown hlk hname hA hP hE hD hS ls hl
  obtain ⟨RES, hF⟩ : ∃ z, (F_J0_length_w cap bt) = z := ⟨_, rfl⟩
  rw [hF]
  unfold F_J0_length_w at hF
  have hl : lv_has ls 1 [(0, .ref st)] := hl
  obtain ⟨locs, hlocs⟩ : ∃ z : List Loc, z = [] := ⟨_, rfl⟩
  rw [← hlocs] at hS ⊢
  refine lv_aload_n hx hb dJ0_length_8abf5_0 rfl (lv_at hl 0 rfl) ?_
  refine va_get (D := D) (ci := 0) (v := .ref va) (C := RJ0) (T := TJ0) (N := 4) hx hb hts in_J0_length_w_J0 hown hE.1 hP 0 rfl rfl 0 (by decide) (hts _ lk_J0_length_w_9) (fun _ h9 => h9) rfl dJ0_length_8abf5_1 ?_
  refine va_alen (v := (Int32.ofNat cap)) hx hb hE.1 hP 1 2 rfl rfl rfl dJ0_length_8abf5_4 ?_
  refine lv_aload_n hx hb dJ0_length_8abf5_5 rfl (lv_at hl 0 rfl) ?_
  refine fc_ci (isC := [0, 1]) (cells' := 0) (slots' := 0) (fc_runV (n := 0) (As := []) (rest := [.int (Int32.ofNat cap)]) (isC := [0, 1]) (maxL := 1) ⟨hx, hb, hml, hown, hts⟩ (c_J0_coder_w st va cap bt H.size) gJ0_length_8abf5_J0_coder_7d493 rfl (by decide +kernel) rfl ⟨Nat.le_of_ble_eq_true rfl, Nat.le_of_ble_eq_true rfl⟩ ⟨Nat.le_of_ble_eq_true rfl, Nat.le_of_ble_eq_true rfl⟩ hE hP hD hS hA rfl rfl (va_recv hE.1 hP (ci := 0) (q0 := 0) rfl rfl) hl rfl (Nat.le_of_ble_eq_true rfl) dJ0_length_8abf5_6) hP hD hS hA rfl (fun _ => rfl) rfl rfl (fun r_1 _ H locs hr_1 hP hD hS => ?_)
  obtain rfl : (0 : Int32) = r_1 := hr_1.symm
  dsimp only [fs, List.set] at hP hD
  have hP : va_P D vwCl [(st, .inr (0, [.ref va, .int (0 : Int32), .int (0 : Int32), .int (0 : Int32)])), (va, .inl (k.2.2.1, cap, .inl bt))] H := hP
  have hD : va_D A [(st, .inr (0, [.ref va, .int (0 : Int32), .int (0 : Int32), .int (0 : Int32)])), (va, .inl (k.2.2.1, cap, .inl bt))] := hD
  refine lv_ishr hx hb dJ0_length_8abf5_9 ?_
  subst hF
  exact fc_iret hx hb hr rfl hlk hS () rfl hP hD (by decide) (by decide) dJ0_length_8abf5_10

abbrev rm_J1_charAt_w : Room := { frames := 2, cells := 0, slots := 0, locals := 43 }
def F_J1_charAt_w (bt : (Nat → Int32)) (ii : Int32) : Int32 := (((((bt (ii).toNatClampNeg) &&& (255 : Int32))).toUInt32 % 65536).toInt32)
set_option maxHeartbeats 4000000 in
set_option maxRecDepth 100000 in
theorem c_J1_charAt_w {l : Launch} {D : va_G} {k : tyK} (va : Nat) (cap : Nat) (bt : (Nat → Int32)) (ii : Int32) (h0 : ¬ ii < 0) (h1 : ii < Int32.ofNat cap) (hcap : cap < 2 ^ 31) : FCi l yJ1_charAt_3b067 wsJ1_charAt_3b067 rm_J1_charAt_w D k [.ref va, .int ii] [(va, .inl (k.2.2.1, cap, .inl bt))] (fun r (_ : Unit) => r = (F_J1_charAt_w bt ii)) (fun _ => [(va, .inl (k.2.2.1, cap, .inl bt))]) := by
  refine fc_start (cc := cJ1_charAt_3b067) (maxL := 2) (ret := (some .char)) (own := RJ1) (Qc := fun A => va_Qi (fun r (_ : Unit) => r = (F_J1_charAt_w bt ii)) (Bt D (fun _ => [(va, .inl (k.2.2.1, cap, .inl bt))]) A) A) (by decide) rfl rfl (Nat.le_of_ble_eq_true rfl) ?_
  intro p e s m below meth c A H hx hb hml hr hts hown hlk hname hA hP hE hD hS ls hl
  obtain ⟨RES, hF⟩ : ∃ z, (F_J1_charAt_w bt ii) = z := ⟨_, rfl⟩
  rw [hF]
  unfold F_J1_charAt_w at hF
  have hl : lv_has ls 2 [(0, .ref va), (1, .int ii)] := hl
  obtain ⟨locs, hlocs⟩ : ∃ z : List Loc, z = [] := ⟨_, rfl⟩
  rw [← hlocs] at hS ⊢
  refine lv_iload_n hx hb dJ1_charAt_3b067_0 rfl (lv_at hl 1 rfl) ?_
  refine lv_aload_n hx hb dJ1_charAt_3b067_1 rfl (lv_at hl 0 rfl) ?_
  refine va_alen (v := (Int32.ofNat cap)) hx hb hE.1 hP 0 2 rfl rfl rfl dJ1_charAt_3b067_2 ?_
  refine fc_cv (isC := []) (cells' := 0) (slots' := 0) (fc_runS (n := 2) (As := [.int ii, .int (Int32.ofNat cap)]) (rest := []) (isC := []) (maxL := 2) ⟨hx, hb, hml, hown, hts⟩ (c_J0_checkIndex_df160 ii (Int32.ofNat cap) h0 h1 H.size) gJ1_charAt_3b067_J0_checkIndex_df160 rfl (by decide +kernel) rfl ⟨Nat.le_of_ble_eq_true rfl, Nat.le_of_ble_eq_true rfl⟩ ⟨Nat.le_of_ble_eq_true rfl, Nat.le_of_ble_eq_true rfl⟩ hE hP hD hS hA rfl rfl hl rfl (Nat.le_of_ble_eq_true rfl) dJ1_charAt_3b067_3) hP hD hS hA rfl (fun _ => rfl) rfl rfl (fun _ H locs _ hP hD hS => ?_)
  dsimp only [fs, List.set] at hP hD
  have hP : va_P D vwCl [(va, .inl (k.2.2.1, cap, .inl bt))] H := hP
  have hD : va_D A [(va, .inl (k.2.2.1, cap, .inl bt))] := hD
  refine lv_aload_n hx hb dJ1_charAt_3b067_6 rfl (lv_at hl 0 rfl) ?_
  refine lv_iload_n hx hb dJ1_charAt_3b067_7 rfl (lv_at hl 1 rfl) ?_
  refine va_bald hx hb hE.1 hP 0 2 rfl rfl (vp_of2 h0 h1 hcap) dJ1_charAt_3b067_8 ?_
  refine lv_sipush (v := 255) hx hb dJ1_charAt_3b067_9 (by decide) ?_
  refine lv_iand hx hb dJ1_charAt_3b067_12 ?_
  refine lv_i2c hx hb dJ1_charAt_3b067_13 rfl ?_
  subst hF
  exact fc_iret hx hb hr (pk_nc _) hlk hS () rfl hP hD (by decide) (by decide) dJ1_charAt_3b067_14

abbrev rm_J0_charAt_w : Room := { frames := 3, cells := 0, slots := 0, locals := 64 }
theorem in_J0_charAt_w_J0 : ∀ w ∈ wsJ00, w ∈ wsJ0_charAt_5068e := by decide +kernel
theorem lk_J0_charAt_w_9 : (Cond.fieldLink RJ0 9 "java/lang/String" "value" "[B") ∈ wsJ0_charAt_5068e := by decide +kernel
def F_J0_charAt_w (bt : (Nat → Int32)) (ii : Int32) : Int32 := (F_J1_charAt_w bt ii)
set_option maxHeartbeats 4000000 in
set_option maxRecDepth 100000 in
theorem c_J0_charAt_w {l : Launch} {D : va_G} {k : tyK} (st va : Nat) (cap : Nat) (bt : (Nat → Int32)) (ii : Int32) (h0 : ¬ ii < 0) (h1 : ii < Int32.ofNat cap) (hcap : cap < 2 ^ 31) : FCi l yJ0_charAt_5068e wsJ0_charAt_5068e rm_J0_charAt_w D k [.ref st, .int ii] [(st, .inr (0, [.ref va, .int (0 : Int32), .int (0 : Int32), .int (0 : Int32)])), (va, .inl (k.2.2.1, cap, .inl bt))] (fun r (_ : Unit) => r = (F_J0_charAt_w bt ii)) (fun _ => [(st, .inr (0, [.ref va, .int (0 : Int32), .int (0 : Int32), .int (0 : Int32)])), (va, .inl (k.2.2.1, cap, .inl bt))]) := by
  refine fc_start (cc := cJ0_charAt_5068e) (maxL := 2) (ret := (some .char)) (own := RJ0) (Qc := fun A => va_Qi (fun r (_ : Unit) => r = (F_J0_charAt_w bt ii)) (Bt D (fun _ => [(st, .inr (0, [.ref va, .int (0 : Int32), .int (0 : Int32), .int (0 : Int32)])), (va, .inl (k.2.2.1, cap, .inl bt))]) A) A) (by decide) rfl rfl (Nat.le_of_ble_eq_true rfl) ?_
  intro p e s m below meth c A H hx hb hml hr hts hown hlk hname hA hP hE hD hS ls hl
  obtain ⟨RES, hF⟩ : ∃ z, (F_J0_charAt_w bt ii) = z := ⟨_, rfl⟩
  rw [hF]
  unfold F_J0_charAt_w at hF
  have hl : lv_has ls 2 [(0, .ref st), (1, .int ii)] := hl
  obtain ⟨locs, hlocs⟩ : ∃ z : List Loc, z = [] := ⟨_, rfl⟩
  rw [← hlocs] at hS ⊢
  refine lv_aload_n hx hb dJ0_charAt_5068e_0 rfl (lv_at hl 0 rfl) ?_
  refine fc_ci (isC := [0, 1]) (cells' := 0) (slots' := 0) (fc_runV (n := 0) (As := []) (rest := []) (isC := [0, 1]) (maxL := 1) ⟨hx, hb, hml, hown, hts⟩ (c_J0_isLatin1_w st va cap bt H.size) gJ0_charAt_5068e_J0_isLatin1_aae02 rfl (by decide +kernel) rfl ⟨Nat.le_of_ble_eq_true rfl, Nat.le_of_ble_eq_true rfl⟩ ⟨Nat.le_of_ble_eq_true rfl, Nat.le_of_ble_eq_true rfl⟩ hE hP hD hS hA rfl rfl (va_recv hE.1 hP (ci := 0) (q0 := 0) rfl rfl) hl rfl (Nat.le_of_ble_eq_true rfl) dJ0_charAt_5068e_1) hP hD hS hA rfl (fun _ => rfl) rfl rfl (fun r_1 _ H locs hr_1 hP hD hS => ?_)
  obtain rfl : (1 : Int32) = r_1 := hr_1.symm
  dsimp only [fs, List.set] at hP hD
  have hP : va_P D vwCl [(st, .inr (0, [.ref va, .int (0 : Int32), .int (0 : Int32), .int (0 : Int32)])), (va, .inl (k.2.2.1, cap, .inl bt))] H := hP
  have hD : va_D A [(st, .inr (0, [.ref va, .int (0 : Int32), .int (0 : Int32), .int (0 : Int32)])), (va, .inl (k.2.2.1, cap, .inl bt))] := hD
  refine lv_if_eq (tgt := 16) hx hb dJ0_charAt_5068e_4 (by decide) (fun c_2 => absurd c_2 (by decide)) (fun c_2 => ?_)
  refine lv_aload_n hx hb dJ0_charAt_5068e_7 rfl (lv_at hl 0 rfl) ?_
  refine va_get (D := D) (ci := 0) (v := .ref va) (C := RJ0) (T := TJ0) (N := 4) hx hb hts in_J0_charAt_w_J0 hown hE.1 hP 0 rfl rfl 0 (by decide) (hts _ lk_J0_charAt_w_9) (fun _ h9 => h9) rfl dJ0_charAt_5068e_8 ?_
  refine lv_iload_n hx hb dJ0_charAt_5068e_11 rfl (lv_at hl 1 rfl) ?_
  refine fc_ci (isC := [1]) (cells' := 0) (slots' := 0) (fc_runS (n := 2) (As := [.ref va, .int ii]) (rest := []) (isC := [1]) (maxL := 2) ⟨hx, hb, hml, hown, hts⟩ (c_J1_charAt_w va cap bt ii h0 h1 hcap H.size) gJ0_charAt_5068e_J1_charAt_3b067 rfl (by decide +kernel) rfl ⟨Nat.le_of_ble_eq_true rfl, Nat.le_of_ble_eq_true rfl⟩ ⟨Nat.le_of_ble_eq_true rfl, Nat.le_of_ble_eq_true rfl⟩ hE hP hD hS hA rfl rfl hl rfl (Nat.le_of_ble_eq_true rfl) dJ0_charAt_5068e_12) hP hD hS hA rfl (fun _ => rfl) rfl rfl (fun r_3 _ H locs hr_3 hP hD hS => ?_)
  obtain rfl : (F_J1_charAt_w bt ii) = r_3 := hr_3.symm
  dsimp only [fs, List.set] at hP hD
  have hP : va_P D vwCl [(st, .inr (0, [.ref va, .int (0 : Int32), .int (0 : Int32), .int (0 : Int32)])), (va, .inl (k.2.2.1, cap, .inl bt))] H := hP
  have hD : va_D A [(st, .inr (0, [.ref va, .int (0 : Int32), .int (0 : Int32), .int (0 : Int32)])), (va, .inl (k.2.2.1, cap, .inl bt))] := hD
  subst hF
  exact fc_iret hx hb hr (by unfold F_J1_charAt_w; exact pk_nc _) hlk hS () rfl hP hD (by decide) (by decide) dJ0_charAt_5068e_15
end
