section
theorem exH_161 : ∀ w ∈ (vy_atS RX6 161 "java/util/NoSuchElementException" "java/lang/RuntimeException" 13 nseB ["java/lang/Exception"]).filter (fun w => !goodWord w), w ∈ exB "java/util/NoSuchElementException" := by decide +kernel
theorem exG_161 : ∀ w ∈ Cond.classLink RX6 157 "java/util/NoSuchElementException" :: Cond.initialized "java/util/NoSuchElementException" :: vy_atS RX6 161 "java/util/NoSuchElementException" "java/lang/RuntimeException" 13 nseB ["java/lang/Exception"], vx_ot w = true := by decide +kernel

theorem exH_219 : ∀ w ∈ (vx_atS RX6 219 "java/lang/ArithmeticException" exN).filter (fun w => !goodWord w), w ∈ exB "java/lang/ArithmeticException" := by decide +kernel
theorem exG_219 : ∀ w ∈ Cond.classLink RX6 215 "java/lang/ArithmeticException" :: Cond.initialized "java/lang/ArithmeticException" :: vx_atS RX6 219 "java/lang/ArithmeticException" exN, vx_ot w = true := by decide +kernel

theorem exH_226 : ∀ w ∈ (vx_atS RX6 226 "java/lang/IllegalStateException" exN).filter (fun w => !goodWord w), w ∈ exB "java/lang/IllegalStateException" := by decide +kernel
theorem exG_226 : ∀ w ∈ Cond.classLink RX6 222 "java/lang/IllegalStateException" :: Cond.initialized "java/lang/IllegalStateException" :: vx_atS RX6 226 "java/lang/IllegalStateException" exN, vx_ot w = true := by decide +kernel

theorem exH_241 : ∀ w ∈ (vx_atS RX6 241 "java/lang/IllegalArgumentException" exN).filter (fun w => !goodWord w), w ∈ exB "java/lang/IllegalArgumentException" := by decide +kernel
theorem exG_241 : ∀ w ∈ Cond.classLink RX6 237 "java/lang/IllegalArgumentException" :: Cond.initialized "java/lang/IllegalArgumentException" :: vx_atS RX6 241 "java/lang/IllegalArgumentException" exN, vx_ot w = true := by decide +kernel

theorem exH_256 : ∀ w ∈ (vx_atS RX6 256 "java/lang/UnsupportedOperationException" exN).filter (fun w => !goodWord w), w ∈ exB "java/lang/UnsupportedOperationException" := by decide +kernel
theorem exG_256 : ∀ w ∈ Cond.classLink RX6 252 "java/lang/UnsupportedOperationException" :: Cond.initialized "java/lang/UnsupportedOperationException" :: vx_atS RX6 256 "java/lang/UnsupportedOperationException" exN, vx_ot w = true := by decide +kernel

theorem exH_292 : ∀ w ∈ (vx_atS RX6 292 "java/lang/IndexOutOfBoundsException" exN).filter (fun w => !goodWord w), w ∈ exB "java/lang/IndexOutOfBoundsException" := by decide +kernel
theorem exG_292 : ∀ w ∈ Cond.classLink RX6 288 "java/lang/IndexOutOfBoundsException" :: Cond.initialized "java/lang/IndexOutOfBoundsException" :: vx_atS RX6 292 "java/lang/IndexOutOfBoundsException" exN, vx_ot w = true := by decide +kernel

abbrev rm_X6_needBelow : Room := { frames := 6, cells := 1, slots := 6, locals := 96 }
theorem xl_X6_needBelow_292 : ∀ w ∈ (vx_atS RX6 292 "java/lang/IndexOutOfBoundsException" exN).filter goodWord, w ∈ wsX6_needBelow := by decide +kernel
def F_X6_needBelow  (iv : Int32) (ib : Int32) : Option String := (if (F_X6_isBelow iv ib) = (0 : Int32) then (some "java/lang/IndexOutOfBoundsException") else none)
set_option maxHeartbeats 4000000 in
set_option maxRecDepth 100000 in
theorem c_X6_needBelow {l : Launch} {D : va_G} {k : tyK}  (iv : Int32) (ib : Int32) (hlst : l.stackTraces = false) : FOv l yX6_needBelow wsX6_needBelow rm_X6_needBelow D k [.int iv, .int ib] [] (F_X6_needBelow iv ib) [] := by
  refine fo_start (cc := cX6_needBelow) (maxL := 2) (ret := none) (own := RX6) (Qc := fun A => va_Qv (fun (_ : Unit) => (F_X6_needBelow iv ib) = none) (Bt D (fun _ => []) A) A) (XC := fun A => XB D (F_X6_needBelow iv ib) [] A) (by decide) rfl rfl (Nat.le_of_ble_eq_true rfl) ?_
  intro p e s m below meth c A H hx hb hml hr hts hown hlk hout hA hP hE hD hS ls hl
  obtain ⟨RES, hF⟩ : ∃ z, (F_X6_needBelow iv ib) = z := ⟨_, rfl⟩
  rw [hF]
  unfold F_X6_needBelow at hF
  have hl : lv_has ls 2 [(0, .int iv), (1, .int ib)] := hl
  obtain ⟨locs, hlocs⟩ : ∃ z : List Loc, z = [] := ⟨_, rfl⟩
  rw [← hlocs] at hS ⊢
  refine lv_iload_n hx hb dX6_needBelow_0 rfl (lv_at hl 0 rfl) ?_
  refine lv_iload_n hx hb dX6_needBelow_1 rfl (lv_at hl 1 rfl) ?_
  refine fc_ci (isC := []) (cells' := 0) (slots' := 0) (fc_runS (n := 2) (As := [.int iv, .int ib]) (rest := []) (isC := []) (maxL := 2) ⟨hx, hb, hml, hown, hts⟩ (c_X6_isBelow iv ib H.size) gX6_needBelow_X6_isBelow rfl (by decide +kernel) rfl ⟨Nat.le_of_ble_eq_true rfl, Nat.le_of_ble_eq_true rfl⟩ ⟨Nat.le_of_ble_eq_true rfl, Nat.le_of_ble_eq_true rfl⟩ hE hP hD hS hA rfl rfl hl rfl (Nat.le_of_ble_eq_true rfl) dX6_needBelow_2) hP hD hS hA rfl (fun _ => rfl) rfl rfl (fun r_1 _ H locs hr_1 hP hD hS => ?_)
  obtain rfl : (F_X6_isBelow iv ib) = r_1 := hr_1.symm
  dsimp only [fs, List.set] at hP hD
  have hP : va_P D vwCl [] H := hP
  have hD : va_D A [] := hD
  refine lv_if_ne (tgt := 19) hx hb dX6_needBelow_5 (by decide) (fun c_2 => ?_) (fun c_2 => ?_)
  · rw [if_neg c_2] at hF
    subst hF
    exact fo_vret hx hb hr hlk hS rfl hP hD (by decide) (by decide) dX6_needBelow_19
  · rw [if_pos c_2] at hF
    subst hF
    exact fo_throwW (names := exN) (i := 14) (B := []) (own := RX6) hlst hx hb hml hown hE hts exF_IndexOutOfBoundsException exN_ok (by decide +kernel) (by decide +kernel) rfl xl_X6_needBelow_292 exH_292 (by decide +kernel) exG_292 hl dX6_needBelow_8 dX6_needBelow_11 dX6_needBelow_12 dX6_needBelow_15 dX6_needBelow_18 hout (by decide) (by decide) (by decide) (by decide) hlk hS rfl hP hD (by decide) (by decide)

abbrev rm_X6_needRange : Room := { frames := 6, cells := 1, slots := 6, locals := 96 }
theorem xl_X6_needRange_241 : ∀ w ∈ (vx_atS RX6 241 "java/lang/IllegalArgumentException" exN).filter goodWord, w ∈ wsX6_needRange := by decide +kernel
def F_X6_needRange  (iv : Int32) (ilo : Int32) (ihi : Int32) : Option String := (if (F_X6_isWithin iv ilo ihi) = (0 : Int32) then (some "java/lang/IllegalArgumentException") else none)
set_option maxHeartbeats 4000000 in
set_option maxRecDepth 100000 in
theorem c_X6_needRange {l : Launch} {D : va_G} {k : tyK}  (iv : Int32) (ilo : Int32) (ihi : Int32) (hlst : l.stackTraces = false) : FOv l yX6_needRange wsX6_needRange rm_X6_needRange D k [.int iv, .int ilo, .int ihi] [] (F_X6_needRange iv ilo ihi) [] := by
  refine fo_start (cc := cX6_needRange) (maxL := 3) (ret := none) (own := RX6) (Qc := fun A => va_Qv (fun (_ : Unit) => (F_X6_needRange iv ilo ihi) = none) (Bt D (fun _ => []) A) A) (XC := fun A => XB D (F_X6_needRange iv ilo ihi) [] A) (by decide) rfl rfl (Nat.le_of_ble_eq_true rfl) ?_
  intro p e s m below meth c A H hx hb hml hr hts hown hlk hout hA hP hE hD hS ls hl
  obtain ⟨RES, hF⟩ : ∃ z, (F_X6_needRange iv ilo ihi) = z := ⟨_, rfl⟩
  rw [hF]
  unfold F_X6_needRange at hF
  have hl : lv_has ls 3 [(0, .int iv), (1, .int ilo), (2, .int ihi)] := hl
  obtain ⟨locs, hlocs⟩ : ∃ z : List Loc, z = [] := ⟨_, rfl⟩
  rw [← hlocs] at hS ⊢
  refine lv_iload_n hx hb dX6_needRange_0 rfl (lv_at hl 0 rfl) ?_
  refine lv_iload_n hx hb dX6_needRange_1 rfl (lv_at hl 1 rfl) ?_
  refine lv_iload_n hx hb dX6_needRange_2 rfl (lv_at hl 2 rfl) ?_
  refine fc_ci (isC := []) (cells' := 0) (slots' := 0) (fc_runS (n := 3) (As := [.int iv, .int ilo, .int ihi]) (rest := []) (isC := []) (maxL := 3) ⟨hx, hb, hml, hown, hts⟩ (c_X6_isWithin iv ilo ihi H.size) gX6_needRange_X6_isWithin rfl (by decide +kernel) rfl ⟨Nat.le_of_ble_eq_true rfl, Nat.le_of_ble_eq_true rfl⟩ ⟨Nat.le_of_ble_eq_true rfl, Nat.le_of_ble_eq_true rfl⟩ hE hP hD hS hA rfl rfl hl rfl (Nat.le_of_ble_eq_true rfl) dX6_needRange_3) hP hD hS hA rfl (fun _ => rfl) rfl rfl (fun r_1 _ H locs hr_1 hP hD hS => ?_)
  obtain rfl : (F_X6_isWithin iv ilo ihi) = r_1 := hr_1.symm
  dsimp only [fs, List.set] at hP hD
  have hP : va_P D vwCl [] H := hP
  have hD : va_D A [] := hD
  refine lv_if_ne (tgt := 20) hx hb dX6_needRange_6 (by decide) (fun c_2 => ?_) (fun c_2 => ?_)
  · rw [if_neg c_2] at hF
    subst hF
    exact fo_vret hx hb hr hlk hS rfl hP hD (by decide) (by decide) dX6_needRange_20
  · rw [if_pos c_2] at hF
    subst hF
    exact fo_throwW (names := exN) (i := 15) (B := []) (own := RX6) hlst hx hb hml hown hE hts exF_IllegalArgumentException exN_ok (by decide +kernel) (by decide +kernel) rfl xl_X6_needRange_241 exH_241 (by decide +kernel) exG_241 hl dX6_needRange_9 dX6_needRange_12 dX6_needRange_13 dX6_needRange_16 dX6_needRange_19 hout (by decide) (by decide) (by decide) (by decide) hlk hS rfl hP hD (by decide) (by decide)

abbrev rm_X6_allow : Room := { frames := 6, cells := 1, slots := 6, locals := 96 }
theorem xl_X6_allow_241 : ∀ w ∈ (vx_atS RX6 241 "java/lang/IllegalArgumentException" exN).filter goodWord, w ∈ wsX6_allow := by decide +kernel
theorem xl_X6_allow_256 : ∀ w ∈ (vx_atS RX6 256 "java/lang/UnsupportedOperationException" exN).filter goodWord, w ∈ wsX6_allow := by decide +kernel
theorem xl_X6_allow_292 : ∀ w ∈ (vx_atS RX6 292 "java/lang/IndexOutOfBoundsException" exN).filter goodWord, w ∈ wsX6_allow := by decide +kernel
def F_X6_allow  (iv : Int32) : Option String := (if iv = (-1 : Int32) then (some "java/lang/IndexOutOfBoundsException") else (if iv = (-2 : Int32) then (some "java/lang/IllegalArgumentException") else (if iv = (0 : Int32) then none else (some "java/lang/UnsupportedOperationException"))))
set_option maxHeartbeats 4000000 in
set_option maxRecDepth 100000 in
theorem c_X6_allow {l : Launch} {D : va_G} {k : tyK}  (iv : Int32) (hlst : l.stackTraces = false) : FOv l yX6_allow wsX6_allow rm_X6_allow D k [.int iv] [] (F_X6_allow iv) [] := by
  refine fo_start (cc := cX6_allow) (maxL := 1) (ret := none) (own := RX6) (Qc := fun A => va_Qv (fun (_ : Unit) => (F_X6_allow iv) = none) (Bt D (fun _ => []) A) A) (XC := fun A => XB D (F_X6_allow iv) [] A) (by decide) rfl rfl (Nat.le_of_ble_eq_true rfl) ?_
  intro p e s m below meth c A H hx hb hml hr hts hown hlk hout hA hP hE hD hS ls hl
  obtain ⟨RES, hF⟩ : ∃ z, (F_X6_allow iv) = z := ⟨_, rfl⟩
  rw [hF]
  unfold F_X6_allow at hF
  have hl : lv_has ls 1 [(0, .int iv)] := hl
  obtain ⟨locs, hlocs⟩ : ∃ z : List Loc, z = [] := ⟨_, rfl⟩
  rw [← hlocs] at hS ⊢
  refine lv_iload_n hx hb dX6_allow_0 rfl (lv_at hl 0 rfl) ?_
  refine lv_iconst (v := -1) hx hb dX6_allow_1 (by decide) ?_
  refine lv_icmp_ne (tgt := 16) hx hb dX6_allow_2 (by decide) (fun c_1 => ?_) (fun c_1 => ?_)
  · rw [if_neg c_1] at hF
    refine lv_iload_n hx hb dX6_allow_16 rfl (lv_at hl 0 rfl) ?_
    refine lv_bipush (v := -2) hx hb dX6_allow_17 (by decide) ?_
    refine lv_icmp_ne (tgt := 33) hx hb dX6_allow_19 (by decide) (fun c_2 => ?_) (fun c_2 => ?_)
    · rw [if_neg c_2] at hF
      refine lv_iload_n hx hb dX6_allow_33 rfl (lv_at hl 0 rfl) ?_
      refine lv_if_eq (tgt := 48) hx hb dX6_allow_34 (by decide) (fun c_3 => ?_) (fun c_3 => ?_)
      · rw [if_pos c_3] at hF
        subst hF
        exact fo_vret hx hb hr hlk hS rfl hP hD (by decide) (by decide) dX6_allow_48
      · rw [if_neg c_3] at hF
        subst hF
        exact fo_throwW (names := exN) (i := 16) (B := []) (own := RX6) hlst hx hb hml hown hE hts exF_UnsupportedOperationException exN_ok (by decide +kernel) (by decide +kernel) rfl xl_X6_allow_256 exH_256 (by decide +kernel) exG_256 hl dX6_allow_37 dX6_allow_40 dX6_allow_41 dX6_allow_44 dX6_allow_47 hout (by decide) (by decide) (by decide) (by decide) hlk hS rfl hP hD (by decide) (by decide)
    · rw [if_pos c_2] at hF
      subst hF
      exact fo_throwW (names := exN) (i := 15) (B := []) (own := RX6) hlst hx hb hml hown hE hts exF_IllegalArgumentException exN_ok (by decide +kernel) (by decide +kernel) rfl xl_X6_allow_241 exH_241 (by decide +kernel) exG_241 hl dX6_allow_22 dX6_allow_25 dX6_allow_26 dX6_allow_29 dX6_allow_32 hout (by decide) (by decide) (by decide) (by decide) hlk hS rfl hP hD (by decide) (by decide)
  · rw [if_pos c_1] at hF
    subst hF
    exact fo_throwW (names := exN) (i := 14) (B := []) (own := RX6) hlst hx hb hml hown hE hts exF_IndexOutOfBoundsException exN_ok (by decide +kernel) (by decide +kernel) rfl xl_X6_allow_292 exH_292 (by decide +kernel) exG_292 hl dX6_allow_5 dX6_allow_8 dX6_allow_9 dX6_allow_12 dX6_allow_15 hout (by decide) (by decide) (by decide) (by decide) hlk hS rfl hP hD (by decide) (by decide)

abbrev rm_X6_needTour : Room := { frames := 7, cells := 1, slots := 6, locals := 117 }
theorem in_X6_needTour_X6 : ∀ w ∈ wsX60, w ∈ wsX6_needTour := by decide +kernel
theorem lk_X6_needTour_20 : (Cond.fieldLink RX6 20 "TheatreSaga" "books" "LTheatreSaga$Books;") ∈ wsX6_needTour := by decide +kernel
def F_X6_needTour (hs : Int32) (fk : Int32) (f : (Nat → Int32)) (it : Int32) : Option String := (if (F_X6_needBelow it (F_X0_get f (1 : Int32))) = none then none else (F_X6_needBelow it (F_X0_get f (1 : Int32))))
set_option maxHeartbeats 4000000 in
set_option maxRecDepth 100000 in
theorem c_X6_needTour {l : Launch} {D : va_G} {k : tyK} (o t b t2 j h bt sn x ll r : Nat) (hs : Int32) (fk : Int32) (f : (Nat → Int32)) (it : Int32) (hlst : l.stackTraces = false) : FOv l yX6_needTour wsX6_needTour rm_X6_needTour D k [.ref o, .int it] [(o, .inr (10, [.ref t, .ref b, .ref t2, .ref j, .ref h, .ref bt, .ref sn, .int hs, .ref x, .ref ll, .int fk])), (b, .inr (4, [.ref r])), (r, .inl (k.1, 628, .inl f))] (F_X6_needTour hs fk f it) [(o, .inr (10, [.ref t, .ref b, .ref t2, .ref j, .ref h, .ref bt, .ref sn, .int hs, .ref x, .ref ll, .int fk])), (b, .inr (4, [.ref r])), (r, .inl (k.1, 628, .inl f))] := by
  refine fo_start (cc := cX6_needTour) (maxL := 2) (ret := none) (own := RX6) (Qc := fun A => va_Qv (fun (_ : Unit) => (F_X6_needTour hs fk f it) = none) (Bt D (fun _ => [(o, .inr (10, [.ref t, .ref b, .ref t2, .ref j, .ref h, .ref bt, .ref sn, .int hs, .ref x, .ref ll, .int fk])), (b, .inr (4, [.ref r])), (r, .inl (k.1, 628, .inl f))]) A) A) (XC := fun A => XB D (F_X6_needTour hs fk f it) [(o, .inr (10, [.ref t, .ref b, .ref t2, .ref j, .ref h, .ref bt, .ref sn, .int hs, .ref x, .ref ll, .int fk])), (b, .inr (4, [.ref r])), (r, .inl (k.1, 628, .inl f))] A) (by decide) rfl rfl (Nat.le_of_ble_eq_true rfl) ?_
  intro p e s m below meth c A H hx hb hml hr hts hown hlk hout hA hP hE hD hS ls hl
  obtain ⟨RES, hF⟩ : ∃ z, (F_X6_needTour hs fk f it) = z := ⟨_, rfl⟩
  rw [hF]
  unfold F_X6_needTour at hF
  have hl : lv_has ls 2 [(0, .ref o), (1, .int it)] := hl
  obtain ⟨locs, hlocs⟩ : ∃ z : List Loc, z = [] := ⟨_, rfl⟩
  rw [← hlocs] at hS ⊢
  refine lv_iload_n hx hb dX6_needTour_0 rfl (lv_at hl 1 rfl) ?_
  refine lv_aload_n hx hb dX6_needTour_1 rfl (lv_at hl 0 rfl) ?_
  refine va_get (D := D) (ci := 10) (v := .ref b) (C := RX6) (T := TX6) (N := 11) hx hb hts in_X6_needTour_X6 hown hE.1 hP 0 rfl rfl 1 (by decide) (hts _ lk_X6_needTour_20) (fun _ h9 => h9) rfl dX6_needTour_2 ?_
  refine lv_iconst (v := 1) hx hb dX6_needTour_5 (by decide) ?_
  refine fc_ci (isC := [1, 2]) (cells' := 0) (slots' := 0) (fc_runV (n := 1) (As := [.int (1 : Int32)]) (rest := [.int it]) (isC := [1, 2]) (maxL := 2) ⟨hx, hb, hml, hown, hts⟩ (c_X0_get b r f (1 : Int32) H.size) gX6_needTour_X0_get rfl (by decide +kernel) rfl ⟨Nat.le_of_ble_eq_true rfl, Nat.le_of_ble_eq_true rfl⟩ ⟨Nat.le_of_ble_eq_true rfl, Nat.le_of_ble_eq_true rfl⟩ hE hP hD hS hA rfl rfl (va_recv hE.1 hP (ci := 4) (q0 := 1) rfl rfl) hl rfl (Nat.le_of_ble_eq_true rfl) dX6_needTour_6) hP hD hS hA rfl (fun _ => rfl) rfl rfl (fun r_1 _ H locs hr_1 hP hD hS => ?_)
  obtain rfl : (F_X0_get f (1 : Int32)) = r_1 := hr_1.symm
  dsimp only [fs, List.set] at hP hD
  have hP : va_P D vwCl [(o, .inr (10, [.ref t, .ref b, .ref t2, .ref j, .ref h, .ref bt, .ref sn, .int hs, .ref x, .ref ll, .int fk])), (b, .inr (4, [.ref r])), (r, .inl (k.1, 628, .inl f))] H := hP
  have hD : va_D A [(o, .inr (10, [.ref t, .ref b, .ref t2, .ref j, .ref h, .ref bt, .ref sn, .int hs, .ref x, .ref ll, .int fk])), (b, .inr (4, [.ref r])), (r, .inl (k.1, 628, .inl f))] := hD
  refine fo_cv (isC := []) (cells' := 1) (slots' := 6) (fo_runS (n := 2) (As := [.int it, .int (F_X0_get f (1 : Int32))]) (rest := []) (isC := []) (maxL := 2) ⟨hx, hb, hml, hown, hts⟩ (c_X6_needBelow it (F_X0_get f (1 : Int32)) hlst H.size) gX6_needTour_X6_needBelow rfl (by decide +kernel) rfl ⟨Nat.le_of_ble_eq_true rfl, Nat.le_of_ble_eq_true rfl⟩ ⟨Nat.le_of_ble_eq_true rfl, Nat.le_of_ble_eq_true rfl⟩ hE hP hD hS hA rfl rfl hl rfl (Nat.le_of_ble_eq_true rfl) dX6_needTour_9) hP hD hS hA rfl rfl rfl rfl (fun E ce q9 H locs x_3 hP hD hS g1 g2 g3 => ?_) (fun H locs x_3 hP hD hS => ?_)
  · rw [if_neg (by rw [x_3]; exact fun z => nomatch z)] at hF
    dsimp only [fs, List.set] at hP hD
    have hP : va_P D vwCl [(o, .inr (10, [.ref t, .ref b, .ref t2, .ref j, .ref h, .ref bt, .ref sn, .int hs, .ref x, .ref ll, .int fk])), (b, .inr (4, [.ref r])), (r, .inl (k.1, 628, .inl f))] H := hP
    have hD : va_D A [(o, .inr (10, [.ref t, .ref b, .ref t2, .ref j, .ref h, .ref bt, .ref sn, .int hs, .ref x, .ref ll, .int fk])), (b, .inr (4, [.ref r])), (r, .inl (k.1, 628, .inl f))] := hD
    subst hF
    exact fo_out hout hlk g1 g2 g3 hS x_3 hP hD (by decide) (by decide)
  rw [if_pos x_3] at hF
  dsimp only [fs, List.set] at hP hD
  have hP : va_P D vwCl [(o, .inr (10, [.ref t, .ref b, .ref t2, .ref j, .ref h, .ref bt, .ref sn, .int hs, .ref x, .ref ll, .int fk])), (b, .inr (4, [.ref r])), (r, .inl (k.1, 628, .inl f))] H := hP
  have hD : va_D A [(o, .inr (10, [.ref t, .ref b, .ref t2, .ref j, .ref h, .ref bt, .ref sn, .int hs, .ref x, .ref ll, .int fk])), (b, .inr (4, [.ref r])), (r, .inl (k.1, 628, .inl f))] := hD
  subst hF
  exact fo_vret hx hb hr hlk hS rfl hP hD (by decide) (by decide) dX6_needTour_12

abbrev rm_X6_tourOf : Room := { frames := 8, cells := 2, slots := 12, locals := 138 }
theorem in_X6_tourOf_X6 : ∀ w ∈ wsX60, w ∈ wsX6_tourOf := by decide +kernel
theorem lk_X6_tourOf_20 : (Cond.fieldLink RX6 20 "TheatreSaga" "books" "LTheatreSaga$Books;") ∈ wsX6_tourOf := by decide +kernel
def F_X6_tourOf (hs : Int32) (fk : Int32) (f : (Nat → Int32)) (it : Int32) (iw : Int32) : Option String × Int32 := (if (F_X6_needTour hs fk f it) = none then (if (F_X6_needRange iw (0 : Int32) (8 : Int32)) = none then (none, (F_X0_get f (F_X6_ofTour it iw))) else ((F_X6_needRange iw (0 : Int32) (8 : Int32)), (0 : Int32))) else ((F_X6_needTour hs fk f it), (0 : Int32)))
set_option maxHeartbeats 4000000 in
set_option maxRecDepth 100000 in
theorem c_X6_tourOf {l : Launch} {D : va_G} {k : tyK} (o t b t2 j h bt sn x ll r : Nat) (hs : Int32) (fk : Int32) (f : (Nat → Int32)) (it : Int32) (iw : Int32) (hlst : l.stackTraces = false) : FOi l yX6_tourOf wsX6_tourOf rm_X6_tourOf D k [.ref o, .int it, .int iw] [(o, .inr (10, [.ref t, .ref b, .ref t2, .ref j, .ref h, .ref bt, .ref sn, .int hs, .ref x, .ref ll, .int fk])), (b, .inr (4, [.ref r])), (r, .inl (k.1, 628, .inl f))] (F_X6_tourOf hs fk f it iw).1 (F_X6_tourOf hs fk f it iw).2 [(o, .inr (10, [.ref t, .ref b, .ref t2, .ref j, .ref h, .ref bt, .ref sn, .int hs, .ref x, .ref ll, .int fk])), (b, .inr (4, [.ref r])), (r, .inl (k.1, 628, .inl f))] := by
  refine fo_start (cc := cX6_tourOf) (maxL := 3) (ret := (some .int)) (own := RX6) (Qc := fun A => va_Qi (fun r (_ : Unit) => (F_X6_tourOf hs fk f it iw).1 = none ∧ r = (F_X6_tourOf hs fk f it iw).2) (Bt D (fun _ => [(o, .inr (10, [.ref t, .ref b, .ref t2, .ref j, .ref h, .ref bt, .ref sn, .int hs, .ref x, .ref ll, .int fk])), (b, .inr (4, [.ref r])), (r, .inl (k.1, 628, .inl f))]) A) A) (XC := fun A => XB D (F_X6_tourOf hs fk f it iw).1 [(o, .inr (10, [.ref t, .ref b, .ref t2, .ref j, .ref h, .ref bt, .ref sn, .int hs, .ref x, .ref ll, .int fk])), (b, .inr (4, [.ref r])), (r, .inl (k.1, 628, .inl f))] A) (by decide) rfl rfl (Nat.le_of_ble_eq_true rfl) ?_
  intro p e s m below meth c A H hx hb hml hr hts hown hlk hout hA hP hE hD hS ls hl
  obtain ⟨RES, hF⟩ : ∃ z, (F_X6_tourOf hs fk f it iw) = z := ⟨_, rfl⟩
  rw [hF]
  unfold F_X6_tourOf at hF
  have hl : lv_has ls 3 [(0, .ref o), (1, .int it), (2, .int iw)] := hl
  obtain ⟨locs, hlocs⟩ : ∃ z : List Loc, z = [] := ⟨_, rfl⟩
  rw [← hlocs] at hS ⊢
  refine lv_aload_n hx hb dX6_tourOf_0 rfl (lv_at hl 0 rfl) ?_
  refine lv_iload_n hx hb dX6_tourOf_1 rfl (lv_at hl 1 rfl) ?_
  refine fo_cv (isC := [0, 1, 2]) (cells' := 1) (slots' := 6) (fo_runV (n := 1) (As := [.int it]) (rest := []) (isC := [0, 1, 2]) (maxL := 2) ⟨hx, hb, hml, hown, hts⟩ (c_X6_needTour o t b t2 j h bt sn x ll r hs fk f it hlst H.size) gX6_tourOf_X6_needTour rfl (by decide +kernel) rfl ⟨Nat.le_of_ble_eq_true rfl, Nat.le_of_ble_eq_true rfl⟩ ⟨Nat.le_of_ble_eq_true rfl, Nat.le_of_ble_eq_true rfl⟩ hE hP hD hS hA rfl rfl (va_recv hE.1 hP (ci := 10) (q0 := 0) rfl rfl) hl rfl (Nat.le_of_ble_eq_true rfl) dX6_tourOf_2) hP hD hS hA rfl rfl rfl rfl (fun E ce q9 H locs x_2 hP hD hS g1 g2 g3 => ?_) (fun H locs x_2 hP hD hS => ?_)
  · rw [if_neg (by rw [x_2]; exact fun z => nomatch z)] at hF
    dsimp only [fs, List.set] at hP hD
    have hP : va_P D vwCl [(o, .inr (10, [.ref t, .ref b, .ref t2, .ref j, .ref h, .ref bt, .ref sn, .int hs, .ref x, .ref ll, .int fk])), (b, .inr (4, [.ref r])), (r, .inl (k.1, 628, .inl f))] H := hP
    have hD : va_D A [(o, .inr (10, [.ref t, .ref b, .ref t2, .ref j, .ref h, .ref bt, .ref sn, .int hs, .ref x, .ref ll, .int fk])), (b, .inr (4, [.ref r])), (r, .inl (k.1, 628, .inl f))] := hD
    subst hF
    exact fo_out hout hlk g1 g2 g3 hS x_2 hP hD (by decide) (by decide)
  rw [if_pos x_2] at hF
  dsimp only [fs, List.set] at hP hD
  have hP : va_P D vwCl [(o, .inr (10, [.ref t, .ref b, .ref t2, .ref j, .ref h, .ref bt, .ref sn, .int hs, .ref x, .ref ll, .int fk])), (b, .inr (4, [.ref r])), (r, .inl (k.1, 628, .inl f))] H := hP
  have hD : va_D A [(o, .inr (10, [.ref t, .ref b, .ref t2, .ref j, .ref h, .ref bt, .ref sn, .int hs, .ref x, .ref ll, .int fk])), (b, .inr (4, [.ref r])), (r, .inl (k.1, 628, .inl f))] := hD
  refine lv_iload_n hx hb dX6_tourOf_5 rfl (lv_at hl 2 rfl) ?_
  refine lv_iconst (v := 0) hx hb dX6_tourOf_6 (by decide) ?_
  refine lv_bipush (v := 8) hx hb dX6_tourOf_7 (by decide) ?_
  refine fo_cv (isC := []) (cells' := 2) (slots' := 12) (fo_runS (n := 3) (As := [.int iw, .int (0 : Int32), .int (8 : Int32)]) (rest := []) (isC := []) (maxL := 3) ⟨hx, hb, hml, hown, hts⟩ (c_X6_needRange iw (0 : Int32) (8 : Int32) hlst H.size) gX6_tourOf_X6_needRange rfl (by decide +kernel) rfl ⟨Nat.le_of_ble_eq_true rfl, Nat.le_of_ble_eq_true rfl⟩ ⟨Nat.le_of_ble_eq_true rfl, Nat.le_of_ble_eq_true rfl⟩ hE hP hD hS hA rfl rfl hl rfl (Nat.le_of_ble_eq_true rfl) dX6_tourOf_9) hP hD hS hA rfl rfl rfl rfl (fun E ce q9 H locs x_4 hP hD hS g1 g2 g3 => ?_) (fun H locs x_4 hP hD hS => ?_)
  · rw [if_neg (by rw [x_4]; exact fun z => nomatch z)] at hF
    dsimp only [fs, List.set] at hP hD
    have hP : va_P D vwCl [(o, .inr (10, [.ref t, .ref b, .ref t2, .ref j, .ref h, .ref bt, .ref sn, .int hs, .ref x, .ref ll, .int fk])), (b, .inr (4, [.ref r])), (r, .inl (k.1, 628, .inl f))] H := hP
    have hD : va_D A [(o, .inr (10, [.ref t, .ref b, .ref t2, .ref j, .ref h, .ref bt, .ref sn, .int hs, .ref x, .ref ll, .int fk])), (b, .inr (4, [.ref r])), (r, .inl (k.1, 628, .inl f))] := hD
    subst hF
    exact fo_out hout hlk g1 g2 g3 hS x_4 hP hD (by decide) (by decide)
  rw [if_pos x_4] at hF
  dsimp only [fs, List.set] at hP hD
  have hP : va_P D vwCl [(o, .inr (10, [.ref t, .ref b, .ref t2, .ref j, .ref h, .ref bt, .ref sn, .int hs, .ref x, .ref ll, .int fk])), (b, .inr (4, [.ref r])), (r, .inl (k.1, 628, .inl f))] H := hP
  have hD : va_D A [(o, .inr (10, [.ref t, .ref b, .ref t2, .ref j, .ref h, .ref bt, .ref sn, .int hs, .ref x, .ref ll, .int fk])), (b, .inr (4, [.ref r])), (r, .inl (k.1, 628, .inl f))] := hD
  refine lv_aload_n hx hb dX6_tourOf_12 rfl (lv_at hl 0 rfl) ?_
  refine va_get (D := D) (ci := 10) (v := .ref b) (C := RX6) (T := TX6) (N := 11) hx hb hts in_X6_tourOf_X6 hown hE.1 hP 0 rfl rfl 1 (by decide) (hts _ lk_X6_tourOf_20) (fun _ h9 => h9) rfl dX6_tourOf_13 ?_
  refine lv_iload_n hx hb dX6_tourOf_16 rfl (lv_at hl 1 rfl) ?_
  refine lv_iload_n hx hb dX6_tourOf_17 rfl (lv_at hl 2 rfl) ?_
  refine fc_ci (isC := []) (cells' := 2) (slots' := 12) (fc_runS (n := 2) (As := [.int it, .int iw]) (rest := [.ref b]) (isC := []) (maxL := 2) ⟨hx, hb, hml, hown, hts⟩ (c_X6_ofTour it iw H.size) gX6_tourOf_X6_ofTour rfl (by decide +kernel) rfl ⟨Nat.le_of_ble_eq_true rfl, Nat.le_of_ble_eq_true rfl⟩ ⟨Nat.le_of_ble_eq_true rfl, Nat.le_of_ble_eq_true rfl⟩ hE hP hD hS hA rfl rfl hl rfl (Nat.le_of_ble_eq_true rfl) dX6_tourOf_18) hP hD hS hA rfl (fun _ => rfl) rfl rfl (fun r_5 _ H locs hr_5 hP hD hS => ?_)
  obtain rfl : (F_X6_ofTour it iw) = r_5 := hr_5.symm
  dsimp only [fs, List.set] at hP hD
  have hP : va_P D vwCl [(o, .inr (10, [.ref t, .ref b, .ref t2, .ref j, .ref h, .ref bt, .ref sn, .int hs, .ref x, .ref ll, .int fk])), (b, .inr (4, [.ref r])), (r, .inl (k.1, 628, .inl f))] H := hP
  have hD : va_D A [(o, .inr (10, [.ref t, .ref b, .ref t2, .ref j, .ref h, .ref bt, .ref sn, .int hs, .ref x, .ref ll, .int fk])), (b, .inr (4, [.ref r])), (r, .inl (k.1, 628, .inl f))] := hD
  refine fc_ci (isC := [1, 2]) (cells' := 2) (slots' := 12) (fc_runV (n := 1) (As := [.int (F_X6_ofTour it iw)]) (rest := []) (isC := [1, 2]) (maxL := 2) ⟨hx, hb, hml, hown, hts⟩ (c_X0_get b r f (F_X6_ofTour it iw) H.size) gX6_tourOf_X0_get rfl (by decide +kernel) rfl ⟨Nat.le_of_ble_eq_true rfl, Nat.le_of_ble_eq_true rfl⟩ ⟨Nat.le_of_ble_eq_true rfl, Nat.le_of_ble_eq_true rfl⟩ hE hP hD hS hA rfl rfl (va_recv hE.1 hP (ci := 4) (q0 := 1) rfl rfl) hl rfl (Nat.le_of_ble_eq_true rfl) dX6_tourOf_21) hP hD hS hA rfl (fun _ => rfl) rfl rfl (fun r_6 _ H locs hr_6 hP hD hS => ?_)
  obtain rfl : (F_X0_get f (F_X6_ofTour it iw)) = r_6 := hr_6.symm
  dsimp only [fs, List.set] at hP hD
  have hP : va_P D vwCl [(o, .inr (10, [.ref t, .ref b, .ref t2, .ref j, .ref h, .ref bt, .ref sn, .int hs, .ref x, .ref ll, .int fk])), (b, .inr (4, [.ref r])), (r, .inl (k.1, 628, .inl f))] H := hP
  have hD : va_D A [(o, .inr (10, [.ref t, .ref b, .ref t2, .ref j, .ref h, .ref bt, .ref sn, .int hs, .ref x, .ref ll, .int fk])), (b, .inr (4, [.ref r])), (r, .inl (k.1, 628, .inl f))] := hD
  subst hF
  exact fo_iret hx hb hr rfl hlk hS rfl rfl hP hD (by decide) (by decide) dX6_tourOf_24

abbrev rm_X6_stepOf : Room := { frames := 8, cells := 3, slots := 18, locals := 138 }
theorem in_X6_stepOf_X6 : ∀ w ∈ wsX60, w ∈ wsX6_stepOf := by decide +kernel
theorem lk_X6_stepOf_20 : (Cond.fieldLink RX6 20 "TheatreSaga" "books" "LTheatreSaga$Books;") ∈ wsX6_stepOf := by decide +kernel
def F_X6_stepOf (hs : Int32) (fk : Int32) (f : (Nat → Int32)) (it : Int32) (is : Int32) (iw : Int32) : Option String × Int32 := (if (F_X6_needTour hs fk f it) = none then (if (F_X6_needBelow is (F_X0_get f (F_X6_ofTour it (2 : Int32)))) = none then (if (F_X6_needRange iw (0 : Int32) (4 : Int32)) = none then (none, (F_X0_get f (F_X6_ofStep it is iw))) else ((F_X6_needRange iw (0 : Int32) (4 : Int32)), (0 : Int32))) else ((F_X6_needBelow is (F_X0_get f (F_X6_ofTour it (2 : Int32)))), (0 : Int32))) else ((F_X6_needTour hs fk f it), (0 : Int32)))
set_option maxHeartbeats 4000000 in
set_option maxRecDepth 100000 in
theorem c_X6_stepOf {l : Launch} {D : va_G} {k : tyK} (o t b t2 j h bt sn x ll r : Nat) (hs : Int32) (fk : Int32) (f : (Nat → Int32)) (it : Int32) (is : Int32) (iw : Int32) (hlst : l.stackTraces = false) : FOi l yX6_stepOf wsX6_stepOf rm_X6_stepOf D k [.ref o, .int it, .int is, .int iw] [(o, .inr (10, [.ref t, .ref b, .ref t2, .ref j, .ref h, .ref bt, .ref sn, .int hs, .ref x, .ref ll, .int fk])), (b, .inr (4, [.ref r])), (r, .inl (k.1, 628, .inl f))] (F_X6_stepOf hs fk f it is iw).1 (F_X6_stepOf hs fk f it is iw).2 [(o, .inr (10, [.ref t, .ref b, .ref t2, .ref j, .ref h, .ref bt, .ref sn, .int hs, .ref x, .ref ll, .int fk])), (b, .inr (4, [.ref r])), (r, .inl (k.1, 628, .inl f))] := by
  refine fo_start (cc := cX6_stepOf) (maxL := 4) (ret := (some .int)) (own := RX6) (Qc := fun A => va_Qi (fun r (_ : Unit) => (F_X6_stepOf hs fk f it is iw).1 = none ∧ r = (F_X6_stepOf hs fk f it is iw).2) (Bt D (fun _ => [(o, .inr (10, [.ref t, .ref b, .ref t2, .ref j, .ref h, .ref bt, .ref sn, .int hs, .ref x, .ref ll, .int fk])), (b, .inr (4, [.ref r])), (r, .inl (k.1, 628, .inl f))]) A) A) (XC := fun A => XB D (F_X6_stepOf hs fk f it is iw).1 [(o, .inr (10, [.ref t, .ref b, .ref t2, .ref j, .ref h, .ref bt, .ref sn, .int hs, .ref x, .ref ll, .int fk])), (b, .inr (4, [.ref r])), (r, .inl (k.1, 628, .inl f))] A) (by decide) rfl rfl (Nat.le_of_ble_eq_true rfl) ?_
  intro p e s m below meth c A H hx hb hml hr hts hown hlk hout hA hP hE hD hS ls hl
  obtain ⟨RES, hF⟩ : ∃ z, (F_X6_stepOf hs fk f it is iw) = z := ⟨_, rfl⟩
  rw [hF]
  unfold F_X6_stepOf at hF
  have hl : lv_has ls 4 [(0, .ref o), (1, .int it), (2, .int is), (3, .int iw)] := hl
  obtain ⟨locs, hlocs⟩ : ∃ z : List Loc, z = [] := ⟨_, rfl⟩
  rw [← hlocs] at hS ⊢
  refine lv_aload_n hx hb dX6_stepOf_0 rfl (lv_at hl 0 rfl) ?_
  refine lv_iload_n hx hb dX6_stepOf_1 rfl (lv_at hl 1 rfl) ?_
  refine fo_cv (isC := [0, 1, 2]) (cells' := 1) (slots' := 6) (fo_runV (n := 1) (As := [.int it]) (rest := []) (isC := [0, 1, 2]) (maxL := 2) ⟨hx, hb, hml, hown, hts⟩ (c_X6_needTour o t b t2 j h bt sn x ll r hs fk f it hlst H.size) gX6_stepOf_X6_needTour rfl (by decide +kernel) rfl ⟨Nat.le_of_ble_eq_true rfl, Nat.le_of_ble_eq_true rfl⟩ ⟨Nat.le_of_ble_eq_true rfl, Nat.le_of_ble_eq_true rfl⟩ hE hP hD hS hA rfl rfl (va_recv hE.1 hP (ci := 10) (q0 := 0) rfl rfl) hl rfl (Nat.le_of_ble_eq_true rfl) dX6_stepOf_2) hP hD hS hA rfl rfl rfl rfl (fun E ce q9 H locs x_2 hP hD hS g1 g2 g3 => ?_) (fun H locs x_2 hP hD hS => ?_)
  · rw [if_neg (by rw [x_2]; exact fun z => nomatch z)] at hF
    dsimp only [fs, List.set] at hP hD
    have hP : va_P D vwCl [(o, .inr (10, [.ref t, .ref b, .ref t2, .ref j, .ref h, .ref bt, .ref sn, .int hs, .ref x, .ref ll, .int fk])), (b, .inr (4, [.ref r])), (r, .inl (k.1, 628, .inl f))] H := hP
    have hD : va_D A [(o, .inr (10, [.ref t, .ref b, .ref t2, .ref j, .ref h, .ref bt, .ref sn, .int hs, .ref x, .ref ll, .int fk])), (b, .inr (4, [.ref r])), (r, .inl (k.1, 628, .inl f))] := hD
    subst hF
    exact fo_out hout hlk g1 g2 g3 hS x_2 hP hD (by decide) (by decide)
  rw [if_pos x_2] at hF
  dsimp only [fs, List.set] at hP hD
  have hP : va_P D vwCl [(o, .inr (10, [.ref t, .ref b, .ref t2, .ref j, .ref h, .ref bt, .ref sn, .int hs, .ref x, .ref ll, .int fk])), (b, .inr (4, [.ref r])), (r, .inl (k.1, 628, .inl f))] H := hP
  have hD : va_D A [(o, .inr (10, [.ref t, .ref b, .ref t2, .ref j, .ref h, .ref bt, .ref sn, .int hs, .ref x, .ref ll, .int fk])), (b, .inr (4, [.ref r])), (r, .inl (k.1, 628, .inl f))] := hD
  refine lv_iload_n hx hb dX6_stepOf_5 rfl (lv_at hl 2 rfl) ?_
  refine lv_aload_n hx hb dX6_stepOf_6 rfl (lv_at hl 0 rfl) ?_
  refine va_get (D := D) (ci := 10) (v := .ref b) (C := RX6) (T := TX6) (N := 11) hx hb hts in_X6_stepOf_X6 hown hE.1 hP 0 rfl rfl 1 (by decide) (hts _ lk_X6_stepOf_20) (fun _ h9 => h9) rfl dX6_stepOf_7 ?_
  refine lv_iload_n hx hb dX6_stepOf_10 rfl (lv_at hl 1 rfl) ?_
  refine lv_iconst (v := 2) hx hb dX6_stepOf_11 (by decide) ?_
  refine fc_ci (isC := []) (cells' := 1) (slots' := 6) (fc_runS (n := 2) (As := [.int it, .int (2 : Int32)]) (rest := [.ref b, .int is]) (isC := []) (maxL := 2) ⟨hx, hb, hml, hown, hts⟩ (c_X6_ofTour it (2 : Int32) H.size) gX6_stepOf_X6_ofTour rfl (by decide +kernel) rfl ⟨Nat.le_of_ble_eq_true rfl, Nat.le_of_ble_eq_true rfl⟩ ⟨Nat.le_of_ble_eq_true rfl, Nat.le_of_ble_eq_true rfl⟩ hE hP hD hS hA rfl rfl hl rfl (Nat.le_of_ble_eq_true rfl) dX6_stepOf_12) hP hD hS hA rfl (fun _ => rfl) rfl rfl (fun r_3 _ H locs hr_3 hP hD hS => ?_)
  obtain rfl : (F_X6_ofTour it (2 : Int32)) = r_3 := hr_3.symm
  dsimp only [fs, List.set] at hP hD
  have hP : va_P D vwCl [(o, .inr (10, [.ref t, .ref b, .ref t2, .ref j, .ref h, .ref bt, .ref sn, .int hs, .ref x, .ref ll, .int fk])), (b, .inr (4, [.ref r])), (r, .inl (k.1, 628, .inl f))] H := hP
  have hD : va_D A [(o, .inr (10, [.ref t, .ref b, .ref t2, .ref j, .ref h, .ref bt, .ref sn, .int hs, .ref x, .ref ll, .int fk])), (b, .inr (4, [.ref r])), (r, .inl (k.1, 628, .inl f))] := hD
  refine fc_ci (isC := [1, 2]) (cells' := 1) (slots' := 6) (fc_runV (n := 1) (As := [.int (F_X6_ofTour it (2 : Int32))]) (rest := [.int is]) (isC := [1, 2]) (maxL := 2) ⟨hx, hb, hml, hown, hts⟩ (c_X0_get b r f (F_X6_ofTour it (2 : Int32)) H.size) gX6_stepOf_X0_get rfl (by decide +kernel) rfl ⟨Nat.le_of_ble_eq_true rfl, Nat.le_of_ble_eq_true rfl⟩ ⟨Nat.le_of_ble_eq_true rfl, Nat.le_of_ble_eq_true rfl⟩ hE hP hD hS hA rfl rfl (va_recv hE.1 hP (ci := 4) (q0 := 1) rfl rfl) hl rfl (Nat.le_of_ble_eq_true rfl) dX6_stepOf_15) hP hD hS hA rfl (fun _ => rfl) rfl rfl (fun r_4 _ H locs hr_4 hP hD hS => ?_)
  obtain rfl : (F_X0_get f (F_X6_ofTour it (2 : Int32))) = r_4 := hr_4.symm
  dsimp only [fs, List.set] at hP hD
  have hP : va_P D vwCl [(o, .inr (10, [.ref t, .ref b, .ref t2, .ref j, .ref h, .ref bt, .ref sn, .int hs, .ref x, .ref ll, .int fk])), (b, .inr (4, [.ref r])), (r, .inl (k.1, 628, .inl f))] H := hP
  have hD : va_D A [(o, .inr (10, [.ref t, .ref b, .ref t2, .ref j, .ref h, .ref bt, .ref sn, .int hs, .ref x, .ref ll, .int fk])), (b, .inr (4, [.ref r])), (r, .inl (k.1, 628, .inl f))] := hD
  refine fo_cv (isC := []) (cells' := 2) (slots' := 12) (fo_runS (n := 2) (As := [.int is, .int (F_X0_get f (F_X6_ofTour it (2 : Int32)))]) (rest := []) (isC := []) (maxL := 2) ⟨hx, hb, hml, hown, hts⟩ (c_X6_needBelow is (F_X0_get f (F_X6_ofTour it (2 : Int32))) hlst H.size) gX6_stepOf_X6_needBelow rfl (by decide +kernel) rfl ⟨Nat.le_of_ble_eq_true rfl, Nat.le_of_ble_eq_true rfl⟩ ⟨Nat.le_of_ble_eq_true rfl, Nat.le_of_ble_eq_true rfl⟩ hE hP hD hS hA rfl rfl hl rfl (Nat.le_of_ble_eq_true rfl) dX6_stepOf_18) hP hD hS hA rfl rfl rfl rfl (fun E ce q9 H locs x_6 hP hD hS g1 g2 g3 => ?_) (fun H locs x_6 hP hD hS => ?_)
  · rw [if_neg (by rw [x_6]; exact fun z => nomatch z)] at hF
    dsimp only [fs, List.set] at hP hD
    have hP : va_P D vwCl [(o, .inr (10, [.ref t, .ref b, .ref t2, .ref j, .ref h, .ref bt, .ref sn, .int hs, .ref x, .ref ll, .int fk])), (b, .inr (4, [.ref r])), (r, .inl (k.1, 628, .inl f))] H := hP
    have hD : va_D A [(o, .inr (10, [.ref t, .ref b, .ref t2, .ref j, .ref h, .ref bt, .ref sn, .int hs, .ref x, .ref ll, .int fk])), (b, .inr (4, [.ref r])), (r, .inl (k.1, 628, .inl f))] := hD
    subst hF
    exact fo_out hout hlk g1 g2 g3 hS x_6 hP hD (by decide) (by decide)
  rw [if_pos x_6] at hF
  dsimp only [fs, List.set] at hP hD
  have hP : va_P D vwCl [(o, .inr (10, [.ref t, .ref b, .ref t2, .ref j, .ref h, .ref bt, .ref sn, .int hs, .ref x, .ref ll, .int fk])), (b, .inr (4, [.ref r])), (r, .inl (k.1, 628, .inl f))] H := hP
  have hD : va_D A [(o, .inr (10, [.ref t, .ref b, .ref t2, .ref j, .ref h, .ref bt, .ref sn, .int hs, .ref x, .ref ll, .int fk])), (b, .inr (4, [.ref r])), (r, .inl (k.1, 628, .inl f))] := hD
  refine lv_iload_n hx hb dX6_stepOf_21 rfl (lv_at hl 3 rfl) ?_
  refine lv_iconst (v := 0) hx hb dX6_stepOf_22 (by decide) ?_
  refine lv_iconst (v := 4) hx hb dX6_stepOf_23 (by decide) ?_
  refine fo_cv (isC := []) (cells' := 3) (slots' := 18) (fo_runS (n := 3) (As := [.int iw, .int (0 : Int32), .int (4 : Int32)]) (rest := []) (isC := []) (maxL := 3) ⟨hx, hb, hml, hown, hts⟩ (c_X6_needRange iw (0 : Int32) (4 : Int32) hlst H.size) gX6_stepOf_X6_needRange rfl (by decide +kernel) rfl ⟨Nat.le_of_ble_eq_true rfl, Nat.le_of_ble_eq_true rfl⟩ ⟨Nat.le_of_ble_eq_true rfl, Nat.le_of_ble_eq_true rfl⟩ hE hP hD hS hA rfl rfl hl rfl (Nat.le_of_ble_eq_true rfl) dX6_stepOf_24) hP hD hS hA rfl rfl rfl rfl (fun E ce q9 H locs x_8 hP hD hS g1 g2 g3 => ?_) (fun H locs x_8 hP hD hS => ?_)
  · rw [if_neg (by rw [x_8]; exact fun z => nomatch z)] at hF
    dsimp only [fs, List.set] at hP hD
    have hP : va_P D vwCl [(o, .inr (10, [.ref t, .ref b, .ref t2, .ref j, .ref h, .ref bt, .ref sn, .int hs, .ref x, .ref ll, .int fk])), (b, .inr (4, [.ref r])), (r, .inl (k.1, 628, .inl f))] H := hP
    have hD : va_D A [(o, .inr (10, [.ref t, .ref b, .ref t2, .ref j, .ref h, .ref bt, .ref sn, .int hs, .ref x, .ref ll, .int fk])), (b, .inr (4, [.ref r])), (r, .inl (k.1, 628, .inl f))] := hD
    subst hF
    exact fo_out hout hlk g1 g2 g3 hS x_8 hP hD (by decide) (by decide)
  rw [if_pos x_8] at hF
  dsimp only [fs, List.set] at hP hD
  have hP : va_P D vwCl [(o, .inr (10, [.ref t, .ref b, .ref t2, .ref j, .ref h, .ref bt, .ref sn, .int hs, .ref x, .ref ll, .int fk])), (b, .inr (4, [.ref r])), (r, .inl (k.1, 628, .inl f))] H := hP
  have hD : va_D A [(o, .inr (10, [.ref t, .ref b, .ref t2, .ref j, .ref h, .ref bt, .ref sn, .int hs, .ref x, .ref ll, .int fk])), (b, .inr (4, [.ref r])), (r, .inl (k.1, 628, .inl f))] := hD
  refine lv_aload_n hx hb dX6_stepOf_27 rfl (lv_at hl 0 rfl) ?_
  refine va_get (D := D) (ci := 10) (v := .ref b) (C := RX6) (T := TX6) (N := 11) hx hb hts in_X6_stepOf_X6 hown hE.1 hP 0 rfl rfl 1 (by decide) (hts _ lk_X6_stepOf_20) (fun _ h9 => h9) rfl dX6_stepOf_28 ?_
  refine lv_iload_n hx hb dX6_stepOf_31 rfl (lv_at hl 1 rfl) ?_
  refine lv_iload_n hx hb dX6_stepOf_32 rfl (lv_at hl 2 rfl) ?_
  refine lv_iload_n hx hb dX6_stepOf_33 rfl (lv_at hl 3 rfl) ?_
  refine fc_ci (isC := []) (cells' := 3) (slots' := 18) (fc_runS (n := 3) (As := [.int it, .int is, .int iw]) (rest := [.ref b]) (isC := []) (maxL := 3) ⟨hx, hb, hml, hown, hts⟩ (c_X6_ofStep it is iw H.size) gX6_stepOf_X6_ofStep rfl (by decide +kernel) rfl ⟨Nat.le_of_ble_eq_true rfl, Nat.le_of_ble_eq_true rfl⟩ ⟨Nat.le_of_ble_eq_true rfl, Nat.le_of_ble_eq_true rfl⟩ hE hP hD hS hA rfl rfl hl rfl (Nat.le_of_ble_eq_true rfl) dX6_stepOf_34) hP hD hS hA rfl (fun _ => rfl) rfl rfl (fun r_9 _ H locs hr_9 hP hD hS => ?_)
  obtain rfl : (F_X6_ofStep it is iw) = r_9 := hr_9.symm
  dsimp only [fs, List.set] at hP hD
  have hP : va_P D vwCl [(o, .inr (10, [.ref t, .ref b, .ref t2, .ref j, .ref h, .ref bt, .ref sn, .int hs, .ref x, .ref ll, .int fk])), (b, .inr (4, [.ref r])), (r, .inl (k.1, 628, .inl f))] H := hP
  have hD : va_D A [(o, .inr (10, [.ref t, .ref b, .ref t2, .ref j, .ref h, .ref bt, .ref sn, .int hs, .ref x, .ref ll, .int fk])), (b, .inr (4, [.ref r])), (r, .inl (k.1, 628, .inl f))] := hD
  refine fc_ci (isC := [1, 2]) (cells' := 3) (slots' := 18) (fc_runV (n := 1) (As := [.int (F_X6_ofStep it is iw)]) (rest := []) (isC := [1, 2]) (maxL := 2) ⟨hx, hb, hml, hown, hts⟩ (c_X0_get b r f (F_X6_ofStep it is iw) H.size) gX6_stepOf_X0_get rfl (by decide +kernel) rfl ⟨Nat.le_of_ble_eq_true rfl, Nat.le_of_ble_eq_true rfl⟩ ⟨Nat.le_of_ble_eq_true rfl, Nat.le_of_ble_eq_true rfl⟩ hE hP hD hS hA rfl rfl (va_recv hE.1 hP (ci := 4) (q0 := 1) rfl rfl) hl rfl (Nat.le_of_ble_eq_true rfl) dX6_stepOf_37) hP hD hS hA rfl (fun _ => rfl) rfl rfl (fun r_10 _ H locs hr_10 hP hD hS => ?_)
  obtain rfl : (F_X0_get f (F_X6_ofStep it is iw)) = r_10 := hr_10.symm
  dsimp only [fs, List.set] at hP hD
  have hP : va_P D vwCl [(o, .inr (10, [.ref t, .ref b, .ref t2, .ref j, .ref h, .ref bt, .ref sn, .int hs, .ref x, .ref ll, .int fk])), (b, .inr (4, [.ref r])), (r, .inl (k.1, 628, .inl f))] H := hP
  have hD : va_D A [(o, .inr (10, [.ref t, .ref b, .ref t2, .ref j, .ref h, .ref bt, .ref sn, .int hs, .ref x, .ref ll, .int fk])), (b, .inr (4, [.ref r])), (r, .inl (k.1, 628, .inl f))] := hD
  subst hF
  exact fo_iret hx hb hr rfl hlk hS rfl rfl hP hD (by decide) (by decide) dX6_stepOf_40

abbrev rm_X6_townOf : Room := { frames := 7, cells := 2, slots := 12, locals := 118 }
theorem in_X6_townOf_X6 : ∀ w ∈ wsX60, w ∈ wsX6_townOf := by decide +kernel
theorem lk_X6_townOf_20 : (Cond.fieldLink RX6 20 "TheatreSaga" "books" "LTheatreSaga$Books;") ∈ wsX6_townOf := by decide +kernel
def F_X6_townOf (hs : Int32) (fk : Int32) (f : (Nat → Int32)) (iw : Int32) (ix : Int32) : Option String × Int32 := (if (F_X6_needBelow iw (5 : Int32)) = none then (if (F_X6_needRange ix (0 : Int32) (3 : Int32)) = none then (none, (F_X0_get f (F_X6_ofTown iw ix))) else ((F_X6_needRange ix (0 : Int32) (3 : Int32)), (0 : Int32))) else ((F_X6_needBelow iw (5 : Int32)), (0 : Int32)))
set_option maxHeartbeats 4000000 in
set_option maxRecDepth 100000 in
theorem c_X6_townOf {l : Launch} {D : va_G} {k : tyK} (o t b t2 j h bt sn x ll r : Nat) (hs : Int32) (fk : Int32) (f : (Nat → Int32)) (iw : Int32) (ix : Int32) (hlst : l.stackTraces = false) : FOi l yX6_townOf wsX6_townOf rm_X6_townOf D k [.ref o, .int iw, .int ix] [(o, .inr (10, [.ref t, .ref b, .ref t2, .ref j, .ref h, .ref bt, .ref sn, .int hs, .ref x, .ref ll, .int fk])), (b, .inr (4, [.ref r])), (r, .inl (k.1, 628, .inl f))] (F_X6_townOf hs fk f iw ix).1 (F_X6_townOf hs fk f iw ix).2 [(o, .inr (10, [.ref t, .ref b, .ref t2, .ref j, .ref h, .ref bt, .ref sn, .int hs, .ref x, .ref ll, .int fk])), (b, .inr (4, [.ref r])), (r, .inl (k.1, 628, .inl f))] := by
  refine fo_start (cc := cX6_townOf) (maxL := 3) (ret := (some .int)) (own := RX6) (Qc := fun A => va_Qi (fun r (_ : Unit) => (F_X6_townOf hs fk f iw ix).1 = none ∧ r = (F_X6_townOf hs fk f iw ix).2) (Bt D (fun _ => [(o, .inr (10, [.ref t, .ref b, .ref t2, .ref j, .ref h, .ref bt, .ref sn, .int hs, .ref x, .ref ll, .int fk])), (b, .inr (4, [.ref r])), (r, .inl (k.1, 628, .inl f))]) A) A) (XC := fun A => XB D (F_X6_townOf hs fk f iw ix).1 [(o, .inr (10, [.ref t, .ref b, .ref t2, .ref j, .ref h, .ref bt, .ref sn, .int hs, .ref x, .ref ll, .int fk])), (b, .inr (4, [.ref r])), (r, .inl (k.1, 628, .inl f))] A) (by decide) rfl rfl (Nat.le_of_ble_eq_true rfl) ?_
  intro p e s m below meth c A H hx hb hml hr hts hown hlk hout hA hP hE hD hS ls hl
  obtain ⟨RES, hF⟩ : ∃ z, (F_X6_townOf hs fk f iw ix) = z := ⟨_, rfl⟩
  rw [hF]
  unfold F_X6_townOf at hF
  have hl : lv_has ls 3 [(0, .ref o), (1, .int iw), (2, .int ix)] := hl
  obtain ⟨locs, hlocs⟩ : ∃ z : List Loc, z = [] := ⟨_, rfl⟩
  rw [← hlocs] at hS ⊢
  refine lv_iload_n hx hb dX6_townOf_0 rfl (lv_at hl 1 rfl) ?_
  refine lv_iconst (v := 5) hx hb dX6_townOf_1 (by decide) ?_
  refine fo_cv (isC := []) (cells' := 1) (slots' := 6) (fo_runS (n := 2) (As := [.int iw, .int (5 : Int32)]) (rest := []) (isC := []) (maxL := 2) ⟨hx, hb, hml, hown, hts⟩ (c_X6_needBelow iw (5 : Int32) hlst H.size) gX6_townOf_X6_needBelow rfl (by decide +kernel) rfl ⟨Nat.le_of_ble_eq_true rfl, Nat.le_of_ble_eq_true rfl⟩ ⟨Nat.le_of_ble_eq_true rfl, Nat.le_of_ble_eq_true rfl⟩ hE hP hD hS hA rfl rfl hl rfl (Nat.le_of_ble_eq_true rfl) dX6_townOf_2) hP hD hS hA rfl rfl rfl rfl (fun E ce q9 H locs x_2 hP hD hS g1 g2 g3 => ?_) (fun H locs x_2 hP hD hS => ?_)
  · rw [if_neg (by rw [x_2]; exact fun z => nomatch z)] at hF
    dsimp only [fs, List.set] at hP hD
    have hP : va_P D vwCl [(o, .inr (10, [.ref t, .ref b, .ref t2, .ref j, .ref h, .ref bt, .ref sn, .int hs, .ref x, .ref ll, .int fk])), (b, .inr (4, [.ref r])), (r, .inl (k.1, 628, .inl f))] H := hP
    have hD : va_D A [(o, .inr (10, [.ref t, .ref b, .ref t2, .ref j, .ref h, .ref bt, .ref sn, .int hs, .ref x, .ref ll, .int fk])), (b, .inr (4, [.ref r])), (r, .inl (k.1, 628, .inl f))] := hD
    subst hF
    exact fo_out hout hlk g1 g2 g3 hS x_2 hP hD (by decide) (by decide)
  rw [if_pos x_2] at hF
  dsimp only [fs, List.set] at hP hD
  have hP : va_P D vwCl [(o, .inr (10, [.ref t, .ref b, .ref t2, .ref j, .ref h, .ref bt, .ref sn, .int hs, .ref x, .ref ll, .int fk])), (b, .inr (4, [.ref r])), (r, .inl (k.1, 628, .inl f))] H := hP
  have hD : va_D A [(o, .inr (10, [.ref t, .ref b, .ref t2, .ref j, .ref h, .ref bt, .ref sn, .int hs, .ref x, .ref ll, .int fk])), (b, .inr (4, [.ref r])), (r, .inl (k.1, 628, .inl f))] := hD
  refine lv_iload_n hx hb dX6_townOf_5 rfl (lv_at hl 2 rfl) ?_
  refine lv_iconst (v := 0) hx hb dX6_townOf_6 (by decide) ?_
  refine lv_iconst (v := 3) hx hb dX6_townOf_7 (by decide) ?_
  refine fo_cv (isC := []) (cells' := 2) (slots' := 12) (fo_runS (n := 3) (As := [.int ix, .int (0 : Int32), .int (3 : Int32)]) (rest := []) (isC := []) (maxL := 3) ⟨hx, hb, hml, hown, hts⟩ (c_X6_needRange ix (0 : Int32) (3 : Int32) hlst H.size) gX6_townOf_X6_needRange rfl (by decide +kernel) rfl ⟨Nat.le_of_ble_eq_true rfl, Nat.le_of_ble_eq_true rfl⟩ ⟨Nat.le_of_ble_eq_true rfl, Nat.le_of_ble_eq_true rfl⟩ hE hP hD hS hA rfl rfl hl rfl (Nat.le_of_ble_eq_true rfl) dX6_townOf_8) hP hD hS hA rfl rfl rfl rfl (fun E ce q9 H locs x_4 hP hD hS g1 g2 g3 => ?_) (fun H locs x_4 hP hD hS => ?_)
  · rw [if_neg (by rw [x_4]; exact fun z => nomatch z)] at hF
    dsimp only [fs, List.set] at hP hD
    have hP : va_P D vwCl [(o, .inr (10, [.ref t, .ref b, .ref t2, .ref j, .ref h, .ref bt, .ref sn, .int hs, .ref x, .ref ll, .int fk])), (b, .inr (4, [.ref r])), (r, .inl (k.1, 628, .inl f))] H := hP
    have hD : va_D A [(o, .inr (10, [.ref t, .ref b, .ref t2, .ref j, .ref h, .ref bt, .ref sn, .int hs, .ref x, .ref ll, .int fk])), (b, .inr (4, [.ref r])), (r, .inl (k.1, 628, .inl f))] := hD
    subst hF
    exact fo_out hout hlk g1 g2 g3 hS x_4 hP hD (by decide) (by decide)
  rw [if_pos x_4] at hF
  dsimp only [fs, List.set] at hP hD
  have hP : va_P D vwCl [(o, .inr (10, [.ref t, .ref b, .ref t2, .ref j, .ref h, .ref bt, .ref sn, .int hs, .ref x, .ref ll, .int fk])), (b, .inr (4, [.ref r])), (r, .inl (k.1, 628, .inl f))] H := hP
  have hD : va_D A [(o, .inr (10, [.ref t, .ref b, .ref t2, .ref j, .ref h, .ref bt, .ref sn, .int hs, .ref x, .ref ll, .int fk])), (b, .inr (4, [.ref r])), (r, .inl (k.1, 628, .inl f))] := hD
  refine lv_aload_n hx hb dX6_townOf_11 rfl (lv_at hl 0 rfl) ?_
  refine va_get (D := D) (ci := 10) (v := .ref b) (C := RX6) (T := TX6) (N := 11) hx hb hts in_X6_townOf_X6 hown hE.1 hP 0 rfl rfl 1 (by decide) (hts _ lk_X6_townOf_20) (fun _ h9 => h9) rfl dX6_townOf_12 ?_
  refine lv_iload_n hx hb dX6_townOf_15 rfl (lv_at hl 1 rfl) ?_
  refine lv_iload_n hx hb dX6_townOf_16 rfl (lv_at hl 2 rfl) ?_
  refine fc_ci (isC := []) (cells' := 2) (slots' := 12) (fc_runS (n := 2) (As := [.int iw, .int ix]) (rest := [.ref b]) (isC := []) (maxL := 2) ⟨hx, hb, hml, hown, hts⟩ (c_X6_ofTown iw ix H.size) gX6_townOf_X6_ofTown rfl (by decide +kernel) rfl ⟨Nat.le_of_ble_eq_true rfl, Nat.le_of_ble_eq_true rfl⟩ ⟨Nat.le_of_ble_eq_true rfl, Nat.le_of_ble_eq_true rfl⟩ hE hP hD hS hA rfl rfl hl rfl (Nat.le_of_ble_eq_true rfl) dX6_townOf_17) hP hD hS hA rfl (fun _ => rfl) rfl rfl (fun r_5 _ H locs hr_5 hP hD hS => ?_)
  obtain rfl : (F_X6_ofTown iw ix) = r_5 := hr_5.symm
  dsimp only [fs, List.set] at hP hD
  have hP : va_P D vwCl [(o, .inr (10, [.ref t, .ref b, .ref t2, .ref j, .ref h, .ref bt, .ref sn, .int hs, .ref x, .ref ll, .int fk])), (b, .inr (4, [.ref r])), (r, .inl (k.1, 628, .inl f))] H := hP
  have hD : va_D A [(o, .inr (10, [.ref t, .ref b, .ref t2, .ref j, .ref h, .ref bt, .ref sn, .int hs, .ref x, .ref ll, .int fk])), (b, .inr (4, [.ref r])), (r, .inl (k.1, 628, .inl f))] := hD
  refine fc_ci (isC := [1, 2]) (cells' := 2) (slots' := 12) (fc_runV (n := 1) (As := [.int (F_X6_ofTown iw ix)]) (rest := []) (isC := [1, 2]) (maxL := 2) ⟨hx, hb, hml, hown, hts⟩ (c_X0_get b r f (F_X6_ofTown iw ix) H.size) gX6_townOf_X0_get rfl (by decide +kernel) rfl ⟨Nat.le_of_ble_eq_true rfl, Nat.le_of_ble_eq_true rfl⟩ ⟨Nat.le_of_ble_eq_true rfl, Nat.le_of_ble_eq_true rfl⟩ hE hP hD hS hA rfl rfl (va_recv hE.1 hP (ci := 4) (q0 := 1) rfl rfl) hl rfl (Nat.le_of_ble_eq_true rfl) dX6_townOf_20) hP hD hS hA rfl (fun _ => rfl) rfl rfl (fun r_6 _ H locs hr_6 hP hD hS => ?_)
  obtain rfl : (F_X0_get f (F_X6_ofTown iw ix)) = r_6 := hr_6.symm
  dsimp only [fs, List.set] at hP hD
  have hP : va_P D vwCl [(o, .inr (10, [.ref t, .ref b, .ref t2, .ref j, .ref h, .ref bt, .ref sn, .int hs, .ref x, .ref ll, .int fk])), (b, .inr (4, [.ref r])), (r, .inl (k.1, 628, .inl f))] H := hP
  have hD : va_D A [(o, .inr (10, [.ref t, .ref b, .ref t2, .ref j, .ref h, .ref bt, .ref sn, .int hs, .ref x, .ref ll, .int fk])), (b, .inr (4, [.ref r])), (r, .inl (k.1, 628, .inl f))] := hD
  subst hF
  exact fo_iret hx hb hr rfl hlk hS rfl rfl hP hD (by decide) (by decide) dX6_townOf_23

abbrev rm_X6_left : Room := { frames := 7, cells := 3, slots := 18, locals := 117 }
theorem in_X6_left_X6 : ∀ w ∈ wsX60, w ∈ wsX6_left := by decide +kernel
theorem lk_X6_left_20 : (Cond.fieldLink RX6 20 "TheatreSaga" "books" "LTheatreSaga$Books;") ∈ wsX6_left := by decide +kernel
def F_X6_left (hs : Int32) (fk : Int32) (f : (Nat → Int32)) (ik : Int32) (iw : Int32) (id : Int32) : Option String × Int32 := (if (F_X6_needBelow ik (3 : Int32)) = none then (if (F_X6_needBelow iw (5 : Int32)) = none then (if (F_X6_needBelow id (20 : Int32)) = none then (none, (F_X0_get f (F_X6_ofLeft ik iw id))) else ((F_X6_needBelow id (20 : Int32)), (0 : Int32))) else ((F_X6_needBelow iw (5 : Int32)), (0 : Int32))) else ((F_X6_needBelow ik (3 : Int32)), (0 : Int32)))
set_option maxHeartbeats 4000000 in
set_option maxRecDepth 100000 in
theorem c_X6_left {l : Launch} {D : va_G} {k : tyK} (o t b t2 j h bt sn x ll r : Nat) (hs : Int32) (fk : Int32) (f : (Nat → Int32)) (ik : Int32) (iw : Int32) (id : Int32) (hlst : l.stackTraces = false) : FOi l yX6_left wsX6_left rm_X6_left D k [.ref o, .int ik, .int iw, .int id] [(o, .inr (10, [.ref t, .ref b, .ref t2, .ref j, .ref h, .ref bt, .ref sn, .int hs, .ref x, .ref ll, .int fk])), (b, .inr (4, [.ref r])), (r, .inl (k.1, 628, .inl f))] (F_X6_left hs fk f ik iw id).1 (F_X6_left hs fk f ik iw id).2 [(o, .inr (10, [.ref t, .ref b, .ref t2, .ref j, .ref h, .ref bt, .ref sn, .int hs, .ref x, .ref ll, .int fk])), (b, .inr (4, [.ref r])), (r, .inl (k.1, 628, .inl f))] := by
  refine fo_start (cc := cX6_left) (maxL := 4) (ret := (some .int)) (own := RX6) (Qc := fun A => va_Qi (fun r (_ : Unit) => (F_X6_left hs fk f ik iw id).1 = none ∧ r = (F_X6_left hs fk f ik iw id).2) (Bt D (fun _ => [(o, .inr (10, [.ref t, .ref b, .ref t2, .ref j, .ref h, .ref bt, .ref sn, .int hs, .ref x, .ref ll, .int fk])), (b, .inr (4, [.ref r])), (r, .inl (k.1, 628, .inl f))]) A) A) (XC := fun A => XB D (F_X6_left hs fk f ik iw id).1 [(o, .inr (10, [.ref t, .ref b, .ref t2, .ref j, .ref h, .ref bt, .ref sn, .int hs, .ref x, .ref ll, .int fk])), (b, .inr (4, [.ref r])), (r, .inl (k.1, 628, .inl f))] A) (by decide) rfl rfl (Nat.le_of_ble_eq_true rfl) ?_
  intro p e s m below meth c A H hx hb hml hr hts hown hlk hout hA hP hE hD hS ls hl
  obtain ⟨RES, hF⟩ : ∃ z, (F_X6_left hs fk f ik iw id) = z := ⟨_, rfl⟩
  rw [hF]
  unfold F_X6_left at hF
  have hl : lv_has ls 4 [(0, .ref o), (1, .int ik), (2, .int iw), (3, .int id)] := hl
  obtain ⟨locs, hlocs⟩ : ∃ z : List Loc, z = [] := ⟨_, rfl⟩
  rw [← hlocs] at hS ⊢
  refine lv_iload_n hx hb dX6_left_0 rfl (lv_at hl 1 rfl) ?_
  refine lv_iconst (v := 3) hx hb dX6_left_1 (by decide) ?_
  refine fo_cv (isC := []) (cells' := 1) (slots' := 6) (fo_runS (n := 2) (As := [.int ik, .int (3 : Int32)]) (rest := []) (isC := []) (maxL := 2) ⟨hx, hb, hml, hown, hts⟩ (c_X6_needBelow ik (3 : Int32) hlst H.size) gX6_left_X6_needBelow rfl (by decide +kernel) rfl ⟨Nat.le_of_ble_eq_true rfl, Nat.le_of_ble_eq_true rfl⟩ ⟨Nat.le_of_ble_eq_true rfl, Nat.le_of_ble_eq_true rfl⟩ hE hP hD hS hA rfl rfl hl rfl (Nat.le_of_ble_eq_true rfl) dX6_left_2) hP hD hS hA rfl rfl rfl rfl (fun E ce q9 H locs x_2 hP hD hS g1 g2 g3 => ?_) (fun H locs x_2 hP hD hS => ?_)
  · rw [if_neg (by rw [x_2]; exact fun z => nomatch z)] at hF
    dsimp only [fs, List.set] at hP hD
    have hP : va_P D vwCl [(o, .inr (10, [.ref t, .ref b, .ref t2, .ref j, .ref h, .ref bt, .ref sn, .int hs, .ref x, .ref ll, .int fk])), (b, .inr (4, [.ref r])), (r, .inl (k.1, 628, .inl f))] H := hP
    have hD : va_D A [(o, .inr (10, [.ref t, .ref b, .ref t2, .ref j, .ref h, .ref bt, .ref sn, .int hs, .ref x, .ref ll, .int fk])), (b, .inr (4, [.ref r])), (r, .inl (k.1, 628, .inl f))] := hD
    subst hF
    exact fo_out hout hlk g1 g2 g3 hS x_2 hP hD (by decide) (by decide)
  rw [if_pos x_2] at hF
  dsimp only [fs, List.set] at hP hD
  have hP : va_P D vwCl [(o, .inr (10, [.ref t, .ref b, .ref t2, .ref j, .ref h, .ref bt, .ref sn, .int hs, .ref x, .ref ll, .int fk])), (b, .inr (4, [.ref r])), (r, .inl (k.1, 628, .inl f))] H := hP
  have hD : va_D A [(o, .inr (10, [.ref t, .ref b, .ref t2, .ref j, .ref h, .ref bt, .ref sn, .int hs, .ref x, .ref ll, .int fk])), (b, .inr (4, [.ref r])), (r, .inl (k.1, 628, .inl f))] := hD
  refine lv_iload_n hx hb dX6_left_5 rfl (lv_at hl 2 rfl) ?_
  refine lv_iconst (v := 5) hx hb dX6_left_6 (by decide) ?_
  refine fo_cv (isC := []) (cells' := 2) (slots' := 12) (fo_runS (n := 2) (As := [.int iw, .int (5 : Int32)]) (rest := []) (isC := []) (maxL := 2) ⟨hx, hb, hml, hown, hts⟩ (c_X6_needBelow iw (5 : Int32) hlst H.size) gX6_left_X6_needBelow rfl (by decide +kernel) rfl ⟨Nat.le_of_ble_eq_true rfl, Nat.le_of_ble_eq_true rfl⟩ ⟨Nat.le_of_ble_eq_true rfl, Nat.le_of_ble_eq_true rfl⟩ hE hP hD hS hA rfl rfl hl rfl (Nat.le_of_ble_eq_true rfl) dX6_left_7) hP hD hS hA rfl rfl rfl rfl (fun E ce q9 H locs x_4 hP hD hS g1 g2 g3 => ?_) (fun H locs x_4 hP hD hS => ?_)
  · rw [if_neg (by rw [x_4]; exact fun z => nomatch z)] at hF
    dsimp only [fs, List.set] at hP hD
    have hP : va_P D vwCl [(o, .inr (10, [.ref t, .ref b, .ref t2, .ref j, .ref h, .ref bt, .ref sn, .int hs, .ref x, .ref ll, .int fk])), (b, .inr (4, [.ref r])), (r, .inl (k.1, 628, .inl f))] H := hP
    have hD : va_D A [(o, .inr (10, [.ref t, .ref b, .ref t2, .ref j, .ref h, .ref bt, .ref sn, .int hs, .ref x, .ref ll, .int fk])), (b, .inr (4, [.ref r])), (r, .inl (k.1, 628, .inl f))] := hD
    subst hF
    exact fo_out hout hlk g1 g2 g3 hS x_4 hP hD (by decide) (by decide)
  rw [if_pos x_4] at hF
  dsimp only [fs, List.set] at hP hD
  have hP : va_P D vwCl [(o, .inr (10, [.ref t, .ref b, .ref t2, .ref j, .ref h, .ref bt, .ref sn, .int hs, .ref x, .ref ll, .int fk])), (b, .inr (4, [.ref r])), (r, .inl (k.1, 628, .inl f))] H := hP
  have hD : va_D A [(o, .inr (10, [.ref t, .ref b, .ref t2, .ref j, .ref h, .ref bt, .ref sn, .int hs, .ref x, .ref ll, .int fk])), (b, .inr (4, [.ref r])), (r, .inl (k.1, 628, .inl f))] := hD
  refine lv_iload_n hx hb dX6_left_10 rfl (lv_at hl 3 rfl) ?_
  refine lv_bipush (v := 20) hx hb dX6_left_11 (by decide) ?_
  refine fo_cv (isC := []) (cells' := 3) (slots' := 18) (fo_runS (n := 2) (As := [.int id, .int (20 : Int32)]) (rest := []) (isC := []) (maxL := 2) ⟨hx, hb, hml, hown, hts⟩ (c_X6_needBelow id (20 : Int32) hlst H.size) gX6_left_X6_needBelow rfl (by decide +kernel) rfl ⟨Nat.le_of_ble_eq_true rfl, Nat.le_of_ble_eq_true rfl⟩ ⟨Nat.le_of_ble_eq_true rfl, Nat.le_of_ble_eq_true rfl⟩ hE hP hD hS hA rfl rfl hl rfl (Nat.le_of_ble_eq_true rfl) dX6_left_13) hP hD hS hA rfl rfl rfl rfl (fun E ce q9 H locs x_6 hP hD hS g1 g2 g3 => ?_) (fun H locs x_6 hP hD hS => ?_)
  · rw [if_neg (by rw [x_6]; exact fun z => nomatch z)] at hF
    dsimp only [fs, List.set] at hP hD
    have hP : va_P D vwCl [(o, .inr (10, [.ref t, .ref b, .ref t2, .ref j, .ref h, .ref bt, .ref sn, .int hs, .ref x, .ref ll, .int fk])), (b, .inr (4, [.ref r])), (r, .inl (k.1, 628, .inl f))] H := hP
    have hD : va_D A [(o, .inr (10, [.ref t, .ref b, .ref t2, .ref j, .ref h, .ref bt, .ref sn, .int hs, .ref x, .ref ll, .int fk])), (b, .inr (4, [.ref r])), (r, .inl (k.1, 628, .inl f))] := hD
    subst hF
    exact fo_out hout hlk g1 g2 g3 hS x_6 hP hD (by decide) (by decide)
  rw [if_pos x_6] at hF
  dsimp only [fs, List.set] at hP hD
  have hP : va_P D vwCl [(o, .inr (10, [.ref t, .ref b, .ref t2, .ref j, .ref h, .ref bt, .ref sn, .int hs, .ref x, .ref ll, .int fk])), (b, .inr (4, [.ref r])), (r, .inl (k.1, 628, .inl f))] H := hP
  have hD : va_D A [(o, .inr (10, [.ref t, .ref b, .ref t2, .ref j, .ref h, .ref bt, .ref sn, .int hs, .ref x, .ref ll, .int fk])), (b, .inr (4, [.ref r])), (r, .inl (k.1, 628, .inl f))] := hD
  refine lv_aload_n hx hb dX6_left_16 rfl (lv_at hl 0 rfl) ?_
  refine va_get (D := D) (ci := 10) (v := .ref b) (C := RX6) (T := TX6) (N := 11) hx hb hts in_X6_left_X6 hown hE.1 hP 0 rfl rfl 1 (by decide) (hts _ lk_X6_left_20) (fun _ h9 => h9) rfl dX6_left_17 ?_
  refine lv_iload_n hx hb dX6_left_20 rfl (lv_at hl 1 rfl) ?_
  refine lv_iload_n hx hb dX6_left_21 rfl (lv_at hl 2 rfl) ?_
  refine lv_iload_n hx hb dX6_left_22 rfl (lv_at hl 3 rfl) ?_
  refine fc_ci (isC := []) (cells' := 3) (slots' := 18) (fc_runS (n := 3) (As := [.int ik, .int iw, .int id]) (rest := [.ref b]) (isC := []) (maxL := 3) ⟨hx, hb, hml, hown, hts⟩ (c_X6_ofLeft ik iw id H.size) gX6_left_X6_ofLeft rfl (by decide +kernel) rfl ⟨Nat.le_of_ble_eq_true rfl, Nat.le_of_ble_eq_true rfl⟩ ⟨Nat.le_of_ble_eq_true rfl, Nat.le_of_ble_eq_true rfl⟩ hE hP hD hS hA rfl rfl hl rfl (Nat.le_of_ble_eq_true rfl) dX6_left_23) hP hD hS hA rfl (fun _ => rfl) rfl rfl (fun r_7 _ H locs hr_7 hP hD hS => ?_)
  obtain rfl : (F_X6_ofLeft ik iw id) = r_7 := hr_7.symm
  dsimp only [fs, List.set] at hP hD
  have hP : va_P D vwCl [(o, .inr (10, [.ref t, .ref b, .ref t2, .ref j, .ref h, .ref bt, .ref sn, .int hs, .ref x, .ref ll, .int fk])), (b, .inr (4, [.ref r])), (r, .inl (k.1, 628, .inl f))] H := hP
  have hD : va_D A [(o, .inr (10, [.ref t, .ref b, .ref t2, .ref j, .ref h, .ref bt, .ref sn, .int hs, .ref x, .ref ll, .int fk])), (b, .inr (4, [.ref r])), (r, .inl (k.1, 628, .inl f))] := hD
  refine fc_ci (isC := [1, 2]) (cells' := 3) (slots' := 18) (fc_runV (n := 1) (As := [.int (F_X6_ofLeft ik iw id)]) (rest := []) (isC := [1, 2]) (maxL := 2) ⟨hx, hb, hml, hown, hts⟩ (c_X0_get b r f (F_X6_ofLeft ik iw id) H.size) gX6_left_X0_get rfl (by decide +kernel) rfl ⟨Nat.le_of_ble_eq_true rfl, Nat.le_of_ble_eq_true rfl⟩ ⟨Nat.le_of_ble_eq_true rfl, Nat.le_of_ble_eq_true rfl⟩ hE hP hD hS hA rfl rfl (va_recv hE.1 hP (ci := 4) (q0 := 1) rfl rfl) hl rfl (Nat.le_of_ble_eq_true rfl) dX6_left_26) hP hD hS hA rfl (fun _ => rfl) rfl rfl (fun r_8 _ H locs hr_8 hP hD hS => ?_)
  obtain rfl : (F_X0_get f (F_X6_ofLeft ik iw id)) = r_8 := hr_8.symm
  dsimp only [fs, List.set] at hP hD
  have hP : va_P D vwCl [(o, .inr (10, [.ref t, .ref b, .ref t2, .ref j, .ref h, .ref bt, .ref sn, .int hs, .ref x, .ref ll, .int fk])), (b, .inr (4, [.ref r])), (r, .inl (k.1, 628, .inl f))] H := hP
  have hD : va_D A [(o, .inr (10, [.ref t, .ref b, .ref t2, .ref j, .ref h, .ref bt, .ref sn, .int hs, .ref x, .ref ll, .int fk])), (b, .inr (4, [.ref r])), (r, .inl (k.1, 628, .inl f))] := hD
  subst hF
  exact fo_iret hx hb hr rfl hlk hS rfl rfl hP hD (by decide) (by decide) dX6_left_29
end
