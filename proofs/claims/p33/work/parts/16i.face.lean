section
abbrev rm_X6_meanSteps : Room := { frames := 6, cells := 1, slots := 6, locals := 96 }
theorem in_X6_meanSteps_X6 : ∀ w ∈ wsX60, w ∈ wsX6_meanSteps := by decide +kernel
theorem lk_X6_meanSteps_12 : (Cond.fieldLink RX6 12 "TheatreSaga" "theatre" "LTheatreSaga$Theatre;") ∈ wsX6_meanSteps := by decide +kernel
theorem lk_X6_meanSteps_20 : (Cond.fieldLink RX6 20 "TheatreSaga" "books" "LTheatreSaga$Books;") ∈ wsX6_meanSteps := by decide +kernel
theorem xl_X6_meanSteps_219 : ∀ w ∈ (vx_atS RX6 219 "java/lang/ArithmeticException" exN).filter goodWord, w ∈ wsX6_meanSteps := by decide +kernel
def F_X6_meanSteps (hs : Int32) (fk : Int32) (f : (Nat → Int32))  : Option String × UInt64 := (if (F_X0_get f (1 : Int32)) = (0 : Int32) then ((some "java/lang/ArithmeticException"), (0 : UInt64)) else (none, (FP.ddiv (FP.i2d (F_X5_sumOfTours f (2 : Int32))) (FP.i2d (F_X0_get f (1 : Int32))))))
set_option maxHeartbeats 4000000 in
set_option maxRecDepth 100000 in
theorem c_X6_meanSteps {l : Launch} {D : va_G} {k : tyK} (o t b t2 j h bt sn x ll r : Nat) (hs : Int32) (fk : Int32) (f : (Nat → Int32))  (hlst : l.stackTraces = false) (hq : ¬ (F_X0_get f (1 : Int32)) = (0 : Int32) → vf_n64 (FP.ddiv (FP.i2d (F_X5_sumOfTours f (2 : Int32))) (FP.i2d (F_X0_get f (1 : Int32))))) : FOd l yX6_meanSteps wsX6_meanSteps rm_X6_meanSteps D k [.ref o] [(o, .inr (10, [.ref t, .ref b, .ref t2, .ref j, .ref h, .ref bt, .ref sn, .int hs, .ref x, .ref ll, .int fk])), (t, .inr (9, [.ref b])), (b, .inr (4, [.ref r])), (r, .inl (k.1, 628, .inl f))] (F_X6_meanSteps hs fk f).1 (F_X6_meanSteps hs fk f).2 [(o, .inr (10, [.ref t, .ref b, .ref t2, .ref j, .ref h, .ref bt, .ref sn, .int hs, .ref x, .ref ll, .int fk])), (t, .inr (9, [.ref b])), (b, .inr (4, [.ref r])), (r, .inl (k.1, 628, .inl f))] := by
  refine fo_start (cc := cX6_meanSteps) (maxL := 2) (ret := (some .double)) (own := RX6) (Qc := fun A => va_Qd (fun r (_ : Unit) => (F_X6_meanSteps hs fk f).1 = none ∧ r = (F_X6_meanSteps hs fk f).2) (Bt D (fun _ => [(o, .inr (10, [.ref t, .ref b, .ref t2, .ref j, .ref h, .ref bt, .ref sn, .int hs, .ref x, .ref ll, .int fk])), (t, .inr (9, [.ref b])), (b, .inr (4, [.ref r])), (r, .inl (k.1, 628, .inl f))]) A) A) (XC := fun A => XB D (F_X6_meanSteps hs fk f).1 [(o, .inr (10, [.ref t, .ref b, .ref t2, .ref j, .ref h, .ref bt, .ref sn, .int hs, .ref x, .ref ll, .int fk])), (t, .inr (9, [.ref b])), (b, .inr (4, [.ref r])), (r, .inl (k.1, 628, .inl f))] A) (by decide) rfl rfl (Nat.le_of_ble_eq_true rfl) ?_
  intro p e s m below meth c A H hx hb hml hr hts hown hlk hout hA hP hE hD hS ls hl
  obtain ⟨RES, hF⟩ : ∃ z, (F_X6_meanSteps hs fk f) = z := ⟨_, rfl⟩
  rw [hF]
  unfold F_X6_meanSteps at hF
  have hl : lv_has ls 2 [(0, .ref o)] := hl
  obtain ⟨locs, hlocs⟩ : ∃ z : List Loc, z = [] := ⟨_, rfl⟩
  rw [← hlocs] at hS ⊢
  refine lv_aload_n hx hb dX6_meanSteps_0 rfl (lv_at hl 0 rfl) ?_
  refine va_get (D := D) (ci := 10) (v := .ref b) (C := RX6) (T := TX6) (N := 11) hx hb hts in_X6_meanSteps_X6 hown hE.1 hP 0 rfl rfl 1 (by decide) (hts _ lk_X6_meanSteps_20) (fun _ h9 => h9) rfl dX6_meanSteps_1 ?_
  refine lv_iconst (v := 1) hx hb dX6_meanSteps_4 (by decide) ?_
  refine fc_ci (isC := [2, 3]) (cells' := 0) (slots' := 0) (fc_runV (n := 1) (As := [.int (1 : Int32)]) (rest := []) (isC := [2, 3]) (maxL := 2) ⟨hx, hb, hml, hown, hts⟩ (c_X0_get b r f (1 : Int32) H.size) gX6_meanSteps_X0_get rfl (by decide +kernel) rfl ⟨Nat.le_of_ble_eq_true rfl, Nat.le_of_ble_eq_true rfl⟩ ⟨Nat.le_of_ble_eq_true rfl, Nat.le_of_ble_eq_true rfl⟩ hE hP hD hS hA rfl rfl (va_recv hE.1 hP (ci := 4) (q0 := 2) rfl rfl) hl rfl (Nat.le_of_ble_eq_true rfl) dX6_meanSteps_5) hP hD hS hA rfl (fun _ => rfl) rfl rfl (fun r_1 _ H locs hr_1 hP hD hS => ?_)
  obtain rfl : (F_X0_get f (1 : Int32)) = r_1 := hr_1.symm
  dsimp only [fs, List.set] at hP hD
  have hP : va_P D vwCl [(o, .inr (10, [.ref t, .ref b, .ref t2, .ref j, .ref h, .ref bt, .ref sn, .int hs, .ref x, .ref ll, .int fk])), (t, .inr (9, [.ref b])), (b, .inr (4, [.ref r])), (r, .inl (k.1, 628, .inl f))] H := hP
  have hD : va_D A [(o, .inr (10, [.ref t, .ref b, .ref t2, .ref j, .ref h, .ref bt, .ref sn, .int hs, .ref x, .ref ll, .int fk])), (t, .inr (9, [.ref b])), (b, .inr (4, [.ref r])), (r, .inl (k.1, 628, .inl f))] := hD
  refine lv_istore_n (lv' := [(1, .int (F_X0_get f (1 : Int32))), (0, .ref o)]) hx hb dX6_meanSteps_8 rfl hl (by decide) rfl (fun ls hl => ?_)
  refine lv_iload_n hx hb dX6_meanSteps_9 rfl (lv_at hl 0 rfl) ?_
  refine lv_if_ne (tgt := 23) hx hb dX6_meanSteps_10 (by decide) (fun c_2 => ?_) (fun c_2 => ?_)
  · rw [if_neg c_2] at hF
    refine lv_aload_n hx hb dX6_meanSteps_23 rfl (lv_at hl 1 rfl) ?_
    refine va_get (D := D) (ci := 10) (v := .ref t) (C := RX6) (T := TX6) (N := 11) hx hb hts in_X6_meanSteps_X6 hown hE.1 hP 0 rfl rfl 0 (by decide) (hts _ lk_X6_meanSteps_12) (fun _ h9 => h9) rfl dX6_meanSteps_24 ?_
    refine lv_iconst (v := 2) hx hb dX6_meanSteps_27 (by decide) ?_
    refine fc_ci (isC := [1, 2, 3]) (cells' := 0) (slots' := 0) (fc_runV (n := 1) (As := [.int (2 : Int32)]) (rest := []) (isC := [1, 2, 3]) (maxL := 4) ⟨hx, hb, hml, hown, hts⟩ (c_X5_sumOfTours t b r f (2 : Int32) H.size) gX6_meanSteps_X5_sumOfTours rfl (by decide +kernel) rfl ⟨Nat.le_of_ble_eq_true rfl, Nat.le_of_ble_eq_true rfl⟩ ⟨Nat.le_of_ble_eq_true rfl, Nat.le_of_ble_eq_true rfl⟩ hE hP hD hS hA rfl rfl (va_recv hE.1 hP (ci := 9) (q0 := 1) rfl rfl) hl rfl (Nat.le_of_ble_eq_true rfl) dX6_meanSteps_28) hP hD hS hA rfl (fun _ => rfl) rfl rfl (fun r_3 _ H locs hr_3 hP hD hS => ?_)
    obtain rfl : (F_X5_sumOfTours f (2 : Int32)) = r_3 := hr_3.symm
    dsimp only [fs, List.set] at hP hD
    have hP : va_P D vwCl [(o, .inr (10, [.ref t, .ref b, .ref t2, .ref j, .ref h, .ref bt, .ref sn, .int hs, .ref x, .ref ll, .int fk])), (t, .inr (9, [.ref b])), (b, .inr (4, [.ref r])), (r, .inl (k.1, 628, .inl f))] H := hP
    have hD : va_D A [(o, .inr (10, [.ref t, .ref b, .ref t2, .ref j, .ref h, .ref bt, .ref sn, .int hs, .ref x, .ref ll, .int fk])), (t, .inr (9, [.ref b])), (b, .inr (4, [.ref r])), (r, .inl (k.1, 628, .inl f))] := hD
    refine lv_i2d hx hb dX6_meanSteps_31 ?_
    refine lv_iload_n hx hb dX6_meanSteps_32 rfl (lv_at hl 0 rfl) ?_
    refine lv_i2d hx hb dX6_meanSteps_33 ?_
    refine lv_ddiv hx hb dX6_meanSteps_34 (hq (by assumption)) ?_
    subst hF
    exact fo_dret hx hb hr hlk hS rfl rfl hP hD (by decide) (by decide) dX6_meanSteps_35
  · rw [if_pos c_2] at hF
    subst hF
    exact fo_throwS (names := exN) (i := 5) (B := []) (own := RX6) hlst hx hb hml hown hE hts exF_ArithmeticException exN_ok (by decide +kernel) (by decide +kernel) rfl xl_X6_meanSteps_219 exH_219 (by decide +kernel) exG_219 hl dX6_meanSteps_13 dX6_meanSteps_16 dX6_meanSteps_17 dX6_meanSteps_19 dX6_meanSteps_22 hout (by decide) (by decide) (by decide) (by decide) hlk hS rfl hP hD (by decide) (by decide)

abbrev rm_X6_failedShare : Room := { frames := 6, cells := 1, slots := 6, locals := 96 }
theorem in_X6_failedShare_X6 : ∀ w ∈ wsX60, w ∈ wsX6_failedShare := by decide +kernel
theorem lk_X6_failedShare_20 : (Cond.fieldLink RX6 20 "TheatreSaga" "books" "LTheatreSaga$Books;") ∈ wsX6_failedShare := by decide +kernel
theorem xl_X6_failedShare_219 : ∀ w ∈ (vx_atS RX6 219 "java/lang/ArithmeticException" exN).filter goodWord, w ∈ wsX6_failedShare := by decide +kernel
def F_X6_failedShare (hs : Int32) (fk : Int32) (f : (Nat → Int32))  : Option String × UInt32 := (if (F_X0_get f (12 : Int32)) = (0 : Int32) then ((some "java/lang/ArithmeticException"), (0 : UInt32)) else (none, (FP.fdiv (FP.i2f (F_X0_get f (13 : Int32))) (FP.i2f (F_X0_get f (12 : Int32))))))
set_option maxHeartbeats 4000000 in
set_option maxRecDepth 100000 in
theorem c_X6_failedShare {l : Launch} {D : va_G} {k : tyK} (o t b t2 j h bt sn x ll r : Nat) (hs : Int32) (fk : Int32) (f : (Nat → Int32))  (hlst : l.stackTraces = false) (hq : ¬ (F_X0_get f (12 : Int32)) = (0 : Int32) → vf_n32 (FP.fdiv (FP.i2f (F_X0_get f (13 : Int32))) (FP.i2f (F_X0_get f (12 : Int32))))) : FOf l yX6_failedShare wsX6_failedShare rm_X6_failedShare D k [.ref o] [(o, .inr (10, [.ref t, .ref b, .ref t2, .ref j, .ref h, .ref bt, .ref sn, .int hs, .ref x, .ref ll, .int fk])), (b, .inr (4, [.ref r])), (r, .inl (k.1, 628, .inl f))] (F_X6_failedShare hs fk f).1 (F_X6_failedShare hs fk f).2 [(o, .inr (10, [.ref t, .ref b, .ref t2, .ref j, .ref h, .ref bt, .ref sn, .int hs, .ref x, .ref ll, .int fk])), (b, .inr (4, [.ref r])), (r, .inl (k.1, 628, .inl f))] := by
  refine fo_start (cc := cX6_failedShare) (maxL := 2) (ret := (some .float)) (own := RX6) (Qc := fun A => va_Qf (fun r (_ : Unit) => (F_X6_failedShare hs fk f).1 = none ∧ r = (F_X6_failedShare hs fk f).2) (Bt D (fun _ => [(o, .inr (10, [.ref t, .ref b, .ref t2, .ref j, .ref h, .ref bt, .ref sn, .int hs, .ref x, .ref ll, .int fk])), (b, .inr (4, [.ref r])), (r, .inl (k.1, 628, .inl f))]) A) A) (XC := fun A => XB D (F_X6_failedShare hs fk f).1 [(o, .inr (10, [.ref t, .ref b, .ref t2, .ref j, .ref h, .ref bt, .ref sn, .int hs, .ref x, .ref ll, .int fk])), (b, .inr (4, [.ref r])), (r, .inl (k.1, 628, .inl f))] A) (by decide) rfl rfl (Nat.le_of_ble_eq_true rfl) ?_
  intro p e s m below meth c A H hx hb hml hr hts hown hlk hout hA hP hE hD hS ls hl
  obtain ⟨RES, hF⟩ : ∃ z, (F_X6_failedShare hs fk f) = z := ⟨_, rfl⟩
  rw [hF]
  unfold F_X6_failedShare at hF
  have hl : lv_has ls 2 [(0, .ref o)] := hl
  obtain ⟨locs, hlocs⟩ : ∃ z : List Loc, z = [] := ⟨_, rfl⟩
  rw [← hlocs] at hS ⊢
  refine lv_aload_n hx hb dX6_failedShare_0 rfl (lv_at hl 0 rfl) ?_
  refine va_get (D := D) (ci := 10) (v := .ref b) (C := RX6) (T := TX6) (N := 11) hx hb hts in_X6_failedShare_X6 hown hE.1 hP 0 rfl rfl 1 (by decide) (hts _ lk_X6_failedShare_20) (fun _ h9 => h9) rfl dX6_failedShare_1 ?_
  refine lv_bipush (v := 12) hx hb dX6_failedShare_4 (by decide) ?_
  refine fc_ci (isC := [1, 2]) (cells' := 0) (slots' := 0) (fc_runV (n := 1) (As := [.int (12 : Int32)]) (rest := []) (isC := [1, 2]) (maxL := 2) ⟨hx, hb, hml, hown, hts⟩ (c_X0_get b r f (12 : Int32) H.size) gX6_failedShare_X0_get rfl (by decide +kernel) rfl ⟨Nat.le_of_ble_eq_true rfl, Nat.le_of_ble_eq_true rfl⟩ ⟨Nat.le_of_ble_eq_true rfl, Nat.le_of_ble_eq_true rfl⟩ hE hP hD hS hA rfl rfl (va_recv hE.1 hP (ci := 4) (q0 := 1) rfl rfl) hl rfl (Nat.le_of_ble_eq_true rfl) dX6_failedShare_6) hP hD hS hA rfl (fun _ => rfl) rfl rfl (fun r_1 _ H locs hr_1 hP hD hS => ?_)
  obtain rfl : (F_X0_get f (12 : Int32)) = r_1 := hr_1.symm
  dsimp only [fs, List.set] at hP hD
  have hP : va_P D vwCl [(o, .inr (10, [.ref t, .ref b, .ref t2, .ref j, .ref h, .ref bt, .ref sn, .int hs, .ref x, .ref ll, .int fk])), (b, .inr (4, [.ref r])), (r, .inl (k.1, 628, .inl f))] H := hP
  have hD : va_D A [(o, .inr (10, [.ref t, .ref b, .ref t2, .ref j, .ref h, .ref bt, .ref sn, .int hs, .ref x, .ref ll, .int fk])), (b, .inr (4, [.ref r])), (r, .inl (k.1, 628, .inl f))] := hD
  refine lv_istore_n (lv' := [(1, .int (F_X0_get f (12 : Int32))), (0, .ref o)]) hx hb dX6_failedShare_9 rfl hl (by decide) rfl (fun ls hl => ?_)
  refine lv_iload_n hx hb dX6_failedShare_10 rfl (lv_at hl 0 rfl) ?_
  refine lv_if_ne (tgt := 24) hx hb dX6_failedShare_11 (by decide) (fun c_2 => ?_) (fun c_2 => ?_)
  · rw [if_neg c_2] at hF
    refine lv_aload_n hx hb dX6_failedShare_24 rfl (lv_at hl 1 rfl) ?_
    refine va_get (D := D) (ci := 10) (v := .ref b) (C := RX6) (T := TX6) (N := 11) hx hb hts in_X6_failedShare_X6 hown hE.1 hP 0 rfl rfl 1 (by decide) (hts _ lk_X6_failedShare_20) (fun _ h9 => h9) rfl dX6_failedShare_25 ?_
    refine lv_bipush (v := 13) hx hb dX6_failedShare_28 (by decide) ?_
    refine fc_ci (isC := [1, 2]) (cells' := 0) (slots' := 0) (fc_runV (n := 1) (As := [.int (13 : Int32)]) (rest := []) (isC := [1, 2]) (maxL := 2) ⟨hx, hb, hml, hown, hts⟩ (c_X0_get b r f (13 : Int32) H.size) gX6_failedShare_X0_get rfl (by decide +kernel) rfl ⟨Nat.le_of_ble_eq_true rfl, Nat.le_of_ble_eq_true rfl⟩ ⟨Nat.le_of_ble_eq_true rfl, Nat.le_of_ble_eq_true rfl⟩ hE hP hD hS hA rfl rfl (va_recv hE.1 hP (ci := 4) (q0 := 1) rfl rfl) hl rfl (Nat.le_of_ble_eq_true rfl) dX6_failedShare_30) hP hD hS hA rfl (fun _ => rfl) rfl rfl (fun r_3 _ H locs hr_3 hP hD hS => ?_)
    obtain rfl : (F_X0_get f (13 : Int32)) = r_3 := hr_3.symm
    dsimp only [fs, List.set] at hP hD
    have hP : va_P D vwCl [(o, .inr (10, [.ref t, .ref b, .ref t2, .ref j, .ref h, .ref bt, .ref sn, .int hs, .ref x, .ref ll, .int fk])), (b, .inr (4, [.ref r])), (r, .inl (k.1, 628, .inl f))] H := hP
    have hD : va_D A [(o, .inr (10, [.ref t, .ref b, .ref t2, .ref j, .ref h, .ref bt, .ref sn, .int hs, .ref x, .ref ll, .int fk])), (b, .inr (4, [.ref r])), (r, .inl (k.1, 628, .inl f))] := hD
    refine lv_i2f hx hb dX6_failedShare_33 ?_
    refine lv_iload_n hx hb dX6_failedShare_34 rfl (lv_at hl 0 rfl) ?_
    refine lv_i2f hx hb dX6_failedShare_35 ?_
    refine lv_fdiv hx hb dX6_failedShare_36 (hq (by assumption)) ?_
    subst hF
    exact fo_fret hx hb hr hlk hS rfl rfl hP hD (by decide) (by decide) dX6_failedShare_37
  · rw [if_pos c_2] at hF
    subst hF
    exact fo_throwS (names := exN) (i := 6) (B := []) (own := RX6) hlst hx hb hml hown hE hts exF_ArithmeticException exN_ok (by decide +kernel) (by decide +kernel) rfl xl_X6_failedShare_219 exH_219 (by decide +kernel) exG_219 hl dX6_failedShare_14 dX6_failedShare_17 dX6_failedShare_18 dX6_failedShare_20 dX6_failedShare_23 hout (by decide) (by decide) (by decide) (by decide) hlk hS rfl hP hD (by decide) (by decide)
end
