section
abbrev rm_X6_number : Room := { frames := 7, cells := 1, slots := 6, locals := 118 }
theorem in_X6_number_X6 : ∀ w ∈ wsX60, w ∈ wsX6_number := by decide +kernel
theorem lk_X6_number_12 : (Cond.fieldLink RX6 12 "TheatreSaga" "theatre" "LTheatreSaga$Theatre;") ∈ wsX6_number := by decide +kernel
theorem lk_X6_number_20 : (Cond.fieldLink RX6 20 "TheatreSaga" "books" "LTheatreSaga$Books;") ∈ wsX6_number := by decide +kernel
theorem lk_X6_number_34 : (Cond.fieldLink RX6 34 "TheatreSaga" "history" "LTheatreSaga$History;") ∈ wsX6_number := by decide +kernel
theorem lk_X6_number_54 : (Cond.fieldLink RX6 54 "TheatreSaga" "text" "LTheatreSaga$Text;") ∈ wsX6_number := by decide +kernel
def F_X6_number (hs : Int32) (fk : Int32) (f : (Nat → Int32)) (nx : Int32) (kp : Int32) (ln : Int32) (tp : Int32) (wd : Int32) (fi : Int32) (tw : Int32) (dy : Int32) (mn : Int32) (vl : Int32) (sg : (Nat → Int32)) (iw : Int32) : Option String × Int32 := (if (F_X6_needRange iw (0 : Int32) (17 : Int32)) = none then (if iw < (2 : Int32) then (if iw = (14 : Int32) then (none, (F_X5_openTowns f)) else if iw = (15 : Int32) then (none, (F_X5_sumOfTours f (3 : Int32))) else if iw = (16 : Int32) then (none, (F_X1_count nx kp)) else if iw = (17 : Int32) then (none, (F_X4_length ln tp wd fi tw dy mn vl sg)) else (none, (F_X0_get f iw))) else (if (6 : Int32) < iw then (if iw = (14 : Int32) then (none, (F_X5_openTowns f)) else if iw = (15 : Int32) then (none, (F_X5_sumOfTours f (3 : Int32))) else if iw = (16 : Int32) then (none, (F_X1_count nx kp)) else if iw = (17 : Int32) then (none, (F_X4_length ln tp wd fi tw dy mn vl sg)) else (none, (F_X0_get f iw))) else (none, (F_X5_toursThatAre f (iw - (2 : Int32)))))) else ((F_X6_needRange iw (0 : Int32) (17 : Int32)), (0 : Int32)))
set_option maxHeartbeats 4000000 in
set_option maxRecDepth 100000 in
theorem c_X6_number {l : Launch} {D : va_G} {k : tyK} (o t b t2 j h bt sn x ll r rg s0 : Nat) (hs : Int32) (fk : Int32) (f : (Nat → Int32)) (nx : Int32) (kp : Int32) (ln : Int32) (tp : Int32) (wd : Int32) (fi : Int32) (tw : Int32) (dy : Int32) (mn : Int32) (vl : Int32) (sg : (Nat → Int32)) (iw : Int32) (hlst : l.stackTraces = false) : FOi l yX6_number wsX6_number rm_X6_number D k [.ref o, .int iw] [(o, .inr (10, [.ref t, .ref b, .ref t2, .ref j, .ref h, .ref bt, .ref sn, .int hs, .ref x, .ref ll, .int fk])), (t, .inr (9, [.ref b])), (b, .inr (4, [.ref r])), (r, .inl (k.1, 628, .inl f)), (h, .inr (5, [.ref rg, .int nx, .int kp])), (x, .inr (8, [.ref s0, .int ln, .int tp, .int wd, .int fi, .int tw, .int dy, .int mn, .int vl])), (s0, .inl (k.2.1, 60, .inl sg))] (F_X6_number hs fk f nx kp ln tp wd fi tw dy mn vl sg iw).1 (F_X6_number hs fk f nx kp ln tp wd fi tw dy mn vl sg iw).2 [(o, .inr (10, [.ref t, .ref b, .ref t2, .ref j, .ref h, .ref bt, .ref sn, .int hs, .ref x, .ref ll, .int fk])), (t, .inr (9, [.ref b])), (b, .inr (4, [.ref r])), (r, .inl (k.1, 628, .inl f)), (h, .inr (5, [.ref rg, .int nx, .int kp])), (x, .inr (8, [.ref s0, .int ln, .int tp, .int wd, .int fi, .int tw, .int dy, .int mn, .int vl])), (s0, .inl (k.2.1, 60, .inl sg))] := by
  refine fo_start (cc := cX6_number) (maxL := 2) (ret := (some .int)) (own := RX6) (Qc := fun A => va_Qi (fun r (_ : Unit) => (F_X6_number hs fk f nx kp ln tp wd fi tw dy mn vl sg iw).1 = none ∧ r = (F_X6_number hs fk f nx kp ln tp wd fi tw dy mn vl sg iw).2) (Bt D (fun _ => [(o, .inr (10, [.ref t, .ref b, .ref t2, .ref j, .ref h, .ref bt, .ref sn, .int hs, .ref x, .ref ll, .int fk])), (t, .inr (9, [.ref b])), (b, .inr (4, [.ref r])), (r, .inl (k.1, 628, .inl f)), (h, .inr (5, [.ref rg, .int nx, .int kp])), (x, .inr (8, [.ref s0, .int ln, .int tp, .int wd, .int fi, .int tw, .int dy, .int mn, .int vl])), (s0, .inl (k.2.1, 60, .inl sg))]) A) A) (XC := fun A => XB D (F_X6_number hs fk f nx kp ln tp wd fi tw dy mn vl sg iw).1 [(o, .inr (10, [.ref t, .ref b, .ref t2, .ref j, .ref h, .ref bt, .ref sn, .int hs, .ref x, .ref ll, .int fk])), (t, .inr (9, [.ref b])), (b, .inr (4, [.ref r])), (r, .inl (k.1, 628, .inl f)), (h, .inr (5, [.ref rg, .int nx, .int kp])), (x, .inr (8, [.ref s0, .int ln, .int tp, .int wd, .int fi, .int tw, .int dy, .int mn, .int vl])), (s0, .inl (k.2.1, 60, .inl sg))] A) (by decide) rfl rfl (Nat.le_of_ble_eq_true rfl) ?_
  intro p e s m below meth c A H hx hb hml hr hts hown hlk hout hA hP hE hD hS ls hl
  obtain ⟨RES, hF⟩ : ∃ z, (F_X6_number hs fk f nx kp ln tp wd fi tw dy mn vl sg iw) = z := ⟨_, rfl⟩
  rw [hF]
  unfold F_X6_number at hF
  have hl : lv_has ls 2 [(0, .ref o), (1, .int iw)] := hl
  obtain ⟨locs, hlocs⟩ : ∃ z : List Loc, z = [] := ⟨_, rfl⟩
  rw [← hlocs] at hS ⊢
  refine lv_iload_n hx hb dX6_number_0 rfl (lv_at hl 1 rfl) ?_
  refine lv_iconst (v := 0) hx hb dX6_number_1 (by decide) ?_
  refine lv_bipush (v := 17) hx hb dX6_number_2 (by decide) ?_
  refine fo_cv (isC := []) (cells' := 1) (slots' := 6) (fo_runS (n := 3) (As := [.int iw, .int (0 : Int32), .int (17 : Int32)]) (rest := []) (isC := []) (maxL := 3) ⟨hx, hb, hml, hown, hts⟩ (c_X6_needRange iw (0 : Int32) (17 : Int32) hlst H.size) gX6_number_X6_needRange rfl (by decide +kernel) rfl ⟨Nat.le_of_ble_eq_true rfl, Nat.le_of_ble_eq_true rfl⟩ ⟨Nat.le_of_ble_eq_true rfl, Nat.le_of_ble_eq_true rfl⟩ hE hP hD hS hA rfl rfl hl rfl (Nat.le_of_ble_eq_true rfl) dX6_number_4) hP hD hS hA rfl rfl rfl rfl (fun E ce q9 H locs x_2 hP hD hS g1 g2 g3 => ?_) (fun H locs x_2 hP hD hS => ?_)
  · rw [if_neg (by rw [x_2]; exact fun z => nomatch z)] at hF
    dsimp only [fs, List.set] at hP hD
    have hP : va_P D vwCl [(o, .inr (10, [.ref t, .ref b, .ref t2, .ref j, .ref h, .ref bt, .ref sn, .int hs, .ref x, .ref ll, .int fk])), (t, .inr (9, [.ref b])), (b, .inr (4, [.ref r])), (r, .inl (k.1, 628, .inl f)), (h, .inr (5, [.ref rg, .int nx, .int kp])), (x, .inr (8, [.ref s0, .int ln, .int tp, .int wd, .int fi, .int tw, .int dy, .int mn, .int vl])), (s0, .inl (k.2.1, 60, .inl sg))] H := hP
    have hD : va_D A [(o, .inr (10, [.ref t, .ref b, .ref t2, .ref j, .ref h, .ref bt, .ref sn, .int hs, .ref x, .ref ll, .int fk])), (t, .inr (9, [.ref b])), (b, .inr (4, [.ref r])), (r, .inl (k.1, 628, .inl f)), (h, .inr (5, [.ref rg, .int nx, .int kp])), (x, .inr (8, [.ref s0, .int ln, .int tp, .int wd, .int fi, .int tw, .int dy, .int mn, .int vl])), (s0, .inl (k.2.1, 60, .inl sg))] := hD
    subst hF
    exact fo_out hout hlk g1 g2 g3 hS x_2 hP hD (by decide) (by decide)
  rw [if_pos x_2] at hF
  dsimp only [fs, List.set] at hP hD
  have hP : va_P D vwCl [(o, .inr (10, [.ref t, .ref b, .ref t2, .ref j, .ref h, .ref bt, .ref sn, .int hs, .ref x, .ref ll, .int fk])), (t, .inr (9, [.ref b])), (b, .inr (4, [.ref r])), (r, .inl (k.1, 628, .inl f)), (h, .inr (5, [.ref rg, .int nx, .int kp])), (x, .inr (8, [.ref s0, .int ln, .int tp, .int wd, .int fi, .int tw, .int dy, .int mn, .int vl])), (s0, .inl (k.2.1, 60, .inl sg))] H := hP
  have hD : va_D A [(o, .inr (10, [.ref t, .ref b, .ref t2, .ref j, .ref h, .ref bt, .ref sn, .int hs, .ref x, .ref ll, .int fk])), (t, .inr (9, [.ref b])), (b, .inr (4, [.ref r])), (r, .inl (k.1, 628, .inl f)), (h, .inr (5, [.ref rg, .int nx, .int kp])), (x, .inr (8, [.ref s0, .int ln, .int tp, .int wd, .int fi, .int tw, .int dy, .int mn, .int vl])), (s0, .inl (k.2.1, 60, .inl sg))] := hD
  refine lv_iload_n hx hb dX6_number_7 rfl (lv_at hl 1 rfl) ?_
  refine lv_iconst (v := 2) hx hb dX6_number_8 (by decide) ?_
  refine lv_icmp_lt (tgt := 29) hx hb dX6_number_9 (by decide) (fun c_3 => ?_) (fun c_3 => ?_)
  · rw [if_pos c_3] at hF
    refine lv_iload_n hx hb dX6_number_29 rfl (lv_at hl 1 rfl) ?_
    by_cases c_4 : iw = (14 : Int32)
    · rw [if_pos c_4] at hF
      refine lv_tableIn (tgt := 60) (off := 30) hx hb dX6_number_30 (by rw [c_4]; decide) (by rw [c_4]; decide) (by rw [c_4]; rfl) (by decide) ?_
      refine lv_aload_n hx hb dX6_number_60 rfl (lv_at hl 0 rfl) ?_
      refine va_get (D := D) (ci := 10) (v := .ref t) (C := RX6) (T := TX6) (N := 11) hx hb hts in_X6_number_X6 hown hE.1 hP 0 rfl rfl 0 (by decide) (hts _ lk_X6_number_12) (fun _ h9 => h9) rfl dX6_number_61 ?_
      refine fc_ci (isC := [1, 2, 3]) (cells' := 1) (slots' := 6) (fc_runV (n := 0) (As := []) (rest := []) (isC := [1, 2, 3]) (maxL := 3) ⟨hx, hb, hml, hown, hts⟩ (c_X5_openTowns t b r f H.size) gX6_number_X5_openTowns rfl (by decide +kernel) rfl ⟨Nat.le_of_ble_eq_true rfl, Nat.le_of_ble_eq_true rfl⟩ ⟨Nat.le_of_ble_eq_true rfl, Nat.le_of_ble_eq_true rfl⟩ hE hP hD hS hA rfl rfl (va_recv hE.1 hP (ci := 9) (q0 := 1) rfl rfl) hl rfl (Nat.le_of_ble_eq_true rfl) dX6_number_64) hP hD hS hA rfl (fun _ => rfl) rfl rfl (fun r_5 _ H locs hr_5 hP hD hS => ?_)
      obtain rfl : (F_X5_openTowns f) = r_5 := hr_5.symm
      dsimp only [fs, List.set] at hP hD
      have hP : va_P D vwCl [(o, .inr (10, [.ref t, .ref b, .ref t2, .ref j, .ref h, .ref bt, .ref sn, .int hs, .ref x, .ref ll, .int fk])), (t, .inr (9, [.ref b])), (b, .inr (4, [.ref r])), (r, .inl (k.1, 628, .inl f)), (h, .inr (5, [.ref rg, .int nx, .int kp])), (x, .inr (8, [.ref s0, .int ln, .int tp, .int wd, .int fi, .int tw, .int dy, .int mn, .int vl])), (s0, .inl (k.2.1, 60, .inl sg))] H := hP
      have hD : va_D A [(o, .inr (10, [.ref t, .ref b, .ref t2, .ref j, .ref h, .ref bt, .ref sn, .int hs, .ref x, .ref ll, .int fk])), (t, .inr (9, [.ref b])), (b, .inr (4, [.ref r])), (r, .inl (k.1, 628, .inl f)), (h, .inr (5, [.ref rg, .int nx, .int kp])), (x, .inr (8, [.ref s0, .int ln, .int tp, .int wd, .int fi, .int tw, .int dy, .int mn, .int vl])), (s0, .inl (k.2.1, 60, .inl sg))] := hD
      subst hF
      exact fo_iret hx hb hr rfl hlk hS rfl rfl hP hD (by decide) (by decide) dX6_number_67
    rw [if_neg c_4] at hF
    by_cases c_6 : iw = (15 : Int32)
    · rw [if_pos c_6] at hF
      refine lv_tableIn (tgt := 68) (off := 38) hx hb dX6_number_30 (by rw [c_6]; decide) (by rw [c_6]; decide) (by rw [c_6]; rfl) (by decide) ?_
      refine lv_aload_n hx hb dX6_number_68 rfl (lv_at hl 0 rfl) ?_
      refine va_get (D := D) (ci := 10) (v := .ref t) (C := RX6) (T := TX6) (N := 11) hx hb hts in_X6_number_X6 hown hE.1 hP 0 rfl rfl 0 (by decide) (hts _ lk_X6_number_12) (fun _ h9 => h9) rfl dX6_number_69 ?_
      refine lv_iconst (v := 3) hx hb dX6_number_72 (by decide) ?_
      refine fc_ci (isC := [1, 2, 3]) (cells' := 1) (slots' := 6) (fc_runV (n := 1) (As := [.int (3 : Int32)]) (rest := []) (isC := [1, 2, 3]) (maxL := 4) ⟨hx, hb, hml, hown, hts⟩ (c_X5_sumOfTours t b r f (3 : Int32) H.size) gX6_number_X5_sumOfTours rfl (by decide +kernel) rfl ⟨Nat.le_of_ble_eq_true rfl, Nat.le_of_ble_eq_true rfl⟩ ⟨Nat.le_of_ble_eq_true rfl, Nat.le_of_ble_eq_true rfl⟩ hE hP hD hS hA rfl rfl (va_recv hE.1 hP (ci := 9) (q0 := 1) rfl rfl) hl rfl (Nat.le_of_ble_eq_true rfl) dX6_number_73) hP hD hS hA rfl (fun _ => rfl) rfl rfl (fun r_7 _ H locs hr_7 hP hD hS => ?_)
      obtain rfl : (F_X5_sumOfTours f (3 : Int32)) = r_7 := hr_7.symm
      dsimp only [fs, List.set] at hP hD
      have hP : va_P D vwCl [(o, .inr (10, [.ref t, .ref b, .ref t2, .ref j, .ref h, .ref bt, .ref sn, .int hs, .ref x, .ref ll, .int fk])), (t, .inr (9, [.ref b])), (b, .inr (4, [.ref r])), (r, .inl (k.1, 628, .inl f)), (h, .inr (5, [.ref rg, .int nx, .int kp])), (x, .inr (8, [.ref s0, .int ln, .int tp, .int wd, .int fi, .int tw, .int dy, .int mn, .int vl])), (s0, .inl (k.2.1, 60, .inl sg))] H := hP
      have hD : va_D A [(o, .inr (10, [.ref t, .ref b, .ref t2, .ref j, .ref h, .ref bt, .ref sn, .int hs, .ref x, .ref ll, .int fk])), (t, .inr (9, [.ref b])), (b, .inr (4, [.ref r])), (r, .inl (k.1, 628, .inl f)), (h, .inr (5, [.ref rg, .int nx, .int kp])), (x, .inr (8, [.ref s0, .int ln, .int tp, .int wd, .int fi, .int tw, .int dy, .int mn, .int vl])), (s0, .inl (k.2.1, 60, .inl sg))] := hD
      subst hF
      exact fo_iret hx hb hr rfl hlk hS rfl rfl hP hD (by decide) (by decide) dX6_number_76
    rw [if_neg c_6] at hF
    by_cases c_8 : iw = (16 : Int32)
    · rw [if_pos c_8] at hF
      refine lv_tableIn (tgt := 77) (off := 47) hx hb dX6_number_30 (by rw [c_8]; decide) (by rw [c_8]; decide) (by rw [c_8]; rfl) (by decide) ?_
      refine lv_aload_n hx hb dX6_number_77 rfl (lv_at hl 0 rfl) ?_
      refine va_get (D := D) (ci := 10) (v := .ref h) (C := RX6) (T := TX6) (N := 11) hx hb hts in_X6_number_X6 hown hE.1 hP 0 rfl rfl 4 (by decide) (hts _ lk_X6_number_34) (fun _ h9 => h9) rfl dX6_number_78 ?_
      refine fc_ci (isC := [4]) (cells' := 1) (slots' := 6) (fc_runV (n := 0) (As := []) (rest := []) (isC := [4]) (maxL := 1) ⟨hx, hb, hml, hown, hts⟩ (c_X1_count h rg nx kp H.size) gX6_number_X1_count rfl (by decide +kernel) rfl ⟨Nat.le_of_ble_eq_true rfl, Nat.le_of_ble_eq_true rfl⟩ ⟨Nat.le_of_ble_eq_true rfl, Nat.le_of_ble_eq_true rfl⟩ hE hP hD hS hA rfl rfl (va_recv hE.1 hP (ci := 5) (q0 := 4) rfl rfl) hl rfl (Nat.le_of_ble_eq_true rfl) dX6_number_81) hP hD hS hA rfl (fun _ => rfl) rfl rfl (fun r_9 _ H locs hr_9 hP hD hS => ?_)
      obtain rfl : (F_X1_count nx kp) = r_9 := hr_9.symm
      dsimp only [fs, List.set] at hP hD
      have hP : va_P D vwCl [(o, .inr (10, [.ref t, .ref b, .ref t2, .ref j, .ref h, .ref bt, .ref sn, .int hs, .ref x, .ref ll, .int fk])), (t, .inr (9, [.ref b])), (b, .inr (4, [.ref r])), (r, .inl (k.1, 628, .inl f)), (h, .inr (5, [.ref rg, .int nx, .int kp])), (x, .inr (8, [.ref s0, .int ln, .int tp, .int wd, .int fi, .int tw, .int dy, .int mn, .int vl])), (s0, .inl (k.2.1, 60, .inl sg))] H := hP
      have hD : va_D A [(o, .inr (10, [.ref t, .ref b, .ref t2, .ref j, .ref h, .ref bt, .ref sn, .int hs, .ref x, .ref ll, .int fk])), (t, .inr (9, [.ref b])), (b, .inr (4, [.ref r])), (r, .inl (k.1, 628, .inl f)), (h, .inr (5, [.ref rg, .int nx, .int kp])), (x, .inr (8, [.ref s0, .int ln, .int tp, .int wd, .int fi, .int tw, .int dy, .int mn, .int vl])), (s0, .inl (k.2.1, 60, .inl sg))] := hD
      subst hF
      exact fo_iret hx hb hr rfl hlk hS rfl rfl hP hD (by decide) (by decide) dX6_number_84
    rw [if_neg c_8] at hF
    by_cases c_10 : iw = (17 : Int32)
    · rw [if_pos c_10] at hF
      refine lv_tableIn (tgt := 85) (off := 55) hx hb dX6_number_30 (by rw [c_10]; decide) (by rw [c_10]; decide) (by rw [c_10]; rfl) (by decide) ?_
      refine lv_aload_n hx hb dX6_number_85 rfl (lv_at hl 0 rfl) ?_
      refine va_get (D := D) (ci := 10) (v := .ref x) (C := RX6) (T := TX6) (N := 11) hx hb hts in_X6_number_X6 hown hE.1 hP 0 rfl rfl 8 (by decide) (hts _ lk_X6_number_54) (fun _ h9 => h9) rfl dX6_number_86 ?_
      refine fc_ci (isC := [5, 6]) (cells' := 1) (slots' := 6) (fc_runV (n := 0) (As := []) (rest := []) (isC := [5, 6]) (maxL := 1) ⟨hx, hb, hml, hown, hts⟩ (c_X4_length x s0 ln tp wd fi tw dy mn vl sg H.size) gX6_number_X4_length rfl (by decide +kernel) rfl ⟨Nat.le_of_ble_eq_true rfl, Nat.le_of_ble_eq_true rfl⟩ ⟨Nat.le_of_ble_eq_true rfl, Nat.le_of_ble_eq_true rfl⟩ hE hP hD hS hA rfl rfl (va_recv hE.1 hP (ci := 8) (q0 := 5) rfl rfl) hl rfl (Nat.le_of_ble_eq_true rfl) dX6_number_89) hP hD hS hA rfl (fun _ => rfl) rfl rfl (fun r_11 _ H locs hr_11 hP hD hS => ?_)
      obtain rfl : (F_X4_length ln tp wd fi tw dy mn vl sg) = r_11 := hr_11.symm
      dsimp only [fs, List.set] at hP hD
      have hP : va_P D vwCl [(o, .inr (10, [.ref t, .ref b, .ref t2, .ref j, .ref h, .ref bt, .ref sn, .int hs, .ref x, .ref ll, .int fk])), (t, .inr (9, [.ref b])), (b, .inr (4, [.ref r])), (r, .inl (k.1, 628, .inl f)), (h, .inr (5, [.ref rg, .int nx, .int kp])), (x, .inr (8, [.ref s0, .int ln, .int tp, .int wd, .int fi, .int tw, .int dy, .int mn, .int vl])), (s0, .inl (k.2.1, 60, .inl sg))] H := hP
      have hD : va_D A [(o, .inr (10, [.ref t, .ref b, .ref t2, .ref j, .ref h, .ref bt, .ref sn, .int hs, .ref x, .ref ll, .int fk])), (t, .inr (9, [.ref b])), (b, .inr (4, [.ref r])), (r, .inl (k.1, 628, .inl f)), (h, .inr (5, [.ref rg, .int nx, .int kp])), (x, .inr (8, [.ref s0, .int ln, .int tp, .int wd, .int fi, .int tw, .int dy, .int mn, .int vl])), (s0, .inl (k.2.1, 60, .inl sg))] := hD
      subst hF
      exact fo_iret hx hb hr rfl hlk hS rfl rfl hP hD (by decide) (by decide) dX6_number_92
    rw [if_neg c_10] at hF
    refine lv_tableOut (tgt := 93) hx hb dX6_number_30 (by have z := And.intro (i32_ne (n := 14) rfl c_4) True.intro; have z0 := i32_ne (n := 14) rfl c_4; have z1 := i32_ne (n := 15) rfl c_6; have z2 := i32_ne (n := 16) rfl c_8; have z3 := i32_ne (n := 17) rfl c_10; omega) (by decide) ?_
    refine lv_aload_n hx hb dX6_number_93 rfl (lv_at hl 0 rfl) ?_
    refine va_get (D := D) (ci := 10) (v := .ref b) (C := RX6) (T := TX6) (N := 11) hx hb hts in_X6_number_X6 hown hE.1 hP 0 rfl rfl 1 (by decide) (hts _ lk_X6_number_20) (fun _ h9 => h9) rfl dX6_number_94 ?_
    refine lv_iload_n hx hb dX6_number_97 rfl (lv_at hl 1 rfl) ?_
    refine fc_ci (isC := [2, 3]) (cells' := 1) (slots' := 6) (fc_runV (n := 1) (As := [.int iw]) (rest := []) (isC := [2, 3]) (maxL := 2) ⟨hx, hb, hml, hown, hts⟩ (c_X0_get b r f iw H.size) gX6_number_X0_get rfl (by decide +kernel) rfl ⟨Nat.le_of_ble_eq_true rfl, Nat.le_of_ble_eq_true rfl⟩ ⟨Nat.le_of_ble_eq_true rfl, Nat.le_of_ble_eq_true rfl⟩ hE hP hD hS hA rfl rfl (va_recv hE.1 hP (ci := 4) (q0 := 2) rfl rfl) hl rfl (Nat.le_of_ble_eq_true rfl) dX6_number_98) hP hD hS hA rfl (fun _ => rfl) rfl rfl (fun r_12 _ H locs hr_12 hP hD hS => ?_)
    obtain rfl : (F_X0_get f iw) = r_12 := hr_12.symm
    dsimp only [fs, List.set] at hP hD
    have hP : va_P D vwCl [(o, .inr (10, [.ref t, .ref b, .ref t2, .ref j, .ref h, .ref bt, .ref sn, .int hs, .ref x, .ref ll, .int fk])), (t, .inr (9, [.ref b])), (b, .inr (4, [.ref r])), (r, .inl (k.1, 628, .inl f)), (h, .inr (5, [.ref rg, .int nx, .int kp])), (x, .inr (8, [.ref s0, .int ln, .int tp, .int wd, .int fi, .int tw, .int dy, .int mn, .int vl])), (s0, .inl (k.2.1, 60, .inl sg))] H := hP
    have hD : va_D A [(o, .inr (10, [.ref t, .ref b, .ref t2, .ref j, .ref h, .ref bt, .ref sn, .int hs, .ref x, .ref ll, .int fk])), (t, .inr (9, [.ref b])), (b, .inr (4, [.ref r])), (r, .inl (k.1, 628, .inl f)), (h, .inr (5, [.ref rg, .int nx, .int kp])), (x, .inr (8, [.ref s0, .int ln, .int tp, .int wd, .int fi, .int tw, .int dy, .int mn, .int vl])), (s0, .inl (k.2.1, 60, .inl sg))] := hD
    subst hF
    exact fo_iret hx hb hr rfl hlk hS rfl rfl hP hD (by decide) (by decide) dX6_number_101
  · rw [if_neg c_3] at hF
    refine lv_iload_n hx hb dX6_number_12 rfl (lv_at hl 1 rfl) ?_
    refine lv_bipush (v := 6) hx hb dX6_number_13 (by decide) ?_
    refine lv_icmp_gt (tgt := 29) hx hb dX6_number_15 (by decide) (fun c_13 => ?_) (fun c_13 => ?_)
    · rw [if_pos c_13] at hF
      refine lv_iload_n hx hb dX6_number_29 rfl (lv_at hl 1 rfl) ?_
      by_cases c_14 : iw = (14 : Int32)
      · rw [if_pos c_14] at hF
        refine lv_tableIn (tgt := 60) (off := 30) hx hb dX6_number_30 (by rw [c_14]; decide) (by rw [c_14]; decide) (by rw [c_14]; rfl) (by decide) ?_
        refine lv_aload_n hx hb dX6_number_60 rfl (lv_at hl 0 rfl) ?_
        refine va_get (D := D) (ci := 10) (v := .ref t) (C := RX6) (T := TX6) (N := 11) hx hb hts in_X6_number_X6 hown hE.1 hP 0 rfl rfl 0 (by decide) (hts _ lk_X6_number_12) (fun _ h9 => h9) rfl dX6_number_61 ?_
        refine fc_ci (isC := [1, 2, 3]) (cells' := 1) (slots' := 6) (fc_runV (n := 0) (As := []) (rest := []) (isC := [1, 2, 3]) (maxL := 3) ⟨hx, hb, hml, hown, hts⟩ (c_X5_openTowns t b r f H.size) gX6_number_X5_openTowns rfl (by decide +kernel) rfl ⟨Nat.le_of_ble_eq_true rfl, Nat.le_of_ble_eq_true rfl⟩ ⟨Nat.le_of_ble_eq_true rfl, Nat.le_of_ble_eq_true rfl⟩ hE hP hD hS hA rfl rfl (va_recv hE.1 hP (ci := 9) (q0 := 1) rfl rfl) hl rfl (Nat.le_of_ble_eq_true rfl) dX6_number_64) hP hD hS hA rfl (fun _ => rfl) rfl rfl (fun r_15 _ H locs hr_15 hP hD hS => ?_)
        obtain rfl : (F_X5_openTowns f) = r_15 := hr_15.symm
        dsimp only [fs, List.set] at hP hD
        have hP : va_P D vwCl [(o, .inr (10, [.ref t, .ref b, .ref t2, .ref j, .ref h, .ref bt, .ref sn, .int hs, .ref x, .ref ll, .int fk])), (t, .inr (9, [.ref b])), (b, .inr (4, [.ref r])), (r, .inl (k.1, 628, .inl f)), (h, .inr (5, [.ref rg, .int nx, .int kp])), (x, .inr (8, [.ref s0, .int ln, .int tp, .int wd, .int fi, .int tw, .int dy, .int mn, .int vl])), (s0, .inl (k.2.1, 60, .inl sg))] H := hP
        have hD : va_D A [(o, .inr (10, [.ref t, .ref b, .ref t2, .ref j, .ref h, .ref bt, .ref sn, .int hs, .ref x, .ref ll, .int fk])), (t, .inr (9, [.ref b])), (b, .inr (4, [.ref r])), (r, .inl (k.1, 628, .inl f)), (h, .inr (5, [.ref rg, .int nx, .int kp])), (x, .inr (8, [.ref s0, .int ln, .int tp, .int wd, .int fi, .int tw, .int dy, .int mn, .int vl])), (s0, .inl (k.2.1, 60, .inl sg))] := hD
        subst hF
        exact fo_iret hx hb hr rfl hlk hS rfl rfl hP hD (by decide) (by decide) dX6_number_67
      rw [if_neg c_14] at hF
      by_cases c_16 : iw = (15 : Int32)
      · rw [if_pos c_16] at hF
        refine lv_tableIn (tgt := 68) (off := 38) hx hb dX6_number_30 (by rw [c_16]; decide) (by rw [c_16]; decide) (by rw [c_16]; rfl) (by decide) ?_
        refine lv_aload_n hx hb dX6_number_68 rfl (lv_at hl 0 rfl) ?_
        refine va_get (D := D) (ci := 10) (v := .ref t) (C := RX6) (T := TX6) (N := 11) hx hb hts in_X6_number_X6 hown hE.1 hP 0 rfl rfl 0 (by decide) (hts _ lk_X6_number_12) (fun _ h9 => h9) rfl dX6_number_69 ?_
        refine lv_iconst (v := 3) hx hb dX6_number_72 (by decide) ?_
        refine fc_ci (isC := [1, 2, 3]) (cells' := 1) (slots' := 6) (fc_runV (n := 1) (As := [.int (3 : Int32)]) (rest := []) (isC := [1, 2, 3]) (maxL := 4) ⟨hx, hb, hml, hown, hts⟩ (c_X5_sumOfTours t b r f (3 : Int32) H.size) gX6_number_X5_sumOfTours rfl (by decide +kernel) rfl ⟨Nat.le_of_ble_eq_true rfl, Nat.le_of_ble_eq_true rfl⟩ ⟨Nat.le_of_ble_eq_true rfl, Nat.le_of_ble_eq_true rfl⟩ hE hP hD hS hA rfl rfl (va_recv hE.1 hP (ci := 9) (q0 := 1) rfl rfl) hl rfl (Nat.le_of_ble_eq_true rfl) dX6_number_73) hP hD hS hA rfl (fun _ => rfl) rfl rfl (fun r_17 _ H locs hr_17 hP hD hS => ?_)
        obtain rfl : (F_X5_sumOfTours f (3 : Int32)) = r_17 := hr_17.symm
        dsimp only [fs, List.set] at hP hD
        have hP : va_P D vwCl [(o, .inr (10, [.ref t, .ref b, .ref t2, .ref j, .ref h, .ref bt, .ref sn, .int hs, .ref x, .ref ll, .int fk])), (t, .inr (9, [.ref b])), (b, .inr (4, [.ref r])), (r, .inl (k.1, 628, .inl f)), (h, .inr (5, [.ref rg, .int nx, .int kp])), (x, .inr (8, [.ref s0, .int ln, .int tp, .int wd, .int fi, .int tw, .int dy, .int mn, .int vl])), (s0, .inl (k.2.1, 60, .inl sg))] H := hP
        have hD : va_D A [(o, .inr (10, [.ref t, .ref b, .ref t2, .ref j, .ref h, .ref bt, .ref sn, .int hs, .ref x, .ref ll, .int fk])), (t, .inr (9, [.ref b])), (b, .inr (4, [.ref r])), (r, .inl (k.1, 628, .inl f)), (h, .inr (5, [.ref rg, .int nx, .int kp])), (x, .inr (8, [.ref s0, .int ln, .int tp, .int wd, .int fi, .int tw, .int dy, .int mn, .int vl])), (s0, .inl (k.2.1, 60, .inl sg))] := hD
        subst hF
        exact fo_iret hx hb hr rfl hlk hS rfl rfl hP hD (by decide) (by decide) dX6_number_76
      rw [if_neg c_16] at hF
      by_cases c_18 : iw = (16 : Int32)
      · rw [if_pos c_18] at hF
        refine lv_tableIn (tgt := 77) (off := 47) hx hb dX6_number_30 (by rw [c_18]; decide) (by rw [c_18]; decide) (by rw [c_18]; rfl) (by decide) ?_
        refine lv_aload_n hx hb dX6_number_77 rfl (lv_at hl 0 rfl) ?_
        refine va_get (D := D) (ci := 10) (v := .ref h) (C := RX6) (T := TX6) (N := 11) hx hb hts in_X6_number_X6 hown hE.1 hP 0 rfl rfl 4 (by decide) (hts _ lk_X6_number_34) (fun _ h9 => h9) rfl dX6_number_78 ?_
        refine fc_ci (isC := [4]) (cells' := 1) (slots' := 6) (fc_runV (n := 0) (As := []) (rest := []) (isC := [4]) (maxL := 1) ⟨hx, hb, hml, hown, hts⟩ (c_X1_count h rg nx kp H.size) gX6_number_X1_count rfl (by decide +kernel) rfl ⟨Nat.le_of_ble_eq_true rfl, Nat.le_of_ble_eq_true rfl⟩ ⟨Nat.le_of_ble_eq_true rfl, Nat.le_of_ble_eq_true rfl⟩ hE hP hD hS hA rfl rfl (va_recv hE.1 hP (ci := 5) (q0 := 4) rfl rfl) hl rfl (Nat.le_of_ble_eq_true rfl) dX6_number_81) hP hD hS hA rfl (fun _ => rfl) rfl rfl (fun r_19 _ H locs hr_19 hP hD hS => ?_)
        obtain rfl : (F_X1_count nx kp) = r_19 := hr_19.symm
        dsimp only [fs, List.set] at hP hD
        have hP : va_P D vwCl [(o, .inr (10, [.ref t, .ref b, .ref t2, .ref j, .ref h, .ref bt, .ref sn, .int hs, .ref x, .ref ll, .int fk])), (t, .inr (9, [.ref b])), (b, .inr (4, [.ref r])), (r, .inl (k.1, 628, .inl f)), (h, .inr (5, [.ref rg, .int nx, .int kp])), (x, .inr (8, [.ref s0, .int ln, .int tp, .int wd, .int fi, .int tw, .int dy, .int mn, .int vl])), (s0, .inl (k.2.1, 60, .inl sg))] H := hP
        have hD : va_D A [(o, .inr (10, [.ref t, .ref b, .ref t2, .ref j, .ref h, .ref bt, .ref sn, .int hs, .ref x, .ref ll, .int fk])), (t, .inr (9, [.ref b])), (b, .inr (4, [.ref r])), (r, .inl (k.1, 628, .inl f)), (h, .inr (5, [.ref rg, .int nx, .int kp])), (x, .inr (8, [.ref s0, .int ln, .int tp, .int wd, .int fi, .int tw, .int dy, .int mn, .int vl])), (s0, .inl (k.2.1, 60, .inl sg))] := hD
        subst hF
        exact fo_iret hx hb hr rfl hlk hS rfl rfl hP hD (by decide) (by decide) dX6_number_84
      rw [if_neg c_18] at hF
      by_cases c_20 : iw = (17 : Int32)
      · rw [if_pos c_20] at hF
        refine lv_tableIn (tgt := 85) (off := 55) hx hb dX6_number_30 (by rw [c_20]; decide) (by rw [c_20]; decide) (by rw [c_20]; rfl) (by decide) ?_
        refine lv_aload_n hx hb dX6_number_85 rfl (lv_at hl 0 rfl) ?_
        refine va_get (D := D) (ci := 10) (v := .ref x) (C := RX6) (T := TX6) (N := 11) hx hb hts in_X6_number_X6 hown hE.1 hP 0 rfl rfl 8 (by decide) (hts _ lk_X6_number_54) (fun _ h9 => h9) rfl dX6_number_86 ?_
        refine fc_ci (isC := [5, 6]) (cells' := 1) (slots' := 6) (fc_runV (n := 0) (As := []) (rest := []) (isC := [5, 6]) (maxL := 1) ⟨hx, hb, hml, hown, hts⟩ (c_X4_length x s0 ln tp wd fi tw dy mn vl sg H.size) gX6_number_X4_length rfl (by decide +kernel) rfl ⟨Nat.le_of_ble_eq_true rfl, Nat.le_of_ble_eq_true rfl⟩ ⟨Nat.le_of_ble_eq_true rfl, Nat.le_of_ble_eq_true rfl⟩ hE hP hD hS hA rfl rfl (va_recv hE.1 hP (ci := 8) (q0 := 5) rfl rfl) hl rfl (Nat.le_of_ble_eq_true rfl) dX6_number_89) hP hD hS hA rfl (fun _ => rfl) rfl rfl (fun r_21 _ H locs hr_21 hP hD hS => ?_)
        obtain rfl : (F_X4_length ln tp wd fi tw dy mn vl sg) = r_21 := hr_21.symm
        dsimp only [fs, List.set] at hP hD
        have hP : va_P D vwCl [(o, .inr (10, [.ref t, .ref b, .ref t2, .ref j, .ref h, .ref bt, .ref sn, .int hs, .ref x, .ref ll, .int fk])), (t, .inr (9, [.ref b])), (b, .inr (4, [.ref r])), (r, .inl (k.1, 628, .inl f)), (h, .inr (5, [.ref rg, .int nx, .int kp])), (x, .inr (8, [.ref s0, .int ln, .int tp, .int wd, .int fi, .int tw, .int dy, .int mn, .int vl])), (s0, .inl (k.2.1, 60, .inl sg))] H := hP
        have hD : va_D A [(o, .inr (10, [.ref t, .ref b, .ref t2, .ref j, .ref h, .ref bt, .ref sn, .int hs, .ref x, .ref ll, .int fk])), (t, .inr (9, [.ref b])), (b, .inr (4, [.ref r])), (r, .inl (k.1, 628, .inl f)), (h, .inr (5, [.ref rg, .int nx, .int kp])), (x, .inr (8, [.ref s0, .int ln, .int tp, .int wd, .int fi, .int tw, .int dy, .int mn, .int vl])), (s0, .inl (k.2.1, 60, .inl sg))] := hD
        subst hF
        exact fo_iret hx hb hr rfl hlk hS rfl rfl hP hD (by decide) (by decide) dX6_number_92
      rw [if_neg c_20] at hF
      refine lv_tableOut (tgt := 93) hx hb dX6_number_30 (by have z := And.intro (i32_ne (n := 14) rfl c_14) True.intro; have z0 := i32_ne (n := 14) rfl c_14; have z1 := i32_ne (n := 15) rfl c_16; have z2 := i32_ne (n := 16) rfl c_18; have z3 := i32_ne (n := 17) rfl c_20; omega) (by decide) ?_
      refine lv_aload_n hx hb dX6_number_93 rfl (lv_at hl 0 rfl) ?_
      refine va_get (D := D) (ci := 10) (v := .ref b) (C := RX6) (T := TX6) (N := 11) hx hb hts in_X6_number_X6 hown hE.1 hP 0 rfl rfl 1 (by decide) (hts _ lk_X6_number_20) (fun _ h9 => h9) rfl dX6_number_94 ?_
      refine lv_iload_n hx hb dX6_number_97 rfl (lv_at hl 1 rfl) ?_
      refine fc_ci (isC := [2, 3]) (cells' := 1) (slots' := 6) (fc_runV (n := 1) (As := [.int iw]) (rest := []) (isC := [2, 3]) (maxL := 2) ⟨hx, hb, hml, hown, hts⟩ (c_X0_get b r f iw H.size) gX6_number_X0_get rfl (by decide +kernel) rfl ⟨Nat.le_of_ble_eq_true rfl, Nat.le_of_ble_eq_true rfl⟩ ⟨Nat.le_of_ble_eq_true rfl, Nat.le_of_ble_eq_true rfl⟩ hE hP hD hS hA rfl rfl (va_recv hE.1 hP (ci := 4) (q0 := 2) rfl rfl) hl rfl (Nat.le_of_ble_eq_true rfl) dX6_number_98) hP hD hS hA rfl (fun _ => rfl) rfl rfl (fun r_22 _ H locs hr_22 hP hD hS => ?_)
      obtain rfl : (F_X0_get f iw) = r_22 := hr_22.symm
      dsimp only [fs, List.set] at hP hD
      have hP : va_P D vwCl [(o, .inr (10, [.ref t, .ref b, .ref t2, .ref j, .ref h, .ref bt, .ref sn, .int hs, .ref x, .ref ll, .int fk])), (t, .inr (9, [.ref b])), (b, .inr (4, [.ref r])), (r, .inl (k.1, 628, .inl f)), (h, .inr (5, [.ref rg, .int nx, .int kp])), (x, .inr (8, [.ref s0, .int ln, .int tp, .int wd, .int fi, .int tw, .int dy, .int mn, .int vl])), (s0, .inl (k.2.1, 60, .inl sg))] H := hP
      have hD : va_D A [(o, .inr (10, [.ref t, .ref b, .ref t2, .ref j, .ref h, .ref bt, .ref sn, .int hs, .ref x, .ref ll, .int fk])), (t, .inr (9, [.ref b])), (b, .inr (4, [.ref r])), (r, .inl (k.1, 628, .inl f)), (h, .inr (5, [.ref rg, .int nx, .int kp])), (x, .inr (8, [.ref s0, .int ln, .int tp, .int wd, .int fi, .int tw, .int dy, .int mn, .int vl])), (s0, .inl (k.2.1, 60, .inl sg))] := hD
      subst hF
      exact fo_iret hx hb hr rfl hlk hS rfl rfl hP hD (by decide) (by decide) dX6_number_101
    · rw [if_neg c_13] at hF
      refine lv_aload_n hx hb dX6_number_18 rfl (lv_at hl 0 rfl) ?_
      refine va_get (D := D) (ci := 10) (v := .ref t) (C := RX6) (T := TX6) (N := 11) hx hb hts in_X6_number_X6 hown hE.1 hP 0 rfl rfl 0 (by decide) (hts _ lk_X6_number_12) (fun _ h9 => h9) rfl dX6_number_19 ?_
      refine lv_iload_n hx hb dX6_number_22 rfl (lv_at hl 1 rfl) ?_
      refine lv_iconst (v := 2) hx hb dX6_number_23 (by decide) ?_
      refine lv_isub hx hb dX6_number_24 ?_
      refine fc_ci (isC := [1, 2, 3]) (cells' := 1) (slots' := 6) (fc_runV (n := 1) (As := [.int (iw - (2 : Int32))]) (rest := []) (isC := [1, 2, 3]) (maxL := 4) ⟨hx, hb, hml, hown, hts⟩ (c_X5_toursThatAre t b r f (iw - (2 : Int32)) H.size) gX6_number_X5_toursThatAre rfl (by decide +kernel) rfl ⟨Nat.le_of_ble_eq_true rfl, Nat.le_of_ble_eq_true rfl⟩ ⟨Nat.le_of_ble_eq_true rfl, Nat.le_of_ble_eq_true rfl⟩ hE hP hD hS hA rfl rfl (va_recv hE.1 hP (ci := 9) (q0 := 1) rfl rfl) hl rfl (Nat.le_of_ble_eq_true rfl) dX6_number_25) hP hD hS hA rfl (fun _ => rfl) rfl rfl (fun r_23 _ H locs hr_23 hP hD hS => ?_)
      obtain rfl : (F_X5_toursThatAre f (iw - (2 : Int32))) = r_23 := hr_23.symm
      dsimp only [fs, List.set] at hP hD
      have hP : va_P D vwCl [(o, .inr (10, [.ref t, .ref b, .ref t2, .ref j, .ref h, .ref bt, .ref sn, .int hs, .ref x, .ref ll, .int fk])), (t, .inr (9, [.ref b])), (b, .inr (4, [.ref r])), (r, .inl (k.1, 628, .inl f)), (h, .inr (5, [.ref rg, .int nx, .int kp])), (x, .inr (8, [.ref s0, .int ln, .int tp, .int wd, .int fi, .int tw, .int dy, .int mn, .int vl])), (s0, .inl (k.2.1, 60, .inl sg))] H := hP
      have hD : va_D A [(o, .inr (10, [.ref t, .ref b, .ref t2, .ref j, .ref h, .ref bt, .ref sn, .int hs, .ref x, .ref ll, .int fk])), (t, .inr (9, [.ref b])), (b, .inr (4, [.ref r])), (r, .inl (k.1, 628, .inl f)), (h, .inr (5, [.ref rg, .int nx, .int kp])), (x, .inr (8, [.ref s0, .int ln, .int tp, .int wd, .int fi, .int tw, .int dy, .int mn, .int vl])), (s0, .inl (k.2.1, 60, .inl sg))] := hD
      subst hF
      exact fo_iret hx hb hr rfl hlk hS rfl rfl hP hD (by decide) (by decide) dX6_number_28

abbrev rm_X6_coinsAgain : Room := { frames := 2, cells := 0, slots := 0, locals := 44 }
theorem in_X6_coinsAgain_X6 : ∀ w ∈ wsX60, w ∈ wsX6_coinsAgain := by decide +kernel
theorem lk_X6_coinsAgain_12 : (Cond.fieldLink RX6 12 "TheatreSaga" "theatre" "LTheatreSaga$Theatre;") ∈ wsX6_coinsAgain := by decide +kernel
theorem lk_X6_coinsAgain_20 : (Cond.fieldLink RX6 20 "TheatreSaga" "books" "LTheatreSaga$Books;") ∈ wsX6_coinsAgain := by decide +kernel
def F_X6_coinsAgain (hs : Int32) (fk : Int32) (f : (Nat → Int32))  : Int32 := ((((100 : Int32) + ((F_X5_sumOfTours f (7 : Int32)) + (F_X5_sumOfTours f (8 : Int32)))) - (F_X5_sumOfTours f (6 : Int32))) - (F_X0_get f (11 : Int32)))
set_option maxHeartbeats 4000000 in
set_option maxRecDepth 100000 in
theorem c_X6_coinsAgain {l : Launch} {D : va_G} {k : tyK} (o t b t2 j h bt sn x ll r : Nat) (hs : Int32) (fk : Int32) (f : (Nat → Int32))  : FCi l yX6_coinsAgain wsX6_coinsAgain rm_X6_coinsAgain D k [.ref o] [(o, .inr (10, [.ref t, .ref b, .ref t2, .ref j, .ref h, .ref bt, .ref sn, .int hs, .ref x, .ref ll, .int fk])), (t, .inr (9, [.ref b])), (b, .inr (4, [.ref r])), (r, .inl (k.1, 628, .inl f))] (fun r (_ : Unit) => r = (F_X6_coinsAgain hs fk f)) (fun _ => [(o, .inr (10, [.ref t, .ref b, .ref t2, .ref j, .ref h, .ref bt, .ref sn, .int hs, .ref x, .ref ll, .int fk])), (t, .inr (9, [.ref b])), (b, .inr (4, [.ref r])), (r, .inl (k.1, 628, .inl f))]) := by
  refine fc_start (cc := cX6_coinsAgain) (maxL := 2) (ret := (some .int)) (own := RX6) (Qc := fun A => va_Qi (fun r (_ : Unit) => r = (F_X6_coinsAgain hs fk f)) (Bt D (fun _ => [(o, .inr (10, [.ref t, .ref b, .ref t2, .ref j, .ref h, .ref bt, .ref sn, .int hs, .ref x, .ref ll, .int fk])), (t, .inr (9, [.ref b])), (b, .inr (4, [.ref r])), (r, .inl (k.1, 628, .inl f))]) A) A) (by decide) rfl rfl (Nat.le_of_ble_eq_true rfl) ?_
  intro p e s m below meth c A H hx hb hml hr hts hown hlk hname hA hP hE hD hS ls hl
  obtain ⟨RES, hF⟩ : ∃ z, (F_X6_coinsAgain hs fk f) = z := ⟨_, rfl⟩
  rw [hF]
  unfold F_X6_coinsAgain at hF
  have hl : lv_has ls 2 [(0, .ref o)] := hl
  obtain ⟨locs, hlocs⟩ : ∃ z : List Loc, z = [] := ⟨_, rfl⟩
  rw [← hlocs] at hS ⊢
  refine lv_aload_n hx hb dX6_coinsAgain_0 rfl (lv_at hl 0 rfl) ?_
  refine va_get (D := D) (ci := 10) (v := .ref t) (C := RX6) (T := TX6) (N := 11) hx hb hts in_X6_coinsAgain_X6 hown hE.1 hP 0 rfl rfl 0 (by decide) (hts _ lk_X6_coinsAgain_12) (fun _ h9 => h9) rfl dX6_coinsAgain_1 ?_
  refine lv_bipush (v := 7) hx hb dX6_coinsAgain_4 (by decide) ?_
  refine fc_ci (isC := [1, 2, 3]) (cells' := 0) (slots' := 0) (fc_runV (n := 1) (As := [.int (7 : Int32)]) (rest := []) (isC := [1, 2, 3]) (maxL := 4) ⟨hx, hb, hml, hown, hts⟩ (c_X5_sumOfTours t b r f (7 : Int32) H.size) gX6_coinsAgain_X5_sumOfTours rfl (by decide +kernel) rfl ⟨Nat.le_of_ble_eq_true rfl, Nat.le_of_ble_eq_true rfl⟩ ⟨Nat.le_of_ble_eq_true rfl, Nat.le_of_ble_eq_true rfl⟩ hE hP hD hS hA rfl rfl (va_recv hE.1 hP (ci := 9) (q0 := 1) rfl rfl) hl rfl (Nat.le_of_ble_eq_true rfl) dX6_coinsAgain_6) hP hD hS hA rfl (fun _ => rfl) rfl rfl (fun r_1 _ H locs hr_1 hP hD hS => ?_)
  obtain rfl : (F_X5_sumOfTours f (7 : Int32)) = r_1 := hr_1.symm
  dsimp only [fs, List.set] at hP hD
  have hP : va_P D vwCl [(o, .inr (10, [.ref t, .ref b, .ref t2, .ref j, .ref h, .ref bt, .ref sn, .int hs, .ref x, .ref ll, .int fk])), (t, .inr (9, [.ref b])), (b, .inr (4, [.ref r])), (r, .inl (k.1, 628, .inl f))] H := hP
  have hD : va_D A [(o, .inr (10, [.ref t, .ref b, .ref t2, .ref j, .ref h, .ref bt, .ref sn, .int hs, .ref x, .ref ll, .int fk])), (t, .inr (9, [.ref b])), (b, .inr (4, [.ref r])), (r, .inl (k.1, 628, .inl f))] := hD
  refine lv_aload_n hx hb dX6_coinsAgain_9 rfl (lv_at hl 0 rfl) ?_
  refine va_get (D := D) (ci := 10) (v := .ref t) (C := RX6) (T := TX6) (N := 11) hx hb hts in_X6_coinsAgain_X6 hown hE.1 hP 0 rfl rfl 0 (by decide) (hts _ lk_X6_coinsAgain_12) (fun _ h9 => h9) rfl dX6_coinsAgain_10 ?_
  refine lv_bipush (v := 8) hx hb dX6_coinsAgain_13 (by decide) ?_
  refine fc_ci (isC := [1, 2, 3]) (cells' := 0) (slots' := 0) (fc_runV (n := 1) (As := [.int (8 : Int32)]) (rest := [.int (F_X5_sumOfTours f (7 : Int32))]) (isC := [1, 2, 3]) (maxL := 4) ⟨hx, hb, hml, hown, hts⟩ (c_X5_sumOfTours t b r f (8 : Int32) H.size) gX6_coinsAgain_X5_sumOfTours rfl (by decide +kernel) rfl ⟨Nat.le_of_ble_eq_true rfl, Nat.le_of_ble_eq_true rfl⟩ ⟨Nat.le_of_ble_eq_true rfl, Nat.le_of_ble_eq_true rfl⟩ hE hP hD hS hA rfl rfl (va_recv hE.1 hP (ci := 9) (q0 := 1) rfl rfl) hl rfl (Nat.le_of_ble_eq_true rfl) dX6_coinsAgain_15) hP hD hS hA rfl (fun _ => rfl) rfl rfl (fun r_2 _ H locs hr_2 hP hD hS => ?_)
  obtain rfl : (F_X5_sumOfTours f (8 : Int32)) = r_2 := hr_2.symm
  dsimp only [fs, List.set] at hP hD
  have hP : va_P D vwCl [(o, .inr (10, [.ref t, .ref b, .ref t2, .ref j, .ref h, .ref bt, .ref sn, .int hs, .ref x, .ref ll, .int fk])), (t, .inr (9, [.ref b])), (b, .inr (4, [.ref r])), (r, .inl (k.1, 628, .inl f))] H := hP
  have hD : va_D A [(o, .inr (10, [.ref t, .ref b, .ref t2, .ref j, .ref h, .ref bt, .ref sn, .int hs, .ref x, .ref ll, .int fk])), (t, .inr (9, [.ref b])), (b, .inr (4, [.ref r])), (r, .inl (k.1, 628, .inl f))] := hD
  refine lv_iadd hx hb dX6_coinsAgain_18 ?_
  refine lv_istore_n (lv' := [(1, .int ((F_X5_sumOfTours f (7 : Int32)) + (F_X5_sumOfTours f (8 : Int32)))), (0, .ref o)]) hx hb dX6_coinsAgain_19 rfl hl (by decide) rfl (fun ls hl => ?_)
  refine lv_bipush (v := 100) hx hb dX6_coinsAgain_20 (by decide) ?_
  refine lv_iload_n hx hb dX6_coinsAgain_22 rfl (lv_at hl 0 rfl) ?_
  refine lv_iadd hx hb dX6_coinsAgain_23 ?_
  refine lv_aload_n hx hb dX6_coinsAgain_24 rfl (lv_at hl 1 rfl) ?_
  refine va_get (D := D) (ci := 10) (v := .ref t) (C := RX6) (T := TX6) (N := 11) hx hb hts in_X6_coinsAgain_X6 hown hE.1 hP 0 rfl rfl 0 (by decide) (hts _ lk_X6_coinsAgain_12) (fun _ h9 => h9) rfl dX6_coinsAgain_25 ?_
  refine lv_bipush (v := 6) hx hb dX6_coinsAgain_28 (by decide) ?_
  refine fc_ci (isC := [1, 2, 3]) (cells' := 0) (slots' := 0) (fc_runV (n := 1) (As := [.int (6 : Int32)]) (rest := [.int ((100 : Int32) + ((F_X5_sumOfTours f (7 : Int32)) + (F_X5_sumOfTours f (8 : Int32))))]) (isC := [1, 2, 3]) (maxL := 4) ⟨hx, hb, hml, hown, hts⟩ (c_X5_sumOfTours t b r f (6 : Int32) H.size) gX6_coinsAgain_X5_sumOfTours rfl (by decide +kernel) rfl ⟨Nat.le_of_ble_eq_true rfl, Nat.le_of_ble_eq_true rfl⟩ ⟨Nat.le_of_ble_eq_true rfl, Nat.le_of_ble_eq_true rfl⟩ hE hP hD hS hA rfl rfl (va_recv hE.1 hP (ci := 9) (q0 := 1) rfl rfl) hl rfl (Nat.le_of_ble_eq_true rfl) dX6_coinsAgain_30) hP hD hS hA rfl (fun _ => rfl) rfl rfl (fun r_3 _ H locs hr_3 hP hD hS => ?_)
  obtain rfl : (F_X5_sumOfTours f (6 : Int32)) = r_3 := hr_3.symm
  dsimp only [fs, List.set] at hP hD
  have hP : va_P D vwCl [(o, .inr (10, [.ref t, .ref b, .ref t2, .ref j, .ref h, .ref bt, .ref sn, .int hs, .ref x, .ref ll, .int fk])), (t, .inr (9, [.ref b])), (b, .inr (4, [.ref r])), (r, .inl (k.1, 628, .inl f))] H := hP
  have hD : va_D A [(o, .inr (10, [.ref t, .ref b, .ref t2, .ref j, .ref h, .ref bt, .ref sn, .int hs, .ref x, .ref ll, .int fk])), (t, .inr (9, [.ref b])), (b, .inr (4, [.ref r])), (r, .inl (k.1, 628, .inl f))] := hD
  refine lv_isub hx hb dX6_coinsAgain_33 ?_
  refine lv_aload_n hx hb dX6_coinsAgain_34 rfl (lv_at hl 1 rfl) ?_
  refine va_get (D := D) (ci := 10) (v := .ref b) (C := RX6) (T := TX6) (N := 11) hx hb hts in_X6_coinsAgain_X6 hown hE.1 hP 0 rfl rfl 1 (by decide) (hts _ lk_X6_coinsAgain_20) (fun _ h9 => h9) rfl dX6_coinsAgain_35 ?_
  refine lv_bipush (v := 11) hx hb dX6_coinsAgain_38 (by decide) ?_
  refine fc_ci (isC := [2, 3]) (cells' := 0) (slots' := 0) (fc_runV (n := 1) (As := [.int (11 : Int32)]) (rest := [.int (((100 : Int32) + ((F_X5_sumOfTours f (7 : Int32)) + (F_X5_sumOfTours f (8 : Int32)))) - (F_X5_sumOfTours f (6 : Int32)))]) (isC := [2, 3]) (maxL := 2) ⟨hx, hb, hml, hown, hts⟩ (c_X0_get b r f (11 : Int32) H.size) gX6_coinsAgain_X0_get rfl (by decide +kernel) rfl ⟨Nat.le_of_ble_eq_true rfl, Nat.le_of_ble_eq_true rfl⟩ ⟨Nat.le_of_ble_eq_true rfl, Nat.le_of_ble_eq_true rfl⟩ hE hP hD hS hA rfl rfl (va_recv hE.1 hP (ci := 4) (q0 := 2) rfl rfl) hl rfl (Nat.le_of_ble_eq_true rfl) dX6_coinsAgain_40) hP hD hS hA rfl (fun _ => rfl) rfl rfl (fun r_4 _ H locs hr_4 hP hD hS => ?_)
  obtain rfl : (F_X0_get f (11 : Int32)) = r_4 := hr_4.symm
  dsimp only [fs, List.set] at hP hD
  have hP : va_P D vwCl [(o, .inr (10, [.ref t, .ref b, .ref t2, .ref j, .ref h, .ref bt, .ref sn, .int hs, .ref x, .ref ll, .int fk])), (t, .inr (9, [.ref b])), (b, .inr (4, [.ref r])), (r, .inl (k.1, 628, .inl f))] H := hP
  have hD : va_D A [(o, .inr (10, [.ref t, .ref b, .ref t2, .ref j, .ref h, .ref bt, .ref sn, .int hs, .ref x, .ref ll, .int fk])), (t, .inr (9, [.ref b])), (b, .inr (4, [.ref r])), (r, .inl (k.1, 628, .inl f))] := hD
  refine lv_isub hx hb dX6_coinsAgain_43 ?_
  subst hF
  exact fc_iret hx hb hr rfl hlk hS () rfl hP hD (by decide) (by decide) dX6_coinsAgain_44

abbrev rm_X6_feed : Room := { frames := 6, cells := 1, slots := 6, locals := 96 }
theorem in_X6_feed_X6 : ∀ w ∈ wsX60, w ∈ wsX6_feed := by decide +kernel
theorem lk_X6_feed_54 : (Cond.fieldLink RX6 54 "TheatreSaga" "text" "LTheatreSaga$Text;") ∈ wsX6_feed := by decide +kernel
theorem xl_X6_feed_226 : ∀ w ∈ (vx_atS RX6 226 "java/lang/IllegalStateException" exN).filter goodWord, w ∈ wsX6_feed := by decide +kernel
def F_X6_feed (hs : Int32) (fk : Int32) (ln : Int32) (tp : Int32) (wd : Int32) (fi : Int32) (tw : Int32) (dy : Int32) (mn : Int32) (vl : Int32) (sg : (Nat → Int32)) (ic : Int32) : Option String × Int32 × Int32 × (Nat → Int32) := (if (F_X4_length ln tp wd fi tw dy mn vl sg) < (60 : Int32) then (letp (F_X4_append ln tp wd fi tw dy mn vl sg ic) (fun (p_3 : Int32 × (Nat → Int32)) => (none, (F_X4_length p_3.1 tp wd fi tw dy mn vl p_3.2), p_3.1, p_3.2))) else ((some "java/lang/IllegalStateException"), (0 : Int32), ln, sg))
set_option maxHeartbeats 4000000 in
set_option maxRecDepth 100000 in
theorem c_X6_feed {l : Launch} {D : va_G} {k : tyK} (o t b t2 j h bt sn x ll s0 : Nat) (hs : Int32) (fk : Int32) (ln : Int32) (tp : Int32) (wd : Int32) (fi : Int32) (tw : Int32) (dy : Int32) (mn : Int32) (vl : Int32) (sg : (Nat → Int32)) (ic : Int32) (hlst : l.stackTraces = false) : FOi l yX6_feed wsX6_feed rm_X6_feed D k [.ref o, .int ic] [(o, .inr (10, [.ref t, .ref b, .ref t2, .ref j, .ref h, .ref bt, .ref sn, .int hs, .ref x, .ref ll, .int fk])), (x, .inr (8, [.ref s0, .int ln, .int tp, .int wd, .int fi, .int tw, .int dy, .int mn, .int vl])), (s0, .inl (k.2.1, 60, .inl sg))] (F_X6_feed hs fk ln tp wd fi tw dy mn vl sg ic).1 (F_X6_feed hs fk ln tp wd fi tw dy mn vl sg ic).2.1 [(o, .inr (10, [.ref t, .ref b, .ref t2, .ref j, .ref h, .ref bt, .ref sn, .int hs, .ref x, .ref ll, .int fk])), (x, .inr (8, [.ref s0, .int (F_X6_feed hs fk ln tp wd fi tw dy mn vl sg ic).2.2.1, .int tp, .int wd, .int fi, .int tw, .int dy, .int mn, .int vl])), (s0, .inl (k.2.1, 60, .inl (F_X6_feed hs fk ln tp wd fi tw dy mn vl sg ic).2.2.2))] := by
  refine fo_start (cc := cX6_feed) (maxL := 2) (ret := (some .int)) (own := RX6) (Qc := fun A => va_Qi (fun r (_ : Unit) => (F_X6_feed hs fk ln tp wd fi tw dy mn vl sg ic).1 = none ∧ r = (F_X6_feed hs fk ln tp wd fi tw dy mn vl sg ic).2.1) (Bt D (fun _ => [(o, .inr (10, [.ref t, .ref b, .ref t2, .ref j, .ref h, .ref bt, .ref sn, .int hs, .ref x, .ref ll, .int fk])), (x, .inr (8, [.ref s0, .int (F_X6_feed hs fk ln tp wd fi tw dy mn vl sg ic).2.2.1, .int tp, .int wd, .int fi, .int tw, .int dy, .int mn, .int vl])), (s0, .inl (k.2.1, 60, .inl (F_X6_feed hs fk ln tp wd fi tw dy mn vl sg ic).2.2.2))]) A) A) (XC := fun A => XB D (F_X6_feed hs fk ln tp wd fi tw dy mn vl sg ic).1 [(o, .inr (10, [.ref t, .ref b, .ref t2, .ref j, .ref h, .ref bt, .ref sn, .int hs, .ref x, .ref ll, .int fk])), (x, .inr (8, [.ref s0, .int (F_X6_feed hs fk ln tp wd fi tw dy mn vl sg ic).2.2.1, .int tp, .int wd, .int fi, .int tw, .int dy, .int mn, .int vl])), (s0, .inl (k.2.1, 60, .inl (F_X6_feed hs fk ln tp wd fi tw dy mn vl sg ic).2.2.2))] A) (by decide) rfl rfl (Nat.le_of_ble_eq_true rfl) ?_
  intro p e s m below meth c A H hx hb hml hr hts hown hlk hout hA hP hE hD hS ls hl
  obtain ⟨RES, hF⟩ : ∃ z, (F_X6_feed hs fk ln tp wd fi tw dy mn vl sg ic) = z := ⟨_, rfl⟩
  rw [hF]
  unfold F_X6_feed at hF
  have hl : lv_has ls 2 [(0, .ref o), (1, .int ic)] := hl
  obtain ⟨locs, hlocs⟩ : ∃ z : List Loc, z = [] := ⟨_, rfl⟩
  rw [← hlocs] at hS ⊢
  refine lv_aload_n hx hb dX6_feed_0 rfl (lv_at hl 0 rfl) ?_
  refine va_get (D := D) (ci := 10) (v := .ref x) (C := RX6) (T := TX6) (N := 11) hx hb hts in_X6_feed_X6 hown hE.1 hP 0 rfl rfl 8 (by decide) (hts _ lk_X6_feed_54) (fun _ h9 => h9) rfl dX6_feed_1 ?_
  refine fc_ci (isC := [1, 2]) (cells' := 0) (slots' := 0) (fc_runV (n := 0) (As := []) (rest := []) (isC := [1, 2]) (maxL := 1) ⟨hx, hb, hml, hown, hts⟩ (c_X4_length x s0 ln tp wd fi tw dy mn vl sg H.size) gX6_feed_X4_length rfl (by decide +kernel) rfl ⟨Nat.le_of_ble_eq_true rfl, Nat.le_of_ble_eq_true rfl⟩ ⟨Nat.le_of_ble_eq_true rfl, Nat.le_of_ble_eq_true rfl⟩ hE hP hD hS hA rfl rfl (va_recv hE.1 hP (ci := 8) (q0 := 1) rfl rfl) hl rfl (Nat.le_of_ble_eq_true rfl) dX6_feed_4) hP hD hS hA rfl (fun _ => rfl) rfl rfl (fun r_1 _ H locs hr_1 hP hD hS => ?_)
  obtain rfl : (F_X4_length ln tp wd fi tw dy mn vl sg) = r_1 := hr_1.symm
  dsimp only [fs, List.set] at hP hD
  have hP : va_P D vwCl [(o, .inr (10, [.ref t, .ref b, .ref t2, .ref j, .ref h, .ref bt, .ref sn, .int hs, .ref x, .ref ll, .int fk])), (x, .inr (8, [.ref s0, .int ln, .int tp, .int wd, .int fi, .int tw, .int dy, .int mn, .int vl])), (s0, .inl (k.2.1, 60, .inl sg))] H := hP
  have hD : va_D A [(o, .inr (10, [.ref t, .ref b, .ref t2, .ref j, .ref h, .ref bt, .ref sn, .int hs, .ref x, .ref ll, .int fk])), (x, .inr (8, [.ref s0, .int ln, .int tp, .int wd, .int fi, .int tw, .int dy, .int mn, .int vl])), (s0, .inl (k.2.1, 60, .inl sg))] := hD
  refine lv_bipush (v := 60) hx hb dX6_feed_7 (by decide) ?_
  refine lv_icmp_lt (tgt := 22) hx hb dX6_feed_9 (by decide) (fun c_2 => ?_) (fun c_2 => ?_)
  · rw [if_pos c_2] at hF
    refine lv_aload_n hx hb dX6_feed_22 rfl (lv_at hl 0 rfl) ?_
    refine va_get (D := D) (ci := 10) (v := .ref x) (C := RX6) (T := TX6) (N := 11) hx hb hts in_X6_feed_X6 hown hE.1 hP 0 rfl rfl 8 (by decide) (hts _ lk_X6_feed_54) (fun _ h9 => h9) rfl dX6_feed_23 ?_
    refine lv_iload_n hx hb dX6_feed_26 rfl (lv_at hl 1 rfl) ?_
    generalize hp_3 : (F_X4_append ln tp wd fi tw dy mn vl sg ic) = p_3 at hF
    rw [letp_eq] at hF
    refine fc_cv (isC := [1, 2]) (cells' := 0) (slots' := 0) (fc_runV (n := 1) (As := [.int ic]) (rest := []) (isC := [1, 2]) (maxL := 2) ⟨hx, hb, hml, hown, hts⟩ (c_X4_append x s0 ln tp wd fi tw dy mn vl sg ic H.size) gX6_feed_X4_append rfl (by decide +kernel) rfl ⟨Nat.le_of_ble_eq_true rfl, Nat.le_of_ble_eq_true rfl⟩ ⟨Nat.le_of_ble_eq_true rfl, Nat.le_of_ble_eq_true rfl⟩ hE hP hD hS hA rfl rfl (va_recv hE.1 hP (ci := 8) (q0 := 1) rfl rfl) hl rfl (Nat.le_of_ble_eq_true rfl) dX6_feed_27) hP hD hS hA rfl (fun _ => rfl) rfl rfl (fun _ H locs _ hP hD hS => ?_)
    rw [hp_3] at hP hD
    dsimp only [fs, List.set] at hP hD
    have hP : va_P D vwCl [(o, .inr (10, [.ref t, .ref b, .ref t2, .ref j, .ref h, .ref bt, .ref sn, .int hs, .ref x, .ref ll, .int fk])), (x, .inr (8, [.ref s0, .int p_3.1, .int tp, .int wd, .int fi, .int tw, .int dy, .int mn, .int vl])), (s0, .inl (k.2.1, 60, .inl p_3.2))] H := hP
    have hD : va_D A [(o, .inr (10, [.ref t, .ref b, .ref t2, .ref j, .ref h, .ref bt, .ref sn, .int hs, .ref x, .ref ll, .int fk])), (x, .inr (8, [.ref s0, .int p_3.1, .int tp, .int wd, .int fi, .int tw, .int dy, .int mn, .int vl])), (s0, .inl (k.2.1, 60, .inl p_3.2))] := hD
    refine lv_aload_n hx hb dX6_feed_30 rfl (lv_at hl 0 rfl) ?_
    refine va_get (D := D) (ci := 10) (v := .ref x) (C := RX6) (T := TX6) (N := 11) hx hb hts in_X6_feed_X6 hown hE.1 hP 0 rfl rfl 8 (by decide) (hts _ lk_X6_feed_54) (fun _ h9 => h9) rfl dX6_feed_31 ?_
    refine fc_ci (isC := [1, 2]) (cells' := 0) (slots' := 0) (fc_runV (n := 0) (As := []) (rest := []) (isC := [1, 2]) (maxL := 1) ⟨hx, hb, hml, hown, hts⟩ (c_X4_length x s0 p_3.1 tp wd fi tw dy mn vl p_3.2 H.size) gX6_feed_X4_length rfl (by decide +kernel) rfl ⟨Nat.le_of_ble_eq_true rfl, Nat.le_of_ble_eq_true rfl⟩ ⟨Nat.le_of_ble_eq_true rfl, Nat.le_of_ble_eq_true rfl⟩ hE hP hD hS hA rfl rfl (va_recv hE.1 hP (ci := 8) (q0 := 1) rfl rfl) hl rfl (Nat.le_of_ble_eq_true rfl) dX6_feed_34) hP hD hS hA rfl (fun _ => rfl) rfl rfl (fun r_4 _ H locs hr_4 hP hD hS => ?_)
    obtain rfl : (F_X4_length p_3.1 tp wd fi tw dy mn vl p_3.2) = r_4 := hr_4.symm
    dsimp only [fs, List.set] at hP hD
    have hP : va_P D vwCl [(o, .inr (10, [.ref t, .ref b, .ref t2, .ref j, .ref h, .ref bt, .ref sn, .int hs, .ref x, .ref ll, .int fk])), (x, .inr (8, [.ref s0, .int p_3.1, .int tp, .int wd, .int fi, .int tw, .int dy, .int mn, .int vl])), (s0, .inl (k.2.1, 60, .inl p_3.2))] H := hP
    have hD : va_D A [(o, .inr (10, [.ref t, .ref b, .ref t2, .ref j, .ref h, .ref bt, .ref sn, .int hs, .ref x, .ref ll, .int fk])), (x, .inr (8, [.ref s0, .int p_3.1, .int tp, .int wd, .int fi, .int tw, .int dy, .int mn, .int vl])), (s0, .inl (k.2.1, 60, .inl p_3.2))] := hD
    subst hF
    exact fo_iret hx hb hr rfl hlk hS rfl rfl hP hD (by decide) (by decide) dX6_feed_37
  · rw [if_neg c_2] at hF
    subst hF
    exact fo_throwS (names := exN) (i := 7) (B := []) (own := RX6) hlst hx hb hml hown hE hts exF_IllegalStateException exN_ok (by decide +kernel) (by decide +kernel) rfl xl_X6_feed_226 exH_226 (by decide +kernel) exG_226 hl dX6_feed_12 dX6_feed_15 dX6_feed_16 dX6_feed_18 dX6_feed_21 hout (by decide) (by decide) (by decide) (by decide) hlk hS rfl hP hD (by decide) (by decide)

abbrev rm_X6_faultPosition : Room := { frames := 6, cells := 1, slots := 6, locals := 96 }
theorem in_X6_faultPosition_X6 : ∀ w ∈ wsX60, w ∈ wsX6_faultPosition := by decide +kernel
theorem lk_X6_faultPosition_65 : (Cond.fieldLink RX6 65 "TheatreSaga" "faultKept" "I") ∈ wsX6_faultPosition := by decide +kernel
theorem xl_X6_faultPosition_161 : ∀ w ∈ (vy_atS RX6 161 "java/util/NoSuchElementException" "java/lang/RuntimeException" 13 nseB ["java/lang/Exception"]).filter goodWord, w ∈ wsX6_faultPosition := by decide +kernel
def F_X6_faultPosition (hs : Int32) (fk : Int32)  : Option String × Int32 := (if fk = (-1 : Int32) then ((some "java/util/NoSuchElementException"), (0 : Int32)) else (none, fk))
set_option maxHeartbeats 4000000 in
set_option maxRecDepth 100000 in
theorem c_X6_faultPosition {l : Launch} {D : va_G} {k : tyK} (o t b t2 j h bt sn x ll : Nat) (hs : Int32) (fk : Int32)  (hlst : l.stackTraces = false) : FOi l yX6_faultPosition wsX6_faultPosition rm_X6_faultPosition D k [.ref o] [(o, .inr (10, [.ref t, .ref b, .ref t2, .ref j, .ref h, .ref bt, .ref sn, .int hs, .ref x, .ref ll, .int fk]))] (F_X6_faultPosition hs fk).1 (F_X6_faultPosition hs fk).2 [(o, .inr (10, [.ref t, .ref b, .ref t2, .ref j, .ref h, .ref bt, .ref sn, .int hs, .ref x, .ref ll, .int fk]))] := by
  refine fo_start (cc := cX6_faultPosition) (maxL := 1) (ret := (some .int)) (own := RX6) (Qc := fun A => va_Qi (fun r (_ : Unit) => (F_X6_faultPosition hs fk).1 = none ∧ r = (F_X6_faultPosition hs fk).2) (Bt D (fun _ => [(o, .inr (10, [.ref t, .ref b, .ref t2, .ref j, .ref h, .ref bt, .ref sn, .int hs, .ref x, .ref ll, .int fk]))]) A) A) (XC := fun A => XB D (F_X6_faultPosition hs fk).1 [(o, .inr (10, [.ref t, .ref b, .ref t2, .ref j, .ref h, .ref bt, .ref sn, .int hs, .ref x, .ref ll, .int fk]))] A) (by decide) rfl rfl (Nat.le_of_ble_eq_true rfl) ?_
  intro p e s m below meth c A H hx hb hml hr hts hown hlk hout hA hP hE hD hS ls hl
  obtain ⟨RES, hF⟩ : ∃ z, (F_X6_faultPosition hs fk) = z := ⟨_, rfl⟩
  rw [hF]
  unfold F_X6_faultPosition at hF
  have hl : lv_has ls 1 [(0, .ref o)] := hl
  obtain ⟨locs, hlocs⟩ : ∃ z : List Loc, z = [] := ⟨_, rfl⟩
  rw [← hlocs] at hS ⊢
  refine lv_aload_n hx hb dX6_faultPosition_0 rfl (lv_at hl 0 rfl) ?_
  refine va_get (D := D) (ci := 10) (v := .int fk) (C := RX6) (T := TX6) (N := 11) hx hb hts in_X6_faultPosition_X6 hown hE.1 hP 0 rfl rfl 10 (by decide) (hts _ lk_X6_faultPosition_65) (fun _ h9 => h9) rfl dX6_faultPosition_1 ?_
  refine lv_iconst (v := -1) hx hb dX6_faultPosition_4 (by decide) ?_
  refine lv_icmp_ne (tgt := 19) hx hb dX6_faultPosition_5 (by decide) (fun c_1 => ?_) (fun c_1 => ?_)
  · rw [if_neg c_1] at hF
    refine lv_aload_n hx hb dX6_faultPosition_19 rfl (lv_at hl 0 rfl) ?_
    refine va_get (D := D) (ci := 10) (v := .int fk) (C := RX6) (T := TX6) (N := 11) hx hb hts in_X6_faultPosition_X6 hown hE.1 hP 0 rfl rfl 10 (by decide) (hts _ lk_X6_faultPosition_65) (fun _ h9 => h9) rfl dX6_faultPosition_20 ?_
    subst hF
    exact fo_iret hx hb hr rfl hlk hS rfl rfl hP hD (by decide) (by decide) dX6_faultPosition_23
  · rw [if_pos c_1] at hF
    subst hF
    exact fo_throwWy (Y := "java/lang/RuntimeException") (r := ["java/lang/Exception"]) (ix := 13) (rx := nseB) (i := 10) (B := []) (own := RX6) hlst hx hb hml hown hE hts exF_NoSuchElementException nse_Y nse_r nse_0 nse_1 nse_2 nse_5 (by decide +kernel) (by decide +kernel) rfl xl_X6_faultPosition_161 exH_161 (by decide +kernel) exG_161 hl dX6_faultPosition_8 dX6_faultPosition_11 dX6_faultPosition_12 dX6_faultPosition_15 dX6_faultPosition_18 hout (by decide) (by decide) (by decide) (by decide) hlk hS rfl hP hD (by decide) (by decide)

abbrev rm_X6_refusal : Room := { frames := 6, cells := 1, slots := 6, locals := 96 }
theorem in_X6_refusal_X6 : ∀ w ∈ wsX60, w ∈ wsX6_refusal := by decide +kernel
theorem lk_X6_refusal_27 : (Cond.fieldLink RX6 27 "TheatreSaga" "judge" "LTheatreSaga$Judge;") ∈ wsX6_refusal := by decide +kernel
theorem xl_X6_refusal_161 : ∀ w ∈ (vy_atS RX6 161 "java/util/NoSuchElementException" "java/lang/RuntimeException" 13 nseB ["java/lang/Exception"]).filter goodWord, w ∈ wsX6_refusal := by decide +kernel
def F_X6_refusal (hs : Int32) (fk : Int32) (jr : Int32) (jd : Int32) (ir : Int32) : Option String × Int32 := (if (F_X2_reason jr jd) = (0 : Int32) then ((some "java/util/NoSuchElementException"), (0 : Int32)) else (if ir = (0 : Int32) then (none, (F_X2_detail jr jd)) else (none, (F_X2_reason jr jd))))
set_option maxHeartbeats 4000000 in
set_option maxRecDepth 100000 in
theorem c_X6_refusal {l : Launch} {D : va_G} {k : tyK} (o t b t2 j h bt sn x ll : Nat) (hs : Int32) (fk : Int32) (jr : Int32) (jd : Int32) (ir : Int32) (hlst : l.stackTraces = false) : FOi l yX6_refusal wsX6_refusal rm_X6_refusal D k [.ref o, .int ir] [(o, .inr (10, [.ref t, .ref b, .ref t2, .ref j, .ref h, .ref bt, .ref sn, .int hs, .ref x, .ref ll, .int fk])), (j, .inr (6, [.int jr, .int jd]))] (F_X6_refusal hs fk jr jd ir).1 (F_X6_refusal hs fk jr jd ir).2 [(o, .inr (10, [.ref t, .ref b, .ref t2, .ref j, .ref h, .ref bt, .ref sn, .int hs, .ref x, .ref ll, .int fk])), (j, .inr (6, [.int jr, .int jd]))] := by
  refine fo_start (cc := cX6_refusal) (maxL := 2) (ret := (some .int)) (own := RX6) (Qc := fun A => va_Qi (fun r (_ : Unit) => (F_X6_refusal hs fk jr jd ir).1 = none ∧ r = (F_X6_refusal hs fk jr jd ir).2) (Bt D (fun _ => [(o, .inr (10, [.ref t, .ref b, .ref t2, .ref j, .ref h, .ref bt, .ref sn, .int hs, .ref x, .ref ll, .int fk])), (j, .inr (6, [.int jr, .int jd]))]) A) A) (XC := fun A => XB D (F_X6_refusal hs fk jr jd ir).1 [(o, .inr (10, [.ref t, .ref b, .ref t2, .ref j, .ref h, .ref bt, .ref sn, .int hs, .ref x, .ref ll, .int fk])), (j, .inr (6, [.int jr, .int jd]))] A) (by decide) rfl rfl (Nat.le_of_ble_eq_true rfl) ?_
  intro p e s m below meth c A H hx hb hml hr hts hown hlk hout hA hP hE hD hS ls hl
  obtain ⟨RES, hF⟩ : ∃ z, (F_X6_refusal hs fk jr jd ir) = z := ⟨_, rfl⟩
  rw [hF]
  unfold F_X6_refusal at hF
  have hl : lv_has ls 2 [(0, .ref o), (1, .int ir)] := hl
  obtain ⟨locs, hlocs⟩ : ∃ z : List Loc, z = [] := ⟨_, rfl⟩
  rw [← hlocs] at hS ⊢
  refine lv_aload_n hx hb dX6_refusal_0 rfl (lv_at hl 0 rfl) ?_
  refine va_get (D := D) (ci := 10) (v := .ref j) (C := RX6) (T := TX6) (N := 11) hx hb hts in_X6_refusal_X6 hown hE.1 hP 0 rfl rfl 3 (by decide) (hts _ lk_X6_refusal_27) (fun _ h9 => h9) rfl dX6_refusal_1 ?_
  refine fc_ci (isC := [1]) (cells' := 0) (slots' := 0) (fc_runV (n := 0) (As := []) (rest := []) (isC := [1]) (maxL := 1) ⟨hx, hb, hml, hown, hts⟩ (c_X2_reason j jr jd H.size) gX6_refusal_X2_reason rfl (by decide +kernel) rfl ⟨Nat.le_of_ble_eq_true rfl, Nat.le_of_ble_eq_true rfl⟩ ⟨Nat.le_of_ble_eq_true rfl, Nat.le_of_ble_eq_true rfl⟩ hE hP hD hS hA rfl rfl (va_recv hE.1 hP (ci := 6) (q0 := 1) rfl rfl) hl rfl (Nat.le_of_ble_eq_true rfl) dX6_refusal_4) hP hD hS hA rfl (fun _ => rfl) rfl rfl (fun r_1 _ H locs hr_1 hP hD hS => ?_)
  obtain rfl : (F_X2_reason jr jd) = r_1 := hr_1.symm
  dsimp only [fs, List.set] at hP hD
  have hP : va_P D vwCl [(o, .inr (10, [.ref t, .ref b, .ref t2, .ref j, .ref h, .ref bt, .ref sn, .int hs, .ref x, .ref ll, .int fk])), (j, .inr (6, [.int jr, .int jd]))] H := hP
  have hD : va_D A [(o, .inr (10, [.ref t, .ref b, .ref t2, .ref j, .ref h, .ref bt, .ref sn, .int hs, .ref x, .ref ll, .int fk])), (j, .inr (6, [.int jr, .int jd]))] := hD
  refine lv_if_ne (tgt := 21) hx hb dX6_refusal_7 (by decide) (fun c_2 => ?_) (fun c_2 => ?_)
  · rw [if_neg c_2] at hF
    refine lv_iload_n hx hb dX6_refusal_21 rfl (lv_at hl 1 rfl) ?_
    refine lv_if_eq (tgt := 35) hx hb dX6_refusal_22 (by decide) (fun c_3 => ?_) (fun c_3 => ?_)
    · rw [if_pos c_3] at hF
      refine lv_aload_n hx hb dX6_refusal_35 rfl (lv_at hl 0 rfl) ?_
      refine va_get (D := D) (ci := 10) (v := .ref j) (C := RX6) (T := TX6) (N := 11) hx hb hts in_X6_refusal_X6 hown hE.1 hP 0 rfl rfl 3 (by decide) (hts _ lk_X6_refusal_27) (fun _ h9 => h9) rfl dX6_refusal_36 ?_
      refine fc_ci (isC := [1]) (cells' := 0) (slots' := 0) (fc_runV (n := 0) (As := []) (rest := []) (isC := [1]) (maxL := 1) ⟨hx, hb, hml, hown, hts⟩ (c_X2_detail j jr jd H.size) gX6_refusal_X2_detail rfl (by decide +kernel) rfl ⟨Nat.le_of_ble_eq_true rfl, Nat.le_of_ble_eq_true rfl⟩ ⟨Nat.le_of_ble_eq_true rfl, Nat.le_of_ble_eq_true rfl⟩ hE hP hD hS hA rfl rfl (va_recv hE.1 hP (ci := 6) (q0 := 1) rfl rfl) hl rfl (Nat.le_of_ble_eq_true rfl) dX6_refusal_39) hP hD hS hA rfl (fun _ => rfl) rfl rfl (fun r_4 _ H locs hr_4 hP hD hS => ?_)
      obtain rfl : (F_X2_detail jr jd) = r_4 := hr_4.symm
      dsimp only [fs, List.set] at hP hD
      have hP : va_P D vwCl [(o, .inr (10, [.ref t, .ref b, .ref t2, .ref j, .ref h, .ref bt, .ref sn, .int hs, .ref x, .ref ll, .int fk])), (j, .inr (6, [.int jr, .int jd]))] H := hP
      have hD : va_D A [(o, .inr (10, [.ref t, .ref b, .ref t2, .ref j, .ref h, .ref bt, .ref sn, .int hs, .ref x, .ref ll, .int fk])), (j, .inr (6, [.int jr, .int jd]))] := hD
      subst hF
      exact fo_iret hx hb hr rfl hlk hS rfl rfl hP hD (by decide) (by decide) dX6_refusal_42
    · rw [if_neg c_3] at hF
      refine lv_aload_n hx hb dX6_refusal_25 rfl (lv_at hl 0 rfl) ?_
      refine va_get (D := D) (ci := 10) (v := .ref j) (C := RX6) (T := TX6) (N := 11) hx hb hts in_X6_refusal_X6 hown hE.1 hP 0 rfl rfl 3 (by decide) (hts _ lk_X6_refusal_27) (fun _ h9 => h9) rfl dX6_refusal_26 ?_
      refine fc_ci (isC := [1]) (cells' := 0) (slots' := 0) (fc_runV (n := 0) (As := []) (rest := []) (isC := [1]) (maxL := 1) ⟨hx, hb, hml, hown, hts⟩ (c_X2_reason j jr jd H.size) gX6_refusal_X2_reason rfl (by decide +kernel) rfl ⟨Nat.le_of_ble_eq_true rfl, Nat.le_of_ble_eq_true rfl⟩ ⟨Nat.le_of_ble_eq_true rfl, Nat.le_of_ble_eq_true rfl⟩ hE hP hD hS hA rfl rfl (va_recv hE.1 hP (ci := 6) (q0 := 1) rfl rfl) hl rfl (Nat.le_of_ble_eq_true rfl) dX6_refusal_29) hP hD hS hA rfl (fun _ => rfl) rfl rfl (fun r_5 _ H locs hr_5 hP hD hS => ?_)
      obtain rfl : (F_X2_reason jr jd) = r_5 := hr_5.symm
      dsimp only [fs, List.set] at hP hD
      have hP : va_P D vwCl [(o, .inr (10, [.ref t, .ref b, .ref t2, .ref j, .ref h, .ref bt, .ref sn, .int hs, .ref x, .ref ll, .int fk])), (j, .inr (6, [.int jr, .int jd]))] H := hP
      have hD : va_D A [(o, .inr (10, [.ref t, .ref b, .ref t2, .ref j, .ref h, .ref bt, .ref sn, .int hs, .ref x, .ref ll, .int fk])), (j, .inr (6, [.int jr, .int jd]))] := hD
      refine lv_goto (tgt := 42) hx hb dX6_refusal_32 (by decide) ?_
      subst hF
      exact fo_iret hx hb hr rfl hlk hS rfl rfl hP hD (by decide) (by decide) dX6_refusal_42
  · rw [if_pos c_2] at hF
    subst hF
    exact fo_throwWy (Y := "java/lang/RuntimeException") (r := ["java/lang/Exception"]) (ix := 13) (rx := nseB) (i := 11) (B := []) (own := RX6) hlst hx hb hml hown hE hts exF_NoSuchElementException nse_Y nse_r nse_0 nse_1 nse_2 nse_5 (by decide +kernel) (by decide +kernel) rfl xl_X6_refusal_161 exH_161 (by decide +kernel) exG_161 hl dX6_refusal_10 dX6_refusal_13 dX6_refusal_14 dX6_refusal_17 dX6_refusal_20 hout (by decide) (by decide) (by decide) (by decide) hlk hS rfl hP hD (by decide) (by decide)

abbrev rm_X6_undo : Room := { frames := 6, cells := 1, slots := 6, locals := 96 }
theorem in_X6_undo_X6 : ∀ w ∈ wsX60, w ∈ wsX6_undo := by decide +kernel
theorem lk_X6_undo_20 : (Cond.fieldLink RX6 20 "TheatreSaga" "books" "LTheatreSaga$Books;") ∈ wsX6_undo := by decide +kernel
theorem lk_X6_undo_34 : (Cond.fieldLink RX6 34 "TheatreSaga" "history" "LTheatreSaga$History;") ∈ wsX6_undo := by decide +kernel
theorem xl_X6_undo_226 : ∀ w ∈ (vx_atS RX6 226 "java/lang/IllegalStateException" exN).filter goodWord, w ∈ wsX6_undo := by decide +kernel
def F_X6_undo (hs : Int32) (fk : Int32) (f : (Nat → Int32)) (nx : Int32) (kp : Int32) (g : (Nat → Nat → Int32))  : Option String × Int32 × (Nat → Int32) × Int32 × Int32 := (if (F_X1_count nx kp) = (0 : Int32) then ((some "java/lang/IllegalStateException"), (0 : Int32), f, nx, kp) else (letp (F_X1_takeBack nx kp g f) (fun (p_3 : Int32 × Int32 × (Nat → Int32)) => (none, (F_X1_count p_3.1 p_3.2.1), p_3.2.2, p_3.1, p_3.2.1))))
set_option maxHeartbeats 4000000 in
set_option maxRecDepth 100000 in
theorem c_X6_undo {l : Launch} {D : va_G} {k : tyK} (o t b t2 j h bt sn x ll r rg : Nat) (bk : Nat → Nat) (rk : Nat → Nat) (hs : Int32) (fk : Int32) (f : (Nat → Int32)) (nx : Int32) (kp : Int32) (g : (Nat → Nat → Int32))  (hlst : l.stackTraces = false) (hN : HN nx) : FOi l yX6_undo wsX6_undo rm_X6_undo D k [.ref o] [(o, .inr (10, [.ref t, .ref b, .ref t2, .ref j, .ref h, .ref bt, .ref sn, .int hs, .ref x, .ref ll, .int fk])), (b, .inr (4, [.ref r])), (r, .inl (k.1, 628, .inl f)), (h, .inr (5, [.ref rg, .int nx, .int kp])), (rg, .inl (k.2.2.2.1, 8, .inr (.inr (.inr (.inr (fun i => some (bk i))))))), ((bk 0), .inr (4, [.ref (rk 0)])), ((rk 0), .inl (k.1, 628, .inl (g 0))), ((bk 1), .inr (4, [.ref (rk 1)])), ((rk 1), .inl (k.1, 628, .inl (g 1))), ((bk 2), .inr (4, [.ref (rk 2)])), ((rk 2), .inl (k.1, 628, .inl (g 2))), ((bk 3), .inr (4, [.ref (rk 3)])), ((rk 3), .inl (k.1, 628, .inl (g 3))), ((bk 4), .inr (4, [.ref (rk 4)])), ((rk 4), .inl (k.1, 628, .inl (g 4))), ((bk 5), .inr (4, [.ref (rk 5)])), ((rk 5), .inl (k.1, 628, .inl (g 5))), ((bk 6), .inr (4, [.ref (rk 6)])), ((rk 6), .inl (k.1, 628, .inl (g 6))), ((bk 7), .inr (4, [.ref (rk 7)])), ((rk 7), .inl (k.1, 628, .inl (g 7)))] (F_X6_undo hs fk f nx kp g).1 (F_X6_undo hs fk f nx kp g).2.1 [(o, .inr (10, [.ref t, .ref b, .ref t2, .ref j, .ref h, .ref bt, .ref sn, .int hs, .ref x, .ref ll, .int fk])), (b, .inr (4, [.ref r])), (r, .inl (k.1, 628, .inl (F_X6_undo hs fk f nx kp g).2.2.1)), (h, .inr (5, [.ref rg, .int (F_X6_undo hs fk f nx kp g).2.2.2.1, .int (F_X6_undo hs fk f nx kp g).2.2.2.2])), (rg, .inl (k.2.2.2.1, 8, .inr (.inr (.inr (.inr (fun i => some (bk i))))))), ((bk 0), .inr (4, [.ref (rk 0)])), ((rk 0), .inl (k.1, 628, .inl (g 0))), ((bk 1), .inr (4, [.ref (rk 1)])), ((rk 1), .inl (k.1, 628, .inl (g 1))), ((bk 2), .inr (4, [.ref (rk 2)])), ((rk 2), .inl (k.1, 628, .inl (g 2))), ((bk 3), .inr (4, [.ref (rk 3)])), ((rk 3), .inl (k.1, 628, .inl (g 3))), ((bk 4), .inr (4, [.ref (rk 4)])), ((rk 4), .inl (k.1, 628, .inl (g 4))), ((bk 5), .inr (4, [.ref (rk 5)])), ((rk 5), .inl (k.1, 628, .inl (g 5))), ((bk 6), .inr (4, [.ref (rk 6)])), ((rk 6), .inl (k.1, 628, .inl (g 6))), ((bk 7), .inr (4, [.ref (rk 7)])), ((rk 7), .inl (k.1, 628, .inl (g 7)))] := by
  refine fo_start (cc := cX6_undo) (maxL := 1) (ret := (some .int)) (own := RX6) (Qc := fun A => va_Qi (fun r (_ : Unit) => (F_X6_undo hs fk f nx kp g).1 = none ∧ r = (F_X6_undo hs fk f nx kp g).2.1) (Bt D (fun _ => [(o, .inr (10, [.ref t, .ref b, .ref t2, .ref j, .ref h, .ref bt, .ref sn, .int hs, .ref x, .ref ll, .int fk])), (b, .inr (4, [.ref r])), (r, .inl (k.1, 628, .inl (F_X6_undo hs fk f nx kp g).2.2.1)), (h, .inr (5, [.ref rg, .int (F_X6_undo hs fk f nx kp g).2.2.2.1, .int (F_X6_undo hs fk f nx kp g).2.2.2.2])), (rg, .inl (k.2.2.2.1, 8, .inr (.inr (.inr (.inr (fun i => some (bk i))))))), ((bk 0), .inr (4, [.ref (rk 0)])), ((rk 0), .inl (k.1, 628, .inl (g 0))), ((bk 1), .inr (4, [.ref (rk 1)])), ((rk 1), .inl (k.1, 628, .inl (g 1))), ((bk 2), .inr (4, [.ref (rk 2)])), ((rk 2), .inl (k.1, 628, .inl (g 2))), ((bk 3), .inr (4, [.ref (rk 3)])), ((rk 3), .inl (k.1, 628, .inl (g 3))), ((bk 4), .inr (4, [.ref (rk 4)])), ((rk 4), .inl (k.1, 628, .inl (g 4))), ((bk 5), .inr (4, [.ref (rk 5)])), ((rk 5), .inl (k.1, 628, .inl (g 5))), ((bk 6), .inr (4, [.ref (rk 6)])), ((rk 6), .inl (k.1, 628, .inl (g 6))), ((bk 7), .inr (4, [.ref (rk 7)])), ((rk 7), .inl (k.1, 628, .inl (g 7)))]) A) A) (XC := fun A => XB D (F_X6_undo hs fk f nx kp g).1 [(o, .inr (10, [.ref t, .ref b, .ref t2, .ref j, .ref h, .ref bt, .ref sn, .int hs, .ref x, .ref ll, .int fk])), (b, .inr (4, [.ref r])), (r, .inl (k.1, 628, .inl (F_X6_undo hs fk f nx kp g).2.2.1)), (h, .inr (5, [.ref rg, .int (F_X6_undo hs fk f nx kp g).2.2.2.1, .int (F_X6_undo hs fk f nx kp g).2.2.2.2])), (rg, .inl (k.2.2.2.1, 8, .inr (.inr (.inr (.inr (fun i => some (bk i))))))), ((bk 0), .inr (4, [.ref (rk 0)])), ((rk 0), .inl (k.1, 628, .inl (g 0))), ((bk 1), .inr (4, [.ref (rk 1)])), ((rk 1), .inl (k.1, 628, .inl (g 1))), ((bk 2), .inr (4, [.ref (rk 2)])), ((rk 2), .inl (k.1, 628, .inl (g 2))), ((bk 3), .inr (4, [.ref (rk 3)])), ((rk 3), .inl (k.1, 628, .inl (g 3))), ((bk 4), .inr (4, [.ref (rk 4)])), ((rk 4), .inl (k.1, 628, .inl (g 4))), ((bk 5), .inr (4, [.ref (rk 5)])), ((rk 5), .inl (k.1, 628, .inl (g 5))), ((bk 6), .inr (4, [.ref (rk 6)])), ((rk 6), .inl (k.1, 628, .inl (g 6))), ((bk 7), .inr (4, [.ref (rk 7)])), ((rk 7), .inl (k.1, 628, .inl (g 7)))] A) (by decide) rfl rfl (Nat.le_of_ble_eq_true rfl) ?_
  intro p e s m below meth c A H hx hb hml hr hts hown hlk hout hA hP hE hD hS ls hl
  obtain ⟨RES, hF⟩ : ∃ z, (F_X6_undo hs fk f nx kp g) = z := ⟨_, rfl⟩
  rw [hF]
  unfold F_X6_undo at hF
  have hl : lv_has ls 1 [(0, .ref o)] := hl
  obtain ⟨locs, hlocs⟩ : ∃ z : List Loc, z = [] := ⟨_, rfl⟩
  rw [← hlocs] at hS ⊢
  refine lv_aload_n hx hb dX6_undo_0 rfl (lv_at hl 0 rfl) ?_
  refine va_get (D := D) (ci := 10) (v := .ref h) (C := RX6) (T := TX6) (N := 11) hx hb hts in_X6_undo_X6 hown hE.1 hP 0 rfl rfl 4 (by decide) (hts _ lk_X6_undo_34) (fun _ h9 => h9) rfl dX6_undo_1 ?_
  refine fc_ci (isC := [3]) (cells' := 0) (slots' := 0) (fc_runV (n := 0) (As := []) (rest := []) (isC := [3]) (maxL := 1) ⟨hx, hb, hml, hown, hts⟩ (c_X1_count h rg nx kp H.size) gX6_undo_X1_count rfl (by decide +kernel) rfl ⟨Nat.le_of_ble_eq_true rfl, Nat.le_of_ble_eq_true rfl⟩ ⟨Nat.le_of_ble_eq_true rfl, Nat.le_of_ble_eq_true rfl⟩ hE hP hD hS hA rfl rfl (va_recv hE.1 hP (ci := 5) (q0 := 3) rfl rfl) hl rfl (Nat.le_of_ble_eq_true rfl) dX6_undo_4) hP hD hS hA rfl (fun _ => rfl) rfl rfl (fun r_1 _ H locs hr_1 hP hD hS => ?_)
  obtain rfl : (F_X1_count nx kp) = r_1 := hr_1.symm
  dsimp only [fs, List.set] at hP hD
  have hP : va_P D vwCl [(o, .inr (10, [.ref t, .ref b, .ref t2, .ref j, .ref h, .ref bt, .ref sn, .int hs, .ref x, .ref ll, .int fk])), (b, .inr (4, [.ref r])), (r, .inl (k.1, 628, .inl f)), (h, .inr (5, [.ref rg, .int nx, .int kp])), (rg, .inl (k.2.2.2.1, 8, .inr (.inr (.inr (.inr (fun i => some (bk i))))))), ((bk 0), .inr (4, [.ref (rk 0)])), ((rk 0), .inl (k.1, 628, .inl (g 0))), ((bk 1), .inr (4, [.ref (rk 1)])), ((rk 1), .inl (k.1, 628, .inl (g 1))), ((bk 2), .inr (4, [.ref (rk 2)])), ((rk 2), .inl (k.1, 628, .inl (g 2))), ((bk 3), .inr (4, [.ref (rk 3)])), ((rk 3), .inl (k.1, 628, .inl (g 3))), ((bk 4), .inr (4, [.ref (rk 4)])), ((rk 4), .inl (k.1, 628, .inl (g 4))), ((bk 5), .inr (4, [.ref (rk 5)])), ((rk 5), .inl (k.1, 628, .inl (g 5))), ((bk 6), .inr (4, [.ref (rk 6)])), ((rk 6), .inl (k.1, 628, .inl (g 6))), ((bk 7), .inr (4, [.ref (rk 7)])), ((rk 7), .inl (k.1, 628, .inl (g 7)))] H := hP
  have hD : va_D A [(o, .inr (10, [.ref t, .ref b, .ref t2, .ref j, .ref h, .ref bt, .ref sn, .int hs, .ref x, .ref ll, .int fk])), (b, .inr (4, [.ref r])), (r, .inl (k.1, 628, .inl f)), (h, .inr (5, [.ref rg, .int nx, .int kp])), (rg, .inl (k.2.2.2.1, 8, .inr (.inr (.inr (.inr (fun i => some (bk i))))))), ((bk 0), .inr (4, [.ref (rk 0)])), ((rk 0), .inl (k.1, 628, .inl (g 0))), ((bk 1), .inr (4, [.ref (rk 1)])), ((rk 1), .inl (k.1, 628, .inl (g 1))), ((bk 2), .inr (4, [.ref (rk 2)])), ((rk 2), .inl (k.1, 628, .inl (g 2))), ((bk 3), .inr (4, [.ref (rk 3)])), ((rk 3), .inl (k.1, 628, .inl (g 3))), ((bk 4), .inr (4, [.ref (rk 4)])), ((rk 4), .inl (k.1, 628, .inl (g 4))), ((bk 5), .inr (4, [.ref (rk 5)])), ((rk 5), .inl (k.1, 628, .inl (g 5))), ((bk 6), .inr (4, [.ref (rk 6)])), ((rk 6), .inl (k.1, 628, .inl (g 6))), ((bk 7), .inr (4, [.ref (rk 7)])), ((rk 7), .inl (k.1, 628, .inl (g 7)))] := hD
  refine lv_if_ne (tgt := 21) hx hb dX6_undo_7 (by decide) (fun c_2 => ?_) (fun c_2 => ?_)
  · rw [if_neg c_2] at hF
    refine lv_aload_n hx hb dX6_undo_21 rfl (lv_at hl 0 rfl) ?_
    refine va_get (D := D) (ci := 10) (v := .ref h) (C := RX6) (T := TX6) (N := 11) hx hb hts in_X6_undo_X6 hown hE.1 hP 0 rfl rfl 4 (by decide) (hts _ lk_X6_undo_34) (fun _ h9 => h9) rfl dX6_undo_22 ?_
    refine lv_aload_n hx hb dX6_undo_25 rfl (lv_at hl 0 rfl) ?_
    refine va_get (D := D) (ci := 10) (v := .ref b) (C := RX6) (T := TX6) (N := 11) hx hb hts in_X6_undo_X6 hown hE.1 hP 0 rfl rfl 1 (by decide) (hts _ lk_X6_undo_20) (fun _ h9 => h9) rfl dX6_undo_26 ?_
    generalize hp_3 : (F_X1_takeBack nx kp g f) = p_3 at hF
    rw [letp_eq] at hF
    refine fc_cv (isC := [3, 4, 5, 6, 7, 8, 9, 10, 11, 12, 13, 14, 15, 16, 17, 18, 19, 20, 1, 2]) (cells' := 0) (slots' := 0) (fc_runV (n := 1) (As := [.ref b]) (rest := []) (isC := [3, 4, 5, 6, 7, 8, 9, 10, 11, 12, 13, 14, 15, 16, 17, 18, 19, 20, 1, 2]) (maxL := 2) ⟨hx, hb, hml, hown, hts⟩ (c_X1_takeBack h rg b r bk rk nx kp g f hN H.size) gX6_undo_X1_takeBack rfl (by decide +kernel) rfl ⟨Nat.le_of_ble_eq_true rfl, Nat.le_of_ble_eq_true rfl⟩ ⟨Nat.le_of_ble_eq_true rfl, Nat.le_of_ble_eq_true rfl⟩ hE hP hD hS hA rfl rfl (va_recv hE.1 hP (ci := 5) (q0 := 3) rfl rfl) hl rfl (Nat.le_of_ble_eq_true rfl) dX6_undo_29) hP hD hS hA rfl (fun _ => rfl) rfl rfl (fun _ H locs _ hP hD hS => ?_)
    rw [hp_3] at hP hD
    dsimp only [fs, List.set] at hP hD
    have hP : va_P D vwCl [(o, .inr (10, [.ref t, .ref b, .ref t2, .ref j, .ref h, .ref bt, .ref sn, .int hs, .ref x, .ref ll, .int fk])), (b, .inr (4, [.ref r])), (r, .inl (k.1, 628, .inl p_3.2.2)), (h, .inr (5, [.ref rg, .int p_3.1, .int p_3.2.1])), (rg, .inl (k.2.2.2.1, 8, .inr (.inr (.inr (.inr (fun i => some (bk i))))))), ((bk 0), .inr (4, [.ref (rk 0)])), ((rk 0), .inl (k.1, 628, .inl (g 0))), ((bk 1), .inr (4, [.ref (rk 1)])), ((rk 1), .inl (k.1, 628, .inl (g 1))), ((bk 2), .inr (4, [.ref (rk 2)])), ((rk 2), .inl (k.1, 628, .inl (g 2))), ((bk 3), .inr (4, [.ref (rk 3)])), ((rk 3), .inl (k.1, 628, .inl (g 3))), ((bk 4), .inr (4, [.ref (rk 4)])), ((rk 4), .inl (k.1, 628, .inl (g 4))), ((bk 5), .inr (4, [.ref (rk 5)])), ((rk 5), .inl (k.1, 628, .inl (g 5))), ((bk 6), .inr (4, [.ref (rk 6)])), ((rk 6), .inl (k.1, 628, .inl (g 6))), ((bk 7), .inr (4, [.ref (rk 7)])), ((rk 7), .inl (k.1, 628, .inl (g 7)))] H := hP
    have hD : va_D A [(o, .inr (10, [.ref t, .ref b, .ref t2, .ref j, .ref h, .ref bt, .ref sn, .int hs, .ref x, .ref ll, .int fk])), (b, .inr (4, [.ref r])), (r, .inl (k.1, 628, .inl p_3.2.2)), (h, .inr (5, [.ref rg, .int p_3.1, .int p_3.2.1])), (rg, .inl (k.2.2.2.1, 8, .inr (.inr (.inr (.inr (fun i => some (bk i))))))), ((bk 0), .inr (4, [.ref (rk 0)])), ((rk 0), .inl (k.1, 628, .inl (g 0))), ((bk 1), .inr (4, [.ref (rk 1)])), ((rk 1), .inl (k.1, 628, .inl (g 1))), ((bk 2), .inr (4, [.ref (rk 2)])), ((rk 2), .inl (k.1, 628, .inl (g 2))), ((bk 3), .inr (4, [.ref (rk 3)])), ((rk 3), .inl (k.1, 628, .inl (g 3))), ((bk 4), .inr (4, [.ref (rk 4)])), ((rk 4), .inl (k.1, 628, .inl (g 4))), ((bk 5), .inr (4, [.ref (rk 5)])), ((rk 5), .inl (k.1, 628, .inl (g 5))), ((bk 6), .inr (4, [.ref (rk 6)])), ((rk 6), .inl (k.1, 628, .inl (g 6))), ((bk 7), .inr (4, [.ref (rk 7)])), ((rk 7), .inl (k.1, 628, .inl (g 7)))] := hD
    refine lv_aload_n hx hb dX6_undo_32 rfl (lv_at hl 0 rfl) ?_
    refine va_get (D := D) (ci := 10) (v := .ref h) (C := RX6) (T := TX6) (N := 11) hx hb hts in_X6_undo_X6 hown hE.1 hP 0 rfl rfl 4 (by decide) (hts _ lk_X6_undo_34) (fun _ h9 => h9) rfl dX6_undo_33 ?_
    refine fc_ci (isC := [3]) (cells' := 0) (slots' := 0) (fc_runV (n := 0) (As := []) (rest := []) (isC := [3]) (maxL := 1) ⟨hx, hb, hml, hown, hts⟩ (c_X1_count h rg p_3.1 p_3.2.1 H.size) gX6_undo_X1_count rfl (by decide +kernel) rfl ⟨Nat.le_of_ble_eq_true rfl, Nat.le_of_ble_eq_true rfl⟩ ⟨Nat.le_of_ble_eq_true rfl, Nat.le_of_ble_eq_true rfl⟩ hE hP hD hS hA rfl rfl (va_recv hE.1 hP (ci := 5) (q0 := 3) rfl rfl) hl rfl (Nat.le_of_ble_eq_true rfl) dX6_undo_36) hP hD hS hA rfl (fun _ => rfl) rfl rfl (fun r_4 _ H locs hr_4 hP hD hS => ?_)
    obtain rfl : (F_X1_count p_3.1 p_3.2.1) = r_4 := hr_4.symm
    dsimp only [fs, List.set] at hP hD
    have hP : va_P D vwCl [(o, .inr (10, [.ref t, .ref b, .ref t2, .ref j, .ref h, .ref bt, .ref sn, .int hs, .ref x, .ref ll, .int fk])), (b, .inr (4, [.ref r])), (r, .inl (k.1, 628, .inl p_3.2.2)), (h, .inr (5, [.ref rg, .int p_3.1, .int p_3.2.1])), (rg, .inl (k.2.2.2.1, 8, .inr (.inr (.inr (.inr (fun i => some (bk i))))))), ((bk 0), .inr (4, [.ref (rk 0)])), ((rk 0), .inl (k.1, 628, .inl (g 0))), ((bk 1), .inr (4, [.ref (rk 1)])), ((rk 1), .inl (k.1, 628, .inl (g 1))), ((bk 2), .inr (4, [.ref (rk 2)])), ((rk 2), .inl (k.1, 628, .inl (g 2))), ((bk 3), .inr (4, [.ref (rk 3)])), ((rk 3), .inl (k.1, 628, .inl (g 3))), ((bk 4), .inr (4, [.ref (rk 4)])), ((rk 4), .inl (k.1, 628, .inl (g 4))), ((bk 5), .inr (4, [.ref (rk 5)])), ((rk 5), .inl (k.1, 628, .inl (g 5))), ((bk 6), .inr (4, [.ref (rk 6)])), ((rk 6), .inl (k.1, 628, .inl (g 6))), ((bk 7), .inr (4, [.ref (rk 7)])), ((rk 7), .inl (k.1, 628, .inl (g 7)))] H := hP
    have hD : va_D A [(o, .inr (10, [.ref t, .ref b, .ref t2, .ref j, .ref h, .ref bt, .ref sn, .int hs, .ref x, .ref ll, .int fk])), (b, .inr (4, [.ref r])), (r, .inl (k.1, 628, .inl p_3.2.2)), (h, .inr (5, [.ref rg, .int p_3.1, .int p_3.2.1])), (rg, .inl (k.2.2.2.1, 8, .inr (.inr (.inr (.inr (fun i => some (bk i))))))), ((bk 0), .inr (4, [.ref (rk 0)])), ((rk 0), .inl (k.1, 628, .inl (g 0))), ((bk 1), .inr (4, [.ref (rk 1)])), ((rk 1), .inl (k.1, 628, .inl (g 1))), ((bk 2), .inr (4, [.ref (rk 2)])), ((rk 2), .inl (k.1, 628, .inl (g 2))), ((bk 3), .inr (4, [.ref (rk 3)])), ((rk 3), .inl (k.1, 628, .inl (g 3))), ((bk 4), .inr (4, [.ref (rk 4)])), ((rk 4), .inl (k.1, 628, .inl (g 4))), ((bk 5), .inr (4, [.ref (rk 5)])), ((rk 5), .inl (k.1, 628, .inl (g 5))), ((bk 6), .inr (4, [.ref (rk 6)])), ((rk 6), .inl (k.1, 628, .inl (g 6))), ((bk 7), .inr (4, [.ref (rk 7)])), ((rk 7), .inl (k.1, 628, .inl (g 7)))] := hD
    subst hF
    exact fo_iret hx hb hr rfl hlk hS rfl rfl hP hD (by decide) (by decide) dX6_undo_39
  · rw [if_pos c_2] at hF
    subst hF
    exact fo_throwW (names := exN) (i := 12) (B := []) (own := RX6) hlst hx hb hml hown hE hts exF_IllegalStateException exN_ok (by decide +kernel) (by decide +kernel) rfl xl_X6_undo_226 exH_226 (by decide +kernel) exG_226 hl dX6_undo_10 dX6_undo_13 dX6_undo_14 dX6_undo_17 dX6_undo_20 hout (by decide) (by decide) (by decide) (by decide) hlk hS rfl hP hD (by decide) (by decide)

abbrev rm_X6_saveSnapshot : Room := { frames := 2, cells := 0, slots := 0, locals := 61 }
theorem in_X6_saveSnapshot_X6 : ∀ w ∈ wsX60, w ∈ wsX6_saveSnapshot := by decide +kernel
theorem lk_X6_saveSnapshot_20 : (Cond.fieldLink RX6 20 "TheatreSaga" "books" "LTheatreSaga$Books;") ∈ wsX6_saveSnapshot := by decide +kernel
theorem lk_X6_saveSnapshot_44 : (Cond.fieldLink RX6 44 "TheatreSaga" "snapshot" "LTheatreSaga$Books;") ∈ wsX6_saveSnapshot := by decide +kernel
theorem lk_X6_saveSnapshot_47 : (Cond.fieldLink RX6 47 "TheatreSaga" "hasSnapshot" "Z") ∈ wsX6_saveSnapshot := by decide +kernel
def F_X6_saveSnapshot (hs : Int32) (fk : Int32) (f : (Nat → Int32)) (f4 : (Nat → Int32))  : Int32 × Int32 × (Nat → Int32) := ((F_X0_get f (1 : Int32)), (1 : Int32), (F_X0_take f4 f))
set_option maxHeartbeats 4000000 in
set_option maxRecDepth 100000 in
theorem c_X6_saveSnapshot {l : Launch} {D : va_G} {k : tyK} (o t b t2 j h bt sn x ll r rs : Nat) (hs : Int32) (fk : Int32) (f : (Nat → Int32)) (f4 : (Nat → Int32))  : FCi l yX6_saveSnapshot wsX6_saveSnapshot rm_X6_saveSnapshot D k [.ref o] [(o, .inr (10, [.ref t, .ref b, .ref t2, .ref j, .ref h, .ref bt, .ref sn, .int hs, .ref x, .ref ll, .int fk])), (b, .inr (4, [.ref r])), (r, .inl (k.1, 628, .inl f)), (sn, .inr (4, [.ref rs])), (rs, .inl (k.1, 628, .inl f4))] (fun r (_ : Unit) => r = (F_X6_saveSnapshot hs fk f f4).1) (fun _ => [(o, .inr (10, [.ref t, .ref b, .ref t2, .ref j, .ref h, .ref bt, .ref sn, .int (F_X6_saveSnapshot hs fk f f4).2.1, .ref x, .ref ll, .int fk])), (b, .inr (4, [.ref r])), (r, .inl (k.1, 628, .inl f)), (sn, .inr (4, [.ref rs])), (rs, .inl (k.1, 628, .inl (F_X6_saveSnapshot hs fk f f4).2.2))]) := by
  refine fc_start (cc := cX6_saveSnapshot) (maxL := 1) (ret := (some .int)) (own := RX6) (Qc := fun A => va_Qi (fun r (_ : Unit) => r = (F_X6_saveSnapshot hs fk f f4).1) (Bt D (fun _ => [(o, .inr (10, [.ref t, .ref b, .ref t2, .ref j, .ref h, .ref bt, .ref sn, .int (F_X6_saveSnapshot hs fk f f4).2.1, .ref x, .ref ll, .int fk])), (b, .inr (4, [.ref r])), (r, .inl (k.1, 628, .inl f)), (sn, .inr (4, [.ref rs])), (rs, .inl (k.1, 628, .inl (F_X6_saveSnapshot hs fk f f4).2.2))]) A) A) (by decide) rfl rfl (Nat.le_of_ble_eq_true rfl) ?_
  intro p e s m below meth c A H hx hb hml hr hts hown hlk hname hA hP hE hD hS ls hl
  obtain ⟨RES, hF⟩ : ∃ z, (F_X6_saveSnapshot hs fk f f4) = z := ⟨_, rfl⟩
  rw [hF]
  unfold F_X6_saveSnapshot at hF
  have hl : lv_has ls 1 [(0, .ref o)] := hl
  obtain ⟨locs, hlocs⟩ : ∃ z : List Loc, z = [] := ⟨_, rfl⟩
  rw [← hlocs] at hS ⊢
  refine lv_aload_n hx hb dX6_saveSnapshot_0 rfl (lv_at hl 0 rfl) ?_
  refine va_get (D := D) (ci := 10) (v := .ref sn) (C := RX6) (T := TX6) (N := 11) hx hb hts in_X6_saveSnapshot_X6 hown hE.1 hP 0 rfl rfl 6 (by decide) (hts _ lk_X6_saveSnapshot_44) (fun _ h9 => h9) rfl dX6_saveSnapshot_1 ?_
  refine lv_aload_n hx hb dX6_saveSnapshot_4 rfl (lv_at hl 0 rfl) ?_
  refine va_get (D := D) (ci := 10) (v := .ref b) (C := RX6) (T := TX6) (N := 11) hx hb hts in_X6_saveSnapshot_X6 hown hE.1 hP 0 rfl rfl 1 (by decide) (hts _ lk_X6_saveSnapshot_20) (fun _ h9 => h9) rfl dX6_saveSnapshot_5 ?_
  refine fc_cv (isC := [3, 4, 1, 2]) (cells' := 0) (slots' := 0) (fc_runV (n := 1) (As := [.ref b]) (rest := []) (isC := [3, 4, 1, 2]) (maxL := 2) ⟨hx, hb, hml, hown, hts⟩ (c_X0_take sn rs b r f4 f H.size) gX6_saveSnapshot_X0_take rfl (by decide +kernel) rfl ⟨Nat.le_of_ble_eq_true rfl, Nat.le_of_ble_eq_true rfl⟩ ⟨Nat.le_of_ble_eq_true rfl, Nat.le_of_ble_eq_true rfl⟩ hE hP hD hS hA rfl rfl (va_recv hE.1 hP (ci := 4) (q0 := 3) rfl rfl) hl rfl (Nat.le_of_ble_eq_true rfl) dX6_saveSnapshot_8) hP hD hS hA rfl (fun _ => rfl) rfl rfl (fun _ H locs _ hP hD hS => ?_)
  dsimp only [fs, List.set] at hP hD
  have hP : va_P D vwCl [(o, .inr (10, [.ref t, .ref b, .ref t2, .ref j, .ref h, .ref bt, .ref sn, .int hs, .ref x, .ref ll, .int fk])), (b, .inr (4, [.ref r])), (r, .inl (k.1, 628, .inl f)), (sn, .inr (4, [.ref rs])), (rs, .inl (k.1, 628, .inl (F_X0_take f4 f)))] H := hP
  have hD : va_D A [(o, .inr (10, [.ref t, .ref b, .ref t2, .ref j, .ref h, .ref bt, .ref sn, .int hs, .ref x, .ref ll, .int fk])), (b, .inr (4, [.ref r])), (r, .inl (k.1, 628, .inl f)), (sn, .inr (4, [.ref rs])), (rs, .inl (k.1, 628, .inl (F_X0_take f4 f)))] := hD
  refine lv_aload_n hx hb dX6_saveSnapshot_11 rfl (lv_at hl 0 rfl) ?_
  refine lv_iconst (v := 1) hx hb dX6_saveSnapshot_12 (by decide) ?_
  refine va_put (D := D) (ci := 10) (v := .int (1 : Int32)) (ty := .boolean) (C := RX6) (T := TX6) (N := 11) hx hb hts in_X6_saveSnapshot_X6 tyX6 tyX6_ok nmX6 hown hE.1 hP hD hS 0 rfl rfl 7 (by decide) (hts _ lk_X6_saveSnapshot_47) (fun _ h9 => h9) rfl (by decide +kernel) rfl rfl (Nat.le_of_ble_eq_true rfl) dX6_saveSnapshot_13 (fun H locs hP hD hS => ?_)
  have hP : va_P D vwCl [(o, .inr (10, [.ref t, .ref b, .ref t2, .ref j, .ref h, .ref bt, .ref sn, .int (1 : Int32), .ref x, .ref ll, .int fk])), (b, .inr (4, [.ref r])), (r, .inl (k.1, 628, .inl f)), (sn, .inr (4, [.ref rs])), (rs, .inl (k.1, 628, .inl (F_X0_take f4 f)))] H := hP
  have hD : va_D A [(o, .inr (10, [.ref t, .ref b, .ref t2, .ref j, .ref h, .ref bt, .ref sn, .int (1 : Int32), .ref x, .ref ll, .int fk])), (b, .inr (4, [.ref r])), (r, .inl (k.1, 628, .inl f)), (sn, .inr (4, [.ref rs])), (rs, .inl (k.1, 628, .inl (F_X0_take f4 f)))] := hD
  refine lv_aload_n hx hb dX6_saveSnapshot_16 rfl (lv_at hl 0 rfl) ?_
  refine va_get (D := D) (ci := 10) (v := .ref b) (C := RX6) (T := TX6) (N := 11) hx hb hts in_X6_saveSnapshot_X6 hown hE.1 hP 0 rfl rfl 1 (by decide) (hts _ lk_X6_saveSnapshot_20) (fun _ h9 => h9) rfl dX6_saveSnapshot_17 ?_
  refine lv_iconst (v := 1) hx hb dX6_saveSnapshot_20 (by decide) ?_
  refine fc_ci (isC := [1, 2]) (cells' := 0) (slots' := 0) (fc_runV (n := 1) (As := [.int (1 : Int32)]) (rest := []) (isC := [1, 2]) (maxL := 2) ⟨hx, hb, hml, hown, hts⟩ (c_X0_get b r f (1 : Int32) H.size) gX6_saveSnapshot_X0_get rfl (by decide +kernel) rfl ⟨Nat.le_of_ble_eq_true rfl, Nat.le_of_ble_eq_true rfl⟩ ⟨Nat.le_of_ble_eq_true rfl, Nat.le_of_ble_eq_true rfl⟩ hE hP hD hS hA rfl rfl (va_recv hE.1 hP (ci := 4) (q0 := 1) rfl rfl) hl rfl (Nat.le_of_ble_eq_true rfl) dX6_saveSnapshot_21) hP hD hS hA rfl (fun _ => rfl) rfl rfl (fun r_1 _ H locs hr_1 hP hD hS => ?_)
  obtain rfl : (F_X0_get f (1 : Int32)) = r_1 := hr_1.symm
  dsimp only [fs, List.set] at hP hD
  have hP : va_P D vwCl [(o, .inr (10, [.ref t, .ref b, .ref t2, .ref j, .ref h, .ref bt, .ref sn, .int (1 : Int32), .ref x, .ref ll, .int fk])), (b, .inr (4, [.ref r])), (r, .inl (k.1, 628, .inl f)), (sn, .inr (4, [.ref rs])), (rs, .inl (k.1, 628, .inl (F_X0_take f4 f)))] H := hP
  have hD : va_D A [(o, .inr (10, [.ref t, .ref b, .ref t2, .ref j, .ref h, .ref bt, .ref sn, .int (1 : Int32), .ref x, .ref ll, .int fk])), (b, .inr (4, [.ref r])), (r, .inl (k.1, 628, .inl f)), (sn, .inr (4, [.ref rs])), (rs, .inl (k.1, 628, .inl (F_X0_take f4 f)))] := hD
  subst hF
  exact fc_iret hx hb hr rfl hlk hS () rfl hP hD (by decide) (by decide) dX6_saveSnapshot_24

abbrev rm_X6_restoreSnapshot : Room := { frames := 6, cells := 1, slots := 6, locals := 96 }
theorem in_X6_restoreSnapshot_X6 : ∀ w ∈ wsX60, w ∈ wsX6_restoreSnapshot := by decide +kernel
theorem lk_X6_restoreSnapshot_20 : (Cond.fieldLink RX6 20 "TheatreSaga" "books" "LTheatreSaga$Books;") ∈ wsX6_restoreSnapshot := by decide +kernel
theorem lk_X6_restoreSnapshot_34 : (Cond.fieldLink RX6 34 "TheatreSaga" "history" "LTheatreSaga$History;") ∈ wsX6_restoreSnapshot := by decide +kernel
theorem lk_X6_restoreSnapshot_44 : (Cond.fieldLink RX6 44 "TheatreSaga" "snapshot" "LTheatreSaga$Books;") ∈ wsX6_restoreSnapshot := by decide +kernel
theorem lk_X6_restoreSnapshot_47 : (Cond.fieldLink RX6 47 "TheatreSaga" "hasSnapshot" "Z") ∈ wsX6_restoreSnapshot := by decide +kernel
theorem xl_X6_restoreSnapshot_226 : ∀ w ∈ (vx_atS RX6 226 "java/lang/IllegalStateException" exN).filter goodWord, w ∈ wsX6_restoreSnapshot := by decide +kernel
def F_X6_restoreSnapshot (hs : Int32) (fk : Int32) (f : (Nat → Int32)) (nx : Int32) (kp : Int32) (f4 : (Nat → Int32))  : Option String × Int32 × (Nat → Int32) × Int32 := (if hs = (0 : Int32) then ((some "java/lang/IllegalStateException"), (0 : Int32), f, kp) else (none, (F_X0_get (F_X0_take f f4) (1 : Int32)), (F_X0_take f f4), (F_X1_forget nx kp)))
set_option maxHeartbeats 4000000 in
set_option maxRecDepth 100000 in
theorem c_X6_restoreSnapshot {l : Launch} {D : va_G} {k : tyK} (o t b t2 j h bt sn x ll r rg rs : Nat) (hs : Int32) (fk : Int32) (f : (Nat → Int32)) (nx : Int32) (kp : Int32) (f4 : (Nat → Int32))  (hlst : l.stackTraces = false) : FOi l yX6_restoreSnapshot wsX6_restoreSnapshot rm_X6_restoreSnapshot D k [.ref o] [(o, .inr (10, [.ref t, .ref b, .ref t2, .ref j, .ref h, .ref bt, .ref sn, .int hs, .ref x, .ref ll, .int fk])), (b, .inr (4, [.ref r])), (r, .inl (k.1, 628, .inl f)), (h, .inr (5, [.ref rg, .int nx, .int kp])), (sn, .inr (4, [.ref rs])), (rs, .inl (k.1, 628, .inl f4))] (F_X6_restoreSnapshot hs fk f nx kp f4).1 (F_X6_restoreSnapshot hs fk f nx kp f4).2.1 [(o, .inr (10, [.ref t, .ref b, .ref t2, .ref j, .ref h, .ref bt, .ref sn, .int hs, .ref x, .ref ll, .int fk])), (b, .inr (4, [.ref r])), (r, .inl (k.1, 628, .inl (F_X6_restoreSnapshot hs fk f nx kp f4).2.2.1)), (h, .inr (5, [.ref rg, .int nx, .int (F_X6_restoreSnapshot hs fk f nx kp f4).2.2.2])), (sn, .inr (4, [.ref rs])), (rs, .inl (k.1, 628, .inl f4))] := by
  refine fo_start (cc := cX6_restoreSnapshot) (maxL := 1) (ret := (some .int)) (own := RX6) (Qc := fun A => va_Qi (fun r (_ : Unit) => (F_X6_restoreSnapshot hs fk f nx kp f4).1 = none ∧ r = (F_X6_restoreSnapshot hs fk f nx kp f4).2.1) (Bt D (fun _ => [(o, .inr (10, [.ref t, .ref b, .ref t2, .ref j, .ref h, .ref bt, .ref sn, .int hs, .ref x, .ref ll, .int fk])), (b, .inr (4, [.ref r])), (r, .inl (k.1, 628, .inl (F_X6_restoreSnapshot hs fk f nx kp f4).2.2.1)), (h, .inr (5, [.ref rg, .int nx, .int (F_X6_restoreSnapshot hs fk f nx kp f4).2.2.2])), (sn, .inr (4, [.ref rs])), (rs, .inl (k.1, 628, .inl f4))]) A) A) (XC := fun A => XB D (F_X6_restoreSnapshot hs fk f nx kp f4).1 [(o, .inr (10, [.ref t, .ref b, .ref t2, .ref j, .ref h, .ref bt, .ref sn, .int hs, .ref x, .ref ll, .int fk])), (b, .inr (4, [.ref r])), (r, .inl (k.1, 628, .inl (F_X6_restoreSnapshot hs fk f nx kp f4).2.2.1)), (h, .inr (5, [.ref rg, .int nx, .int (F_X6_restoreSnapshot hs fk f nx kp f4).2.2.2])), (sn, .inr (4, [.ref rs])), (rs, .inl (k.1, 628, .inl f4))] A) (by decide) rfl rfl (Nat.le_of_ble_eq_true rfl) ?_
  intro p e s m below meth c A H hx hb hml hr hts hown hlk hout hA hP hE hD hS ls hl
  obtain ⟨RES, hF⟩ : ∃ z, (F_X6_restoreSnapshot hs fk f nx kp f4) = z := ⟨_, rfl⟩
  rw [hF]
  unfold F_X6_restoreSnapshot at hF
  have hl : lv_has ls 1 [(0, .ref o)] := hl
  obtain ⟨locs, hlocs⟩ : ∃ z : List Loc, z = [] := ⟨_, rfl⟩
  rw [← hlocs] at hS ⊢
  refine lv_aload_n hx hb dX6_restoreSnapshot_0 rfl (lv_at hl 0 rfl) ?_
  refine va_get (D := D) (ci := 10) (v := .int hs) (C := RX6) (T := TX6) (N := 11) hx hb hts in_X6_restoreSnapshot_X6 hown hE.1 hP 0 rfl rfl 7 (by decide) (hts _ lk_X6_restoreSnapshot_47) (fun _ h9 => h9) rfl dX6_restoreSnapshot_1 ?_
  refine lv_if_ne (tgt := 18) hx hb dX6_restoreSnapshot_4 (by decide) (fun c_1 => ?_) (fun c_1 => ?_)
  · rw [if_neg c_1] at hF
    refine lv_aload_n hx hb dX6_restoreSnapshot_18 rfl (lv_at hl 0 rfl) ?_
    refine va_get (D := D) (ci := 10) (v := .ref b) (C := RX6) (T := TX6) (N := 11) hx hb hts in_X6_restoreSnapshot_X6 hown hE.1 hP 0 rfl rfl 1 (by decide) (hts _ lk_X6_restoreSnapshot_20) (fun _ h9 => h9) rfl dX6_restoreSnapshot_19 ?_
    refine lv_aload_n hx hb dX6_restoreSnapshot_22 rfl (lv_at hl 0 rfl) ?_
    refine va_get (D := D) (ci := 10) (v := .ref sn) (C := RX6) (T := TX6) (N := 11) hx hb hts in_X6_restoreSnapshot_X6 hown hE.1 hP 0 rfl rfl 6 (by decide) (hts _ lk_X6_restoreSnapshot_44) (fun _ h9 => h9) rfl dX6_restoreSnapshot_23 ?_
    refine fc_cv (isC := [1, 2, 4, 5]) (cells' := 0) (slots' := 0) (fc_runV (n := 1) (As := [.ref sn]) (rest := []) (isC := [1, 2, 4, 5]) (maxL := 2) ⟨hx, hb, hml, hown, hts⟩ (c_X0_take b r sn rs f f4 H.size) gX6_restoreSnapshot_X0_take rfl (by decide +kernel) rfl ⟨Nat.le_of_ble_eq_true rfl, Nat.le_of_ble_eq_true rfl⟩ ⟨Nat.le_of_ble_eq_true rfl, Nat.le_of_ble_eq_true rfl⟩ hE hP hD hS hA rfl rfl (va_recv hE.1 hP (ci := 4) (q0 := 1) rfl rfl) hl rfl (Nat.le_of_ble_eq_true rfl) dX6_restoreSnapshot_26) hP hD hS hA rfl (fun _ => rfl) rfl rfl (fun _ H locs _ hP hD hS => ?_)
    dsimp only [fs, List.set] at hP hD
    have hP : va_P D vwCl [(o, .inr (10, [.ref t, .ref b, .ref t2, .ref j, .ref h, .ref bt, .ref sn, .int hs, .ref x, .ref ll, .int fk])), (b, .inr (4, [.ref r])), (r, .inl (k.1, 628, .inl (F_X0_take f f4))), (h, .inr (5, [.ref rg, .int nx, .int kp])), (sn, .inr (4, [.ref rs])), (rs, .inl (k.1, 628, .inl f4))] H := hP
    have hD : va_D A [(o, .inr (10, [.ref t, .ref b, .ref t2, .ref j, .ref h, .ref bt, .ref sn, .int hs, .ref x, .ref ll, .int fk])), (b, .inr (4, [.ref r])), (r, .inl (k.1, 628, .inl (F_X0_take f f4))), (h, .inr (5, [.ref rg, .int nx, .int kp])), (sn, .inr (4, [.ref rs])), (rs, .inl (k.1, 628, .inl f4))] := hD
    refine lv_aload_n hx hb dX6_restoreSnapshot_29 rfl (lv_at hl 0 rfl) ?_
    refine va_get (D := D) (ci := 10) (v := .ref h) (C := RX6) (T := TX6) (N := 11) hx hb hts in_X6_restoreSnapshot_X6 hown hE.1 hP 0 rfl rfl 4 (by decide) (hts _ lk_X6_restoreSnapshot_34) (fun _ h9 => h9) rfl dX6_restoreSnapshot_30 ?_
    refine fc_cv (isC := [3]) (cells' := 0) (slots' := 0) (fc_runV (n := 0) (As := []) (rest := []) (isC := [3]) (maxL := 1) ⟨hx, hb, hml, hown, hts⟩ (c_X1_forget h rg nx kp H.size) gX6_restoreSnapshot_X1_forget rfl (by decide +kernel) rfl ⟨Nat.le_of_ble_eq_true rfl, Nat.le_of_ble_eq_true rfl⟩ ⟨Nat.le_of_ble_eq_true rfl, Nat.le_of_ble_eq_true rfl⟩ hE hP hD hS hA rfl rfl (va_recv hE.1 hP (ci := 5) (q0 := 3) rfl rfl) hl rfl (Nat.le_of_ble_eq_true rfl) dX6_restoreSnapshot_33) hP hD hS hA rfl (fun _ => rfl) rfl rfl (fun _ H locs _ hP hD hS => ?_)
    dsimp only [fs, List.set] at hP hD
    have hP : va_P D vwCl [(o, .inr (10, [.ref t, .ref b, .ref t2, .ref j, .ref h, .ref bt, .ref sn, .int hs, .ref x, .ref ll, .int fk])), (b, .inr (4, [.ref r])), (r, .inl (k.1, 628, .inl (F_X0_take f f4))), (h, .inr (5, [.ref rg, .int nx, .int (F_X1_forget nx kp)])), (sn, .inr (4, [.ref rs])), (rs, .inl (k.1, 628, .inl f4))] H := hP
    have hD : va_D A [(o, .inr (10, [.ref t, .ref b, .ref t2, .ref j, .ref h, .ref bt, .ref sn, .int hs, .ref x, .ref ll, .int fk])), (b, .inr (4, [.ref r])), (r, .inl (k.1, 628, .inl (F_X0_take f f4))), (h, .inr (5, [.ref rg, .int nx, .int (F_X1_forget nx kp)])), (sn, .inr (4, [.ref rs])), (rs, .inl (k.1, 628, .inl f4))] := hD
    refine lv_aload_n hx hb dX6_restoreSnapshot_36 rfl (lv_at hl 0 rfl) ?_
    refine va_get (D := D) (ci := 10) (v := .ref b) (C := RX6) (T := TX6) (N := 11) hx hb hts in_X6_restoreSnapshot_X6 hown hE.1 hP 0 rfl rfl 1 (by decide) (hts _ lk_X6_restoreSnapshot_20) (fun _ h9 => h9) rfl dX6_restoreSnapshot_37 ?_
    refine lv_iconst (v := 1) hx hb dX6_restoreSnapshot_40 (by decide) ?_
    refine fc_ci (isC := [1, 2]) (cells' := 0) (slots' := 0) (fc_runV (n := 1) (As := [.int (1 : Int32)]) (rest := []) (isC := [1, 2]) (maxL := 2) ⟨hx, hb, hml, hown, hts⟩ (c_X0_get b r (F_X0_take f f4) (1 : Int32) H.size) gX6_restoreSnapshot_X0_get rfl (by decide +kernel) rfl ⟨Nat.le_of_ble_eq_true rfl, Nat.le_of_ble_eq_true rfl⟩ ⟨Nat.le_of_ble_eq_true rfl, Nat.le_of_ble_eq_true rfl⟩ hE hP hD hS hA rfl rfl (va_recv hE.1 hP (ci := 4) (q0 := 1) rfl rfl) hl rfl (Nat.le_of_ble_eq_true rfl) dX6_restoreSnapshot_41) hP hD hS hA rfl (fun _ => rfl) rfl rfl (fun r_2 _ H locs hr_2 hP hD hS => ?_)
    obtain rfl : (F_X0_get (F_X0_take f f4) (1 : Int32)) = r_2 := hr_2.symm
    dsimp only [fs, List.set] at hP hD
    have hP : va_P D vwCl [(o, .inr (10, [.ref t, .ref b, .ref t2, .ref j, .ref h, .ref bt, .ref sn, .int hs, .ref x, .ref ll, .int fk])), (b, .inr (4, [.ref r])), (r, .inl (k.1, 628, .inl (F_X0_take f f4))), (h, .inr (5, [.ref rg, .int nx, .int (F_X1_forget nx kp)])), (sn, .inr (4, [.ref rs])), (rs, .inl (k.1, 628, .inl f4))] H := hP
    have hD : va_D A [(o, .inr (10, [.ref t, .ref b, .ref t2, .ref j, .ref h, .ref bt, .ref sn, .int hs, .ref x, .ref ll, .int fk])), (b, .inr (4, [.ref r])), (r, .inl (k.1, 628, .inl (F_X0_take f f4))), (h, .inr (5, [.ref rg, .int nx, .int (F_X1_forget nx kp)])), (sn, .inr (4, [.ref rs])), (rs, .inl (k.1, 628, .inl f4))] := hD
    subst hF
    exact fo_iret hx hb hr rfl hlk hS rfl rfl hP hD (by decide) (by decide) dX6_restoreSnapshot_44
  · rw [if_pos c_1] at hF
    subst hF
    exact fo_throwW (names := exN) (i := 13) (B := []) (own := RX6) hlst hx hb hml hown hE hts exF_IllegalStateException exN_ok (by decide +kernel) (by decide +kernel) rfl xl_X6_restoreSnapshot_226 exH_226 (by decide +kernel) exG_226 hl dX6_restoreSnapshot_7 dX6_restoreSnapshot_10 dX6_restoreSnapshot_11 dX6_restoreSnapshot_14 dX6_restoreSnapshot_17 hout (by decide) (by decide) (by decide) (by decide) hlk hS rfl hP hD (by decide) (by decide)
end
