section
abbrev rm_X5_planTour : Room := { frames := 1, cells := 0, slots := 0, locals := 22 }
theorem in_X5_planTour_X5 : ∀ w ∈ wsX50, w ∈ wsX5_planTour := by decide +kernel
theorem lk_X5_planTour_12 : (Cond.fieldLink RX5 12 "TheatreSaga$Theatre" "books" "LTheatreSaga$Books;") ∈ wsX5_planTour := by decide +kernel
def F_X5_planTour (f : (Nat → Int32)) (il : Int32) : Int32 × (Nat → Int32) := ((F_X0_get f (1 : Int32)), (F_X0_add (F_X0_set f (F_X6_ofTour (F_X0_get f (1 : Int32)) (1 : Int32)) il) (1 : Int32) (1 : Int32)))
set_option maxHeartbeats 4000000 in
set_option maxRecDepth 100000 in
theorem c_X5_planTour {l : Launch} {D : va_G} {k : tyK} (t b r : Nat) (f : (Nat → Int32)) (il : Int32) : FCi l yX5_planTour wsX5_planTour rm_X5_planTour D k [.ref t, .int il] [(t, .inr (9, [.ref b])), (b, .inr (4, [.ref r])), (r, .inl (k.1, 628, .inl f))] (fun r (_ : Unit) => r = (F_X5_planTour f il).1) (fun _ => [(t, .inr (9, [.ref b])), (b, .inr (4, [.ref r])), (r, .inl (k.1, 628, .inl (F_X5_planTour f il).2))]) := by
  refine fc_start (cc := cX5_planTour) (maxL := 3) (ret := (some .int)) (own := RX5) (Qc := fun A => va_Qi (fun r (_ : Unit) => r = (F_X5_planTour f il).1) (Bt D (fun _ => [(t, .inr (9, [.ref b])), (b, .inr (4, [.ref r])), (r, .inl (k.1, 628, .inl (F_X5_planTour f il).2))]) A) A) (by decide) rfl rfl (Nat.le_of_ble_eq_true rfl) ?_
  intro p e s m below meth c A H hx hb hml hr hts hown hlk hname hA hP hE hD hS ls hl
  obtain ⟨RES, hF⟩ : ∃ z, (F_X5_planTour f il) = z := ⟨_, rfl⟩
  rw [hF]
  unfold F_X5_planTour at hF
  have hl : lv_has ls 3 [(0, .ref t), (1, .int il)] := hl
  obtain ⟨locs, hlocs⟩ : ∃ z : List Loc, z = [] := ⟨_, rfl⟩
  rw [← hlocs] at hS ⊢
  refine lv_aload_n hx hb dX5_planTour_0 rfl (lv_at hl 0 rfl) ?_
  refine va_get (D := D) (ci := 9) (v := .ref b) (C := RX5) (T := TX5) (N := 1) hx hb hts in_X5_planTour_X5 hown hE.1 hP 0 rfl rfl 0 (by decide) (hts _ lk_X5_planTour_12) (fun _ h9 => h9) rfl dX5_planTour_1 ?_
  refine lv_iconst (v := 1) hx hb dX5_planTour_4 (by decide) ?_
  refine fc_ci (isC := [1, 2]) (cells' := 0) (slots' := 0) (fc_runV (n := 1) (As := [.int (1 : Int32)]) (rest := []) (isC := [1, 2]) (maxL := 2) ⟨hx, hb, hml, hown, hts⟩ (c_X0_get b r f (1 : Int32) H.size) gX5_planTour_X0_get rfl (by decide +kernel) rfl ⟨Nat.le_of_ble_eq_true rfl, Nat.le_of_ble_eq_true rfl⟩ ⟨Nat.le_of_ble_eq_true rfl, Nat.le_of_ble_eq_true rfl⟩ hE hP hD hS hA rfl rfl (va_recv hE.1 hP (ci := 4) (q0 := 1) rfl rfl) hl rfl (Nat.le_of_ble_eq_true rfl) dX5_planTour_5) hP hD hS hA rfl (fun _ => rfl) rfl rfl (fun r_1 _ H locs hr_1 hP hD hS => ?_)
  obtain rfl : (F_X0_get f (1 : Int32)) = r_1 := hr_1.symm
  dsimp only [fs, List.set] at hP hD
  have hP : va_P D vwCl [(t, .inr (9, [.ref b])), (b, .inr (4, [.ref r])), (r, .inl (k.1, 628, .inl f))] H := hP
  have hD : va_D A [(t, .inr (9, [.ref b])), (b, .inr (4, [.ref r])), (r, .inl (k.1, 628, .inl f))] := hD
  refine lv_istore_n (lv' := [(2, .int (F_X0_get f (1 : Int32))), (0, .ref t), (1, .int il)]) hx hb dX5_planTour_8 rfl hl (by decide) rfl (fun ls hl => ?_)
  refine lv_aload_n hx hb dX5_planTour_9 rfl (lv_at hl 1 rfl) ?_
  refine va_get (D := D) (ci := 9) (v := .ref b) (C := RX5) (T := TX5) (N := 1) hx hb hts in_X5_planTour_X5 hown hE.1 hP 0 rfl rfl 0 (by decide) (hts _ lk_X5_planTour_12) (fun _ h9 => h9) rfl dX5_planTour_10 ?_
  refine lv_iload_n hx hb dX5_planTour_13 rfl (lv_at hl 0 rfl) ?_
  refine lv_iconst (v := 1) hx hb dX5_planTour_14 (by decide) ?_
  refine fc_ci (isC := []) (cells' := 0) (slots' := 0) (fc_runSN (n := 2) (As := [.int (F_X0_get f (1 : Int32)), .int (1 : Int32)]) (rest := [.ref b]) (isC := []) (maxL := 2) ⟨hx, hb, hml, hown, hts⟩ (c_X6_ofTour (F_X0_get f (1 : Int32)) (1 : Int32) H.size) gX5_planTour_X6_ofTour_n22 (by decide +kernel) (by decide +kernel) (by decide +kernel) rfl (by decide +kernel) rfl ⟨Nat.le_of_ble_eq_true rfl, Nat.le_of_ble_eq_true rfl⟩ ⟨Nat.le_of_ble_eq_true rfl, Nat.le_of_ble_eq_true rfl⟩ hE hP hD hS hA rfl rfl hl rfl (Nat.le_of_ble_eq_true rfl) dX5_planTour_15) hP hD hS hA rfl (fun _ => rfl) rfl rfl (fun r_2 _ H locs hr_2 hP hD hS => ?_)
  obtain rfl : (F_X6_ofTour (F_X0_get f (1 : Int32)) (1 : Int32)) = r_2 := hr_2.symm
  dsimp only [fs, List.set] at hP hD
  have hP : va_P D vwCl [(t, .inr (9, [.ref b])), (b, .inr (4, [.ref r])), (r, .inl (k.1, 628, .inl f))] H := hP
  have hD : va_D A [(t, .inr (9, [.ref b])), (b, .inr (4, [.ref r])), (r, .inl (k.1, 628, .inl f))] := hD
  refine lv_iload_n hx hb dX5_planTour_18 rfl (lv_at hl 2 rfl) ?_
  refine fc_cv (isC := [1, 2]) (cells' := 0) (slots' := 0) (fc_runV (n := 2) (As := [.int (F_X6_ofTour (F_X0_get f (1 : Int32)) (1 : Int32)), .int il]) (rest := []) (isC := [1, 2]) (maxL := 3) ⟨hx, hb, hml, hown, hts⟩ (c_X0_set b r f (F_X6_ofTour (F_X0_get f (1 : Int32)) (1 : Int32)) il H.size) gX5_planTour_X0_set rfl (by decide +kernel) rfl ⟨Nat.le_of_ble_eq_true rfl, Nat.le_of_ble_eq_true rfl⟩ ⟨Nat.le_of_ble_eq_true rfl, Nat.le_of_ble_eq_true rfl⟩ hE hP hD hS hA rfl rfl (va_recv hE.1 hP (ci := 4) (q0 := 1) rfl rfl) hl rfl (Nat.le_of_ble_eq_true rfl) dX5_planTour_19) hP hD hS hA rfl (fun _ => rfl) rfl rfl (fun _ H locs _ hP hD hS => ?_)
  dsimp only [fs, List.set] at hP hD
  have hP : va_P D vwCl [(t, .inr (9, [.ref b])), (b, .inr (4, [.ref r])), (r, .inl (k.1, 628, .inl (F_X0_set f (F_X6_ofTour (F_X0_get f (1 : Int32)) (1 : Int32)) il)))] H := hP
  have hD : va_D A [(t, .inr (9, [.ref b])), (b, .inr (4, [.ref r])), (r, .inl (k.1, 628, .inl (F_X0_set f (F_X6_ofTour (F_X0_get f (1 : Int32)) (1 : Int32)) il)))] := hD
  refine lv_aload_n hx hb dX5_planTour_22 rfl (lv_at hl 1 rfl) ?_
  refine va_get (D := D) (ci := 9) (v := .ref b) (C := RX5) (T := TX5) (N := 1) hx hb hts in_X5_planTour_X5 hown hE.1 hP 0 rfl rfl 0 (by decide) (hts _ lk_X5_planTour_12) (fun _ h9 => h9) rfl dX5_planTour_23 ?_
  refine lv_iconst (v := 1) hx hb dX5_planTour_26 (by decide) ?_
  refine lv_iconst (v := 1) hx hb dX5_planTour_27 (by decide) ?_
  refine fc_cv (isC := [1, 2]) (cells' := 0) (slots' := 0) (fc_runV (n := 2) (As := [.int (1 : Int32), .int (1 : Int32)]) (rest := []) (isC := [1, 2]) (maxL := 3) ⟨hx, hb, hml, hown, hts⟩ (c_X0_add b r (F_X0_set f (F_X6_ofTour (F_X0_get f (1 : Int32)) (1 : Int32)) il) (1 : Int32) (1 : Int32) H.size) gX5_planTour_X0_add rfl (by decide +kernel) rfl ⟨Nat.le_of_ble_eq_true rfl, Nat.le_of_ble_eq_true rfl⟩ ⟨Nat.le_of_ble_eq_true rfl, Nat.le_of_ble_eq_true rfl⟩ hE hP hD hS hA rfl rfl (va_recv hE.1 hP (ci := 4) (q0 := 1) rfl rfl) hl rfl (Nat.le_of_ble_eq_true rfl) dX5_planTour_28) hP hD hS hA rfl (fun _ => rfl) rfl rfl (fun _ H locs _ hP hD hS => ?_)
  dsimp only [fs, List.set] at hP hD
  have hP : va_P D vwCl [(t, .inr (9, [.ref b])), (b, .inr (4, [.ref r])), (r, .inl (k.1, 628, .inl (F_X0_add (F_X0_set f (F_X6_ofTour (F_X0_get f (1 : Int32)) (1 : Int32)) il) (1 : Int32) (1 : Int32))))] H := hP
  have hD : va_D A [(t, .inr (9, [.ref b])), (b, .inr (4, [.ref r])), (r, .inl (k.1, 628, .inl (F_X0_add (F_X0_set f (F_X6_ofTour (F_X0_get f (1 : Int32)) (1 : Int32)) il) (1 : Int32) (1 : Int32))))] := hD
  refine lv_iload_n hx hb dX5_planTour_31 rfl (lv_at hl 0 rfl) ?_
  subst hF
  exact fc_iret hx hb hr rfl hlk hS () rfl hP hD (by decide) (by decide) dX5_planTour_32

abbrev rm_X5_giveStep : Room := { frames := 1, cells := 0, slots := 0, locals := 22 }
theorem in_X5_giveStep_X5 : ∀ w ∈ wsX50, w ∈ wsX5_giveStep := by decide +kernel
theorem lk_X5_giveStep_12 : (Cond.fieldLink RX5 12 "TheatreSaga$Theatre" "books" "LTheatreSaga$Books;") ∈ wsX5_giveStep := by decide +kernel
def F_X5_giveStep (f : (Nat → Int32)) (it : Int32) (ik : Int32) (iw : Int32) (id : Int32) (im : Int32) : Int32 × (Nat → Int32) := (letp (F_X6_ofStep it (F_X0_get f (F_X6_ofTour it (2 : Int32))) (0 : Int32)) (fun (p_3 : Int32) => (letp (F_X6_ofStep it (F_X0_get f (F_X6_ofTour it (2 : Int32))) (1 : Int32)) (fun (p_5 : Int32) => (letp (F_X6_ofStep it (F_X0_get f (F_X6_ofTour it (2 : Int32))) (2 : Int32)) (fun (p_7 : Int32) => (letp (F_X6_ofStep it (F_X0_get f (F_X6_ofTour it (2 : Int32))) (3 : Int32)) (fun (p_9 : Int32) => (letp (F_X0_set (F_X0_set (F_X0_set (F_X0_set (F_X0_set f p_3 ik) p_5 iw) p_7 id) p_9 im) (F_X6_ofTour it (2 : Int32)) ((F_X0_get f (F_X6_ofTour it (2 : Int32))) + (1 : Int32))) (fun (p_12 : (Nat → Int32)) => (((F_X0_get f (F_X6_ofTour it (2 : Int32))) + (1 : Int32)), p_12)))))))))))
set_option maxHeartbeats 4000000 in
set_option maxRecDepth 100000 in
theorem c_X5_giveStep {l : Launch} {D : va_G} {k : tyK} (t b r : Nat) (f : (Nat → Int32)) (it : Int32) (ik : Int32) (iw : Int32) (id : Int32) (im : Int32) : FCi l yX5_giveStep wsX5_giveStep rm_X5_giveStep D k [.ref t, .int it, .int ik, .int iw, .int id, .int im] [(t, .inr (9, [.ref b])), (b, .inr (4, [.ref r])), (r, .inl (k.1, 628, .inl f))] (fun r (_ : Unit) => r = (F_X5_giveStep f it ik iw id im).1) (fun _ => [(t, .inr (9, [.ref b])), (b, .inr (4, [.ref r])), (r, .inl (k.1, 628, .inl (F_X5_giveStep f it ik iw id im).2))]) := by
  refine fc_start (cc := cX5_giveStep) (maxL := 7) (ret := (some .int)) (own := RX5) (Qc := fun A => va_Qi (fun r (_ : Unit) => r = (F_X5_giveStep f it ik iw id im).1) (Bt D (fun _ => [(t, .inr (9, [.ref b])), (b, .inr (4, [.ref r])), (r, .inl (k.1, 628, .inl (F_X5_giveStep f it ik iw id im).2))]) A) A) (by decide) rfl rfl (Nat.le_of_ble_eq_true rfl) ?_
  intro p e s m below meth c A H hx hb hml hr hts hown hlk hname hA hP hE hD hS ls hl
  obtain ⟨RES, hF⟩ : ∃ z, (F_X5_giveStep f it ik iw id im) = z := ⟨_, rfl⟩
  rw [hF]
  unfold F_X5_giveStep at hF
  have hl : lv_has ls 7 [(0, .ref t), (1, .int it), (2, .int ik), (3, .int iw), (4, .int id), (5, .int im)] := hl
  obtain ⟨locs, hlocs⟩ : ∃ z : List Loc, z = [] := ⟨_, rfl⟩
  rw [← hlocs] at hS ⊢
  refine lv_aload_n hx hb dX5_giveStep_0 rfl (lv_at hl 0 rfl) ?_
  refine va_get (D := D) (ci := 9) (v := .ref b) (C := RX5) (T := TX5) (N := 1) hx hb hts in_X5_giveStep_X5 hown hE.1 hP 0 rfl rfl 0 (by decide) (hts _ lk_X5_giveStep_12) (fun _ h9 => h9) rfl dX5_giveStep_1 ?_
  refine lv_iload_n hx hb dX5_giveStep_4 rfl (lv_at hl 1 rfl) ?_
  refine lv_iconst (v := 2) hx hb dX5_giveStep_5 (by decide) ?_
  refine fc_ci (isC := []) (cells' := 0) (slots' := 0) (fc_runSN (n := 2) (As := [.int it, .int (2 : Int32)]) (rest := [.ref b]) (isC := []) (maxL := 2) ⟨hx, hb, hml, hown, hts⟩ (c_X6_ofTour it (2 : Int32) H.size) gX5_giveStep_X6_ofTour_n22 (by decide +kernel) (by decide +kernel) (by decide +kernel) rfl (by decide +kernel) rfl ⟨Nat.le_of_ble_eq_true rfl, Nat.le_of_ble_eq_true rfl⟩ ⟨Nat.le_of_ble_eq_true rfl, Nat.le_of_ble_eq_true rfl⟩ hE hP hD hS hA rfl rfl hl rfl (Nat.le_of_ble_eq_true rfl) dX5_giveStep_6) hP hD hS hA rfl (fun _ => rfl) rfl rfl (fun r_1 _ H locs hr_1 hP hD hS => ?_)
  obtain rfl : (F_X6_ofTour it (2 : Int32)) = r_1 := hr_1.symm
  dsimp only [fs, List.set] at hP hD
  have hP : va_P D vwCl [(t, .inr (9, [.ref b])), (b, .inr (4, [.ref r])), (r, .inl (k.1, 628, .inl f))] H := hP
  have hD : va_D A [(t, .inr (9, [.ref b])), (b, .inr (4, [.ref r])), (r, .inl (k.1, 628, .inl f))] := hD
  refine fc_ci (isC := [1, 2]) (cells' := 0) (slots' := 0) (fc_runV (n := 1) (As := [.int (F_X6_ofTour it (2 : Int32))]) (rest := []) (isC := [1, 2]) (maxL := 2) ⟨hx, hb, hml, hown, hts⟩ (c_X0_get b r f (F_X6_ofTour it (2 : Int32)) H.size) gX5_giveStep_X0_get rfl (by decide +kernel) rfl ⟨Nat.le_of_ble_eq_true rfl, Nat.le_of_ble_eq_true rfl⟩ ⟨Nat.le_of_ble_eq_true rfl, Nat.le_of_ble_eq_true rfl⟩ hE hP hD hS hA rfl rfl (va_recv hE.1 hP (ci := 4) (q0 := 1) rfl rfl) hl rfl (Nat.le_of_ble_eq_true rfl) dX5_giveStep_9) hP hD hS hA rfl (fun _ => rfl) rfl rfl (fun r_2 _ H locs hr_2 hP hD hS => ?_)
  obtain rfl : (F_X0_get f (F_X6_ofTour it (2 : Int32))) = r_2 := hr_2.symm
  dsimp only [fs, List.set] at hP hD
  have hP : va_P D vwCl [(t, .inr (9, [.ref b])), (b, .inr (4, [.ref r])), (r, .inl (k.1, 628, .inl f))] H := hP
  have hD : va_D A [(t, .inr (9, [.ref b])), (b, .inr (4, [.ref r])), (r, .inl (k.1, 628, .inl f))] := hD
  refine lv_istore (lv' := [(6, .int (F_X0_get f (F_X6_ofTour it (2 : Int32)))), (0, .ref t), (1, .int it), (2, .int ik), (3, .int iw), (4, .int id), (5, .int im)]) hx hb dX5_giveStep_12 hl (by decide) rfl (fun ls hl => ?_)
  refine lv_aload_n hx hb dX5_giveStep_14 rfl (lv_at hl 1 rfl) ?_
  refine va_get (D := D) (ci := 9) (v := .ref b) (C := RX5) (T := TX5) (N := 1) hx hb hts in_X5_giveStep_X5 hown hE.1 hP 0 rfl rfl 0 (by decide) (hts _ lk_X5_giveStep_12) (fun _ h9 => h9) rfl dX5_giveStep_15 ?_
  refine lv_iload_n hx hb dX5_giveStep_18 rfl (lv_at hl 2 rfl) ?_
  refine lv_iload hx hb dX5_giveStep_19 (lv_at hl 0 rfl) ?_
  refine lv_iconst (v := 0) hx hb dX5_giveStep_21 (by decide) ?_
  generalize hp_3 : (F_X6_ofStep it (F_X0_get f (F_X6_ofTour it (2 : Int32))) (0 : Int32)) = p_3 at hF
  rw [letp_eq] at hF
  refine fc_ci (isC := []) (cells' := 0) (slots' := 0) (fc_runSN (n := 3) (As := [.int it, .int (F_X0_get f (F_X6_ofTour it (2 : Int32))), .int (0 : Int32)]) (rest := [.ref b]) (isC := []) (maxL := 3) ⟨hx, hb, hml, hown, hts⟩ (c_X6_ofStep it (F_X0_get f (F_X6_ofTour it (2 : Int32))) (0 : Int32) H.size) gX5_giveStep_X6_ofStep_n33 (by decide +kernel) (by decide +kernel) (by decide +kernel) rfl (by decide +kernel) rfl ⟨Nat.le_of_ble_eq_true rfl, Nat.le_of_ble_eq_true rfl⟩ ⟨Nat.le_of_ble_eq_true rfl, Nat.le_of_ble_eq_true rfl⟩ hE hP hD hS hA rfl rfl hl rfl (Nat.le_of_ble_eq_true rfl) dX5_giveStep_22) hP hD hS hA rfl (fun _ => rfl) rfl rfl (fun r_4 _ H locs hr_4 hP hD hS => ?_)
  rw [hp_3] at hr_4
  obtain rfl : p_3 = r_4 := hr_4.symm
  dsimp only [fs, List.set] at hP hD
  have hP : va_P D vwCl [(t, .inr (9, [.ref b])), (b, .inr (4, [.ref r])), (r, .inl (k.1, 628, .inl f))] H := hP
  have hD : va_D A [(t, .inr (9, [.ref b])), (b, .inr (4, [.ref r])), (r, .inl (k.1, 628, .inl f))] := hD
  refine lv_iload_n hx hb dX5_giveStep_25 rfl (lv_at hl 3 rfl) ?_
  refine fc_cv (isC := [1, 2]) (cells' := 0) (slots' := 0) (fc_runV (n := 2) (As := [.int p_3, .int ik]) (rest := []) (isC := [1, 2]) (maxL := 3) ⟨hx, hb, hml, hown, hts⟩ (c_X0_set b r f p_3 ik H.size) gX5_giveStep_X0_set rfl (by decide +kernel) rfl ⟨Nat.le_of_ble_eq_true rfl, Nat.le_of_ble_eq_true rfl⟩ ⟨Nat.le_of_ble_eq_true rfl, Nat.le_of_ble_eq_true rfl⟩ hE hP hD hS hA rfl rfl (va_recv hE.1 hP (ci := 4) (q0 := 1) rfl rfl) hl rfl (Nat.le_of_ble_eq_true rfl) dX5_giveStep_26) hP hD hS hA rfl (fun _ => rfl) rfl rfl (fun _ H locs _ hP hD hS => ?_)
  dsimp only [fs, List.set] at hP hD
  have hP : va_P D vwCl [(t, .inr (9, [.ref b])), (b, .inr (4, [.ref r])), (r, .inl (k.1, 628, .inl (F_X0_set f p_3 ik)))] H := hP
  have hD : va_D A [(t, .inr (9, [.ref b])), (b, .inr (4, [.ref r])), (r, .inl (k.1, 628, .inl (F_X0_set f p_3 ik)))] := hD
  refine lv_aload_n hx hb dX5_giveStep_29 rfl (lv_at hl 1 rfl) ?_
  refine va_get (D := D) (ci := 9) (v := .ref b) (C := RX5) (T := TX5) (N := 1) hx hb hts in_X5_giveStep_X5 hown hE.1 hP 0 rfl rfl 0 (by decide) (hts _ lk_X5_giveStep_12) (fun _ h9 => h9) rfl dX5_giveStep_30 ?_
  refine lv_iload_n hx hb dX5_giveStep_33 rfl (lv_at hl 2 rfl) ?_
  refine lv_iload hx hb dX5_giveStep_34 (lv_at hl 0 rfl) ?_
  refine lv_iconst (v := 1) hx hb dX5_giveStep_36 (by decide) ?_
  generalize hp_5 : (F_X6_ofStep it (F_X0_get f (F_X6_ofTour it (2 : Int32))) (1 : Int32)) = p_5 at hF
  rw [letp_eq] at hF
  refine fc_ci (isC := []) (cells' := 0) (slots' := 0) (fc_runSN (n := 3) (As := [.int it, .int (F_X0_get f (F_X6_ofTour it (2 : Int32))), .int (1 : Int32)]) (rest := [.ref b]) (isC := []) (maxL := 3) ⟨hx, hb, hml, hown, hts⟩ (c_X6_ofStep it (F_X0_get f (F_X6_ofTour it (2 : Int32))) (1 : Int32) H.size) gX5_giveStep_X6_ofStep_n33 (by decide +kernel) (by decide +kernel) (by decide +kernel) rfl (by decide +kernel) rfl ⟨Nat.le_of_ble_eq_true rfl, Nat.le_of_ble_eq_true rfl⟩ ⟨Nat.le_of_ble_eq_true rfl, Nat.le_of_ble_eq_true rfl⟩ hE hP hD hS hA rfl rfl hl rfl (Nat.le_of_ble_eq_true rfl) dX5_giveStep_37) hP hD hS hA rfl (fun _ => rfl) rfl rfl (fun r_6 _ H locs hr_6 hP hD hS => ?_)
  rw [hp_5] at hr_6
  obtain rfl : p_5 = r_6 := hr_6.symm
  dsimp only [fs, List.set] at hP hD
  have hP : va_P D vwCl [(t, .inr (9, [.ref b])), (b, .inr (4, [.ref r])), (r, .inl (k.1, 628, .inl (F_X0_set f p_3 ik)))] H := hP
  have hD : va_D A [(t, .inr (9, [.ref b])), (b, .inr (4, [.ref r])), (r, .inl (k.1, 628, .inl (F_X0_set f p_3 ik)))] := hD
  refine lv_iload_n hx hb dX5_giveStep_40 rfl (lv_at hl 4 rfl) ?_
  refine fc_cv (isC := [1, 2]) (cells' := 0) (slots' := 0) (fc_runV (n := 2) (As := [.int p_5, .int iw]) (rest := []) (isC := [1, 2]) (maxL := 3) ⟨hx, hb, hml, hown, hts⟩ (c_X0_set b r (F_X0_set f p_3 ik) p_5 iw H.size) gX5_giveStep_X0_set rfl (by decide +kernel) rfl ⟨Nat.le_of_ble_eq_true rfl, Nat.le_of_ble_eq_true rfl⟩ ⟨Nat.le_of_ble_eq_true rfl, Nat.le_of_ble_eq_true rfl⟩ hE hP hD hS hA rfl rfl (va_recv hE.1 hP (ci := 4) (q0 := 1) rfl rfl) hl rfl (Nat.le_of_ble_eq_true rfl) dX5_giveStep_41) hP hD hS hA rfl (fun _ => rfl) rfl rfl (fun _ H locs _ hP hD hS => ?_)
  dsimp only [fs, List.set] at hP hD
  have hP : va_P D vwCl [(t, .inr (9, [.ref b])), (b, .inr (4, [.ref r])), (r, .inl (k.1, 628, .inl (F_X0_set (F_X0_set f p_3 ik) p_5 iw)))] H := hP
  have hD : va_D A [(t, .inr (9, [.ref b])), (b, .inr (4, [.ref r])), (r, .inl (k.1, 628, .inl (F_X0_set (F_X0_set f p_3 ik) p_5 iw)))] := hD
  refine lv_aload_n hx hb dX5_giveStep_44 rfl (lv_at hl 1 rfl) ?_
  refine va_get (D := D) (ci := 9) (v := .ref b) (C := RX5) (T := TX5) (N := 1) hx hb hts in_X5_giveStep_X5 hown hE.1 hP 0 rfl rfl 0 (by decide) (hts _ lk_X5_giveStep_12) (fun _ h9 => h9) rfl dX5_giveStep_45 ?_
  refine lv_iload_n hx hb dX5_giveStep_48 rfl (lv_at hl 2 rfl) ?_
  refine lv_iload hx hb dX5_giveStep_49 (lv_at hl 0 rfl) ?_
  refine lv_iconst (v := 2) hx hb dX5_giveStep_51 (by decide) ?_
  generalize hp_7 : (F_X6_ofStep it (F_X0_get f (F_X6_ofTour it (2 : Int32))) (2 : Int32)) = p_7 at hF
  rw [letp_eq] at hF
  refine fc_ci (isC := []) (cells' := 0) (slots' := 0) (fc_runSN (n := 3) (As := [.int it, .int (F_X0_get f (F_X6_ofTour it (2 : Int32))), .int (2 : Int32)]) (rest := [.ref b]) (isC := []) (maxL := 3) ⟨hx, hb, hml, hown, hts⟩ (c_X6_ofStep it (F_X0_get f (F_X6_ofTour it (2 : Int32))) (2 : Int32) H.size) gX5_giveStep_X6_ofStep_n33 (by decide +kernel) (by decide +kernel) (by decide +kernel) rfl (by decide +kernel) rfl ⟨Nat.le_of_ble_eq_true rfl, Nat.le_of_ble_eq_true rfl⟩ ⟨Nat.le_of_ble_eq_true rfl, Nat.le_of_ble_eq_true rfl⟩ hE hP hD hS hA rfl rfl hl rfl (Nat.le_of_ble_eq_true rfl) dX5_giveStep_52) hP hD hS hA rfl (fun _ => rfl) rfl rfl (fun r_8 _ H locs hr_8 hP hD hS => ?_)
  rw [hp_7] at hr_8
  obtain rfl : p_7 = r_8 := hr_8.symm
  dsimp only [fs, List.set] at hP hD
  have hP : va_P D vwCl [(t, .inr (9, [.ref b])), (b, .inr (4, [.ref r])), (r, .inl (k.1, 628, .inl (F_X0_set (F_X0_set f p_3 ik) p_5 iw)))] H := hP
  have hD : va_D A [(t, .inr (9, [.ref b])), (b, .inr (4, [.ref r])), (r, .inl (k.1, 628, .inl (F_X0_set (F_X0_set f p_3 ik) p_5 iw)))] := hD
  refine lv_iload hx hb dX5_giveStep_55 (lv_at hl 5 rfl) ?_
  refine fc_cv (isC := [1, 2]) (cells' := 0) (slots' := 0) (fc_runV (n := 2) (As := [.int p_7, .int id]) (rest := []) (isC := [1, 2]) (maxL := 3) ⟨hx, hb, hml, hown, hts⟩ (c_X0_set b r (F_X0_set (F_X0_set f p_3 ik) p_5 iw) p_7 id H.size) gX5_giveStep_X0_set rfl (by decide +kernel) rfl ⟨Nat.le_of_ble_eq_true rfl, Nat.le_of_ble_eq_true rfl⟩ ⟨Nat.le_of_ble_eq_true rfl, Nat.le_of_ble_eq_true rfl⟩ hE hP hD hS hA rfl rfl (va_recv hE.1 hP (ci := 4) (q0 := 1) rfl rfl) hl rfl (Nat.le_of_ble_eq_true rfl) dX5_giveStep_57) hP hD hS hA rfl (fun _ => rfl) rfl rfl (fun _ H locs _ hP hD hS => ?_)
  dsimp only [fs, List.set] at hP hD
  have hP : va_P D vwCl [(t, .inr (9, [.ref b])), (b, .inr (4, [.ref r])), (r, .inl (k.1, 628, .inl (F_X0_set (F_X0_set (F_X0_set f p_3 ik) p_5 iw) p_7 id)))] H := hP
  have hD : va_D A [(t, .inr (9, [.ref b])), (b, .inr (4, [.ref r])), (r, .inl (k.1, 628, .inl (F_X0_set (F_X0_set (F_X0_set f p_3 ik) p_5 iw) p_7 id)))] := hD
  refine lv_aload_n hx hb dX5_giveStep_60 rfl (lv_at hl 1 rfl) ?_
  refine va_get (D := D) (ci := 9) (v := .ref b) (C := RX5) (T := TX5) (N := 1) hx hb hts in_X5_giveStep_X5 hown hE.1 hP 0 rfl rfl 0 (by decide) (hts _ lk_X5_giveStep_12) (fun _ h9 => h9) rfl dX5_giveStep_61 ?_
  refine lv_iload_n hx hb dX5_giveStep_64 rfl (lv_at hl 2 rfl) ?_
  refine lv_iload hx hb dX5_giveStep_65 (lv_at hl 0 rfl) ?_
  refine lv_iconst (v := 3) hx hb dX5_giveStep_67 (by decide) ?_
  generalize hp_9 : (F_X6_ofStep it (F_X0_get f (F_X6_ofTour it (2 : Int32))) (3 : Int32)) = p_9 at hF
  rw [letp_eq] at hF
  refine fc_ci (isC := []) (cells' := 0) (slots' := 0) (fc_runSN (n := 3) (As := [.int it, .int (F_X0_get f (F_X6_ofTour it (2 : Int32))), .int (3 : Int32)]) (rest := [.ref b]) (isC := []) (maxL := 3) ⟨hx, hb, hml, hown, hts⟩ (c_X6_ofStep it (F_X0_get f (F_X6_ofTour it (2 : Int32))) (3 : Int32) H.size) gX5_giveStep_X6_ofStep_n33 (by decide +kernel) (by decide +kernel) (by decide +kernel) rfl (by decide +kernel) rfl ⟨Nat.le_of_ble_eq_true rfl, Nat.le_of_ble_eq_true rfl⟩ ⟨Nat.le_of_ble_eq_true rfl, Nat.le_of_ble_eq_true rfl⟩ hE hP hD hS hA rfl rfl hl rfl (Nat.le_of_ble_eq_true rfl) dX5_giveStep_68) hP hD hS hA rfl (fun _ => rfl) rfl rfl (fun r_10 _ H locs hr_10 hP hD hS => ?_)
  rw [hp_9] at hr_10
  obtain rfl : p_9 = r_10 := hr_10.symm
  dsimp only [fs, List.set] at hP hD
  have hP : va_P D vwCl [(t, .inr (9, [.ref b])), (b, .inr (4, [.ref r])), (r, .inl (k.1, 628, .inl (F_X0_set (F_X0_set (F_X0_set f p_3 ik) p_5 iw) p_7 id)))] H := hP
  have hD : va_D A [(t, .inr (9, [.ref b])), (b, .inr (4, [.ref r])), (r, .inl (k.1, 628, .inl (F_X0_set (F_X0_set (F_X0_set f p_3 ik) p_5 iw) p_7 id)))] := hD
  refine lv_iload hx hb dX5_giveStep_71 (lv_at hl 6 rfl) ?_
  refine fc_cv (isC := [1, 2]) (cells' := 0) (slots' := 0) (fc_runV (n := 2) (As := [.int p_9, .int im]) (rest := []) (isC := [1, 2]) (maxL := 3) ⟨hx, hb, hml, hown, hts⟩ (c_X0_set b r (F_X0_set (F_X0_set (F_X0_set f p_3 ik) p_5 iw) p_7 id) p_9 im H.size) gX5_giveStep_X0_set rfl (by decide +kernel) rfl ⟨Nat.le_of_ble_eq_true rfl, Nat.le_of_ble_eq_true rfl⟩ ⟨Nat.le_of_ble_eq_true rfl, Nat.le_of_ble_eq_true rfl⟩ hE hP hD hS hA rfl rfl (va_recv hE.1 hP (ci := 4) (q0 := 1) rfl rfl) hl rfl (Nat.le_of_ble_eq_true rfl) dX5_giveStep_73) hP hD hS hA rfl (fun _ => rfl) rfl rfl (fun _ H locs _ hP hD hS => ?_)
  dsimp only [fs, List.set] at hP hD
  have hP : va_P D vwCl [(t, .inr (9, [.ref b])), (b, .inr (4, [.ref r])), (r, .inl (k.1, 628, .inl (F_X0_set (F_X0_set (F_X0_set (F_X0_set f p_3 ik) p_5 iw) p_7 id) p_9 im)))] H := hP
  have hD : va_D A [(t, .inr (9, [.ref b])), (b, .inr (4, [.ref r])), (r, .inl (k.1, 628, .inl (F_X0_set (F_X0_set (F_X0_set (F_X0_set f p_3 ik) p_5 iw) p_7 id) p_9 im)))] := hD
  refine lv_aload_n hx hb dX5_giveStep_76 rfl (lv_at hl 1 rfl) ?_
  refine va_get (D := D) (ci := 9) (v := .ref b) (C := RX5) (T := TX5) (N := 1) hx hb hts in_X5_giveStep_X5 hown hE.1 hP 0 rfl rfl 0 (by decide) (hts _ lk_X5_giveStep_12) (fun _ h9 => h9) rfl dX5_giveStep_77 ?_
  refine lv_iload_n hx hb dX5_giveStep_80 rfl (lv_at hl 2 rfl) ?_
  refine lv_iconst (v := 2) hx hb dX5_giveStep_81 (by decide) ?_
  refine fc_ci (isC := []) (cells' := 0) (slots' := 0) (fc_runSN (n := 2) (As := [.int it, .int (2 : Int32)]) (rest := [.ref b]) (isC := []) (maxL := 2) ⟨hx, hb, hml, hown, hts⟩ (c_X6_ofTour it (2 : Int32) H.size) gX5_giveStep_X6_ofTour_n22 (by decide +kernel) (by decide +kernel) (by decide +kernel) rfl (by decide +kernel) rfl ⟨Nat.le_of_ble_eq_true rfl, Nat.le_of_ble_eq_true rfl⟩ ⟨Nat.le_of_ble_eq_true rfl, Nat.le_of_ble_eq_true rfl⟩ hE hP hD hS hA rfl rfl hl rfl (Nat.le_of_ble_eq_true rfl) dX5_giveStep_82) hP hD hS hA rfl (fun _ => rfl) rfl rfl (fun r_11 _ H locs hr_11 hP hD hS => ?_)
  obtain rfl : (F_X6_ofTour it (2 : Int32)) = r_11 := hr_11.symm
  dsimp only [fs, List.set] at hP hD
  have hP : va_P D vwCl [(t, .inr (9, [.ref b])), (b, .inr (4, [.ref r])), (r, .inl (k.1, 628, .inl (F_X0_set (F_X0_set (F_X0_set (F_X0_set f p_3 ik) p_5 iw) p_7 id) p_9 im)))] H := hP
  have hD : va_D A [(t, .inr (9, [.ref b])), (b, .inr (4, [.ref r])), (r, .inl (k.1, 628, .inl (F_X0_set (F_X0_set (F_X0_set (F_X0_set f p_3 ik) p_5 iw) p_7 id) p_9 im)))] := hD
  refine lv_iload hx hb dX5_giveStep_85 (lv_at hl 0 rfl) ?_
  refine lv_iconst (v := 1) hx hb dX5_giveStep_87 (by decide) ?_
  refine lv_iadd hx hb dX5_giveStep_88 ?_
  generalize hp_12 : (F_X0_set (F_X0_set (F_X0_set (F_X0_set (F_X0_set f p_3 ik) p_5 iw) p_7 id) p_9 im) (F_X6_ofTour it (2 : Int32)) ((F_X0_get f (F_X6_ofTour it (2 : Int32))) + (1 : Int32))) = p_12 at hF
  rw [letp_eq] at hF
  refine fc_cv (isC := [1, 2]) (cells' := 0) (slots' := 0) (fc_runV (n := 2) (As := [.int (F_X6_ofTour it (2 : Int32)), .int ((F_X0_get f (F_X6_ofTour it (2 : Int32))) + (1 : Int32))]) (rest := []) (isC := [1, 2]) (maxL := 3) ⟨hx, hb, hml, hown, hts⟩ (c_X0_set b r (F_X0_set (F_X0_set (F_X0_set (F_X0_set f p_3 ik) p_5 iw) p_7 id) p_9 im) (F_X6_ofTour it (2 : Int32)) ((F_X0_get f (F_X6_ofTour it (2 : Int32))) + (1 : Int32)) H.size) gX5_giveStep_X0_set rfl (by decide +kernel) rfl ⟨Nat.le_of_ble_eq_true rfl, Nat.le_of_ble_eq_true rfl⟩ ⟨Nat.le_of_ble_eq_true rfl, Nat.le_of_ble_eq_true rfl⟩ hE hP hD hS hA rfl rfl (va_recv hE.1 hP (ci := 4) (q0 := 1) rfl rfl) hl rfl (Nat.le_of_ble_eq_true rfl) dX5_giveStep_89) hP hD hS hA rfl (fun _ => rfl) rfl rfl (fun _ H locs _ hP hD hS => ?_)
  rw [hp_12] at hP hD
  dsimp only [fs, List.set] at hP hD
  have hP : va_P D vwCl [(t, .inr (9, [.ref b])), (b, .inr (4, [.ref r])), (r, .inl (k.1, 628, .inl p_12))] H := hP
  have hD : va_D A [(t, .inr (9, [.ref b])), (b, .inr (4, [.ref r])), (r, .inl (k.1, 628, .inl p_12))] := hD
  refine lv_iload hx hb dX5_giveStep_92 (lv_at hl 0 rfl) ?_
  refine lv_iconst (v := 1) hx hb dX5_giveStep_94 (by decide) ?_
  refine lv_iadd hx hb dX5_giveStep_95 ?_
  subst hF
  exact fc_iret hx hb hr rfl hlk hS () rfl hP hD (by decide) (by decide) dX5_giveStep_96

abbrev rm_X5_toursThatAre : Room := { frames := 1, cells := 0, slots := 0, locals := 21 }
theorem in_X5_toursThatAre_X5 : ∀ w ∈ wsX50, w ∈ wsX5_toursThatAre := by decide +kernel
theorem lk_X5_toursThatAre_12 : (Cond.fieldLink RX5 12 "TheatreSaga$Theatre" "books" "LTheatreSaga$Books;") ∈ wsX5_toursThatAre := by decide +kernel
def FL_X5_toursThatAre_4 : Nat → (Nat → Int32) → Int32 → Int32 → Int32 → Int32
  | 0, f, x1, x2, x3 => 0
  | n + 1, f, x1, x2, x3 => (if (F_X0_get f (1 : Int32)) ≤ x3 then x2 else (if (F_X0_get f (F_X6_ofTour x3 (0 : Int32))) = x1 then (FL_X5_toursThatAre_4 n f x1 (x2 + (1 : Int32)) (x3 + (1 : Int32))) else (FL_X5_toursThatAre_4 n f x1 (x2 + (0 : Int32)) (x3 + (1 : Int32)))))
def F_X5_toursThatAre (f : (Nat → Int32)) (ic : Int32) : Int32 := (FL_X5_toursThatAre_4 (((F_X0_get f (1 : Int32)).toInt - ((0 : Int32) : Int32).toInt).toNat + 1) f ic (0 : Int32) (0 : Int32))
set_option maxHeartbeats 4000000 in
set_option maxRecDepth 100000 in
theorem lp_X5_toursThatAre_4 {p : Program} {l : Launch} {e : Env} {s : State} {m : MethodId} {args : Array Value} {below : List Frame} {meth : Method} {c : Code} {D : va_G} {k : tyK} {A : Nat → Prop} (hx : p.tables.exec = Jvm.exec) (hb : c.code = cX5_toursThatAre) (hml : c.maxLocals = 4) (hr : meth.sig.returnType = (some .int)) (hts : ∀ w ∈ wsX5_toursThatAre, w.before args s = true) (hown : s.vm.findClass RX5 = some m.cls) (hlk : meth.locks = false) (hA : ∀ q : Nat, s.heap.size ≤ q → A q) (hE : GE D k A s) (t b r : Nat) :
    ∀ (n : Nat) (f : (Nat → Int32)) (x1 : Int32) (x2 : Int32) (x3 : Int32) (RES : Int32), FL_X5_toursThatAre_4 n f x1 x2 x3 = RES → (((F_X0_get f (1 : Int32)) : Int32).toInt - (x3 : Int32).toInt).toNat < n → ∀ (H : Heap) (locs : List Loc), va_P D vwCl [(t, .inr (9, [.ref b])), (b, .inr (4, [.ref r])), (r, .inl (k.1, 628, .inl f))] H → va_D A [(t, .inr (9, [.ref b])), (b, .inr (4, [.ref r])), (r, .inl (k.1, 628, .inl f))] → va_S A s.heap H locs → ∀ ls : Array Slot, lv_has ls 4 [(0, .ref t), (1, .int x1), (2, .int x2), (3, .int x3)] → W p l e rm_X5_toursThatAre s m args below meth c H locs 0 0 (MQ below (va_Qi (fun r (_ : Unit) => r = RES) (Bt D (fun _ => [(t, .inr (9, [.ref b])), (b, .inr (4, [.ref r])), (r, .inl (k.1, 628, .inl f))]) A) A) args s rm_X5_toursThatAre.cells rm_X5_toursThatAre.slots A) (F0 m 4 ls []) := by
  intro n
  induction n with
  | zero =>
    intro f x1 x2 x3 RES hF hm H locs hP hD hS ls hl
    exact absurd hm (Nat.not_lt_zero _)
  | succ n ih =>
    intro f x1 x2 x3 RES hF hm H locs hP hD hS ls hl
    rw [FL_X5_toursThatAre_4] at hF
    refine lv_iload_n hx hb dX5_toursThatAre_4 rfl (lv_at hl 3 rfl) ?_
    refine lv_aload_n hx hb dX5_toursThatAre_5 rfl (lv_at hl 0 rfl) ?_
    refine va_get (D := D) (ci := 9) (v := .ref b) (C := RX5) (T := TX5) (N := 1) hx hb hts in_X5_toursThatAre_X5 hown hE.1 hP 0 rfl rfl 0 (by decide) (hts _ lk_X5_toursThatAre_12) (fun _ h9 => h9) rfl dX5_toursThatAre_6 ?_
    refine lv_iconst (v := 1) hx hb dX5_toursThatAre_9 (by decide) ?_
    refine fc_ci (isC := [1, 2]) (cells' := 0) (slots' := 0) (fc_runV (n := 1) (As := [.int (1 : Int32)]) (rest := [.int x3]) (isC := [1, 2]) (maxL := 2) ⟨hx, hb, hml, hown, hts⟩ (c_X0_get b r f (1 : Int32) H.size) gX5_toursThatAre_X0_get rfl (by decide +kernel) rfl ⟨Nat.le_of_ble_eq_true rfl, Nat.le_of_ble_eq_true rfl⟩ ⟨Nat.le_of_ble_eq_true rfl, Nat.le_of_ble_eq_true rfl⟩ hE hP hD hS hA rfl rfl (va_recv hE.1 hP (ci := 4) (q0 := 1) rfl rfl) hl rfl (Nat.le_of_ble_eq_true rfl) dX5_toursThatAre_10) hP hD hS hA rfl (fun _ => rfl) rfl rfl (fun r_1 _ H locs hr_1 hP hD hS => ?_)
    obtain rfl : (F_X0_get f (1 : Int32)) = r_1 := hr_1.symm
    dsimp only [fs, List.set] at hP hD
    have hP : va_P D vwCl [(t, .inr (9, [.ref b])), (b, .inr (4, [.ref r])), (r, .inl (k.1, 628, .inl f))] H := hP
    have hD : va_D A [(t, .inr (9, [.ref b])), (b, .inr (4, [.ref r])), (r, .inl (k.1, 628, .inl f))] := hD
    refine lv_icmp_ge (tgt := 46) hx hb dX5_toursThatAre_13 (by decide) (fun c_2 => ?_) (fun c_2 => ?_)
    · rw [if_pos c_2] at hF
      refine lv_iload_n hx hb dX5_toursThatAre_46 rfl (lv_at hl 2 rfl) ?_
      subst hF
      exact fc_iret hx hb hr rfl hlk hS () rfl hP hD (by decide) (by decide) dX5_toursThatAre_47
    · rw [if_neg c_2] at hF
      refine lv_iload_n hx hb dX5_toursThatAre_16 rfl (lv_at hl 2 rfl) ?_
      refine lv_aload_n hx hb dX5_toursThatAre_17 rfl (lv_at hl 0 rfl) ?_
      refine va_get (D := D) (ci := 9) (v := .ref b) (C := RX5) (T := TX5) (N := 1) hx hb hts in_X5_toursThatAre_X5 hown hE.1 hP 0 rfl rfl 0 (by decide) (hts _ lk_X5_toursThatAre_12) (fun _ h9 => h9) rfl dX5_toursThatAre_18 ?_
      refine lv_iload_n hx hb dX5_toursThatAre_21 rfl (lv_at hl 3 rfl) ?_
      refine lv_iconst (v := 0) hx hb dX5_toursThatAre_22 (by decide) ?_
      refine fc_ci (isC := []) (cells' := 0) (slots' := 0) (fc_runSN (n := 2) (As := [.int x3, .int (0 : Int32)]) (rest := [.ref b, .int x2]) (isC := []) (maxL := 2) ⟨hx, hb, hml, hown, hts⟩ (c_X6_ofTour x3 (0 : Int32) H.size) gX5_toursThatAre_X6_ofTour_n22 (by decide +kernel) (by decide +kernel) (by decide +kernel) rfl (by decide +kernel) rfl ⟨Nat.le_of_ble_eq_true rfl, Nat.le_of_ble_eq_true rfl⟩ ⟨Nat.le_of_ble_eq_true rfl, Nat.le_of_ble_eq_true rfl⟩ hE hP hD hS hA rfl rfl hl rfl (Nat.le_of_ble_eq_true rfl) dX5_toursThatAre_23) hP hD hS hA rfl (fun _ => rfl) rfl rfl (fun r_3 _ H locs hr_3 hP hD hS => ?_)
      obtain rfl : (F_X6_ofTour x3 (0 : Int32)) = r_3 := hr_3.symm
      dsimp only [fs, List.set] at hP hD
      have hP : va_P D vwCl [(t, .inr (9, [.ref b])), (b, .inr (4, [.ref r])), (r, .inl (k.1, 628, .inl f))] H := hP
      have hD : va_D A [(t, .inr (9, [.ref b])), (b, .inr (4, [.ref r])), (r, .inl (k.1, 628, .inl f))] := hD
      refine fc_ci (isC := [1, 2]) (cells' := 0) (slots' := 0) (fc_runV (n := 1) (As := [.int (F_X6_ofTour x3 (0 : Int32))]) (rest := [.int x2]) (isC := [1, 2]) (maxL := 2) ⟨hx, hb, hml, hown, hts⟩ (c_X0_get b r f (F_X6_ofTour x3 (0 : Int32)) H.size) gX5_toursThatAre_X0_get rfl (by decide +kernel) rfl ⟨Nat.le_of_ble_eq_true rfl, Nat.le_of_ble_eq_true rfl⟩ ⟨Nat.le_of_ble_eq_true rfl, Nat.le_of_ble_eq_true rfl⟩ hE hP hD hS hA rfl rfl (va_recv hE.1 hP (ci := 4) (q0 := 1) rfl rfl) hl rfl (Nat.le_of_ble_eq_true rfl) dX5_toursThatAre_26) hP hD hS hA rfl (fun _ => rfl) rfl rfl (fun r_4 _ H locs hr_4 hP hD hS => ?_)
      obtain rfl : (F_X0_get f (F_X6_ofTour x3 (0 : Int32))) = r_4 := hr_4.symm
      dsimp only [fs, List.set] at hP hD
      have hP : va_P D vwCl [(t, .inr (9, [.ref b])), (b, .inr (4, [.ref r])), (r, .inl (k.1, 628, .inl f))] H := hP
      have hD : va_D A [(t, .inr (9, [.ref b])), (b, .inr (4, [.ref r])), (r, .inl (k.1, 628, .inl f))] := hD
      refine lv_iload_n hx hb dX5_toursThatAre_29 rfl (lv_at hl 1 rfl) ?_
      refine lv_icmp_ne (tgt := 37) hx hb dX5_toursThatAre_30 (by decide) (fun c_5 => ?_) (fun c_5 => ?_)
      · rw [if_neg c_5] at hF
        refine lv_iconst (v := 0) hx hb dX5_toursThatAre_37 (by decide) ?_
        refine lv_iadd hx hb dX5_toursThatAre_38 ?_
        refine lv_istore_n (lv' := [(2, .int (x2 + (0 : Int32))), (0, .ref t), (1, .int x1), (3, .int x3)]) hx hb dX5_toursThatAre_39 rfl hl (by decide) rfl (fun ls hl => ?_)
        refine lv_iinc (v := (x3 + (1 : Int32))) (lv' := [(3, .int (x3 + (1 : Int32))), (2, .int (x2 + (0 : Int32))), (0, .ref t), (1, .int x1)]) hx hb dX5_toursThatAre_40 hl (k := 3) rfl rfl (by decide) rfl (fun ls hl => ?_)
        refine lv_goto (tgt := 4) hx hb dX5_toursThatAre_43 (by decide) ?_
        exact ih f x1 (x2 + (0 : Int32)) (x3 + (1 : Int32)) RES hF (lp_step c_2 hm) H locs hP hD hS ls (lv_sub hl [2, 3, 1, 0] rfl)
      · rw [if_pos c_5] at hF
        refine lv_iconst (v := 1) hx hb dX5_toursThatAre_33 (by decide) ?_
        refine lv_goto (tgt := 38) hx hb dX5_toursThatAre_34 (by decide) ?_
        refine lv_iadd hx hb dX5_toursThatAre_38 ?_
        refine lv_istore_n (lv' := [(2, .int (x2 + (1 : Int32))), (0, .ref t), (1, .int x1), (3, .int x3)]) hx hb dX5_toursThatAre_39 rfl hl (by decide) rfl (fun ls hl => ?_)
        refine lv_iinc (v := (x3 + (1 : Int32))) (lv' := [(3, .int (x3 + (1 : Int32))), (2, .int (x2 + (1 : Int32))), (0, .ref t), (1, .int x1)]) hx hb dX5_toursThatAre_40 hl (k := 3) rfl rfl (by decide) rfl (fun ls hl => ?_)
        refine lv_goto (tgt := 4) hx hb dX5_toursThatAre_43 (by decide) ?_
        exact ih f x1 (x2 + (1 : Int32)) (x3 + (1 : Int32)) RES hF (lp_step c_2 hm) H locs hP hD hS ls (lv_sub hl [2, 3, 1, 0] rfl)
set_option maxHeartbeats 4000000 in
set_option maxRecDepth 100000 in
theorem c_X5_toursThatAre {l : Launch} {D : va_G} {k : tyK} (t b r : Nat) (f : (Nat → Int32)) (ic : Int32) : FCi l yX5_toursThatAre wsX5_toursThatAre rm_X5_toursThatAre D k [.ref t, .int ic] [(t, .inr (9, [.ref b])), (b, .inr (4, [.ref r])), (r, .inl (k.1, 628, .inl f))] (fun r (_ : Unit) => r = (F_X5_toursThatAre f ic)) (fun _ => [(t, .inr (9, [.ref b])), (b, .inr (4, [.ref r])), (r, .inl (k.1, 628, .inl f))]) := by
  refine fc_start (cc := cX5_toursThatAre) (maxL := 4) (ret := (some .int)) (own := RX5) (Qc := fun A => va_Qi (fun r (_ : Unit) => r = (F_X5_toursThatAre f ic)) (Bt D (fun _ => [(t, .inr (9, [.ref b])), (b, .inr (4, [.ref r])), (r, .inl (k.1, 628, .inl f))]) A) A) (by decide) rfl rfl (Nat.le_of_ble_eq_true rfl) ?_
  intro p e s m below meth c A H hx hb hml hr hts hown hlk hname hA hP hE hD hS ls hl
  obtain ⟨RES, hF⟩ : ∃ z, (F_X5_toursThatAre f ic) = z := ⟨_, rfl⟩
  rw [hF]
  unfold F_X5_toursThatAre at hF
  have hl : lv_has ls 4 [(0, .ref t), (1, .int ic)] := hl
  obtain ⟨locs, hlocs⟩ : ∃ z : List Loc, z = [] := ⟨_, rfl⟩
  rw [← hlocs] at hS ⊢
  refine lv_iconst (v := 0) hx hb dX5_toursThatAre_0 (by decide) ?_
  refine lv_istore_n (lv' := [(2, .int (0 : Int32)), (0, .ref t), (1, .int ic)]) hx hb dX5_toursThatAre_1 rfl hl (by decide) rfl (fun ls hl => ?_)
  refine lv_iconst (v := 0) hx hb dX5_toursThatAre_2 (by decide) ?_
  refine lv_istore_n (lv' := [(3, .int (0 : Int32)), (2, .int (0 : Int32)), (0, .ref t), (1, .int ic)]) hx hb dX5_toursThatAre_3 rfl hl (by decide) rfl (fun ls hl => ?_)
  exact lp_X5_toursThatAre_4 hx hb hml hr hts hown hlk hA hE t b r (((F_X0_get f (1 : Int32)).toInt - ((0 : Int32) : Int32).toInt).toNat + 1) f ic (0 : Int32) (0 : Int32) RES hF (Nat.lt_succ_self _) H locs hP hD hS ls (lv_sub hl [2, 3, 1, 0] rfl)

abbrev rm_X5_startTour : Room := { frames := 2, cells := 0, slots := 0, locals := 44 }
theorem in_X5_startTour_X5 : ∀ w ∈ wsX50, w ∈ wsX5_startTour := by decide +kernel
theorem lk_X5_startTour_12 : (Cond.fieldLink RX5 12 "TheatreSaga$Theatre" "books" "LTheatreSaga$Books;") ∈ wsX5_startTour := by decide +kernel
def F_X5_startTour (f : (Nat → Int32)) (it : Int32) : Int32 × (Nat → Int32) := (letp (F_X5_toursThatAre (F_X0_set f (F_X6_ofTour it (0 : Int32)) (1 : Int32)) (1 : Int32)) (fun (p_2 : Int32) => (p_2, (F_X0_set f (F_X6_ofTour it (0 : Int32)) (1 : Int32)))))
set_option maxHeartbeats 4000000 in
set_option maxRecDepth 100000 in
theorem c_X5_startTour {l : Launch} {D : va_G} {k : tyK} (t b r : Nat) (f : (Nat → Int32)) (it : Int32) : FCi l yX5_startTour wsX5_startTour rm_X5_startTour D k [.ref t, .int it] [(t, .inr (9, [.ref b])), (b, .inr (4, [.ref r])), (r, .inl (k.1, 628, .inl f))] (fun r (_ : Unit) => r = (F_X5_startTour f it).1) (fun _ => [(t, .inr (9, [.ref b])), (b, .inr (4, [.ref r])), (r, .inl (k.1, 628, .inl (F_X5_startTour f it).2))]) := by
  refine fc_start (cc := cX5_startTour) (maxL := 2) (ret := (some .int)) (own := RX5) (Qc := fun A => va_Qi (fun r (_ : Unit) => r = (F_X5_startTour f it).1) (Bt D (fun _ => [(t, .inr (9, [.ref b])), (b, .inr (4, [.ref r])), (r, .inl (k.1, 628, .inl (F_X5_startTour f it).2))]) A) A) (by decide) rfl rfl (Nat.le_of_ble_eq_true rfl) ?_
  intro p e s m below meth c A H hx hb hml hr hts hown hlk hname hA hP hE hD hS ls hl
  obtain ⟨RES, hF⟩ : ∃ z, (F_X5_startTour f it) = z := ⟨_, rfl⟩
  rw [hF]
  unfold F_X5_startTour at hF
  have hl : lv_has ls 2 [(0, .ref t), (1, .int it)] := hl
  obtain ⟨locs, hlocs⟩ : ∃ z : List Loc, z = [] := ⟨_, rfl⟩
  rw [← hlocs] at hS ⊢
  refine lv_aload_n hx hb dX5_startTour_0 rfl (lv_at hl 0 rfl) ?_
  refine va_get (D := D) (ci := 9) (v := .ref b) (C := RX5) (T := TX5) (N := 1) hx hb hts in_X5_startTour_X5 hown hE.1 hP 0 rfl rfl 0 (by decide) (hts _ lk_X5_startTour_12) (fun _ h9 => h9) rfl dX5_startTour_1 ?_
  refine lv_iload_n hx hb dX5_startTour_4 rfl (lv_at hl 1 rfl) ?_
  refine lv_iconst (v := 0) hx hb dX5_startTour_5 (by decide) ?_
  refine fc_ci (isC := []) (cells' := 0) (slots' := 0) (fc_runSN (n := 2) (As := [.int it, .int (0 : Int32)]) (rest := [.ref b]) (isC := []) (maxL := 2) ⟨hx, hb, hml, hown, hts⟩ (c_X6_ofTour it (0 : Int32) H.size) gX5_startTour_X6_ofTour_n22 (by decide +kernel) (by decide +kernel) (by decide +kernel) rfl (by decide +kernel) rfl ⟨Nat.le_of_ble_eq_true rfl, Nat.le_of_ble_eq_true rfl⟩ ⟨Nat.le_of_ble_eq_true rfl, Nat.le_of_ble_eq_true rfl⟩ hE hP hD hS hA rfl rfl hl rfl (Nat.le_of_ble_eq_true rfl) dX5_startTour_6) hP hD hS hA rfl (fun _ => rfl) rfl rfl (fun r_1 _ H locs hr_1 hP hD hS => ?_)
  obtain rfl : (F_X6_ofTour it (0 : Int32)) = r_1 := hr_1.symm
  dsimp only [fs, List.set] at hP hD
  have hP : va_P D vwCl [(t, .inr (9, [.ref b])), (b, .inr (4, [.ref r])), (r, .inl (k.1, 628, .inl f))] H := hP
  have hD : va_D A [(t, .inr (9, [.ref b])), (b, .inr (4, [.ref r])), (r, .inl (k.1, 628, .inl f))] := hD
  refine lv_iconst (v := 1) hx hb dX5_startTour_9 (by decide) ?_
  refine fc_cv (isC := [1, 2]) (cells' := 0) (slots' := 0) (fc_runV (n := 2) (As := [.int (F_X6_ofTour it (0 : Int32)), .int (1 : Int32)]) (rest := []) (isC := [1, 2]) (maxL := 3) ⟨hx, hb, hml, hown, hts⟩ (c_X0_set b r f (F_X6_ofTour it (0 : Int32)) (1 : Int32) H.size) gX5_startTour_X0_set rfl (by decide +kernel) rfl ⟨Nat.le_of_ble_eq_true rfl, Nat.le_of_ble_eq_true rfl⟩ ⟨Nat.le_of_ble_eq_true rfl, Nat.le_of_ble_eq_true rfl⟩ hE hP hD hS hA rfl rfl (va_recv hE.1 hP (ci := 4) (q0 := 1) rfl rfl) hl rfl (Nat.le_of_ble_eq_true rfl) dX5_startTour_10) hP hD hS hA rfl (fun _ => rfl) rfl rfl (fun _ H locs _ hP hD hS => ?_)
  dsimp only [fs, List.set] at hP hD
  have hP : va_P D vwCl [(t, .inr (9, [.ref b])), (b, .inr (4, [.ref r])), (r, .inl (k.1, 628, .inl (F_X0_set f (F_X6_ofTour it (0 : Int32)) (1 : Int32))))] H := hP
  have hD : va_D A [(t, .inr (9, [.ref b])), (b, .inr (4, [.ref r])), (r, .inl (k.1, 628, .inl (F_X0_set f (F_X6_ofTour it (0 : Int32)) (1 : Int32))))] := hD
  refine lv_aload_n hx hb dX5_startTour_13 rfl (lv_at hl 0 rfl) ?_
  refine lv_iconst (v := 1) hx hb dX5_startTour_14 (by decide) ?_
  generalize hp_2 : (F_X5_toursThatAre (F_X0_set f (F_X6_ofTour it (0 : Int32)) (1 : Int32)) (1 : Int32)) = p_2 at hF
  rw [letp_eq] at hF
  refine fc_ci (isC := [0, 1, 2]) (cells' := 0) (slots' := 0) (fc_runV (n := 1) (As := [.int (1 : Int32)]) (rest := []) (isC := [0, 1, 2]) (maxL := 4) ⟨hx, hb, hml, hown, hts⟩ (c_X5_toursThatAre t b r (F_X0_set f (F_X6_ofTour it (0 : Int32)) (1 : Int32)) (1 : Int32) H.size) gX5_startTour_X5_toursThatAre rfl (by decide +kernel) rfl ⟨Nat.le_of_ble_eq_true rfl, Nat.le_of_ble_eq_true rfl⟩ ⟨Nat.le_of_ble_eq_true rfl, Nat.le_of_ble_eq_true rfl⟩ hE hP hD hS hA rfl rfl (va_recv hE.1 hP (ci := 9) (q0 := 0) rfl rfl) hl rfl (Nat.le_of_ble_eq_true rfl) dX5_startTour_15) hP hD hS hA rfl (fun _ => rfl) rfl rfl (fun r_3 _ H locs hr_3 hP hD hS => ?_)
  rw [hp_2] at hr_3
  obtain rfl : p_2 = r_3 := hr_3.symm
  dsimp only [fs, List.set] at hP hD
  have hP : va_P D vwCl [(t, .inr (9, [.ref b])), (b, .inr (4, [.ref r])), (r, .inl (k.1, 628, .inl (F_X0_set f (F_X6_ofTour it (0 : Int32)) (1 : Int32))))] H := hP
  have hD : va_D A [(t, .inr (9, [.ref b])), (b, .inr (4, [.ref r])), (r, .inl (k.1, 628, .inl (F_X0_set f (F_X6_ofTour it (0 : Int32)) (1 : Int32))))] := hD
  subst hF
  exact fc_iret hx hb hr rfl hlk hS () rfl hP hD (by decide) (by decide) dX5_startTour_18

abbrev rm_X5_turnBack : Room := { frames := 1, cells := 0, slots := 0, locals := 22 }
theorem in_X5_turnBack_X5 : ∀ w ∈ wsX50, w ∈ wsX5_turnBack := by decide +kernel
theorem lk_X5_turnBack_12 : (Cond.fieldLink RX5 12 "TheatreSaga$Theatre" "books" "LTheatreSaga$Books;") ∈ wsX5_turnBack := by decide +kernel
def F_X5_turnBack (f : (Nat → Int32)) (it : Int32) : (Nat → Int32) := (letp (F_X0_get (F_X0_set f (F_X6_ofTour it (4 : Int32)) (0 : Int32)) (F_X6_ofTour it (3 : Int32))) (fun (p_4 : Int32) => (if p_4 = (0 : Int32) then (F_X0_set (F_X0_set f (F_X6_ofTour it (4 : Int32)) (0 : Int32)) (F_X6_ofTour it (0 : Int32)) (4 : Int32)) else (F_X0_set (F_X0_set f (F_X6_ofTour it (4 : Int32)) (0 : Int32)) (F_X6_ofTour it (0 : Int32)) (2 : Int32)))))
set_option maxHeartbeats 4000000 in
set_option maxRecDepth 100000 in
theorem c_X5_turnBack {l : Launch} {D : va_G} {k : tyK} (t b r : Nat) (f : (Nat → Int32)) (it : Int32) : FCv l yX5_turnBack wsX5_turnBack rm_X5_turnBack D k [.ref t, .int it] [(t, .inr (9, [.ref b])), (b, .inr (4, [.ref r])), (r, .inl (k.1, 628, .inl f))] (fun (_ : Unit) => True) (fun _ => [(t, .inr (9, [.ref b])), (b, .inr (4, [.ref r])), (r, .inl (k.1, 628, .inl (F_X5_turnBack f it)))]) := by
  refine fc_start (cc := cX5_turnBack) (maxL := 2) (ret := none) (own := RX5) (Qc := fun A => va_Qv (fun (_ : Unit) => True) (Bt D (fun _ => [(t, .inr (9, [.ref b])), (b, .inr (4, [.ref r])), (r, .inl (k.1, 628, .inl (F_X5_turnBack f it)))]) A) A) (by decide) rfl rfl (Nat.le_of_ble_eq_true rfl) ?_
  intro p e s m below meth c A H hx hb hml hr hts hown hlk hname hA hP hE hD hS ls hl
  obtain ⟨RES, hF⟩ : ∃ z, (F_X5_turnBack f it) = z := ⟨_, rfl⟩
  rw [hF]
  unfold F_X5_turnBack at hF
  have hl : lv_has ls 2 [(0, .ref t), (1, .int it)] := hl
  obtain ⟨locs, hlocs⟩ : ∃ z : List Loc, z = [] := ⟨_, rfl⟩
  rw [← hlocs] at hS ⊢
  refine lv_aload_n hx hb dX5_turnBack_0 rfl (lv_at hl 0 rfl) ?_
  refine va_get (D := D) (ci := 9) (v := .ref b) (C := RX5) (T := TX5) (N := 1) hx hb hts in_X5_turnBack_X5 hown hE.1 hP 0 rfl rfl 0 (by decide) (hts _ lk_X5_turnBack_12) (fun _ h9 => h9) rfl dX5_turnBack_1 ?_
  refine lv_iload_n hx hb dX5_turnBack_4 rfl (lv_at hl 1 rfl) ?_
  refine lv_iconst (v := 4) hx hb dX5_turnBack_5 (by decide) ?_
  refine fc_ci (isC := []) (cells' := 0) (slots' := 0) (fc_runSN (n := 2) (As := [.int it, .int (4 : Int32)]) (rest := [.ref b]) (isC := []) (maxL := 2) ⟨hx, hb, hml, hown, hts⟩ (c_X6_ofTour it (4 : Int32) H.size) gX5_turnBack_X6_ofTour_n22 (by decide +kernel) (by decide +kernel) (by decide +kernel) rfl (by decide +kernel) rfl ⟨Nat.le_of_ble_eq_true rfl, Nat.le_of_ble_eq_true rfl⟩ ⟨Nat.le_of_ble_eq_true rfl, Nat.le_of_ble_eq_true rfl⟩ hE hP hD hS hA rfl rfl hl rfl (Nat.le_of_ble_eq_true rfl) dX5_turnBack_6) hP hD hS hA rfl (fun _ => rfl) rfl rfl (fun r_1 _ H locs hr_1 hP hD hS => ?_)
  obtain rfl : (F_X6_ofTour it (4 : Int32)) = r_1 := hr_1.symm
  dsimp only [fs, List.set] at hP hD
  have hP : va_P D vwCl [(t, .inr (9, [.ref b])), (b, .inr (4, [.ref r])), (r, .inl (k.1, 628, .inl f))] H := hP
  have hD : va_D A [(t, .inr (9, [.ref b])), (b, .inr (4, [.ref r])), (r, .inl (k.1, 628, .inl f))] := hD
  refine lv_iconst (v := 0) hx hb dX5_turnBack_9 (by decide) ?_
  refine fc_cv (isC := [1, 2]) (cells' := 0) (slots' := 0) (fc_runV (n := 2) (As := [.int (F_X6_ofTour it (4 : Int32)), .int (0 : Int32)]) (rest := []) (isC := [1, 2]) (maxL := 3) ⟨hx, hb, hml, hown, hts⟩ (c_X0_set b r f (F_X6_ofTour it (4 : Int32)) (0 : Int32) H.size) gX5_turnBack_X0_set rfl (by decide +kernel) rfl ⟨Nat.le_of_ble_eq_true rfl, Nat.le_of_ble_eq_true rfl⟩ ⟨Nat.le_of_ble_eq_true rfl, Nat.le_of_ble_eq_true rfl⟩ hE hP hD hS hA rfl rfl (va_recv hE.1 hP (ci := 4) (q0 := 1) rfl rfl) hl rfl (Nat.le_of_ble_eq_true rfl) dX5_turnBack_10) hP hD hS hA rfl (fun _ => rfl) rfl rfl (fun _ H locs _ hP hD hS => ?_)
  dsimp only [fs, List.set] at hP hD
  have hP : va_P D vwCl [(t, .inr (9, [.ref b])), (b, .inr (4, [.ref r])), (r, .inl (k.1, 628, .inl (F_X0_set f (F_X6_ofTour it (4 : Int32)) (0 : Int32))))] H := hP
  have hD : va_D A [(t, .inr (9, [.ref b])), (b, .inr (4, [.ref r])), (r, .inl (k.1, 628, .inl (F_X0_set f (F_X6_ofTour it (4 : Int32)) (0 : Int32))))] := hD
  refine lv_aload_n hx hb dX5_turnBack_13 rfl (lv_at hl 0 rfl) ?_
  refine va_get (D := D) (ci := 9) (v := .ref b) (C := RX5) (T := TX5) (N := 1) hx hb hts in_X5_turnBack_X5 hown hE.1 hP 0 rfl rfl 0 (by decide) (hts _ lk_X5_turnBack_12) (fun _ h9 => h9) rfl dX5_turnBack_14 ?_
  refine lv_iload_n hx hb dX5_turnBack_17 rfl (lv_at hl 1 rfl) ?_
  refine lv_iconst (v := 0) hx hb dX5_turnBack_18 (by decide) ?_
  refine fc_ci (isC := []) (cells' := 0) (slots' := 0) (fc_runSN (n := 2) (As := [.int it, .int (0 : Int32)]) (rest := [.ref b]) (isC := []) (maxL := 2) ⟨hx, hb, hml, hown, hts⟩ (c_X6_ofTour it (0 : Int32) H.size) gX5_turnBack_X6_ofTour_n22 (by decide +kernel) (by decide +kernel) (by decide +kernel) rfl (by decide +kernel) rfl ⟨Nat.le_of_ble_eq_true rfl, Nat.le_of_ble_eq_true rfl⟩ ⟨Nat.le_of_ble_eq_true rfl, Nat.le_of_ble_eq_true rfl⟩ hE hP hD hS hA rfl rfl hl rfl (Nat.le_of_ble_eq_true rfl) dX5_turnBack_19) hP hD hS hA rfl (fun _ => rfl) rfl rfl (fun r_2 _ H locs hr_2 hP hD hS => ?_)
  obtain rfl : (F_X6_ofTour it (0 : Int32)) = r_2 := hr_2.symm
  dsimp only [fs, List.set] at hP hD
  have hP : va_P D vwCl [(t, .inr (9, [.ref b])), (b, .inr (4, [.ref r])), (r, .inl (k.1, 628, .inl (F_X0_set f (F_X6_ofTour it (4 : Int32)) (0 : Int32))))] H := hP
  have hD : va_D A [(t, .inr (9, [.ref b])), (b, .inr (4, [.ref r])), (r, .inl (k.1, 628, .inl (F_X0_set f (F_X6_ofTour it (4 : Int32)) (0 : Int32))))] := hD
  refine lv_aload_n hx hb dX5_turnBack_22 rfl (lv_at hl 0 rfl) ?_
  refine va_get (D := D) (ci := 9) (v := .ref b) (C := RX5) (T := TX5) (N := 1) hx hb hts in_X5_turnBack_X5 hown hE.1 hP 0 rfl rfl 0 (by decide) (hts _ lk_X5_turnBack_12) (fun _ h9 => h9) rfl dX5_turnBack_23 ?_
  refine lv_iload_n hx hb dX5_turnBack_26 rfl (lv_at hl 1 rfl) ?_
  refine lv_iconst (v := 3) hx hb dX5_turnBack_27 (by decide) ?_
  refine fc_ci (isC := []) (cells' := 0) (slots' := 0) (fc_runSN (n := 2) (As := [.int it, .int (3 : Int32)]) (rest := [.ref b, .int (F_X6_ofTour it (0 : Int32)), .ref b]) (isC := []) (maxL := 2) ⟨hx, hb, hml, hown, hts⟩ (c_X6_ofTour it (3 : Int32) H.size) gX5_turnBack_X6_ofTour_n22 (by decide +kernel) (by decide +kernel) (by decide +kernel) rfl (by decide +kernel) rfl ⟨Nat.le_of_ble_eq_true rfl, Nat.le_of_ble_eq_true rfl⟩ ⟨Nat.le_of_ble_eq_true rfl, Nat.le_of_ble_eq_true rfl⟩ hE hP hD hS hA rfl rfl hl rfl (Nat.le_of_ble_eq_true rfl) dX5_turnBack_28) hP hD hS hA rfl (fun _ => rfl) rfl rfl (fun r_3 _ H locs hr_3 hP hD hS => ?_)
  obtain rfl : (F_X6_ofTour it (3 : Int32)) = r_3 := hr_3.symm
  dsimp only [fs, List.set] at hP hD
  have hP : va_P D vwCl [(t, .inr (9, [.ref b])), (b, .inr (4, [.ref r])), (r, .inl (k.1, 628, .inl (F_X0_set f (F_X6_ofTour it (4 : Int32)) (0 : Int32))))] H := hP
  have hD : va_D A [(t, .inr (9, [.ref b])), (b, .inr (4, [.ref r])), (r, .inl (k.1, 628, .inl (F_X0_set f (F_X6_ofTour it (4 : Int32)) (0 : Int32))))] := hD
  generalize hp_4 : (F_X0_get (F_X0_set f (F_X6_ofTour it (4 : Int32)) (0 : Int32)) (F_X6_ofTour it (3 : Int32))) = p_4 at hF
  rw [letp_eq] at hF
  refine fc_ci (isC := [1, 2]) (cells' := 0) (slots' := 0) (fc_runV (n := 1) (As := [.int (F_X6_ofTour it (3 : Int32))]) (rest := [.int (F_X6_ofTour it (0 : Int32)), .ref b]) (isC := [1, 2]) (maxL := 2) ⟨hx, hb, hml, hown, hts⟩ (c_X0_get b r (F_X0_set f (F_X6_ofTour it (4 : Int32)) (0 : Int32)) (F_X6_ofTour it (3 : Int32)) H.size) gX5_turnBack_X0_get rfl (by decide +kernel) rfl ⟨Nat.le_of_ble_eq_true rfl, Nat.le_of_ble_eq_true rfl⟩ ⟨Nat.le_of_ble_eq_true rfl, Nat.le_of_ble_eq_true rfl⟩ hE hP hD hS hA rfl rfl (va_recv hE.1 hP (ci := 4) (q0 := 1) rfl rfl) hl rfl (Nat.le_of_ble_eq_true rfl) dX5_turnBack_31) hP hD hS hA rfl (fun _ => rfl) rfl rfl (fun r_5 _ H locs hr_5 hP hD hS => ?_)
  rw [hp_4] at hr_5
  obtain rfl : p_4 = r_5 := hr_5.symm
  dsimp only [fs, List.set] at hP hD
  have hP : va_P D vwCl [(t, .inr (9, [.ref b])), (b, .inr (4, [.ref r])), (r, .inl (k.1, 628, .inl (F_X0_set f (F_X6_ofTour it (4 : Int32)) (0 : Int32))))] H := hP
  have hD : va_D A [(t, .inr (9, [.ref b])), (b, .inr (4, [.ref r])), (r, .inl (k.1, 628, .inl (F_X0_set f (F_X6_ofTour it (4 : Int32)) (0 : Int32))))] := hD
  refine lv_if_ne (tgt := 41) hx hb dX5_turnBack_34 (by decide) (fun c_6 => ?_) (fun c_6 => ?_)
  · rw [if_neg c_6] at hF
    refine lv_iconst (v := 2) hx hb dX5_turnBack_41 (by decide) ?_
    refine fc_cv (isC := [1, 2]) (cells' := 0) (slots' := 0) (fc_runV (n := 2) (As := [.int (F_X6_ofTour it (0 : Int32)), .int (2 : Int32)]) (rest := []) (isC := [1, 2]) (maxL := 3) ⟨hx, hb, hml, hown, hts⟩ (c_X0_set b r (F_X0_set f (F_X6_ofTour it (4 : Int32)) (0 : Int32)) (F_X6_ofTour it (0 : Int32)) (2 : Int32) H.size) gX5_turnBack_X0_set rfl (by decide +kernel) rfl ⟨Nat.le_of_ble_eq_true rfl, Nat.le_of_ble_eq_true rfl⟩ ⟨Nat.le_of_ble_eq_true rfl, Nat.le_of_ble_eq_true rfl⟩ hE hP hD hS hA rfl rfl (va_recv hE.1 hP (ci := 4) (q0 := 1) rfl rfl) hl rfl (Nat.le_of_ble_eq_true rfl) dX5_turnBack_42) hP hD hS hA rfl (fun _ => rfl) rfl rfl (fun _ H locs _ hP hD hS => ?_)
    dsimp only [fs, List.set] at hP hD
    have hP : va_P D vwCl [(t, .inr (9, [.ref b])), (b, .inr (4, [.ref r])), (r, .inl (k.1, 628, .inl (F_X0_set (F_X0_set f (F_X6_ofTour it (4 : Int32)) (0 : Int32)) (F_X6_ofTour it (0 : Int32)) (2 : Int32))))] H := hP
    have hD : va_D A [(t, .inr (9, [.ref b])), (b, .inr (4, [.ref r])), (r, .inl (k.1, 628, .inl (F_X0_set (F_X0_set f (F_X6_ofTour it (4 : Int32)) (0 : Int32)) (F_X6_ofTour it (0 : Int32)) (2 : Int32))))] := hD
    subst hF
    exact fc_vret hx hb hr hlk hS () trivial hP hD (by decide) (by decide) dX5_turnBack_45
  · rw [if_pos c_6] at hF
    refine lv_iconst (v := 4) hx hb dX5_turnBack_37 (by decide) ?_
    refine lv_goto (tgt := 42) hx hb dX5_turnBack_38 (by decide) ?_
    refine fc_cv (isC := [1, 2]) (cells' := 0) (slots' := 0) (fc_runV (n := 2) (As := [.int (F_X6_ofTour it (0 : Int32)), .int (4 : Int32)]) (rest := []) (isC := [1, 2]) (maxL := 3) ⟨hx, hb, hml, hown, hts⟩ (c_X0_set b r (F_X0_set f (F_X6_ofTour it (4 : Int32)) (0 : Int32)) (F_X6_ofTour it (0 : Int32)) (4 : Int32) H.size) gX5_turnBack_X0_set rfl (by decide +kernel) rfl ⟨Nat.le_of_ble_eq_true rfl, Nat.le_of_ble_eq_true rfl⟩ ⟨Nat.le_of_ble_eq_true rfl, Nat.le_of_ble_eq_true rfl⟩ hE hP hD hS hA rfl rfl (va_recv hE.1 hP (ci := 4) (q0 := 1) rfl rfl) hl rfl (Nat.le_of_ble_eq_true rfl) dX5_turnBack_42) hP hD hS hA rfl (fun _ => rfl) rfl rfl (fun _ H locs _ hP hD hS => ?_)
    dsimp only [fs, List.set] at hP hD
    have hP : va_P D vwCl [(t, .inr (9, [.ref b])), (b, .inr (4, [.ref r])), (r, .inl (k.1, 628, .inl (F_X0_set (F_X0_set f (F_X6_ofTour it (4 : Int32)) (0 : Int32)) (F_X6_ofTour it (0 : Int32)) (4 : Int32))))] H := hP
    have hD : va_D A [(t, .inr (9, [.ref b])), (b, .inr (4, [.ref r])), (r, .inl (k.1, 628, .inl (F_X0_set (F_X0_set f (F_X6_ofTour it (4 : Int32)) (0 : Int32)) (F_X6_ofTour it (0 : Int32)) (4 : Int32))))] := hD
    subst hF
    exact fc_vret hx hb hr hlk hS () trivial hP hD (by decide) (by decide) dX5_turnBack_45

abbrev rm_X5_callBack : Room := { frames := 2, cells := 0, slots := 0, locals := 43 }
theorem in_X5_callBack_X5 : ∀ w ∈ wsX50, w ∈ wsX5_callBack := by decide +kernel
theorem lk_X5_callBack_12 : (Cond.fieldLink RX5 12 "TheatreSaga$Theatre" "books" "LTheatreSaga$Books;") ∈ wsX5_callBack := by decide +kernel
def F_X5_callBack (f : (Nat → Int32)) (it : Int32) : Int32 × (Nat → Int32) := (letp (F_X0_get (F_X5_turnBack (F_X0_set f (F_X6_ofTour it (5 : Int32)) (4 : Int32)) it) (F_X6_ofTour it (3 : Int32))) (fun (p_3 : Int32) => (p_3, (F_X5_turnBack (F_X0_set f (F_X6_ofTour it (5 : Int32)) (4 : Int32)) it))))
set_option maxHeartbeats 4000000 in
set_option maxRecDepth 100000 in
theorem c_X5_callBack {l : Launch} {D : va_G} {k : tyK} (t b r : Nat) (f : (Nat → Int32)) (it : Int32) : FCi l yX5_callBack wsX5_callBack rm_X5_callBack D k [.ref t, .int it] [(t, .inr (9, [.ref b])), (b, .inr (4, [.ref r])), (r, .inl (k.1, 628, .inl f))] (fun r (_ : Unit) => r = (F_X5_callBack f it).1) (fun _ => [(t, .inr (9, [.ref b])), (b, .inr (4, [.ref r])), (r, .inl (k.1, 628, .inl (F_X5_callBack f it).2))]) := by
  refine fc_start (cc := cX5_callBack) (maxL := 2) (ret := (some .int)) (own := RX5) (Qc := fun A => va_Qi (fun r (_ : Unit) => r = (F_X5_callBack f it).1) (Bt D (fun _ => [(t, .inr (9, [.ref b])), (b, .inr (4, [.ref r])), (r, .inl (k.1, 628, .inl (F_X5_callBack f it).2))]) A) A) (by decide) rfl rfl (Nat.le_of_ble_eq_true rfl) ?_
  intro p e s m below meth c A H hx hb hml hr hts hown hlk hname hA hP hE hD hS ls hl
  obtain ⟨RES, hF⟩ : ∃ z, (F_X5_callBack f it) = z := ⟨_, rfl⟩
  rw [hF]
  unfold F_X5_callBack at hF
  have hl : lv_has ls 2 [(0, .ref t), (1, .int it)] := hl
  obtain ⟨locs, hlocs⟩ : ∃ z : List Loc, z = [] := ⟨_, rfl⟩
  rw [← hlocs] at hS ⊢
  refine lv_aload_n hx hb dX5_callBack_0 rfl (lv_at hl 0 rfl) ?_
  refine va_get (D := D) (ci := 9) (v := .ref b) (C := RX5) (T := TX5) (N := 1) hx hb hts in_X5_callBack_X5 hown hE.1 hP 0 rfl rfl 0 (by decide) (hts _ lk_X5_callBack_12) (fun _ h9 => h9) rfl dX5_callBack_1 ?_
  refine lv_iload_n hx hb dX5_callBack_4 rfl (lv_at hl 1 rfl) ?_
  refine lv_iconst (v := 5) hx hb dX5_callBack_5 (by decide) ?_
  refine fc_ci (isC := []) (cells' := 0) (slots' := 0) (fc_runSN (n := 2) (As := [.int it, .int (5 : Int32)]) (rest := [.ref b]) (isC := []) (maxL := 2) ⟨hx, hb, hml, hown, hts⟩ (c_X6_ofTour it (5 : Int32) H.size) gX5_callBack_X6_ofTour_n22 (by decide +kernel) (by decide +kernel) (by decide +kernel) rfl (by decide +kernel) rfl ⟨Nat.le_of_ble_eq_true rfl, Nat.le_of_ble_eq_true rfl⟩ ⟨Nat.le_of_ble_eq_true rfl, Nat.le_of_ble_eq_true rfl⟩ hE hP hD hS hA rfl rfl hl rfl (Nat.le_of_ble_eq_true rfl) dX5_callBack_6) hP hD hS hA rfl (fun _ => rfl) rfl rfl (fun r_1 _ H locs hr_1 hP hD hS => ?_)
  obtain rfl : (F_X6_ofTour it (5 : Int32)) = r_1 := hr_1.symm
  dsimp only [fs, List.set] at hP hD
  have hP : va_P D vwCl [(t, .inr (9, [.ref b])), (b, .inr (4, [.ref r])), (r, .inl (k.1, 628, .inl f))] H := hP
  have hD : va_D A [(t, .inr (9, [.ref b])), (b, .inr (4, [.ref r])), (r, .inl (k.1, 628, .inl f))] := hD
  refine lv_iconst (v := 4) hx hb dX5_callBack_9 (by decide) ?_
  refine fc_cv (isC := [1, 2]) (cells' := 0) (slots' := 0) (fc_runV (n := 2) (As := [.int (F_X6_ofTour it (5 : Int32)), .int (4 : Int32)]) (rest := []) (isC := [1, 2]) (maxL := 3) ⟨hx, hb, hml, hown, hts⟩ (c_X0_set b r f (F_X6_ofTour it (5 : Int32)) (4 : Int32) H.size) gX5_callBack_X0_set rfl (by decide +kernel) rfl ⟨Nat.le_of_ble_eq_true rfl, Nat.le_of_ble_eq_true rfl⟩ ⟨Nat.le_of_ble_eq_true rfl, Nat.le_of_ble_eq_true rfl⟩ hE hP hD hS hA rfl rfl (va_recv hE.1 hP (ci := 4) (q0 := 1) rfl rfl) hl rfl (Nat.le_of_ble_eq_true rfl) dX5_callBack_10) hP hD hS hA rfl (fun _ => rfl) rfl rfl (fun _ H locs _ hP hD hS => ?_)
  dsimp only [fs, List.set] at hP hD
  have hP : va_P D vwCl [(t, .inr (9, [.ref b])), (b, .inr (4, [.ref r])), (r, .inl (k.1, 628, .inl (F_X0_set f (F_X6_ofTour it (5 : Int32)) (4 : Int32))))] H := hP
  have hD : va_D A [(t, .inr (9, [.ref b])), (b, .inr (4, [.ref r])), (r, .inl (k.1, 628, .inl (F_X0_set f (F_X6_ofTour it (5 : Int32)) (4 : Int32))))] := hD
  refine lv_aload_n hx hb dX5_callBack_13 rfl (lv_at hl 0 rfl) ?_
  refine lv_iload_n hx hb dX5_callBack_14 rfl (lv_at hl 1 rfl) ?_
  refine fc_cv (isC := [0, 1, 2]) (cells' := 0) (slots' := 0) (fc_runV (n := 1) (As := [.int it]) (rest := []) (isC := [0, 1, 2]) (maxL := 2) ⟨hx, hb, hml, hown, hts⟩ (c_X5_turnBack t b r (F_X0_set f (F_X6_ofTour it (5 : Int32)) (4 : Int32)) it H.size) gX5_callBack_X5_turnBack rfl (by decide +kernel) rfl ⟨Nat.le_of_ble_eq_true rfl, Nat.le_of_ble_eq_true rfl⟩ ⟨Nat.le_of_ble_eq_true rfl, Nat.le_of_ble_eq_true rfl⟩ hE hP hD hS hA rfl rfl (va_recv hE.1 hP (ci := 9) (q0 := 0) rfl rfl) hl rfl (Nat.le_of_ble_eq_true rfl) dX5_callBack_15) hP hD hS hA rfl (fun _ => rfl) rfl rfl (fun _ H locs _ hP hD hS => ?_)
  dsimp only [fs, List.set] at hP hD
  have hP : va_P D vwCl [(t, .inr (9, [.ref b])), (b, .inr (4, [.ref r])), (r, .inl (k.1, 628, .inl (F_X5_turnBack (F_X0_set f (F_X6_ofTour it (5 : Int32)) (4 : Int32)) it)))] H := hP
  have hD : va_D A [(t, .inr (9, [.ref b])), (b, .inr (4, [.ref r])), (r, .inl (k.1, 628, .inl (F_X5_turnBack (F_X0_set f (F_X6_ofTour it (5 : Int32)) (4 : Int32)) it)))] := hD
  refine lv_aload_n hx hb dX5_callBack_18 rfl (lv_at hl 0 rfl) ?_
  refine va_get (D := D) (ci := 9) (v := .ref b) (C := RX5) (T := TX5) (N := 1) hx hb hts in_X5_callBack_X5 hown hE.1 hP 0 rfl rfl 0 (by decide) (hts _ lk_X5_callBack_12) (fun _ h9 => h9) rfl dX5_callBack_19 ?_
  refine lv_iload_n hx hb dX5_callBack_22 rfl (lv_at hl 1 rfl) ?_
  refine lv_iconst (v := 3) hx hb dX5_callBack_23 (by decide) ?_
  refine fc_ci (isC := []) (cells' := 0) (slots' := 0) (fc_runSN (n := 2) (As := [.int it, .int (3 : Int32)]) (rest := [.ref b]) (isC := []) (maxL := 2) ⟨hx, hb, hml, hown, hts⟩ (c_X6_ofTour it (3 : Int32) H.size) gX5_callBack_X6_ofTour_n22 (by decide +kernel) (by decide +kernel) (by decide +kernel) rfl (by decide +kernel) rfl ⟨Nat.le_of_ble_eq_true rfl, Nat.le_of_ble_eq_true rfl⟩ ⟨Nat.le_of_ble_eq_true rfl, Nat.le_of_ble_eq_true rfl⟩ hE hP hD hS hA rfl rfl hl rfl (Nat.le_of_ble_eq_true rfl) dX5_callBack_24) hP hD hS hA rfl (fun _ => rfl) rfl rfl (fun r_2 _ H locs hr_2 hP hD hS => ?_)
  obtain rfl : (F_X6_ofTour it (3 : Int32)) = r_2 := hr_2.symm
  dsimp only [fs, List.set] at hP hD
  have hP : va_P D vwCl [(t, .inr (9, [.ref b])), (b, .inr (4, [.ref r])), (r, .inl (k.1, 628, .inl (F_X5_turnBack (F_X0_set f (F_X6_ofTour it (5 : Int32)) (4 : Int32)) it)))] H := hP
  have hD : va_D A [(t, .inr (9, [.ref b])), (b, .inr (4, [.ref r])), (r, .inl (k.1, 628, .inl (F_X5_turnBack (F_X0_set f (F_X6_ofTour it (5 : Int32)) (4 : Int32)) it)))] := hD
  generalize hp_3 : (F_X0_get (F_X5_turnBack (F_X0_set f (F_X6_ofTour it (5 : Int32)) (4 : Int32)) it) (F_X6_ofTour it (3 : Int32))) = p_3 at hF
  rw [letp_eq] at hF
  refine fc_ci (isC := [1, 2]) (cells' := 0) (slots' := 0) (fc_runV (n := 1) (As := [.int (F_X6_ofTour it (3 : Int32))]) (rest := []) (isC := [1, 2]) (maxL := 2) ⟨hx, hb, hml, hown, hts⟩ (c_X0_get b r (F_X5_turnBack (F_X0_set f (F_X6_ofTour it (5 : Int32)) (4 : Int32)) it) (F_X6_ofTour it (3 : Int32)) H.size) gX5_callBack_X0_get rfl (by decide +kernel) rfl ⟨Nat.le_of_ble_eq_true rfl, Nat.le_of_ble_eq_true rfl⟩ ⟨Nat.le_of_ble_eq_true rfl, Nat.le_of_ble_eq_true rfl⟩ hE hP hD hS hA rfl rfl (va_recv hE.1 hP (ci := 4) (q0 := 1) rfl rfl) hl rfl (Nat.le_of_ble_eq_true rfl) dX5_callBack_27) hP hD hS hA rfl (fun _ => rfl) rfl rfl (fun r_4 _ H locs hr_4 hP hD hS => ?_)
  rw [hp_3] at hr_4
  obtain rfl : p_3 = r_4 := hr_4.symm
  dsimp only [fs, List.set] at hP hD
  have hP : va_P D vwCl [(t, .inr (9, [.ref b])), (b, .inr (4, [.ref r])), (r, .inl (k.1, 628, .inl (F_X5_turnBack (F_X0_set f (F_X6_ofTour it (5 : Int32)) (4 : Int32)) it)))] H := hP
  have hD : va_D A [(t, .inr (9, [.ref b])), (b, .inr (4, [.ref r])), (r, .inl (k.1, 628, .inl (F_X5_turnBack (F_X0_set f (F_X6_ofTour it (5 : Int32)) (4 : Int32)) it)))] := hD
  subst hF
  exact fc_iret hx hb hr rfl hlk hS () rfl hP hD (by decide) (by decide) dX5_callBack_30

abbrev rm_X5_openTowns : Room := { frames := 1, cells := 0, slots := 0, locals := 21 }
theorem in_X5_openTowns_X5 : ∀ w ∈ wsX50, w ∈ wsX5_openTowns := by decide +kernel
theorem lk_X5_openTowns_12 : (Cond.fieldLink RX5 12 "TheatreSaga$Theatre" "books" "LTheatreSaga$Books;") ∈ wsX5_openTowns := by decide +kernel
def FL_X5_openTowns_4 : Nat → (Nat → Int32) → Int32 → Int32 → Int32
  | 0, f, x1, x2 => 0
  | n + 1, f, x1, x2 => (if (5 : Int32) ≤ x2 then x1 else (FL_X5_openTowns_4 n f (x1 + (F_X0_get f (F_X6_ofTown x2 (0 : Int32)))) (x2 + (1 : Int32))))
def F_X5_openTowns (f : (Nat → Int32))  : Int32 := (FL_X5_openTowns_4 (6) f (0 : Int32) (0 : Int32))
set_option maxHeartbeats 4000000 in
set_option maxRecDepth 100000 in
theorem lp_X5_openTowns_4 {p : Program} {l : Launch} {e : Env} {s : State} {m : MethodId} {args : Array Value} {below : List Frame} {meth : Method} {c : Code} {D : va_G} {k : tyK} {A : Nat → Prop} (hx : p.tables.exec = Jvm.exec) (hb : c.code = cX5_openTowns) (hml : c.maxLocals = 3) (hr : meth.sig.returnType = (some .int)) (hts : ∀ w ∈ wsX5_openTowns, w.before args s = true) (hown : s.vm.findClass RX5 = some m.cls) (hlk : meth.locks = false) (hA : ∀ q : Nat, s.heap.size ≤ q → A q) (hE : GE D k A s) (t b r : Nat) :
    ∀ (n : Nat) (f : (Nat → Int32)) (x1 : Int32) (x2 : Int32) (RES : Int32), FL_X5_openTowns_4 n f x1 x2 = RES → ((5 : Int32).toInt - (x2 : Int32).toInt).toNat < n → ∀ (H : Heap) (locs : List Loc), va_P D vwCl [(t, .inr (9, [.ref b])), (b, .inr (4, [.ref r])), (r, .inl (k.1, 628, .inl f))] H → va_D A [(t, .inr (9, [.ref b])), (b, .inr (4, [.ref r])), (r, .inl (k.1, 628, .inl f))] → va_S A s.heap H locs → ∀ ls : Array Slot, lv_has ls 3 [(0, .ref t), (1, .int x1), (2, .int x2)] → W p l e rm_X5_openTowns s m args below meth c H locs 0 0 (MQ below (va_Qi (fun r (_ : Unit) => r = RES) (Bt D (fun _ => [(t, .inr (9, [.ref b])), (b, .inr (4, [.ref r])), (r, .inl (k.1, 628, .inl f))]) A) A) args s rm_X5_openTowns.cells rm_X5_openTowns.slots A) (F0 m 4 ls []) := by
  intro n
  induction n with
  | zero =>
    intro f x1 x2 RES hF hm H locs hP hD hS ls hl
    exact absurd hm (Nat.not_lt_zero _)
  | succ n ih =>
    intro f x1 x2 RES hF hm H locs hP hD hS ls hl
    rw [FL_X5_openTowns_4] at hF
    refine lv_iload_n hx hb dX5_openTowns_4 rfl (lv_at hl 2 rfl) ?_
    refine lv_iconst (v := 5) hx hb dX5_openTowns_5 (by decide) ?_
    refine lv_icmp_ge (tgt := 30) hx hb dX5_openTowns_6 (by decide) (fun c_1 => ?_) (fun c_1 => ?_)
    · rw [if_pos c_1] at hF
      refine lv_iload_n hx hb dX5_openTowns_30 rfl (lv_at hl 1 rfl) ?_
      subst hF
      exact fc_iret hx hb hr rfl hlk hS () rfl hP hD (by decide) (by decide) dX5_openTowns_31
    · rw [if_neg c_1] at hF
      refine lv_iload_n hx hb dX5_openTowns_9 rfl (lv_at hl 1 rfl) ?_
      refine lv_aload_n hx hb dX5_openTowns_10 rfl (lv_at hl 0 rfl) ?_
      refine va_get (D := D) (ci := 9) (v := .ref b) (C := RX5) (T := TX5) (N := 1) hx hb hts in_X5_openTowns_X5 hown hE.1 hP 0 rfl rfl 0 (by decide) (hts _ lk_X5_openTowns_12) (fun _ h9 => h9) rfl dX5_openTowns_11 ?_
      refine lv_iload_n hx hb dX5_openTowns_14 rfl (lv_at hl 2 rfl) ?_
      refine lv_iconst (v := 0) hx hb dX5_openTowns_15 (by decide) ?_
      refine fc_ci (isC := []) (cells' := 0) (slots' := 0) (fc_runSN (n := 2) (As := [.int x2, .int (0 : Int32)]) (rest := [.ref b, .int x1]) (isC := []) (maxL := 2) ⟨hx, hb, hml, hown, hts⟩ (c_X6_ofTown x2 (0 : Int32) H.size) gX5_openTowns_X6_ofTown_n44 (by decide +kernel) (by decide +kernel) (by decide +kernel) rfl (by decide +kernel) rfl ⟨Nat.le_of_ble_eq_true rfl, Nat.le_of_ble_eq_true rfl⟩ ⟨Nat.le_of_ble_eq_true rfl, Nat.le_of_ble_eq_true rfl⟩ hE hP hD hS hA rfl rfl hl rfl (Nat.le_of_ble_eq_true rfl) dX5_openTowns_16) hP hD hS hA rfl (fun _ => rfl) rfl rfl (fun r_2 _ H locs hr_2 hP hD hS => ?_)
      obtain rfl : (F_X6_ofTown x2 (0 : Int32)) = r_2 := hr_2.symm
      dsimp only [fs, List.set] at hP hD
      have hP : va_P D vwCl [(t, .inr (9, [.ref b])), (b, .inr (4, [.ref r])), (r, .inl (k.1, 628, .inl f))] H := hP
      have hD : va_D A [(t, .inr (9, [.ref b])), (b, .inr (4, [.ref r])), (r, .inl (k.1, 628, .inl f))] := hD
      refine fc_ci (isC := [1, 2]) (cells' := 0) (slots' := 0) (fc_runV (n := 1) (As := [.int (F_X6_ofTown x2 (0 : Int32))]) (rest := [.int x1]) (isC := [1, 2]) (maxL := 2) ⟨hx, hb, hml, hown, hts⟩ (c_X0_get b r f (F_X6_ofTown x2 (0 : Int32)) H.size) gX5_openTowns_X0_get rfl (by decide +kernel) rfl ⟨Nat.le_of_ble_eq_true rfl, Nat.le_of_ble_eq_true rfl⟩ ⟨Nat.le_of_ble_eq_true rfl, Nat.le_of_ble_eq_true rfl⟩ hE hP hD hS hA rfl rfl (va_recv hE.1 hP (ci := 4) (q0 := 1) rfl rfl) hl rfl (Nat.le_of_ble_eq_true rfl) dX5_openTowns_19) hP hD hS hA rfl (fun _ => rfl) rfl rfl (fun r_3 _ H locs hr_3 hP hD hS => ?_)
      obtain rfl : (F_X0_get f (F_X6_ofTown x2 (0 : Int32))) = r_3 := hr_3.symm
      dsimp only [fs, List.set] at hP hD
      have hP : va_P D vwCl [(t, .inr (9, [.ref b])), (b, .inr (4, [.ref r])), (r, .inl (k.1, 628, .inl f))] H := hP
      have hD : va_D A [(t, .inr (9, [.ref b])), (b, .inr (4, [.ref r])), (r, .inl (k.1, 628, .inl f))] := hD
      refine lv_iadd hx hb dX5_openTowns_22 ?_
      refine lv_istore_n (lv' := [(1, .int (x1 + (F_X0_get f (F_X6_ofTown x2 (0 : Int32))))), (0, .ref t), (2, .int x2)]) hx hb dX5_openTowns_23 rfl hl (by decide) rfl (fun ls hl => ?_)
      refine lv_iinc (v := (x2 + (1 : Int32))) (lv' := [(2, .int (x2 + (1 : Int32))), (1, .int (x1 + (F_X0_get f (F_X6_ofTown x2 (0 : Int32))))), (0, .ref t)]) hx hb dX5_openTowns_24 hl (k := 2) rfl rfl (by decide) rfl (fun ls hl => ?_)
      refine lv_goto (tgt := 4) hx hb dX5_openTowns_27 (by decide) ?_
      exact ih f (x1 + (F_X0_get f (F_X6_ofTown x2 (0 : Int32)))) (x2 + (1 : Int32)) RES hF (lp_step c_1 hm) H locs hP hD hS ls (lv_sub hl [2, 1, 0] rfl)
set_option maxHeartbeats 4000000 in
set_option maxRecDepth 100000 in
theorem c_X5_openTowns {l : Launch} {D : va_G} {k : tyK} (t b r : Nat) (f : (Nat → Int32))  : FCi l yX5_openTowns wsX5_openTowns rm_X5_openTowns D k [.ref t] [(t, .inr (9, [.ref b])), (b, .inr (4, [.ref r])), (r, .inl (k.1, 628, .inl f))] (fun r (_ : Unit) => r = (F_X5_openTowns f)) (fun _ => [(t, .inr (9, [.ref b])), (b, .inr (4, [.ref r])), (r, .inl (k.1, 628, .inl f))]) := by
  refine fc_start (cc := cX5_openTowns) (maxL := 3) (ret := (some .int)) (own := RX5) (Qc := fun A => va_Qi (fun r (_ : Unit) => r = (F_X5_openTowns f)) (Bt D (fun _ => [(t, .inr (9, [.ref b])), (b, .inr (4, [.ref r])), (r, .inl (k.1, 628, .inl f))]) A) A) (by decide) rfl rfl (Nat.le_of_ble_eq_true rfl) ?_
  intro p e s m below meth c A H hx hb hml hr hts hown hlk hname hA hP hE hD hS ls hl
  obtain ⟨RES, hF⟩ : ∃ z, (F_X5_openTowns f) = z := ⟨_, rfl⟩
  rw [hF]
  unfold F_X5_openTowns at hF
  have hl : lv_has ls 3 [(0, .ref t)] := hl
  obtain ⟨locs, hlocs⟩ : ∃ z : List Loc, z = [] := ⟨_, rfl⟩
  rw [← hlocs] at hS ⊢
  refine lv_iconst (v := 0) hx hb dX5_openTowns_0 (by decide) ?_
  refine lv_istore_n (lv' := [(1, .int (0 : Int32)), (0, .ref t)]) hx hb dX5_openTowns_1 rfl hl (by decide) rfl (fun ls hl => ?_)
  refine lv_iconst (v := 0) hx hb dX5_openTowns_2 (by decide) ?_
  refine lv_istore_n (lv' := [(2, .int (0 : Int32)), (1, .int (0 : Int32)), (0, .ref t)]) hx hb dX5_openTowns_3 rfl hl (by decide) rfl (fun ls hl => ?_)
  exact lp_X5_openTowns_4 hx hb hml hr hts hown hlk hA hE t b r (6) f (0 : Int32) (0 : Int32) RES hF (by decide) H locs hP hD hS ls (lv_sub hl [2, 1, 0] rfl)

abbrev rm_X5_shutTown : Room := { frames := 2, cells := 0, slots := 0, locals := 43 }
theorem in_X5_shutTown_X5 : ∀ w ∈ wsX50, w ∈ wsX5_shutTown := by decide +kernel
theorem lk_X5_shutTown_12 : (Cond.fieldLink RX5 12 "TheatreSaga$Theatre" "books" "LTheatreSaga$Books;") ∈ wsX5_shutTown := by decide +kernel
def F_X5_shutTown (f : (Nat → Int32)) (iw : Int32) (is : Int32) : Int32 × (Nat → Int32) := (if is = (0 : Int32) then (letp (F_X5_openTowns (F_X0_set f (F_X6_ofTown iw (0 : Int32)) (1 : Int32))) (fun (p_3 : Int32) => (p_3, (F_X0_set f (F_X6_ofTown iw (0 : Int32)) (1 : Int32))))) else (letp (F_X5_openTowns (F_X0_set f (F_X6_ofTown iw (0 : Int32)) (0 : Int32))) (fun (p_5 : Int32) => (p_5, (F_X0_set f (F_X6_ofTown iw (0 : Int32)) (0 : Int32))))))
set_option maxHeartbeats 4000000 in
set_option maxRecDepth 100000 in
theorem c_X5_shutTown {l : Launch} {D : va_G} {k : tyK} (t b r : Nat) (f : (Nat → Int32)) (iw : Int32) (is : Int32) : FCi l yX5_shutTown wsX5_shutTown rm_X5_shutTown D k [.ref t, .int iw, .int is] [(t, .inr (9, [.ref b])), (b, .inr (4, [.ref r])), (r, .inl (k.1, 628, .inl f))] (fun r (_ : Unit) => r = (F_X5_shutTown f iw is).1) (fun _ => [(t, .inr (9, [.ref b])), (b, .inr (4, [.ref r])), (r, .inl (k.1, 628, .inl (F_X5_shutTown f iw is).2))]) := by
  refine fc_start (cc := cX5_shutTown) (maxL := 3) (ret := (some .int)) (own := RX5) (Qc := fun A => va_Qi (fun r (_ : Unit) => r = (F_X5_shutTown f iw is).1) (Bt D (fun _ => [(t, .inr (9, [.ref b])), (b, .inr (4, [.ref r])), (r, .inl (k.1, 628, .inl (F_X5_shutTown f iw is).2))]) A) A) (by decide) rfl rfl (Nat.le_of_ble_eq_true rfl) ?_
  intro p e s m below meth c A H hx hb hml hr hts hown hlk hname hA hP hE hD hS ls hl
  obtain ⟨RES, hF⟩ : ∃ z, (F_X5_shutTown f iw is) = z := ⟨_, rfl⟩
  rw [hF]
  unfold F_X5_shutTown at hF
  have hl : lv_has ls 3 [(0, .ref t), (1, .int iw), (2, .int is)] := hl
  obtain ⟨locs, hlocs⟩ : ∃ z : List Loc, z = [] := ⟨_, rfl⟩
  rw [← hlocs] at hS ⊢
  refine lv_aload_n hx hb dX5_shutTown_0 rfl (lv_at hl 0 rfl) ?_
  refine va_get (D := D) (ci := 9) (v := .ref b) (C := RX5) (T := TX5) (N := 1) hx hb hts in_X5_shutTown_X5 hown hE.1 hP 0 rfl rfl 0 (by decide) (hts _ lk_X5_shutTown_12) (fun _ h9 => h9) rfl dX5_shutTown_1 ?_
  refine lv_iload_n hx hb dX5_shutTown_4 rfl (lv_at hl 1 rfl) ?_
  refine lv_iconst (v := 0) hx hb dX5_shutTown_5 (by decide) ?_
  refine fc_ci (isC := []) (cells' := 0) (slots' := 0) (fc_runSN (n := 2) (As := [.int iw, .int (0 : Int32)]) (rest := [.ref b]) (isC := []) (maxL := 2) ⟨hx, hb, hml, hown, hts⟩ (c_X6_ofTown iw (0 : Int32) H.size) gX5_shutTown_X6_ofTown_n44 (by decide +kernel) (by decide +kernel) (by decide +kernel) rfl (by decide +kernel) rfl ⟨Nat.le_of_ble_eq_true rfl, Nat.le_of_ble_eq_true rfl⟩ ⟨Nat.le_of_ble_eq_true rfl, Nat.le_of_ble_eq_true rfl⟩ hE hP hD hS hA rfl rfl hl rfl (Nat.le_of_ble_eq_true rfl) dX5_shutTown_6) hP hD hS hA rfl (fun _ => rfl) rfl rfl (fun r_1 _ H locs hr_1 hP hD hS => ?_)
  obtain rfl : (F_X6_ofTown iw (0 : Int32)) = r_1 := hr_1.symm
  dsimp only [fs, List.set] at hP hD
  have hP : va_P D vwCl [(t, .inr (9, [.ref b])), (b, .inr (4, [.ref r])), (r, .inl (k.1, 628, .inl f))] H := hP
  have hD : va_D A [(t, .inr (9, [.ref b])), (b, .inr (4, [.ref r])), (r, .inl (k.1, 628, .inl f))] := hD
  refine lv_iload_n hx hb dX5_shutTown_9 rfl (lv_at hl 2 rfl) ?_
  refine lv_if_eq (tgt := 17) hx hb dX5_shutTown_10 (by decide) (fun c_2 => ?_) (fun c_2 => ?_)
  · rw [if_pos c_2] at hF
    refine lv_iconst (v := 1) hx hb dX5_shutTown_17 (by decide) ?_
    refine fc_cv (isC := [1, 2]) (cells' := 0) (slots' := 0) (fc_runV (n := 2) (As := [.int (F_X6_ofTown iw (0 : Int32)), .int (1 : Int32)]) (rest := []) (isC := [1, 2]) (maxL := 3) ⟨hx, hb, hml, hown, hts⟩ (c_X0_set b r f (F_X6_ofTown iw (0 : Int32)) (1 : Int32) H.size) gX5_shutTown_X0_set rfl (by decide +kernel) rfl ⟨Nat.le_of_ble_eq_true rfl, Nat.le_of_ble_eq_true rfl⟩ ⟨Nat.le_of_ble_eq_true rfl, Nat.le_of_ble_eq_true rfl⟩ hE hP hD hS hA rfl rfl (va_recv hE.1 hP (ci := 4) (q0 := 1) rfl rfl) hl rfl (Nat.le_of_ble_eq_true rfl) dX5_shutTown_18) hP hD hS hA rfl (fun _ => rfl) rfl rfl (fun _ H locs _ hP hD hS => ?_)
    dsimp only [fs, List.set] at hP hD
    have hP : va_P D vwCl [(t, .inr (9, [.ref b])), (b, .inr (4, [.ref r])), (r, .inl (k.1, 628, .inl (F_X0_set f (F_X6_ofTown iw (0 : Int32)) (1 : Int32))))] H := hP
    have hD : va_D A [(t, .inr (9, [.ref b])), (b, .inr (4, [.ref r])), (r, .inl (k.1, 628, .inl (F_X0_set f (F_X6_ofTown iw (0 : Int32)) (1 : Int32))))] := hD
    refine lv_aload_n hx hb dX5_shutTown_21 rfl (lv_at hl 0 rfl) ?_
    generalize hp_3 : (F_X5_openTowns (F_X0_set f (F_X6_ofTown iw (0 : Int32)) (1 : Int32))) = p_3 at hF
    rw [letp_eq] at hF
    refine fc_ci (isC := [0, 1, 2]) (cells' := 0) (slots' := 0) (fc_runV (n := 0) (As := []) (rest := []) (isC := [0, 1, 2]) (maxL := 3) ⟨hx, hb, hml, hown, hts⟩ (c_X5_openTowns t b r (F_X0_set f (F_X6_ofTown iw (0 : Int32)) (1 : Int32)) H.size) gX5_shutTown_X5_openTowns rfl (by decide +kernel) rfl ⟨Nat.le_of_ble_eq_true rfl, Nat.le_of_ble_eq_true rfl⟩ ⟨Nat.le_of_ble_eq_true rfl, Nat.le_of_ble_eq_true rfl⟩ hE hP hD hS hA rfl rfl (va_recv hE.1 hP (ci := 9) (q0 := 0) rfl rfl) hl rfl (Nat.le_of_ble_eq_true rfl) dX5_shutTown_22) hP hD hS hA rfl (fun _ => rfl) rfl rfl (fun r_4 _ H locs hr_4 hP hD hS => ?_)
    rw [hp_3] at hr_4
    obtain rfl : p_3 = r_4 := hr_4.symm
    dsimp only [fs, List.set] at hP hD
    have hP : va_P D vwCl [(t, .inr (9, [.ref b])), (b, .inr (4, [.ref r])), (r, .inl (k.1, 628, .inl (F_X0_set f (F_X6_ofTown iw (0 : Int32)) (1 : Int32))))] H := hP
    have hD : va_D A [(t, .inr (9, [.ref b])), (b, .inr (4, [.ref r])), (r, .inl (k.1, 628, .inl (F_X0_set f (F_X6_ofTown iw (0 : Int32)) (1 : Int32))))] := hD
    subst hF
    exact fc_iret hx hb hr rfl hlk hS () rfl hP hD (by decide) (by decide) dX5_shutTown_25
  · rw [if_neg c_2] at hF
    refine lv_iconst (v := 0) hx hb dX5_shutTown_13 (by decide) ?_
    refine lv_goto (tgt := 18) hx hb dX5_shutTown_14 (by decide) ?_
    refine fc_cv (isC := [1, 2]) (cells' := 0) (slots' := 0) (fc_runV (n := 2) (As := [.int (F_X6_ofTown iw (0 : Int32)), .int (0 : Int32)]) (rest := []) (isC := [1, 2]) (maxL := 3) ⟨hx, hb, hml, hown, hts⟩ (c_X0_set b r f (F_X6_ofTown iw (0 : Int32)) (0 : Int32) H.size) gX5_shutTown_X0_set rfl (by decide +kernel) rfl ⟨Nat.le_of_ble_eq_true rfl, Nat.le_of_ble_eq_true rfl⟩ ⟨Nat.le_of_ble_eq_true rfl, Nat.le_of_ble_eq_true rfl⟩ hE hP hD hS hA rfl rfl (va_recv hE.1 hP (ci := 4) (q0 := 1) rfl rfl) hl rfl (Nat.le_of_ble_eq_true rfl) dX5_shutTown_18) hP hD hS hA rfl (fun _ => rfl) rfl rfl (fun _ H locs _ hP hD hS => ?_)
    dsimp only [fs, List.set] at hP hD
    have hP : va_P D vwCl [(t, .inr (9, [.ref b])), (b, .inr (4, [.ref r])), (r, .inl (k.1, 628, .inl (F_X0_set f (F_X6_ofTown iw (0 : Int32)) (0 : Int32))))] H := hP
    have hD : va_D A [(t, .inr (9, [.ref b])), (b, .inr (4, [.ref r])), (r, .inl (k.1, 628, .inl (F_X0_set f (F_X6_ofTown iw (0 : Int32)) (0 : Int32))))] := hD
    refine lv_aload_n hx hb dX5_shutTown_21 rfl (lv_at hl 0 rfl) ?_
    generalize hp_5 : (F_X5_openTowns (F_X0_set f (F_X6_ofTown iw (0 : Int32)) (0 : Int32))) = p_5 at hF
    rw [letp_eq] at hF
    refine fc_ci (isC := [0, 1, 2]) (cells' := 0) (slots' := 0) (fc_runV (n := 0) (As := []) (rest := []) (isC := [0, 1, 2]) (maxL := 3) ⟨hx, hb, hml, hown, hts⟩ (c_X5_openTowns t b r (F_X0_set f (F_X6_ofTown iw (0 : Int32)) (0 : Int32)) H.size) gX5_shutTown_X5_openTowns rfl (by decide +kernel) rfl ⟨Nat.le_of_ble_eq_true rfl, Nat.le_of_ble_eq_true rfl⟩ ⟨Nat.le_of_ble_eq_true rfl, Nat.le_of_ble_eq_true rfl⟩ hE hP hD hS hA rfl rfl (va_recv hE.1 hP (ci := 9) (q0 := 0) rfl rfl) hl rfl (Nat.le_of_ble_eq_true rfl) dX5_shutTown_22) hP hD hS hA rfl (fun _ => rfl) rfl rfl (fun r_6 _ H locs hr_6 hP hD hS => ?_)
    rw [hp_5] at hr_6
    obtain rfl : p_5 = r_6 := hr_6.symm
    dsimp only [fs, List.set] at hP hD
    have hP : va_P D vwCl [(t, .inr (9, [.ref b])), (b, .inr (4, [.ref r])), (r, .inl (k.1, 628, .inl (F_X0_set f (F_X6_ofTown iw (0 : Int32)) (0 : Int32))))] H := hP
    have hD : va_D A [(t, .inr (9, [.ref b])), (b, .inr (4, [.ref r])), (r, .inl (k.1, 628, .inl (F_X0_set f (F_X6_ofTown iw (0 : Int32)) (0 : Int32))))] := hD
    subst hF
    exact fc_iret hx hb hr rfl hlk hS () rfl hP hD (by decide) (by decide) dX5_shutTown_25

abbrev rm_X5_isUnderWay : Room := { frames := 1, cells := 0, slots := 0, locals := 21 }
theorem in_X5_isUnderWay_X5 : ∀ w ∈ wsX50, w ∈ wsX5_isUnderWay := by decide +kernel
theorem lk_X5_isUnderWay_12 : (Cond.fieldLink RX5 12 "TheatreSaga$Theatre" "books" "LTheatreSaga$Books;") ∈ wsX5_isUnderWay := by decide +kernel
def F_X5_isUnderWay (f : (Nat → Int32)) (it : Int32) : Int32 := (if (F_X0_get f (F_X6_ofTour it (0 : Int32))) = (1 : Int32) then (1 : Int32) else (if (F_X0_get f (F_X6_ofTour it (0 : Int32))) = (2 : Int32) then (1 : Int32) else (0 : Int32)))
set_option maxHeartbeats 4000000 in
set_option maxRecDepth 100000 in
theorem c_X5_isUnderWay {l : Launch} {D : va_G} {k : tyK} (t b r : Nat) (f : (Nat → Int32)) (it : Int32) : FCi l yX5_isUnderWay wsX5_isUnderWay rm_X5_isUnderWay D k [.ref t, .int it] [(t, .inr (9, [.ref b])), (b, .inr (4, [.ref r])), (r, .inl (k.1, 628, .inl f))] (fun r (_ : Unit) => r = (F_X5_isUnderWay f it)) (fun _ => [(t, .inr (9, [.ref b])), (b, .inr (4, [.ref r])), (r, .inl (k.1, 628, .inl f))]) := by
  refine fc_start (cc := cX5_isUnderWay) (maxL := 3) (ret := (some .boolean)) (own := RX5) (Qc := fun A => va_Qi (fun r (_ : Unit) => r = (F_X5_isUnderWay f it)) (Bt D (fun _ => [(t, .inr (9, [.ref b])), (b, .inr (4, [.ref r])), (r, .inl (k.1, 628, .inl f))]) A) A) (by decide) rfl rfl (Nat.le_of_ble_eq_true rfl) ?_
  intro p e s m below meth c A H hx hb hml hr hts hown hlk hname hA hP hE hD hS ls hl
  obtain ⟨RES, hF⟩ : ∃ z, (F_X5_isUnderWay f it) = z := ⟨_, rfl⟩
  rw [hF]
  unfold F_X5_isUnderWay at hF
  have hl : lv_has ls 3 [(0, .ref t), (1, .int it)] := hl
  obtain ⟨locs, hlocs⟩ : ∃ z : List Loc, z = [] := ⟨_, rfl⟩
  rw [← hlocs] at hS ⊢
  refine lv_aload_n hx hb dX5_isUnderWay_0 rfl (lv_at hl 0 rfl) ?_
  refine va_get (D := D) (ci := 9) (v := .ref b) (C := RX5) (T := TX5) (N := 1) hx hb hts in_X5_isUnderWay_X5 hown hE.1 hP 0 rfl rfl 0 (by decide) (hts _ lk_X5_isUnderWay_12) (fun _ h9 => h9) rfl dX5_isUnderWay_1 ?_
  refine lv_iload_n hx hb dX5_isUnderWay_4 rfl (lv_at hl 1 rfl) ?_
  refine lv_iconst (v := 0) hx hb dX5_isUnderWay_5 (by decide) ?_
  refine fc_ci (isC := []) (cells' := 0) (slots' := 0) (fc_runSN (n := 2) (As := [.int it, .int (0 : Int32)]) (rest := [.ref b]) (isC := []) (maxL := 2) ⟨hx, hb, hml, hown, hts⟩ (c_X6_ofTour it (0 : Int32) H.size) gX5_isUnderWay_X6_ofTour_n22 (by decide +kernel) (by decide +kernel) (by decide +kernel) rfl (by decide +kernel) rfl ⟨Nat.le_of_ble_eq_true rfl, Nat.le_of_ble_eq_true rfl⟩ ⟨Nat.le_of_ble_eq_true rfl, Nat.le_of_ble_eq_true rfl⟩ hE hP hD hS hA rfl rfl hl rfl (Nat.le_of_ble_eq_true rfl) dX5_isUnderWay_6) hP hD hS hA rfl (fun _ => rfl) rfl rfl (fun r_1 _ H locs hr_1 hP hD hS => ?_)
  obtain rfl : (F_X6_ofTour it (0 : Int32)) = r_1 := hr_1.symm
  dsimp only [fs, List.set] at hP hD
  have hP : va_P D vwCl [(t, .inr (9, [.ref b])), (b, .inr (4, [.ref r])), (r, .inl (k.1, 628, .inl f))] H := hP
  have hD : va_D A [(t, .inr (9, [.ref b])), (b, .inr (4, [.ref r])), (r, .inl (k.1, 628, .inl f))] := hD
  refine fc_ci (isC := [1, 2]) (cells' := 0) (slots' := 0) (fc_runV (n := 1) (As := [.int (F_X6_ofTour it (0 : Int32))]) (rest := []) (isC := [1, 2]) (maxL := 2) ⟨hx, hb, hml, hown, hts⟩ (c_X0_get b r f (F_X6_ofTour it (0 : Int32)) H.size) gX5_isUnderWay_X0_get rfl (by decide +kernel) rfl ⟨Nat.le_of_ble_eq_true rfl, Nat.le_of_ble_eq_true rfl⟩ ⟨Nat.le_of_ble_eq_true rfl, Nat.le_of_ble_eq_true rfl⟩ hE hP hD hS hA rfl rfl (va_recv hE.1 hP (ci := 4) (q0 := 1) rfl rfl) hl rfl (Nat.le_of_ble_eq_true rfl) dX5_isUnderWay_9) hP hD hS hA rfl (fun _ => rfl) rfl rfl (fun r_2 _ H locs hr_2 hP hD hS => ?_)
  obtain rfl : (F_X0_get f (F_X6_ofTour it (0 : Int32))) = r_2 := hr_2.symm
  dsimp only [fs, List.set] at hP hD
  have hP : va_P D vwCl [(t, .inr (9, [.ref b])), (b, .inr (4, [.ref r])), (r, .inl (k.1, 628, .inl f))] H := hP
  have hD : va_D A [(t, .inr (9, [.ref b])), (b, .inr (4, [.ref r])), (r, .inl (k.1, 628, .inl f))] := hD
  refine lv_istore_n (lv' := [(2, .int (F_X0_get f (F_X6_ofTour it (0 : Int32)))), (0, .ref t), (1, .int it)]) hx hb dX5_isUnderWay_12 rfl hl (by decide) rfl (fun ls hl => ?_)
  refine lv_iload_n hx hb dX5_isUnderWay_13 rfl (lv_at hl 0 rfl) ?_
  refine lv_iconst (v := 1) hx hb dX5_isUnderWay_14 (by decide) ?_
  refine lv_icmp_eq (tgt := 23) hx hb dX5_isUnderWay_15 (by decide) (fun c_3 => ?_) (fun c_3 => ?_)
  · rw [if_pos c_3] at hF
    refine lv_iconst (v := 1) hx hb dX5_isUnderWay_23 (by decide) ?_
    refine lv_goto (tgt := 28) hx hb dX5_isUnderWay_24 (by decide) ?_
    subst hF
    exact fc_iret hx hb hr rfl hlk hS () rfl hP hD (by decide) (by decide) dX5_isUnderWay_28
  · rw [if_neg c_3] at hF
    refine lv_iload_n hx hb dX5_isUnderWay_18 rfl (lv_at hl 0 rfl) ?_
    refine lv_iconst (v := 2) hx hb dX5_isUnderWay_19 (by decide) ?_
    refine lv_icmp_ne (tgt := 27) hx hb dX5_isUnderWay_20 (by decide) (fun c_4 => ?_) (fun c_4 => ?_)
    · rw [if_neg c_4] at hF
      refine lv_iconst (v := 0) hx hb dX5_isUnderWay_27 (by decide) ?_
      subst hF
      exact fc_iret hx hb hr rfl hlk hS () rfl hP hD (by decide) (by decide) dX5_isUnderWay_28
    · rw [if_pos c_4] at hF
      refine lv_iconst (v := 1) hx hb dX5_isUnderWay_23 (by decide) ?_
      refine lv_goto (tgt := 28) hx hb dX5_isUnderWay_24 (by decide) ?_
      subst hF
      exact fc_iret hx hb hr rfl hlk hS () rfl hP hD (by decide) (by decide) dX5_isUnderWay_28

abbrev rm_X5_priceOf : Room := { frames := 1, cells := 0, slots := 0, locals := 22 }
theorem in_X5_priceOf_X5 : ∀ w ∈ wsX50, w ∈ wsX5_priceOf := by decide +kernel
theorem lk_X5_priceOf_12 : (Cond.fieldLink RX5 12 "TheatreSaga$Theatre" "books" "LTheatreSaga$Books;") ∈ wsX5_priceOf := by decide +kernel
def F_X5_priceOf (f : (Nat → Int32)) (it : Int32) (is : Int32) : Int32 := (letp (F_X6_ofTown (F_X0_get f (F_X6_ofStep it is (1 : Int32))) (1 : Int32)) (fun (p_8 : Int32) => (((F_X6_coinsOf (F_X0_get f (F_X6_ofStep it is (0 : Int32)))) * (F_X0_get f (F_X6_ofStep it is (3 : Int32)))) * (F_X0_get f p_8))))
set_option maxHeartbeats 4000000 in
set_option maxRecDepth 100000 in
theorem c_X5_priceOf {l : Launch} {D : va_G} {k : tyK} (t b r : Nat) (f : (Nat → Int32)) (it : Int32) (is : Int32) : FCi l yX5_priceOf wsX5_priceOf rm_X5_priceOf D k [.ref t, .int it, .int is] [(t, .inr (9, [.ref b])), (b, .inr (4, [.ref r])), (r, .inl (k.1, 628, .inl f))] (fun r (_ : Unit) => r = (F_X5_priceOf f it is)) (fun _ => [(t, .inr (9, [.ref b])), (b, .inr (4, [.ref r])), (r, .inl (k.1, 628, .inl f))]) := by
  refine fc_start (cc := cX5_priceOf) (maxL := 5) (ret := (some .int)) (own := RX5) (Qc := fun A => va_Qi (fun r (_ : Unit) => r = (F_X5_priceOf f it is)) (Bt D (fun _ => [(t, .inr (9, [.ref b])), (b, .inr (4, [.ref r])), (r, .inl (k.1, 628, .inl f))]) A) A) (by decide) rfl rfl (Nat.le_of_ble_eq_true rfl) ?_
  intro p e s m below meth c A H hx hb hml hr hts hown hlk hname hA hP hE hD hS ls hl
  obtain ⟨RES, hF⟩ : ∃ z, (F_X5_priceOf f it is) = z := ⟨_, rfl⟩
  rw [hF]
  unfold F_X5_priceOf at hF
  have hl : lv_has ls 5 [(0, .ref t), (1, .int it), (2, .int is)] := hl
  obtain ⟨locs, hlocs⟩ : ∃ z : List Loc, z = [] := ⟨_, rfl⟩
  rw [← hlocs] at hS ⊢
  refine lv_aload_n hx hb dX5_priceOf_0 rfl (lv_at hl 0 rfl) ?_
  refine va_get (D := D) (ci := 9) (v := .ref b) (C := RX5) (T := TX5) (N := 1) hx hb hts in_X5_priceOf_X5 hown hE.1 hP 0 rfl rfl 0 (by decide) (hts _ lk_X5_priceOf_12) (fun _ h9 => h9) rfl dX5_priceOf_1 ?_
  refine lv_iload_n hx hb dX5_priceOf_4 rfl (lv_at hl 1 rfl) ?_
  refine lv_iload_n hx hb dX5_priceOf_5 rfl (lv_at hl 2 rfl) ?_
  refine lv_iconst (v := 0) hx hb dX5_priceOf_6 (by decide) ?_
  refine fc_ci (isC := []) (cells' := 0) (slots' := 0) (fc_runSN (n := 3) (As := [.int it, .int is, .int (0 : Int32)]) (rest := [.ref b]) (isC := []) (maxL := 3) ⟨hx, hb, hml, hown, hts⟩ (c_X6_ofStep it is (0 : Int32) H.size) gX5_priceOf_X6_ofStep_n33 (by decide +kernel) (by decide +kernel) (by decide +kernel) rfl (by decide +kernel) rfl ⟨Nat.le_of_ble_eq_true rfl, Nat.le_of_ble_eq_true rfl⟩ ⟨Nat.le_of_ble_eq_true rfl, Nat.le_of_ble_eq_true rfl⟩ hE hP hD hS hA rfl rfl hl rfl (Nat.le_of_ble_eq_true rfl) dX5_priceOf_7) hP hD hS hA rfl (fun _ => rfl) rfl rfl (fun r_1 _ H locs hr_1 hP hD hS => ?_)
  obtain rfl : (F_X6_ofStep it is (0 : Int32)) = r_1 := hr_1.symm
  dsimp only [fs, List.set] at hP hD
  have hP : va_P D vwCl [(t, .inr (9, [.ref b])), (b, .inr (4, [.ref r])), (r, .inl (k.1, 628, .inl f))] H := hP
  have hD : va_D A [(t, .inr (9, [.ref b])), (b, .inr (4, [.ref r])), (r, .inl (k.1, 628, .inl f))] := hD
  refine fc_ci (isC := [1, 2]) (cells' := 0) (slots' := 0) (fc_runV (n := 1) (As := [.int (F_X6_ofStep it is (0 : Int32))]) (rest := []) (isC := [1, 2]) (maxL := 2) ⟨hx, hb, hml, hown, hts⟩ (c_X0_get b r f (F_X6_ofStep it is (0 : Int32)) H.size) gX5_priceOf_X0_get rfl (by decide +kernel) rfl ⟨Nat.le_of_ble_eq_true rfl, Nat.le_of_ble_eq_true rfl⟩ ⟨Nat.le_of_ble_eq_true rfl, Nat.le_of_ble_eq_true rfl⟩ hE hP hD hS hA rfl rfl (va_recv hE.1 hP (ci := 4) (q0 := 1) rfl rfl) hl rfl (Nat.le_of_ble_eq_true rfl) dX5_priceOf_10) hP hD hS hA rfl (fun _ => rfl) rfl rfl (fun r_2 _ H locs hr_2 hP hD hS => ?_)
  obtain rfl : (F_X0_get f (F_X6_ofStep it is (0 : Int32))) = r_2 := hr_2.symm
  dsimp only [fs, List.set] at hP hD
  have hP : va_P D vwCl [(t, .inr (9, [.ref b])), (b, .inr (4, [.ref r])), (r, .inl (k.1, 628, .inl f))] H := hP
  have hD : va_D A [(t, .inr (9, [.ref b])), (b, .inr (4, [.ref r])), (r, .inl (k.1, 628, .inl f))] := hD
  refine lv_istore_n (lv' := [(3, .int (F_X0_get f (F_X6_ofStep it is (0 : Int32)))), (0, .ref t), (1, .int it), (2, .int is)]) hx hb dX5_priceOf_13 rfl hl (by decide) rfl (fun ls hl => ?_)
  refine lv_aload_n hx hb dX5_priceOf_14 rfl (lv_at hl 1 rfl) ?_
  refine va_get (D := D) (ci := 9) (v := .ref b) (C := RX5) (T := TX5) (N := 1) hx hb hts in_X5_priceOf_X5 hown hE.1 hP 0 rfl rfl 0 (by decide) (hts _ lk_X5_priceOf_12) (fun _ h9 => h9) rfl dX5_priceOf_15 ?_
  refine lv_iload_n hx hb dX5_priceOf_18 rfl (lv_at hl 2 rfl) ?_
  refine lv_iload_n hx hb dX5_priceOf_19 rfl (lv_at hl 3 rfl) ?_
  refine lv_iconst (v := 1) hx hb dX5_priceOf_20 (by decide) ?_
  refine fc_ci (isC := []) (cells' := 0) (slots' := 0) (fc_runSN (n := 3) (As := [.int it, .int is, .int (1 : Int32)]) (rest := [.ref b]) (isC := []) (maxL := 3) ⟨hx, hb, hml, hown, hts⟩ (c_X6_ofStep it is (1 : Int32) H.size) gX5_priceOf_X6_ofStep_n33 (by decide +kernel) (by decide +kernel) (by decide +kernel) rfl (by decide +kernel) rfl ⟨Nat.le_of_ble_eq_true rfl, Nat.le_of_ble_eq_true rfl⟩ ⟨Nat.le_of_ble_eq_true rfl, Nat.le_of_ble_eq_true rfl⟩ hE hP hD hS hA rfl rfl hl rfl (Nat.le_of_ble_eq_true rfl) dX5_priceOf_21) hP hD hS hA rfl (fun _ => rfl) rfl rfl (fun r_3 _ H locs hr_3 hP hD hS => ?_)
  obtain rfl : (F_X6_ofStep it is (1 : Int32)) = r_3 := hr_3.symm
  dsimp only [fs, List.set] at hP hD
  have hP : va_P D vwCl [(t, .inr (9, [.ref b])), (b, .inr (4, [.ref r])), (r, .inl (k.1, 628, .inl f))] H := hP
  have hD : va_D A [(t, .inr (9, [.ref b])), (b, .inr (4, [.ref r])), (r, .inl (k.1, 628, .inl f))] := hD
  refine fc_ci (isC := [1, 2]) (cells' := 0) (slots' := 0) (fc_runV (n := 1) (As := [.int (F_X6_ofStep it is (1 : Int32))]) (rest := []) (isC := [1, 2]) (maxL := 2) ⟨hx, hb, hml, hown, hts⟩ (c_X0_get b r f (F_X6_ofStep it is (1 : Int32)) H.size) gX5_priceOf_X0_get rfl (by decide +kernel) rfl ⟨Nat.le_of_ble_eq_true rfl, Nat.le_of_ble_eq_true rfl⟩ ⟨Nat.le_of_ble_eq_true rfl, Nat.le_of_ble_eq_true rfl⟩ hE hP hD hS hA rfl rfl (va_recv hE.1 hP (ci := 4) (q0 := 1) rfl rfl) hl rfl (Nat.le_of_ble_eq_true rfl) dX5_priceOf_24) hP hD hS hA rfl (fun _ => rfl) rfl rfl (fun r_4 _ H locs hr_4 hP hD hS => ?_)
  obtain rfl : (F_X0_get f (F_X6_ofStep it is (1 : Int32))) = r_4 := hr_4.symm
  dsimp only [fs, List.set] at hP hD
  have hP : va_P D vwCl [(t, .inr (9, [.ref b])), (b, .inr (4, [.ref r])), (r, .inl (k.1, 628, .inl f))] H := hP
  have hD : va_D A [(t, .inr (9, [.ref b])), (b, .inr (4, [.ref r])), (r, .inl (k.1, 628, .inl f))] := hD
  refine lv_istore (lv' := [(4, .int (F_X0_get f (F_X6_ofStep it is (1 : Int32)))), (3, .int (F_X0_get f (F_X6_ofStep it is (0 : Int32)))), (0, .ref t), (1, .int it), (2, .int is)]) hx hb dX5_priceOf_27 hl (by decide) rfl (fun ls hl => ?_)
  refine lv_iload_n hx hb dX5_priceOf_29 rfl (lv_at hl 1 rfl) ?_
  refine fc_ci (isC := []) (cells' := 0) (slots' := 0) (fc_runSN (n := 1) (As := [.int (F_X0_get f (F_X6_ofStep it is (0 : Int32)))]) (rest := []) (isC := []) (maxL := 1) ⟨hx, hb, hml, hown, hts⟩ (c_X6_coinsOf (F_X0_get f (F_X6_ofStep it is (0 : Int32))) H.size) gX5_priceOf_X6_coinsOf_n91 (by decide +kernel) (by decide +kernel) (by decide +kernel) rfl (by decide +kernel) rfl ⟨Nat.le_of_ble_eq_true rfl, Nat.le_of_ble_eq_true rfl⟩ ⟨Nat.le_of_ble_eq_true rfl, Nat.le_of_ble_eq_true rfl⟩ hE hP hD hS hA rfl rfl hl rfl (Nat.le_of_ble_eq_true rfl) dX5_priceOf_30) hP hD hS hA rfl (fun _ => rfl) rfl rfl (fun r_5 _ H locs hr_5 hP hD hS => ?_)
  obtain rfl : (F_X6_coinsOf (F_X0_get f (F_X6_ofStep it is (0 : Int32)))) = r_5 := hr_5.symm
  dsimp only [fs, List.set] at hP hD
  have hP : va_P D vwCl [(t, .inr (9, [.ref b])), (b, .inr (4, [.ref r])), (r, .inl (k.1, 628, .inl f))] H := hP
  have hD : va_D A [(t, .inr (9, [.ref b])), (b, .inr (4, [.ref r])), (r, .inl (k.1, 628, .inl f))] := hD
  refine lv_aload_n hx hb dX5_priceOf_33 rfl (lv_at hl 2 rfl) ?_
  refine va_get (D := D) (ci := 9) (v := .ref b) (C := RX5) (T := TX5) (N := 1) hx hb hts in_X5_priceOf_X5 hown hE.1 hP 0 rfl rfl 0 (by decide) (hts _ lk_X5_priceOf_12) (fun _ h9 => h9) rfl dX5_priceOf_34 ?_
  refine lv_iload_n hx hb dX5_priceOf_37 rfl (lv_at hl 3 rfl) ?_
  refine lv_iload_n hx hb dX5_priceOf_38 rfl (lv_at hl 4 rfl) ?_
  refine lv_iconst (v := 3) hx hb dX5_priceOf_39 (by decide) ?_
  refine fc_ci (isC := []) (cells' := 0) (slots' := 0) (fc_runSN (n := 3) (As := [.int it, .int is, .int (3 : Int32)]) (rest := [.ref b, .int (F_X6_coinsOf (F_X0_get f (F_X6_ofStep it is (0 : Int32))))]) (isC := []) (maxL := 3) ⟨hx, hb, hml, hown, hts⟩ (c_X6_ofStep it is (3 : Int32) H.size) gX5_priceOf_X6_ofStep_n33 (by decide +kernel) (by decide +kernel) (by decide +kernel) rfl (by decide +kernel) rfl ⟨Nat.le_of_ble_eq_true rfl, Nat.le_of_ble_eq_true rfl⟩ ⟨Nat.le_of_ble_eq_true rfl, Nat.le_of_ble_eq_true rfl⟩ hE hP hD hS hA rfl rfl hl rfl (Nat.le_of_ble_eq_true rfl) dX5_priceOf_40) hP hD hS hA rfl (fun _ => rfl) rfl rfl (fun r_6 _ H locs hr_6 hP hD hS => ?_)
  obtain rfl : (F_X6_ofStep it is (3 : Int32)) = r_6 := hr_6.symm
  dsimp only [fs, List.set] at hP hD
  have hP : va_P D vwCl [(t, .inr (9, [.ref b])), (b, .inr (4, [.ref r])), (r, .inl (k.1, 628, .inl f))] H := hP
  have hD : va_D A [(t, .inr (9, [.ref b])), (b, .inr (4, [.ref r])), (r, .inl (k.1, 628, .inl f))] := hD
  refine fc_ci (isC := [1, 2]) (cells' := 0) (slots' := 0) (fc_runV (n := 1) (As := [.int (F_X6_ofStep it is (3 : Int32))]) (rest := [.int (F_X6_coinsOf (F_X0_get f (F_X6_ofStep it is (0 : Int32))))]) (isC := [1, 2]) (maxL := 2) ⟨hx, hb, hml, hown, hts⟩ (c_X0_get b r f (F_X6_ofStep it is (3 : Int32)) H.size) gX5_priceOf_X0_get rfl (by decide +kernel) rfl ⟨Nat.le_of_ble_eq_true rfl, Nat.le_of_ble_eq_true rfl⟩ ⟨Nat.le_of_ble_eq_true rfl, Nat.le_of_ble_eq_true rfl⟩ hE hP hD hS hA rfl rfl (va_recv hE.1 hP (ci := 4) (q0 := 1) rfl rfl) hl rfl (Nat.le_of_ble_eq_true rfl) dX5_priceOf_43) hP hD hS hA rfl (fun _ => rfl) rfl rfl (fun r_7 _ H locs hr_7 hP hD hS => ?_)
  obtain rfl : (F_X0_get f (F_X6_ofStep it is (3 : Int32))) = r_7 := hr_7.symm
  dsimp only [fs, List.set] at hP hD
  have hP : va_P D vwCl [(t, .inr (9, [.ref b])), (b, .inr (4, [.ref r])), (r, .inl (k.1, 628, .inl f))] H := hP
  have hD : va_D A [(t, .inr (9, [.ref b])), (b, .inr (4, [.ref r])), (r, .inl (k.1, 628, .inl f))] := hD
  refine lv_imul hx hb dX5_priceOf_46 ?_
  refine lv_aload_n hx hb dX5_priceOf_47 rfl (lv_at hl 2 rfl) ?_
  refine va_get (D := D) (ci := 9) (v := .ref b) (C := RX5) (T := TX5) (N := 1) hx hb hts in_X5_priceOf_X5 hown hE.1 hP 0 rfl rfl 0 (by decide) (hts _ lk_X5_priceOf_12) (fun _ h9 => h9) rfl dX5_priceOf_48 ?_
  refine lv_iload hx hb dX5_priceOf_51 (lv_at hl 0 rfl) ?_
  refine lv_iconst (v := 1) hx hb dX5_priceOf_53 (by decide) ?_
  generalize hp_8 : (F_X6_ofTown (F_X0_get f (F_X6_ofStep it is (1 : Int32))) (1 : Int32)) = p_8 at hF
  rw [letp_eq] at hF
  refine fc_ci (isC := []) (cells' := 0) (slots' := 0) (fc_runSN (n := 2) (As := [.int (F_X0_get f (F_X6_ofStep it is (1 : Int32))), .int (1 : Int32)]) (rest := [.ref b, .int ((F_X6_coinsOf (F_X0_get f (F_X6_ofStep it is (0 : Int32)))) * (F_X0_get f (F_X6_ofStep it is (3 : Int32))))]) (isC := []) (maxL := 2) ⟨hx, hb, hml, hown, hts⟩ (c_X6_ofTown (F_X0_get f (F_X6_ofStep it is (1 : Int32))) (1 : Int32) H.size) gX5_priceOf_X6_ofTown_n44 (by decide +kernel) (by decide +kernel) (by decide +kernel) rfl (by decide +kernel) rfl ⟨Nat.le_of_ble_eq_true rfl, Nat.le_of_ble_eq_true rfl⟩ ⟨Nat.le_of_ble_eq_true rfl, Nat.le_of_ble_eq_true rfl⟩ hE hP hD hS hA rfl rfl hl rfl (Nat.le_of_ble_eq_true rfl) dX5_priceOf_54) hP hD hS hA rfl (fun _ => rfl) rfl rfl (fun r_9 _ H locs hr_9 hP hD hS => ?_)
  rw [hp_8] at hr_9
  obtain rfl : p_8 = r_9 := hr_9.symm
  dsimp only [fs, List.set] at hP hD
  have hP : va_P D vwCl [(t, .inr (9, [.ref b])), (b, .inr (4, [.ref r])), (r, .inl (k.1, 628, .inl f))] H := hP
  have hD : va_D A [(t, .inr (9, [.ref b])), (b, .inr (4, [.ref r])), (r, .inl (k.1, 628, .inl f))] := hD
  refine fc_ci (isC := [1, 2]) (cells' := 0) (slots' := 0) (fc_runV (n := 1) (As := [.int p_8]) (rest := [.int ((F_X6_coinsOf (F_X0_get f (F_X6_ofStep it is (0 : Int32)))) * (F_X0_get f (F_X6_ofStep it is (3 : Int32))))]) (isC := [1, 2]) (maxL := 2) ⟨hx, hb, hml, hown, hts⟩ (c_X0_get b r f p_8 H.size) gX5_priceOf_X0_get rfl (by decide +kernel) rfl ⟨Nat.le_of_ble_eq_true rfl, Nat.le_of_ble_eq_true rfl⟩ ⟨Nat.le_of_ble_eq_true rfl, Nat.le_of_ble_eq_true rfl⟩ hE hP hD hS hA rfl rfl (va_recv hE.1 hP (ci := 4) (q0 := 1) rfl rfl) hl rfl (Nat.le_of_ble_eq_true rfl) dX5_priceOf_57) hP hD hS hA rfl (fun _ => rfl) rfl rfl (fun r_10 _ H locs hr_10 hP hD hS => ?_)
  obtain rfl : (F_X0_get f p_8) = r_10 := hr_10.symm
  dsimp only [fs, List.set] at hP hD
  have hP : va_P D vwCl [(t, .inr (9, [.ref b])), (b, .inr (4, [.ref r])), (r, .inl (k.1, 628, .inl f))] H := hP
  have hD : va_D A [(t, .inr (9, [.ref b])), (b, .inr (4, [.ref r])), (r, .inl (k.1, 628, .inl f))] := hD
  refine lv_imul hx hb dX5_priceOf_60 ?_
  subst hF
  exact fc_iret hx hb hr rfl hlk hS () rfl hP hD (by decide) (by decide) dX5_priceOf_61

abbrev rm_X5_nextFault : Room := { frames := 2, cells := 0, slots := 0, locals := 46 }
theorem in_X5_nextFault_X5 : ∀ w ∈ wsX50, w ∈ wsX5_nextFault := by decide +kernel
theorem lk_X5_nextFault_12 : (Cond.fieldLink RX5 12 "TheatreSaga$Theatre" "books" "LTheatreSaga$Books;") ∈ wsX5_nextFault := by decide +kernel
def F_X5_nextFault (f : (Nat → Int32)) (it : Int32) : Int32 := (if (F_X0_get f (F_X6_ofTour it (0 : Int32))) = (1 : Int32) then (letp (F_X6_ofStep it (F_X0_get f (F_X6_ofTour it (3 : Int32))) (0 : Int32)) (fun (p_24 : Int32) => (letp (F_X6_ofStep it (F_X0_get f (F_X6_ofTour it (3 : Int32))) (1 : Int32)) (fun (p_27 : Int32) => (letp (F_X6_ofStep it (F_X0_get f (F_X6_ofTour it (3 : Int32))) (2 : Int32)) (fun (p_30 : Int32) => (if (F_X0_get f (F_X6_ofTown (F_X0_get f p_27) (0 : Int32))) = (0 : Int32) then (1 : Int32) else (letp (F_X6_ofLeft (F_X0_get f p_24) (F_X0_get f p_27) (F_X0_get f p_30)) (fun (p_37 : Int32) => (letp (F_X6_ofStep it (F_X0_get f (F_X6_ofTour it (3 : Int32))) (3 : Int32)) (fun (p_40 : Int32) => (if (F_X0_get f p_40) ≤ (F_X0_get f p_37) then (letp (F_X5_priceOf f it (F_X0_get f (F_X6_ofTour it (3 : Int32)))) (fun (p_46 : Int32) => (if p_46 ≤ (F_X0_get f (7 : Int32)) then (0 : Int32) else (3 : Int32)))) else (2 : Int32))))))))))))) else (letp (F_X6_ofStep it ((F_X0_get f (F_X6_ofTour it (3 : Int32))) - (1 : Int32)) (0 : Int32)) (fun (p_7 : Int32) => (letp (F_X6_ofStep it ((F_X0_get f (F_X6_ofTour it (3 : Int32))) - (1 : Int32)) (1 : Int32)) (fun (p_10 : Int32) => (letp (F_X6_ofStep it ((F_X0_get f (F_X6_ofTour it (3 : Int32))) - (1 : Int32)) (2 : Int32)) (fun (p_13 : Int32) => (if (F_X0_get f (F_X6_ofTown (F_X0_get f p_10) (0 : Int32))) = (0 : Int32) then (1 : Int32) else (0 : Int32)))))))))
set_option maxHeartbeats 4000000 in
set_option maxRecDepth 100000 in
theorem c_X5_nextFault {l : Launch} {D : va_G} {k : tyK} (t b r : Nat) (f : (Nat → Int32)) (it : Int32) : FCi l yX5_nextFault wsX5_nextFault rm_X5_nextFault D k [.ref t, .int it] [(t, .inr (9, [.ref b])), (b, .inr (4, [.ref r])), (r, .inl (k.1, 628, .inl f))] (fun r (_ : Unit) => r = (F_X5_nextFault f it)) (fun _ => [(t, .inr (9, [.ref b])), (b, .inr (4, [.ref r])), (r, .inl (k.1, 628, .inl f))]) := by
  refine fc_start (cc := cX5_nextFault) (maxL := 7) (ret := (some .int)) (own := RX5) (Qc := fun A => va_Qi (fun r (_ : Unit) => r = (F_X5_nextFault f it)) (Bt D (fun _ => [(t, .inr (9, [.ref b])), (b, .inr (4, [.ref r])), (r, .inl (k.1, 628, .inl f))]) A) A) (by decide) rfl rfl (Nat.le_of_ble_eq_true rfl) ?_
  intro p e s m below meth c A H hx hb hml hr hts hown hlk hname hA hP hE hD hS ls hl
  obtain ⟨RES, hF⟩ : ∃ z, (F_X5_nextFault f it) = z := ⟨_, rfl⟩
  rw [hF]
  unfold F_X5_nextFault at hF
  have hl : lv_has ls 7 [(0, .ref t), (1, .int it)] := hl
  obtain ⟨locs, hlocs⟩ : ∃ z : List Loc, z = [] := ⟨_, rfl⟩
  rw [← hlocs] at hS ⊢
  refine lv_aload_n hx hb dX5_nextFault_0 rfl (lv_at hl 0 rfl) ?_
  refine va_get (D := D) (ci := 9) (v := .ref b) (C := RX5) (T := TX5) (N := 1) hx hb hts in_X5_nextFault_X5 hown hE.1 hP 0 rfl rfl 0 (by decide) (hts _ lk_X5_nextFault_12) (fun _ h9 => h9) rfl dX5_nextFault_1 ?_
  refine lv_iload_n hx hb dX5_nextFault_4 rfl (lv_at hl 1 rfl) ?_
  refine lv_iconst (v := 0) hx hb dX5_nextFault_5 (by decide) ?_
  refine fc_ci (isC := []) (cells' := 0) (slots' := 0) (fc_runSN (n := 2) (As := [.int it, .int (0 : Int32)]) (rest := [.ref b]) (isC := []) (maxL := 2) ⟨hx, hb, hml, hown, hts⟩ (c_X6_ofTour it (0 : Int32) H.size) gX5_nextFault_X6_ofTour_n22 (by decide +kernel) (by decide +kernel) (by decide +kernel) rfl (by decide +kernel) rfl ⟨Nat.le_of_ble_eq_true rfl, Nat.le_of_ble_eq_true rfl⟩ ⟨Nat.le_of_ble_eq_true rfl, Nat.le_of_ble_eq_true rfl⟩ hE hP hD hS hA rfl rfl hl rfl (Nat.le_of_ble_eq_true rfl) dX5_nextFault_6) hP hD hS hA rfl (fun _ => rfl) rfl rfl (fun r_1 _ H locs hr_1 hP hD hS => ?_)
  obtain rfl : (F_X6_ofTour it (0 : Int32)) = r_1 := hr_1.symm
  dsimp only [fs, List.set] at hP hD
  have hP : va_P D vwCl [(t, .inr (9, [.ref b])), (b, .inr (4, [.ref r])), (r, .inl (k.1, 628, .inl f))] H := hP
  have hD : va_D A [(t, .inr (9, [.ref b])), (b, .inr (4, [.ref r])), (r, .inl (k.1, 628, .inl f))] := hD
  refine fc_ci (isC := [1, 2]) (cells' := 0) (slots' := 0) (fc_runV (n := 1) (As := [.int (F_X6_ofTour it (0 : Int32))]) (rest := []) (isC := [1, 2]) (maxL := 2) ⟨hx, hb, hml, hown, hts⟩ (c_X0_get b r f (F_X6_ofTour it (0 : Int32)) H.size) gX5_nextFault_X0_get rfl (by decide +kernel) rfl ⟨Nat.le_of_ble_eq_true rfl, Nat.le_of_ble_eq_true rfl⟩ ⟨Nat.le_of_ble_eq_true rfl, Nat.le_of_ble_eq_true rfl⟩ hE hP hD hS hA rfl rfl (va_recv hE.1 hP (ci := 4) (q0 := 1) rfl rfl) hl rfl (Nat.le_of_ble_eq_true rfl) dX5_nextFault_9) hP hD hS hA rfl (fun _ => rfl) rfl rfl (fun r_2 _ H locs hr_2 hP hD hS => ?_)
  obtain rfl : (F_X0_get f (F_X6_ofTour it (0 : Int32))) = r_2 := hr_2.symm
  dsimp only [fs, List.set] at hP hD
  have hP : va_P D vwCl [(t, .inr (9, [.ref b])), (b, .inr (4, [.ref r])), (r, .inl (k.1, 628, .inl f))] H := hP
  have hD : va_D A [(t, .inr (9, [.ref b])), (b, .inr (4, [.ref r])), (r, .inl (k.1, 628, .inl f))] := hD
  refine lv_iconst (v := 1) hx hb dX5_nextFault_12 (by decide) ?_
  refine lv_icmp_ne (tgt := 20) hx hb dX5_nextFault_13 (by decide) (fun c_3 => ?_) (fun c_3 => ?_)
  · rw [if_neg c_3] at hF
    refine lv_iconst (v := 0) hx hb dX5_nextFault_20 (by decide) ?_
    refine lv_istore_n (lv' := [(2, .int (0 : Int32)), (0, .ref t), (1, .int it)]) hx hb dX5_nextFault_21 rfl hl (by decide) rfl (fun ls hl => ?_)
    refine lv_iload_n hx hb dX5_nextFault_22 rfl (lv_at hl 0 rfl) ?_
    refine lv_if_eq (tgt := 41) hx hb dX5_nextFault_23 (by decide) (fun c_4 => ?_) (fun c_4 => absurd c_4 (by decide))
    refine lv_aload_n hx hb dX5_nextFault_41 rfl (lv_at hl 1 rfl) ?_
    refine va_get (D := D) (ci := 9) (v := .ref b) (C := RX5) (T := TX5) (N := 1) hx hb hts in_X5_nextFault_X5 hown hE.1 hP 0 rfl rfl 0 (by decide) (hts _ lk_X5_nextFault_12) (fun _ h9 => h9) rfl dX5_nextFault_42 ?_
    refine lv_iload_n hx hb dX5_nextFault_45 rfl (lv_at hl 2 rfl) ?_
    refine lv_iconst (v := 3) hx hb dX5_nextFault_46 (by decide) ?_
    refine fc_ci (isC := []) (cells' := 0) (slots' := 0) (fc_runSN (n := 2) (As := [.int it, .int (3 : Int32)]) (rest := [.ref b]) (isC := []) (maxL := 2) ⟨hx, hb, hml, hown, hts⟩ (c_X6_ofTour it (3 : Int32) H.size) gX5_nextFault_X6_ofTour_n22 (by decide +kernel) (by decide +kernel) (by decide +kernel) rfl (by decide +kernel) rfl ⟨Nat.le_of_ble_eq_true rfl, Nat.le_of_ble_eq_true rfl⟩ ⟨Nat.le_of_ble_eq_true rfl, Nat.le_of_ble_eq_true rfl⟩ hE hP hD hS hA rfl rfl hl rfl (Nat.le_of_ble_eq_true rfl) dX5_nextFault_47) hP hD hS hA rfl (fun _ => rfl) rfl rfl (fun r_5 _ H locs hr_5 hP hD hS => ?_)
    obtain rfl : (F_X6_ofTour it (3 : Int32)) = r_5 := hr_5.symm
    dsimp only [fs, List.set] at hP hD
    have hP : va_P D vwCl [(t, .inr (9, [.ref b])), (b, .inr (4, [.ref r])), (r, .inl (k.1, 628, .inl f))] H := hP
    have hD : va_D A [(t, .inr (9, [.ref b])), (b, .inr (4, [.ref r])), (r, .inl (k.1, 628, .inl f))] := hD
    refine fc_ci (isC := [1, 2]) (cells' := 0) (slots' := 0) (fc_runV (n := 1) (As := [.int (F_X6_ofTour it (3 : Int32))]) (rest := []) (isC := [1, 2]) (maxL := 2) ⟨hx, hb, hml, hown, hts⟩ (c_X0_get b r f (F_X6_ofTour it (3 : Int32)) H.size) gX5_nextFault_X0_get rfl (by decide +kernel) rfl ⟨Nat.le_of_ble_eq_true rfl, Nat.le_of_ble_eq_true rfl⟩ ⟨Nat.le_of_ble_eq_true rfl, Nat.le_of_ble_eq_true rfl⟩ hE hP hD hS hA rfl rfl (va_recv hE.1 hP (ci := 4) (q0 := 1) rfl rfl) hl rfl (Nat.le_of_ble_eq_true rfl) dX5_nextFault_50) hP hD hS hA rfl (fun _ => rfl) rfl rfl (fun r_6 _ H locs hr_6 hP hD hS => ?_)
    obtain rfl : (F_X0_get f (F_X6_ofTour it (3 : Int32))) = r_6 := hr_6.symm
    dsimp only [fs, List.set] at hP hD
    have hP : va_P D vwCl [(t, .inr (9, [.ref b])), (b, .inr (4, [.ref r])), (r, .inl (k.1, 628, .inl f))] H := hP
    have hD : va_D A [(t, .inr (9, [.ref b])), (b, .inr (4, [.ref r])), (r, .inl (k.1, 628, .inl f))] := hD
    refine lv_iconst (v := 1) hx hb dX5_nextFault_53 (by decide) ?_
    refine lv_isub hx hb dX5_nextFault_54 ?_
    refine lv_istore_n (lv' := [(3, .int ((F_X0_get f (F_X6_ofTour it (3 : Int32))) - (1 : Int32))), (2, .int (0 : Int32)), (0, .ref t), (1, .int it)]) hx hb dX5_nextFault_55 rfl hl (by decide) rfl (fun ls hl => ?_)
    refine lv_aload_n hx hb dX5_nextFault_56 rfl (lv_at hl 2 rfl) ?_
    refine va_get (D := D) (ci := 9) (v := .ref b) (C := RX5) (T := TX5) (N := 1) hx hb hts in_X5_nextFault_X5 hown hE.1 hP 0 rfl rfl 0 (by decide) (hts _ lk_X5_nextFault_12) (fun _ h9 => h9) rfl dX5_nextFault_57 ?_
    refine lv_iload_n hx hb dX5_nextFault_60 rfl (lv_at hl 3 rfl) ?_
    refine lv_iload_n hx hb dX5_nextFault_61 rfl (lv_at hl 0 rfl) ?_
    refine lv_iconst (v := 0) hx hb dX5_nextFault_62 (by decide) ?_
    generalize hp_7 : (F_X6_ofStep it ((F_X0_get f (F_X6_ofTour it (3 : Int32))) - (1 : Int32)) (0 : Int32)) = p_7 at hF
    rw [letp_eq] at hF
    refine fc_ci (isC := []) (cells' := 0) (slots' := 0) (fc_runSN (n := 3) (As := [.int it, .int ((F_X0_get f (F_X6_ofTour it (3 : Int32))) - (1 : Int32)), .int (0 : Int32)]) (rest := [.ref b]) (isC := []) (maxL := 3) ⟨hx, hb, hml, hown, hts⟩ (c_X6_ofStep it ((F_X0_get f (F_X6_ofTour it (3 : Int32))) - (1 : Int32)) (0 : Int32) H.size) gX5_nextFault_X6_ofStep_n33 (by decide +kernel) (by decide +kernel) (by decide +kernel) rfl (by decide +kernel) rfl ⟨Nat.le_of_ble_eq_true rfl, Nat.le_of_ble_eq_true rfl⟩ ⟨Nat.le_of_ble_eq_true rfl, Nat.le_of_ble_eq_true rfl⟩ hE hP hD hS hA rfl rfl hl rfl (Nat.le_of_ble_eq_true rfl) dX5_nextFault_63) hP hD hS hA rfl (fun _ => rfl) rfl rfl (fun r_8 _ H locs hr_8 hP hD hS => ?_)
    rw [hp_7] at hr_8
    obtain rfl : p_7 = r_8 := hr_8.symm
    dsimp only [fs, List.set] at hP hD
    have hP : va_P D vwCl [(t, .inr (9, [.ref b])), (b, .inr (4, [.ref r])), (r, .inl (k.1, 628, .inl f))] H := hP
    have hD : va_D A [(t, .inr (9, [.ref b])), (b, .inr (4, [.ref r])), (r, .inl (k.1, 628, .inl f))] := hD
    refine fc_ci (isC := [1, 2]) (cells' := 0) (slots' := 0) (fc_runV (n := 1) (As := [.int p_7]) (rest := []) (isC := [1, 2]) (maxL := 2) ⟨hx, hb, hml, hown, hts⟩ (c_X0_get b r f p_7 H.size) gX5_nextFault_X0_get rfl (by decide +kernel) rfl ⟨Nat.le_of_ble_eq_true rfl, Nat.le_of_ble_eq_true rfl⟩ ⟨Nat.le_of_ble_eq_true rfl, Nat.le_of_ble_eq_true rfl⟩ hE hP hD hS hA rfl rfl (va_recv hE.1 hP (ci := 4) (q0 := 1) rfl rfl) hl rfl (Nat.le_of_ble_eq_true rfl) dX5_nextFault_66) hP hD hS hA rfl (fun _ => rfl) rfl rfl (fun r_9 _ H locs hr_9 hP hD hS => ?_)
    obtain rfl : (F_X0_get f p_7) = r_9 := hr_9.symm
    dsimp only [fs, List.set] at hP hD
    have hP : va_P D vwCl [(t, .inr (9, [.ref b])), (b, .inr (4, [.ref r])), (r, .inl (k.1, 628, .inl f))] H := hP
    have hD : va_D A [(t, .inr (9, [.ref b])), (b, .inr (4, [.ref r])), (r, .inl (k.1, 628, .inl f))] := hD
    refine lv_istore (lv' := [(4, .int (F_X0_get f p_7)), (3, .int ((F_X0_get f (F_X6_ofTour it (3 : Int32))) - (1 : Int32))), (2, .int (0 : Int32)), (0, .ref t), (1, .int it)]) hx hb dX5_nextFault_69 hl (by decide) rfl (fun ls hl => ?_)
    refine lv_aload_n hx hb dX5_nextFault_71 rfl (lv_at hl 3 rfl) ?_
    refine va_get (D := D) (ci := 9) (v := .ref b) (C := RX5) (T := TX5) (N := 1) hx hb hts in_X5_nextFault_X5 hown hE.1 hP 0 rfl rfl 0 (by decide) (hts _ lk_X5_nextFault_12) (fun _ h9 => h9) rfl dX5_nextFault_72 ?_
    refine lv_iload_n hx hb dX5_nextFault_75 rfl (lv_at hl 4 rfl) ?_
    refine lv_iload_n hx hb dX5_nextFault_76 rfl (lv_at hl 1 rfl) ?_
    refine lv_iconst (v := 1) hx hb dX5_nextFault_77 (by decide) ?_
    generalize hp_10 : (F_X6_ofStep it ((F_X0_get f (F_X6_ofTour it (3 : Int32))) - (1 : Int32)) (1 : Int32)) = p_10 at hF
    rw [letp_eq] at hF
    refine fc_ci (isC := []) (cells' := 0) (slots' := 0) (fc_runSN (n := 3) (As := [.int it, .int ((F_X0_get f (F_X6_ofTour it (3 : Int32))) - (1 : Int32)), .int (1 : Int32)]) (rest := [.ref b]) (isC := []) (maxL := 3) ⟨hx, hb, hml, hown, hts⟩ (c_X6_ofStep it ((F_X0_get f (F_X6_ofTour it (3 : Int32))) - (1 : Int32)) (1 : Int32) H.size) gX5_nextFault_X6_ofStep_n33 (by decide +kernel) (by decide +kernel) (by decide +kernel) rfl (by decide +kernel) rfl ⟨Nat.le_of_ble_eq_true rfl, Nat.le_of_ble_eq_true rfl⟩ ⟨Nat.le_of_ble_eq_true rfl, Nat.le_of_ble_eq_true rfl⟩ hE hP hD hS hA rfl rfl hl rfl (Nat.le_of_ble_eq_true rfl) dX5_nextFault_78) hP hD hS hA rfl (fun _ => rfl) rfl rfl (fun r_11 _ H locs hr_11 hP hD hS => ?_)
    rw [hp_10] at hr_11
    obtain rfl : p_10 = r_11 := hr_11.symm
    dsimp only [fs, List.set] at hP hD
    have hP : va_P D vwCl [(t, .inr (9, [.ref b])), (b, .inr (4, [.ref r])), (r, .inl (k.1, 628, .inl f))] H := hP
    have hD : va_D A [(t, .inr (9, [.ref b])), (b, .inr (4, [.ref r])), (r, .inl (k.1, 628, .inl f))] := hD
    refine fc_ci (isC := [1, 2]) (cells' := 0) (slots' := 0) (fc_runV (n := 1) (As := [.int p_10]) (rest := []) (isC := [1, 2]) (maxL := 2) ⟨hx, hb, hml, hown, hts⟩ (c_X0_get b r f p_10 H.size) gX5_nextFault_X0_get rfl (by decide +kernel) rfl ⟨Nat.le_of_ble_eq_true rfl, Nat.le_of_ble_eq_true rfl⟩ ⟨Nat.le_of_ble_eq_true rfl, Nat.le_of_ble_eq_true rfl⟩ hE hP hD hS hA rfl rfl (va_recv hE.1 hP (ci := 4) (q0 := 1) rfl rfl) hl rfl (Nat.le_of_ble_eq_true rfl) dX5_nextFault_81) hP hD hS hA rfl (fun _ => rfl) rfl rfl (fun r_12 _ H locs hr_12 hP hD hS => ?_)
    obtain rfl : (F_X0_get f p_10) = r_12 := hr_12.symm
    dsimp only [fs, List.set] at hP hD
    have hP : va_P D vwCl [(t, .inr (9, [.ref b])), (b, .inr (4, [.ref r])), (r, .inl (k.1, 628, .inl f))] H := hP
    have hD : va_D A [(t, .inr (9, [.ref b])), (b, .inr (4, [.ref r])), (r, .inl (k.1, 628, .inl f))] := hD
    refine lv_istore (lv' := [(5, .int (F_X0_get f p_10)), (4, .int (F_X0_get f p_7)), (3, .int ((F_X0_get f (F_X6_ofTour it (3 : Int32))) - (1 : Int32))), (2, .int (0 : Int32)), (0, .ref t), (1, .int it)]) hx hb dX5_nextFault_84 hl (by decide) rfl (fun ls hl => ?_)
    refine lv_aload_n hx hb dX5_nextFault_86 rfl (lv_at hl 4 rfl) ?_
    refine va_get (D := D) (ci := 9) (v := .ref b) (C := RX5) (T := TX5) (N := 1) hx hb hts in_X5_nextFault_X5 hown hE.1 hP 0 rfl rfl 0 (by decide) (hts _ lk_X5_nextFault_12) (fun _ h9 => h9) rfl dX5_nextFault_87 ?_
    refine lv_iload_n hx hb dX5_nextFault_90 rfl (lv_at hl 5 rfl) ?_
    refine lv_iload_n hx hb dX5_nextFault_91 rfl (lv_at hl 2 rfl) ?_
    refine lv_iconst (v := 2) hx hb dX5_nextFault_92 (by decide) ?_
    generalize hp_13 : (F_X6_ofStep it ((F_X0_get f (F_X6_ofTour it (3 : Int32))) - (1 : Int32)) (2 : Int32)) = p_13 at hF
    rw [letp_eq] at hF
    refine fc_ci (isC := []) (cells' := 0) (slots' := 0) (fc_runSN (n := 3) (As := [.int it, .int ((F_X0_get f (F_X6_ofTour it (3 : Int32))) - (1 : Int32)), .int (2 : Int32)]) (rest := [.ref b]) (isC := []) (maxL := 3) ⟨hx, hb, hml, hown, hts⟩ (c_X6_ofStep it ((F_X0_get f (F_X6_ofTour it (3 : Int32))) - (1 : Int32)) (2 : Int32) H.size) gX5_nextFault_X6_ofStep_n33 (by decide +kernel) (by decide +kernel) (by decide +kernel) rfl (by decide +kernel) rfl ⟨Nat.le_of_ble_eq_true rfl, Nat.le_of_ble_eq_true rfl⟩ ⟨Nat.le_of_ble_eq_true rfl, Nat.le_of_ble_eq_true rfl⟩ hE hP hD hS hA rfl rfl hl rfl (Nat.le_of_ble_eq_true rfl) dX5_nextFault_93) hP hD hS hA rfl (fun _ => rfl) rfl rfl (fun r_14 _ H locs hr_14 hP hD hS => ?_)
    rw [hp_13] at hr_14
    obtain rfl : p_13 = r_14 := hr_14.symm
    dsimp only [fs, List.set] at hP hD
    have hP : va_P D vwCl [(t, .inr (9, [.ref b])), (b, .inr (4, [.ref r])), (r, .inl (k.1, 628, .inl f))] H := hP
    have hD : va_D A [(t, .inr (9, [.ref b])), (b, .inr (4, [.ref r])), (r, .inl (k.1, 628, .inl f))] := hD
    refine fc_ci (isC := [1, 2]) (cells' := 0) (slots' := 0) (fc_runV (n := 1) (As := [.int p_13]) (rest := []) (isC := [1, 2]) (maxL := 2) ⟨hx, hb, hml, hown, hts⟩ (c_X0_get b r f p_13 H.size) gX5_nextFault_X0_get rfl (by decide +kernel) rfl ⟨Nat.le_of_ble_eq_true rfl, Nat.le_of_ble_eq_true rfl⟩ ⟨Nat.le_of_ble_eq_true rfl, Nat.le_of_ble_eq_true rfl⟩ hE hP hD hS hA rfl rfl (va_recv hE.1 hP (ci := 4) (q0 := 1) rfl rfl) hl rfl (Nat.le_of_ble_eq_true rfl) dX5_nextFault_96) hP hD hS hA rfl (fun _ => rfl) rfl rfl (fun r_15 _ H locs hr_15 hP hD hS => ?_)
    obtain rfl : (F_X0_get f p_13) = r_15 := hr_15.symm
    dsimp only [fs, List.set] at hP hD
    have hP : va_P D vwCl [(t, .inr (9, [.ref b])), (b, .inr (4, [.ref r])), (r, .inl (k.1, 628, .inl f))] H := hP
    have hD : va_D A [(t, .inr (9, [.ref b])), (b, .inr (4, [.ref r])), (r, .inl (k.1, 628, .inl f))] := hD
    refine lv_istore (lv' := [(6, .int (F_X0_get f p_13)), (5, .int (F_X0_get f p_10)), (4, .int (F_X0_get f p_7)), (3, .int ((F_X0_get f (F_X6_ofTour it (3 : Int32))) - (1 : Int32))), (2, .int (0 : Int32)), (0, .ref t), (1, .int it)]) hx hb dX5_nextFault_99 hl (by decide) rfl (fun ls hl => ?_)
    refine lv_aload_n hx hb dX5_nextFault_101 rfl (lv_at hl 5 rfl) ?_
    refine va_get (D := D) (ci := 9) (v := .ref b) (C := RX5) (T := TX5) (N := 1) hx hb hts in_X5_nextFault_X5 hown hE.1 hP 0 rfl rfl 0 (by decide) (hts _ lk_X5_nextFault_12) (fun _ h9 => h9) rfl dX5_nextFault_102 ?_
    refine lv_iload hx hb dX5_nextFault_105 (lv_at hl 1 rfl) ?_
    refine lv_iconst (v := 0) hx hb dX5_nextFault_107 (by decide) ?_
    refine fc_ci (isC := []) (cells' := 0) (slots' := 0) (fc_runSN (n := 2) (As := [.int (F_X0_get f p_10), .int (0 : Int32)]) (rest := [.ref b]) (isC := []) (maxL := 2) ⟨hx, hb, hml, hown, hts⟩ (c_X6_ofTown (F_X0_get f p_10) (0 : Int32) H.size) gX5_nextFault_X6_ofTown_n44 (by decide +kernel) (by decide +kernel) (by decide +kernel) rfl (by decide +kernel) rfl ⟨Nat.le_of_ble_eq_true rfl, Nat.le_of_ble_eq_true rfl⟩ ⟨Nat.le_of_ble_eq_true rfl, Nat.le_of_ble_eq_true rfl⟩ hE hP hD hS hA rfl rfl hl rfl (Nat.le_of_ble_eq_true rfl) dX5_nextFault_108) hP hD hS hA rfl (fun _ => rfl) rfl rfl (fun r_16 _ H locs hr_16 hP hD hS => ?_)
    obtain rfl : (F_X6_ofTown (F_X0_get f p_10) (0 : Int32)) = r_16 := hr_16.symm
    dsimp only [fs, List.set] at hP hD
    have hP : va_P D vwCl [(t, .inr (9, [.ref b])), (b, .inr (4, [.ref r])), (r, .inl (k.1, 628, .inl f))] H := hP
    have hD : va_D A [(t, .inr (9, [.ref b])), (b, .inr (4, [.ref r])), (r, .inl (k.1, 628, .inl f))] := hD
    refine fc_ci (isC := [1, 2]) (cells' := 0) (slots' := 0) (fc_runV (n := 1) (As := [.int (F_X6_ofTown (F_X0_get f p_10) (0 : Int32))]) (rest := []) (isC := [1, 2]) (maxL := 2) ⟨hx, hb, hml, hown, hts⟩ (c_X0_get b r f (F_X6_ofTown (F_X0_get f p_10) (0 : Int32)) H.size) gX5_nextFault_X0_get rfl (by decide +kernel) rfl ⟨Nat.le_of_ble_eq_true rfl, Nat.le_of_ble_eq_true rfl⟩ ⟨Nat.le_of_ble_eq_true rfl, Nat.le_of_ble_eq_true rfl⟩ hE hP hD hS hA rfl rfl (va_recv hE.1 hP (ci := 4) (q0 := 1) rfl rfl) hl rfl (Nat.le_of_ble_eq_true rfl) dX5_nextFault_111) hP hD hS hA rfl (fun _ => rfl) rfl rfl (fun r_17 _ H locs hr_17 hP hD hS => ?_)
    obtain rfl : (F_X0_get f (F_X6_ofTown (F_X0_get f p_10) (0 : Int32))) = r_17 := hr_17.symm
    dsimp only [fs, List.set] at hP hD
    have hP : va_P D vwCl [(t, .inr (9, [.ref b])), (b, .inr (4, [.ref r])), (r, .inl (k.1, 628, .inl f))] H := hP
    have hD : va_D A [(t, .inr (9, [.ref b])), (b, .inr (4, [.ref r])), (r, .inl (k.1, 628, .inl f))] := hD
    refine lv_if_ne (tgt := 119) hx hb dX5_nextFault_114 (by decide) (fun c_18 => ?_) (fun c_18 => ?_)
    · rw [if_neg c_18] at hF
      refine lv_iload_n hx hb dX5_nextFault_119 rfl (lv_at hl 4 rfl) ?_
      refine lv_if_eq (tgt := 157) hx hb dX5_nextFault_120 (by decide) (fun c_19 => ?_) (fun c_19 => absurd c_19 (by decide))
      refine lv_iload_n hx hb dX5_nextFault_157 rfl (lv_at hl 4 rfl) ?_
      refine lv_if_eq (tgt := 181) hx hb dX5_nextFault_158 (by decide) (fun c_20 => ?_) (fun c_20 => absurd c_20 (by decide))
      refine lv_iconst (v := 0) hx hb dX5_nextFault_181 (by decide) ?_
      subst hF
      exact fc_iret hx hb hr rfl hlk hS () rfl hP hD (by decide) (by decide) dX5_nextFault_182
    · rw [if_pos c_18] at hF
      refine lv_iconst (v := 1) hx hb dX5_nextFault_117 (by decide) ?_
      subst hF
      exact fc_iret hx hb hr rfl hlk hS () rfl hP hD (by decide) (by decide) dX5_nextFault_118
  · rw [if_pos c_3] at hF
    refine lv_iconst (v := 1) hx hb dX5_nextFault_16 (by decide) ?_
    refine lv_goto (tgt := 21) hx hb dX5_nextFault_17 (by decide) ?_
    refine lv_istore_n (lv' := [(2, .int (1 : Int32)), (0, .ref t), (1, .int it)]) hx hb dX5_nextFault_21 rfl hl (by decide) rfl (fun ls hl => ?_)
    refine lv_iload_n hx hb dX5_nextFault_22 rfl (lv_at hl 0 rfl) ?_
    refine lv_if_eq (tgt := 41) hx hb dX5_nextFault_23 (by decide) (fun c_21 => absurd c_21 (by decide)) (fun c_21 => ?_)
    refine lv_aload_n hx hb dX5_nextFault_26 rfl (lv_at hl 1 rfl) ?_
    refine va_get (D := D) (ci := 9) (v := .ref b) (C := RX5) (T := TX5) (N := 1) hx hb hts in_X5_nextFault_X5 hown hE.1 hP 0 rfl rfl 0 (by decide) (hts _ lk_X5_nextFault_12) (fun _ h9 => h9) rfl dX5_nextFault_27 ?_
    refine lv_iload_n hx hb dX5_nextFault_30 rfl (lv_at hl 2 rfl) ?_
    refine lv_iconst (v := 3) hx hb dX5_nextFault_31 (by decide) ?_
    refine fc_ci (isC := []) (cells' := 0) (slots' := 0) (fc_runSN (n := 2) (As := [.int it, .int (3 : Int32)]) (rest := [.ref b]) (isC := []) (maxL := 2) ⟨hx, hb, hml, hown, hts⟩ (c_X6_ofTour it (3 : Int32) H.size) gX5_nextFault_X6_ofTour_n22 (by decide +kernel) (by decide +kernel) (by decide +kernel) rfl (by decide +kernel) rfl ⟨Nat.le_of_ble_eq_true rfl, Nat.le_of_ble_eq_true rfl⟩ ⟨Nat.le_of_ble_eq_true rfl, Nat.le_of_ble_eq_true rfl⟩ hE hP hD hS hA rfl rfl hl rfl (Nat.le_of_ble_eq_true rfl) dX5_nextFault_32) hP hD hS hA rfl (fun _ => rfl) rfl rfl (fun r_22 _ H locs hr_22 hP hD hS => ?_)
    obtain rfl : (F_X6_ofTour it (3 : Int32)) = r_22 := hr_22.symm
    dsimp only [fs, List.set] at hP hD
    have hP : va_P D vwCl [(t, .inr (9, [.ref b])), (b, .inr (4, [.ref r])), (r, .inl (k.1, 628, .inl f))] H := hP
    have hD : va_D A [(t, .inr (9, [.ref b])), (b, .inr (4, [.ref r])), (r, .inl (k.1, 628, .inl f))] := hD
    refine fc_ci (isC := [1, 2]) (cells' := 0) (slots' := 0) (fc_runV (n := 1) (As := [.int (F_X6_ofTour it (3 : Int32))]) (rest := []) (isC := [1, 2]) (maxL := 2) ⟨hx, hb, hml, hown, hts⟩ (c_X0_get b r f (F_X6_ofTour it (3 : Int32)) H.size) gX5_nextFault_X0_get rfl (by decide +kernel) rfl ⟨Nat.le_of_ble_eq_true rfl, Nat.le_of_ble_eq_true rfl⟩ ⟨Nat.le_of_ble_eq_true rfl, Nat.le_of_ble_eq_true rfl⟩ hE hP hD hS hA rfl rfl (va_recv hE.1 hP (ci := 4) (q0 := 1) rfl rfl) hl rfl (Nat.le_of_ble_eq_true rfl) dX5_nextFault_35) hP hD hS hA rfl (fun _ => rfl) rfl rfl (fun r_23 _ H locs hr_23 hP hD hS => ?_)
    obtain rfl : (F_X0_get f (F_X6_ofTour it (3 : Int32))) = r_23 := hr_23.symm
    dsimp only [fs, List.set] at hP hD
    have hP : va_P D vwCl [(t, .inr (9, [.ref b])), (b, .inr (4, [.ref r])), (r, .inl (k.1, 628, .inl f))] H := hP
    have hD : va_D A [(t, .inr (9, [.ref b])), (b, .inr (4, [.ref r])), (r, .inl (k.1, 628, .inl f))] := hD
    refine lv_goto (tgt := 55) hx hb dX5_nextFault_38 (by decide) ?_
    refine lv_istore_n (lv' := [(3, .int (F_X0_get f (F_X6_ofTour it (3 : Int32)))), (2, .int (1 : Int32)), (0, .ref t), (1, .int it)]) hx hb dX5_nextFault_55 rfl hl (by decide) rfl (fun ls hl => ?_)
    refine lv_aload_n hx hb dX5_nextFault_56 rfl (lv_at hl 2 rfl) ?_
    refine va_get (D := D) (ci := 9) (v := .ref b) (C := RX5) (T := TX5) (N := 1) hx hb hts in_X5_nextFault_X5 hown hE.1 hP 0 rfl rfl 0 (by decide) (hts _ lk_X5_nextFault_12) (fun _ h9 => h9) rfl dX5_nextFault_57 ?_
    refine lv_iload_n hx hb dX5_nextFault_60 rfl (lv_at hl 3 rfl) ?_
    refine lv_iload_n hx hb dX5_nextFault_61 rfl (lv_at hl 0 rfl) ?_
    refine lv_iconst (v := 0) hx hb dX5_nextFault_62 (by decide) ?_
    generalize hp_24 : (F_X6_ofStep it (F_X0_get f (F_X6_ofTour it (3 : Int32))) (0 : Int32)) = p_24 at hF
    rw [letp_eq] at hF
    refine fc_ci (isC := []) (cells' := 0) (slots' := 0) (fc_runSN (n := 3) (As := [.int it, .int (F_X0_get f (F_X6_ofTour it (3 : Int32))), .int (0 : Int32)]) (rest := [.ref b]) (isC := []) (maxL := 3) ⟨hx, hb, hml, hown, hts⟩ (c_X6_ofStep it (F_X0_get f (F_X6_ofTour it (3 : Int32))) (0 : Int32) H.size) gX5_nextFault_X6_ofStep_n33 (by decide +kernel) (by decide +kernel) (by decide +kernel) rfl (by decide +kernel) rfl ⟨Nat.le_of_ble_eq_true rfl, Nat.le_of_ble_eq_true rfl⟩ ⟨Nat.le_of_ble_eq_true rfl, Nat.le_of_ble_eq_true rfl⟩ hE hP hD hS hA rfl rfl hl rfl (Nat.le_of_ble_eq_true rfl) dX5_nextFault_63) hP hD hS hA rfl (fun _ => rfl) rfl rfl (fun r_25 _ H locs hr_25 hP hD hS => ?_)
    rw [hp_24] at hr_25
    obtain rfl : p_24 = r_25 := hr_25.symm
    dsimp only [fs, List.set] at hP hD
    have hP : va_P D vwCl [(t, .inr (9, [.ref b])), (b, .inr (4, [.ref r])), (r, .inl (k.1, 628, .inl f))] H := hP
    have hD : va_D A [(t, .inr (9, [.ref b])), (b, .inr (4, [.ref r])), (r, .inl (k.1, 628, .inl f))] := hD
    refine fc_ci (isC := [1, 2]) (cells' := 0) (slots' := 0) (fc_runV (n := 1) (As := [.int p_24]) (rest := []) (isC := [1, 2]) (maxL := 2) ⟨hx, hb, hml, hown, hts⟩ (c_X0_get b r f p_24 H.size) gX5_nextFault_X0_get rfl (by decide +kernel) rfl ⟨Nat.le_of_ble_eq_true rfl, Nat.le_of_ble_eq_true rfl⟩ ⟨Nat.le_of_ble_eq_true rfl, Nat.le_of_ble_eq_true rfl⟩ hE hP hD hS hA rfl rfl (va_recv hE.1 hP (ci := 4) (q0 := 1) rfl rfl) hl rfl (Nat.le_of_ble_eq_true rfl) dX5_nextFault_66) hP hD hS hA rfl (fun _ => rfl) rfl rfl (fun r_26 _ H locs hr_26 hP hD hS => ?_)
    obtain rfl : (F_X0_get f p_24) = r_26 := hr_26.symm
    dsimp only [fs, List.set] at hP hD
    have hP : va_P D vwCl [(t, .inr (9, [.ref b])), (b, .inr (4, [.ref r])), (r, .inl (k.1, 628, .inl f))] H := hP
    have hD : va_D A [(t, .inr (9, [.ref b])), (b, .inr (4, [.ref r])), (r, .inl (k.1, 628, .inl f))] := hD
    refine lv_istore (lv' := [(4, .int (F_X0_get f p_24)), (3, .int (F_X0_get f (F_X6_ofTour it (3 : Int32)))), (2, .int (1 : Int32)), (0, .ref t), (1, .int it)]) hx hb dX5_nextFault_69 hl (by decide) rfl (fun ls hl => ?_)
    refine lv_aload_n hx hb dX5_nextFault_71 rfl (lv_at hl 3 rfl) ?_
    refine va_get (D := D) (ci := 9) (v := .ref b) (C := RX5) (T := TX5) (N := 1) hx hb hts in_X5_nextFault_X5 hown hE.1 hP 0 rfl rfl 0 (by decide) (hts _ lk_X5_nextFault_12) (fun _ h9 => h9) rfl dX5_nextFault_72 ?_
    refine lv_iload_n hx hb dX5_nextFault_75 rfl (lv_at hl 4 rfl) ?_
    refine lv_iload_n hx hb dX5_nextFault_76 rfl (lv_at hl 1 rfl) ?_
    refine lv_iconst (v := 1) hx hb dX5_nextFault_77 (by decide) ?_
    generalize hp_27 : (F_X6_ofStep it (F_X0_get f (F_X6_ofTour it (3 : Int32))) (1 : Int32)) = p_27 at hF
    rw [letp_eq] at hF
    refine fc_ci (isC := []) (cells' := 0) (slots' := 0) (fc_runSN (n := 3) (As := [.int it, .int (F_X0_get f (F_X6_ofTour it (3 : Int32))), .int (1 : Int32)]) (rest := [.ref b]) (isC := []) (maxL := 3) ⟨hx, hb, hml, hown, hts⟩ (c_X6_ofStep it (F_X0_get f (F_X6_ofTour it (3 : Int32))) (1 : Int32) H.size) gX5_nextFault_X6_ofStep_n33 (by decide +kernel) (by decide +kernel) (by decide +kernel) rfl (by decide +kernel) rfl ⟨Nat.le_of_ble_eq_true rfl, Nat.le_of_ble_eq_true rfl⟩ ⟨Nat.le_of_ble_eq_true rfl, Nat.le_of_ble_eq_true rfl⟩ hE hP hD hS hA rfl rfl hl rfl (Nat.le_of_ble_eq_true rfl) dX5_nextFault_78) hP hD hS hA rfl (fun _ => rfl) rfl rfl (fun r_28 _ H locs hr_28 hP hD hS => ?_)
    rw [hp_27] at hr_28
    obtain rfl : p_27 = r_28 := hr_28.symm
    dsimp only [fs, List.set] at hP hD
    have hP : va_P D vwCl [(t, .inr (9, [.ref b])), (b, .inr (4, [.ref r])), (r, .inl (k.1, 628, .inl f))] H := hP
    have hD : va_D A [(t, .inr (9, [.ref b])), (b, .inr (4, [.ref r])), (r, .inl (k.1, 628, .inl f))] := hD
    refine fc_ci (isC := [1, 2]) (cells' := 0) (slots' := 0) (fc_runV (n := 1) (As := [.int p_27]) (rest := []) (isC := [1, 2]) (maxL := 2) ⟨hx, hb, hml, hown, hts⟩ (c_X0_get b r f p_27 H.size) gX5_nextFault_X0_get rfl (by decide +kernel) rfl ⟨Nat.le_of_ble_eq_true rfl, Nat.le_of_ble_eq_true rfl⟩ ⟨Nat.le_of_ble_eq_true rfl, Nat.le_of_ble_eq_true rfl⟩ hE hP hD hS hA rfl rfl (va_recv hE.1 hP (ci := 4) (q0 := 1) rfl rfl) hl rfl (Nat.le_of_ble_eq_true rfl) dX5_nextFault_81) hP hD hS hA rfl (fun _ => rfl) rfl rfl (fun r_29 _ H locs hr_29 hP hD hS => ?_)
    obtain rfl : (F_X0_get f p_27) = r_29 := hr_29.symm
    dsimp only [fs, List.set] at hP hD
    have hP : va_P D vwCl [(t, .inr (9, [.ref b])), (b, .inr (4, [.ref r])), (r, .inl (k.1, 628, .inl f))] H := hP
    have hD : va_D A [(t, .inr (9, [.ref b])), (b, .inr (4, [.ref r])), (r, .inl (k.1, 628, .inl f))] := hD
    refine lv_istore (lv' := [(5, .int (F_X0_get f p_27)), (4, .int (F_X0_get f p_24)), (3, .int (F_X0_get f (F_X6_ofTour it (3 : Int32)))), (2, .int (1 : Int32)), (0, .ref t), (1, .int it)]) hx hb dX5_nextFault_84 hl (by decide) rfl (fun ls hl => ?_)
    refine lv_aload_n hx hb dX5_nextFault_86 rfl (lv_at hl 4 rfl) ?_
    refine va_get (D := D) (ci := 9) (v := .ref b) (C := RX5) (T := TX5) (N := 1) hx hb hts in_X5_nextFault_X5 hown hE.1 hP 0 rfl rfl 0 (by decide) (hts _ lk_X5_nextFault_12) (fun _ h9 => h9) rfl dX5_nextFault_87 ?_
    refine lv_iload_n hx hb dX5_nextFault_90 rfl (lv_at hl 5 rfl) ?_
    refine lv_iload_n hx hb dX5_nextFault_91 rfl (lv_at hl 2 rfl) ?_
    refine lv_iconst (v := 2) hx hb dX5_nextFault_92 (by decide) ?_
    generalize hp_30 : (F_X6_ofStep it (F_X0_get f (F_X6_ofTour it (3 : Int32))) (2 : Int32)) = p_30 at hF
    rw [letp_eq] at hF
    refine fc_ci (isC := []) (cells' := 0) (slots' := 0) (fc_runSN (n := 3) (As := [.int it, .int (F_X0_get f (F_X6_ofTour it (3 : Int32))), .int (2 : Int32)]) (rest := [.ref b]) (isC := []) (maxL := 3) ⟨hx, hb, hml, hown, hts⟩ (c_X6_ofStep it (F_X0_get f (F_X6_ofTour it (3 : Int32))) (2 : Int32) H.size) gX5_nextFault_X6_ofStep_n33 (by decide +kernel) (by decide +kernel) (by decide +kernel) rfl (by decide +kernel) rfl ⟨Nat.le_of_ble_eq_true rfl, Nat.le_of_ble_eq_true rfl⟩ ⟨Nat.le_of_ble_eq_true rfl, Nat.le_of_ble_eq_true rfl⟩ hE hP hD hS hA rfl rfl hl rfl (Nat.le_of_ble_eq_true rfl) dX5_nextFault_93) hP hD hS hA rfl (fun _ => rfl) rfl rfl (fun r_31 _ H locs hr_31 hP hD hS => ?_)
    rw [hp_30] at hr_31
    obtain rfl : p_30 = r_31 := hr_31.symm
    dsimp only [fs, List.set] at hP hD
    have hP : va_P D vwCl [(t, .inr (9, [.ref b])), (b, .inr (4, [.ref r])), (r, .inl (k.1, 628, .inl f))] H := hP
    have hD : va_D A [(t, .inr (9, [.ref b])), (b, .inr (4, [.ref r])), (r, .inl (k.1, 628, .inl f))] := hD
    refine fc_ci (isC := [1, 2]) (cells' := 0) (slots' := 0) (fc_runV (n := 1) (As := [.int p_30]) (rest := []) (isC := [1, 2]) (maxL := 2) ⟨hx, hb, hml, hown, hts⟩ (c_X0_get b r f p_30 H.size) gX5_nextFault_X0_get rfl (by decide +kernel) rfl ⟨Nat.le_of_ble_eq_true rfl, Nat.le_of_ble_eq_true rfl⟩ ⟨Nat.le_of_ble_eq_true rfl, Nat.le_of_ble_eq_true rfl⟩ hE hP hD hS hA rfl rfl (va_recv hE.1 hP (ci := 4) (q0 := 1) rfl rfl) hl rfl (Nat.le_of_ble_eq_true rfl) dX5_nextFault_96) hP hD hS hA rfl (fun _ => rfl) rfl rfl (fun r_32 _ H locs hr_32 hP hD hS => ?_)
    obtain rfl : (F_X0_get f p_30) = r_32 := hr_32.symm
    dsimp only [fs, List.set] at hP hD
    have hP : va_P D vwCl [(t, .inr (9, [.ref b])), (b, .inr (4, [.ref r])), (r, .inl (k.1, 628, .inl f))] H := hP
    have hD : va_D A [(t, .inr (9, [.ref b])), (b, .inr (4, [.ref r])), (r, .inl (k.1, 628, .inl f))] := hD
    refine lv_istore (lv' := [(6, .int (F_X0_get f p_30)), (5, .int (F_X0_get f p_27)), (4, .int (F_X0_get f p_24)), (3, .int (F_X0_get f (F_X6_ofTour it (3 : Int32)))), (2, .int (1 : Int32)), (0, .ref t), (1, .int it)]) hx hb dX5_nextFault_99 hl (by decide) rfl (fun ls hl => ?_)
    refine lv_aload_n hx hb dX5_nextFault_101 rfl (lv_at hl 5 rfl) ?_
    refine va_get (D := D) (ci := 9) (v := .ref b) (C := RX5) (T := TX5) (N := 1) hx hb hts in_X5_nextFault_X5 hown hE.1 hP 0 rfl rfl 0 (by decide) (hts _ lk_X5_nextFault_12) (fun _ h9 => h9) rfl dX5_nextFault_102 ?_
    refine lv_iload hx hb dX5_nextFault_105 (lv_at hl 1 rfl) ?_
    refine lv_iconst (v := 0) hx hb dX5_nextFault_107 (by decide) ?_
    refine fc_ci (isC := []) (cells' := 0) (slots' := 0) (fc_runSN (n := 2) (As := [.int (F_X0_get f p_27), .int (0 : Int32)]) (rest := [.ref b]) (isC := []) (maxL := 2) ⟨hx, hb, hml, hown, hts⟩ (c_X6_ofTown (F_X0_get f p_27) (0 : Int32) H.size) gX5_nextFault_X6_ofTown_n44 (by decide +kernel) (by decide +kernel) (by decide +kernel) rfl (by decide +kernel) rfl ⟨Nat.le_of_ble_eq_true rfl, Nat.le_of_ble_eq_true rfl⟩ ⟨Nat.le_of_ble_eq_true rfl, Nat.le_of_ble_eq_true rfl⟩ hE hP hD hS hA rfl rfl hl rfl (Nat.le_of_ble_eq_true rfl) dX5_nextFault_108) hP hD hS hA rfl (fun _ => rfl) rfl rfl (fun r_33 _ H locs hr_33 hP hD hS => ?_)
    obtain rfl : (F_X6_ofTown (F_X0_get f p_27) (0 : Int32)) = r_33 := hr_33.symm
    dsimp only [fs, List.set] at hP hD
    have hP : va_P D vwCl [(t, .inr (9, [.ref b])), (b, .inr (4, [.ref r])), (r, .inl (k.1, 628, .inl f))] H := hP
    have hD : va_D A [(t, .inr (9, [.ref b])), (b, .inr (4, [.ref r])), (r, .inl (k.1, 628, .inl f))] := hD
    refine fc_ci (isC := [1, 2]) (cells' := 0) (slots' := 0) (fc_runV (n := 1) (As := [.int (F_X6_ofTown (F_X0_get f p_27) (0 : Int32))]) (rest := []) (isC := [1, 2]) (maxL := 2) ⟨hx, hb, hml, hown, hts⟩ (c_X0_get b r f (F_X6_ofTown (F_X0_get f p_27) (0 : Int32)) H.size) gX5_nextFault_X0_get rfl (by decide +kernel) rfl ⟨Nat.le_of_ble_eq_true rfl, Nat.le_of_ble_eq_true rfl⟩ ⟨Nat.le_of_ble_eq_true rfl, Nat.le_of_ble_eq_true rfl⟩ hE hP hD hS hA rfl rfl (va_recv hE.1 hP (ci := 4) (q0 := 1) rfl rfl) hl rfl (Nat.le_of_ble_eq_true rfl) dX5_nextFault_111) hP hD hS hA rfl (fun _ => rfl) rfl rfl (fun r_34 _ H locs hr_34 hP hD hS => ?_)
    obtain rfl : (F_X0_get f (F_X6_ofTown (F_X0_get f p_27) (0 : Int32))) = r_34 := hr_34.symm
    dsimp only [fs, List.set] at hP hD
    have hP : va_P D vwCl [(t, .inr (9, [.ref b])), (b, .inr (4, [.ref r])), (r, .inl (k.1, 628, .inl f))] H := hP
    have hD : va_D A [(t, .inr (9, [.ref b])), (b, .inr (4, [.ref r])), (r, .inl (k.1, 628, .inl f))] := hD
    refine lv_if_ne (tgt := 119) hx hb dX5_nextFault_114 (by decide) (fun c_35 => ?_) (fun c_35 => ?_)
    · rw [if_neg c_35] at hF
      refine lv_iload_n hx hb dX5_nextFault_119 rfl (lv_at hl 4 rfl) ?_
      refine lv_if_eq (tgt := 157) hx hb dX5_nextFault_120 (by decide) (fun c_36 => absurd c_36 (by decide)) (fun c_36 => ?_)
      refine lv_aload_n hx hb dX5_nextFault_123 rfl (lv_at hl 5 rfl) ?_
      refine va_get (D := D) (ci := 9) (v := .ref b) (C := RX5) (T := TX5) (N := 1) hx hb hts in_X5_nextFault_X5 hown hE.1 hP 0 rfl rfl 0 (by decide) (hts _ lk_X5_nextFault_12) (fun _ h9 => h9) rfl dX5_nextFault_124 ?_
      refine lv_iload hx hb dX5_nextFault_127 (lv_at hl 2 rfl) ?_
      refine lv_iload hx hb dX5_nextFault_129 (lv_at hl 1 rfl) ?_
      refine lv_iload hx hb dX5_nextFault_131 (lv_at hl 0 rfl) ?_
      generalize hp_37 : (F_X6_ofLeft (F_X0_get f p_24) (F_X0_get f p_27) (F_X0_get f p_30)) = p_37 at hF
      rw [letp_eq] at hF
      refine fc_ci (isC := []) (cells' := 0) (slots' := 0) (fc_runSN (n := 3) (As := [.int (F_X0_get f p_24), .int (F_X0_get f p_27), .int (F_X0_get f p_30)]) (rest := [.ref b]) (isC := []) (maxL := 3) ⟨hx, hb, hml, hown, hts⟩ (c_X6_ofLeft (F_X0_get f p_24) (F_X0_get f p_27) (F_X0_get f p_30) H.size) gX5_nextFault_X6_ofLeft_n83 (by decide +kernel) (by decide +kernel) (by decide +kernel) rfl (by decide +kernel) rfl ⟨Nat.le_of_ble_eq_true rfl, Nat.le_of_ble_eq_true rfl⟩ ⟨Nat.le_of_ble_eq_true rfl, Nat.le_of_ble_eq_true rfl⟩ hE hP hD hS hA rfl rfl hl rfl (Nat.le_of_ble_eq_true rfl) dX5_nextFault_133) hP hD hS hA rfl (fun _ => rfl) rfl rfl (fun r_38 _ H locs hr_38 hP hD hS => ?_)
      rw [hp_37] at hr_38
      obtain rfl : p_37 = r_38 := hr_38.symm
      dsimp only [fs, List.set] at hP hD
      have hP : va_P D vwCl [(t, .inr (9, [.ref b])), (b, .inr (4, [.ref r])), (r, .inl (k.1, 628, .inl f))] H := hP
      have hD : va_D A [(t, .inr (9, [.ref b])), (b, .inr (4, [.ref r])), (r, .inl (k.1, 628, .inl f))] := hD
      refine fc_ci (isC := [1, 2]) (cells' := 0) (slots' := 0) (fc_runV (n := 1) (As := [.int p_37]) (rest := []) (isC := [1, 2]) (maxL := 2) ⟨hx, hb, hml, hown, hts⟩ (c_X0_get b r f p_37 H.size) gX5_nextFault_X0_get rfl (by decide +kernel) rfl ⟨Nat.le_of_ble_eq_true rfl, Nat.le_of_ble_eq_true rfl⟩ ⟨Nat.le_of_ble_eq_true rfl, Nat.le_of_ble_eq_true rfl⟩ hE hP hD hS hA rfl rfl (va_recv hE.1 hP (ci := 4) (q0 := 1) rfl rfl) hl rfl (Nat.le_of_ble_eq_true rfl) dX5_nextFault_136) hP hD hS hA rfl (fun _ => rfl) rfl rfl (fun r_39 _ H locs hr_39 hP hD hS => ?_)
      obtain rfl : (F_X0_get f p_37) = r_39 := hr_39.symm
      dsimp only [fs, List.set] at hP hD
      have hP : va_P D vwCl [(t, .inr (9, [.ref b])), (b, .inr (4, [.ref r])), (r, .inl (k.1, 628, .inl f))] H := hP
      have hD : va_D A [(t, .inr (9, [.ref b])), (b, .inr (4, [.ref r])), (r, .inl (k.1, 628, .inl f))] := hD
      refine lv_aload_n hx hb dX5_nextFault_139 rfl (lv_at hl 5 rfl) ?_
      refine va_get (D := D) (ci := 9) (v := .ref b) (C := RX5) (T := TX5) (N := 1) hx hb hts in_X5_nextFault_X5 hown hE.1 hP 0 rfl rfl 0 (by decide) (hts _ lk_X5_nextFault_12) (fun _ h9 => h9) rfl dX5_nextFault_140 ?_
      refine lv_iload_n hx hb dX5_nextFault_143 rfl (lv_at hl 6 rfl) ?_
      refine lv_iload_n hx hb dX5_nextFault_144 rfl (lv_at hl 3 rfl) ?_
      refine lv_iconst (v := 3) hx hb dX5_nextFault_145 (by decide) ?_
      generalize hp_40 : (F_X6_ofStep it (F_X0_get f (F_X6_ofTour it (3 : Int32))) (3 : Int32)) = p_40 at hF
      rw [letp_eq] at hF
      refine fc_ci (isC := []) (cells' := 0) (slots' := 0) (fc_runSN (n := 3) (As := [.int it, .int (F_X0_get f (F_X6_ofTour it (3 : Int32))), .int (3 : Int32)]) (rest := [.ref b, .int (F_X0_get f p_37)]) (isC := []) (maxL := 3) ⟨hx, hb, hml, hown, hts⟩ (c_X6_ofStep it (F_X0_get f (F_X6_ofTour it (3 : Int32))) (3 : Int32) H.size) gX5_nextFault_X6_ofStep_n33 (by decide +kernel) (by decide +kernel) (by decide +kernel) rfl (by decide +kernel) rfl ⟨Nat.le_of_ble_eq_true rfl, Nat.le_of_ble_eq_true rfl⟩ ⟨Nat.le_of_ble_eq_true rfl, Nat.le_of_ble_eq_true rfl⟩ hE hP hD hS hA rfl rfl hl rfl (Nat.le_of_ble_eq_true rfl) dX5_nextFault_146) hP hD hS hA rfl (fun _ => rfl) rfl rfl (fun r_41 _ H locs hr_41 hP hD hS => ?_)
      rw [hp_40] at hr_41
      obtain rfl : p_40 = r_41 := hr_41.symm
      dsimp only [fs, List.set] at hP hD
      have hP : va_P D vwCl [(t, .inr (9, [.ref b])), (b, .inr (4, [.ref r])), (r, .inl (k.1, 628, .inl f))] H := hP
      have hD : va_D A [(t, .inr (9, [.ref b])), (b, .inr (4, [.ref r])), (r, .inl (k.1, 628, .inl f))] := hD
      refine fc_ci (isC := [1, 2]) (cells' := 0) (slots' := 0) (fc_runV (n := 1) (As := [.int p_40]) (rest := [.int (F_X0_get f p_37)]) (isC := [1, 2]) (maxL := 2) ⟨hx, hb, hml, hown, hts⟩ (c_X0_get b r f p_40 H.size) gX5_nextFault_X0_get rfl (by decide +kernel) rfl ⟨Nat.le_of_ble_eq_true rfl, Nat.le_of_ble_eq_true rfl⟩ ⟨Nat.le_of_ble_eq_true rfl, Nat.le_of_ble_eq_true rfl⟩ hE hP hD hS hA rfl rfl (va_recv hE.1 hP (ci := 4) (q0 := 1) rfl rfl) hl rfl (Nat.le_of_ble_eq_true rfl) dX5_nextFault_149) hP hD hS hA rfl (fun _ => rfl) rfl rfl (fun r_42 _ H locs hr_42 hP hD hS => ?_)
      obtain rfl : (F_X0_get f p_40) = r_42 := hr_42.symm
      dsimp only [fs, List.set] at hP hD
      have hP : va_P D vwCl [(t, .inr (9, [.ref b])), (b, .inr (4, [.ref r])), (r, .inl (k.1, 628, .inl f))] H := hP
      have hD : va_D A [(t, .inr (9, [.ref b])), (b, .inr (4, [.ref r])), (r, .inl (k.1, 628, .inl f))] := hD
      refine lv_icmp_ge (tgt := 157) hx hb dX5_nextFault_152 (by decide) (fun c_43 => ?_) (fun c_43 => ?_)
      · rw [if_pos c_43] at hF
        refine lv_iload_n hx hb dX5_nextFault_157 rfl (lv_at hl 4 rfl) ?_
        refine lv_if_eq (tgt := 181) hx hb dX5_nextFault_158 (by decide) (fun c_44 => absurd c_44 (by decide)) (fun c_44 => ?_)
        refine lv_aload_n hx hb dX5_nextFault_161 rfl (lv_at hl 5 rfl) ?_
        refine va_get (D := D) (ci := 9) (v := .ref b) (C := RX5) (T := TX5) (N := 1) hx hb hts in_X5_nextFault_X5 hown hE.1 hP 0 rfl rfl 0 (by decide) (hts _ lk_X5_nextFault_12) (fun _ h9 => h9) rfl dX5_nextFault_162 ?_
        refine lv_bipush (v := 7) hx hb dX5_nextFault_165 (by decide) ?_
        refine fc_ci (isC := [1, 2]) (cells' := 0) (slots' := 0) (fc_runV (n := 1) (As := [.int (7 : Int32)]) (rest := []) (isC := [1, 2]) (maxL := 2) ⟨hx, hb, hml, hown, hts⟩ (c_X0_get b r f (7 : Int32) H.size) gX5_nextFault_X0_get rfl (by decide +kernel) rfl ⟨Nat.le_of_ble_eq_true rfl, Nat.le_of_ble_eq_true rfl⟩ ⟨Nat.le_of_ble_eq_true rfl, Nat.le_of_ble_eq_true rfl⟩ hE hP hD hS hA rfl rfl (va_recv hE.1 hP (ci := 4) (q0 := 1) rfl rfl) hl rfl (Nat.le_of_ble_eq_true rfl) dX5_nextFault_167) hP hD hS hA rfl (fun _ => rfl) rfl rfl (fun r_45 _ H locs hr_45 hP hD hS => ?_)
        obtain rfl : (F_X0_get f (7 : Int32)) = r_45 := hr_45.symm
        dsimp only [fs, List.set] at hP hD
        have hP : va_P D vwCl [(t, .inr (9, [.ref b])), (b, .inr (4, [.ref r])), (r, .inl (k.1, 628, .inl f))] H := hP
        have hD : va_D A [(t, .inr (9, [.ref b])), (b, .inr (4, [.ref r])), (r, .inl (k.1, 628, .inl f))] := hD
        refine lv_aload_n hx hb dX5_nextFault_170 rfl (lv_at hl 5 rfl) ?_
        refine lv_iload_n hx hb dX5_nextFault_171 rfl (lv_at hl 6 rfl) ?_
        refine lv_iload_n hx hb dX5_nextFault_172 rfl (lv_at hl 3 rfl) ?_
        generalize hp_46 : (F_X5_priceOf f it (F_X0_get f (F_X6_ofTour it (3 : Int32)))) = p_46 at hF
        rw [letp_eq] at hF
        refine fc_ci (isC := [0, 1, 2]) (cells' := 0) (slots' := 0) (fc_runV (n := 2) (As := [.int it, .int (F_X0_get f (F_X6_ofTour it (3 : Int32)))]) (rest := [.int (F_X0_get f (7 : Int32))]) (isC := [0, 1, 2]) (maxL := 5) ⟨hx, hb, hml, hown, hts⟩ (c_X5_priceOf t b r f it (F_X0_get f (F_X6_ofTour it (3 : Int32))) H.size) gX5_nextFault_X5_priceOf rfl (by decide +kernel) rfl ⟨Nat.le_of_ble_eq_true rfl, Nat.le_of_ble_eq_true rfl⟩ ⟨Nat.le_of_ble_eq_true rfl, Nat.le_of_ble_eq_true rfl⟩ hE hP hD hS hA rfl rfl (va_recv hE.1 hP (ci := 9) (q0 := 0) rfl rfl) hl rfl (Nat.le_of_ble_eq_true rfl) dX5_nextFault_173) hP hD hS hA rfl (fun _ => rfl) rfl rfl (fun r_47 _ H locs hr_47 hP hD hS => ?_)
        rw [hp_46] at hr_47
        obtain rfl : p_46 = r_47 := hr_47.symm
        dsimp only [fs, List.set] at hP hD
        have hP : va_P D vwCl [(t, .inr (9, [.ref b])), (b, .inr (4, [.ref r])), (r, .inl (k.1, 628, .inl f))] H := hP
        have hD : va_D A [(t, .inr (9, [.ref b])), (b, .inr (4, [.ref r])), (r, .inl (k.1, 628, .inl f))] := hD
        refine lv_icmp_ge (tgt := 181) hx hb dX5_nextFault_176 (by decide) (fun c_48 => ?_) (fun c_48 => ?_)
        · rw [if_pos c_48] at hF
          refine lv_iconst (v := 0) hx hb dX5_nextFault_181 (by decide) ?_
          subst hF
          exact fc_iret hx hb hr rfl hlk hS () rfl hP hD (by decide) (by decide) dX5_nextFault_182
        · rw [if_neg c_48] at hF
          refine lv_iconst (v := 3) hx hb dX5_nextFault_179 (by decide) ?_
          subst hF
          exact fc_iret hx hb hr rfl hlk hS () rfl hP hD (by decide) (by decide) dX5_nextFault_180
      · rw [if_neg c_43] at hF
        refine lv_iconst (v := 2) hx hb dX5_nextFault_155 (by decide) ?_
        subst hF
        exact fc_iret hx hb hr rfl hlk hS () rfl hP hD (by decide) (by decide) dX5_nextFault_156
    · rw [if_pos c_35] at hF
      refine lv_iconst (v := 1) hx hb dX5_nextFault_117 (by decide) ?_
      subst hF
      exact fc_iret hx hb hr rfl hlk hS () rfl hP hD (by decide) (by decide) dX5_nextFault_118

abbrev rm_X5_gainCoins : Room := { frames := 1, cells := 0, slots := 0, locals := 24 }
theorem in_X5_gainCoins_X5 : ∀ w ∈ wsX50, w ∈ wsX5_gainCoins := by decide +kernel
theorem lk_X5_gainCoins_12 : (Cond.fieldLink RX5 12 "TheatreSaga$Theatre" "books" "LTheatreSaga$Books;") ∈ wsX5_gainCoins := by decide +kernel
def F_X5_gainCoins (f : (Nat → Int32)) (ic : Int32) : (Nat → Int32) := (letp (F_X0_add f (7 : Int32) (ic - (if (0 : Int32) < (((F_X0_get f (7 : Int32)) + ic) - (9999 : Int32)) then (((F_X0_get f (7 : Int32)) + ic) - (9999 : Int32)) else (0 : Int32)))) (fun (p_2 : (Nat → Int32)) => (letp (F_X0_add p_2 (11 : Int32) (if (0 : Int32) < (((F_X0_get f (7 : Int32)) + ic) - (9999 : Int32)) then (((F_X0_get f (7 : Int32)) + ic) - (9999 : Int32)) else (0 : Int32))) (fun (p_3 : (Nat → Int32)) => p_3))))
set_option maxHeartbeats 4000000 in
set_option maxRecDepth 100000 in
theorem c_X5_gainCoins {l : Launch} {D : va_G} {k : tyK} (t b r : Nat) (f : (Nat → Int32)) (ic : Int32) : FCv l yX5_gainCoins wsX5_gainCoins rm_X5_gainCoins D k [.ref t, .int ic] [(t, .inr (9, [.ref b])), (b, .inr (4, [.ref r])), (r, .inl (k.1, 628, .inl f))] (fun (_ : Unit) => True) (fun _ => [(t, .inr (9, [.ref b])), (b, .inr (4, [.ref r])), (r, .inl (k.1, 628, .inl (F_X5_gainCoins f ic)))]) := by
  refine fc_start (cc := cX5_gainCoins) (maxL := 3) (ret := none) (own := RX5) (Qc := fun A => va_Qv (fun (_ : Unit) => True) (Bt D (fun _ => [(t, .inr (9, [.ref b])), (b, .inr (4, [.ref r])), (r, .inl (k.1, 628, .inl (F_X5_gainCoins f ic)))]) A) A) (by decide) rfl rfl (Nat.le_of_ble_eq_true rfl) ?_
  intro p e s m below meth c A H hx hb hml hr hts hown hlk hname hA hP hE hD hS ls hl
  obtain ⟨RES, hF⟩ : ∃ z, (F_X5_gainCoins f ic) = z := ⟨_, rfl⟩
  rw [hF]
  unfold F_X5_gainCoins at hF
  have hl : lv_has ls 3 [(0, .ref t), (1, .int ic)] := hl
  obtain ⟨locs, hlocs⟩ : ∃ z : List Loc, z = [] := ⟨_, rfl⟩
  rw [← hlocs] at hS ⊢
  refine lv_iconst (v := 0) hx hb dX5_gainCoins_0 (by decide) ?_
  refine lv_aload_n hx hb dX5_gainCoins_1 rfl (lv_at hl 0 rfl) ?_
  refine va_get (D := D) (ci := 9) (v := .ref b) (C := RX5) (T := TX5) (N := 1) hx hb hts in_X5_gainCoins_X5 hown hE.1 hP 0 rfl rfl 0 (by decide) (hts _ lk_X5_gainCoins_12) (fun _ h9 => h9) rfl dX5_gainCoins_2 ?_
  refine lv_bipush (v := 7) hx hb dX5_gainCoins_5 (by decide) ?_
  refine fc_ci (isC := [1, 2]) (cells' := 0) (slots' := 0) (fc_runV (n := 1) (As := [.int (7 : Int32)]) (rest := [.int (0 : Int32)]) (isC := [1, 2]) (maxL := 2) ⟨hx, hb, hml, hown, hts⟩ (c_X0_get b r f (7 : Int32) H.size) gX5_gainCoins_X0_get rfl (by decide +kernel) rfl ⟨Nat.le_of_ble_eq_true rfl, Nat.le_of_ble_eq_true rfl⟩ ⟨Nat.le_of_ble_eq_true rfl, Nat.le_of_ble_eq_true rfl⟩ hE hP hD hS hA rfl rfl (va_recv hE.1 hP (ci := 4) (q0 := 1) rfl rfl) hl rfl (Nat.le_of_ble_eq_true rfl) dX5_gainCoins_7) hP hD hS hA rfl (fun _ => rfl) rfl rfl (fun r_1 _ H locs hr_1 hP hD hS => ?_)
  obtain rfl : (F_X0_get f (7 : Int32)) = r_1 := hr_1.symm
  dsimp only [fs, List.set] at hP hD
  have hP : va_P D vwCl [(t, .inr (9, [.ref b])), (b, .inr (4, [.ref r])), (r, .inl (k.1, 628, .inl f))] H := hP
  have hD : va_D A [(t, .inr (9, [.ref b])), (b, .inr (4, [.ref r])), (r, .inl (k.1, 628, .inl f))] := hD
  refine lv_iload_n hx hb dX5_gainCoins_10 rfl (lv_at hl 1 rfl) ?_
  refine lv_iadd hx hb dX5_gainCoins_11 ?_
  refine lv_sipush (v := 9999) hx hb dX5_gainCoins_12 (by decide) ?_
  refine lv_isub hx hb dX5_gainCoins_15 ?_
  refine va_mmax hx hb (hml.trans hl.1.symm) hown (hts (.methodLink RX5 86 Lib.Math.max.name) (by decide +kernel)) (hts (.static Lib.Math.max.name) (by decide +kernel)) (hts (.initialized "java/lang/Math") (by decide +kernel)) (hts (.code Lib.Math.max.name Lib.Math.max.code 2 (some .int)) (by decide +kernel)) (by decide) (Nat.le_of_ble_eq_true rfl) (Nat.zero_le _) (Nat.zero_le _) dX5_gainCoins_16 ?_
  refine lv_istore_n (lv' := [(2, .int (if (0 : Int32) < (((F_X0_get f (7 : Int32)) + ic) - (9999 : Int32)) then (((F_X0_get f (7 : Int32)) + ic) - (9999 : Int32)) else (0 : Int32))), (0, .ref t), (1, .int ic)]) hx hb dX5_gainCoins_19 rfl hl (by decide) rfl (fun ls hl => ?_)
  refine lv_aload_n hx hb dX5_gainCoins_20 rfl (lv_at hl 1 rfl) ?_
  refine va_get (D := D) (ci := 9) (v := .ref b) (C := RX5) (T := TX5) (N := 1) hx hb hts in_X5_gainCoins_X5 hown hE.1 hP 0 rfl rfl 0 (by decide) (hts _ lk_X5_gainCoins_12) (fun _ h9 => h9) rfl dX5_gainCoins_21 ?_
  refine lv_bipush (v := 7) hx hb dX5_gainCoins_24 (by decide) ?_
  refine lv_iload_n hx hb dX5_gainCoins_26 rfl (lv_at hl 2 rfl) ?_
  refine lv_iload_n hx hb dX5_gainCoins_27 rfl (lv_at hl 0 rfl) ?_
  refine lv_isub hx hb dX5_gainCoins_28 ?_
  generalize hp_2 : (F_X0_add f (7 : Int32) (ic - (if (0 : Int32) < (((F_X0_get f (7 : Int32)) + ic) - (9999 : Int32)) then (((F_X0_get f (7 : Int32)) + ic) - (9999 : Int32)) else (0 : Int32)))) = p_2 at hF
  rw [letp_eq] at hF
  refine fc_cv (isC := [1, 2]) (cells' := 0) (slots' := 0) (fc_runV (n := 2) (As := [.int (7 : Int32), .int (ic - (if (0 : Int32) < (((F_X0_get f (7 : Int32)) + ic) - (9999 : Int32)) then (((F_X0_get f (7 : Int32)) + ic) - (9999 : Int32)) else (0 : Int32)))]) (rest := []) (isC := [1, 2]) (maxL := 3) ⟨hx, hb, hml, hown, hts⟩ (c_X0_add b r f (7 : Int32) (ic - (if (0 : Int32) < (((F_X0_get f (7 : Int32)) + ic) - (9999 : Int32)) then (((F_X0_get f (7 : Int32)) + ic) - (9999 : Int32)) else (0 : Int32))) H.size) gX5_gainCoins_X0_add rfl (by decide +kernel) rfl ⟨Nat.le_of_ble_eq_true rfl, Nat.le_of_ble_eq_true rfl⟩ ⟨Nat.le_of_ble_eq_true rfl, Nat.le_of_ble_eq_true rfl⟩ hE hP hD hS hA rfl rfl (va_recv hE.1 hP (ci := 4) (q0 := 1) rfl rfl) hl rfl (Nat.le_of_ble_eq_true rfl) dX5_gainCoins_29) hP hD hS hA rfl (fun _ => rfl) rfl rfl (fun _ H locs _ hP hD hS => ?_)
  rw [hp_2] at hP hD
  dsimp only [fs, List.set] at hP hD
  have hP : va_P D vwCl [(t, .inr (9, [.ref b])), (b, .inr (4, [.ref r])), (r, .inl (k.1, 628, .inl p_2))] H := hP
  have hD : va_D A [(t, .inr (9, [.ref b])), (b, .inr (4, [.ref r])), (r, .inl (k.1, 628, .inl p_2))] := hD
  refine lv_aload_n hx hb dX5_gainCoins_32 rfl (lv_at hl 1 rfl) ?_
  refine va_get (D := D) (ci := 9) (v := .ref b) (C := RX5) (T := TX5) (N := 1) hx hb hts in_X5_gainCoins_X5 hown hE.1 hP 0 rfl rfl 0 (by decide) (hts _ lk_X5_gainCoins_12) (fun _ h9 => h9) rfl dX5_gainCoins_33 ?_
  refine lv_bipush (v := 11) hx hb dX5_gainCoins_36 (by decide) ?_
  refine lv_iload_n hx hb dX5_gainCoins_38 rfl (lv_at hl 0 rfl) ?_
  generalize hp_3 : (F_X0_add p_2 (11 : Int32) (if (0 : Int32) < (((F_X0_get f (7 : Int32)) + ic) - (9999 : Int32)) then (((F_X0_get f (7 : Int32)) + ic) - (9999 : Int32)) else (0 : Int32))) = p_3 at hF
  rw [letp_eq] at hF
  refine fc_cv (isC := [1, 2]) (cells' := 0) (slots' := 0) (fc_runV (n := 2) (As := [.int (11 : Int32), .int (if (0 : Int32) < (((F_X0_get f (7 : Int32)) + ic) - (9999 : Int32)) then (((F_X0_get f (7 : Int32)) + ic) - (9999 : Int32)) else (0 : Int32))]) (rest := []) (isC := [1, 2]) (maxL := 3) ⟨hx, hb, hml, hown, hts⟩ (c_X0_add b r p_2 (11 : Int32) (if (0 : Int32) < (((F_X0_get f (7 : Int32)) + ic) - (9999 : Int32)) then (((F_X0_get f (7 : Int32)) + ic) - (9999 : Int32)) else (0 : Int32)) H.size) gX5_gainCoins_X0_add rfl (by decide +kernel) rfl ⟨Nat.le_of_ble_eq_true rfl, Nat.le_of_ble_eq_true rfl⟩ ⟨Nat.le_of_ble_eq_true rfl, Nat.le_of_ble_eq_true rfl⟩ hE hP hD hS hA rfl rfl (va_recv hE.1 hP (ci := 4) (q0 := 1) rfl rfl) hl rfl (Nat.le_of_ble_eq_true rfl) dX5_gainCoins_39) hP hD hS hA rfl (fun _ => rfl) rfl rfl (fun _ H locs _ hP hD hS => ?_)
  rw [hp_3] at hP hD
  dsimp only [fs, List.set] at hP hD
  have hP : va_P D vwCl [(t, .inr (9, [.ref b])), (b, .inr (4, [.ref r])), (r, .inl (k.1, 628, .inl p_3))] H := hP
  have hD : va_D A [(t, .inr (9, [.ref b])), (b, .inr (4, [.ref r])), (r, .inl (k.1, 628, .inl p_3))] := hD
  subst hF
  exact fc_vret hx hb hr hlk hS () trivial hP hD (by decide) (by decide) dX5_gainCoins_42

abbrev rm_X5_countBooking : Room := { frames := 1, cells := 0, slots := 0, locals := 22 }
theorem in_X5_countBooking_X5 : ∀ w ∈ wsX50, w ∈ wsX5_countBooking := by decide +kernel
theorem lk_X5_countBooking_12 : (Cond.fieldLink RX5 12 "TheatreSaga$Theatre" "books" "LTheatreSaga$Books;") ∈ wsX5_countBooking := by decide +kernel
def F_X5_countBooking (f : (Nat → Int32)) (it : Int32) (is : Int32) (ig : Int32) : (Nat → Int32) := (letp (F_X6_ofLeft (F_X0_get f (F_X6_ofStep it is (0 : Int32))) (F_X0_get f (F_X6_ofStep it is (1 : Int32))) (F_X0_get f (F_X6_ofStep it is (2 : Int32)))) (fun (p_7 : Int32) => (letp (F_X6_ofTown (F_X0_get f (F_X6_ofStep it is (1 : Int32))) (2 : Int32)) (fun (p_11 : Int32) => (letp (F_X0_add (F_X0_add (F_X0_add f p_7 ((-ig) * (F_X0_get f (F_X6_ofStep it is (3 : Int32))))) p_11 ig) (F_X6_ofTour it (3 : Int32)) ig) (fun (p_14 : (Nat → Int32)) => (F_X0_set p_14 (F_X6_ofTour it (4 : Int32)) (0 : Int32))))))))
set_option maxHeartbeats 4000000 in
set_option maxRecDepth 100000 in
theorem c_X5_countBooking {l : Launch} {D : va_G} {k : tyK} (t b r : Nat) (f : (Nat → Int32)) (it : Int32) (is : Int32) (ig : Int32) : FCv l yX5_countBooking wsX5_countBooking rm_X5_countBooking D k [.ref t, .int it, .int is, .int ig] [(t, .inr (9, [.ref b])), (b, .inr (4, [.ref r])), (r, .inl (k.1, 628, .inl f))] (fun (_ : Unit) => True) (fun _ => [(t, .inr (9, [.ref b])), (b, .inr (4, [.ref r])), (r, .inl (k.1, 628, .inl (F_X5_countBooking f it is ig)))]) := by
  refine fc_start (cc := cX5_countBooking) (maxL := 7) (ret := none) (own := RX5) (Qc := fun A => va_Qv (fun (_ : Unit) => True) (Bt D (fun _ => [(t, .inr (9, [.ref b])), (b, .inr (4, [.ref r])), (r, .inl (k.1, 628, .inl (F_X5_countBooking f it is ig)))]) A) A) (by decide) rfl rfl (Nat.le_of_ble_eq_true rfl) ?_
  intro p e s m below meth c A H hx hb hml hr hts hown hlk hname hA hP hE hD hS ls hl
  obtain ⟨RES, hF⟩ : ∃ z, (F_X5_countBooking f it is ig) = z := ⟨_, rfl⟩
  rw [hF]
  unfold F_X5_countBooking at hF
  have hl : lv_has ls 7 [(0, .ref t), (1, .int it), (2, .int is), (3, .int ig)] := hl
  obtain ⟨locs, hlocs⟩ : ∃ z : List Loc, z = [] := ⟨_, rfl⟩
  rw [← hlocs] at hS ⊢
  refine lv_aload_n hx hb dX5_countBooking_0 rfl (lv_at hl 0 rfl) ?_
  refine va_get (D := D) (ci := 9) (v := .ref b) (C := RX5) (T := TX5) (N := 1) hx hb hts in_X5_countBooking_X5 hown hE.1 hP 0 rfl rfl 0 (by decide) (hts _ lk_X5_countBooking_12) (fun _ h9 => h9) rfl dX5_countBooking_1 ?_
  refine lv_iload_n hx hb dX5_countBooking_4 rfl (lv_at hl 1 rfl) ?_
  refine lv_iload_n hx hb dX5_countBooking_5 rfl (lv_at hl 2 rfl) ?_
  refine lv_iconst (v := 0) hx hb dX5_countBooking_6 (by decide) ?_
  refine fc_ci (isC := []) (cells' := 0) (slots' := 0) (fc_runSN (n := 3) (As := [.int it, .int is, .int (0 : Int32)]) (rest := [.ref b]) (isC := []) (maxL := 3) ⟨hx, hb, hml, hown, hts⟩ (c_X6_ofStep it is (0 : Int32) H.size) gX5_countBooking_X6_ofStep_n33 (by decide +kernel) (by decide +kernel) (by decide +kernel) rfl (by decide +kernel) rfl ⟨Nat.le_of_ble_eq_true rfl, Nat.le_of_ble_eq_true rfl⟩ ⟨Nat.le_of_ble_eq_true rfl, Nat.le_of_ble_eq_true rfl⟩ hE hP hD hS hA rfl rfl hl rfl (Nat.le_of_ble_eq_true rfl) dX5_countBooking_7) hP hD hS hA rfl (fun _ => rfl) rfl rfl (fun r_1 _ H locs hr_1 hP hD hS => ?_)
  obtain rfl : (F_X6_ofStep it is (0 : Int32)) = r_1 := hr_1.symm
  dsimp only [fs, List.set] at hP hD
  have hP : va_P D vwCl [(t, .inr (9, [.ref b])), (b, .inr (4, [.ref r])), (r, .inl (k.1, 628, .inl f))] H := hP
  have hD : va_D A [(t, .inr (9, [.ref b])), (b, .inr (4, [.ref r])), (r, .inl (k.1, 628, .inl f))] := hD
  refine fc_ci (isC := [1, 2]) (cells' := 0) (slots' := 0) (fc_runV (n := 1) (As := [.int (F_X6_ofStep it is (0 : Int32))]) (rest := []) (isC := [1, 2]) (maxL := 2) ⟨hx, hb, hml, hown, hts⟩ (c_X0_get b r f (F_X6_ofStep it is (0 : Int32)) H.size) gX5_countBooking_X0_get rfl (by decide +kernel) rfl ⟨Nat.le_of_ble_eq_true rfl, Nat.le_of_ble_eq_true rfl⟩ ⟨Nat.le_of_ble_eq_true rfl, Nat.le_of_ble_eq_true rfl⟩ hE hP hD hS hA rfl rfl (va_recv hE.1 hP (ci := 4) (q0 := 1) rfl rfl) hl rfl (Nat.le_of_ble_eq_true rfl) dX5_countBooking_10) hP hD hS hA rfl (fun _ => rfl) rfl rfl (fun r_2 _ H locs hr_2 hP hD hS => ?_)
  obtain rfl : (F_X0_get f (F_X6_ofStep it is (0 : Int32))) = r_2 := hr_2.symm
  dsimp only [fs, List.set] at hP hD
  have hP : va_P D vwCl [(t, .inr (9, [.ref b])), (b, .inr (4, [.ref r])), (r, .inl (k.1, 628, .inl f))] H := hP
  have hD : va_D A [(t, .inr (9, [.ref b])), (b, .inr (4, [.ref r])), (r, .inl (k.1, 628, .inl f))] := hD
  refine lv_istore (lv' := [(4, .int (F_X0_get f (F_X6_ofStep it is (0 : Int32)))), (0, .ref t), (1, .int it), (2, .int is), (3, .int ig)]) hx hb dX5_countBooking_13 hl (by decide) rfl (fun ls hl => ?_)
  refine lv_aload_n hx hb dX5_countBooking_15 rfl (lv_at hl 1 rfl) ?_
  refine va_get (D := D) (ci := 9) (v := .ref b) (C := RX5) (T := TX5) (N := 1) hx hb hts in_X5_countBooking_X5 hown hE.1 hP 0 rfl rfl 0 (by decide) (hts _ lk_X5_countBooking_12) (fun _ h9 => h9) rfl dX5_countBooking_16 ?_
  refine lv_iload_n hx hb dX5_countBooking_19 rfl (lv_at hl 2 rfl) ?_
  refine lv_iload_n hx hb dX5_countBooking_20 rfl (lv_at hl 3 rfl) ?_
  refine lv_iconst (v := 1) hx hb dX5_countBooking_21 (by decide) ?_
  refine fc_ci (isC := []) (cells' := 0) (slots' := 0) (fc_runSN (n := 3) (As := [.int it, .int is, .int (1 : Int32)]) (rest := [.ref b]) (isC := []) (maxL := 3) ⟨hx, hb, hml, hown, hts⟩ (c_X6_ofStep it is (1 : Int32) H.size) gX5_countBooking_X6_ofStep_n33 (by decide +kernel) (by decide +kernel) (by decide +kernel) rfl (by decide +kernel) rfl ⟨Nat.le_of_ble_eq_true rfl, Nat.le_of_ble_eq_true rfl⟩ ⟨Nat.le_of_ble_eq_true rfl, Nat.le_of_ble_eq_true rfl⟩ hE hP hD hS hA rfl rfl hl rfl (Nat.le_of_ble_eq_true rfl) dX5_countBooking_22) hP hD hS hA rfl (fun _ => rfl) rfl rfl (fun r_3 _ H locs hr_3 hP hD hS => ?_)
  obtain rfl : (F_X6_ofStep it is (1 : Int32)) = r_3 := hr_3.symm
  dsimp only [fs, List.set] at hP hD
  have hP : va_P D vwCl [(t, .inr (9, [.ref b])), (b, .inr (4, [.ref r])), (r, .inl (k.1, 628, .inl f))] H := hP
  have hD : va_D A [(t, .inr (9, [.ref b])), (b, .inr (4, [.ref r])), (r, .inl (k.1, 628, .inl f))] := hD
  refine fc_ci (isC := [1, 2]) (cells' := 0) (slots' := 0) (fc_runV (n := 1) (As := [.int (F_X6_ofStep it is (1 : Int32))]) (rest := []) (isC := [1, 2]) (maxL := 2) ⟨hx, hb, hml, hown, hts⟩ (c_X0_get b r f (F_X6_ofStep it is (1 : Int32)) H.size) gX5_countBooking_X0_get rfl (by decide +kernel) rfl ⟨Nat.le_of_ble_eq_true rfl, Nat.le_of_ble_eq_true rfl⟩ ⟨Nat.le_of_ble_eq_true rfl, Nat.le_of_ble_eq_true rfl⟩ hE hP hD hS hA rfl rfl (va_recv hE.1 hP (ci := 4) (q0 := 1) rfl rfl) hl rfl (Nat.le_of_ble_eq_true rfl) dX5_countBooking_25) hP hD hS hA rfl (fun _ => rfl) rfl rfl (fun r_4 _ H locs hr_4 hP hD hS => ?_)
  obtain rfl : (F_X0_get f (F_X6_ofStep it is (1 : Int32))) = r_4 := hr_4.symm
  dsimp only [fs, List.set] at hP hD
  have hP : va_P D vwCl [(t, .inr (9, [.ref b])), (b, .inr (4, [.ref r])), (r, .inl (k.1, 628, .inl f))] H := hP
  have hD : va_D A [(t, .inr (9, [.ref b])), (b, .inr (4, [.ref r])), (r, .inl (k.1, 628, .inl f))] := hD
  refine lv_istore (lv' := [(5, .int (F_X0_get f (F_X6_ofStep it is (1 : Int32)))), (4, .int (F_X0_get f (F_X6_ofStep it is (0 : Int32)))), (0, .ref t), (1, .int it), (2, .int is), (3, .int ig)]) hx hb dX5_countBooking_28 hl (by decide) rfl (fun ls hl => ?_)
  refine lv_aload_n hx hb dX5_countBooking_30 rfl (lv_at hl 2 rfl) ?_
  refine va_get (D := D) (ci := 9) (v := .ref b) (C := RX5) (T := TX5) (N := 1) hx hb hts in_X5_countBooking_X5 hown hE.1 hP 0 rfl rfl 0 (by decide) (hts _ lk_X5_countBooking_12) (fun _ h9 => h9) rfl dX5_countBooking_31 ?_
  refine lv_iload_n hx hb dX5_countBooking_34 rfl (lv_at hl 3 rfl) ?_
  refine lv_iload_n hx hb dX5_countBooking_35 rfl (lv_at hl 4 rfl) ?_
  refine lv_iconst (v := 2) hx hb dX5_countBooking_36 (by decide) ?_
  refine fc_ci (isC := []) (cells' := 0) (slots' := 0) (fc_runSN (n := 3) (As := [.int it, .int is, .int (2 : Int32)]) (rest := [.ref b]) (isC := []) (maxL := 3) ⟨hx, hb, hml, hown, hts⟩ (c_X6_ofStep it is (2 : Int32) H.size) gX5_countBooking_X6_ofStep_n33 (by decide +kernel) (by decide +kernel) (by decide +kernel) rfl (by decide +kernel) rfl ⟨Nat.le_of_ble_eq_true rfl, Nat.le_of_ble_eq_true rfl⟩ ⟨Nat.le_of_ble_eq_true rfl, Nat.le_of_ble_eq_true rfl⟩ hE hP hD hS hA rfl rfl hl rfl (Nat.le_of_ble_eq_true rfl) dX5_countBooking_37) hP hD hS hA rfl (fun _ => rfl) rfl rfl (fun r_5 _ H locs hr_5 hP hD hS => ?_)
  obtain rfl : (F_X6_ofStep it is (2 : Int32)) = r_5 := hr_5.symm
  dsimp only [fs, List.set] at hP hD
  have hP : va_P D vwCl [(t, .inr (9, [.ref b])), (b, .inr (4, [.ref r])), (r, .inl (k.1, 628, .inl f))] H := hP
  have hD : va_D A [(t, .inr (9, [.ref b])), (b, .inr (4, [.ref r])), (r, .inl (k.1, 628, .inl f))] := hD
  refine fc_ci (isC := [1, 2]) (cells' := 0) (slots' := 0) (fc_runV (n := 1) (As := [.int (F_X6_ofStep it is (2 : Int32))]) (rest := []) (isC := [1, 2]) (maxL := 2) ⟨hx, hb, hml, hown, hts⟩ (c_X0_get b r f (F_X6_ofStep it is (2 : Int32)) H.size) gX5_countBooking_X0_get rfl (by decide +kernel) rfl ⟨Nat.le_of_ble_eq_true rfl, Nat.le_of_ble_eq_true rfl⟩ ⟨Nat.le_of_ble_eq_true rfl, Nat.le_of_ble_eq_true rfl⟩ hE hP hD hS hA rfl rfl (va_recv hE.1 hP (ci := 4) (q0 := 1) rfl rfl) hl rfl (Nat.le_of_ble_eq_true rfl) dX5_countBooking_40) hP hD hS hA rfl (fun _ => rfl) rfl rfl (fun r_6 _ H locs hr_6 hP hD hS => ?_)
  obtain rfl : (F_X0_get f (F_X6_ofStep it is (2 : Int32))) = r_6 := hr_6.symm
  dsimp only [fs, List.set] at hP hD
  have hP : va_P D vwCl [(t, .inr (9, [.ref b])), (b, .inr (4, [.ref r])), (r, .inl (k.1, 628, .inl f))] H := hP
  have hD : va_D A [(t, .inr (9, [.ref b])), (b, .inr (4, [.ref r])), (r, .inl (k.1, 628, .inl f))] := hD
  refine lv_istore (lv' := [(6, .int (F_X0_get f (F_X6_ofStep it is (2 : Int32)))), (5, .int (F_X0_get f (F_X6_ofStep it is (1 : Int32)))), (4, .int (F_X0_get f (F_X6_ofStep it is (0 : Int32)))), (0, .ref t), (1, .int it), (2, .int is), (3, .int ig)]) hx hb dX5_countBooking_43 hl (by decide) rfl (fun ls hl => ?_)
  refine lv_aload_n hx hb dX5_countBooking_45 rfl (lv_at hl 3 rfl) ?_
  refine va_get (D := D) (ci := 9) (v := .ref b) (C := RX5) (T := TX5) (N := 1) hx hb hts in_X5_countBooking_X5 hown hE.1 hP 0 rfl rfl 0 (by decide) (hts _ lk_X5_countBooking_12) (fun _ h9 => h9) rfl dX5_countBooking_46 ?_
  refine lv_iload hx hb dX5_countBooking_49 (lv_at hl 2 rfl) ?_
  refine lv_iload hx hb dX5_countBooking_51 (lv_at hl 1 rfl) ?_
  refine lv_iload hx hb dX5_countBooking_53 (lv_at hl 0 rfl) ?_
  generalize hp_7 : (F_X6_ofLeft (F_X0_get f (F_X6_ofStep it is (0 : Int32))) (F_X0_get f (F_X6_ofStep it is (1 : Int32))) (F_X0_get f (F_X6_ofStep it is (2 : Int32)))) = p_7 at hF
  rw [letp_eq] at hF
  refine fc_ci (isC := []) (cells' := 0) (slots' := 0) (fc_runSN (n := 3) (As := [.int (F_X0_get f (F_X6_ofStep it is (0 : Int32))), .int (F_X0_get f (F_X6_ofStep it is (1 : Int32))), .int (F_X0_get f (F_X6_ofStep it is (2 : Int32)))]) (rest := [.ref b]) (isC := []) (maxL := 3) ⟨hx, hb, hml, hown, hts⟩ (c_X6_ofLeft (F_X0_get f (F_X6_ofStep it is (0 : Int32))) (F_X0_get f (F_X6_ofStep it is (1 : Int32))) (F_X0_get f (F_X6_ofStep it is (2 : Int32))) H.size) gX5_countBooking_X6_ofLeft_n83 (by decide +kernel) (by decide +kernel) (by decide +kernel) rfl (by decide +kernel) rfl ⟨Nat.le_of_ble_eq_true rfl, Nat.le_of_ble_eq_true rfl⟩ ⟨Nat.le_of_ble_eq_true rfl, Nat.le_of_ble_eq_true rfl⟩ hE hP hD hS hA rfl rfl hl rfl (Nat.le_of_ble_eq_true rfl) dX5_countBooking_55) hP hD hS hA rfl (fun _ => rfl) rfl rfl (fun r_8 _ H locs hr_8 hP hD hS => ?_)
  rw [hp_7] at hr_8
  obtain rfl : p_7 = r_8 := hr_8.symm
  dsimp only [fs, List.set] at hP hD
  have hP : va_P D vwCl [(t, .inr (9, [.ref b])), (b, .inr (4, [.ref r])), (r, .inl (k.1, 628, .inl f))] H := hP
  have hD : va_D A [(t, .inr (9, [.ref b])), (b, .inr (4, [.ref r])), (r, .inl (k.1, 628, .inl f))] := hD
  refine lv_iload_n hx hb dX5_countBooking_58 rfl (lv_at hl 6 rfl) ?_
  refine lv_ineg hx hb dX5_countBooking_59 ?_
  refine lv_aload_n hx hb dX5_countBooking_60 rfl (lv_at hl 3 rfl) ?_
  refine va_get (D := D) (ci := 9) (v := .ref b) (C := RX5) (T := TX5) (N := 1) hx hb hts in_X5_countBooking_X5 hown hE.1 hP 0 rfl rfl 0 (by decide) (hts _ lk_X5_countBooking_12) (fun _ h9 => h9) rfl dX5_countBooking_61 ?_
  refine lv_iload_n hx hb dX5_countBooking_64 rfl (lv_at hl 4 rfl) ?_
  refine lv_iload_n hx hb dX5_countBooking_65 rfl (lv_at hl 5 rfl) ?_
  refine lv_iconst (v := 3) hx hb dX5_countBooking_66 (by decide) ?_
  refine fc_ci (isC := []) (cells' := 0) (slots' := 0) (fc_runSN (n := 3) (As := [.int it, .int is, .int (3 : Int32)]) (rest := [.ref b, .int (-ig), .int p_7, .ref b]) (isC := []) (maxL := 3) ⟨hx, hb, hml, hown, hts⟩ (c_X6_ofStep it is (3 : Int32) H.size) gX5_countBooking_X6_ofStep_n33 (by decide +kernel) (by decide +kernel) (by decide +kernel) rfl (by decide +kernel) rfl ⟨Nat.le_of_ble_eq_true rfl, Nat.le_of_ble_eq_true rfl⟩ ⟨Nat.le_of_ble_eq_true rfl, Nat.le_of_ble_eq_true rfl⟩ hE hP hD hS hA rfl rfl hl rfl (Nat.le_of_ble_eq_true rfl) dX5_countBooking_67) hP hD hS hA rfl (fun _ => rfl) rfl rfl (fun r_9 _ H locs hr_9 hP hD hS => ?_)
  obtain rfl : (F_X6_ofStep it is (3 : Int32)) = r_9 := hr_9.symm
  dsimp only [fs, List.set] at hP hD
  have hP : va_P D vwCl [(t, .inr (9, [.ref b])), (b, .inr (4, [.ref r])), (r, .inl (k.1, 628, .inl f))] H := hP
  have hD : va_D A [(t, .inr (9, [.ref b])), (b, .inr (4, [.ref r])), (r, .inl (k.1, 628, .inl f))] := hD
  refine fc_ci (isC := [1, 2]) (cells' := 0) (slots' := 0) (fc_runV (n := 1) (As := [.int (F_X6_ofStep it is (3 : Int32))]) (rest := [.int (-ig), .int p_7, .ref b]) (isC := [1, 2]) (maxL := 2) ⟨hx, hb, hml, hown, hts⟩ (c_X0_get b r f (F_X6_ofStep it is (3 : Int32)) H.size) gX5_countBooking_X0_get rfl (by decide +kernel) rfl ⟨Nat.le_of_ble_eq_true rfl, Nat.le_of_ble_eq_true rfl⟩ ⟨Nat.le_of_ble_eq_true rfl, Nat.le_of_ble_eq_true rfl⟩ hE hP hD hS hA rfl rfl (va_recv hE.1 hP (ci := 4) (q0 := 1) rfl rfl) hl rfl (Nat.le_of_ble_eq_true rfl) dX5_countBooking_70) hP hD hS hA rfl (fun _ => rfl) rfl rfl (fun r_10 _ H locs hr_10 hP hD hS => ?_)
  obtain rfl : (F_X0_get f (F_X6_ofStep it is (3 : Int32))) = r_10 := hr_10.symm
  dsimp only [fs, List.set] at hP hD
  have hP : va_P D vwCl [(t, .inr (9, [.ref b])), (b, .inr (4, [.ref r])), (r, .inl (k.1, 628, .inl f))] H := hP
  have hD : va_D A [(t, .inr (9, [.ref b])), (b, .inr (4, [.ref r])), (r, .inl (k.1, 628, .inl f))] := hD
  refine lv_imul hx hb dX5_countBooking_73 ?_
  refine fc_cv (isC := [1, 2]) (cells' := 0) (slots' := 0) (fc_runV (n := 2) (As := [.int p_7, .int ((-ig) * (F_X0_get f (F_X6_ofStep it is (3 : Int32))))]) (rest := []) (isC := [1, 2]) (maxL := 3) ⟨hx, hb, hml, hown, hts⟩ (c_X0_add b r f p_7 ((-ig) * (F_X0_get f (F_X6_ofStep it is (3 : Int32)))) H.size) gX5_countBooking_X0_add rfl (by decide +kernel) rfl ⟨Nat.le_of_ble_eq_true rfl, Nat.le_of_ble_eq_true rfl⟩ ⟨Nat.le_of_ble_eq_true rfl, Nat.le_of_ble_eq_true rfl⟩ hE hP hD hS hA rfl rfl (va_recv hE.1 hP (ci := 4) (q0 := 1) rfl rfl) hl rfl (Nat.le_of_ble_eq_true rfl) dX5_countBooking_74) hP hD hS hA rfl (fun _ => rfl) rfl rfl (fun _ H locs _ hP hD hS => ?_)
  dsimp only [fs, List.set] at hP hD
  have hP : va_P D vwCl [(t, .inr (9, [.ref b])), (b, .inr (4, [.ref r])), (r, .inl (k.1, 628, .inl (F_X0_add f p_7 ((-ig) * (F_X0_get f (F_X6_ofStep it is (3 : Int32)))))))] H := hP
  have hD : va_D A [(t, .inr (9, [.ref b])), (b, .inr (4, [.ref r])), (r, .inl (k.1, 628, .inl (F_X0_add f p_7 ((-ig) * (F_X0_get f (F_X6_ofStep it is (3 : Int32)))))))] := hD
  refine lv_aload_n hx hb dX5_countBooking_77 rfl (lv_at hl 3 rfl) ?_
  refine va_get (D := D) (ci := 9) (v := .ref b) (C := RX5) (T := TX5) (N := 1) hx hb hts in_X5_countBooking_X5 hown hE.1 hP 0 rfl rfl 0 (by decide) (hts _ lk_X5_countBooking_12) (fun _ h9 => h9) rfl dX5_countBooking_78 ?_
  refine lv_iload hx hb dX5_countBooking_81 (lv_at hl 1 rfl) ?_
  refine lv_iconst (v := 2) hx hb dX5_countBooking_83 (by decide) ?_
  generalize hp_11 : (F_X6_ofTown (F_X0_get f (F_X6_ofStep it is (1 : Int32))) (2 : Int32)) = p_11 at hF
  rw [letp_eq] at hF
  refine fc_ci (isC := []) (cells' := 0) (slots' := 0) (fc_runSN (n := 2) (As := [.int (F_X0_get f (F_X6_ofStep it is (1 : Int32))), .int (2 : Int32)]) (rest := [.ref b]) (isC := []) (maxL := 2) ⟨hx, hb, hml, hown, hts⟩ (c_X6_ofTown (F_X0_get f (F_X6_ofStep it is (1 : Int32))) (2 : Int32) H.size) gX5_countBooking_X6_ofTown_n44 (by decide +kernel) (by decide +kernel) (by decide +kernel) rfl (by decide +kernel) rfl ⟨Nat.le_of_ble_eq_true rfl, Nat.le_of_ble_eq_true rfl⟩ ⟨Nat.le_of_ble_eq_true rfl, Nat.le_of_ble_eq_true rfl⟩ hE hP hD hS hA rfl rfl hl rfl (Nat.le_of_ble_eq_true rfl) dX5_countBooking_84) hP hD hS hA rfl (fun _ => rfl) rfl rfl (fun r_12 _ H locs hr_12 hP hD hS => ?_)
  rw [hp_11] at hr_12
  obtain rfl : p_11 = r_12 := hr_12.symm
  dsimp only [fs, List.set] at hP hD
  have hP : va_P D vwCl [(t, .inr (9, [.ref b])), (b, .inr (4, [.ref r])), (r, .inl (k.1, 628, .inl (F_X0_add f p_7 ((-ig) * (F_X0_get f (F_X6_ofStep it is (3 : Int32)))))))] H := hP
  have hD : va_D A [(t, .inr (9, [.ref b])), (b, .inr (4, [.ref r])), (r, .inl (k.1, 628, .inl (F_X0_add f p_7 ((-ig) * (F_X0_get f (F_X6_ofStep it is (3 : Int32)))))))] := hD
  refine lv_iload_n hx hb dX5_countBooking_87 rfl (lv_at hl 6 rfl) ?_
  refine fc_cv (isC := [1, 2]) (cells' := 0) (slots' := 0) (fc_runV (n := 2) (As := [.int p_11, .int ig]) (rest := []) (isC := [1, 2]) (maxL := 3) ⟨hx, hb, hml, hown, hts⟩ (c_X0_add b r (F_X0_add f p_7 ((-ig) * (F_X0_get f (F_X6_ofStep it is (3 : Int32))))) p_11 ig H.size) gX5_countBooking_X0_add rfl (by decide +kernel) rfl ⟨Nat.le_of_ble_eq_true rfl, Nat.le_of_ble_eq_true rfl⟩ ⟨Nat.le_of_ble_eq_true rfl, Nat.le_of_ble_eq_true rfl⟩ hE hP hD hS hA rfl rfl (va_recv hE.1 hP (ci := 4) (q0 := 1) rfl rfl) hl rfl (Nat.le_of_ble_eq_true rfl) dX5_countBooking_88) hP hD hS hA rfl (fun _ => rfl) rfl rfl (fun _ H locs _ hP hD hS => ?_)
  dsimp only [fs, List.set] at hP hD
  have hP : va_P D vwCl [(t, .inr (9, [.ref b])), (b, .inr (4, [.ref r])), (r, .inl (k.1, 628, .inl (F_X0_add (F_X0_add f p_7 ((-ig) * (F_X0_get f (F_X6_ofStep it is (3 : Int32))))) p_11 ig)))] H := hP
  have hD : va_D A [(t, .inr (9, [.ref b])), (b, .inr (4, [.ref r])), (r, .inl (k.1, 628, .inl (F_X0_add (F_X0_add f p_7 ((-ig) * (F_X0_get f (F_X6_ofStep it is (3 : Int32))))) p_11 ig)))] := hD
  refine lv_aload_n hx hb dX5_countBooking_91 rfl (lv_at hl 3 rfl) ?_
  refine va_get (D := D) (ci := 9) (v := .ref b) (C := RX5) (T := TX5) (N := 1) hx hb hts in_X5_countBooking_X5 hown hE.1 hP 0 rfl rfl 0 (by decide) (hts _ lk_X5_countBooking_12) (fun _ h9 => h9) rfl dX5_countBooking_92 ?_
  refine lv_iload_n hx hb dX5_countBooking_95 rfl (lv_at hl 4 rfl) ?_
  refine lv_iconst (v := 3) hx hb dX5_countBooking_96 (by decide) ?_
  refine fc_ci (isC := []) (cells' := 0) (slots' := 0) (fc_runSN (n := 2) (As := [.int it, .int (3 : Int32)]) (rest := [.ref b]) (isC := []) (maxL := 2) ⟨hx, hb, hml, hown, hts⟩ (c_X6_ofTour it (3 : Int32) H.size) gX5_countBooking_X6_ofTour_n22 (by decide +kernel) (by decide +kernel) (by decide +kernel) rfl (by decide +kernel) rfl ⟨Nat.le_of_ble_eq_true rfl, Nat.le_of_ble_eq_true rfl⟩ ⟨Nat.le_of_ble_eq_true rfl, Nat.le_of_ble_eq_true rfl⟩ hE hP hD hS hA rfl rfl hl rfl (Nat.le_of_ble_eq_true rfl) dX5_countBooking_97) hP hD hS hA rfl (fun _ => rfl) rfl rfl (fun r_13 _ H locs hr_13 hP hD hS => ?_)
  obtain rfl : (F_X6_ofTour it (3 : Int32)) = r_13 := hr_13.symm
  dsimp only [fs, List.set] at hP hD
  have hP : va_P D vwCl [(t, .inr (9, [.ref b])), (b, .inr (4, [.ref r])), (r, .inl (k.1, 628, .inl (F_X0_add (F_X0_add f p_7 ((-ig) * (F_X0_get f (F_X6_ofStep it is (3 : Int32))))) p_11 ig)))] H := hP
  have hD : va_D A [(t, .inr (9, [.ref b])), (b, .inr (4, [.ref r])), (r, .inl (k.1, 628, .inl (F_X0_add (F_X0_add f p_7 ((-ig) * (F_X0_get f (F_X6_ofStep it is (3 : Int32))))) p_11 ig)))] := hD
  refine lv_iload_n hx hb dX5_countBooking_100 rfl (lv_at hl 6 rfl) ?_
  generalize hp_14 : (F_X0_add (F_X0_add (F_X0_add f p_7 ((-ig) * (F_X0_get f (F_X6_ofStep it is (3 : Int32))))) p_11 ig) (F_X6_ofTour it (3 : Int32)) ig) = p_14 at hF
  rw [letp_eq] at hF
  refine fc_cv (isC := [1, 2]) (cells' := 0) (slots' := 0) (fc_runV (n := 2) (As := [.int (F_X6_ofTour it (3 : Int32)), .int ig]) (rest := []) (isC := [1, 2]) (maxL := 3) ⟨hx, hb, hml, hown, hts⟩ (c_X0_add b r (F_X0_add (F_X0_add f p_7 ((-ig) * (F_X0_get f (F_X6_ofStep it is (3 : Int32))))) p_11 ig) (F_X6_ofTour it (3 : Int32)) ig H.size) gX5_countBooking_X0_add rfl (by decide +kernel) rfl ⟨Nat.le_of_ble_eq_true rfl, Nat.le_of_ble_eq_true rfl⟩ ⟨Nat.le_of_ble_eq_true rfl, Nat.le_of_ble_eq_true rfl⟩ hE hP hD hS hA rfl rfl (va_recv hE.1 hP (ci := 4) (q0 := 1) rfl rfl) hl rfl (Nat.le_of_ble_eq_true rfl) dX5_countBooking_101) hP hD hS hA rfl (fun _ => rfl) rfl rfl (fun _ H locs _ hP hD hS => ?_)
  rw [hp_14] at hP hD
  dsimp only [fs, List.set] at hP hD
  have hP : va_P D vwCl [(t, .inr (9, [.ref b])), (b, .inr (4, [.ref r])), (r, .inl (k.1, 628, .inl p_14))] H := hP
  have hD : va_D A [(t, .inr (9, [.ref b])), (b, .inr (4, [.ref r])), (r, .inl (k.1, 628, .inl p_14))] := hD
  refine lv_aload_n hx hb dX5_countBooking_104 rfl (lv_at hl 3 rfl) ?_
  refine va_get (D := D) (ci := 9) (v := .ref b) (C := RX5) (T := TX5) (N := 1) hx hb hts in_X5_countBooking_X5 hown hE.1 hP 0 rfl rfl 0 (by decide) (hts _ lk_X5_countBooking_12) (fun _ h9 => h9) rfl dX5_countBooking_105 ?_
  refine lv_iload_n hx hb dX5_countBooking_108 rfl (lv_at hl 4 rfl) ?_
  refine lv_iconst (v := 4) hx hb dX5_countBooking_109 (by decide) ?_
  refine fc_ci (isC := []) (cells' := 0) (slots' := 0) (fc_runSN (n := 2) (As := [.int it, .int (4 : Int32)]) (rest := [.ref b]) (isC := []) (maxL := 2) ⟨hx, hb, hml, hown, hts⟩ (c_X6_ofTour it (4 : Int32) H.size) gX5_countBooking_X6_ofTour_n22 (by decide +kernel) (by decide +kernel) (by decide +kernel) rfl (by decide +kernel) rfl ⟨Nat.le_of_ble_eq_true rfl, Nat.le_of_ble_eq_true rfl⟩ ⟨Nat.le_of_ble_eq_true rfl, Nat.le_of_ble_eq_true rfl⟩ hE hP hD hS hA rfl rfl hl rfl (Nat.le_of_ble_eq_true rfl) dX5_countBooking_110) hP hD hS hA rfl (fun _ => rfl) rfl rfl (fun r_15 _ H locs hr_15 hP hD hS => ?_)
  obtain rfl : (F_X6_ofTour it (4 : Int32)) = r_15 := hr_15.symm
  dsimp only [fs, List.set] at hP hD
  have hP : va_P D vwCl [(t, .inr (9, [.ref b])), (b, .inr (4, [.ref r])), (r, .inl (k.1, 628, .inl p_14))] H := hP
  have hD : va_D A [(t, .inr (9, [.ref b])), (b, .inr (4, [.ref r])), (r, .inl (k.1, 628, .inl p_14))] := hD
  refine lv_iconst (v := 0) hx hb dX5_countBooking_113 (by decide) ?_
  refine fc_cv (isC := [1, 2]) (cells' := 0) (slots' := 0) (fc_runV (n := 2) (As := [.int (F_X6_ofTour it (4 : Int32)), .int (0 : Int32)]) (rest := []) (isC := [1, 2]) (maxL := 3) ⟨hx, hb, hml, hown, hts⟩ (c_X0_set b r p_14 (F_X6_ofTour it (4 : Int32)) (0 : Int32) H.size) gX5_countBooking_X0_set rfl (by decide +kernel) rfl ⟨Nat.le_of_ble_eq_true rfl, Nat.le_of_ble_eq_true rfl⟩ ⟨Nat.le_of_ble_eq_true rfl, Nat.le_of_ble_eq_true rfl⟩ hE hP hD hS hA rfl rfl (va_recv hE.1 hP (ci := 4) (q0 := 1) rfl rfl) hl rfl (Nat.le_of_ble_eq_true rfl) dX5_countBooking_114) hP hD hS hA rfl (fun _ => rfl) rfl rfl (fun _ H locs _ hP hD hS => ?_)
  dsimp only [fs, List.set] at hP hD
  have hP : va_P D vwCl [(t, .inr (9, [.ref b])), (b, .inr (4, [.ref r])), (r, .inl (k.1, 628, .inl (F_X0_set p_14 (F_X6_ofTour it (4 : Int32)) (0 : Int32))))] H := hP
  have hD : va_D A [(t, .inr (9, [.ref b])), (b, .inr (4, [.ref r])), (r, .inl (k.1, 628, .inl (F_X0_set p_14 (F_X6_ofTour it (4 : Int32)) (0 : Int32))))] := hD
  subst hF
  exact fc_vret hx hb hr hlk hS () trivial hP hD (by decide) (by decide) dX5_countBooking_117

abbrev rm_X5_finishTour : Room := { frames := 2, cells := 0, slots := 0, locals := 46 }
theorem in_X5_finishTour_X5 : ∀ w ∈ wsX50, w ∈ wsX5_finishTour := by decide +kernel
theorem lk_X5_finishTour_12 : (Cond.fieldLink RX5 12 "TheatreSaga$Theatre" "books" "LTheatreSaga$Books;") ∈ wsX5_finishTour := by decide +kernel
def FL_X5_finishTour_4 : Nat → (Nat → Int32) → Int32 → Int32 → Int32 → (Nat → Int32)
  | 0, f, x1, x2, x3 => f
  | n + 1, f, x1, x2, x3 => (if (F_X0_get f (F_X6_ofTour x1 (2 : Int32))) ≤ x3 then (letp (F_X0_add (F_X0_add (F_X0_set f (F_X6_ofTour x1 (0 : Int32)) (3 : Int32)) (F_X6_ofTour x1 (8 : Int32)) x2) (10 : Int32) x2) (fun (p_6 : (Nat → Int32)) => (F_X5_gainCoins p_6 x2))) else (if (F_X0_get f (F_X6_ofStep x1 x3 (0 : Int32))) = (0 : Int32) then (FL_X5_finishTour_4 n f x1 (x2 + (10 : Int32)) (x3 + (1 : Int32))) else (FL_X5_finishTour_4 n f x1 (x2 + (0 : Int32)) (x3 + (1 : Int32)))))
def F_X5_finishTour (f : (Nat → Int32)) (it : Int32) : (Nat → Int32) := (FL_X5_finishTour_4 (((F_X0_get f (F_X6_ofTour it (2 : Int32))).toInt - ((0 : Int32) : Int32).toInt).toNat + 1) f it (0 : Int32) (0 : Int32))
set_option maxHeartbeats 4000000 in
set_option maxRecDepth 100000 in
theorem lp_X5_finishTour_4 {p : Program} {l : Launch} {e : Env} {s : State} {m : MethodId} {args : Array Value} {below : List Frame} {meth : Method} {c : Code} {D : va_G} {k : tyK} {A : Nat → Prop} (hx : p.tables.exec = Jvm.exec) (hb : c.code = cX5_finishTour) (hml : c.maxLocals = 4) (hr : meth.sig.returnType = none) (hts : ∀ w ∈ wsX5_finishTour, w.before args s = true) (hown : s.vm.findClass RX5 = some m.cls) (hlk : meth.locks = false) (hA : ∀ q : Nat, s.heap.size ≤ q → A q) (hE : GE D k A s) (t b r : Nat) :
    ∀ (n : Nat) (f : (Nat → Int32)) (x1 : Int32) (x2 : Int32) (x3 : Int32) (RES : (Nat → Int32)), FL_X5_finishTour_4 n f x1 x2 x3 = RES → (((F_X0_get f (F_X6_ofTour x1 (2 : Int32))) : Int32).toInt - (x3 : Int32).toInt).toNat < n → ∀ (H : Heap) (locs : List Loc), va_P D vwCl [(t, .inr (9, [.ref b])), (b, .inr (4, [.ref r])), (r, .inl (k.1, 628, .inl f))] H → va_D A [(t, .inr (9, [.ref b])), (b, .inr (4, [.ref r])), (r, .inl (k.1, 628, .inl f))] → va_S A s.heap H locs → ∀ ls : Array Slot, lv_has ls 4 [(0, .ref t), (1, .int x1), (2, .int x2), (3, .int x3)] → W p l e rm_X5_finishTour s m args below meth c H locs 0 0 (MQ below (va_Qv (fun (_ : Unit) => True) (Bt D (fun _ => [(t, .inr (9, [.ref b])), (b, .inr (4, [.ref r])), (r, .inl (k.1, 628, .inl RES))]) A) A) args s rm_X5_finishTour.cells rm_X5_finishTour.slots A) (F0 m 4 ls []) := by
  intro n
  induction n with
  | zero =>
    intro f x1 x2 x3 RES hF hm H locs hP hD hS ls hl
    exact absurd hm (Nat.not_lt_zero _)
  | succ n ih =>
    intro f x1 x2 x3 RES hF hm H locs hP hD hS ls hl
    rw [FL_X5_finishTour_4] at hF
    refine lv_iload_n hx hb dX5_finishTour_4 rfl (lv_at hl 3 rfl) ?_
    refine lv_aload_n hx hb dX5_finishTour_5 rfl (lv_at hl 0 rfl) ?_
    refine va_get (D := D) (ci := 9) (v := .ref b) (C := RX5) (T := TX5) (N := 1) hx hb hts in_X5_finishTour_X5 hown hE.1 hP 0 rfl rfl 0 (by decide) (hts _ lk_X5_finishTour_12) (fun _ h9 => h9) rfl dX5_finishTour_6 ?_
    refine lv_iload_n hx hb dX5_finishTour_9 rfl (lv_at hl 1 rfl) ?_
    refine lv_iconst (v := 2) hx hb dX5_finishTour_10 (by decide) ?_
    refine fc_ci (isC := []) (cells' := 0) (slots' := 0) (fc_runSN (n := 2) (As := [.int x1, .int (2 : Int32)]) (rest := [.ref b, .int x3]) (isC := []) (maxL := 2) ⟨hx, hb, hml, hown, hts⟩ (c_X6_ofTour x1 (2 : Int32) H.size) gX5_finishTour_X6_ofTour_n22 (by decide +kernel) (by decide +kernel) (by decide +kernel) rfl (by decide +kernel) rfl ⟨Nat.le_of_ble_eq_true rfl, Nat.le_of_ble_eq_true rfl⟩ ⟨Nat.le_of_ble_eq_true rfl, Nat.le_of_ble_eq_true rfl⟩ hE hP hD hS hA rfl rfl hl rfl (Nat.le_of_ble_eq_true rfl) dX5_finishTour_11) hP hD hS hA rfl (fun _ => rfl) rfl rfl (fun r_1 _ H locs hr_1 hP hD hS => ?_)
    obtain rfl : (F_X6_ofTour x1 (2 : Int32)) = r_1 := hr_1.symm
    dsimp only [fs, List.set] at hP hD
    have hP : va_P D vwCl [(t, .inr (9, [.ref b])), (b, .inr (4, [.ref r])), (r, .inl (k.1, 628, .inl f))] H := hP
    have hD : va_D A [(t, .inr (9, [.ref b])), (b, .inr (4, [.ref r])), (r, .inl (k.1, 628, .inl f))] := hD
    refine fc_ci (isC := [1, 2]) (cells' := 0) (slots' := 0) (fc_runV (n := 1) (As := [.int (F_X6_ofTour x1 (2 : Int32))]) (rest := [.int x3]) (isC := [1, 2]) (maxL := 2) ⟨hx, hb, hml, hown, hts⟩ (c_X0_get b r f (F_X6_ofTour x1 (2 : Int32)) H.size) gX5_finishTour_X0_get rfl (by decide +kernel) rfl ⟨Nat.le_of_ble_eq_true rfl, Nat.le_of_ble_eq_true rfl⟩ ⟨Nat.le_of_ble_eq_true rfl, Nat.le_of_ble_eq_true rfl⟩ hE hP hD hS hA rfl rfl (va_recv hE.1 hP (ci := 4) (q0 := 1) rfl rfl) hl rfl (Nat.le_of_ble_eq_true rfl) dX5_finishTour_14) hP hD hS hA rfl (fun _ => rfl) rfl rfl (fun r_2 _ H locs hr_2 hP hD hS => ?_)
    obtain rfl : (F_X0_get f (F_X6_ofTour x1 (2 : Int32))) = r_2 := hr_2.symm
    dsimp only [fs, List.set] at hP hD
    have hP : va_P D vwCl [(t, .inr (9, [.ref b])), (b, .inr (4, [.ref r])), (r, .inl (k.1, 628, .inl f))] H := hP
    have hD : va_D A [(t, .inr (9, [.ref b])), (b, .inr (4, [.ref r])), (r, .inl (k.1, 628, .inl f))] := hD
    refine lv_icmp_ge (tgt := 51) hx hb dX5_finishTour_17 (by decide) (fun c_3 => ?_) (fun c_3 => ?_)
    · rw [if_pos c_3] at hF
      refine lv_aload_n hx hb dX5_finishTour_51 rfl (lv_at hl 0 rfl) ?_
      refine va_get (D := D) (ci := 9) (v := .ref b) (C := RX5) (T := TX5) (N := 1) hx hb hts in_X5_finishTour_X5 hown hE.1 hP 0 rfl rfl 0 (by decide) (hts _ lk_X5_finishTour_12) (fun _ h9 => h9) rfl dX5_finishTour_52 ?_
      refine lv_iload_n hx hb dX5_finishTour_55 rfl (lv_at hl 1 rfl) ?_
      refine lv_iconst (v := 0) hx hb dX5_finishTour_56 (by decide) ?_
      refine fc_ci (isC := []) (cells' := 0) (slots' := 0) (fc_runSN (n := 2) (As := [.int x1, .int (0 : Int32)]) (rest := [.ref b]) (isC := []) (maxL := 2) ⟨hx, hb, hml, hown, hts⟩ (c_X6_ofTour x1 (0 : Int32) H.size) gX5_finishTour_X6_ofTour_n22 (by decide +kernel) (by decide +kernel) (by decide +kernel) rfl (by decide +kernel) rfl ⟨Nat.le_of_ble_eq_true rfl, Nat.le_of_ble_eq_true rfl⟩ ⟨Nat.le_of_ble_eq_true rfl, Nat.le_of_ble_eq_true rfl⟩ hE hP hD hS hA rfl rfl hl rfl (Nat.le_of_ble_eq_true rfl) dX5_finishTour_57) hP hD hS hA rfl (fun _ => rfl) rfl rfl (fun r_4 _ H locs hr_4 hP hD hS => ?_)
      obtain rfl : (F_X6_ofTour x1 (0 : Int32)) = r_4 := hr_4.symm
      dsimp only [fs, List.set] at hP hD
      have hP : va_P D vwCl [(t, .inr (9, [.ref b])), (b, .inr (4, [.ref r])), (r, .inl (k.1, 628, .inl f))] H := hP
      have hD : va_D A [(t, .inr (9, [.ref b])), (b, .inr (4, [.ref r])), (r, .inl (k.1, 628, .inl f))] := hD
      refine lv_iconst (v := 3) hx hb dX5_finishTour_60 (by decide) ?_
      refine fc_cv (isC := [1, 2]) (cells' := 0) (slots' := 0) (fc_runV (n := 2) (As := [.int (F_X6_ofTour x1 (0 : Int32)), .int (3 : Int32)]) (rest := []) (isC := [1, 2]) (maxL := 3) ⟨hx, hb, hml, hown, hts⟩ (c_X0_set b r f (F_X6_ofTour x1 (0 : Int32)) (3 : Int32) H.size) gX5_finishTour_X0_set rfl (by decide +kernel) rfl ⟨Nat.le_of_ble_eq_true rfl, Nat.le_of_ble_eq_true rfl⟩ ⟨Nat.le_of_ble_eq_true rfl, Nat.le_of_ble_eq_true rfl⟩ hE hP hD hS hA rfl rfl (va_recv hE.1 hP (ci := 4) (q0 := 1) rfl rfl) hl rfl (Nat.le_of_ble_eq_true rfl) dX5_finishTour_61) hP hD hS hA rfl (fun _ => rfl) rfl rfl (fun _ H locs _ hP hD hS => ?_)
      dsimp only [fs, List.set] at hP hD
      have hP : va_P D vwCl [(t, .inr (9, [.ref b])), (b, .inr (4, [.ref r])), (r, .inl (k.1, 628, .inl (F_X0_set f (F_X6_ofTour x1 (0 : Int32)) (3 : Int32))))] H := hP
      have hD : va_D A [(t, .inr (9, [.ref b])), (b, .inr (4, [.ref r])), (r, .inl (k.1, 628, .inl (F_X0_set f (F_X6_ofTour x1 (0 : Int32)) (3 : Int32))))] := hD
      refine lv_aload_n hx hb dX5_finishTour_64 rfl (lv_at hl 0 rfl) ?_
      refine va_get (D := D) (ci := 9) (v := .ref b) (C := RX5) (T := TX5) (N := 1) hx hb hts in_X5_finishTour_X5 hown hE.1 hP 0 rfl rfl 0 (by decide) (hts _ lk_X5_finishTour_12) (fun _ h9 => h9) rfl dX5_finishTour_65 ?_
      refine lv_iload_n hx hb dX5_finishTour_68 rfl (lv_at hl 1 rfl) ?_
      refine lv_bipush (v := 8) hx hb dX5_finishTour_69 (by decide) ?_
      refine fc_ci (isC := []) (cells' := 0) (slots' := 0) (fc_runSN (n := 2) (As := [.int x1, .int (8 : Int32)]) (rest := [.ref b]) (isC := []) (maxL := 2) ⟨hx, hb, hml, hown, hts⟩ (c_X6_ofTour x1 (8 : Int32) H.size) gX5_finishTour_X6_ofTour_n22 (by decide +kernel) (by decide +kernel) (by decide +kernel) rfl (by decide +kernel) rfl ⟨Nat.le_of_ble_eq_true rfl, Nat.le_of_ble_eq_true rfl⟩ ⟨Nat.le_of_ble_eq_true rfl, Nat.le_of_ble_eq_true rfl⟩ hE hP hD hS hA rfl rfl hl rfl (Nat.le_of_ble_eq_true rfl) dX5_finishTour_71) hP hD hS hA rfl (fun _ => rfl) rfl rfl (fun r_5 _ H locs hr_5 hP hD hS => ?_)
      obtain rfl : (F_X6_ofTour x1 (8 : Int32)) = r_5 := hr_5.symm
      dsimp only [fs, List.set] at hP hD
      have hP : va_P D vwCl [(t, .inr (9, [.ref b])), (b, .inr (4, [.ref r])), (r, .inl (k.1, 628, .inl (F_X0_set f (F_X6_ofTour x1 (0 : Int32)) (3 : Int32))))] H := hP
      have hD : va_D A [(t, .inr (9, [.ref b])), (b, .inr (4, [.ref r])), (r, .inl (k.1, 628, .inl (F_X0_set f (F_X6_ofTour x1 (0 : Int32)) (3 : Int32))))] := hD
      refine lv_iload_n hx hb dX5_finishTour_74 rfl (lv_at hl 2 rfl) ?_
      refine fc_cv (isC := [1, 2]) (cells' := 0) (slots' := 0) (fc_runV (n := 2) (As := [.int (F_X6_ofTour x1 (8 : Int32)), .int x2]) (rest := []) (isC := [1, 2]) (maxL := 3) ⟨hx, hb, hml, hown, hts⟩ (c_X0_add b r (F_X0_set f (F_X6_ofTour x1 (0 : Int32)) (3 : Int32)) (F_X6_ofTour x1 (8 : Int32)) x2 H.size) gX5_finishTour_X0_add rfl (by decide +kernel) rfl ⟨Nat.le_of_ble_eq_true rfl, Nat.le_of_ble_eq_true rfl⟩ ⟨Nat.le_of_ble_eq_true rfl, Nat.le_of_ble_eq_true rfl⟩ hE hP hD hS hA rfl rfl (va_recv hE.1 hP (ci := 4) (q0 := 1) rfl rfl) hl rfl (Nat.le_of_ble_eq_true rfl) dX5_finishTour_75) hP hD hS hA rfl (fun _ => rfl) rfl rfl (fun _ H locs _ hP hD hS => ?_)
      dsimp only [fs, List.set] at hP hD
      have hP : va_P D vwCl [(t, .inr (9, [.ref b])), (b, .inr (4, [.ref r])), (r, .inl (k.1, 628, .inl (F_X0_add (F_X0_set f (F_X6_ofTour x1 (0 : Int32)) (3 : Int32)) (F_X6_ofTour x1 (8 : Int32)) x2)))] H := hP
      have hD : va_D A [(t, .inr (9, [.ref b])), (b, .inr (4, [.ref r])), (r, .inl (k.1, 628, .inl (F_X0_add (F_X0_set f (F_X6_ofTour x1 (0 : Int32)) (3 : Int32)) (F_X6_ofTour x1 (8 : Int32)) x2)))] := hD
      refine lv_aload_n hx hb dX5_finishTour_78 rfl (lv_at hl 0 rfl) ?_
      refine va_get (D := D) (ci := 9) (v := .ref b) (C := RX5) (T := TX5) (N := 1) hx hb hts in_X5_finishTour_X5 hown hE.1 hP 0 rfl rfl 0 (by decide) (hts _ lk_X5_finishTour_12) (fun _ h9 => h9) rfl dX5_finishTour_79 ?_
      refine lv_bipush (v := 10) hx hb dX5_finishTour_82 (by decide) ?_
      refine lv_iload_n hx hb dX5_finishTour_84 rfl (lv_at hl 2 rfl) ?_
      generalize hp_6 : (F_X0_add (F_X0_add (F_X0_set f (F_X6_ofTour x1 (0 : Int32)) (3 : Int32)) (F_X6_ofTour x1 (8 : Int32)) x2) (10 : Int32) x2) = p_6 at hF
      rw [letp_eq] at hF
      refine fc_cv (isC := [1, 2]) (cells' := 0) (slots' := 0) (fc_runV (n := 2) (As := [.int (10 : Int32), .int x2]) (rest := []) (isC := [1, 2]) (maxL := 3) ⟨hx, hb, hml, hown, hts⟩ (c_X0_add b r (F_X0_add (F_X0_set f (F_X6_ofTour x1 (0 : Int32)) (3 : Int32)) (F_X6_ofTour x1 (8 : Int32)) x2) (10 : Int32) x2 H.size) gX5_finishTour_X0_add rfl (by decide +kernel) rfl ⟨Nat.le_of_ble_eq_true rfl, Nat.le_of_ble_eq_true rfl⟩ ⟨Nat.le_of_ble_eq_true rfl, Nat.le_of_ble_eq_true rfl⟩ hE hP hD hS hA rfl rfl (va_recv hE.1 hP (ci := 4) (q0 := 1) rfl rfl) hl rfl (Nat.le_of_ble_eq_true rfl) dX5_finishTour_85) hP hD hS hA rfl (fun _ => rfl) rfl rfl (fun _ H locs _ hP hD hS => ?_)
      rw [hp_6] at hP hD
      dsimp only [fs, List.set] at hP hD
      have hP : va_P D vwCl [(t, .inr (9, [.ref b])), (b, .inr (4, [.ref r])), (r, .inl (k.1, 628, .inl p_6))] H := hP
      have hD : va_D A [(t, .inr (9, [.ref b])), (b, .inr (4, [.ref r])), (r, .inl (k.1, 628, .inl p_6))] := hD
      refine lv_aload_n hx hb dX5_finishTour_88 rfl (lv_at hl 0 rfl) ?_
      refine lv_iload_n hx hb dX5_finishTour_89 rfl (lv_at hl 2 rfl) ?_
      refine fc_cv (isC := [0, 1, 2]) (cells' := 0) (slots' := 0) (fc_runV (n := 1) (As := [.int x2]) (rest := []) (isC := [0, 1, 2]) (maxL := 3) ⟨hx, hb, hml, hown, hts⟩ (c_X5_gainCoins t b r p_6 x2 H.size) gX5_finishTour_X5_gainCoins rfl (by decide +kernel) rfl ⟨Nat.le_of_ble_eq_true rfl, Nat.le_of_ble_eq_true rfl⟩ ⟨Nat.le_of_ble_eq_true rfl, Nat.le_of_ble_eq_true rfl⟩ hE hP hD hS hA rfl rfl (va_recv hE.1 hP (ci := 9) (q0 := 0) rfl rfl) hl rfl (Nat.le_of_ble_eq_true rfl) dX5_finishTour_90) hP hD hS hA rfl (fun _ => rfl) rfl rfl (fun _ H locs _ hP hD hS => ?_)
      dsimp only [fs, List.set] at hP hD
      have hP : va_P D vwCl [(t, .inr (9, [.ref b])), (b, .inr (4, [.ref r])), (r, .inl (k.1, 628, .inl (F_X5_gainCoins p_6 x2)))] H := hP
      have hD : va_D A [(t, .inr (9, [.ref b])), (b, .inr (4, [.ref r])), (r, .inl (k.1, 628, .inl (F_X5_gainCoins p_6 x2)))] := hD
      subst hF
      exact fc_vret hx hb hr hlk hS () trivial hP hD (by decide) (by decide) dX5_finishTour_93
    · rw [if_neg c_3] at hF
      refine lv_iload_n hx hb dX5_finishTour_20 rfl (lv_at hl 2 rfl) ?_
      refine lv_aload_n hx hb dX5_finishTour_21 rfl (lv_at hl 0 rfl) ?_
      refine va_get (D := D) (ci := 9) (v := .ref b) (C := RX5) (T := TX5) (N := 1) hx hb hts in_X5_finishTour_X5 hown hE.1 hP 0 rfl rfl 0 (by decide) (hts _ lk_X5_finishTour_12) (fun _ h9 => h9) rfl dX5_finishTour_22 ?_
      refine lv_iload_n hx hb dX5_finishTour_25 rfl (lv_at hl 1 rfl) ?_
      refine lv_iload_n hx hb dX5_finishTour_26 rfl (lv_at hl 3 rfl) ?_
      refine lv_iconst (v := 0) hx hb dX5_finishTour_27 (by decide) ?_
      refine fc_ci (isC := []) (cells' := 0) (slots' := 0) (fc_runSN (n := 3) (As := [.int x1, .int x3, .int (0 : Int32)]) (rest := [.ref b, .int x2]) (isC := []) (maxL := 3) ⟨hx, hb, hml, hown, hts⟩ (c_X6_ofStep x1 x3 (0 : Int32) H.size) gX5_finishTour_X6_ofStep_n33 (by decide +kernel) (by decide +kernel) (by decide +kernel) rfl (by decide +kernel) rfl ⟨Nat.le_of_ble_eq_true rfl, Nat.le_of_ble_eq_true rfl⟩ ⟨Nat.le_of_ble_eq_true rfl, Nat.le_of_ble_eq_true rfl⟩ hE hP hD hS hA rfl rfl hl rfl (Nat.le_of_ble_eq_true rfl) dX5_finishTour_28) hP hD hS hA rfl (fun _ => rfl) rfl rfl (fun r_7 _ H locs hr_7 hP hD hS => ?_)
      obtain rfl : (F_X6_ofStep x1 x3 (0 : Int32)) = r_7 := hr_7.symm
      dsimp only [fs, List.set] at hP hD
      have hP : va_P D vwCl [(t, .inr (9, [.ref b])), (b, .inr (4, [.ref r])), (r, .inl (k.1, 628, .inl f))] H := hP
      have hD : va_D A [(t, .inr (9, [.ref b])), (b, .inr (4, [.ref r])), (r, .inl (k.1, 628, .inl f))] := hD
      refine fc_ci (isC := [1, 2]) (cells' := 0) (slots' := 0) (fc_runV (n := 1) (As := [.int (F_X6_ofStep x1 x3 (0 : Int32))]) (rest := [.int x2]) (isC := [1, 2]) (maxL := 2) ⟨hx, hb, hml, hown, hts⟩ (c_X0_get b r f (F_X6_ofStep x1 x3 (0 : Int32)) H.size) gX5_finishTour_X0_get rfl (by decide +kernel) rfl ⟨Nat.le_of_ble_eq_true rfl, Nat.le_of_ble_eq_true rfl⟩ ⟨Nat.le_of_ble_eq_true rfl, Nat.le_of_ble_eq_true rfl⟩ hE hP hD hS hA rfl rfl (va_recv hE.1 hP (ci := 4) (q0 := 1) rfl rfl) hl rfl (Nat.le_of_ble_eq_true rfl) dX5_finishTour_31) hP hD hS hA rfl (fun _ => rfl) rfl rfl (fun r_8 _ H locs hr_8 hP hD hS => ?_)
      obtain rfl : (F_X0_get f (F_X6_ofStep x1 x3 (0 : Int32))) = r_8 := hr_8.symm
      dsimp only [fs, List.set] at hP hD
      have hP : va_P D vwCl [(t, .inr (9, [.ref b])), (b, .inr (4, [.ref r])), (r, .inl (k.1, 628, .inl f))] H := hP
      have hD : va_D A [(t, .inr (9, [.ref b])), (b, .inr (4, [.ref r])), (r, .inl (k.1, 628, .inl f))] := hD
      refine lv_if_ne (tgt := 42) hx hb dX5_finishTour_34 (by decide) (fun c_9 => ?_) (fun c_9 => ?_)
      · rw [if_neg c_9] at hF
        refine lv_iconst (v := 0) hx hb dX5_finishTour_42 (by decide) ?_
        refine lv_iadd hx hb dX5_finishTour_43 ?_
        refine lv_istore_n (lv' := [(2, .int (x2 + (0 : Int32))), (0, .ref t), (1, .int x1), (3, .int x3)]) hx hb dX5_finishTour_44 rfl hl (by decide) rfl (fun ls hl => ?_)
        refine lv_iinc (v := (x3 + (1 : Int32))) (lv' := [(3, .int (x3 + (1 : Int32))), (2, .int (x2 + (0 : Int32))), (0, .ref t), (1, .int x1)]) hx hb dX5_finishTour_45 hl (k := 3) rfl rfl (by decide) rfl (fun ls hl => ?_)
        refine lv_goto (tgt := 4) hx hb dX5_finishTour_48 (by decide) ?_
        exact ih f x1 (x2 + (0 : Int32)) (x3 + (1 : Int32)) RES hF (lp_step c_3 hm) H locs hP hD hS ls (lv_sub hl [2, 3, 1, 0] rfl)
      · rw [if_pos c_9] at hF
        refine lv_bipush (v := 10) hx hb dX5_finishTour_37 (by decide) ?_
        refine lv_goto (tgt := 43) hx hb dX5_finishTour_39 (by decide) ?_
        refine lv_iadd hx hb dX5_finishTour_43 ?_
        refine lv_istore_n (lv' := [(2, .int (x2 + (10 : Int32))), (0, .ref t), (1, .int x1), (3, .int x3)]) hx hb dX5_finishTour_44 rfl hl (by decide) rfl (fun ls hl => ?_)
        refine lv_iinc (v := (x3 + (1 : Int32))) (lv' := [(3, .int (x3 + (1 : Int32))), (2, .int (x2 + (10 : Int32))), (0, .ref t), (1, .int x1)]) hx hb dX5_finishTour_45 hl (k := 3) rfl rfl (by decide) rfl (fun ls hl => ?_)
        refine lv_goto (tgt := 4) hx hb dX5_finishTour_48 (by decide) ?_
        exact ih f x1 (x2 + (10 : Int32)) (x3 + (1 : Int32)) RES hF (lp_step c_3 hm) H locs hP hD hS ls (lv_sub hl [2, 3, 1, 0] rfl)
set_option maxHeartbeats 4000000 in
set_option maxRecDepth 100000 in
theorem c_X5_finishTour {l : Launch} {D : va_G} {k : tyK} (t b r : Nat) (f : (Nat → Int32)) (it : Int32) : FCv l yX5_finishTour wsX5_finishTour rm_X5_finishTour D k [.ref t, .int it] [(t, .inr (9, [.ref b])), (b, .inr (4, [.ref r])), (r, .inl (k.1, 628, .inl f))] (fun (_ : Unit) => True) (fun _ => [(t, .inr (9, [.ref b])), (b, .inr (4, [.ref r])), (r, .inl (k.1, 628, .inl (F_X5_finishTour f it)))]) := by
  refine fc_start (cc := cX5_finishTour) (maxL := 4) (ret := none) (own := RX5) (Qc := fun A => va_Qv (fun (_ : Unit) => True) (Bt D (fun _ => [(t, .inr (9, [.ref b])), (b, .inr (4, [.ref r])), (r, .inl (k.1, 628, .inl (F_X5_finishTour f it)))]) A) A) (by decide) rfl rfl (Nat.le_of_ble_eq_true rfl) ?_
  intro p e s m below meth c A H hx hb hml hr hts hown hlk hname hA hP hE hD hS ls hl
  obtain ⟨RES, hF⟩ : ∃ z, (F_X5_finishTour f it) = z := ⟨_, rfl⟩
  rw [hF]
  unfold F_X5_finishTour at hF
  have hl : lv_has ls 4 [(0, .ref t), (1, .int it)] := hl
  obtain ⟨locs, hlocs⟩ : ∃ z : List Loc, z = [] := ⟨_, rfl⟩
  rw [← hlocs] at hS ⊢
  refine lv_iconst (v := 0) hx hb dX5_finishTour_0 (by decide) ?_
  refine lv_istore_n (lv' := [(2, .int (0 : Int32)), (0, .ref t), (1, .int it)]) hx hb dX5_finishTour_1 rfl hl (by decide) rfl (fun ls hl => ?_)
  refine lv_iconst (v := 0) hx hb dX5_finishTour_2 (by decide) ?_
  refine lv_istore_n (lv' := [(3, .int (0 : Int32)), (2, .int (0 : Int32)), (0, .ref t), (1, .int it)]) hx hb dX5_finishTour_3 rfl hl (by decide) rfl (fun ls hl => ?_)
  exact lp_X5_finishTour_4 hx hb hml hr hts hown hlk hA hE t b r (((F_X0_get f (F_X6_ofTour it (2 : Int32))).toInt - ((0 : Int32) : Int32).toInt).toNat + 1) f it (0 : Int32) (0 : Int32) RES hF (Nat.lt_succ_self _) H locs hP hD hS ls (lv_sub hl [2, 3, 1, 0] rfl)

abbrev rm_X5_bookNextStep : Room := { frames := 2, cells := 0, slots := 0, locals := 48 }
theorem in_X5_bookNextStep_X5 : ∀ w ∈ wsX50, w ∈ wsX5_bookNextStep := by decide +kernel
theorem lk_X5_bookNextStep_12 : (Cond.fieldLink RX5 12 "TheatreSaga$Theatre" "books" "LTheatreSaga$Books;") ∈ wsX5_bookNextStep := by decide +kernel
def F_X5_bookNextStep (f : (Nat → Int32)) (it : Int32) : (Nat → Int32) := (letp (F_X6_ofStep it (F_X0_get f (F_X6_ofTour it (3 : Int32))) (1 : Int32)) (fun (p_3 : Int32) => (letp (F_X5_priceOf f it (F_X0_get f (F_X6_ofTour it (3 : Int32)))) (fun (p_6 : Int32) => (letp (F_X6_ofStep it (F_X0_get f (F_X6_ofTour it (3 : Int32))) (4 : Int32)) (fun (p_8 : Int32) => (letp (F_X0_add (F_X0_add (F_X0_set f p_8 p_6) (F_X6_ofTour it (6 : Int32)) p_6) (F_X6_ofTown (F_X0_get f p_3) (3 : Int32)) p_6) (fun (p_12 : (Nat → Int32)) => (letp (F_X5_countBooking (F_X0_add (F_X0_add p_12 (8 : Int32) p_6) (7 : Int32) (-p_6)) it (F_X0_get f (F_X6_ofTour it (3 : Int32))) (1 : Int32)) (fun (p_13 : (Nat → Int32)) => p_13))))))))))
set_option maxHeartbeats 4000000 in
set_option maxRecDepth 100000 in
theorem c_X5_bookNextStep {l : Launch} {D : va_G} {k : tyK} (t b r : Nat) (f : (Nat → Int32)) (it : Int32) : FCv l yX5_bookNextStep wsX5_bookNextStep rm_X5_bookNextStep D k [.ref t, .int it] [(t, .inr (9, [.ref b])), (b, .inr (4, [.ref r])), (r, .inl (k.1, 628, .inl f))] (fun (_ : Unit) => True) (fun _ => [(t, .inr (9, [.ref b])), (b, .inr (4, [.ref r])), (r, .inl (k.1, 628, .inl (F_X5_bookNextStep f it)))]) := by
  refine fc_start (cc := cX5_bookNextStep) (maxL := 5) (ret := none) (own := RX5) (Qc := fun A => va_Qv (fun (_ : Unit) => True) (Bt D (fun _ => [(t, .inr (9, [.ref b])), (b, .inr (4, [.ref r])), (r, .inl (k.1, 628, .inl (F_X5_bookNextStep f it)))]) A) A) (by decide) rfl rfl (Nat.le_of_ble_eq_true rfl) ?_
  intro p e s m below meth c A H hx hb hml hr hts hown hlk hname hA hP hE hD hS ls hl
  obtain ⟨RES, hF⟩ : ∃ z, (F_X5_bookNextStep f it) = z := ⟨_, rfl⟩
  rw [hF]
  unfold F_X5_bookNextStep at hF
  have hl : lv_has ls 5 [(0, .ref t), (1, .int it)] := hl
  obtain ⟨locs, hlocs⟩ : ∃ z : List Loc, z = [] := ⟨_, rfl⟩
  rw [← hlocs] at hS ⊢
  refine lv_aload_n hx hb dX5_bookNextStep_0 rfl (lv_at hl 0 rfl) ?_
  refine va_get (D := D) (ci := 9) (v := .ref b) (C := RX5) (T := TX5) (N := 1) hx hb hts in_X5_bookNextStep_X5 hown hE.1 hP 0 rfl rfl 0 (by decide) (hts _ lk_X5_bookNextStep_12) (fun _ h9 => h9) rfl dX5_bookNextStep_1 ?_
  refine lv_iload_n hx hb dX5_bookNextStep_4 rfl (lv_at hl 1 rfl) ?_
  refine lv_iconst (v := 3) hx hb dX5_bookNextStep_5 (by decide) ?_
  refine fc_ci (isC := []) (cells' := 0) (slots' := 0) (fc_runSN (n := 2) (As := [.int it, .int (3 : Int32)]) (rest := [.ref b]) (isC := []) (maxL := 2) ⟨hx, hb, hml, hown, hts⟩ (c_X6_ofTour it (3 : Int32) H.size) gX5_bookNextStep_X6_ofTour_n22 (by decide +kernel) (by decide +kernel) (by decide +kernel) rfl (by decide +kernel) rfl ⟨Nat.le_of_ble_eq_true rfl, Nat.le_of_ble_eq_true rfl⟩ ⟨Nat.le_of_ble_eq_true rfl, Nat.le_of_ble_eq_true rfl⟩ hE hP hD hS hA rfl rfl hl rfl (Nat.le_of_ble_eq_true rfl) dX5_bookNextStep_6) hP hD hS hA rfl (fun _ => rfl) rfl rfl (fun r_1 _ H locs hr_1 hP hD hS => ?_)
  obtain rfl : (F_X6_ofTour it (3 : Int32)) = r_1 := hr_1.symm
  dsimp only [fs, List.set] at hP hD
  have hP : va_P D vwCl [(t, .inr (9, [.ref b])), (b, .inr (4, [.ref r])), (r, .inl (k.1, 628, .inl f))] H := hP
  have hD : va_D A [(t, .inr (9, [.ref b])), (b, .inr (4, [.ref r])), (r, .inl (k.1, 628, .inl f))] := hD
  refine fc_ci (isC := [1, 2]) (cells' := 0) (slots' := 0) (fc_runV (n := 1) (As := [.int (F_X6_ofTour it (3 : Int32))]) (rest := []) (isC := [1, 2]) (maxL := 2) ⟨hx, hb, hml, hown, hts⟩ (c_X0_get b r f (F_X6_ofTour it (3 : Int32)) H.size) gX5_bookNextStep_X0_get rfl (by decide +kernel) rfl ⟨Nat.le_of_ble_eq_true rfl, Nat.le_of_ble_eq_true rfl⟩ ⟨Nat.le_of_ble_eq_true rfl, Nat.le_of_ble_eq_true rfl⟩ hE hP hD hS hA rfl rfl (va_recv hE.1 hP (ci := 4) (q0 := 1) rfl rfl) hl rfl (Nat.le_of_ble_eq_true rfl) dX5_bookNextStep_9) hP hD hS hA rfl (fun _ => rfl) rfl rfl (fun r_2 _ H locs hr_2 hP hD hS => ?_)
  obtain rfl : (F_X0_get f (F_X6_ofTour it (3 : Int32))) = r_2 := hr_2.symm
  dsimp only [fs, List.set] at hP hD
  have hP : va_P D vwCl [(t, .inr (9, [.ref b])), (b, .inr (4, [.ref r])), (r, .inl (k.1, 628, .inl f))] H := hP
  have hD : va_D A [(t, .inr (9, [.ref b])), (b, .inr (4, [.ref r])), (r, .inl (k.1, 628, .inl f))] := hD
  refine lv_istore_n (lv' := [(2, .int (F_X0_get f (F_X6_ofTour it (3 : Int32)))), (0, .ref t), (1, .int it)]) hx hb dX5_bookNextStep_12 rfl hl (by decide) rfl (fun ls hl => ?_)
  refine lv_aload_n hx hb dX5_bookNextStep_13 rfl (lv_at hl 1 rfl) ?_
  refine va_get (D := D) (ci := 9) (v := .ref b) (C := RX5) (T := TX5) (N := 1) hx hb hts in_X5_bookNextStep_X5 hown hE.1 hP 0 rfl rfl 0 (by decide) (hts _ lk_X5_bookNextStep_12) (fun _ h9 => h9) rfl dX5_bookNextStep_14 ?_
  refine lv_iload_n hx hb dX5_bookNextStep_17 rfl (lv_at hl 2 rfl) ?_
  refine lv_iload_n hx hb dX5_bookNextStep_18 rfl (lv_at hl 0 rfl) ?_
  refine lv_iconst (v := 1) hx hb dX5_bookNextStep_19 (by decide) ?_
  generalize hp_3 : (F_X6_ofStep it (F_X0_get f (F_X6_ofTour it (3 : Int32))) (1 : Int32)) = p_3 at hF
  rw [letp_eq] at hF
  refine fc_ci (isC := []) (cells' := 0) (slots' := 0) (fc_runSN (n := 3) (As := [.int it, .int (F_X0_get f (F_X6_ofTour it (3 : Int32))), .int (1 : Int32)]) (rest := [.ref b]) (isC := []) (maxL := 3) ⟨hx, hb, hml, hown, hts⟩ (c_X6_ofStep it (F_X0_get f (F_X6_ofTour it (3 : Int32))) (1 : Int32) H.size) gX5_bookNextStep_X6_ofStep_n33 (by decide +kernel) (by decide +kernel) (by decide +kernel) rfl (by decide +kernel) rfl ⟨Nat.le_of_ble_eq_true rfl, Nat.le_of_ble_eq_true rfl⟩ ⟨Nat.le_of_ble_eq_true rfl, Nat.le_of_ble_eq_true rfl⟩ hE hP hD hS hA rfl rfl hl rfl (Nat.le_of_ble_eq_true rfl) dX5_bookNextStep_20) hP hD hS hA rfl (fun _ => rfl) rfl rfl (fun r_4 _ H locs hr_4 hP hD hS => ?_)
  rw [hp_3] at hr_4
  obtain rfl : p_3 = r_4 := hr_4.symm
  dsimp only [fs, List.set] at hP hD
  have hP : va_P D vwCl [(t, .inr (9, [.ref b])), (b, .inr (4, [.ref r])), (r, .inl (k.1, 628, .inl f))] H := hP
  have hD : va_D A [(t, .inr (9, [.ref b])), (b, .inr (4, [.ref r])), (r, .inl (k.1, 628, .inl f))] := hD
  refine fc_ci (isC := [1, 2]) (cells' := 0) (slots' := 0) (fc_runV (n := 1) (As := [.int p_3]) (rest := []) (isC := [1, 2]) (maxL := 2) ⟨hx, hb, hml, hown, hts⟩ (c_X0_get b r f p_3 H.size) gX5_bookNextStep_X0_get rfl (by decide +kernel) rfl ⟨Nat.le_of_ble_eq_true rfl, Nat.le_of_ble_eq_true rfl⟩ ⟨Nat.le_of_ble_eq_true rfl, Nat.le_of_ble_eq_true rfl⟩ hE hP hD hS hA rfl rfl (va_recv hE.1 hP (ci := 4) (q0 := 1) rfl rfl) hl rfl (Nat.le_of_ble_eq_true rfl) dX5_bookNextStep_23) hP hD hS hA rfl (fun _ => rfl) rfl rfl (fun r_5 _ H locs hr_5 hP hD hS => ?_)
  obtain rfl : (F_X0_get f p_3) = r_5 := hr_5.symm
  dsimp only [fs, List.set] at hP hD
  have hP : va_P D vwCl [(t, .inr (9, [.ref b])), (b, .inr (4, [.ref r])), (r, .inl (k.1, 628, .inl f))] H := hP
  have hD : va_D A [(t, .inr (9, [.ref b])), (b, .inr (4, [.ref r])), (r, .inl (k.1, 628, .inl f))] := hD
  refine lv_istore_n (lv' := [(3, .int (F_X0_get f p_3)), (2, .int (F_X0_get f (F_X6_ofTour it (3 : Int32)))), (0, .ref t), (1, .int it)]) hx hb dX5_bookNextStep_26 rfl hl (by decide) rfl (fun ls hl => ?_)
  refine lv_aload_n hx hb dX5_bookNextStep_27 rfl (lv_at hl 2 rfl) ?_
  refine lv_iload_n hx hb dX5_bookNextStep_28 rfl (lv_at hl 3 rfl) ?_
  refine lv_iload_n hx hb dX5_bookNextStep_29 rfl (lv_at hl 1 rfl) ?_
  generalize hp_6 : (F_X5_priceOf f it (F_X0_get f (F_X6_ofTour it (3 : Int32)))) = p_6 at hF
  rw [letp_eq] at hF
  refine fc_ci (isC := [0, 1, 2]) (cells' := 0) (slots' := 0) (fc_runV (n := 2) (As := [.int it, .int (F_X0_get f (F_X6_ofTour it (3 : Int32)))]) (rest := []) (isC := [0, 1, 2]) (maxL := 5) ⟨hx, hb, hml, hown, hts⟩ (c_X5_priceOf t b r f it (F_X0_get f (F_X6_ofTour it (3 : Int32))) H.size) gX5_bookNextStep_X5_priceOf rfl (by decide +kernel) rfl ⟨Nat.le_of_ble_eq_true rfl, Nat.le_of_ble_eq_true rfl⟩ ⟨Nat.le_of_ble_eq_true rfl, Nat.le_of_ble_eq_true rfl⟩ hE hP hD hS hA rfl rfl (va_recv hE.1 hP (ci := 9) (q0 := 0) rfl rfl) hl rfl (Nat.le_of_ble_eq_true rfl) dX5_bookNextStep_30) hP hD hS hA rfl (fun _ => rfl) rfl rfl (fun r_7 _ H locs hr_7 hP hD hS => ?_)
  rw [hp_6] at hr_7
  obtain rfl : p_6 = r_7 := hr_7.symm
  dsimp only [fs, List.set] at hP hD
  have hP : va_P D vwCl [(t, .inr (9, [.ref b])), (b, .inr (4, [.ref r])), (r, .inl (k.1, 628, .inl f))] H := hP
  have hD : va_D A [(t, .inr (9, [.ref b])), (b, .inr (4, [.ref r])), (r, .inl (k.1, 628, .inl f))] := hD
  refine lv_istore (lv' := [(4, .int p_6), (3, .int (F_X0_get f p_3)), (2, .int (F_X0_get f (F_X6_ofTour it (3 : Int32)))), (0, .ref t), (1, .int it)]) hx hb dX5_bookNextStep_33 hl (by decide) rfl (fun ls hl => ?_)
  refine lv_aload_n hx hb dX5_bookNextStep_35 rfl (lv_at hl 3 rfl) ?_
  refine va_get (D := D) (ci := 9) (v := .ref b) (C := RX5) (T := TX5) (N := 1) hx hb hts in_X5_bookNextStep_X5 hown hE.1 hP 0 rfl rfl 0 (by decide) (hts _ lk_X5_bookNextStep_12) (fun _ h9 => h9) rfl dX5_bookNextStep_36 ?_
  refine lv_iload_n hx hb dX5_bookNextStep_39 rfl (lv_at hl 4 rfl) ?_
  refine lv_iload_n hx hb dX5_bookNextStep_40 rfl (lv_at hl 2 rfl) ?_
  refine lv_iconst (v := 4) hx hb dX5_bookNextStep_41 (by decide) ?_
  generalize hp_8 : (F_X6_ofStep it (F_X0_get f (F_X6_ofTour it (3 : Int32))) (4 : Int32)) = p_8 at hF
  rw [letp_eq] at hF
  refine fc_ci (isC := []) (cells' := 0) (slots' := 0) (fc_runSN (n := 3) (As := [.int it, .int (F_X0_get f (F_X6_ofTour it (3 : Int32))), .int (4 : Int32)]) (rest := [.ref b]) (isC := []) (maxL := 3) ⟨hx, hb, hml, hown, hts⟩ (c_X6_ofStep it (F_X0_get f (F_X6_ofTour it (3 : Int32))) (4 : Int32) H.size) gX5_bookNextStep_X6_ofStep_n33 (by decide +kernel) (by decide +kernel) (by decide +kernel) rfl (by decide +kernel) rfl ⟨Nat.le_of_ble_eq_true rfl, Nat.le_of_ble_eq_true rfl⟩ ⟨Nat.le_of_ble_eq_true rfl, Nat.le_of_ble_eq_true rfl⟩ hE hP hD hS hA rfl rfl hl rfl (Nat.le_of_ble_eq_true rfl) dX5_bookNextStep_42) hP hD hS hA rfl (fun _ => rfl) rfl rfl (fun r_9 _ H locs hr_9 hP hD hS => ?_)
  rw [hp_8] at hr_9
  obtain rfl : p_8 = r_9 := hr_9.symm
  dsimp only [fs, List.set] at hP hD
  have hP : va_P D vwCl [(t, .inr (9, [.ref b])), (b, .inr (4, [.ref r])), (r, .inl (k.1, 628, .inl f))] H := hP
  have hD : va_D A [(t, .inr (9, [.ref b])), (b, .inr (4, [.ref r])), (r, .inl (k.1, 628, .inl f))] := hD
  refine lv_iload hx hb dX5_bookNextStep_45 (lv_at hl 0 rfl) ?_
  refine fc_cv (isC := [1, 2]) (cells' := 0) (slots' := 0) (fc_runV (n := 2) (As := [.int p_8, .int p_6]) (rest := []) (isC := [1, 2]) (maxL := 3) ⟨hx, hb, hml, hown, hts⟩ (c_X0_set b r f p_8 p_6 H.size) gX5_bookNextStep_X0_set rfl (by decide +kernel) rfl ⟨Nat.le_of_ble_eq_true rfl, Nat.le_of_ble_eq_true rfl⟩ ⟨Nat.le_of_ble_eq_true rfl, Nat.le_of_ble_eq_true rfl⟩ hE hP hD hS hA rfl rfl (va_recv hE.1 hP (ci := 4) (q0 := 1) rfl rfl) hl rfl (Nat.le_of_ble_eq_true rfl) dX5_bookNextStep_47) hP hD hS hA rfl (fun _ => rfl) rfl rfl (fun _ H locs _ hP hD hS => ?_)
  dsimp only [fs, List.set] at hP hD
  have hP : va_P D vwCl [(t, .inr (9, [.ref b])), (b, .inr (4, [.ref r])), (r, .inl (k.1, 628, .inl (F_X0_set f p_8 p_6)))] H := hP
  have hD : va_D A [(t, .inr (9, [.ref b])), (b, .inr (4, [.ref r])), (r, .inl (k.1, 628, .inl (F_X0_set f p_8 p_6)))] := hD
  refine lv_aload_n hx hb dX5_bookNextStep_50 rfl (lv_at hl 3 rfl) ?_
  refine va_get (D := D) (ci := 9) (v := .ref b) (C := RX5) (T := TX5) (N := 1) hx hb hts in_X5_bookNextStep_X5 hown hE.1 hP 0 rfl rfl 0 (by decide) (hts _ lk_X5_bookNextStep_12) (fun _ h9 => h9) rfl dX5_bookNextStep_51 ?_
  refine lv_iload_n hx hb dX5_bookNextStep_54 rfl (lv_at hl 4 rfl) ?_
  refine lv_bipush (v := 6) hx hb dX5_bookNextStep_55 (by decide) ?_
  refine fc_ci (isC := []) (cells' := 0) (slots' := 0) (fc_runSN (n := 2) (As := [.int it, .int (6 : Int32)]) (rest := [.ref b]) (isC := []) (maxL := 2) ⟨hx, hb, hml, hown, hts⟩ (c_X6_ofTour it (6 : Int32) H.size) gX5_bookNextStep_X6_ofTour_n22 (by decide +kernel) (by decide +kernel) (by decide +kernel) rfl (by decide +kernel) rfl ⟨Nat.le_of_ble_eq_true rfl, Nat.le_of_ble_eq_true rfl⟩ ⟨Nat.le_of_ble_eq_true rfl, Nat.le_of_ble_eq_true rfl⟩ hE hP hD hS hA rfl rfl hl rfl (Nat.le_of_ble_eq_true rfl) dX5_bookNextStep_57) hP hD hS hA rfl (fun _ => rfl) rfl rfl (fun r_10 _ H locs hr_10 hP hD hS => ?_)
  obtain rfl : (F_X6_ofTour it (6 : Int32)) = r_10 := hr_10.symm
  dsimp only [fs, List.set] at hP hD
  have hP : va_P D vwCl [(t, .inr (9, [.ref b])), (b, .inr (4, [.ref r])), (r, .inl (k.1, 628, .inl (F_X0_set f p_8 p_6)))] H := hP
  have hD : va_D A [(t, .inr (9, [.ref b])), (b, .inr (4, [.ref r])), (r, .inl (k.1, 628, .inl (F_X0_set f p_8 p_6)))] := hD
  refine lv_iload hx hb dX5_bookNextStep_60 (lv_at hl 0 rfl) ?_
  refine fc_cv (isC := [1, 2]) (cells' := 0) (slots' := 0) (fc_runV (n := 2) (As := [.int (F_X6_ofTour it (6 : Int32)), .int p_6]) (rest := []) (isC := [1, 2]) (maxL := 3) ⟨hx, hb, hml, hown, hts⟩ (c_X0_add b r (F_X0_set f p_8 p_6) (F_X6_ofTour it (6 : Int32)) p_6 H.size) gX5_bookNextStep_X0_add rfl (by decide +kernel) rfl ⟨Nat.le_of_ble_eq_true rfl, Nat.le_of_ble_eq_true rfl⟩ ⟨Nat.le_of_ble_eq_true rfl, Nat.le_of_ble_eq_true rfl⟩ hE hP hD hS hA rfl rfl (va_recv hE.1 hP (ci := 4) (q0 := 1) rfl rfl) hl rfl (Nat.le_of_ble_eq_true rfl) dX5_bookNextStep_62) hP hD hS hA rfl (fun _ => rfl) rfl rfl (fun _ H locs _ hP hD hS => ?_)
  dsimp only [fs, List.set] at hP hD
  have hP : va_P D vwCl [(t, .inr (9, [.ref b])), (b, .inr (4, [.ref r])), (r, .inl (k.1, 628, .inl (F_X0_add (F_X0_set f p_8 p_6) (F_X6_ofTour it (6 : Int32)) p_6)))] H := hP
  have hD : va_D A [(t, .inr (9, [.ref b])), (b, .inr (4, [.ref r])), (r, .inl (k.1, 628, .inl (F_X0_add (F_X0_set f p_8 p_6) (F_X6_ofTour it (6 : Int32)) p_6)))] := hD
  refine lv_aload_n hx hb dX5_bookNextStep_65 rfl (lv_at hl 3 rfl) ?_
  refine va_get (D := D) (ci := 9) (v := .ref b) (C := RX5) (T := TX5) (N := 1) hx hb hts in_X5_bookNextStep_X5 hown hE.1 hP 0 rfl rfl 0 (by decide) (hts _ lk_X5_bookNextStep_12) (fun _ h9 => h9) rfl dX5_bookNextStep_66 ?_
  refine lv_iload_n hx hb dX5_bookNextStep_69 rfl (lv_at hl 1 rfl) ?_
  refine lv_iconst (v := 3) hx hb dX5_bookNextStep_70 (by decide) ?_
  refine fc_ci (isC := []) (cells' := 0) (slots' := 0) (fc_runSN (n := 2) (As := [.int (F_X0_get f p_3), .int (3 : Int32)]) (rest := [.ref b]) (isC := []) (maxL := 2) ⟨hx, hb, hml, hown, hts⟩ (c_X6_ofTown (F_X0_get f p_3) (3 : Int32) H.size) gX5_bookNextStep_X6_ofTown_n44 (by decide +kernel) (by decide +kernel) (by decide +kernel) rfl (by decide +kernel) rfl ⟨Nat.le_of_ble_eq_true rfl, Nat.le_of_ble_eq_true rfl⟩ ⟨Nat.le_of_ble_eq_true rfl, Nat.le_of_ble_eq_true rfl⟩ hE hP hD hS hA rfl rfl hl rfl (Nat.le_of_ble_eq_true rfl) dX5_bookNextStep_71) hP hD hS hA rfl (fun _ => rfl) rfl rfl (fun r_11 _ H locs hr_11 hP hD hS => ?_)
  obtain rfl : (F_X6_ofTown (F_X0_get f p_3) (3 : Int32)) = r_11 := hr_11.symm
  dsimp only [fs, List.set] at hP hD
  have hP : va_P D vwCl [(t, .inr (9, [.ref b])), (b, .inr (4, [.ref r])), (r, .inl (k.1, 628, .inl (F_X0_add (F_X0_set f p_8 p_6) (F_X6_ofTour it (6 : Int32)) p_6)))] H := hP
  have hD : va_D A [(t, .inr (9, [.ref b])), (b, .inr (4, [.ref r])), (r, .inl (k.1, 628, .inl (F_X0_add (F_X0_set f p_8 p_6) (F_X6_ofTour it (6 : Int32)) p_6)))] := hD
  refine lv_iload hx hb dX5_bookNextStep_74 (lv_at hl 0 rfl) ?_
  generalize hp_12 : (F_X0_add (F_X0_add (F_X0_set f p_8 p_6) (F_X6_ofTour it (6 : Int32)) p_6) (F_X6_ofTown (F_X0_get f p_3) (3 : Int32)) p_6) = p_12 at hF
  rw [letp_eq] at hF
  refine fc_cv (isC := [1, 2]) (cells' := 0) (slots' := 0) (fc_runV (n := 2) (As := [.int (F_X6_ofTown (F_X0_get f p_3) (3 : Int32)), .int p_6]) (rest := []) (isC := [1, 2]) (maxL := 3) ⟨hx, hb, hml, hown, hts⟩ (c_X0_add b r (F_X0_add (F_X0_set f p_8 p_6) (F_X6_ofTour it (6 : Int32)) p_6) (F_X6_ofTown (F_X0_get f p_3) (3 : Int32)) p_6 H.size) gX5_bookNextStep_X0_add rfl (by decide +kernel) rfl ⟨Nat.le_of_ble_eq_true rfl, Nat.le_of_ble_eq_true rfl⟩ ⟨Nat.le_of_ble_eq_true rfl, Nat.le_of_ble_eq_true rfl⟩ hE hP hD hS hA rfl rfl (va_recv hE.1 hP (ci := 4) (q0 := 1) rfl rfl) hl rfl (Nat.le_of_ble_eq_true rfl) dX5_bookNextStep_76) hP hD hS hA rfl (fun _ => rfl) rfl rfl (fun _ H locs _ hP hD hS => ?_)
  rw [hp_12] at hP hD
  dsimp only [fs, List.set] at hP hD
  have hP : va_P D vwCl [(t, .inr (9, [.ref b])), (b, .inr (4, [.ref r])), (r, .inl (k.1, 628, .inl p_12))] H := hP
  have hD : va_D A [(t, .inr (9, [.ref b])), (b, .inr (4, [.ref r])), (r, .inl (k.1, 628, .inl p_12))] := hD
  refine lv_aload_n hx hb dX5_bookNextStep_79 rfl (lv_at hl 3 rfl) ?_
  refine va_get (D := D) (ci := 9) (v := .ref b) (C := RX5) (T := TX5) (N := 1) hx hb hts in_X5_bookNextStep_X5 hown hE.1 hP 0 rfl rfl 0 (by decide) (hts _ lk_X5_bookNextStep_12) (fun _ h9 => h9) rfl dX5_bookNextStep_80 ?_
  refine lv_bipush (v := 8) hx hb dX5_bookNextStep_83 (by decide) ?_
  refine lv_iload hx hb dX5_bookNextStep_85 (lv_at hl 0 rfl) ?_
  refine fc_cv (isC := [1, 2]) (cells' := 0) (slots' := 0) (fc_runV (n := 2) (As := [.int (8 : Int32), .int p_6]) (rest := []) (isC := [1, 2]) (maxL := 3) ⟨hx, hb, hml, hown, hts⟩ (c_X0_add b r p_12 (8 : Int32) p_6 H.size) gX5_bookNextStep_X0_add rfl (by decide +kernel) rfl ⟨Nat.le_of_ble_eq_true rfl, Nat.le_of_ble_eq_true rfl⟩ ⟨Nat.le_of_ble_eq_true rfl, Nat.le_of_ble_eq_true rfl⟩ hE hP hD hS hA rfl rfl (va_recv hE.1 hP (ci := 4) (q0 := 1) rfl rfl) hl rfl (Nat.le_of_ble_eq_true rfl) dX5_bookNextStep_87) hP hD hS hA rfl (fun _ => rfl) rfl rfl (fun _ H locs _ hP hD hS => ?_)
  dsimp only [fs, List.set] at hP hD
  have hP : va_P D vwCl [(t, .inr (9, [.ref b])), (b, .inr (4, [.ref r])), (r, .inl (k.1, 628, .inl (F_X0_add p_12 (8 : Int32) p_6)))] H := hP
  have hD : va_D A [(t, .inr (9, [.ref b])), (b, .inr (4, [.ref r])), (r, .inl (k.1, 628, .inl (F_X0_add p_12 (8 : Int32) p_6)))] := hD
  refine lv_aload_n hx hb dX5_bookNextStep_90 rfl (lv_at hl 3 rfl) ?_
  refine va_get (D := D) (ci := 9) (v := .ref b) (C := RX5) (T := TX5) (N := 1) hx hb hts in_X5_bookNextStep_X5 hown hE.1 hP 0 rfl rfl 0 (by decide) (hts _ lk_X5_bookNextStep_12) (fun _ h9 => h9) rfl dX5_bookNextStep_91 ?_
  refine lv_bipush (v := 7) hx hb dX5_bookNextStep_94 (by decide) ?_
  refine lv_iload hx hb dX5_bookNextStep_96 (lv_at hl 0 rfl) ?_
  refine lv_ineg hx hb dX5_bookNextStep_98 ?_
  refine fc_cv (isC := [1, 2]) (cells' := 0) (slots' := 0) (fc_runV (n := 2) (As := [.int (7 : Int32), .int (-p_6)]) (rest := []) (isC := [1, 2]) (maxL := 3) ⟨hx, hb, hml, hown, hts⟩ (c_X0_add b r (F_X0_add p_12 (8 : Int32) p_6) (7 : Int32) (-p_6) H.size) gX5_bookNextStep_X0_add rfl (by decide +kernel) rfl ⟨Nat.le_of_ble_eq_true rfl, Nat.le_of_ble_eq_true rfl⟩ ⟨Nat.le_of_ble_eq_true rfl, Nat.le_of_ble_eq_true rfl⟩ hE hP hD hS hA rfl rfl (va_recv hE.1 hP (ci := 4) (q0 := 1) rfl rfl) hl rfl (Nat.le_of_ble_eq_true rfl) dX5_bookNextStep_99) hP hD hS hA rfl (fun _ => rfl) rfl rfl (fun _ H locs _ hP hD hS => ?_)
  dsimp only [fs, List.set] at hP hD
  have hP : va_P D vwCl [(t, .inr (9, [.ref b])), (b, .inr (4, [.ref r])), (r, .inl (k.1, 628, .inl (F_X0_add (F_X0_add p_12 (8 : Int32) p_6) (7 : Int32) (-p_6))))] H := hP
  have hD : va_D A [(t, .inr (9, [.ref b])), (b, .inr (4, [.ref r])), (r, .inl (k.1, 628, .inl (F_X0_add (F_X0_add p_12 (8 : Int32) p_6) (7 : Int32) (-p_6))))] := hD
  refine lv_aload_n hx hb dX5_bookNextStep_102 rfl (lv_at hl 3 rfl) ?_
  refine lv_iload_n hx hb dX5_bookNextStep_103 rfl (lv_at hl 4 rfl) ?_
  refine lv_iload_n hx hb dX5_bookNextStep_104 rfl (lv_at hl 2 rfl) ?_
  refine lv_iconst (v := 1) hx hb dX5_bookNextStep_105 (by decide) ?_
  generalize hp_13 : (F_X5_countBooking (F_X0_add (F_X0_add p_12 (8 : Int32) p_6) (7 : Int32) (-p_6)) it (F_X0_get f (F_X6_ofTour it (3 : Int32))) (1 : Int32)) = p_13 at hF
  rw [letp_eq] at hF
  refine fc_cv (isC := [0, 1, 2]) (cells' := 0) (slots' := 0) (fc_runV (n := 3) (As := [.int it, .int (F_X0_get f (F_X6_ofTour it (3 : Int32))), .int (1 : Int32)]) (rest := []) (isC := [0, 1, 2]) (maxL := 7) ⟨hx, hb, hml, hown, hts⟩ (c_X5_countBooking t b r (F_X0_add (F_X0_add p_12 (8 : Int32) p_6) (7 : Int32) (-p_6)) it (F_X0_get f (F_X6_ofTour it (3 : Int32))) (1 : Int32) H.size) gX5_bookNextStep_X5_countBooking rfl (by decide +kernel) rfl ⟨Nat.le_of_ble_eq_true rfl, Nat.le_of_ble_eq_true rfl⟩ ⟨Nat.le_of_ble_eq_true rfl, Nat.le_of_ble_eq_true rfl⟩ hE hP hD hS hA rfl rfl (va_recv hE.1 hP (ci := 9) (q0 := 0) rfl rfl) hl rfl (Nat.le_of_ble_eq_true rfl) dX5_bookNextStep_106) hP hD hS hA rfl (fun _ => rfl) rfl rfl (fun _ H locs _ hP hD hS => ?_)
  rw [hp_13] at hP hD
  dsimp only [fs, List.set] at hP hD
  have hP : va_P D vwCl [(t, .inr (9, [.ref b])), (b, .inr (4, [.ref r])), (r, .inl (k.1, 628, .inl p_13))] H := hP
  have hD : va_D A [(t, .inr (9, [.ref b])), (b, .inr (4, [.ref r])), (r, .inl (k.1, 628, .inl p_13))] := hD
  subst hF
  exact fc_vret hx hb hr hlk hS () trivial hP hD (by decide) (by decide) dX5_bookNextStep_109

abbrev rm_X5_undoLastStep : Room := { frames := 2, cells := 0, slots := 0, locals := 48 }
theorem in_X5_undoLastStep_X5 : ∀ w ∈ wsX50, w ∈ wsX5_undoLastStep := by decide +kernel
theorem lk_X5_undoLastStep_12 : (Cond.fieldLink RX5 12 "TheatreSaga$Theatre" "books" "LTheatreSaga$Books;") ∈ wsX5_undoLastStep := by decide +kernel
def F_X5_undoLastStep (f : (Nat → Int32)) (it : Int32) : (Nat → Int32) := (letp (F_X6_ofStep it ((F_X0_get f (F_X6_ofTour it (3 : Int32))) - (1 : Int32)) (4 : Int32)) (fun (p_3 : Int32) => (letp (F_X0_add (F_X0_add (F_X0_set f p_3 (0 : Int32)) (F_X6_ofTour it (7 : Int32)) ((F_X0_get f p_3) / (2 : Int32))) (9 : Int32) ((F_X0_get f p_3) / (2 : Int32))) (fun (p_8 : (Nat → Int32)) => (letp (F_X5_countBooking (F_X5_gainCoins p_8 ((F_X0_get f p_3) / (2 : Int32))) it ((F_X0_get f (F_X6_ofTour it (3 : Int32))) - (1 : Int32)) (-1 : Int32)) (fun (p_9 : (Nat → Int32)) => p_9))))))
set_option maxHeartbeats 4000000 in
set_option maxRecDepth 100000 in
theorem c_X5_undoLastStep {l : Launch} {D : va_G} {k : tyK} (t b r : Nat) (f : (Nat → Int32)) (it : Int32) : FCv l yX5_undoLastStep wsX5_undoLastStep rm_X5_undoLastStep D k [.ref t, .int it] [(t, .inr (9, [.ref b])), (b, .inr (4, [.ref r])), (r, .inl (k.1, 628, .inl f))] (fun (_ : Unit) => True) (fun _ => [(t, .inr (9, [.ref b])), (b, .inr (4, [.ref r])), (r, .inl (k.1, 628, .inl (F_X5_undoLastStep f it)))]) := by
  refine fc_start (cc := cX5_undoLastStep) (maxL := 4) (ret := none) (own := RX5) (Qc := fun A => va_Qv (fun (_ : Unit) => True) (Bt D (fun _ => [(t, .inr (9, [.ref b])), (b, .inr (4, [.ref r])), (r, .inl (k.1, 628, .inl (F_X5_undoLastStep f it)))]) A) A) (by decide) rfl rfl (Nat.le_of_ble_eq_true rfl) ?_
  intro p e s m below meth c A H hx hb hml hr hts hown hlk hname hA hP hE hD hS ls hl
  obtain ⟨RES, hF⟩ : ∃ z, (F_X5_undoLastStep f it) = z := ⟨_, rfl⟩
  rw [hF]
  unfold F_X5_undoLastStep at hF
  have hl : lv_has ls 4 [(0, .ref t), (1, .int it)] := hl
  obtain ⟨locs, hlocs⟩ : ∃ z : List Loc, z = [] := ⟨_, rfl⟩
  rw [← hlocs] at hS ⊢
  refine lv_aload_n hx hb dX5_undoLastStep_0 rfl (lv_at hl 0 rfl) ?_
  refine va_get (D := D) (ci := 9) (v := .ref b) (C := RX5) (T := TX5) (N := 1) hx hb hts in_X5_undoLastStep_X5 hown hE.1 hP 0 rfl rfl 0 (by decide) (hts _ lk_X5_undoLastStep_12) (fun _ h9 => h9) rfl dX5_undoLastStep_1 ?_
  refine lv_iload_n hx hb dX5_undoLastStep_4 rfl (lv_at hl 1 rfl) ?_
  refine lv_iconst (v := 3) hx hb dX5_undoLastStep_5 (by decide) ?_
  refine fc_ci (isC := []) (cells' := 0) (slots' := 0) (fc_runSN (n := 2) (As := [.int it, .int (3 : Int32)]) (rest := [.ref b]) (isC := []) (maxL := 2) ⟨hx, hb, hml, hown, hts⟩ (c_X6_ofTour it (3 : Int32) H.size) gX5_undoLastStep_X6_ofTour_n22 (by decide +kernel) (by decide +kernel) (by decide +kernel) rfl (by decide +kernel) rfl ⟨Nat.le_of_ble_eq_true rfl, Nat.le_of_ble_eq_true rfl⟩ ⟨Nat.le_of_ble_eq_true rfl, Nat.le_of_ble_eq_true rfl⟩ hE hP hD hS hA rfl rfl hl rfl (Nat.le_of_ble_eq_true rfl) dX5_undoLastStep_6) hP hD hS hA rfl (fun _ => rfl) rfl rfl (fun r_1 _ H locs hr_1 hP hD hS => ?_)
  obtain rfl : (F_X6_ofTour it (3 : Int32)) = r_1 := hr_1.symm
  dsimp only [fs, List.set] at hP hD
  have hP : va_P D vwCl [(t, .inr (9, [.ref b])), (b, .inr (4, [.ref r])), (r, .inl (k.1, 628, .inl f))] H := hP
  have hD : va_D A [(t, .inr (9, [.ref b])), (b, .inr (4, [.ref r])), (r, .inl (k.1, 628, .inl f))] := hD
  refine fc_ci (isC := [1, 2]) (cells' := 0) (slots' := 0) (fc_runV (n := 1) (As := [.int (F_X6_ofTour it (3 : Int32))]) (rest := []) (isC := [1, 2]) (maxL := 2) ⟨hx, hb, hml, hown, hts⟩ (c_X0_get b r f (F_X6_ofTour it (3 : Int32)) H.size) gX5_undoLastStep_X0_get rfl (by decide +kernel) rfl ⟨Nat.le_of_ble_eq_true rfl, Nat.le_of_ble_eq_true rfl⟩ ⟨Nat.le_of_ble_eq_true rfl, Nat.le_of_ble_eq_true rfl⟩ hE hP hD hS hA rfl rfl (va_recv hE.1 hP (ci := 4) (q0 := 1) rfl rfl) hl rfl (Nat.le_of_ble_eq_true rfl) dX5_undoLastStep_9) hP hD hS hA rfl (fun _ => rfl) rfl rfl (fun r_2 _ H locs hr_2 hP hD hS => ?_)
  obtain rfl : (F_X0_get f (F_X6_ofTour it (3 : Int32))) = r_2 := hr_2.symm
  dsimp only [fs, List.set] at hP hD
  have hP : va_P D vwCl [(t, .inr (9, [.ref b])), (b, .inr (4, [.ref r])), (r, .inl (k.1, 628, .inl f))] H := hP
  have hD : va_D A [(t, .inr (9, [.ref b])), (b, .inr (4, [.ref r])), (r, .inl (k.1, 628, .inl f))] := hD
  refine lv_iconst (v := 1) hx hb dX5_undoLastStep_12 (by decide) ?_
  refine lv_isub hx hb dX5_undoLastStep_13 ?_
  refine lv_istore_n (lv' := [(2, .int ((F_X0_get f (F_X6_ofTour it (3 : Int32))) - (1 : Int32))), (0, .ref t), (1, .int it)]) hx hb dX5_undoLastStep_14 rfl hl (by decide) rfl (fun ls hl => ?_)
  refine lv_aload_n hx hb dX5_undoLastStep_15 rfl (lv_at hl 1 rfl) ?_
  refine va_get (D := D) (ci := 9) (v := .ref b) (C := RX5) (T := TX5) (N := 1) hx hb hts in_X5_undoLastStep_X5 hown hE.1 hP 0 rfl rfl 0 (by decide) (hts _ lk_X5_undoLastStep_12) (fun _ h9 => h9) rfl dX5_undoLastStep_16 ?_
  refine lv_iload_n hx hb dX5_undoLastStep_19 rfl (lv_at hl 2 rfl) ?_
  refine lv_iload_n hx hb dX5_undoLastStep_20 rfl (lv_at hl 0 rfl) ?_
  refine lv_iconst (v := 4) hx hb dX5_undoLastStep_21 (by decide) ?_
  generalize hp_3 : (F_X6_ofStep it ((F_X0_get f (F_X6_ofTour it (3 : Int32))) - (1 : Int32)) (4 : Int32)) = p_3 at hF
  rw [letp_eq] at hF
  refine fc_ci (isC := []) (cells' := 0) (slots' := 0) (fc_runSN (n := 3) (As := [.int it, .int ((F_X0_get f (F_X6_ofTour it (3 : Int32))) - (1 : Int32)), .int (4 : Int32)]) (rest := [.ref b]) (isC := []) (maxL := 3) ⟨hx, hb, hml, hown, hts⟩ (c_X6_ofStep it ((F_X0_get f (F_X6_ofTour it (3 : Int32))) - (1 : Int32)) (4 : Int32) H.size) gX5_undoLastStep_X6_ofStep_n33 (by decide +kernel) (by decide +kernel) (by decide +kernel) rfl (by decide +kernel) rfl ⟨Nat.le_of_ble_eq_true rfl, Nat.le_of_ble_eq_true rfl⟩ ⟨Nat.le_of_ble_eq_true rfl, Nat.le_of_ble_eq_true rfl⟩ hE hP hD hS hA rfl rfl hl rfl (Nat.le_of_ble_eq_true rfl) dX5_undoLastStep_22) hP hD hS hA rfl (fun _ => rfl) rfl rfl (fun r_4 _ H locs hr_4 hP hD hS => ?_)
  rw [hp_3] at hr_4
  obtain rfl : p_3 = r_4 := hr_4.symm
  dsimp only [fs, List.set] at hP hD
  have hP : va_P D vwCl [(t, .inr (9, [.ref b])), (b, .inr (4, [.ref r])), (r, .inl (k.1, 628, .inl f))] H := hP
  have hD : va_D A [(t, .inr (9, [.ref b])), (b, .inr (4, [.ref r])), (r, .inl (k.1, 628, .inl f))] := hD
  refine fc_ci (isC := [1, 2]) (cells' := 0) (slots' := 0) (fc_runV (n := 1) (As := [.int p_3]) (rest := []) (isC := [1, 2]) (maxL := 2) ⟨hx, hb, hml, hown, hts⟩ (c_X0_get b r f p_3 H.size) gX5_undoLastStep_X0_get rfl (by decide +kernel) rfl ⟨Nat.le_of_ble_eq_true rfl, Nat.le_of_ble_eq_true rfl⟩ ⟨Nat.le_of_ble_eq_true rfl, Nat.le_of_ble_eq_true rfl⟩ hE hP hD hS hA rfl rfl (va_recv hE.1 hP (ci := 4) (q0 := 1) rfl rfl) hl rfl (Nat.le_of_ble_eq_true rfl) dX5_undoLastStep_25) hP hD hS hA rfl (fun _ => rfl) rfl rfl (fun r_5 _ H locs hr_5 hP hD hS => ?_)
  obtain rfl : (F_X0_get f p_3) = r_5 := hr_5.symm
  dsimp only [fs, List.set] at hP hD
  have hP : va_P D vwCl [(t, .inr (9, [.ref b])), (b, .inr (4, [.ref r])), (r, .inl (k.1, 628, .inl f))] H := hP
  have hD : va_D A [(t, .inr (9, [.ref b])), (b, .inr (4, [.ref r])), (r, .inl (k.1, 628, .inl f))] := hD
  refine lv_iconst (v := 2) hx hb dX5_undoLastStep_28 (by decide) ?_
  refine lv_idiv hx hb dX5_undoLastStep_29 (by decide) ?_
  refine lv_istore_n (lv' := [(3, .int ((F_X0_get f p_3) / (2 : Int32))), (2, .int ((F_X0_get f (F_X6_ofTour it (3 : Int32))) - (1 : Int32))), (0, .ref t), (1, .int it)]) hx hb dX5_undoLastStep_30 rfl hl (by decide) rfl (fun ls hl => ?_)
  refine lv_aload_n hx hb dX5_undoLastStep_31 rfl (lv_at hl 2 rfl) ?_
  refine va_get (D := D) (ci := 9) (v := .ref b) (C := RX5) (T := TX5) (N := 1) hx hb hts in_X5_undoLastStep_X5 hown hE.1 hP 0 rfl rfl 0 (by decide) (hts _ lk_X5_undoLastStep_12) (fun _ h9 => h9) rfl dX5_undoLastStep_32 ?_
  refine lv_iload_n hx hb dX5_undoLastStep_35 rfl (lv_at hl 3 rfl) ?_
  refine lv_iload_n hx hb dX5_undoLastStep_36 rfl (lv_at hl 1 rfl) ?_
  refine lv_iconst (v := 4) hx hb dX5_undoLastStep_37 (by decide) ?_
  refine fc_ci (isC := []) (cells' := 0) (slots' := 0) (fc_runSN (n := 3) (As := [.int it, .int ((F_X0_get f (F_X6_ofTour it (3 : Int32))) - (1 : Int32)), .int (4 : Int32)]) (rest := [.ref b]) (isC := []) (maxL := 3) ⟨hx, hb, hml, hown, hts⟩ (c_X6_ofStep it ((F_X0_get f (F_X6_ofTour it (3 : Int32))) - (1 : Int32)) (4 : Int32) H.size) gX5_undoLastStep_X6_ofStep_n33 (by decide +kernel) (by decide +kernel) (by decide +kernel) rfl (by decide +kernel) rfl ⟨Nat.le_of_ble_eq_true rfl, Nat.le_of_ble_eq_true rfl⟩ ⟨Nat.le_of_ble_eq_true rfl, Nat.le_of_ble_eq_true rfl⟩ hE hP hD hS hA rfl rfl hl rfl (Nat.le_of_ble_eq_true rfl) dX5_undoLastStep_38) hP hD hS hA rfl (fun _ => rfl) rfl rfl (fun r_6 _ H locs hr_6 hP hD hS => ?_)
  rw [hp_3] at hr_6
  obtain rfl : p_3 = r_6 := hr_6.symm
  dsimp only [fs, List.set] at hP hD
  have hP : va_P D vwCl [(t, .inr (9, [.ref b])), (b, .inr (4, [.ref r])), (r, .inl (k.1, 628, .inl f))] H := hP
  have hD : va_D A [(t, .inr (9, [.ref b])), (b, .inr (4, [.ref r])), (r, .inl (k.1, 628, .inl f))] := hD
  refine lv_iconst (v := 0) hx hb dX5_undoLastStep_41 (by decide) ?_
  refine fc_cv (isC := [1, 2]) (cells' := 0) (slots' := 0) (fc_runV (n := 2) (As := [.int p_3, .int (0 : Int32)]) (rest := []) (isC := [1, 2]) (maxL := 3) ⟨hx, hb, hml, hown, hts⟩ (c_X0_set b r f p_3 (0 : Int32) H.size) gX5_undoLastStep_X0_set rfl (by decide +kernel) rfl ⟨Nat.le_of_ble_eq_true rfl, Nat.le_of_ble_eq_true rfl⟩ ⟨Nat.le_of_ble_eq_true rfl, Nat.le_of_ble_eq_true rfl⟩ hE hP hD hS hA rfl rfl (va_recv hE.1 hP (ci := 4) (q0 := 1) rfl rfl) hl rfl (Nat.le_of_ble_eq_true rfl) dX5_undoLastStep_42) hP hD hS hA rfl (fun _ => rfl) rfl rfl (fun _ H locs _ hP hD hS => ?_)
  dsimp only [fs, List.set] at hP hD
  have hP : va_P D vwCl [(t, .inr (9, [.ref b])), (b, .inr (4, [.ref r])), (r, .inl (k.1, 628, .inl (F_X0_set f p_3 (0 : Int32))))] H := hP
  have hD : va_D A [(t, .inr (9, [.ref b])), (b, .inr (4, [.ref r])), (r, .inl (k.1, 628, .inl (F_X0_set f p_3 (0 : Int32))))] := hD
  refine lv_aload_n hx hb dX5_undoLastStep_45 rfl (lv_at hl 2 rfl) ?_
  refine va_get (D := D) (ci := 9) (v := .ref b) (C := RX5) (T := TX5) (N := 1) hx hb hts in_X5_undoLastStep_X5 hown hE.1 hP 0 rfl rfl 0 (by decide) (hts _ lk_X5_undoLastStep_12) (fun _ h9 => h9) rfl dX5_undoLastStep_46 ?_
  refine lv_iload_n hx hb dX5_undoLastStep_49 rfl (lv_at hl 3 rfl) ?_
  refine lv_bipush (v := 7) hx hb dX5_undoLastStep_50 (by decide) ?_
  refine fc_ci (isC := []) (cells' := 0) (slots' := 0) (fc_runSN (n := 2) (As := [.int it, .int (7 : Int32)]) (rest := [.ref b]) (isC := []) (maxL := 2) ⟨hx, hb, hml, hown, hts⟩ (c_X6_ofTour it (7 : Int32) H.size) gX5_undoLastStep_X6_ofTour_n22 (by decide +kernel) (by decide +kernel) (by decide +kernel) rfl (by decide +kernel) rfl ⟨Nat.le_of_ble_eq_true rfl, Nat.le_of_ble_eq_true rfl⟩ ⟨Nat.le_of_ble_eq_true rfl, Nat.le_of_ble_eq_true rfl⟩ hE hP hD hS hA rfl rfl hl rfl (Nat.le_of_ble_eq_true rfl) dX5_undoLastStep_52) hP hD hS hA rfl (fun _ => rfl) rfl rfl (fun r_7 _ H locs hr_7 hP hD hS => ?_)
  obtain rfl : (F_X6_ofTour it (7 : Int32)) = r_7 := hr_7.symm
  dsimp only [fs, List.set] at hP hD
  have hP : va_P D vwCl [(t, .inr (9, [.ref b])), (b, .inr (4, [.ref r])), (r, .inl (k.1, 628, .inl (F_X0_set f p_3 (0 : Int32))))] H := hP
  have hD : va_D A [(t, .inr (9, [.ref b])), (b, .inr (4, [.ref r])), (r, .inl (k.1, 628, .inl (F_X0_set f p_3 (0 : Int32))))] := hD
  refine lv_iload_n hx hb dX5_undoLastStep_55 rfl (lv_at hl 0 rfl) ?_
  refine fc_cv (isC := [1, 2]) (cells' := 0) (slots' := 0) (fc_runV (n := 2) (As := [.int (F_X6_ofTour it (7 : Int32)), .int ((F_X0_get f p_3) / (2 : Int32))]) (rest := []) (isC := [1, 2]) (maxL := 3) ⟨hx, hb, hml, hown, hts⟩ (c_X0_add b r (F_X0_set f p_3 (0 : Int32)) (F_X6_ofTour it (7 : Int32)) ((F_X0_get f p_3) / (2 : Int32)) H.size) gX5_undoLastStep_X0_add rfl (by decide +kernel) rfl ⟨Nat.le_of_ble_eq_true rfl, Nat.le_of_ble_eq_true rfl⟩ ⟨Nat.le_of_ble_eq_true rfl, Nat.le_of_ble_eq_true rfl⟩ hE hP hD hS hA rfl rfl (va_recv hE.1 hP (ci := 4) (q0 := 1) rfl rfl) hl rfl (Nat.le_of_ble_eq_true rfl) dX5_undoLastStep_56) hP hD hS hA rfl (fun _ => rfl) rfl rfl (fun _ H locs _ hP hD hS => ?_)
  dsimp only [fs, List.set] at hP hD
  have hP : va_P D vwCl [(t, .inr (9, [.ref b])), (b, .inr (4, [.ref r])), (r, .inl (k.1, 628, .inl (F_X0_add (F_X0_set f p_3 (0 : Int32)) (F_X6_ofTour it (7 : Int32)) ((F_X0_get f p_3) / (2 : Int32)))))] H := hP
  have hD : va_D A [(t, .inr (9, [.ref b])), (b, .inr (4, [.ref r])), (r, .inl (k.1, 628, .inl (F_X0_add (F_X0_set f p_3 (0 : Int32)) (F_X6_ofTour it (7 : Int32)) ((F_X0_get f p_3) / (2 : Int32)))))] := hD
  refine lv_aload_n hx hb dX5_undoLastStep_59 rfl (lv_at hl 2 rfl) ?_
  refine va_get (D := D) (ci := 9) (v := .ref b) (C := RX5) (T := TX5) (N := 1) hx hb hts in_X5_undoLastStep_X5 hown hE.1 hP 0 rfl rfl 0 (by decide) (hts _ lk_X5_undoLastStep_12) (fun _ h9 => h9) rfl dX5_undoLastStep_60 ?_
  refine lv_bipush (v := 9) hx hb dX5_undoLastStep_63 (by decide) ?_
  refine lv_iload_n hx hb dX5_undoLastStep_65 rfl (lv_at hl 0 rfl) ?_
  generalize hp_8 : (F_X0_add (F_X0_add (F_X0_set f p_3 (0 : Int32)) (F_X6_ofTour it (7 : Int32)) ((F_X0_get f p_3) / (2 : Int32))) (9 : Int32) ((F_X0_get f p_3) / (2 : Int32))) = p_8 at hF
  rw [letp_eq] at hF
  refine fc_cv (isC := [1, 2]) (cells' := 0) (slots' := 0) (fc_runV (n := 2) (As := [.int (9 : Int32), .int ((F_X0_get f p_3) / (2 : Int32))]) (rest := []) (isC := [1, 2]) (maxL := 3) ⟨hx, hb, hml, hown, hts⟩ (c_X0_add b r (F_X0_add (F_X0_set f p_3 (0 : Int32)) (F_X6_ofTour it (7 : Int32)) ((F_X0_get f p_3) / (2 : Int32))) (9 : Int32) ((F_X0_get f p_3) / (2 : Int32)) H.size) gX5_undoLastStep_X0_add rfl (by decide +kernel) rfl ⟨Nat.le_of_ble_eq_true rfl, Nat.le_of_ble_eq_true rfl⟩ ⟨Nat.le_of_ble_eq_true rfl, Nat.le_of_ble_eq_true rfl⟩ hE hP hD hS hA rfl rfl (va_recv hE.1 hP (ci := 4) (q0 := 1) rfl rfl) hl rfl (Nat.le_of_ble_eq_true rfl) dX5_undoLastStep_66) hP hD hS hA rfl (fun _ => rfl) rfl rfl (fun _ H locs _ hP hD hS => ?_)
  rw [hp_8] at hP hD
  dsimp only [fs, List.set] at hP hD
  have hP : va_P D vwCl [(t, .inr (9, [.ref b])), (b, .inr (4, [.ref r])), (r, .inl (k.1, 628, .inl p_8))] H := hP
  have hD : va_D A [(t, .inr (9, [.ref b])), (b, .inr (4, [.ref r])), (r, .inl (k.1, 628, .inl p_8))] := hD
  refine lv_aload_n hx hb dX5_undoLastStep_69 rfl (lv_at hl 2 rfl) ?_
  refine lv_iload_n hx hb dX5_undoLastStep_70 rfl (lv_at hl 0 rfl) ?_
  refine fc_cv (isC := [0, 1, 2]) (cells' := 0) (slots' := 0) (fc_runV (n := 1) (As := [.int ((F_X0_get f p_3) / (2 : Int32))]) (rest := []) (isC := [0, 1, 2]) (maxL := 3) ⟨hx, hb, hml, hown, hts⟩ (c_X5_gainCoins t b r p_8 ((F_X0_get f p_3) / (2 : Int32)) H.size) gX5_undoLastStep_X5_gainCoins rfl (by decide +kernel) rfl ⟨Nat.le_of_ble_eq_true rfl, Nat.le_of_ble_eq_true rfl⟩ ⟨Nat.le_of_ble_eq_true rfl, Nat.le_of_ble_eq_true rfl⟩ hE hP hD hS hA rfl rfl (va_recv hE.1 hP (ci := 9) (q0 := 0) rfl rfl) hl rfl (Nat.le_of_ble_eq_true rfl) dX5_undoLastStep_71) hP hD hS hA rfl (fun _ => rfl) rfl rfl (fun _ H locs _ hP hD hS => ?_)
  dsimp only [fs, List.set] at hP hD
  have hP : va_P D vwCl [(t, .inr (9, [.ref b])), (b, .inr (4, [.ref r])), (r, .inl (k.1, 628, .inl (F_X5_gainCoins p_8 ((F_X0_get f p_3) / (2 : Int32)))))] H := hP
  have hD : va_D A [(t, .inr (9, [.ref b])), (b, .inr (4, [.ref r])), (r, .inl (k.1, 628, .inl (F_X5_gainCoins p_8 ((F_X0_get f p_3) / (2 : Int32)))))] := hD
  refine lv_aload_n hx hb dX5_undoLastStep_74 rfl (lv_at hl 2 rfl) ?_
  refine lv_iload_n hx hb dX5_undoLastStep_75 rfl (lv_at hl 3 rfl) ?_
  refine lv_iload_n hx hb dX5_undoLastStep_76 rfl (lv_at hl 1 rfl) ?_
  refine lv_iconst (v := -1) hx hb dX5_undoLastStep_77 (by decide) ?_
  generalize hp_9 : (F_X5_countBooking (F_X5_gainCoins p_8 ((F_X0_get f p_3) / (2 : Int32))) it ((F_X0_get f (F_X6_ofTour it (3 : Int32))) - (1 : Int32)) (-1 : Int32)) = p_9 at hF
  rw [letp_eq] at hF
  refine fc_cv (isC := [0, 1, 2]) (cells' := 0) (slots' := 0) (fc_runV (n := 3) (As := [.int it, .int ((F_X0_get f (F_X6_ofTour it (3 : Int32))) - (1 : Int32)), .int (-1 : Int32)]) (rest := []) (isC := [0, 1, 2]) (maxL := 7) ⟨hx, hb, hml, hown, hts⟩ (c_X5_countBooking t b r (F_X5_gainCoins p_8 ((F_X0_get f p_3) / (2 : Int32))) it ((F_X0_get f (F_X6_ofTour it (3 : Int32))) - (1 : Int32)) (-1 : Int32) H.size) gX5_undoLastStep_X5_countBooking rfl (by decide +kernel) rfl ⟨Nat.le_of_ble_eq_true rfl, Nat.le_of_ble_eq_true rfl⟩ ⟨Nat.le_of_ble_eq_true rfl, Nat.le_of_ble_eq_true rfl⟩ hE hP hD hS hA rfl rfl (va_recv hE.1 hP (ci := 9) (q0 := 0) rfl rfl) hl rfl (Nat.le_of_ble_eq_true rfl) dX5_undoLastStep_78) hP hD hS hA rfl (fun _ => rfl) rfl rfl (fun _ H locs _ hP hD hS => ?_)
  rw [hp_9] at hP hD
  dsimp only [fs, List.set] at hP hD
  have hP : va_P D vwCl [(t, .inr (9, [.ref b])), (b, .inr (4, [.ref r])), (r, .inl (k.1, 628, .inl p_9))] H := hP
  have hD : va_D A [(t, .inr (9, [.ref b])), (b, .inr (4, [.ref r])), (r, .inl (k.1, 628, .inl p_9))] := hD
  subst hF
  exact fc_vret hx hb hr hlk hS () trivial hP hD (by decide) (by decide) dX5_undoLastStep_81

abbrev rm_X5_failTry : Room := { frames := 2, cells := 0, slots := 0, locals := 43 }
theorem in_X5_failTry_X5 : ∀ w ∈ wsX50, w ∈ wsX5_failTry := by decide +kernel
theorem lk_X5_failTry_12 : (Cond.fieldLink RX5 12 "TheatreSaga$Theatre" "books" "LTheatreSaga$Books;") ∈ wsX5_failTry := by decide +kernel
def F_X5_failTry (f : (Nat → Int32)) (it : Int32) (ix : Int32) : (Nat → Int32) := (letp (F_X0_set (F_X0_add (F_X0_add f (13 : Int32) (1 : Int32)) (F_X6_ofTour it (4 : Int32)) (1 : Int32)) (F_X6_ofTour it (5 : Int32)) ix) (fun (p_3 : (Nat → Int32)) => (if (F_X0_get p_3 (F_X6_ofTour it (4 : Int32))) ≤ (F_X0_get p_3 (F_X6_ofTour it (1 : Int32))) then p_3 else (if (F_X0_get p_3 (F_X6_ofTour it (0 : Int32))) = (1 : Int32) then (F_X5_turnBack p_3 it) else p_3))))
set_option maxHeartbeats 4000000 in
set_option maxRecDepth 100000 in
theorem c_X5_failTry {l : Launch} {D : va_G} {k : tyK} (t b r : Nat) (f : (Nat → Int32)) (it : Int32) (ix : Int32) : FCv l yX5_failTry wsX5_failTry rm_X5_failTry D k [.ref t, .int it, .int ix] [(t, .inr (9, [.ref b])), (b, .inr (4, [.ref r])), (r, .inl (k.1, 628, .inl f))] (fun (_ : Unit) => True) (fun _ => [(t, .inr (9, [.ref b])), (b, .inr (4, [.ref r])), (r, .inl (k.1, 628, .inl (F_X5_failTry f it ix)))]) := by
  refine fc_start (cc := cX5_failTry) (maxL := 4) (ret := none) (own := RX5) (Qc := fun A => va_Qv (fun (_ : Unit) => True) (Bt D (fun _ => [(t, .inr (9, [.ref b])), (b, .inr (4, [.ref r])), (r, .inl (k.1, 628, .inl (F_X5_failTry f it ix)))]) A) A) (by decide) rfl rfl (Nat.le_of_ble_eq_true rfl) ?_
  intro p e s m below meth c A H hx hb hml hr hts hown hlk hname hA hP hE hD hS ls hl
  obtain ⟨RES, hF⟩ : ∃ z, (F_X5_failTry f it ix) = z := ⟨_, rfl⟩
  rw [hF]
  unfold F_X5_failTry at hF
  have hl : lv_has ls 4 [(0, .ref t), (1, .int it), (2, .int ix)] := hl
  obtain ⟨locs, hlocs⟩ : ∃ z : List Loc, z = [] := ⟨_, rfl⟩
  rw [← hlocs] at hS ⊢
  refine lv_aload_n hx hb dX5_failTry_0 rfl (lv_at hl 0 rfl) ?_
  refine va_get (D := D) (ci := 9) (v := .ref b) (C := RX5) (T := TX5) (N := 1) hx hb hts in_X5_failTry_X5 hown hE.1 hP 0 rfl rfl 0 (by decide) (hts _ lk_X5_failTry_12) (fun _ h9 => h9) rfl dX5_failTry_1 ?_
  refine lv_bipush (v := 13) hx hb dX5_failTry_4 (by decide) ?_
  refine lv_iconst (v := 1) hx hb dX5_failTry_6 (by decide) ?_
  refine fc_cv (isC := [1, 2]) (cells' := 0) (slots' := 0) (fc_runV (n := 2) (As := [.int (13 : Int32), .int (1 : Int32)]) (rest := []) (isC := [1, 2]) (maxL := 3) ⟨hx, hb, hml, hown, hts⟩ (c_X0_add b r f (13 : Int32) (1 : Int32) H.size) gX5_failTry_X0_add rfl (by decide +kernel) rfl ⟨Nat.le_of_ble_eq_true rfl, Nat.le_of_ble_eq_true rfl⟩ ⟨Nat.le_of_ble_eq_true rfl, Nat.le_of_ble_eq_true rfl⟩ hE hP hD hS hA rfl rfl (va_recv hE.1 hP (ci := 4) (q0 := 1) rfl rfl) hl rfl (Nat.le_of_ble_eq_true rfl) dX5_failTry_7) hP hD hS hA rfl (fun _ => rfl) rfl rfl (fun _ H locs _ hP hD hS => ?_)
  dsimp only [fs, List.set] at hP hD
  have hP : va_P D vwCl [(t, .inr (9, [.ref b])), (b, .inr (4, [.ref r])), (r, .inl (k.1, 628, .inl (F_X0_add f (13 : Int32) (1 : Int32))))] H := hP
  have hD : va_D A [(t, .inr (9, [.ref b])), (b, .inr (4, [.ref r])), (r, .inl (k.1, 628, .inl (F_X0_add f (13 : Int32) (1 : Int32))))] := hD
  refine lv_aload_n hx hb dX5_failTry_10 rfl (lv_at hl 0 rfl) ?_
  refine va_get (D := D) (ci := 9) (v := .ref b) (C := RX5) (T := TX5) (N := 1) hx hb hts in_X5_failTry_X5 hown hE.1 hP 0 rfl rfl 0 (by decide) (hts _ lk_X5_failTry_12) (fun _ h9 => h9) rfl dX5_failTry_11 ?_
  refine lv_iload_n hx hb dX5_failTry_14 rfl (lv_at hl 1 rfl) ?_
  refine lv_iconst (v := 4) hx hb dX5_failTry_15 (by decide) ?_
  refine fc_ci (isC := []) (cells' := 0) (slots' := 0) (fc_runSN (n := 2) (As := [.int it, .int (4 : Int32)]) (rest := [.ref b]) (isC := []) (maxL := 2) ⟨hx, hb, hml, hown, hts⟩ (c_X6_ofTour it (4 : Int32) H.size) gX5_failTry_X6_ofTour_n22 (by decide +kernel) (by decide +kernel) (by decide +kernel) rfl (by decide +kernel) rfl ⟨Nat.le_of_ble_eq_true rfl, Nat.le_of_ble_eq_true rfl⟩ ⟨Nat.le_of_ble_eq_true rfl, Nat.le_of_ble_eq_true rfl⟩ hE hP hD hS hA rfl rfl hl rfl (Nat.le_of_ble_eq_true rfl) dX5_failTry_16) hP hD hS hA rfl (fun _ => rfl) rfl rfl (fun r_1 _ H locs hr_1 hP hD hS => ?_)
  obtain rfl : (F_X6_ofTour it (4 : Int32)) = r_1 := hr_1.symm
  dsimp only [fs, List.set] at hP hD
  have hP : va_P D vwCl [(t, .inr (9, [.ref b])), (b, .inr (4, [.ref r])), (r, .inl (k.1, 628, .inl (F_X0_add f (13 : Int32) (1 : Int32))))] H := hP
  have hD : va_D A [(t, .inr (9, [.ref b])), (b, .inr (4, [.ref r])), (r, .inl (k.1, 628, .inl (F_X0_add f (13 : Int32) (1 : Int32))))] := hD
  refine lv_iconst (v := 1) hx hb dX5_failTry_19 (by decide) ?_
  refine fc_cv (isC := [1, 2]) (cells' := 0) (slots' := 0) (fc_runV (n := 2) (As := [.int (F_X6_ofTour it (4 : Int32)), .int (1 : Int32)]) (rest := []) (isC := [1, 2]) (maxL := 3) ⟨hx, hb, hml, hown, hts⟩ (c_X0_add b r (F_X0_add f (13 : Int32) (1 : Int32)) (F_X6_ofTour it (4 : Int32)) (1 : Int32) H.size) gX5_failTry_X0_add rfl (by decide +kernel) rfl ⟨Nat.le_of_ble_eq_true rfl, Nat.le_of_ble_eq_true rfl⟩ ⟨Nat.le_of_ble_eq_true rfl, Nat.le_of_ble_eq_true rfl⟩ hE hP hD hS hA rfl rfl (va_recv hE.1 hP (ci := 4) (q0 := 1) rfl rfl) hl rfl (Nat.le_of_ble_eq_true rfl) dX5_failTry_20) hP hD hS hA rfl (fun _ => rfl) rfl rfl (fun _ H locs _ hP hD hS => ?_)
  dsimp only [fs, List.set] at hP hD
  have hP : va_P D vwCl [(t, .inr (9, [.ref b])), (b, .inr (4, [.ref r])), (r, .inl (k.1, 628, .inl (F_X0_add (F_X0_add f (13 : Int32) (1 : Int32)) (F_X6_ofTour it (4 : Int32)) (1 : Int32))))] H := hP
  have hD : va_D A [(t, .inr (9, [.ref b])), (b, .inr (4, [.ref r])), (r, .inl (k.1, 628, .inl (F_X0_add (F_X0_add f (13 : Int32) (1 : Int32)) (F_X6_ofTour it (4 : Int32)) (1 : Int32))))] := hD
  refine lv_aload_n hx hb dX5_failTry_23 rfl (lv_at hl 0 rfl) ?_
  refine va_get (D := D) (ci := 9) (v := .ref b) (C := RX5) (T := TX5) (N := 1) hx hb hts in_X5_failTry_X5 hown hE.1 hP 0 rfl rfl 0 (by decide) (hts _ lk_X5_failTry_12) (fun _ h9 => h9) rfl dX5_failTry_24 ?_
  refine lv_iload_n hx hb dX5_failTry_27 rfl (lv_at hl 1 rfl) ?_
  refine lv_iconst (v := 5) hx hb dX5_failTry_28 (by decide) ?_
  refine fc_ci (isC := []) (cells' := 0) (slots' := 0) (fc_runSN (n := 2) (As := [.int it, .int (5 : Int32)]) (rest := [.ref b]) (isC := []) (maxL := 2) ⟨hx, hb, hml, hown, hts⟩ (c_X6_ofTour it (5 : Int32) H.size) gX5_failTry_X6_ofTour_n22 (by decide +kernel) (by decide +kernel) (by decide +kernel) rfl (by decide +kernel) rfl ⟨Nat.le_of_ble_eq_true rfl, Nat.le_of_ble_eq_true rfl⟩ ⟨Nat.le_of_ble_eq_true rfl, Nat.le_of_ble_eq_true rfl⟩ hE hP hD hS hA rfl rfl hl rfl (Nat.le_of_ble_eq_true rfl) dX5_failTry_29) hP hD hS hA rfl (fun _ => rfl) rfl rfl (fun r_2 _ H locs hr_2 hP hD hS => ?_)
  obtain rfl : (F_X6_ofTour it (5 : Int32)) = r_2 := hr_2.symm
  dsimp only [fs, List.set] at hP hD
  have hP : va_P D vwCl [(t, .inr (9, [.ref b])), (b, .inr (4, [.ref r])), (r, .inl (k.1, 628, .inl (F_X0_add (F_X0_add f (13 : Int32) (1 : Int32)) (F_X6_ofTour it (4 : Int32)) (1 : Int32))))] H := hP
  have hD : va_D A [(t, .inr (9, [.ref b])), (b, .inr (4, [.ref r])), (r, .inl (k.1, 628, .inl (F_X0_add (F_X0_add f (13 : Int32) (1 : Int32)) (F_X6_ofTour it (4 : Int32)) (1 : Int32))))] := hD
  refine lv_iload_n hx hb dX5_failTry_32 rfl (lv_at hl 2 rfl) ?_
  generalize hp_3 : (F_X0_set (F_X0_add (F_X0_add f (13 : Int32) (1 : Int32)) (F_X6_ofTour it (4 : Int32)) (1 : Int32)) (F_X6_ofTour it (5 : Int32)) ix) = p_3 at hF
  rw [letp_eq] at hF
  refine fc_cv (isC := [1, 2]) (cells' := 0) (slots' := 0) (fc_runV (n := 2) (As := [.int (F_X6_ofTour it (5 : Int32)), .int ix]) (rest := []) (isC := [1, 2]) (maxL := 3) ⟨hx, hb, hml, hown, hts⟩ (c_X0_set b r (F_X0_add (F_X0_add f (13 : Int32) (1 : Int32)) (F_X6_ofTour it (4 : Int32)) (1 : Int32)) (F_X6_ofTour it (5 : Int32)) ix H.size) gX5_failTry_X0_set rfl (by decide +kernel) rfl ⟨Nat.le_of_ble_eq_true rfl, Nat.le_of_ble_eq_true rfl⟩ ⟨Nat.le_of_ble_eq_true rfl, Nat.le_of_ble_eq_true rfl⟩ hE hP hD hS hA rfl rfl (va_recv hE.1 hP (ci := 4) (q0 := 1) rfl rfl) hl rfl (Nat.le_of_ble_eq_true rfl) dX5_failTry_33) hP hD hS hA rfl (fun _ => rfl) rfl rfl (fun _ H locs _ hP hD hS => ?_)
  rw [hp_3] at hP hD
  dsimp only [fs, List.set] at hP hD
  have hP : va_P D vwCl [(t, .inr (9, [.ref b])), (b, .inr (4, [.ref r])), (r, .inl (k.1, 628, .inl p_3))] H := hP
  have hD : va_D A [(t, .inr (9, [.ref b])), (b, .inr (4, [.ref r])), (r, .inl (k.1, 628, .inl p_3))] := hD
  refine lv_aload_n hx hb dX5_failTry_36 rfl (lv_at hl 0 rfl) ?_
  refine va_get (D := D) (ci := 9) (v := .ref b) (C := RX5) (T := TX5) (N := 1) hx hb hts in_X5_failTry_X5 hown hE.1 hP 0 rfl rfl 0 (by decide) (hts _ lk_X5_failTry_12) (fun _ h9 => h9) rfl dX5_failTry_37 ?_
  refine lv_iload_n hx hb dX5_failTry_40 rfl (lv_at hl 1 rfl) ?_
  refine lv_iconst (v := 4) hx hb dX5_failTry_41 (by decide) ?_
  refine fc_ci (isC := []) (cells' := 0) (slots' := 0) (fc_runSN (n := 2) (As := [.int it, .int (4 : Int32)]) (rest := [.ref b]) (isC := []) (maxL := 2) ⟨hx, hb, hml, hown, hts⟩ (c_X6_ofTour it (4 : Int32) H.size) gX5_failTry_X6_ofTour_n22 (by decide +kernel) (by decide +kernel) (by decide +kernel) rfl (by decide +kernel) rfl ⟨Nat.le_of_ble_eq_true rfl, Nat.le_of_ble_eq_true rfl⟩ ⟨Nat.le_of_ble_eq_true rfl, Nat.le_of_ble_eq_true rfl⟩ hE hP hD hS hA rfl rfl hl rfl (Nat.le_of_ble_eq_true rfl) dX5_failTry_42) hP hD hS hA rfl (fun _ => rfl) rfl rfl (fun r_4 _ H locs hr_4 hP hD hS => ?_)
  obtain rfl : (F_X6_ofTour it (4 : Int32)) = r_4 := hr_4.symm
  dsimp only [fs, List.set] at hP hD
  have hP : va_P D vwCl [(t, .inr (9, [.ref b])), (b, .inr (4, [.ref r])), (r, .inl (k.1, 628, .inl p_3))] H := hP
  have hD : va_D A [(t, .inr (9, [.ref b])), (b, .inr (4, [.ref r])), (r, .inl (k.1, 628, .inl p_3))] := hD
  refine fc_ci (isC := [1, 2]) (cells' := 0) (slots' := 0) (fc_runV (n := 1) (As := [.int (F_X6_ofTour it (4 : Int32))]) (rest := []) (isC := [1, 2]) (maxL := 2) ⟨hx, hb, hml, hown, hts⟩ (c_X0_get b r p_3 (F_X6_ofTour it (4 : Int32)) H.size) gX5_failTry_X0_get rfl (by decide +kernel) rfl ⟨Nat.le_of_ble_eq_true rfl, Nat.le_of_ble_eq_true rfl⟩ ⟨Nat.le_of_ble_eq_true rfl, Nat.le_of_ble_eq_true rfl⟩ hE hP hD hS hA rfl rfl (va_recv hE.1 hP (ci := 4) (q0 := 1) rfl rfl) hl rfl (Nat.le_of_ble_eq_true rfl) dX5_failTry_45) hP hD hS hA rfl (fun _ => rfl) rfl rfl (fun r_5 _ H locs hr_5 hP hD hS => ?_)
  obtain rfl : (F_X0_get p_3 (F_X6_ofTour it (4 : Int32))) = r_5 := hr_5.symm
  dsimp only [fs, List.set] at hP hD
  have hP : va_P D vwCl [(t, .inr (9, [.ref b])), (b, .inr (4, [.ref r])), (r, .inl (k.1, 628, .inl p_3))] H := hP
  have hD : va_D A [(t, .inr (9, [.ref b])), (b, .inr (4, [.ref r])), (r, .inl (k.1, 628, .inl p_3))] := hD
  refine lv_aload_n hx hb dX5_failTry_48 rfl (lv_at hl 0 rfl) ?_
  refine va_get (D := D) (ci := 9) (v := .ref b) (C := RX5) (T := TX5) (N := 1) hx hb hts in_X5_failTry_X5 hown hE.1 hP 0 rfl rfl 0 (by decide) (hts _ lk_X5_failTry_12) (fun _ h9 => h9) rfl dX5_failTry_49 ?_
  refine lv_iload_n hx hb dX5_failTry_52 rfl (lv_at hl 1 rfl) ?_
  refine lv_iconst (v := 1) hx hb dX5_failTry_53 (by decide) ?_
  refine fc_ci (isC := []) (cells' := 0) (slots' := 0) (fc_runSN (n := 2) (As := [.int it, .int (1 : Int32)]) (rest := [.ref b, .int (F_X0_get p_3 (F_X6_ofTour it (4 : Int32)))]) (isC := []) (maxL := 2) ⟨hx, hb, hml, hown, hts⟩ (c_X6_ofTour it (1 : Int32) H.size) gX5_failTry_X6_ofTour_n22 (by decide +kernel) (by decide +kernel) (by decide +kernel) rfl (by decide +kernel) rfl ⟨Nat.le_of_ble_eq_true rfl, Nat.le_of_ble_eq_true rfl⟩ ⟨Nat.le_of_ble_eq_true rfl, Nat.le_of_ble_eq_true rfl⟩ hE hP hD hS hA rfl rfl hl rfl (Nat.le_of_ble_eq_true rfl) dX5_failTry_54) hP hD hS hA rfl (fun _ => rfl) rfl rfl (fun r_6 _ H locs hr_6 hP hD hS => ?_)
  obtain rfl : (F_X6_ofTour it (1 : Int32)) = r_6 := hr_6.symm
  dsimp only [fs, List.set] at hP hD
  have hP : va_P D vwCl [(t, .inr (9, [.ref b])), (b, .inr (4, [.ref r])), (r, .inl (k.1, 628, .inl p_3))] H := hP
  have hD : va_D A [(t, .inr (9, [.ref b])), (b, .inr (4, [.ref r])), (r, .inl (k.1, 628, .inl p_3))] := hD
  refine fc_ci (isC := [1, 2]) (cells' := 0) (slots' := 0) (fc_runV (n := 1) (As := [.int (F_X6_ofTour it (1 : Int32))]) (rest := [.int (F_X0_get p_3 (F_X6_ofTour it (4 : Int32)))]) (isC := [1, 2]) (maxL := 2) ⟨hx, hb, hml, hown, hts⟩ (c_X0_get b r p_3 (F_X6_ofTour it (1 : Int32)) H.size) gX5_failTry_X0_get rfl (by decide +kernel) rfl ⟨Nat.le_of_ble_eq_true rfl, Nat.le_of_ble_eq_true rfl⟩ ⟨Nat.le_of_ble_eq_true rfl, Nat.le_of_ble_eq_true rfl⟩ hE hP hD hS hA rfl rfl (va_recv hE.1 hP (ci := 4) (q0 := 1) rfl rfl) hl rfl (Nat.le_of_ble_eq_true rfl) dX5_failTry_57) hP hD hS hA rfl (fun _ => rfl) rfl rfl (fun r_7 _ H locs hr_7 hP hD hS => ?_)
  obtain rfl : (F_X0_get p_3 (F_X6_ofTour it (1 : Int32))) = r_7 := hr_7.symm
  dsimp only [fs, List.set] at hP hD
  have hP : va_P D vwCl [(t, .inr (9, [.ref b])), (b, .inr (4, [.ref r])), (r, .inl (k.1, 628, .inl p_3))] H := hP
  have hD : va_D A [(t, .inr (9, [.ref b])), (b, .inr (4, [.ref r])), (r, .inl (k.1, 628, .inl p_3))] := hD
  refine lv_icmp_le (tgt := 67) hx hb dX5_failTry_60 (by decide) (fun c_8 => ?_) (fun c_8 => ?_)
  · rw [if_pos c_8] at hF
    refine lv_iconst (v := 0) hx hb dX5_failTry_67 (by decide) ?_
    refine lv_istore_n (lv' := [(3, .int (0 : Int32)), (0, .ref t), (1, .int it), (2, .int ix)]) hx hb dX5_failTry_68 rfl hl (by decide) rfl (fun ls hl => ?_)
    refine lv_iload_n hx hb dX5_failTry_69 rfl (lv_at hl 0 rfl) ?_
    refine lv_if_eq (tgt := 94) hx hb dX5_failTry_70 (by decide) (fun c_9 => ?_) (fun c_9 => absurd c_9 (by decide))
    subst hF
    exact fc_vret hx hb hr hlk hS () trivial hP hD (by decide) (by decide) dX5_failTry_94
  · rw [if_neg c_8] at hF
    refine lv_iconst (v := 1) hx hb dX5_failTry_63 (by decide) ?_
    refine lv_goto (tgt := 68) hx hb dX5_failTry_64 (by decide) ?_
    refine lv_istore_n (lv' := [(3, .int (1 : Int32)), (0, .ref t), (1, .int it), (2, .int ix)]) hx hb dX5_failTry_68 rfl hl (by decide) rfl (fun ls hl => ?_)
    refine lv_iload_n hx hb dX5_failTry_69 rfl (lv_at hl 0 rfl) ?_
    refine lv_if_eq (tgt := 94) hx hb dX5_failTry_70 (by decide) (fun c_10 => absurd c_10 (by decide)) (fun c_10 => ?_)
    refine lv_aload_n hx hb dX5_failTry_73 rfl (lv_at hl 1 rfl) ?_
    refine va_get (D := D) (ci := 9) (v := .ref b) (C := RX5) (T := TX5) (N := 1) hx hb hts in_X5_failTry_X5 hown hE.1 hP 0 rfl rfl 0 (by decide) (hts _ lk_X5_failTry_12) (fun _ h9 => h9) rfl dX5_failTry_74 ?_
    refine lv_iload_n hx hb dX5_failTry_77 rfl (lv_at hl 2 rfl) ?_
    refine lv_iconst (v := 0) hx hb dX5_failTry_78 (by decide) ?_
    refine fc_ci (isC := []) (cells' := 0) (slots' := 0) (fc_runSN (n := 2) (As := [.int it, .int (0 : Int32)]) (rest := [.ref b]) (isC := []) (maxL := 2) ⟨hx, hb, hml, hown, hts⟩ (c_X6_ofTour it (0 : Int32) H.size) gX5_failTry_X6_ofTour_n22 (by decide +kernel) (by decide +kernel) (by decide +kernel) rfl (by decide +kernel) rfl ⟨Nat.le_of_ble_eq_true rfl, Nat.le_of_ble_eq_true rfl⟩ ⟨Nat.le_of_ble_eq_true rfl, Nat.le_of_ble_eq_true rfl⟩ hE hP hD hS hA rfl rfl hl rfl (Nat.le_of_ble_eq_true rfl) dX5_failTry_79) hP hD hS hA rfl (fun _ => rfl) rfl rfl (fun r_11 _ H locs hr_11 hP hD hS => ?_)
    obtain rfl : (F_X6_ofTour it (0 : Int32)) = r_11 := hr_11.symm
    dsimp only [fs, List.set] at hP hD
    have hP : va_P D vwCl [(t, .inr (9, [.ref b])), (b, .inr (4, [.ref r])), (r, .inl (k.1, 628, .inl p_3))] H := hP
    have hD : va_D A [(t, .inr (9, [.ref b])), (b, .inr (4, [.ref r])), (r, .inl (k.1, 628, .inl p_3))] := hD
    refine fc_ci (isC := [1, 2]) (cells' := 0) (slots' := 0) (fc_runV (n := 1) (As := [.int (F_X6_ofTour it (0 : Int32))]) (rest := []) (isC := [1, 2]) (maxL := 2) ⟨hx, hb, hml, hown, hts⟩ (c_X0_get b r p_3 (F_X6_ofTour it (0 : Int32)) H.size) gX5_failTry_X0_get rfl (by decide +kernel) rfl ⟨Nat.le_of_ble_eq_true rfl, Nat.le_of_ble_eq_true rfl⟩ ⟨Nat.le_of_ble_eq_true rfl, Nat.le_of_ble_eq_true rfl⟩ hE hP hD hS hA rfl rfl (va_recv hE.1 hP (ci := 4) (q0 := 1) rfl rfl) hl rfl (Nat.le_of_ble_eq_true rfl) dX5_failTry_82) hP hD hS hA rfl (fun _ => rfl) rfl rfl (fun r_12 _ H locs hr_12 hP hD hS => ?_)
    obtain rfl : (F_X0_get p_3 (F_X6_ofTour it (0 : Int32))) = r_12 := hr_12.symm
    dsimp only [fs, List.set] at hP hD
    have hP : va_P D vwCl [(t, .inr (9, [.ref b])), (b, .inr (4, [.ref r])), (r, .inl (k.1, 628, .inl p_3))] H := hP
    have hD : va_D A [(t, .inr (9, [.ref b])), (b, .inr (4, [.ref r])), (r, .inl (k.1, 628, .inl p_3))] := hD
    refine lv_iconst (v := 1) hx hb dX5_failTry_85 (by decide) ?_
    refine lv_icmp_ne (tgt := 94) hx hb dX5_failTry_86 (by decide) (fun c_13 => ?_) (fun c_13 => ?_)
    · rw [if_neg c_13] at hF
      subst hF
      exact fc_vret hx hb hr hlk hS () trivial hP hD (by decide) (by decide) dX5_failTry_94
    · rw [if_pos c_13] at hF
      refine lv_aload_n hx hb dX5_failTry_89 rfl (lv_at hl 1 rfl) ?_
      refine lv_iload_n hx hb dX5_failTry_90 rfl (lv_at hl 2 rfl) ?_
      refine fc_cv (isC := [0, 1, 2]) (cells' := 0) (slots' := 0) (fc_runV (n := 1) (As := [.int it]) (rest := []) (isC := [0, 1, 2]) (maxL := 2) ⟨hx, hb, hml, hown, hts⟩ (c_X5_turnBack t b r p_3 it H.size) gX5_failTry_X5_turnBack rfl (by decide +kernel) rfl ⟨Nat.le_of_ble_eq_true rfl, Nat.le_of_ble_eq_true rfl⟩ ⟨Nat.le_of_ble_eq_true rfl, Nat.le_of_ble_eq_true rfl⟩ hE hP hD hS hA rfl rfl (va_recv hE.1 hP (ci := 9) (q0 := 0) rfl rfl) hl rfl (Nat.le_of_ble_eq_true rfl) dX5_failTry_91) hP hD hS hA rfl (fun _ => rfl) rfl rfl (fun _ H locs _ hP hD hS => ?_)
      dsimp only [fs, List.set] at hP hD
      have hP : va_P D vwCl [(t, .inr (9, [.ref b])), (b, .inr (4, [.ref r])), (r, .inl (k.1, 628, .inl (F_X5_turnBack p_3 it)))] H := hP
      have hD : va_D A [(t, .inr (9, [.ref b])), (b, .inr (4, [.ref r])), (r, .inl (k.1, 628, .inl (F_X5_turnBack p_3 it)))] := hD
      subst hF
      exact fc_vret hx hb hr hlk hS () trivial hP hD (by decide) (by decide) dX5_failTry_94

abbrev rm_X5_makeTry : Room := { frames := 3, cells := 0, slots := 0, locals := 72 }
theorem in_X5_makeTry_X5 : ∀ w ∈ wsX50, w ∈ wsX5_makeTry := by decide +kernel
theorem lk_X5_makeTry_12 : (Cond.fieldLink RX5 12 "TheatreSaga$Theatre" "books" "LTheatreSaga$Books;") ∈ wsX5_makeTry := by decide +kernel
def F_X5_makeTry (f : (Nat → Int32)) (it : Int32) : (Nat → Int32) := (if (F_X5_nextFault (F_X0_add f (12 : Int32) (1 : Int32)) it) = (0 : Int32) then (letp (F_X0_get (F_X0_add f (12 : Int32) (1 : Int32)) (F_X6_ofTour it (0 : Int32))) (fun (p_4 : Int32) => (if p_4 = (1 : Int32) then (letp (F_X0_get (F_X5_bookNextStep (F_X0_add f (12 : Int32) (1 : Int32)) it) (F_X6_ofTour it (3 : Int32))) (fun (p_14 : Int32) => (letp (F_X0_get (F_X5_bookNextStep (F_X0_add f (12 : Int32) (1 : Int32)) it) (F_X6_ofTour it (2 : Int32))) (fun (p_17 : Int32) => (if p_14 = p_17 then (F_X5_finishTour (F_X5_bookNextStep (F_X0_add f (12 : Int32) (1 : Int32)) it) it) else (F_X5_bookNextStep (F_X0_add f (12 : Int32) (1 : Int32)) it)))))) else (letp (F_X0_get (F_X5_undoLastStep (F_X0_add f (12 : Int32) (1 : Int32)) it) (F_X6_ofTour it (3 : Int32))) (fun (p_8 : Int32) => (if p_8 = (0 : Int32) then (letp (F_X0_set (F_X5_undoLastStep (F_X0_add f (12 : Int32) (1 : Int32)) it) (F_X6_ofTour it (0 : Int32)) (4 : Int32)) (fun (p_12 : (Nat → Int32)) => p_12)) else (F_X5_undoLastStep (F_X0_add f (12 : Int32) (1 : Int32)) it))))))) else (letp (F_X5_failTry (F_X0_add f (12 : Int32) (1 : Int32)) it (F_X5_nextFault (F_X0_add f (12 : Int32) (1 : Int32)) it)) (fun (p_20 : (Nat → Int32)) => p_20)))
set_option maxHeartbeats 4000000 in
set_option maxRecDepth 100000 in
theorem c_X5_makeTry {l : Launch} {D : va_G} {k : tyK} (t b r : Nat) (f : (Nat → Int32)) (it : Int32) : FCv l yX5_makeTry wsX5_makeTry rm_X5_makeTry D k [.ref t, .int it] [(t, .inr (9, [.ref b])), (b, .inr (4, [.ref r])), (r, .inl (k.1, 628, .inl f))] (fun (_ : Unit) => True) (fun _ => [(t, .inr (9, [.ref b])), (b, .inr (4, [.ref r])), (r, .inl (k.1, 628, .inl (F_X5_makeTry f it)))]) := by
  refine fc_start (cc := cX5_makeTry) (maxL := 3) (ret := none) (own := RX5) (Qc := fun A => va_Qv (fun (_ : Unit) => True) (Bt D (fun _ => [(t, .inr (9, [.ref b])), (b, .inr (4, [.ref r])), (r, .inl (k.1, 628, .inl (F_X5_makeTry f it)))]) A) A) (by decide) rfl rfl (Nat.le_of_ble_eq_true rfl) ?_
  intro p e s m below meth c A H hx hb hml hr hts hown hlk hname hA hP hE hD hS ls hl
  obtain ⟨RES, hF⟩ : ∃ z, (F_X5_makeTry f it) = z := ⟨_, rfl⟩
  rw [hF]
  unfold F_X5_makeTry at hF
  have hl : lv_has ls 3 [(0, .ref t), (1, .int it)] := hl
  obtain ⟨locs, hlocs⟩ : ∃ z : List Loc, z = [] := ⟨_, rfl⟩
  rw [← hlocs] at hS ⊢
  refine lv_aload_n hx hb dX5_makeTry_0 rfl (lv_at hl 0 rfl) ?_
  refine va_get (D := D) (ci := 9) (v := .ref b) (C := RX5) (T := TX5) (N := 1) hx hb hts in_X5_makeTry_X5 hown hE.1 hP 0 rfl rfl 0 (by decide) (hts _ lk_X5_makeTry_12) (fun _ h9 => h9) rfl dX5_makeTry_1 ?_
  refine lv_bipush (v := 12) hx hb dX5_makeTry_4 (by decide) ?_
  refine lv_iconst (v := 1) hx hb dX5_makeTry_6 (by decide) ?_
  refine fc_cv (isC := [1, 2]) (cells' := 0) (slots' := 0) (fc_runV (n := 2) (As := [.int (12 : Int32), .int (1 : Int32)]) (rest := []) (isC := [1, 2]) (maxL := 3) ⟨hx, hb, hml, hown, hts⟩ (c_X0_add b r f (12 : Int32) (1 : Int32) H.size) gX5_makeTry_X0_add rfl (by decide +kernel) rfl ⟨Nat.le_of_ble_eq_true rfl, Nat.le_of_ble_eq_true rfl⟩ ⟨Nat.le_of_ble_eq_true rfl, Nat.le_of_ble_eq_true rfl⟩ hE hP hD hS hA rfl rfl (va_recv hE.1 hP (ci := 4) (q0 := 1) rfl rfl) hl rfl (Nat.le_of_ble_eq_true rfl) dX5_makeTry_7) hP hD hS hA rfl (fun _ => rfl) rfl rfl (fun _ H locs _ hP hD hS => ?_)
  dsimp only [fs, List.set] at hP hD
  have hP : va_P D vwCl [(t, .inr (9, [.ref b])), (b, .inr (4, [.ref r])), (r, .inl (k.1, 628, .inl (F_X0_add f (12 : Int32) (1 : Int32))))] H := hP
  have hD : va_D A [(t, .inr (9, [.ref b])), (b, .inr (4, [.ref r])), (r, .inl (k.1, 628, .inl (F_X0_add f (12 : Int32) (1 : Int32))))] := hD
  refine lv_aload_n hx hb dX5_makeTry_10 rfl (lv_at hl 0 rfl) ?_
  refine lv_iload_n hx hb dX5_makeTry_11 rfl (lv_at hl 1 rfl) ?_
  refine fc_ci (isC := [0, 1, 2]) (cells' := 0) (slots' := 0) (fc_runV (n := 1) (As := [.int it]) (rest := []) (isC := [0, 1, 2]) (maxL := 7) ⟨hx, hb, hml, hown, hts⟩ (c_X5_nextFault t b r (F_X0_add f (12 : Int32) (1 : Int32)) it H.size) gX5_makeTry_X5_nextFault rfl (by decide +kernel) rfl ⟨Nat.le_of_ble_eq_true rfl, Nat.le_of_ble_eq_true rfl⟩ ⟨Nat.le_of_ble_eq_true rfl, Nat.le_of_ble_eq_true rfl⟩ hE hP hD hS hA rfl rfl (va_recv hE.1 hP (ci := 9) (q0 := 0) rfl rfl) hl rfl (Nat.le_of_ble_eq_true rfl) dX5_makeTry_12) hP hD hS hA rfl (fun _ => rfl) rfl rfl (fun r_1 _ H locs hr_1 hP hD hS => ?_)
  obtain rfl : (F_X5_nextFault (F_X0_add f (12 : Int32) (1 : Int32)) it) = r_1 := hr_1.symm
  dsimp only [fs, List.set] at hP hD
  have hP : va_P D vwCl [(t, .inr (9, [.ref b])), (b, .inr (4, [.ref r])), (r, .inl (k.1, 628, .inl (F_X0_add f (12 : Int32) (1 : Int32))))] H := hP
  have hD : va_D A [(t, .inr (9, [.ref b])), (b, .inr (4, [.ref r])), (r, .inl (k.1, 628, .inl (F_X0_add f (12 : Int32) (1 : Int32))))] := hD
  refine lv_istore_n (lv' := [(2, .int (F_X5_nextFault (F_X0_add f (12 : Int32) (1 : Int32)) it)), (0, .ref t), (1, .int it)]) hx hb dX5_makeTry_15 rfl hl (by decide) rfl (fun ls hl => ?_)
  refine lv_iload_n hx hb dX5_makeTry_16 rfl (lv_at hl 0 rfl) ?_
  refine lv_if_eq (tgt := 29) hx hb dX5_makeTry_17 (by decide) (fun c_2 => ?_) (fun c_2 => ?_)
  · rw [if_pos c_2] at hF
    refine lv_aload_n hx hb dX5_makeTry_29 rfl (lv_at hl 1 rfl) ?_
    refine va_get (D := D) (ci := 9) (v := .ref b) (C := RX5) (T := TX5) (N := 1) hx hb hts in_X5_makeTry_X5 hown hE.1 hP 0 rfl rfl 0 (by decide) (hts _ lk_X5_makeTry_12) (fun _ h9 => h9) rfl dX5_makeTry_30 ?_
    refine lv_iload_n hx hb dX5_makeTry_33 rfl (lv_at hl 2 rfl) ?_
    refine lv_iconst (v := 0) hx hb dX5_makeTry_34 (by decide) ?_
    refine fc_ci (isC := []) (cells' := 0) (slots' := 0) (fc_runSN (n := 2) (As := [.int it, .int (0 : Int32)]) (rest := [.ref b]) (isC := []) (maxL := 2) ⟨hx, hb, hml, hown, hts⟩ (c_X6_ofTour it (0 : Int32) H.size) gX5_makeTry_X6_ofTour_n22 (by decide +kernel) (by decide +kernel) (by decide +kernel) rfl (by decide +kernel) rfl ⟨Nat.le_of_ble_eq_true rfl, Nat.le_of_ble_eq_true rfl⟩ ⟨Nat.le_of_ble_eq_true rfl, Nat.le_of_ble_eq_true rfl⟩ hE hP hD hS hA rfl rfl hl rfl (Nat.le_of_ble_eq_true rfl) dX5_makeTry_35) hP hD hS hA rfl (fun _ => rfl) rfl rfl (fun r_3 _ H locs hr_3 hP hD hS => ?_)
    obtain rfl : (F_X6_ofTour it (0 : Int32)) = r_3 := hr_3.symm
    dsimp only [fs, List.set] at hP hD
    have hP : va_P D vwCl [(t, .inr (9, [.ref b])), (b, .inr (4, [.ref r])), (r, .inl (k.1, 628, .inl (F_X0_add f (12 : Int32) (1 : Int32))))] H := hP
    have hD : va_D A [(t, .inr (9, [.ref b])), (b, .inr (4, [.ref r])), (r, .inl (k.1, 628, .inl (F_X0_add f (12 : Int32) (1 : Int32))))] := hD
    generalize hp_4 : (F_X0_get (F_X0_add f (12 : Int32) (1 : Int32)) (F_X6_ofTour it (0 : Int32))) = p_4 at hF
    rw [letp_eq] at hF
    refine fc_ci (isC := [1, 2]) (cells' := 0) (slots' := 0) (fc_runV (n := 1) (As := [.int (F_X6_ofTour it (0 : Int32))]) (rest := []) (isC := [1, 2]) (maxL := 2) ⟨hx, hb, hml, hown, hts⟩ (c_X0_get b r (F_X0_add f (12 : Int32) (1 : Int32)) (F_X6_ofTour it (0 : Int32)) H.size) gX5_makeTry_X0_get rfl (by decide +kernel) rfl ⟨Nat.le_of_ble_eq_true rfl, Nat.le_of_ble_eq_true rfl⟩ ⟨Nat.le_of_ble_eq_true rfl, Nat.le_of_ble_eq_true rfl⟩ hE hP hD hS hA rfl rfl (va_recv hE.1 hP (ci := 4) (q0 := 1) rfl rfl) hl rfl (Nat.le_of_ble_eq_true rfl) dX5_makeTry_38) hP hD hS hA rfl (fun _ => rfl) rfl rfl (fun r_5 _ H locs hr_5 hP hD hS => ?_)
    rw [hp_4] at hr_5
    obtain rfl : p_4 = r_5 := hr_5.symm
    dsimp only [fs, List.set] at hP hD
    have hP : va_P D vwCl [(t, .inr (9, [.ref b])), (b, .inr (4, [.ref r])), (r, .inl (k.1, 628, .inl (F_X0_add f (12 : Int32) (1 : Int32))))] H := hP
    have hD : va_D A [(t, .inr (9, [.ref b])), (b, .inr (4, [.ref r])), (r, .inl (k.1, 628, .inl (F_X0_add f (12 : Int32) (1 : Int32))))] := hD
    refine lv_iconst (v := 1) hx hb dX5_makeTry_41 (by decide) ?_
    refine lv_icmp_ne (tgt := 85) hx hb dX5_makeTry_42 (by decide) (fun c_6 => ?_) (fun c_6 => ?_)
    · rw [if_neg c_6] at hF
      refine lv_aload_n hx hb dX5_makeTry_85 rfl (lv_at hl 1 rfl) ?_
      refine lv_iload_n hx hb dX5_makeTry_86 rfl (lv_at hl 2 rfl) ?_
      refine fc_cv (isC := [0, 1, 2]) (cells' := 0) (slots' := 0) (fc_runV (n := 1) (As := [.int it]) (rest := []) (isC := [0, 1, 2]) (maxL := 4) ⟨hx, hb, hml, hown, hts⟩ (c_X5_undoLastStep t b r (F_X0_add f (12 : Int32) (1 : Int32)) it H.size) gX5_makeTry_X5_undoLastStep rfl (by decide +kernel) rfl ⟨Nat.le_of_ble_eq_true rfl, Nat.le_of_ble_eq_true rfl⟩ ⟨Nat.le_of_ble_eq_true rfl, Nat.le_of_ble_eq_true rfl⟩ hE hP hD hS hA rfl rfl (va_recv hE.1 hP (ci := 9) (q0 := 0) rfl rfl) hl rfl (Nat.le_of_ble_eq_true rfl) dX5_makeTry_87) hP hD hS hA rfl (fun _ => rfl) rfl rfl (fun _ H locs _ hP hD hS => ?_)
      dsimp only [fs, List.set] at hP hD
      have hP : va_P D vwCl [(t, .inr (9, [.ref b])), (b, .inr (4, [.ref r])), (r, .inl (k.1, 628, .inl (F_X5_undoLastStep (F_X0_add f (12 : Int32) (1 : Int32)) it)))] H := hP
      have hD : va_D A [(t, .inr (9, [.ref b])), (b, .inr (4, [.ref r])), (r, .inl (k.1, 628, .inl (F_X5_undoLastStep (F_X0_add f (12 : Int32) (1 : Int32)) it)))] := hD
      refine lv_aload_n hx hb dX5_makeTry_90 rfl (lv_at hl 1 rfl) ?_
      refine va_get (D := D) (ci := 9) (v := .ref b) (C := RX5) (T := TX5) (N := 1) hx hb hts in_X5_makeTry_X5 hown hE.1 hP 0 rfl rfl 0 (by decide) (hts _ lk_X5_makeTry_12) (fun _ h9 => h9) rfl dX5_makeTry_91 ?_
      refine lv_iload_n hx hb dX5_makeTry_94 rfl (lv_at hl 2 rfl) ?_
      refine lv_iconst (v := 3) hx hb dX5_makeTry_95 (by decide) ?_
      refine fc_ci (isC := []) (cells' := 0) (slots' := 0) (fc_runSN (n := 2) (As := [.int it, .int (3 : Int32)]) (rest := [.ref b]) (isC := []) (maxL := 2) ⟨hx, hb, hml, hown, hts⟩ (c_X6_ofTour it (3 : Int32) H.size) gX5_makeTry_X6_ofTour_n22 (by decide +kernel) (by decide +kernel) (by decide +kernel) rfl (by decide +kernel) rfl ⟨Nat.le_of_ble_eq_true rfl, Nat.le_of_ble_eq_true rfl⟩ ⟨Nat.le_of_ble_eq_true rfl, Nat.le_of_ble_eq_true rfl⟩ hE hP hD hS hA rfl rfl hl rfl (Nat.le_of_ble_eq_true rfl) dX5_makeTry_96) hP hD hS hA rfl (fun _ => rfl) rfl rfl (fun r_7 _ H locs hr_7 hP hD hS => ?_)
      obtain rfl : (F_X6_ofTour it (3 : Int32)) = r_7 := hr_7.symm
      dsimp only [fs, List.set] at hP hD
      have hP : va_P D vwCl [(t, .inr (9, [.ref b])), (b, .inr (4, [.ref r])), (r, .inl (k.1, 628, .inl (F_X5_undoLastStep (F_X0_add f (12 : Int32) (1 : Int32)) it)))] H := hP
      have hD : va_D A [(t, .inr (9, [.ref b])), (b, .inr (4, [.ref r])), (r, .inl (k.1, 628, .inl (F_X5_undoLastStep (F_X0_add f (12 : Int32) (1 : Int32)) it)))] := hD
      generalize hp_8 : (F_X0_get (F_X5_undoLastStep (F_X0_add f (12 : Int32) (1 : Int32)) it) (F_X6_ofTour it (3 : Int32))) = p_8 at hF
      rw [letp_eq] at hF
      refine fc_ci (isC := [1, 2]) (cells' := 0) (slots' := 0) (fc_runV (n := 1) (As := [.int (F_X6_ofTour it (3 : Int32))]) (rest := []) (isC := [1, 2]) (maxL := 2) ⟨hx, hb, hml, hown, hts⟩ (c_X0_get b r (F_X5_undoLastStep (F_X0_add f (12 : Int32) (1 : Int32)) it) (F_X6_ofTour it (3 : Int32)) H.size) gX5_makeTry_X0_get rfl (by decide +kernel) rfl ⟨Nat.le_of_ble_eq_true rfl, Nat.le_of_ble_eq_true rfl⟩ ⟨Nat.le_of_ble_eq_true rfl, Nat.le_of_ble_eq_true rfl⟩ hE hP hD hS hA rfl rfl (va_recv hE.1 hP (ci := 4) (q0 := 1) rfl rfl) hl rfl (Nat.le_of_ble_eq_true rfl) dX5_makeTry_99) hP hD hS hA rfl (fun _ => rfl) rfl rfl (fun r_9 _ H locs hr_9 hP hD hS => ?_)
      rw [hp_8] at hr_9
      obtain rfl : p_8 = r_9 := hr_9.symm
      dsimp only [fs, List.set] at hP hD
      have hP : va_P D vwCl [(t, .inr (9, [.ref b])), (b, .inr (4, [.ref r])), (r, .inl (k.1, 628, .inl (F_X5_undoLastStep (F_X0_add f (12 : Int32) (1 : Int32)) it)))] H := hP
      have hD : va_D A [(t, .inr (9, [.ref b])), (b, .inr (4, [.ref r])), (r, .inl (k.1, 628, .inl (F_X5_undoLastStep (F_X0_add f (12 : Int32) (1 : Int32)) it)))] := hD
      refine lv_if_ne (tgt := 118) hx hb dX5_makeTry_102 (by decide) (fun c_10 => ?_) (fun c_10 => ?_)
      · rw [if_neg c_10] at hF
        subst hF
        exact fc_vret hx hb hr hlk hS () trivial hP hD (by decide) (by decide) dX5_makeTry_118
      · rw [if_pos c_10] at hF
        refine lv_aload_n hx hb dX5_makeTry_105 rfl (lv_at hl 1 rfl) ?_
        refine va_get (D := D) (ci := 9) (v := .ref b) (C := RX5) (T := TX5) (N := 1) hx hb hts in_X5_makeTry_X5 hown hE.1 hP 0 rfl rfl 0 (by decide) (hts _ lk_X5_makeTry_12) (fun _ h9 => h9) rfl dX5_makeTry_106 ?_
        refine lv_iload_n hx hb dX5_makeTry_109 rfl (lv_at hl 2 rfl) ?_
        refine lv_iconst (v := 0) hx hb dX5_makeTry_110 (by decide) ?_
        refine fc_ci (isC := []) (cells' := 0) (slots' := 0) (fc_runSN (n := 2) (As := [.int it, .int (0 : Int32)]) (rest := [.ref b]) (isC := []) (maxL := 2) ⟨hx, hb, hml, hown, hts⟩ (c_X6_ofTour it (0 : Int32) H.size) gX5_makeTry_X6_ofTour_n22 (by decide +kernel) (by decide +kernel) (by decide +kernel) rfl (by decide +kernel) rfl ⟨Nat.le_of_ble_eq_true rfl, Nat.le_of_ble_eq_true rfl⟩ ⟨Nat.le_of_ble_eq_true rfl, Nat.le_of_ble_eq_true rfl⟩ hE hP hD hS hA rfl rfl hl rfl (Nat.le_of_ble_eq_true rfl) dX5_makeTry_111) hP hD hS hA rfl (fun _ => rfl) rfl rfl (fun r_11 _ H locs hr_11 hP hD hS => ?_)
        obtain rfl : (F_X6_ofTour it (0 : Int32)) = r_11 := hr_11.symm
        dsimp only [fs, List.set] at hP hD
        have hP : va_P D vwCl [(t, .inr (9, [.ref b])), (b, .inr (4, [.ref r])), (r, .inl (k.1, 628, .inl (F_X5_undoLastStep (F_X0_add f (12 : Int32) (1 : Int32)) it)))] H := hP
        have hD : va_D A [(t, .inr (9, [.ref b])), (b, .inr (4, [.ref r])), (r, .inl (k.1, 628, .inl (F_X5_undoLastStep (F_X0_add f (12 : Int32) (1 : Int32)) it)))] := hD
        refine lv_iconst (v := 4) hx hb dX5_makeTry_114 (by decide) ?_
        generalize hp_12 : (F_X0_set (F_X5_undoLastStep (F_X0_add f (12 : Int32) (1 : Int32)) it) (F_X6_ofTour it (0 : Int32)) (4 : Int32)) = p_12 at hF
        rw [letp_eq] at hF
        refine fc_cv (isC := [1, 2]) (cells' := 0) (slots' := 0) (fc_runV (n := 2) (As := [.int (F_X6_ofTour it (0 : Int32)), .int (4 : Int32)]) (rest := []) (isC := [1, 2]) (maxL := 3) ⟨hx, hb, hml, hown, hts⟩ (c_X0_set b r (F_X5_undoLastStep (F_X0_add f (12 : Int32) (1 : Int32)) it) (F_X6_ofTour it (0 : Int32)) (4 : Int32) H.size) gX5_makeTry_X0_set rfl (by decide +kernel) rfl ⟨Nat.le_of_ble_eq_true rfl, Nat.le_of_ble_eq_true rfl⟩ ⟨Nat.le_of_ble_eq_true rfl, Nat.le_of_ble_eq_true rfl⟩ hE hP hD hS hA rfl rfl (va_recv hE.1 hP (ci := 4) (q0 := 1) rfl rfl) hl rfl (Nat.le_of_ble_eq_true rfl) dX5_makeTry_115) hP hD hS hA rfl (fun _ => rfl) rfl rfl (fun _ H locs _ hP hD hS => ?_)
        rw [hp_12] at hP hD
        dsimp only [fs, List.set] at hP hD
        have hP : va_P D vwCl [(t, .inr (9, [.ref b])), (b, .inr (4, [.ref r])), (r, .inl (k.1, 628, .inl p_12))] H := hP
        have hD : va_D A [(t, .inr (9, [.ref b])), (b, .inr (4, [.ref r])), (r, .inl (k.1, 628, .inl p_12))] := hD
        subst hF
        exact fc_vret hx hb hr hlk hS () trivial hP hD (by decide) (by decide) dX5_makeTry_118
    · rw [if_pos c_6] at hF
      refine lv_aload_n hx hb dX5_makeTry_45 rfl (lv_at hl 1 rfl) ?_
      refine lv_iload_n hx hb dX5_makeTry_46 rfl (lv_at hl 2 rfl) ?_
      refine fc_cv (isC := [0, 1, 2]) (cells' := 0) (slots' := 0) (fc_runV (n := 1) (As := [.int it]) (rest := []) (isC := [0, 1, 2]) (maxL := 5) ⟨hx, hb, hml, hown, hts⟩ (c_X5_bookNextStep t b r (F_X0_add f (12 : Int32) (1 : Int32)) it H.size) gX5_makeTry_X5_bookNextStep rfl (by decide +kernel) rfl ⟨Nat.le_of_ble_eq_true rfl, Nat.le_of_ble_eq_true rfl⟩ ⟨Nat.le_of_ble_eq_true rfl, Nat.le_of_ble_eq_true rfl⟩ hE hP hD hS hA rfl rfl (va_recv hE.1 hP (ci := 9) (q0 := 0) rfl rfl) hl rfl (Nat.le_of_ble_eq_true rfl) dX5_makeTry_47) hP hD hS hA rfl (fun _ => rfl) rfl rfl (fun _ H locs _ hP hD hS => ?_)
      dsimp only [fs, List.set] at hP hD
      have hP : va_P D vwCl [(t, .inr (9, [.ref b])), (b, .inr (4, [.ref r])), (r, .inl (k.1, 628, .inl (F_X5_bookNextStep (F_X0_add f (12 : Int32) (1 : Int32)) it)))] H := hP
      have hD : va_D A [(t, .inr (9, [.ref b])), (b, .inr (4, [.ref r])), (r, .inl (k.1, 628, .inl (F_X5_bookNextStep (F_X0_add f (12 : Int32) (1 : Int32)) it)))] := hD
      refine lv_aload_n hx hb dX5_makeTry_50 rfl (lv_at hl 1 rfl) ?_
      refine va_get (D := D) (ci := 9) (v := .ref b) (C := RX5) (T := TX5) (N := 1) hx hb hts in_X5_makeTry_X5 hown hE.1 hP 0 rfl rfl 0 (by decide) (hts _ lk_X5_makeTry_12) (fun _ h9 => h9) rfl dX5_makeTry_51 ?_
      refine lv_iload_n hx hb dX5_makeTry_54 rfl (lv_at hl 2 rfl) ?_
      refine lv_iconst (v := 3) hx hb dX5_makeTry_55 (by decide) ?_
      refine fc_ci (isC := []) (cells' := 0) (slots' := 0) (fc_runSN (n := 2) (As := [.int it, .int (3 : Int32)]) (rest := [.ref b]) (isC := []) (maxL := 2) ⟨hx, hb, hml, hown, hts⟩ (c_X6_ofTour it (3 : Int32) H.size) gX5_makeTry_X6_ofTour_n22 (by decide +kernel) (by decide +kernel) (by decide +kernel) rfl (by decide +kernel) rfl ⟨Nat.le_of_ble_eq_true rfl, Nat.le_of_ble_eq_true rfl⟩ ⟨Nat.le_of_ble_eq_true rfl, Nat.le_of_ble_eq_true rfl⟩ hE hP hD hS hA rfl rfl hl rfl (Nat.le_of_ble_eq_true rfl) dX5_makeTry_56) hP hD hS hA rfl (fun _ => rfl) rfl rfl (fun r_13 _ H locs hr_13 hP hD hS => ?_)
      obtain rfl : (F_X6_ofTour it (3 : Int32)) = r_13 := hr_13.symm
      dsimp only [fs, List.set] at hP hD
      have hP : va_P D vwCl [(t, .inr (9, [.ref b])), (b, .inr (4, [.ref r])), (r, .inl (k.1, 628, .inl (F_X5_bookNextStep (F_X0_add f (12 : Int32) (1 : Int32)) it)))] H := hP
      have hD : va_D A [(t, .inr (9, [.ref b])), (b, .inr (4, [.ref r])), (r, .inl (k.1, 628, .inl (F_X5_bookNextStep (F_X0_add f (12 : Int32) (1 : Int32)) it)))] := hD
      generalize hp_14 : (F_X0_get (F_X5_bookNextStep (F_X0_add f (12 : Int32) (1 : Int32)) it) (F_X6_ofTour it (3 : Int32))) = p_14 at hF
      rw [letp_eq] at hF
      refine fc_ci (isC := [1, 2]) (cells' := 0) (slots' := 0) (fc_runV (n := 1) (As := [.int (F_X6_ofTour it (3 : Int32))]) (rest := []) (isC := [1, 2]) (maxL := 2) ⟨hx, hb, hml, hown, hts⟩ (c_X0_get b r (F_X5_bookNextStep (F_X0_add f (12 : Int32) (1 : Int32)) it) (F_X6_ofTour it (3 : Int32)) H.size) gX5_makeTry_X0_get rfl (by decide +kernel) rfl ⟨Nat.le_of_ble_eq_true rfl, Nat.le_of_ble_eq_true rfl⟩ ⟨Nat.le_of_ble_eq_true rfl, Nat.le_of_ble_eq_true rfl⟩ hE hP hD hS hA rfl rfl (va_recv hE.1 hP (ci := 4) (q0 := 1) rfl rfl) hl rfl (Nat.le_of_ble_eq_true rfl) dX5_makeTry_59) hP hD hS hA rfl (fun _ => rfl) rfl rfl (fun r_15 _ H locs hr_15 hP hD hS => ?_)
      rw [hp_14] at hr_15
      obtain rfl : p_14 = r_15 := hr_15.symm
      dsimp only [fs, List.set] at hP hD
      have hP : va_P D vwCl [(t, .inr (9, [.ref b])), (b, .inr (4, [.ref r])), (r, .inl (k.1, 628, .inl (F_X5_bookNextStep (F_X0_add f (12 : Int32) (1 : Int32)) it)))] H := hP
      have hD : va_D A [(t, .inr (9, [.ref b])), (b, .inr (4, [.ref r])), (r, .inl (k.1, 628, .inl (F_X5_bookNextStep (F_X0_add f (12 : Int32) (1 : Int32)) it)))] := hD
      refine lv_aload_n hx hb dX5_makeTry_62 rfl (lv_at hl 1 rfl) ?_
      refine va_get (D := D) (ci := 9) (v := .ref b) (C := RX5) (T := TX5) (N := 1) hx hb hts in_X5_makeTry_X5 hown hE.1 hP 0 rfl rfl 0 (by decide) (hts _ lk_X5_makeTry_12) (fun _ h9 => h9) rfl dX5_makeTry_63 ?_
      refine lv_iload_n hx hb dX5_makeTry_66 rfl (lv_at hl 2 rfl) ?_
      refine lv_iconst (v := 2) hx hb dX5_makeTry_67 (by decide) ?_
      refine fc_ci (isC := []) (cells' := 0) (slots' := 0) (fc_runSN (n := 2) (As := [.int it, .int (2 : Int32)]) (rest := [.ref b, .int p_14]) (isC := []) (maxL := 2) ⟨hx, hb, hml, hown, hts⟩ (c_X6_ofTour it (2 : Int32) H.size) gX5_makeTry_X6_ofTour_n22 (by decide +kernel) (by decide +kernel) (by decide +kernel) rfl (by decide +kernel) rfl ⟨Nat.le_of_ble_eq_true rfl, Nat.le_of_ble_eq_true rfl⟩ ⟨Nat.le_of_ble_eq_true rfl, Nat.le_of_ble_eq_true rfl⟩ hE hP hD hS hA rfl rfl hl rfl (Nat.le_of_ble_eq_true rfl) dX5_makeTry_68) hP hD hS hA rfl (fun _ => rfl) rfl rfl (fun r_16 _ H locs hr_16 hP hD hS => ?_)
      obtain rfl : (F_X6_ofTour it (2 : Int32)) = r_16 := hr_16.symm
      dsimp only [fs, List.set] at hP hD
      have hP : va_P D vwCl [(t, .inr (9, [.ref b])), (b, .inr (4, [.ref r])), (r, .inl (k.1, 628, .inl (F_X5_bookNextStep (F_X0_add f (12 : Int32) (1 : Int32)) it)))] H := hP
      have hD : va_D A [(t, .inr (9, [.ref b])), (b, .inr (4, [.ref r])), (r, .inl (k.1, 628, .inl (F_X5_bookNextStep (F_X0_add f (12 : Int32) (1 : Int32)) it)))] := hD
      generalize hp_17 : (F_X0_get (F_X5_bookNextStep (F_X0_add f (12 : Int32) (1 : Int32)) it) (F_X6_ofTour it (2 : Int32))) = p_17 at hF
      rw [letp_eq] at hF
      refine fc_ci (isC := [1, 2]) (cells' := 0) (slots' := 0) (fc_runV (n := 1) (As := [.int (F_X6_ofTour it (2 : Int32))]) (rest := [.int p_14]) (isC := [1, 2]) (maxL := 2) ⟨hx, hb, hml, hown, hts⟩ (c_X0_get b r (F_X5_bookNextStep (F_X0_add f (12 : Int32) (1 : Int32)) it) (F_X6_ofTour it (2 : Int32)) H.size) gX5_makeTry_X0_get rfl (by decide +kernel) rfl ⟨Nat.le_of_ble_eq_true rfl, Nat.le_of_ble_eq_true rfl⟩ ⟨Nat.le_of_ble_eq_true rfl, Nat.le_of_ble_eq_true rfl⟩ hE hP hD hS hA rfl rfl (va_recv hE.1 hP (ci := 4) (q0 := 1) rfl rfl) hl rfl (Nat.le_of_ble_eq_true rfl) dX5_makeTry_71) hP hD hS hA rfl (fun _ => rfl) rfl rfl (fun r_18 _ H locs hr_18 hP hD hS => ?_)
      rw [hp_17] at hr_18
      obtain rfl : p_17 = r_18 := hr_18.symm
      dsimp only [fs, List.set] at hP hD
      have hP : va_P D vwCl [(t, .inr (9, [.ref b])), (b, .inr (4, [.ref r])), (r, .inl (k.1, 628, .inl (F_X5_bookNextStep (F_X0_add f (12 : Int32) (1 : Int32)) it)))] H := hP
      have hD : va_D A [(t, .inr (9, [.ref b])), (b, .inr (4, [.ref r])), (r, .inl (k.1, 628, .inl (F_X5_bookNextStep (F_X0_add f (12 : Int32) (1 : Int32)) it)))] := hD
      refine lv_icmp_ne (tgt := 118) hx hb dX5_makeTry_74 (by decide) (fun c_19 => ?_) (fun c_19 => ?_)
      · rw [if_neg c_19] at hF
        subst hF
        exact fc_vret hx hb hr hlk hS () trivial hP hD (by decide) (by decide) dX5_makeTry_118
      · rw [if_pos c_19] at hF
        refine lv_aload_n hx hb dX5_makeTry_77 rfl (lv_at hl 1 rfl) ?_
        refine lv_iload_n hx hb dX5_makeTry_78 rfl (lv_at hl 2 rfl) ?_
        refine fc_cv (isC := [0, 1, 2]) (cells' := 0) (slots' := 0) (fc_runV (n := 1) (As := [.int it]) (rest := []) (isC := [0, 1, 2]) (maxL := 4) ⟨hx, hb, hml, hown, hts⟩ (c_X5_finishTour t b r (F_X5_bookNextStep (F_X0_add f (12 : Int32) (1 : Int32)) it) it H.size) gX5_makeTry_X5_finishTour rfl (by decide +kernel) rfl ⟨Nat.le_of_ble_eq_true rfl, Nat.le_of_ble_eq_true rfl⟩ ⟨Nat.le_of_ble_eq_true rfl, Nat.le_of_ble_eq_true rfl⟩ hE hP hD hS hA rfl rfl (va_recv hE.1 hP (ci := 9) (q0 := 0) rfl rfl) hl rfl (Nat.le_of_ble_eq_true rfl) dX5_makeTry_79) hP hD hS hA rfl (fun _ => rfl) rfl rfl (fun _ H locs _ hP hD hS => ?_)
        dsimp only [fs, List.set] at hP hD
        have hP : va_P D vwCl [(t, .inr (9, [.ref b])), (b, .inr (4, [.ref r])), (r, .inl (k.1, 628, .inl (F_X5_finishTour (F_X5_bookNextStep (F_X0_add f (12 : Int32) (1 : Int32)) it) it)))] H := hP
        have hD : va_D A [(t, .inr (9, [.ref b])), (b, .inr (4, [.ref r])), (r, .inl (k.1, 628, .inl (F_X5_finishTour (F_X5_bookNextStep (F_X0_add f (12 : Int32) (1 : Int32)) it) it)))] := hD
        refine lv_goto (tgt := 118) hx hb dX5_makeTry_82 (by decide) ?_
        subst hF
        exact fc_vret hx hb hr hlk hS () trivial hP hD (by decide) (by decide) dX5_makeTry_118
  · rw [if_neg c_2] at hF
    refine lv_aload_n hx hb dX5_makeTry_20 rfl (lv_at hl 1 rfl) ?_
    refine lv_iload_n hx hb dX5_makeTry_21 rfl (lv_at hl 2 rfl) ?_
    refine lv_iload_n hx hb dX5_makeTry_22 rfl (lv_at hl 0 rfl) ?_
    generalize hp_20 : (F_X5_failTry (F_X0_add f (12 : Int32) (1 : Int32)) it (F_X5_nextFault (F_X0_add f (12 : Int32) (1 : Int32)) it)) = p_20 at hF
    rw [letp_eq] at hF
    refine fc_cv (isC := [0, 1, 2]) (cells' := 0) (slots' := 0) (fc_runV (n := 2) (As := [.int it, .int (F_X5_nextFault (F_X0_add f (12 : Int32) (1 : Int32)) it)]) (rest := []) (isC := [0, 1, 2]) (maxL := 4) ⟨hx, hb, hml, hown, hts⟩ (c_X5_failTry t b r (F_X0_add f (12 : Int32) (1 : Int32)) it (F_X5_nextFault (F_X0_add f (12 : Int32) (1 : Int32)) it) H.size) gX5_makeTry_X5_failTry rfl (by decide +kernel) rfl ⟨Nat.le_of_ble_eq_true rfl, Nat.le_of_ble_eq_true rfl⟩ ⟨Nat.le_of_ble_eq_true rfl, Nat.le_of_ble_eq_true rfl⟩ hE hP hD hS hA rfl rfl (va_recv hE.1 hP (ci := 9) (q0 := 0) rfl rfl) hl rfl (Nat.le_of_ble_eq_true rfl) dX5_makeTry_23) hP hD hS hA rfl (fun _ => rfl) rfl rfl (fun _ H locs _ hP hD hS => ?_)
    rw [hp_20] at hP hD
    dsimp only [fs, List.set] at hP hD
    have hP : va_P D vwCl [(t, .inr (9, [.ref b])), (b, .inr (4, [.ref r])), (r, .inl (k.1, 628, .inl p_20))] H := hP
    have hD : va_D A [(t, .inr (9, [.ref b])), (b, .inr (4, [.ref r])), (r, .inl (k.1, 628, .inl p_20))] := hD
    refine lv_goto (tgt := 118) hx hb dX5_makeTry_26 (by decide) ?_
    subst hF
    exact fc_vret hx hb hr hlk hS () trivial hP hD (by decide) (by decide) dX5_makeTry_118

abbrev rm_X5_costsOfTheRest : Room := { frames := 2, cells := 0, slots := 0, locals := 46 }
theorem in_X5_costsOfTheRest_X5 : ∀ w ∈ wsX50, w ∈ wsX5_costsOfTheRest := by decide +kernel
theorem lk_X5_costsOfTheRest_12 : (Cond.fieldLink RX5 12 "TheatreSaga$Theatre" "books" "LTheatreSaga$Books;") ∈ wsX5_costsOfTheRest := by decide +kernel
def FL_X5_costsOfTheRest_15 : Nat → (Nat → Int32) → Int32 → Int32 → Int32 → Int32
  | 0, f, x1, x2, x3 => 0
  | n + 1, f, x1, x2, x3 => (if (F_X0_get f (F_X6_ofTour x1 (2 : Int32))) ≤ x3 then x2 else (FL_X5_costsOfTheRest_15 n f x1 (x2 + (F_X5_priceOf f x1 x3)) (x3 + (1 : Int32))))
def F_X5_costsOfTheRest (f : (Nat → Int32)) (it : Int32) : Int32 := (FL_X5_costsOfTheRest_15 (((F_X0_get f (F_X6_ofTour it (2 : Int32))).toInt - ((F_X0_get f (F_X6_ofTour it (3 : Int32))) : Int32).toInt).toNat + 1) f it (0 : Int32) (F_X0_get f (F_X6_ofTour it (3 : Int32))))
set_option maxHeartbeats 4000000 in
set_option maxRecDepth 100000 in
theorem lp_X5_costsOfTheRest_15 {p : Program} {l : Launch} {e : Env} {s : State} {m : MethodId} {args : Array Value} {below : List Frame} {meth : Method} {c : Code} {D : va_G} {k : tyK} {A : Nat → Prop} (hx : p.tables.exec = Jvm.exec) (hb : c.code = cX5_costsOfTheRest) (hml : c.maxLocals = 4) (hr : meth.sig.returnType = (some .int)) (hts : ∀ w ∈ wsX5_costsOfTheRest, w.before args s = true) (hown : s.vm.findClass RX5 = some m.cls) (hlk : meth.locks = false) (hA : ∀ q : Nat, s.heap.size ≤ q → A q) (hE : GE D k A s) (t b r : Nat) :
    ∀ (n : Nat) (f : (Nat → Int32)) (x1 : Int32) (x2 : Int32) (x3 : Int32) (RES : Int32), FL_X5_costsOfTheRest_15 n f x1 x2 x3 = RES → (((F_X0_get f (F_X6_ofTour x1 (2 : Int32))) : Int32).toInt - (x3 : Int32).toInt).toNat < n → ∀ (H : Heap) (locs : List Loc), va_P D vwCl [(t, .inr (9, [.ref b])), (b, .inr (4, [.ref r])), (r, .inl (k.1, 628, .inl f))] H → va_D A [(t, .inr (9, [.ref b])), (b, .inr (4, [.ref r])), (r, .inl (k.1, 628, .inl f))] → va_S A s.heap H locs → ∀ ls : Array Slot, lv_has ls 4 [(0, .ref t), (1, .int x1), (2, .int x2), (3, .int x3)] → W p l e rm_X5_costsOfTheRest s m args below meth c H locs 0 0 (MQ below (va_Qi (fun r (_ : Unit) => r = RES) (Bt D (fun _ => [(t, .inr (9, [.ref b])), (b, .inr (4, [.ref r])), (r, .inl (k.1, 628, .inl f))]) A) A) args s rm_X5_costsOfTheRest.cells rm_X5_costsOfTheRest.slots A) (F0 m 15 ls []) := by
  intro n
  induction n with
  | zero =>
    intro f x1 x2 x3 RES hF hm H locs hP hD hS ls hl
    exact absurd hm (Nat.not_lt_zero _)
  | succ n ih =>
    intro f x1 x2 x3 RES hF hm H locs hP hD hS ls hl
    rw [FL_X5_costsOfTheRest_15] at hF
    refine lv_iload_n hx hb dX5_costsOfTheRest_15 rfl (lv_at hl 3 rfl) ?_
    refine lv_aload_n hx hb dX5_costsOfTheRest_16 rfl (lv_at hl 0 rfl) ?_
    refine va_get (D := D) (ci := 9) (v := .ref b) (C := RX5) (T := TX5) (N := 1) hx hb hts in_X5_costsOfTheRest_X5 hown hE.1 hP 0 rfl rfl 0 (by decide) (hts _ lk_X5_costsOfTheRest_12) (fun _ h9 => h9) rfl dX5_costsOfTheRest_17 ?_
    refine lv_iload_n hx hb dX5_costsOfTheRest_20 rfl (lv_at hl 1 rfl) ?_
    refine lv_iconst (v := 2) hx hb dX5_costsOfTheRest_21 (by decide) ?_
    refine fc_ci (isC := []) (cells' := 0) (slots' := 0) (fc_runSN (n := 2) (As := [.int x1, .int (2 : Int32)]) (rest := [.ref b, .int x3]) (isC := []) (maxL := 2) ⟨hx, hb, hml, hown, hts⟩ (c_X6_ofTour x1 (2 : Int32) H.size) gX5_costsOfTheRest_X6_ofTour_n22 (by decide +kernel) (by decide +kernel) (by decide +kernel) rfl (by decide +kernel) rfl ⟨Nat.le_of_ble_eq_true rfl, Nat.le_of_ble_eq_true rfl⟩ ⟨Nat.le_of_ble_eq_true rfl, Nat.le_of_ble_eq_true rfl⟩ hE hP hD hS hA rfl rfl hl rfl (Nat.le_of_ble_eq_true rfl) dX5_costsOfTheRest_22) hP hD hS hA rfl (fun _ => rfl) rfl rfl (fun r_3 _ H locs hr_3 hP hD hS => ?_)
    obtain rfl : (F_X6_ofTour x1 (2 : Int32)) = r_3 := hr_3.symm
    dsimp only [fs, List.set] at hP hD
    have hP : va_P D vwCl [(t, .inr (9, [.ref b])), (b, .inr (4, [.ref r])), (r, .inl (k.1, 628, .inl f))] H := hP
    have hD : va_D A [(t, .inr (9, [.ref b])), (b, .inr (4, [.ref r])), (r, .inl (k.1, 628, .inl f))] := hD
    refine fc_ci (isC := [1, 2]) (cells' := 0) (slots' := 0) (fc_runV (n := 1) (As := [.int (F_X6_ofTour x1 (2 : Int32))]) (rest := [.int x3]) (isC := [1, 2]) (maxL := 2) ⟨hx, hb, hml, hown, hts⟩ (c_X0_get b r f (F_X6_ofTour x1 (2 : Int32)) H.size) gX5_costsOfTheRest_X0_get rfl (by decide +kernel) rfl ⟨Nat.le_of_ble_eq_true rfl, Nat.le_of_ble_eq_true rfl⟩ ⟨Nat.le_of_ble_eq_true rfl, Nat.le_of_ble_eq_true rfl⟩ hE hP hD hS hA rfl rfl (va_recv hE.1 hP (ci := 4) (q0 := 1) rfl rfl) hl rfl (Nat.le_of_ble_eq_true rfl) dX5_costsOfTheRest_25) hP hD hS hA rfl (fun _ => rfl) rfl rfl (fun r_4 _ H locs hr_4 hP hD hS => ?_)
    obtain rfl : (F_X0_get f (F_X6_ofTour x1 (2 : Int32))) = r_4 := hr_4.symm
    dsimp only [fs, List.set] at hP hD
    have hP : va_P D vwCl [(t, .inr (9, [.ref b])), (b, .inr (4, [.ref r])), (r, .inl (k.1, 628, .inl f))] H := hP
    have hD : va_D A [(t, .inr (9, [.ref b])), (b, .inr (4, [.ref r])), (r, .inl (k.1, 628, .inl f))] := hD
    refine lv_icmp_ge (tgt := 46) hx hb dX5_costsOfTheRest_28 (by decide) (fun c_5 => ?_) (fun c_5 => ?_)
    · rw [if_pos c_5] at hF
      refine lv_iload_n hx hb dX5_costsOfTheRest_46 rfl (lv_at hl 2 rfl) ?_
      subst hF
      exact fc_iret hx hb hr rfl hlk hS () rfl hP hD (by decide) (by decide) dX5_costsOfTheRest_47
    · rw [if_neg c_5] at hF
      refine lv_iload_n hx hb dX5_costsOfTheRest_31 rfl (lv_at hl 2 rfl) ?_
      refine lv_aload_n hx hb dX5_costsOfTheRest_32 rfl (lv_at hl 0 rfl) ?_
      refine lv_iload_n hx hb dX5_costsOfTheRest_33 rfl (lv_at hl 1 rfl) ?_
      refine lv_iload_n hx hb dX5_costsOfTheRest_34 rfl (lv_at hl 3 rfl) ?_
      refine fc_ci (isC := [0, 1, 2]) (cells' := 0) (slots' := 0) (fc_runV (n := 2) (As := [.int x1, .int x3]) (rest := [.int x2]) (isC := [0, 1, 2]) (maxL := 5) ⟨hx, hb, hml, hown, hts⟩ (c_X5_priceOf t b r f x1 x3 H.size) gX5_costsOfTheRest_X5_priceOf rfl (by decide +kernel) rfl ⟨Nat.le_of_ble_eq_true rfl, Nat.le_of_ble_eq_true rfl⟩ ⟨Nat.le_of_ble_eq_true rfl, Nat.le_of_ble_eq_true rfl⟩ hE hP hD hS hA rfl rfl (va_recv hE.1 hP (ci := 9) (q0 := 0) rfl rfl) hl rfl (Nat.le_of_ble_eq_true rfl) dX5_costsOfTheRest_35) hP hD hS hA rfl (fun _ => rfl) rfl rfl (fun r_6 _ H locs hr_6 hP hD hS => ?_)
      obtain rfl : (F_X5_priceOf f x1 x3) = r_6 := hr_6.symm
      dsimp only [fs, List.set] at hP hD
      have hP : va_P D vwCl [(t, .inr (9, [.ref b])), (b, .inr (4, [.ref r])), (r, .inl (k.1, 628, .inl f))] H := hP
      have hD : va_D A [(t, .inr (9, [.ref b])), (b, .inr (4, [.ref r])), (r, .inl (k.1, 628, .inl f))] := hD
      refine lv_iadd hx hb dX5_costsOfTheRest_38 ?_
      refine lv_istore_n (lv' := [(2, .int (x2 + (F_X5_priceOf f x1 x3))), (0, .ref t), (1, .int x1), (3, .int x3)]) hx hb dX5_costsOfTheRest_39 rfl hl (by decide) rfl (fun ls hl => ?_)
      refine lv_iinc (v := (x3 + (1 : Int32))) (lv' := [(3, .int (x3 + (1 : Int32))), (2, .int (x2 + (F_X5_priceOf f x1 x3))), (0, .ref t), (1, .int x1)]) hx hb dX5_costsOfTheRest_40 hl (k := 3) rfl rfl (by decide) rfl (fun ls hl => ?_)
      refine lv_goto (tgt := 15) hx hb dX5_costsOfTheRest_43 (by decide) ?_
      exact ih f x1 (x2 + (F_X5_priceOf f x1 x3)) (x3 + (1 : Int32)) RES hF (lp_step c_5 hm) H locs hP hD hS ls (lv_sub hl [2, 3, 1, 0] rfl)
set_option maxHeartbeats 4000000 in
set_option maxRecDepth 100000 in
theorem c_X5_costsOfTheRest {l : Launch} {D : va_G} {k : tyK} (t b r : Nat) (f : (Nat → Int32)) (it : Int32) : FCi l yX5_costsOfTheRest wsX5_costsOfTheRest rm_X5_costsOfTheRest D k [.ref t, .int it] [(t, .inr (9, [.ref b])), (b, .inr (4, [.ref r])), (r, .inl (k.1, 628, .inl f))] (fun r (_ : Unit) => r = (F_X5_costsOfTheRest f it)) (fun _ => [(t, .inr (9, [.ref b])), (b, .inr (4, [.ref r])), (r, .inl (k.1, 628, .inl f))]) := by
  refine fc_start (cc := cX5_costsOfTheRest) (maxL := 4) (ret := (some .int)) (own := RX5) (Qc := fun A => va_Qi (fun r (_ : Unit) => r = (F_X5_costsOfTheRest f it)) (Bt D (fun _ => [(t, .inr (9, [.ref b])), (b, .inr (4, [.ref r])), (r, .inl (k.1, 628, .inl f))]) A) A) (by decide) rfl rfl (Nat.le_of_ble_eq_true rfl) ?_
  intro p e s m below meth c A H hx hb hml hr hts hown hlk hname hA hP hE hD hS ls hl
  obtain ⟨RES, hF⟩ : ∃ z, (F_X5_costsOfTheRest f it) = z := ⟨_, rfl⟩
  rw [hF]
  unfold F_X5_costsOfTheRest at hF
  have hl : lv_has ls 4 [(0, .ref t), (1, .int it)] := hl
  obtain ⟨locs, hlocs⟩ : ∃ z : List Loc, z = [] := ⟨_, rfl⟩
  rw [← hlocs] at hS ⊢
  refine lv_iconst (v := 0) hx hb dX5_costsOfTheRest_0 (by decide) ?_
  refine lv_istore_n (lv' := [(2, .int (0 : Int32)), (0, .ref t), (1, .int it)]) hx hb dX5_costsOfTheRest_1 rfl hl (by decide) rfl (fun ls hl => ?_)
  refine lv_aload_n hx hb dX5_costsOfTheRest_2 rfl (lv_at hl 1 rfl) ?_
  refine va_get (D := D) (ci := 9) (v := .ref b) (C := RX5) (T := TX5) (N := 1) hx hb hts in_X5_costsOfTheRest_X5 hown hE.1 hP 0 rfl rfl 0 (by decide) (hts _ lk_X5_costsOfTheRest_12) (fun _ h9 => h9) rfl dX5_costsOfTheRest_3 ?_
  refine lv_iload_n hx hb dX5_costsOfTheRest_6 rfl (lv_at hl 2 rfl) ?_
  refine lv_iconst (v := 3) hx hb dX5_costsOfTheRest_7 (by decide) ?_
  refine fc_ci (isC := []) (cells' := 0) (slots' := 0) (fc_runSN (n := 2) (As := [.int it, .int (3 : Int32)]) (rest := [.ref b]) (isC := []) (maxL := 2) ⟨hx, hb, hml, hown, hts⟩ (c_X6_ofTour it (3 : Int32) H.size) gX5_costsOfTheRest_X6_ofTour_n22 (by decide +kernel) (by decide +kernel) (by decide +kernel) rfl (by decide +kernel) rfl ⟨Nat.le_of_ble_eq_true rfl, Nat.le_of_ble_eq_true rfl⟩ ⟨Nat.le_of_ble_eq_true rfl, Nat.le_of_ble_eq_true rfl⟩ hE hP hD hS hA rfl rfl hl rfl (Nat.le_of_ble_eq_true rfl) dX5_costsOfTheRest_8) hP hD hS hA rfl (fun _ => rfl) rfl rfl (fun r_1 _ H locs hr_1 hP hD hS => ?_)
  obtain rfl : (F_X6_ofTour it (3 : Int32)) = r_1 := hr_1.symm
  dsimp only [fs, List.set] at hP hD
  have hP : va_P D vwCl [(t, .inr (9, [.ref b])), (b, .inr (4, [.ref r])), (r, .inl (k.1, 628, .inl f))] H := hP
  have hD : va_D A [(t, .inr (9, [.ref b])), (b, .inr (4, [.ref r])), (r, .inl (k.1, 628, .inl f))] := hD
  refine fc_ci (isC := [1, 2]) (cells' := 0) (slots' := 0) (fc_runV (n := 1) (As := [.int (F_X6_ofTour it (3 : Int32))]) (rest := []) (isC := [1, 2]) (maxL := 2) ⟨hx, hb, hml, hown, hts⟩ (c_X0_get b r f (F_X6_ofTour it (3 : Int32)) H.size) gX5_costsOfTheRest_X0_get rfl (by decide +kernel) rfl ⟨Nat.le_of_ble_eq_true rfl, Nat.le_of_ble_eq_true rfl⟩ ⟨Nat.le_of_ble_eq_true rfl, Nat.le_of_ble_eq_true rfl⟩ hE hP hD hS hA rfl rfl (va_recv hE.1 hP (ci := 4) (q0 := 1) rfl rfl) hl rfl (Nat.le_of_ble_eq_true rfl) dX5_costsOfTheRest_11) hP hD hS hA rfl (fun _ => rfl) rfl rfl (fun r_2 _ H locs hr_2 hP hD hS => ?_)
  obtain rfl : (F_X0_get f (F_X6_ofTour it (3 : Int32))) = r_2 := hr_2.symm
  dsimp only [fs, List.set] at hP hD
  have hP : va_P D vwCl [(t, .inr (9, [.ref b])), (b, .inr (4, [.ref r])), (r, .inl (k.1, 628, .inl f))] H := hP
  have hD : va_D A [(t, .inr (9, [.ref b])), (b, .inr (4, [.ref r])), (r, .inl (k.1, 628, .inl f))] := hD
  refine lv_istore_n (lv' := [(3, .int (F_X0_get f (F_X6_ofTour it (3 : Int32)))), (2, .int (0 : Int32)), (0, .ref t), (1, .int it)]) hx hb dX5_costsOfTheRest_14 rfl hl (by decide) rfl (fun ls hl => ?_)
  exact lp_X5_costsOfTheRest_15 hx hb hml hr hts hown hlk hA hE t b r (((F_X0_get f (F_X6_ofTour it (2 : Int32))).toInt - ((F_X0_get f (F_X6_ofTour it (3 : Int32))) : Int32).toInt).toNat + 1) f it (0 : Int32) (F_X0_get f (F_X6_ofTour it (3 : Int32))) RES hF (Nat.lt_succ_self _) H locs hP hD hS ls (lv_sub hl [2, 3, 1, 0] rfl)

abbrev rm_X5_leftByStepsOf : Room := { frames := 2, cells := 0, slots := 0, locals := 49 }
theorem in_X5_leftByStepsOf_X5 : ∀ w ∈ wsX50, w ∈ wsX5_leftByStepsOf := by decide +kernel
theorem lk_X5_leftByStepsOf_12 : (Cond.fieldLink RX5 12 "TheatreSaga$Theatre" "books" "LTheatreSaga$Books;") ∈ wsX5_leftByStepsOf := by decide +kernel
def FL_X5_leftByStepsOf_9 : Nat → (Nat → Int32) → Int32 → Int32 → Int32 → Int32 → Int32 → Int32
  | 0, f, x1, x2, x3, x4, x5 => 0
  | n + 1, f, x1, x2, x3, x4, x5 => (if (6 : Int32) ≤ x5 then x4 else (if (F_X6_findStep f x5 x1 x2 x3) = (-1 : Int32) then (FL_X5_leftByStepsOf_9 n f x1 x2 x3 x4 (x5 + (1 : Int32))) else (if (F_X0_get f (F_X6_ofTour x5 (3 : Int32))) ≤ (F_X6_findStep f x5 x1 x2 x3) then (FL_X5_leftByStepsOf_9 n f x1 x2 x3 x4 (x5 + (1 : Int32))) else (letp (F_X0_get f (F_X6_ofStep x5 (F_X6_findStep f x5 x1 x2 x3) (3 : Int32))) (fun (p_9 : Int32) => (FL_X5_leftByStepsOf_9 n f x1 x2 x3 (x4 - p_9) (x5 + (1 : Int32))))))))
def F_X5_leftByStepsOf (f : (Nat → Int32)) (ik : Int32) (iw : Int32) (id : Int32) : Int32 := (FL_X5_leftByStepsOf_9 (7) f ik iw id (F_X6_mostOf ik) (0 : Int32))
set_option maxHeartbeats 4000000 in
set_option maxRecDepth 100000 in
theorem lp_X5_leftByStepsOf_9 {p : Program} {l : Launch} {e : Env} {s : State} {m : MethodId} {args : Array Value} {below : List Frame} {meth : Method} {c : Code} {D : va_G} {k : tyK} {A : Nat → Prop} (hx : p.tables.exec = Jvm.exec) (hb : c.code = cX5_leftByStepsOf) (hml : c.maxLocals = 7) (hr : meth.sig.returnType = (some .int)) (hts : ∀ w ∈ wsX5_leftByStepsOf, w.before args s = true) (hown : s.vm.findClass RX5 = some m.cls) (hlk : meth.locks = false) (hA : ∀ q : Nat, s.heap.size ≤ q → A q) (hE : GE D k A s) (t b r : Nat) :
    ∀ (n : Nat) (f : (Nat → Int32)) (x1 : Int32) (x2 : Int32) (x3 : Int32) (x4 : Int32) (x5 : Int32) (RES : Int32), FL_X5_leftByStepsOf_9 n f x1 x2 x3 x4 x5 = RES → ((6 : Int32).toInt - (x5 : Int32).toInt).toNat < n → ∀ (H : Heap) (locs : List Loc), va_P D vwCl [(t, .inr (9, [.ref b])), (b, .inr (4, [.ref r])), (r, .inl (k.1, 628, .inl f))] H → va_D A [(t, .inr (9, [.ref b])), (b, .inr (4, [.ref r])), (r, .inl (k.1, 628, .inl f))] → va_S A s.heap H locs → ∀ ls : Array Slot, lv_has ls 7 [(0, .ref t), (1, .int x1), (2, .int x2), (3, .int x3), (4, .int x4), (5, .int x5)] → W p l e rm_X5_leftByStepsOf s m args below meth c H locs 0 0 (MQ below (va_Qi (fun r (_ : Unit) => r = RES) (Bt D (fun _ => [(t, .inr (9, [.ref b])), (b, .inr (4, [.ref r])), (r, .inl (k.1, 628, .inl f))]) A) A) args s rm_X5_leftByStepsOf.cells rm_X5_leftByStepsOf.slots A) (F0 m 9 ls []) := by
  intro n
  induction n with
  | zero =>
    intro f x1 x2 x3 x4 x5 RES hF hm H locs hP hD hS ls hl
    exact absurd hm (Nat.not_lt_zero _)
  | succ n ih =>
    intro f x1 x2 x3 x4 x5 RES hF hm H locs hP hD hS ls hl
    rw [FL_X5_leftByStepsOf_9] at hF
    refine lv_iload hx hb dX5_leftByStepsOf_9 (lv_at hl 5 rfl) ?_
    refine lv_bipush (v := 6) hx hb dX5_leftByStepsOf_11 (by decide) ?_
    refine lv_icmp_ge (tgt := 80) hx hb dX5_leftByStepsOf_13 (by decide) (fun c_2 => ?_) (fun c_2 => ?_)
    · rw [if_pos c_2] at hF
      refine lv_iload hx hb dX5_leftByStepsOf_80 (lv_at hl 4 rfl) ?_
      subst hF
      exact fc_iret hx hb hr rfl hlk hS () rfl hP hD (by decide) (by decide) dX5_leftByStepsOf_82
    · rw [if_neg c_2] at hF
      refine lv_aload_n hx hb dX5_leftByStepsOf_16 rfl (lv_at hl 0 rfl) ?_
      refine va_get (D := D) (ci := 9) (v := .ref b) (C := RX5) (T := TX5) (N := 1) hx hb hts in_X5_leftByStepsOf_X5 hown hE.1 hP 0 rfl rfl 0 (by decide) (hts _ lk_X5_leftByStepsOf_12) (fun _ h9 => h9) rfl dX5_leftByStepsOf_17 ?_
      refine lv_iload hx hb dX5_leftByStepsOf_20 (lv_at hl 5 rfl) ?_
      refine lv_iload_n hx hb dX5_leftByStepsOf_22 rfl (lv_at hl 1 rfl) ?_
      refine lv_iload_n hx hb dX5_leftByStepsOf_23 rfl (lv_at hl 2 rfl) ?_
      refine lv_iload_n hx hb dX5_leftByStepsOf_24 rfl (lv_at hl 3 rfl) ?_
      refine fc_ci (isC := [1, 2]) (cells' := 0) (slots' := 0) (fc_runSN (n := 5) (As := [.ref b, .int x5, .int x1, .int x2, .int x3]) (rest := []) (isC := [1, 2]) (maxL := 8) ⟨hx, hb, hml, hown, hts⟩ (c_X6_findStep b r f x5 x1 x2 x3 H.size) gX5_leftByStepsOf_X6_findStep_n100 (by decide +kernel) (by decide +kernel) (by decide +kernel) rfl (by decide +kernel) rfl ⟨Nat.le_of_ble_eq_true rfl, Nat.le_of_ble_eq_true rfl⟩ ⟨Nat.le_of_ble_eq_true rfl, Nat.le_of_ble_eq_true rfl⟩ hE hP hD hS hA rfl rfl hl rfl (Nat.le_of_ble_eq_true rfl) dX5_leftByStepsOf_25) hP hD hS hA rfl (fun _ => rfl) rfl rfl (fun r_3 _ H locs hr_3 hP hD hS => ?_)
      obtain rfl : (F_X6_findStep f x5 x1 x2 x3) = r_3 := hr_3.symm
      dsimp only [fs, List.set] at hP hD
      have hP : va_P D vwCl [(t, .inr (9, [.ref b])), (b, .inr (4, [.ref r])), (r, .inl (k.1, 628, .inl f))] H := hP
      have hD : va_D A [(t, .inr (9, [.ref b])), (b, .inr (4, [.ref r])), (r, .inl (k.1, 628, .inl f))] := hD
      refine lv_istore (lv' := [(6, .int (F_X6_findStep f x5 x1 x2 x3)), (0, .ref t), (1, .int x1), (2, .int x2), (3, .int x3), (4, .int x4), (5, .int x5)]) hx hb dX5_leftByStepsOf_28 hl (by decide) rfl (fun ls hl => ?_)
      refine lv_iload hx hb dX5_leftByStepsOf_30 (lv_at hl 0 rfl) ?_
      refine lv_iconst (v := -1) hx hb dX5_leftByStepsOf_32 (by decide) ?_
      refine lv_icmp_eq (tgt := 74) hx hb dX5_leftByStepsOf_33 (by decide) (fun c_4 => ?_) (fun c_4 => ?_)
      · rw [if_pos c_4] at hF
        refine lv_iinc (v := (x5 + (1 : Int32))) (lv' := [(5, .int (x5 + (1 : Int32))), (6, .int (F_X6_findStep f x5 x1 x2 x3)), (0, .ref t), (1, .int x1), (2, .int x2), (3, .int x3), (4, .int x4)]) hx hb dX5_leftByStepsOf_74 hl (k := 6) rfl rfl (by decide) rfl (fun ls hl => ?_)
        refine lv_goto (tgt := 9) hx hb dX5_leftByStepsOf_77 (by decide) ?_
        exact ih f x1 x2 x3 x4 (x5 + (1 : Int32)) RES hF (lp_step c_2 hm) H locs hP hD hS ls (lv_sub hl [2, 3, 4, 5, 6, 0] rfl)
      · rw [if_neg c_4] at hF
        refine lv_iload hx hb dX5_leftByStepsOf_36 (lv_at hl 0 rfl) ?_
        refine lv_aload_n hx hb dX5_leftByStepsOf_38 rfl (lv_at hl 1 rfl) ?_
        refine va_get (D := D) (ci := 9) (v := .ref b) (C := RX5) (T := TX5) (N := 1) hx hb hts in_X5_leftByStepsOf_X5 hown hE.1 hP 0 rfl rfl 0 (by decide) (hts _ lk_X5_leftByStepsOf_12) (fun _ h9 => h9) rfl dX5_leftByStepsOf_39 ?_
        refine lv_iload hx hb dX5_leftByStepsOf_42 (lv_at hl 6 rfl) ?_
        refine lv_iconst (v := 3) hx hb dX5_leftByStepsOf_44 (by decide) ?_
        refine fc_ci (isC := []) (cells' := 0) (slots' := 0) (fc_runSN (n := 2) (As := [.int x5, .int (3 : Int32)]) (rest := [.ref b, .int (F_X6_findStep f x5 x1 x2 x3)]) (isC := []) (maxL := 2) ⟨hx, hb, hml, hown, hts⟩ (c_X6_ofTour x5 (3 : Int32) H.size) gX5_leftByStepsOf_X6_ofTour_n22 (by decide +kernel) (by decide +kernel) (by decide +kernel) rfl (by decide +kernel) rfl ⟨Nat.le_of_ble_eq_true rfl, Nat.le_of_ble_eq_true rfl⟩ ⟨Nat.le_of_ble_eq_true rfl, Nat.le_of_ble_eq_true rfl⟩ hE hP hD hS hA rfl rfl hl rfl (Nat.le_of_ble_eq_true rfl) dX5_leftByStepsOf_45) hP hD hS hA rfl (fun _ => rfl) rfl rfl (fun r_5 _ H locs hr_5 hP hD hS => ?_)
        obtain rfl : (F_X6_ofTour x5 (3 : Int32)) = r_5 := hr_5.symm
        dsimp only [fs, List.set] at hP hD
        have hP : va_P D vwCl [(t, .inr (9, [.ref b])), (b, .inr (4, [.ref r])), (r, .inl (k.1, 628, .inl f))] H := hP
        have hD : va_D A [(t, .inr (9, [.ref b])), (b, .inr (4, [.ref r])), (r, .inl (k.1, 628, .inl f))] := hD
        refine fc_ci (isC := [1, 2]) (cells' := 0) (slots' := 0) (fc_runV (n := 1) (As := [.int (F_X6_ofTour x5 (3 : Int32))]) (rest := [.int (F_X6_findStep f x5 x1 x2 x3)]) (isC := [1, 2]) (maxL := 2) ⟨hx, hb, hml, hown, hts⟩ (c_X0_get b r f (F_X6_ofTour x5 (3 : Int32)) H.size) gX5_leftByStepsOf_X0_get rfl (by decide +kernel) rfl ⟨Nat.le_of_ble_eq_true rfl, Nat.le_of_ble_eq_true rfl⟩ ⟨Nat.le_of_ble_eq_true rfl, Nat.le_of_ble_eq_true rfl⟩ hE hP hD hS hA rfl rfl (va_recv hE.1 hP (ci := 4) (q0 := 1) rfl rfl) hl rfl (Nat.le_of_ble_eq_true rfl) dX5_leftByStepsOf_48) hP hD hS hA rfl (fun _ => rfl) rfl rfl (fun r_6 _ H locs hr_6 hP hD hS => ?_)
        obtain rfl : (F_X0_get f (F_X6_ofTour x5 (3 : Int32))) = r_6 := hr_6.symm
        dsimp only [fs, List.set] at hP hD
        have hP : va_P D vwCl [(t, .inr (9, [.ref b])), (b, .inr (4, [.ref r])), (r, .inl (k.1, 628, .inl f))] H := hP
        have hD : va_D A [(t, .inr (9, [.ref b])), (b, .inr (4, [.ref r])), (r, .inl (k.1, 628, .inl f))] := hD
        refine lv_icmp_ge (tgt := 74) hx hb dX5_leftByStepsOf_51 (by decide) (fun c_7 => ?_) (fun c_7 => ?_)
        · rw [if_pos c_7] at hF
          refine lv_iinc (v := (x5 + (1 : Int32))) (lv' := [(5, .int (x5 + (1 : Int32))), (6, .int (F_X6_findStep f x5 x1 x2 x3)), (0, .ref t), (1, .int x1), (2, .int x2), (3, .int x3), (4, .int x4)]) hx hb dX5_leftByStepsOf_74 hl (k := 6) rfl rfl (by decide) rfl (fun ls hl => ?_)
          refine lv_goto (tgt := 9) hx hb dX5_leftByStepsOf_77 (by decide) ?_
          exact ih f x1 x2 x3 x4 (x5 + (1 : Int32)) RES hF (lp_step c_2 hm) H locs hP hD hS ls (lv_sub hl [2, 3, 4, 5, 6, 0] rfl)
        · rw [if_neg c_7] at hF
          refine lv_iload hx hb dX5_leftByStepsOf_54 (lv_at hl 5 rfl) ?_
          refine lv_aload_n hx hb dX5_leftByStepsOf_56 rfl (lv_at hl 1 rfl) ?_
          refine va_get (D := D) (ci := 9) (v := .ref b) (C := RX5) (T := TX5) (N := 1) hx hb hts in_X5_leftByStepsOf_X5 hown hE.1 hP 0 rfl rfl 0 (by decide) (hts _ lk_X5_leftByStepsOf_12) (fun _ h9 => h9) rfl dX5_leftByStepsOf_57 ?_
          refine lv_iload hx hb dX5_leftByStepsOf_60 (lv_at hl 6 rfl) ?_
          refine lv_iload hx hb dX5_leftByStepsOf_62 (lv_at hl 0 rfl) ?_
          refine lv_iconst (v := 3) hx hb dX5_leftByStepsOf_64 (by decide) ?_
          refine fc_ci (isC := []) (cells' := 0) (slots' := 0) (fc_runSN (n := 3) (As := [.int x5, .int (F_X6_findStep f x5 x1 x2 x3), .int (3 : Int32)]) (rest := [.ref b, .int x4]) (isC := []) (maxL := 3) ⟨hx, hb, hml, hown, hts⟩ (c_X6_ofStep x5 (F_X6_findStep f x5 x1 x2 x3) (3 : Int32) H.size) gX5_leftByStepsOf_X6_ofStep_n33 (by decide +kernel) (by decide +kernel) (by decide +kernel) rfl (by decide +kernel) rfl ⟨Nat.le_of_ble_eq_true rfl, Nat.le_of_ble_eq_true rfl⟩ ⟨Nat.le_of_ble_eq_true rfl, Nat.le_of_ble_eq_true rfl⟩ hE hP hD hS hA rfl rfl hl rfl (Nat.le_of_ble_eq_true rfl) dX5_leftByStepsOf_65) hP hD hS hA rfl (fun _ => rfl) rfl rfl (fun r_8 _ H locs hr_8 hP hD hS => ?_)
          obtain rfl : (F_X6_ofStep x5 (F_X6_findStep f x5 x1 x2 x3) (3 : Int32)) = r_8 := hr_8.symm
          dsimp only [fs, List.set] at hP hD
          have hP : va_P D vwCl [(t, .inr (9, [.ref b])), (b, .inr (4, [.ref r])), (r, .inl (k.1, 628, .inl f))] H := hP
          have hD : va_D A [(t, .inr (9, [.ref b])), (b, .inr (4, [.ref r])), (r, .inl (k.1, 628, .inl f))] := hD
          generalize hp_9 : (F_X0_get f (F_X6_ofStep x5 (F_X6_findStep f x5 x1 x2 x3) (3 : Int32))) = p_9 at hF
          rw [letp_eq] at hF
          refine fc_ci (isC := [1, 2]) (cells' := 0) (slots' := 0) (fc_runV (n := 1) (As := [.int (F_X6_ofStep x5 (F_X6_findStep f x5 x1 x2 x3) (3 : Int32))]) (rest := [.int x4]) (isC := [1, 2]) (maxL := 2) ⟨hx, hb, hml, hown, hts⟩ (c_X0_get b r f (F_X6_ofStep x5 (F_X6_findStep f x5 x1 x2 x3) (3 : Int32)) H.size) gX5_leftByStepsOf_X0_get rfl (by decide +kernel) rfl ⟨Nat.le_of_ble_eq_true rfl, Nat.le_of_ble_eq_true rfl⟩ ⟨Nat.le_of_ble_eq_true rfl, Nat.le_of_ble_eq_true rfl⟩ hE hP hD hS hA rfl rfl (va_recv hE.1 hP (ci := 4) (q0 := 1) rfl rfl) hl rfl (Nat.le_of_ble_eq_true rfl) dX5_leftByStepsOf_68) hP hD hS hA rfl (fun _ => rfl) rfl rfl (fun r_10 _ H locs hr_10 hP hD hS => ?_)
          rw [hp_9] at hr_10
          obtain rfl : p_9 = r_10 := hr_10.symm
          dsimp only [fs, List.set] at hP hD
          have hP : va_P D vwCl [(t, .inr (9, [.ref b])), (b, .inr (4, [.ref r])), (r, .inl (k.1, 628, .inl f))] H := hP
          have hD : va_D A [(t, .inr (9, [.ref b])), (b, .inr (4, [.ref r])), (r, .inl (k.1, 628, .inl f))] := hD
          refine lv_isub hx hb dX5_leftByStepsOf_71 ?_
          refine lv_istore (lv' := [(4, .int (x4 - p_9)), (6, .int (F_X6_findStep f x5 x1 x2 x3)), (0, .ref t), (1, .int x1), (2, .int x2), (3, .int x3), (5, .int x5)]) hx hb dX5_leftByStepsOf_72 hl (by decide) rfl (fun ls hl => ?_)
          refine lv_iinc (v := (x5 + (1 : Int32))) (lv' := [(5, .int (x5 + (1 : Int32))), (4, .int (x4 - p_9)), (6, .int (F_X6_findStep f x5 x1 x2 x3)), (0, .ref t), (1, .int x1), (2, .int x2), (3, .int x3)]) hx hb dX5_leftByStepsOf_74 hl (k := 6) rfl rfl (by decide) rfl (fun ls hl => ?_)
          refine lv_goto (tgt := 9) hx hb dX5_leftByStepsOf_77 (by decide) ?_
          exact ih f x1 x2 x3 (x4 - p_9) (x5 + (1 : Int32)) RES hF (lp_step c_2 hm) H locs hP hD hS ls (lv_sub hl [3, 4, 5, 6, 1, 0] rfl)
set_option maxHeartbeats 4000000 in
set_option maxRecDepth 100000 in
theorem c_X5_leftByStepsOf {l : Launch} {D : va_G} {k : tyK} (t b r : Nat) (f : (Nat → Int32)) (ik : Int32) (iw : Int32) (id : Int32) : FCi l yX5_leftByStepsOf wsX5_leftByStepsOf rm_X5_leftByStepsOf D k [.ref t, .int ik, .int iw, .int id] [(t, .inr (9, [.ref b])), (b, .inr (4, [.ref r])), (r, .inl (k.1, 628, .inl f))] (fun r (_ : Unit) => r = (F_X5_leftByStepsOf f ik iw id)) (fun _ => [(t, .inr (9, [.ref b])), (b, .inr (4, [.ref r])), (r, .inl (k.1, 628, .inl f))]) := by
  refine fc_start (cc := cX5_leftByStepsOf) (maxL := 7) (ret := (some .int)) (own := RX5) (Qc := fun A => va_Qi (fun r (_ : Unit) => r = (F_X5_leftByStepsOf f ik iw id)) (Bt D (fun _ => [(t, .inr (9, [.ref b])), (b, .inr (4, [.ref r])), (r, .inl (k.1, 628, .inl f))]) A) A) (by decide) rfl rfl (Nat.le_of_ble_eq_true rfl) ?_
  intro p e s m below meth c A H hx hb hml hr hts hown hlk hname hA hP hE hD hS ls hl
  obtain ⟨RES, hF⟩ : ∃ z, (F_X5_leftByStepsOf f ik iw id) = z := ⟨_, rfl⟩
  rw [hF]
  unfold F_X5_leftByStepsOf at hF
  have hl : lv_has ls 7 [(0, .ref t), (1, .int ik), (2, .int iw), (3, .int id)] := hl
  obtain ⟨locs, hlocs⟩ : ∃ z : List Loc, z = [] := ⟨_, rfl⟩
  rw [← hlocs] at hS ⊢
  refine lv_iload_n hx hb dX5_leftByStepsOf_0 rfl (lv_at hl 1 rfl) ?_
  refine fc_ci (isC := []) (cells' := 0) (slots' := 0) (fc_runSN (n := 1) (As := [.int ik]) (rest := []) (isC := []) (maxL := 1) ⟨hx, hb, hml, hown, hts⟩ (c_X6_mostOf ik H.size) gX5_leftByStepsOf_X6_mostOf_n97 (by decide +kernel) (by decide +kernel) (by decide +kernel) rfl (by decide +kernel) rfl ⟨Nat.le_of_ble_eq_true rfl, Nat.le_of_ble_eq_true rfl⟩ ⟨Nat.le_of_ble_eq_true rfl, Nat.le_of_ble_eq_true rfl⟩ hE hP hD hS hA rfl rfl hl rfl (Nat.le_of_ble_eq_true rfl) dX5_leftByStepsOf_1) hP hD hS hA rfl (fun _ => rfl) rfl rfl (fun r_1 _ H locs hr_1 hP hD hS => ?_)
  obtain rfl : (F_X6_mostOf ik) = r_1 := hr_1.symm
  dsimp only [fs, List.set] at hP hD
  have hP : va_P D vwCl [(t, .inr (9, [.ref b])), (b, .inr (4, [.ref r])), (r, .inl (k.1, 628, .inl f))] H := hP
  have hD : va_D A [(t, .inr (9, [.ref b])), (b, .inr (4, [.ref r])), (r, .inl (k.1, 628, .inl f))] := hD
  refine lv_istore (lv' := [(4, .int (F_X6_mostOf ik)), (0, .ref t), (1, .int ik), (2, .int iw), (3, .int id)]) hx hb dX5_leftByStepsOf_4 hl (by decide) rfl (fun ls hl => ?_)
  refine lv_iconst (v := 0) hx hb dX5_leftByStepsOf_6 (by decide) ?_
  refine lv_istore (lv' := [(5, .int (0 : Int32)), (4, .int (F_X6_mostOf ik)), (0, .ref t), (1, .int ik), (2, .int iw), (3, .int id)]) hx hb dX5_leftByStepsOf_7 hl (by decide) rfl (fun ls hl => ?_)
  exact lp_X5_leftByStepsOf_9 hx hb hml hr hts hown hlk hA hE t b r (7) f ik iw id (F_X6_mostOf ik) (0 : Int32) RES hF (by decide) H locs hP hD hS ls (lv_sub hl [2, 3, 4, 5, 1, 0] rfl)

abbrev rm_X5_cheapestTown : Room := { frames := 1, cells := 0, slots := 0, locals := 22 }
theorem in_X5_cheapestTown_X5 : ∀ w ∈ wsX50, w ∈ wsX5_cheapestTown := by decide +kernel
theorem lk_X5_cheapestTown_12 : (Cond.fieldLink RX5 12 "TheatreSaga$Theatre" "books" "LTheatreSaga$Books;") ∈ wsX5_cheapestTown := by decide +kernel
def FL_X5_cheapestTown_10 : Nat → (Nat → Int32) → Int32 → Int32 → Int32 → Int32 → Int32 → Int32 → Int32
  | 0, f, x1, x2, x3, x4, x5, x6 => 0
  | n + 1, f, x1, x2, x3, x4, x5, x6 => (if (5 : Int32) ≤ x6 then x4 else (if (F_X0_get f (F_X6_ofTown x6 (0 : Int32))) = (1 : Int32) then (if (F_X0_get f (F_X6_ofLeft x1 x6 x2)) < x3 then (FL_X5_cheapestTown_10 n f x1 x2 x3 x4 x5 (x6 + (1 : Int32))) else (if x5 ≤ (F_X0_get f (F_X6_ofTown x6 (1 : Int32))) then (FL_X5_cheapestTown_10 n f x1 x2 x3 x4 x5 (x6 + (1 : Int32))) else (FL_X5_cheapestTown_10 n f x1 x2 x3 x6 (F_X0_get f (F_X6_ofTown x6 (1 : Int32))) (x6 + (1 : Int32))))) else (FL_X5_cheapestTown_10 n f x1 x2 x3 x4 x5 (x6 + (1 : Int32)))))
def F_X5_cheapestTown (f : (Nat → Int32)) (ik : Int32) (id : Int32) (im : Int32) : Int32 := (FL_X5_cheapestTown_10 (6) f ik id im (-1 : Int32) (6 : Int32) (0 : Int32))
set_option maxHeartbeats 4000000 in
set_option maxRecDepth 100000 in
theorem lp_X5_cheapestTown_10 {p : Program} {l : Launch} {e : Env} {s : State} {m : MethodId} {args : Array Value} {below : List Frame} {meth : Method} {c : Code} {D : va_G} {k : tyK} {A : Nat → Prop} (hx : p.tables.exec = Jvm.exec) (hb : c.code = cX5_cheapestTown) (hml : c.maxLocals = 9) (hr : meth.sig.returnType = (some .int)) (hts : ∀ w ∈ wsX5_cheapestTown, w.before args s = true) (hown : s.vm.findClass RX5 = some m.cls) (hlk : meth.locks = false) (hA : ∀ q : Nat, s.heap.size ≤ q → A q) (hE : GE D k A s) (t b r : Nat) :
    ∀ (n : Nat) (f : (Nat → Int32)) (x1 : Int32) (x2 : Int32) (x3 : Int32) (x4 : Int32) (x5 : Int32) (x6 : Int32) (RES : Int32), FL_X5_cheapestTown_10 n f x1 x2 x3 x4 x5 x6 = RES → ((5 : Int32).toInt - (x6 : Int32).toInt).toNat < n → ∀ (H : Heap) (locs : List Loc), va_P D vwCl [(t, .inr (9, [.ref b])), (b, .inr (4, [.ref r])), (r, .inl (k.1, 628, .inl f))] H → va_D A [(t, .inr (9, [.ref b])), (b, .inr (4, [.ref r])), (r, .inl (k.1, 628, .inl f))] → va_S A s.heap H locs → ∀ ls : Array Slot, lv_has ls 9 [(0, .ref t), (1, .int x1), (2, .int x2), (3, .int x3), (4, .int x4), (5, .int x5), (6, .int x6)] → W p l e rm_X5_cheapestTown s m args below meth c H locs 0 0 (MQ below (va_Qi (fun r (_ : Unit) => r = RES) (Bt D (fun _ => [(t, .inr (9, [.ref b])), (b, .inr (4, [.ref r])), (r, .inl (k.1, 628, .inl f))]) A) A) args s rm_X5_cheapestTown.cells rm_X5_cheapestTown.slots A) (F0 m 10 ls []) := by
  intro n
  induction n with
  | zero =>
    intro f x1 x2 x3 x4 x5 x6 RES hF hm H locs hP hD hS ls hl
    exact absurd hm (Nat.not_lt_zero _)
  | succ n ih =>
    intro f x1 x2 x3 x4 x5 x6 RES hF hm H locs hP hD hS ls hl
    rw [FL_X5_cheapestTown_10] at hF
    refine lv_iload hx hb dX5_cheapestTown_10 (lv_at hl 6 rfl) ?_
    refine lv_iconst (v := 5) hx hb dX5_cheapestTown_12 (by decide) ?_
    refine lv_icmp_ge (tgt := 99) hx hb dX5_cheapestTown_13 (by decide) (fun c_1 => ?_) (fun c_1 => ?_)
    · rw [if_pos c_1] at hF
      refine lv_iload hx hb dX5_cheapestTown_99 (lv_at hl 4 rfl) ?_
      subst hF
      exact fc_iret hx hb hr rfl hlk hS () rfl hP hD (by decide) (by decide) dX5_cheapestTown_101
    · rw [if_neg c_1] at hF
      refine lv_aload_n hx hb dX5_cheapestTown_16 rfl (lv_at hl 0 rfl) ?_
      refine va_get (D := D) (ci := 9) (v := .ref b) (C := RX5) (T := TX5) (N := 1) hx hb hts in_X5_cheapestTown_X5 hown hE.1 hP 0 rfl rfl 0 (by decide) (hts _ lk_X5_cheapestTown_12) (fun _ h9 => h9) rfl dX5_cheapestTown_17 ?_
      refine lv_iload hx hb dX5_cheapestTown_20 (lv_at hl 6 rfl) ?_
      refine lv_iconst (v := 1) hx hb dX5_cheapestTown_22 (by decide) ?_
      refine fc_ci (isC := []) (cells' := 0) (slots' := 0) (fc_runSN (n := 2) (As := [.int x6, .int (1 : Int32)]) (rest := [.ref b]) (isC := []) (maxL := 2) ⟨hx, hb, hml, hown, hts⟩ (c_X6_ofTown x6 (1 : Int32) H.size) gX5_cheapestTown_X6_ofTown_n44 (by decide +kernel) (by decide +kernel) (by decide +kernel) rfl (by decide +kernel) rfl ⟨Nat.le_of_ble_eq_true rfl, Nat.le_of_ble_eq_true rfl⟩ ⟨Nat.le_of_ble_eq_true rfl, Nat.le_of_ble_eq_true rfl⟩ hE hP hD hS hA rfl rfl hl rfl (Nat.le_of_ble_eq_true rfl) dX5_cheapestTown_23) hP hD hS hA rfl (fun _ => rfl) rfl rfl (fun r_2 _ H locs hr_2 hP hD hS => ?_)
      obtain rfl : (F_X6_ofTown x6 (1 : Int32)) = r_2 := hr_2.symm
      dsimp only [fs, List.set] at hP hD
      have hP : va_P D vwCl [(t, .inr (9, [.ref b])), (b, .inr (4, [.ref r])), (r, .inl (k.1, 628, .inl f))] H := hP
      have hD : va_D A [(t, .inr (9, [.ref b])), (b, .inr (4, [.ref r])), (r, .inl (k.1, 628, .inl f))] := hD
      refine fc_ci (isC := [1, 2]) (cells' := 0) (slots' := 0) (fc_runV (n := 1) (As := [.int (F_X6_ofTown x6 (1 : Int32))]) (rest := []) (isC := [1, 2]) (maxL := 2) ⟨hx, hb, hml, hown, hts⟩ (c_X0_get b r f (F_X6_ofTown x6 (1 : Int32)) H.size) gX5_cheapestTown_X0_get rfl (by decide +kernel) rfl ⟨Nat.le_of_ble_eq_true rfl, Nat.le_of_ble_eq_true rfl⟩ ⟨Nat.le_of_ble_eq_true rfl, Nat.le_of_ble_eq_true rfl⟩ hE hP hD hS hA rfl rfl (va_recv hE.1 hP (ci := 4) (q0 := 1) rfl rfl) hl rfl (Nat.le_of_ble_eq_true rfl) dX5_cheapestTown_26) hP hD hS hA rfl (fun _ => rfl) rfl rfl (fun r_3 _ H locs hr_3 hP hD hS => ?_)
      obtain rfl : (F_X0_get f (F_X6_ofTown x6 (1 : Int32))) = r_3 := hr_3.symm
      dsimp only [fs, List.set] at hP hD
      have hP : va_P D vwCl [(t, .inr (9, [.ref b])), (b, .inr (4, [.ref r])), (r, .inl (k.1, 628, .inl f))] H := hP
      have hD : va_D A [(t, .inr (9, [.ref b])), (b, .inr (4, [.ref r])), (r, .inl (k.1, 628, .inl f))] := hD
      refine lv_istore (lv' := [(7, .int (F_X0_get f (F_X6_ofTown x6 (1 : Int32)))), (0, .ref t), (1, .int x1), (2, .int x2), (3, .int x3), (4, .int x4), (5, .int x5), (6, .int x6)]) hx hb dX5_cheapestTown_29 hl (by decide) rfl (fun ls hl => ?_)
      refine lv_aload_n hx hb dX5_cheapestTown_31 rfl (lv_at hl 1 rfl) ?_
      refine va_get (D := D) (ci := 9) (v := .ref b) (C := RX5) (T := TX5) (N := 1) hx hb hts in_X5_cheapestTown_X5 hown hE.1 hP 0 rfl rfl 0 (by decide) (hts _ lk_X5_cheapestTown_12) (fun _ h9 => h9) rfl dX5_cheapestTown_32 ?_
      refine lv_iload hx hb dX5_cheapestTown_35 (lv_at hl 7 rfl) ?_
      refine lv_iconst (v := 0) hx hb dX5_cheapestTown_37 (by decide) ?_
      refine fc_ci (isC := []) (cells' := 0) (slots' := 0) (fc_runSN (n := 2) (As := [.int x6, .int (0 : Int32)]) (rest := [.ref b]) (isC := []) (maxL := 2) ⟨hx, hb, hml, hown, hts⟩ (c_X6_ofTown x6 (0 : Int32) H.size) gX5_cheapestTown_X6_ofTown_n44 (by decide +kernel) (by decide +kernel) (by decide +kernel) rfl (by decide +kernel) rfl ⟨Nat.le_of_ble_eq_true rfl, Nat.le_of_ble_eq_true rfl⟩ ⟨Nat.le_of_ble_eq_true rfl, Nat.le_of_ble_eq_true rfl⟩ hE hP hD hS hA rfl rfl hl rfl (Nat.le_of_ble_eq_true rfl) dX5_cheapestTown_38) hP hD hS hA rfl (fun _ => rfl) rfl rfl (fun r_4 _ H locs hr_4 hP hD hS => ?_)
      obtain rfl : (F_X6_ofTown x6 (0 : Int32)) = r_4 := hr_4.symm
      dsimp only [fs, List.set] at hP hD
      have hP : va_P D vwCl [(t, .inr (9, [.ref b])), (b, .inr (4, [.ref r])), (r, .inl (k.1, 628, .inl f))] H := hP
      have hD : va_D A [(t, .inr (9, [.ref b])), (b, .inr (4, [.ref r])), (r, .inl (k.1, 628, .inl f))] := hD
      refine fc_ci (isC := [1, 2]) (cells' := 0) (slots' := 0) (fc_runV (n := 1) (As := [.int (F_X6_ofTown x6 (0 : Int32))]) (rest := []) (isC := [1, 2]) (maxL := 2) ⟨hx, hb, hml, hown, hts⟩ (c_X0_get b r f (F_X6_ofTown x6 (0 : Int32)) H.size) gX5_cheapestTown_X0_get rfl (by decide +kernel) rfl ⟨Nat.le_of_ble_eq_true rfl, Nat.le_of_ble_eq_true rfl⟩ ⟨Nat.le_of_ble_eq_true rfl, Nat.le_of_ble_eq_true rfl⟩ hE hP hD hS hA rfl rfl (va_recv hE.1 hP (ci := 4) (q0 := 1) rfl rfl) hl rfl (Nat.le_of_ble_eq_true rfl) dX5_cheapestTown_41) hP hD hS hA rfl (fun _ => rfl) rfl rfl (fun r_5 _ H locs hr_5 hP hD hS => ?_)
      obtain rfl : (F_X0_get f (F_X6_ofTown x6 (0 : Int32))) = r_5 := hr_5.symm
      dsimp only [fs, List.set] at hP hD
      have hP : va_P D vwCl [(t, .inr (9, [.ref b])), (b, .inr (4, [.ref r])), (r, .inl (k.1, 628, .inl f))] H := hP
      have hD : va_D A [(t, .inr (9, [.ref b])), (b, .inr (4, [.ref r])), (r, .inl (k.1, 628, .inl f))] := hD
      refine lv_iconst (v := 1) hx hb dX5_cheapestTown_44 (by decide) ?_
      refine lv_icmp_ne (tgt := 52) hx hb dX5_cheapestTown_45 (by decide) (fun c_6 => ?_) (fun c_6 => ?_)
      · rw [if_neg c_6] at hF
        refine lv_iconst (v := 0) hx hb dX5_cheapestTown_52 (by decide) ?_
        refine lv_istore (lv' := [(8, .int (0 : Int32)), (7, .int (F_X0_get f (F_X6_ofTown x6 (1 : Int32)))), (0, .ref t), (1, .int x1), (2, .int x2), (3, .int x3), (4, .int x4), (5, .int x5), (6, .int x6)]) hx hb dX5_cheapestTown_53 hl (by decide) rfl (fun ls hl => ?_)
        refine lv_iload hx hb dX5_cheapestTown_55 (lv_at hl 0 rfl) ?_
        refine lv_if_eq (tgt := 93) hx hb dX5_cheapestTown_57 (by decide) (fun c_7 => ?_) (fun c_7 => absurd c_7 (by decide))
        refine lv_iinc (v := (x6 + (1 : Int32))) (lv' := [(6, .int (x6 + (1 : Int32))), (8, .int (0 : Int32)), (7, .int (F_X0_get f (F_X6_ofTown x6 (1 : Int32)))), (0, .ref t), (1, .int x1), (2, .int x2), (3, .int x3), (4, .int x4), (5, .int x5)]) hx hb dX5_cheapestTown_93 hl (k := 8) rfl rfl (by decide) rfl (fun ls hl => ?_)
        refine lv_goto (tgt := 10) hx hb dX5_cheapestTown_96 (by decide) ?_
        exact ih f x1 x2 x3 x4 x5 (x6 + (1 : Int32)) RES hF (lp_step c_1 hm) H locs hP hD hS ls (lv_sub hl [3, 4, 5, 6, 7, 8, 0] rfl)
      · rw [if_pos c_6] at hF
        refine lv_iconst (v := 1) hx hb dX5_cheapestTown_48 (by decide) ?_
        refine lv_goto (tgt := 53) hx hb dX5_cheapestTown_49 (by decide) ?_
        refine lv_istore (lv' := [(8, .int (1 : Int32)), (7, .int (F_X0_get f (F_X6_ofTown x6 (1 : Int32)))), (0, .ref t), (1, .int x1), (2, .int x2), (3, .int x3), (4, .int x4), (5, .int x5), (6, .int x6)]) hx hb dX5_cheapestTown_53 hl (by decide) rfl (fun ls hl => ?_)
        refine lv_iload hx hb dX5_cheapestTown_55 (lv_at hl 0 rfl) ?_
        refine lv_if_eq (tgt := 93) hx hb dX5_cheapestTown_57 (by decide) (fun c_8 => absurd c_8 (by decide)) (fun c_8 => ?_)
        refine lv_aload_n hx hb dX5_cheapestTown_60 rfl (lv_at hl 2 rfl) ?_
        refine va_get (D := D) (ci := 9) (v := .ref b) (C := RX5) (T := TX5) (N := 1) hx hb hts in_X5_cheapestTown_X5 hown hE.1 hP 0 rfl rfl 0 (by decide) (hts _ lk_X5_cheapestTown_12) (fun _ h9 => h9) rfl dX5_cheapestTown_61 ?_
        refine lv_iload_n hx hb dX5_cheapestTown_64 rfl (lv_at hl 3 rfl) ?_
        refine lv_iload hx hb dX5_cheapestTown_65 (lv_at hl 8 rfl) ?_
        refine lv_iload_n hx hb dX5_cheapestTown_67 rfl (lv_at hl 4 rfl) ?_
        refine fc_ci (isC := []) (cells' := 0) (slots' := 0) (fc_runSN (n := 3) (As := [.int x1, .int x6, .int x2]) (rest := [.ref b]) (isC := []) (maxL := 3) ⟨hx, hb, hml, hown, hts⟩ (c_X6_ofLeft x1 x6 x2 H.size) gX5_cheapestTown_X6_ofLeft_n83 (by decide +kernel) (by decide +kernel) (by decide +kernel) rfl (by decide +kernel) rfl ⟨Nat.le_of_ble_eq_true rfl, Nat.le_of_ble_eq_true rfl⟩ ⟨Nat.le_of_ble_eq_true rfl, Nat.le_of_ble_eq_true rfl⟩ hE hP hD hS hA rfl rfl hl rfl (Nat.le_of_ble_eq_true rfl) dX5_cheapestTown_68) hP hD hS hA rfl (fun _ => rfl) rfl rfl (fun r_9 _ H locs hr_9 hP hD hS => ?_)
        obtain rfl : (F_X6_ofLeft x1 x6 x2) = r_9 := hr_9.symm
        dsimp only [fs, List.set] at hP hD
        have hP : va_P D vwCl [(t, .inr (9, [.ref b])), (b, .inr (4, [.ref r])), (r, .inl (k.1, 628, .inl f))] H := hP
        have hD : va_D A [(t, .inr (9, [.ref b])), (b, .inr (4, [.ref r])), (r, .inl (k.1, 628, .inl f))] := hD
        refine fc_ci (isC := [1, 2]) (cells' := 0) (slots' := 0) (fc_runV (n := 1) (As := [.int (F_X6_ofLeft x1 x6 x2)]) (rest := []) (isC := [1, 2]) (maxL := 2) ⟨hx, hb, hml, hown, hts⟩ (c_X0_get b r f (F_X6_ofLeft x1 x6 x2) H.size) gX5_cheapestTown_X0_get rfl (by decide +kernel) rfl ⟨Nat.le_of_ble_eq_true rfl, Nat.le_of_ble_eq_true rfl⟩ ⟨Nat.le_of_ble_eq_true rfl, Nat.le_of_ble_eq_true rfl⟩ hE hP hD hS hA rfl rfl (va_recv hE.1 hP (ci := 4) (q0 := 1) rfl rfl) hl rfl (Nat.le_of_ble_eq_true rfl) dX5_cheapestTown_71) hP hD hS hA rfl (fun _ => rfl) rfl rfl (fun r_10 _ H locs hr_10 hP hD hS => ?_)
        obtain rfl : (F_X0_get f (F_X6_ofLeft x1 x6 x2)) = r_10 := hr_10.symm
        dsimp only [fs, List.set] at hP hD
        have hP : va_P D vwCl [(t, .inr (9, [.ref b])), (b, .inr (4, [.ref r])), (r, .inl (k.1, 628, .inl f))] H := hP
        have hD : va_D A [(t, .inr (9, [.ref b])), (b, .inr (4, [.ref r])), (r, .inl (k.1, 628, .inl f))] := hD
        refine lv_iload_n hx hb dX5_cheapestTown_74 rfl (lv_at hl 5 rfl) ?_
        refine lv_icmp_lt (tgt := 93) hx hb dX5_cheapestTown_75 (by decide) (fun c_11 => ?_) (fun c_11 => ?_)
        · rw [if_pos c_11] at hF
          refine lv_iinc (v := (x6 + (1 : Int32))) (lv' := [(6, .int (x6 + (1 : Int32))), (8, .int (1 : Int32)), (7, .int (F_X0_get f (F_X6_ofTown x6 (1 : Int32)))), (0, .ref t), (1, .int x1), (2, .int x2), (3, .int x3), (4, .int x4), (5, .int x5)]) hx hb dX5_cheapestTown_93 hl (k := 8) rfl rfl (by decide) rfl (fun ls hl => ?_)
          refine lv_goto (tgt := 10) hx hb dX5_cheapestTown_96 (by decide) ?_
          exact ih f x1 x2 x3 x4 x5 (x6 + (1 : Int32)) RES hF (lp_step c_1 hm) H locs hP hD hS ls (lv_sub hl [3, 4, 5, 6, 7, 8, 0] rfl)
        · rw [if_neg c_11] at hF
          refine lv_iload hx hb dX5_cheapestTown_78 (lv_at hl 1 rfl) ?_
          refine lv_iload hx hb dX5_cheapestTown_80 (lv_at hl 7 rfl) ?_
          refine lv_icmp_ge (tgt := 93) hx hb dX5_cheapestTown_82 (by decide) (fun c_12 => ?_) (fun c_12 => ?_)
          · rw [if_pos c_12] at hF
            refine lv_iinc (v := (x6 + (1 : Int32))) (lv' := [(6, .int (x6 + (1 : Int32))), (8, .int (1 : Int32)), (7, .int (F_X0_get f (F_X6_ofTown x6 (1 : Int32)))), (0, .ref t), (1, .int x1), (2, .int x2), (3, .int x3), (4, .int x4), (5, .int x5)]) hx hb dX5_cheapestTown_93 hl (k := 8) rfl rfl (by decide) rfl (fun ls hl => ?_)
            refine lv_goto (tgt := 10) hx hb dX5_cheapestTown_96 (by decide) ?_
            exact ih f x1 x2 x3 x4 x5 (x6 + (1 : Int32)) RES hF (lp_step c_1 hm) H locs hP hD hS ls (lv_sub hl [3, 4, 5, 6, 7, 8, 0] rfl)
          · rw [if_neg c_12] at hF
            refine lv_iload hx hb dX5_cheapestTown_85 (lv_at hl 8 rfl) ?_
            refine lv_istore (lv' := [(4, .int x6), (8, .int (1 : Int32)), (7, .int (F_X0_get f (F_X6_ofTown x6 (1 : Int32)))), (0, .ref t), (1, .int x1), (2, .int x2), (3, .int x3), (5, .int x5), (6, .int x6)]) hx hb dX5_cheapestTown_87 hl (by decide) rfl (fun ls hl => ?_)
            refine lv_iload hx hb dX5_cheapestTown_89 (lv_at hl 2 rfl) ?_
            refine lv_istore (lv' := [(5, .int (F_X0_get f (F_X6_ofTown x6 (1 : Int32)))), (4, .int x6), (8, .int (1 : Int32)), (7, .int (F_X0_get f (F_X6_ofTown x6 (1 : Int32)))), (0, .ref t), (1, .int x1), (2, .int x2), (3, .int x3), (6, .int x6)]) hx hb dX5_cheapestTown_91 hl (by decide) rfl (fun ls hl => ?_)
            refine lv_iinc (v := (x6 + (1 : Int32))) (lv' := [(6, .int (x6 + (1 : Int32))), (5, .int (F_X0_get f (F_X6_ofTown x6 (1 : Int32)))), (4, .int x6), (8, .int (1 : Int32)), (7, .int (F_X0_get f (F_X6_ofTown x6 (1 : Int32)))), (0, .ref t), (1, .int x1), (2, .int x2), (3, .int x3)]) hx hb dX5_cheapestTown_93 hl (k := 8) rfl rfl (by decide) rfl (fun ls hl => ?_)
            refine lv_goto (tgt := 10) hx hb dX5_cheapestTown_96 (by decide) ?_
            exact ih f x1 x2 x3 x6 (F_X0_get f (F_X6_ofTown x6 (1 : Int32))) (x6 + (1 : Int32)) RES hF (lp_step c_1 hm) H locs hP hD hS ls (lv_sub hl [5, 6, 7, 8, 2, 1, 0] rfl)
set_option maxHeartbeats 4000000 in
set_option maxRecDepth 100000 in
theorem c_X5_cheapestTown {l : Launch} {D : va_G} {k : tyK} (t b r : Nat) (f : (Nat → Int32)) (ik : Int32) (id : Int32) (im : Int32) : FCi l yX5_cheapestTown wsX5_cheapestTown rm_X5_cheapestTown D k [.ref t, .int ik, .int id, .int im] [(t, .inr (9, [.ref b])), (b, .inr (4, [.ref r])), (r, .inl (k.1, 628, .inl f))] (fun r (_ : Unit) => r = (F_X5_cheapestTown f ik id im)) (fun _ => [(t, .inr (9, [.ref b])), (b, .inr (4, [.ref r])), (r, .inl (k.1, 628, .inl f))]) := by
  refine fc_start (cc := cX5_cheapestTown) (maxL := 9) (ret := (some .int)) (own := RX5) (Qc := fun A => va_Qi (fun r (_ : Unit) => r = (F_X5_cheapestTown f ik id im)) (Bt D (fun _ => [(t, .inr (9, [.ref b])), (b, .inr (4, [.ref r])), (r, .inl (k.1, 628, .inl f))]) A) A) (by decide) rfl rfl (Nat.le_of_ble_eq_true rfl) ?_
  intro p e s m below meth c A H hx hb hml hr hts hown hlk hname hA hP hE hD hS ls hl
  obtain ⟨RES, hF⟩ : ∃ z, (F_X5_cheapestTown f ik id im) = z := ⟨_, rfl⟩
  rw [hF]
  unfold F_X5_cheapestTown at hF
  have hl : lv_has ls 9 [(0, .ref t), (1, .int ik), (2, .int id), (3, .int im)] := hl
  obtain ⟨locs, hlocs⟩ : ∃ z : List Loc, z = [] := ⟨_, rfl⟩
  rw [← hlocs] at hS ⊢
  refine lv_iconst (v := -1) hx hb dX5_cheapestTown_0 (by decide) ?_
  refine lv_istore (lv' := [(4, .int (-1 : Int32)), (0, .ref t), (1, .int ik), (2, .int id), (3, .int im)]) hx hb dX5_cheapestTown_1 hl (by decide) rfl (fun ls hl => ?_)
  refine lv_bipush (v := 6) hx hb dX5_cheapestTown_3 (by decide) ?_
  refine lv_istore (lv' := [(5, .int (6 : Int32)), (4, .int (-1 : Int32)), (0, .ref t), (1, .int ik), (2, .int id), (3, .int im)]) hx hb dX5_cheapestTown_5 hl (by decide) rfl (fun ls hl => ?_)
  refine lv_iconst (v := 0) hx hb dX5_cheapestTown_7 (by decide) ?_
  refine lv_istore (lv' := [(6, .int (0 : Int32)), (5, .int (6 : Int32)), (4, .int (-1 : Int32)), (0, .ref t), (1, .int ik), (2, .int id), (3, .int im)]) hx hb dX5_cheapestTown_8 hl (by decide) rfl (fun ls hl => ?_)
  exact lp_X5_cheapestTown_10 hx hb hml hr hts hown hlk hA hE t b r (6) f ik id im (-1 : Int32) (6 : Int32) (0 : Int32) RES hF (by decide) H locs hP hD hS ls (lv_sub hl [3, 4, 5, 6, 2, 1, 0] rfl)

abbrev rm_X5_comesBefore : Room := { frames := 1, cells := 0, slots := 0, locals := 21 }
theorem in_X5_comesBefore_X5 : ∀ w ∈ wsX50, w ∈ wsX5_comesBefore := by decide +kernel
theorem lk_X5_comesBefore_12 : (Cond.fieldLink RX5 12 "TheatreSaga$Theatre" "books" "LTheatreSaga$Books;") ∈ wsX5_comesBefore := by decide +kernel
def F_X5_comesBefore (f : (Nat → Int32)) (it : Int32) (io : Int32) : Int32 := (if (F_X0_get f (F_X6_ofTour it (3 : Int32))) = (F_X0_get f (F_X6_ofTour io (3 : Int32))) then (if (F_X0_get f (F_X6_ofTour it (2 : Int32))) = (F_X0_get f (F_X6_ofTour io (2 : Int32))) then (if io ≤ it then (0 : Int32) else (1 : Int32)) else (if (F_X0_get f (F_X6_ofTour io (2 : Int32))) ≤ (F_X0_get f (F_X6_ofTour it (2 : Int32))) then (0 : Int32) else (1 : Int32))) else (if (F_X0_get f (F_X6_ofTour it (3 : Int32))) ≤ (F_X0_get f (F_X6_ofTour io (3 : Int32))) then (0 : Int32) else (1 : Int32)))
set_option maxHeartbeats 4000000 in
set_option maxRecDepth 100000 in
theorem c_X5_comesBefore {l : Launch} {D : va_G} {k : tyK} (t b r : Nat) (f : (Nat → Int32)) (it : Int32) (io : Int32) : FCi l yX5_comesBefore wsX5_comesBefore rm_X5_comesBefore D k [.ref t, .int it, .int io] [(t, .inr (9, [.ref b])), (b, .inr (4, [.ref r])), (r, .inl (k.1, 628, .inl f))] (fun r (_ : Unit) => r = (F_X5_comesBefore f it io)) (fun _ => [(t, .inr (9, [.ref b])), (b, .inr (4, [.ref r])), (r, .inl (k.1, 628, .inl f))]) := by
  refine fc_start (cc := cX5_comesBefore) (maxL := 7) (ret := (some .boolean)) (own := RX5) (Qc := fun A => va_Qi (fun r (_ : Unit) => r = (F_X5_comesBefore f it io)) (Bt D (fun _ => [(t, .inr (9, [.ref b])), (b, .inr (4, [.ref r])), (r, .inl (k.1, 628, .inl f))]) A) A) (by decide) rfl rfl (Nat.le_of_ble_eq_true rfl) ?_
  intro p e s m below meth c A H hx hb hml hr hts hown hlk hname hA hP hE hD hS ls hl
  obtain ⟨RES, hF⟩ : ∃ z, (F_X5_comesBefore f it io) = z := ⟨_, rfl⟩
  rw [hF]
  unfold F_X5_comesBefore at hF
  have hl : lv_has ls 7 [(0, .ref t), (1, .int it), (2, .int io)] := hl
  obtain ⟨locs, hlocs⟩ : ∃ z : List Loc, z = [] := ⟨_, rfl⟩
  rw [← hlocs] at hS ⊢
  refine lv_aload_n hx hb dX5_comesBefore_0 rfl (lv_at hl 0 rfl) ?_
  refine va_get (D := D) (ci := 9) (v := .ref b) (C := RX5) (T := TX5) (N := 1) hx hb hts in_X5_comesBefore_X5 hown hE.1 hP 0 rfl rfl 0 (by decide) (hts _ lk_X5_comesBefore_12) (fun _ h9 => h9) rfl dX5_comesBefore_1 ?_
  refine lv_iload_n hx hb dX5_comesBefore_4 rfl (lv_at hl 1 rfl) ?_
  refine lv_iconst (v := 3) hx hb dX5_comesBefore_5 (by decide) ?_
  refine fc_ci (isC := []) (cells' := 0) (slots' := 0) (fc_runSN (n := 2) (As := [.int it, .int (3 : Int32)]) (rest := [.ref b]) (isC := []) (maxL := 2) ⟨hx, hb, hml, hown, hts⟩ (c_X6_ofTour it (3 : Int32) H.size) gX5_comesBefore_X6_ofTour_n22 (by decide +kernel) (by decide +kernel) (by decide +kernel) rfl (by decide +kernel) rfl ⟨Nat.le_of_ble_eq_true rfl, Nat.le_of_ble_eq_true rfl⟩ ⟨Nat.le_of_ble_eq_true rfl, Nat.le_of_ble_eq_true rfl⟩ hE hP hD hS hA rfl rfl hl rfl (Nat.le_of_ble_eq_true rfl) dX5_comesBefore_6) hP hD hS hA rfl (fun _ => rfl) rfl rfl (fun r_1 _ H locs hr_1 hP hD hS => ?_)
  obtain rfl : (F_X6_ofTour it (3 : Int32)) = r_1 := hr_1.symm
  dsimp only [fs, List.set] at hP hD
  have hP : va_P D vwCl [(t, .inr (9, [.ref b])), (b, .inr (4, [.ref r])), (r, .inl (k.1, 628, .inl f))] H := hP
  have hD : va_D A [(t, .inr (9, [.ref b])), (b, .inr (4, [.ref r])), (r, .inl (k.1, 628, .inl f))] := hD
  refine fc_ci (isC := [1, 2]) (cells' := 0) (slots' := 0) (fc_runV (n := 1) (As := [.int (F_X6_ofTour it (3 : Int32))]) (rest := []) (isC := [1, 2]) (maxL := 2) ⟨hx, hb, hml, hown, hts⟩ (c_X0_get b r f (F_X6_ofTour it (3 : Int32)) H.size) gX5_comesBefore_X0_get rfl (by decide +kernel) rfl ⟨Nat.le_of_ble_eq_true rfl, Nat.le_of_ble_eq_true rfl⟩ ⟨Nat.le_of_ble_eq_true rfl, Nat.le_of_ble_eq_true rfl⟩ hE hP hD hS hA rfl rfl (va_recv hE.1 hP (ci := 4) (q0 := 1) rfl rfl) hl rfl (Nat.le_of_ble_eq_true rfl) dX5_comesBefore_9) hP hD hS hA rfl (fun _ => rfl) rfl rfl (fun r_2 _ H locs hr_2 hP hD hS => ?_)
  obtain rfl : (F_X0_get f (F_X6_ofTour it (3 : Int32))) = r_2 := hr_2.symm
  dsimp only [fs, List.set] at hP hD
  have hP : va_P D vwCl [(t, .inr (9, [.ref b])), (b, .inr (4, [.ref r])), (r, .inl (k.1, 628, .inl f))] H := hP
  have hD : va_D A [(t, .inr (9, [.ref b])), (b, .inr (4, [.ref r])), (r, .inl (k.1, 628, .inl f))] := hD
  refine lv_istore_n (lv' := [(3, .int (F_X0_get f (F_X6_ofTour it (3 : Int32)))), (0, .ref t), (1, .int it), (2, .int io)]) hx hb dX5_comesBefore_12 rfl hl (by decide) rfl (fun ls hl => ?_)
  refine lv_aload_n hx hb dX5_comesBefore_13 rfl (lv_at hl 1 rfl) ?_
  refine va_get (D := D) (ci := 9) (v := .ref b) (C := RX5) (T := TX5) (N := 1) hx hb hts in_X5_comesBefore_X5 hown hE.1 hP 0 rfl rfl 0 (by decide) (hts _ lk_X5_comesBefore_12) (fun _ h9 => h9) rfl dX5_comesBefore_14 ?_
  refine lv_iload_n hx hb dX5_comesBefore_17 rfl (lv_at hl 3 rfl) ?_
  refine lv_iconst (v := 3) hx hb dX5_comesBefore_18 (by decide) ?_
  refine fc_ci (isC := []) (cells' := 0) (slots' := 0) (fc_runSN (n := 2) (As := [.int io, .int (3 : Int32)]) (rest := [.ref b]) (isC := []) (maxL := 2) ⟨hx, hb, hml, hown, hts⟩ (c_X6_ofTour io (3 : Int32) H.size) gX5_comesBefore_X6_ofTour_n22 (by decide +kernel) (by decide +kernel) (by decide +kernel) rfl (by decide +kernel) rfl ⟨Nat.le_of_ble_eq_true rfl, Nat.le_of_ble_eq_true rfl⟩ ⟨Nat.le_of_ble_eq_true rfl, Nat.le_of_ble_eq_true rfl⟩ hE hP hD hS hA rfl rfl hl rfl (Nat.le_of_ble_eq_true rfl) dX5_comesBefore_19) hP hD hS hA rfl (fun _ => rfl) rfl rfl (fun r_3 _ H locs hr_3 hP hD hS => ?_)
  obtain rfl : (F_X6_ofTour io (3 : Int32)) = r_3 := hr_3.symm
  dsimp only [fs, List.set] at hP hD
  have hP : va_P D vwCl [(t, .inr (9, [.ref b])), (b, .inr (4, [.ref r])), (r, .inl (k.1, 628, .inl f))] H := hP
  have hD : va_D A [(t, .inr (9, [.ref b])), (b, .inr (4, [.ref r])), (r, .inl (k.1, 628, .inl f))] := hD
  refine fc_ci (isC := [1, 2]) (cells' := 0) (slots' := 0) (fc_runV (n := 1) (As := [.int (F_X6_ofTour io (3 : Int32))]) (rest := []) (isC := [1, 2]) (maxL := 2) ⟨hx, hb, hml, hown, hts⟩ (c_X0_get b r f (F_X6_ofTour io (3 : Int32)) H.size) gX5_comesBefore_X0_get rfl (by decide +kernel) rfl ⟨Nat.le_of_ble_eq_true rfl, Nat.le_of_ble_eq_true rfl⟩ ⟨Nat.le_of_ble_eq_true rfl, Nat.le_of_ble_eq_true rfl⟩ hE hP hD hS hA rfl rfl (va_recv hE.1 hP (ci := 4) (q0 := 1) rfl rfl) hl rfl (Nat.le_of_ble_eq_true rfl) dX5_comesBefore_22) hP hD hS hA rfl (fun _ => rfl) rfl rfl (fun r_4 _ H locs hr_4 hP hD hS => ?_)
  obtain rfl : (F_X0_get f (F_X6_ofTour io (3 : Int32))) = r_4 := hr_4.symm
  dsimp only [fs, List.set] at hP hD
  have hP : va_P D vwCl [(t, .inr (9, [.ref b])), (b, .inr (4, [.ref r])), (r, .inl (k.1, 628, .inl f))] H := hP
  have hD : va_D A [(t, .inr (9, [.ref b])), (b, .inr (4, [.ref r])), (r, .inl (k.1, 628, .inl f))] := hD
  refine lv_istore (lv' := [(4, .int (F_X0_get f (F_X6_ofTour io (3 : Int32)))), (3, .int (F_X0_get f (F_X6_ofTour it (3 : Int32)))), (0, .ref t), (1, .int it), (2, .int io)]) hx hb dX5_comesBefore_25 hl (by decide) rfl (fun ls hl => ?_)
  refine lv_iload_n hx hb dX5_comesBefore_27 rfl (lv_at hl 1 rfl) ?_
  refine lv_iload hx hb dX5_comesBefore_28 (lv_at hl 0 rfl) ?_
  refine lv_icmp_eq (tgt := 45) hx hb dX5_comesBefore_30 (by decide) (fun c_5 => ?_) (fun c_5 => ?_)
  · rw [if_pos c_5] at hF
    refine lv_aload_n hx hb dX5_comesBefore_45 rfl (lv_at hl 2 rfl) ?_
    refine va_get (D := D) (ci := 9) (v := .ref b) (C := RX5) (T := TX5) (N := 1) hx hb hts in_X5_comesBefore_X5 hown hE.1 hP 0 rfl rfl 0 (by decide) (hts _ lk_X5_comesBefore_12) (fun _ h9 => h9) rfl dX5_comesBefore_46 ?_
    refine lv_iload_n hx hb dX5_comesBefore_49 rfl (lv_at hl 3 rfl) ?_
    refine lv_iconst (v := 2) hx hb dX5_comesBefore_50 (by decide) ?_
    refine fc_ci (isC := []) (cells' := 0) (slots' := 0) (fc_runSN (n := 2) (As := [.int it, .int (2 : Int32)]) (rest := [.ref b]) (isC := []) (maxL := 2) ⟨hx, hb, hml, hown, hts⟩ (c_X6_ofTour it (2 : Int32) H.size) gX5_comesBefore_X6_ofTour_n22 (by decide +kernel) (by decide +kernel) (by decide +kernel) rfl (by decide +kernel) rfl ⟨Nat.le_of_ble_eq_true rfl, Nat.le_of_ble_eq_true rfl⟩ ⟨Nat.le_of_ble_eq_true rfl, Nat.le_of_ble_eq_true rfl⟩ hE hP hD hS hA rfl rfl hl rfl (Nat.le_of_ble_eq_true rfl) dX5_comesBefore_51) hP hD hS hA rfl (fun _ => rfl) rfl rfl (fun r_6 _ H locs hr_6 hP hD hS => ?_)
    obtain rfl : (F_X6_ofTour it (2 : Int32)) = r_6 := hr_6.symm
    dsimp only [fs, List.set] at hP hD
    have hP : va_P D vwCl [(t, .inr (9, [.ref b])), (b, .inr (4, [.ref r])), (r, .inl (k.1, 628, .inl f))] H := hP
    have hD : va_D A [(t, .inr (9, [.ref b])), (b, .inr (4, [.ref r])), (r, .inl (k.1, 628, .inl f))] := hD
    refine fc_ci (isC := [1, 2]) (cells' := 0) (slots' := 0) (fc_runV (n := 1) (As := [.int (F_X6_ofTour it (2 : Int32))]) (rest := []) (isC := [1, 2]) (maxL := 2) ⟨hx, hb, hml, hown, hts⟩ (c_X0_get b r f (F_X6_ofTour it (2 : Int32)) H.size) gX5_comesBefore_X0_get rfl (by decide +kernel) rfl ⟨Nat.le_of_ble_eq_true rfl, Nat.le_of_ble_eq_true rfl⟩ ⟨Nat.le_of_ble_eq_true rfl, Nat.le_of_ble_eq_true rfl⟩ hE hP hD hS hA rfl rfl (va_recv hE.1 hP (ci := 4) (q0 := 1) rfl rfl) hl rfl (Nat.le_of_ble_eq_true rfl) dX5_comesBefore_54) hP hD hS hA rfl (fun _ => rfl) rfl rfl (fun r_7 _ H locs hr_7 hP hD hS => ?_)
    obtain rfl : (F_X0_get f (F_X6_ofTour it (2 : Int32))) = r_7 := hr_7.symm
    dsimp only [fs, List.set] at hP hD
    have hP : va_P D vwCl [(t, .inr (9, [.ref b])), (b, .inr (4, [.ref r])), (r, .inl (k.1, 628, .inl f))] H := hP
    have hD : va_D A [(t, .inr (9, [.ref b])), (b, .inr (4, [.ref r])), (r, .inl (k.1, 628, .inl f))] := hD
    refine lv_istore (lv' := [(5, .int (F_X0_get f (F_X6_ofTour it (2 : Int32)))), (4, .int (F_X0_get f (F_X6_ofTour io (3 : Int32)))), (3, .int (F_X0_get f (F_X6_ofTour it (3 : Int32)))), (0, .ref t), (1, .int it), (2, .int io)]) hx hb dX5_comesBefore_57 hl (by decide) rfl (fun ls hl => ?_)
    refine lv_aload_n hx hb dX5_comesBefore_59 rfl (lv_at hl 3 rfl) ?_
    refine va_get (D := D) (ci := 9) (v := .ref b) (C := RX5) (T := TX5) (N := 1) hx hb hts in_X5_comesBefore_X5 hown hE.1 hP 0 rfl rfl 0 (by decide) (hts _ lk_X5_comesBefore_12) (fun _ h9 => h9) rfl dX5_comesBefore_60 ?_
    refine lv_iload_n hx hb dX5_comesBefore_63 rfl (lv_at hl 5 rfl) ?_
    refine lv_iconst (v := 2) hx hb dX5_comesBefore_64 (by decide) ?_
    refine fc_ci (isC := []) (cells' := 0) (slots' := 0) (fc_runSN (n := 2) (As := [.int io, .int (2 : Int32)]) (rest := [.ref b]) (isC := []) (maxL := 2) ⟨hx, hb, hml, hown, hts⟩ (c_X6_ofTour io (2 : Int32) H.size) gX5_comesBefore_X6_ofTour_n22 (by decide +kernel) (by decide +kernel) (by decide +kernel) rfl (by decide +kernel) rfl ⟨Nat.le_of_ble_eq_true rfl, Nat.le_of_ble_eq_true rfl⟩ ⟨Nat.le_of_ble_eq_true rfl, Nat.le_of_ble_eq_true rfl⟩ hE hP hD hS hA rfl rfl hl rfl (Nat.le_of_ble_eq_true rfl) dX5_comesBefore_65) hP hD hS hA rfl (fun _ => rfl) rfl rfl (fun r_8 _ H locs hr_8 hP hD hS => ?_)
    obtain rfl : (F_X6_ofTour io (2 : Int32)) = r_8 := hr_8.symm
    dsimp only [fs, List.set] at hP hD
    have hP : va_P D vwCl [(t, .inr (9, [.ref b])), (b, .inr (4, [.ref r])), (r, .inl (k.1, 628, .inl f))] H := hP
    have hD : va_D A [(t, .inr (9, [.ref b])), (b, .inr (4, [.ref r])), (r, .inl (k.1, 628, .inl f))] := hD
    refine fc_ci (isC := [1, 2]) (cells' := 0) (slots' := 0) (fc_runV (n := 1) (As := [.int (F_X6_ofTour io (2 : Int32))]) (rest := []) (isC := [1, 2]) (maxL := 2) ⟨hx, hb, hml, hown, hts⟩ (c_X0_get b r f (F_X6_ofTour io (2 : Int32)) H.size) gX5_comesBefore_X0_get rfl (by decide +kernel) rfl ⟨Nat.le_of_ble_eq_true rfl, Nat.le_of_ble_eq_true rfl⟩ ⟨Nat.le_of_ble_eq_true rfl, Nat.le_of_ble_eq_true rfl⟩ hE hP hD hS hA rfl rfl (va_recv hE.1 hP (ci := 4) (q0 := 1) rfl rfl) hl rfl (Nat.le_of_ble_eq_true rfl) dX5_comesBefore_68) hP hD hS hA rfl (fun _ => rfl) rfl rfl (fun r_9 _ H locs hr_9 hP hD hS => ?_)
    obtain rfl : (F_X0_get f (F_X6_ofTour io (2 : Int32))) = r_9 := hr_9.symm
    dsimp only [fs, List.set] at hP hD
    have hP : va_P D vwCl [(t, .inr (9, [.ref b])), (b, .inr (4, [.ref r])), (r, .inl (k.1, 628, .inl f))] H := hP
    have hD : va_D A [(t, .inr (9, [.ref b])), (b, .inr (4, [.ref r])), (r, .inl (k.1, 628, .inl f))] := hD
    refine lv_istore (lv' := [(6, .int (F_X0_get f (F_X6_ofTour io (2 : Int32)))), (5, .int (F_X0_get f (F_X6_ofTour it (2 : Int32)))), (4, .int (F_X0_get f (F_X6_ofTour io (3 : Int32)))), (3, .int (F_X0_get f (F_X6_ofTour it (3 : Int32)))), (0, .ref t), (1, .int it), (2, .int io)]) hx hb dX5_comesBefore_71 hl (by decide) rfl (fun ls hl => ?_)
    refine lv_iload hx hb dX5_comesBefore_73 (lv_at hl 1 rfl) ?_
    refine lv_iload hx hb dX5_comesBefore_75 (lv_at hl 0 rfl) ?_
    refine lv_icmp_eq (tgt := 95) hx hb dX5_comesBefore_77 (by decide) (fun c_10 => ?_) (fun c_10 => ?_)
    · rw [if_pos c_10] at hF
      refine lv_iload_n hx hb dX5_comesBefore_95 rfl (lv_at hl 5 rfl) ?_
      refine lv_iload_n hx hb dX5_comesBefore_96 rfl (lv_at hl 6 rfl) ?_
      refine lv_icmp_ge (tgt := 104) hx hb dX5_comesBefore_97 (by decide) (fun c_11 => ?_) (fun c_11 => ?_)
      · rw [if_pos c_11] at hF
        refine lv_iconst (v := 0) hx hb dX5_comesBefore_104 (by decide) ?_
        subst hF
        exact fc_iret hx hb hr rfl hlk hS () rfl hP hD (by decide) (by decide) dX5_comesBefore_105
      · rw [if_neg c_11] at hF
        refine lv_iconst (v := 1) hx hb dX5_comesBefore_100 (by decide) ?_
        refine lv_goto (tgt := 105) hx hb dX5_comesBefore_101 (by decide) ?_
        subst hF
        exact fc_iret hx hb hr rfl hlk hS () rfl hP hD (by decide) (by decide) dX5_comesBefore_105
    · rw [if_neg c_10] at hF
      refine lv_iload hx hb dX5_comesBefore_80 (lv_at hl 1 rfl) ?_
      refine lv_iload hx hb dX5_comesBefore_82 (lv_at hl 0 rfl) ?_
      refine lv_icmp_ge (tgt := 91) hx hb dX5_comesBefore_84 (by decide) (fun c_12 => ?_) (fun c_12 => ?_)
      · rw [if_pos c_12] at hF
        refine lv_iconst (v := 0) hx hb dX5_comesBefore_91 (by decide) ?_
        refine lv_goto (tgt := 105) hx hb dX5_comesBefore_92 (by decide) ?_
        subst hF
        exact fc_iret hx hb hr rfl hlk hS () rfl hP hD (by decide) (by decide) dX5_comesBefore_105
      · rw [if_neg c_12] at hF
        refine lv_iconst (v := 1) hx hb dX5_comesBefore_87 (by decide) ?_
        refine lv_goto (tgt := 105) hx hb dX5_comesBefore_88 (by decide) ?_
        subst hF
        exact fc_iret hx hb hr rfl hlk hS () rfl hP hD (by decide) (by decide) dX5_comesBefore_105
  · rw [if_neg c_5] at hF
    refine lv_iload_n hx hb dX5_comesBefore_33 rfl (lv_at hl 1 rfl) ?_
    refine lv_iload hx hb dX5_comesBefore_34 (lv_at hl 0 rfl) ?_
    refine lv_icmp_le (tgt := 43) hx hb dX5_comesBefore_36 (by decide) (fun c_13 => ?_) (fun c_13 => ?_)
    · rw [if_pos c_13] at hF
      refine lv_iconst (v := 0) hx hb dX5_comesBefore_43 (by decide) ?_
      subst hF
      exact fc_iret hx hb hr rfl hlk hS () rfl hP hD (by decide) (by decide) dX5_comesBefore_44
    · rw [if_neg c_13] at hF
      refine lv_iconst (v := 1) hx hb dX5_comesBefore_39 (by decide) ?_
      refine lv_goto (tgt := 44) hx hb dX5_comesBefore_40 (by decide) ?_
      subst hF
      exact fc_iret hx hb hr rfl hlk hS () rfl hP hD (by decide) (by decide) dX5_comesBefore_44

abbrev rm_X5_tourInPlace : Room := { frames := 2, cells := 0, slots := 0, locals := 47 }
theorem in_X5_tourInPlace_X5 : ∀ w ∈ wsX50, w ∈ wsX5_tourInPlace := by decide +kernel
theorem lk_X5_tourInPlace_12 : (Cond.fieldLink RX5 12 "TheatreSaga$Theatre" "books" "LTheatreSaga$Books;") ∈ wsX5_tourInPlace := by decide +kernel
def FL_X5_tourInPlace_22 : Nat → (Nat → Int32) → Int32 → Int32 → Int32 → Int32 → Int32 → Int32 × Int32
  | 0, f, x1, x2, x3, x4, x5 => (x4, x5)
  | n + 1, f, x1, x2, x3, x4, x5 => (if x2 ≤ x5 then (x4, x5) else (if (F_X5_comesBefore f x5 x3) = (0 : Int32) then (FL_X5_tourInPlace_22 n f x1 x2 x3 (x4 + (0 : Int32)) (x5 + (1 : Int32))) else (FL_X5_tourInPlace_22 n f x1 x2 x3 (x4 + (1 : Int32)) (x5 + (1 : Int32)))))
def FL_X5_tourInPlace_11 : Nat → (Nat → Int32) → Int32 → Int32 → Int32 → Int32
  | 0, f, x1, x2, x3 => 0
  | n + 1, f, x1, x2, x3 => (if x2 ≤ x3 then (-1 : Int32) else (if (FL_X5_tourInPlace_22 ((x2.toInt - ((0 : Int32) : Int32).toInt).toNat + 1) f x1 x2 x3 (0 : Int32) (0 : Int32)).1 = x1 then x3 else (FL_X5_tourInPlace_11 n f x1 x2 (x3 + (1 : Int32)))))
def F_X5_tourInPlace (f : (Nat → Int32)) (ip : Int32) : Int32 := (FL_X5_tourInPlace_11 (((F_X0_get f (1 : Int32)).toInt - ((0 : Int32) : Int32).toInt).toNat + 1) f ip (F_X0_get f (1 : Int32)) (0 : Int32))
set_option maxHeartbeats 4000000 in
set_option maxRecDepth 100000 in
theorem lp_X5_tourInPlace_22 {p : Program} {l : Launch} {e : Env} {s : State} {m : MethodId} {args : Array Value} {below : List Frame} {meth : Method} {c : Code} {D : va_G} {k : tyK} {A : Nat → Prop} {Q : State → Prop} (hx : p.tables.exec = Jvm.exec) (hb : c.code = cX5_tourInPlace) (hml : c.maxLocals = 6) (hr : meth.sig.returnType = (some .int)) (hts : ∀ w ∈ wsX5_tourInPlace, w.before args s = true) (hown : s.vm.findClass RX5 = some m.cls) (hlk : meth.locks = false) (hA : ∀ q : Nat, s.heap.size ≤ q → A q) (hE : GE D k A s) (t b r : Nat) :
    ∀ (n : Nat) (f : (Nat → Int32)) (x1 : Int32) (x2 : Int32) (x3 : Int32) (x4 : Int32) (x5 : Int32) (RES : Int32 × Int32), FL_X5_tourInPlace_22 n f x1 x2 x3 x4 x5 = RES → ((x2 : Int32).toInt - (x5 : Int32).toInt).toNat < n → (∀ (H : Heap) (locs : List Loc), va_P D vwCl [(t, .inr (9, [.ref b])), (b, .inr (4, [.ref r])), (r, .inl (k.1, 628, .inl f))] H → va_D A [(t, .inr (9, [.ref b])), (b, .inr (4, [.ref r])), (r, .inl (k.1, 628, .inl f))] → va_S A s.heap H locs → ∀ ls : Array Slot, lv_has ls 6 [(0, .ref t), (1, .int x1), (2, .int x2), (3, .int x3), (4, .int RES.1), (5, .int RES.2)] → W p l e rm_X5_tourInPlace s m args below meth c H locs 0 0 Q (F0 m 54 ls [])) → ∀ (H : Heap) (locs : List Loc), va_P D vwCl [(t, .inr (9, [.ref b])), (b, .inr (4, [.ref r])), (r, .inl (k.1, 628, .inl f))] H → va_D A [(t, .inr (9, [.ref b])), (b, .inr (4, [.ref r])), (r, .inl (k.1, 628, .inl f))] → va_S A s.heap H locs → ∀ ls : Array Slot, lv_has ls 6 [(0, .ref t), (1, .int x1), (2, .int x2), (3, .int x3), (4, .int x4), (5, .int x5)] → W p l e rm_X5_tourInPlace s m args below meth c H locs 0 0 Q (F0 m 22 ls []) := by
  intro n
  induction n with
  | zero =>
    intro f x1 x2 x3 x4 x5 RES hF hm K H locs hP hD hS ls hl
    exact absurd hm (Nat.not_lt_zero _)
  | succ n ih =>
    intro f x1 x2 x3 x4 x5 RES hF hm K H locs hP hD hS ls hl
    rw [FL_X5_tourInPlace_22] at hF
    refine lv_iload hx hb dX5_tourInPlace_22 (lv_at hl 5 rfl) ?_
    refine lv_iload_n hx hb dX5_tourInPlace_24 rfl (lv_at hl 2 rfl) ?_
    refine lv_icmp_ge (tgt := 54) hx hb dX5_tourInPlace_25 (by decide) (fun c_4 => ?_) (fun c_4 => ?_)
    · rw [if_pos c_4] at hF
      subst hF
      exact K H locs hP hD hS ls (lv_sub hl [0, 1, 2, 3, 4, 5] rfl)
    · rw [if_neg c_4] at hF
      refine lv_iload hx hb dX5_tourInPlace_28 (lv_at hl 4 rfl) ?_
      refine lv_aload_n hx hb dX5_tourInPlace_30 rfl (lv_at hl 0 rfl) ?_
      refine lv_iload hx hb dX5_tourInPlace_31 (lv_at hl 5 rfl) ?_
      refine lv_iload_n hx hb dX5_tourInPlace_33 rfl (lv_at hl 3 rfl) ?_
      refine fc_ci (isC := [0, 1, 2]) (cells' := 0) (slots' := 0) (fc_runV (n := 2) (As := [.int x5, .int x3]) (rest := [.int x4]) (isC := [0, 1, 2]) (maxL := 7) ⟨hx, hb, hml, hown, hts⟩ (c_X5_comesBefore t b r f x5 x3 H.size) gX5_tourInPlace_X5_comesBefore rfl (by decide +kernel) rfl ⟨Nat.le_of_ble_eq_true rfl, Nat.le_of_ble_eq_true rfl⟩ ⟨Nat.le_of_ble_eq_true rfl, Nat.le_of_ble_eq_true rfl⟩ hE hP hD hS hA rfl rfl (va_recv hE.1 hP (ci := 9) (q0 := 0) rfl rfl) hl rfl (Nat.le_of_ble_eq_true rfl) dX5_tourInPlace_34) hP hD hS hA rfl (fun _ => rfl) rfl rfl (fun r_5 _ H locs hr_5 hP hD hS => ?_)
      obtain rfl : (F_X5_comesBefore f x5 x3) = r_5 := hr_5.symm
      dsimp only [fs, List.set] at hP hD
      have hP : va_P D vwCl [(t, .inr (9, [.ref b])), (b, .inr (4, [.ref r])), (r, .inl (k.1, 628, .inl f))] H := hP
      have hD : va_D A [(t, .inr (9, [.ref b])), (b, .inr (4, [.ref r])), (r, .inl (k.1, 628, .inl f))] := hD
      refine lv_if_eq (tgt := 44) hx hb dX5_tourInPlace_37 (by decide) (fun c_6 => ?_) (fun c_6 => ?_)
      · rw [if_pos c_6] at hF
        refine lv_iconst (v := 0) hx hb dX5_tourInPlace_44 (by decide) ?_
        refine lv_iadd hx hb dX5_tourInPlace_45 ?_
        refine lv_istore (lv' := [(4, .int (x4 + (0 : Int32))), (0, .ref t), (1, .int x1), (2, .int x2), (3, .int x3), (5, .int x5)]) hx hb dX5_tourInPlace_46 hl (by decide) rfl (fun ls hl => ?_)
        refine lv_iinc (v := (x5 + (1 : Int32))) (lv' := [(5, .int (x5 + (1 : Int32))), (4, .int (x4 + (0 : Int32))), (0, .ref t), (1, .int x1), (2, .int x2), (3, .int x3)]) hx hb dX5_tourInPlace_48 hl (k := 5) rfl rfl (by decide) rfl (fun ls hl => ?_)
        refine lv_goto (tgt := 22) hx hb dX5_tourInPlace_51 (by decide) ?_
        exact ih f x1 x2 x3 (x4 + (0 : Int32)) (x5 + (1 : Int32)) RES hF (lp_step c_4 hm) K H locs hP hD hS ls (lv_sub hl [2, 3, 4, 5, 1, 0] rfl)
      · rw [if_neg c_6] at hF
        refine lv_iconst (v := 1) hx hb dX5_tourInPlace_40 (by decide) ?_
        refine lv_goto (tgt := 45) hx hb dX5_tourInPlace_41 (by decide) ?_
        refine lv_iadd hx hb dX5_tourInPlace_45 ?_
        refine lv_istore (lv' := [(4, .int (x4 + (1 : Int32))), (0, .ref t), (1, .int x1), (2, .int x2), (3, .int x3), (5, .int x5)]) hx hb dX5_tourInPlace_46 hl (by decide) rfl (fun ls hl => ?_)
        refine lv_iinc (v := (x5 + (1 : Int32))) (lv' := [(5, .int (x5 + (1 : Int32))), (4, .int (x4 + (1 : Int32))), (0, .ref t), (1, .int x1), (2, .int x2), (3, .int x3)]) hx hb dX5_tourInPlace_48 hl (k := 5) rfl rfl (by decide) rfl (fun ls hl => ?_)
        refine lv_goto (tgt := 22) hx hb dX5_tourInPlace_51 (by decide) ?_
        exact ih f x1 x2 x3 (x4 + (1 : Int32)) (x5 + (1 : Int32)) RES hF (lp_step c_4 hm) K H locs hP hD hS ls (lv_sub hl [2, 3, 4, 5, 1, 0] rfl)
set_option maxHeartbeats 4000000 in
set_option maxRecDepth 100000 in
theorem lp_X5_tourInPlace_11 {p : Program} {l : Launch} {e : Env} {s : State} {m : MethodId} {args : Array Value} {below : List Frame} {meth : Method} {c : Code} {D : va_G} {k : tyK} {A : Nat → Prop} (hx : p.tables.exec = Jvm.exec) (hb : c.code = cX5_tourInPlace) (hml : c.maxLocals = 6) (hr : meth.sig.returnType = (some .int)) (hts : ∀ w ∈ wsX5_tourInPlace, w.before args s = true) (hown : s.vm.findClass RX5 = some m.cls) (hlk : meth.locks = false) (hA : ∀ q : Nat, s.heap.size ≤ q → A q) (hE : GE D k A s) (t b r : Nat) :
    ∀ (n : Nat) (f : (Nat → Int32)) (x1 : Int32) (x2 : Int32) (x3 : Int32) (RES : Int32), FL_X5_tourInPlace_11 n f x1 x2 x3 = RES → ((x2 : Int32).toInt - (x3 : Int32).toInt).toNat < n → ∀ (H : Heap) (locs : List Loc), va_P D vwCl [(t, .inr (9, [.ref b])), (b, .inr (4, [.ref r])), (r, .inl (k.1, 628, .inl f))] H → va_D A [(t, .inr (9, [.ref b])), (b, .inr (4, [.ref r])), (r, .inl (k.1, 628, .inl f))] → va_S A s.heap H locs → ∀ ls : Array Slot, lv_has ls 6 [(0, .ref t), (1, .int x1), (2, .int x2), (3, .int x3)] → W p l e rm_X5_tourInPlace s m args below meth c H locs 0 0 (MQ below (va_Qi (fun r (_ : Unit) => r = RES) (Bt D (fun _ => [(t, .inr (9, [.ref b])), (b, .inr (4, [.ref r])), (r, .inl (k.1, 628, .inl f))]) A) A) args s rm_X5_tourInPlace.cells rm_X5_tourInPlace.slots A) (F0 m 11 ls []) := by
  intro n
  induction n with
  | zero =>
    intro f x1 x2 x3 RES hF hm H locs hP hD hS ls hl
    exact absurd hm (Nat.not_lt_zero _)
  | succ n ih =>
    intro f x1 x2 x3 RES hF hm H locs hP hD hS ls hl
    rw [FL_X5_tourInPlace_11] at hF
    refine lv_iload_n hx hb dX5_tourInPlace_11 rfl (lv_at hl 3 rfl) ?_
    refine lv_iload_n hx hb dX5_tourInPlace_12 rfl (lv_at hl 2 rfl) ?_
    refine lv_icmp_ge (tgt := 68) hx hb dX5_tourInPlace_13 (by decide) (fun c_2 => ?_) (fun c_2 => ?_)
    · rw [if_pos c_2] at hF
      refine lv_iconst (v := -1) hx hb dX5_tourInPlace_68 (by decide) ?_
      subst hF
      exact fc_iret hx hb hr rfl hlk hS () rfl hP hD (by decide) (by decide) dX5_tourInPlace_69
    · rw [if_neg c_2] at hF
      refine lv_iconst (v := 0) hx hb dX5_tourInPlace_16 (by decide) ?_
      refine lv_istore (lv' := [(4, .int (0 : Int32)), (0, .ref t), (1, .int x1), (2, .int x2), (3, .int x3)]) hx hb dX5_tourInPlace_17 hl (by decide) rfl (fun ls hl => ?_)
      refine lv_iconst (v := 0) hx hb dX5_tourInPlace_19 (by decide) ?_
      refine lv_istore (lv' := [(5, .int (0 : Int32)), (4, .int (0 : Int32)), (0, .ref t), (1, .int x1), (2, .int x2), (3, .int x3)]) hx hb dX5_tourInPlace_20 hl (by decide) rfl (fun ls hl => ?_)
      refine lp_X5_tourInPlace_22 hx hb hml hr hts hown hlk hA hE t b r ((x2.toInt - ((0 : Int32) : Int32).toInt).toNat + 1) f x1 x2 x3 (0 : Int32) (0 : Int32) _ rfl (Nat.lt_succ_self _) (fun H locs hP hD hS ls hl => ?_) H locs hP hD hS ls (lv_sub hl [2, 3, 4, 5, 1, 0] rfl)
      have hl : lv_has ls 6 [(0, .ref t), (1, .int x1), (2, .int x2), (3, .int x3), (4, .int (FL_X5_tourInPlace_22 ((x2.toInt - ((0 : Int32) : Int32).toInt).toNat + 1) f x1 x2 x3 (0 : Int32) (0 : Int32)).1), (5, .int (FL_X5_tourInPlace_22 ((x2.toInt - ((0 : Int32) : Int32).toInt).toNat + 1) f x1 x2 x3 (0 : Int32) (0 : Int32)).2)] := hl
      have hP : va_P D vwCl [(t, .inr (9, [.ref b])), (b, .inr (4, [.ref r])), (r, .inl (k.1, 628, .inl f))] H := hP
      have hD : va_D A [(t, .inr (9, [.ref b])), (b, .inr (4, [.ref r])), (r, .inl (k.1, 628, .inl f))] := hD
      refine lv_iload hx hb dX5_tourInPlace_54 (lv_at hl 4 rfl) ?_
      refine lv_iload_n hx hb dX5_tourInPlace_56 rfl (lv_at hl 1 rfl) ?_
      refine lv_icmp_ne (tgt := 62) hx hb dX5_tourInPlace_57 (by decide) (fun c_3 => ?_) (fun c_3 => ?_)
      · rw [if_neg c_3] at hF
        refine lv_iinc (v := (x3 + (1 : Int32))) (lv' := [(3, .int (x3 + (1 : Int32))), (0, .ref t), (1, .int x1), (2, .int x2), (4, .int (FL_X5_tourInPlace_22 ((x2.toInt - ((0 : Int32) : Int32).toInt).toNat + 1) f x1 x2 x3 (0 : Int32) (0 : Int32)).1), (5, .int (FL_X5_tourInPlace_22 ((x2.toInt - ((0 : Int32) : Int32).toInt).toNat + 1) f x1 x2 x3 (0 : Int32) (0 : Int32)).2)]) hx hb dX5_tourInPlace_62 hl (k := 3) rfl rfl (by decide) rfl (fun ls hl => ?_)
        refine lv_goto (tgt := 11) hx hb dX5_tourInPlace_65 (by decide) ?_
        exact ih f x1 x2 (x3 + (1 : Int32)) RES hF (lp_step c_2 hm) H locs hP hD hS ls (lv_sub hl [1, 2, 3, 0] rfl)
      · rw [if_pos c_3] at hF
        refine lv_iload_n hx hb dX5_tourInPlace_60 rfl (lv_at hl 3 rfl) ?_
        subst hF
        exact fc_iret hx hb hr rfl hlk hS () rfl hP hD (by decide) (by decide) dX5_tourInPlace_61
set_option maxHeartbeats 4000000 in
set_option maxRecDepth 100000 in
theorem c_X5_tourInPlace {l : Launch} {D : va_G} {k : tyK} (t b r : Nat) (f : (Nat → Int32)) (ip : Int32) : FCi l yX5_tourInPlace wsX5_tourInPlace rm_X5_tourInPlace D k [.ref t, .int ip] [(t, .inr (9, [.ref b])), (b, .inr (4, [.ref r])), (r, .inl (k.1, 628, .inl f))] (fun r (_ : Unit) => r = (F_X5_tourInPlace f ip)) (fun _ => [(t, .inr (9, [.ref b])), (b, .inr (4, [.ref r])), (r, .inl (k.1, 628, .inl f))]) := by
  refine fc_start (cc := cX5_tourInPlace) (maxL := 6) (ret := (some .int)) (own := RX5) (Qc := fun A => va_Qi (fun r (_ : Unit) => r = (F_X5_tourInPlace f ip)) (Bt D (fun _ => [(t, .inr (9, [.ref b])), (b, .inr (4, [.ref r])), (r, .inl (k.1, 628, .inl f))]) A) A) (by decide) rfl rfl (Nat.le_of_ble_eq_true rfl) ?_
  intro p e s m below meth c A H hx hb hml hr hts hown hlk hname hA hP hE hD hS ls hl
  obtain ⟨RES, hF⟩ : ∃ z, (F_X5_tourInPlace f ip) = z := ⟨_, rfl⟩
  rw [hF]
  unfold F_X5_tourInPlace at hF
  have hl : lv_has ls 6 [(0, .ref t), (1, .int ip)] := hl
  obtain ⟨locs, hlocs⟩ : ∃ z : List Loc, z = [] := ⟨_, rfl⟩
  rw [← hlocs] at hS ⊢
  refine lv_aload_n hx hb dX5_tourInPlace_0 rfl (lv_at hl 0 rfl) ?_
  refine va_get (D := D) (ci := 9) (v := .ref b) (C := RX5) (T := TX5) (N := 1) hx hb hts in_X5_tourInPlace_X5 hown hE.1 hP 0 rfl rfl 0 (by decide) (hts _ lk_X5_tourInPlace_12) (fun _ h9 => h9) rfl dX5_tourInPlace_1 ?_
  refine lv_iconst (v := 1) hx hb dX5_tourInPlace_4 (by decide) ?_
  refine fc_ci (isC := [1, 2]) (cells' := 0) (slots' := 0) (fc_runV (n := 1) (As := [.int (1 : Int32)]) (rest := []) (isC := [1, 2]) (maxL := 2) ⟨hx, hb, hml, hown, hts⟩ (c_X0_get b r f (1 : Int32) H.size) gX5_tourInPlace_X0_get rfl (by decide +kernel) rfl ⟨Nat.le_of_ble_eq_true rfl, Nat.le_of_ble_eq_true rfl⟩ ⟨Nat.le_of_ble_eq_true rfl, Nat.le_of_ble_eq_true rfl⟩ hE hP hD hS hA rfl rfl (va_recv hE.1 hP (ci := 4) (q0 := 1) rfl rfl) hl rfl (Nat.le_of_ble_eq_true rfl) dX5_tourInPlace_5) hP hD hS hA rfl (fun _ => rfl) rfl rfl (fun r_1 _ H locs hr_1 hP hD hS => ?_)
  obtain rfl : (F_X0_get f (1 : Int32)) = r_1 := hr_1.symm
  dsimp only [fs, List.set] at hP hD
  have hP : va_P D vwCl [(t, .inr (9, [.ref b])), (b, .inr (4, [.ref r])), (r, .inl (k.1, 628, .inl f))] H := hP
  have hD : va_D A [(t, .inr (9, [.ref b])), (b, .inr (4, [.ref r])), (r, .inl (k.1, 628, .inl f))] := hD
  refine lv_istore_n (lv' := [(2, .int (F_X0_get f (1 : Int32))), (0, .ref t), (1, .int ip)]) hx hb dX5_tourInPlace_8 rfl hl (by decide) rfl (fun ls hl => ?_)
  refine lv_iconst (v := 0) hx hb dX5_tourInPlace_9 (by decide) ?_
  refine lv_istore_n (lv' := [(3, .int (0 : Int32)), (2, .int (F_X0_get f (1 : Int32))), (0, .ref t), (1, .int ip)]) hx hb dX5_tourInPlace_10 rfl hl (by decide) rfl (fun ls hl => ?_)
  exact lp_X5_tourInPlace_11 hx hb hml hr hts hown hlk hA hE t b r (((F_X0_get f (1 : Int32)).toInt - ((0 : Int32) : Int32).toInt).toNat + 1) f ip (F_X0_get f (1 : Int32)) (0 : Int32) RES hF (Nat.lt_succ_self _) H locs hP hD hS ls (lv_sub hl [2, 3, 1, 0] rfl)

abbrev rm_X5_sumOfTours : Room := { frames := 1, cells := 0, slots := 0, locals := 21 }
theorem in_X5_sumOfTours_X5 : ∀ w ∈ wsX50, w ∈ wsX5_sumOfTours := by decide +kernel
theorem lk_X5_sumOfTours_12 : (Cond.fieldLink RX5 12 "TheatreSaga$Theatre" "books" "LTheatreSaga$Books;") ∈ wsX5_sumOfTours := by decide +kernel
def FL_X5_sumOfTours_4 : Nat → (Nat → Int32) → Int32 → Int32 → Int32 → Int32
  | 0, f, x1, x2, x3 => 0
  | n + 1, f, x1, x2, x3 => (if (F_X0_get f (1 : Int32)) ≤ x3 then x2 else (FL_X5_sumOfTours_4 n f x1 (x2 + (F_X0_get f (F_X6_ofTour x3 x1))) (x3 + (1 : Int32))))
def F_X5_sumOfTours (f : (Nat → Int32)) (ix : Int32) : Int32 := (FL_X5_sumOfTours_4 (((F_X0_get f (1 : Int32)).toInt - ((0 : Int32) : Int32).toInt).toNat + 1) f ix (0 : Int32) (0 : Int32))
set_option maxHeartbeats 4000000 in
set_option maxRecDepth 100000 in
theorem lp_X5_sumOfTours_4 {p : Program} {l : Launch} {e : Env} {s : State} {m : MethodId} {args : Array Value} {below : List Frame} {meth : Method} {c : Code} {D : va_G} {k : tyK} {A : Nat → Prop} (hx : p.tables.exec = Jvm.exec) (hb : c.code = cX5_sumOfTours) (hml : c.maxLocals = 4) (hr : meth.sig.returnType = (some .int)) (hts : ∀ w ∈ wsX5_sumOfTours, w.before args s = true) (hown : s.vm.findClass RX5 = some m.cls) (hlk : meth.locks = false) (hA : ∀ q : Nat, s.heap.size ≤ q → A q) (hE : GE D k A s) (t b r : Nat) :
    ∀ (n : Nat) (f : (Nat → Int32)) (x1 : Int32) (x2 : Int32) (x3 : Int32) (RES : Int32), FL_X5_sumOfTours_4 n f x1 x2 x3 = RES → (((F_X0_get f (1 : Int32)) : Int32).toInt - (x3 : Int32).toInt).toNat < n → ∀ (H : Heap) (locs : List Loc), va_P D vwCl [(t, .inr (9, [.ref b])), (b, .inr (4, [.ref r])), (r, .inl (k.1, 628, .inl f))] H → va_D A [(t, .inr (9, [.ref b])), (b, .inr (4, [.ref r])), (r, .inl (k.1, 628, .inl f))] → va_S A s.heap H locs → ∀ ls : Array Slot, lv_has ls 4 [(0, .ref t), (1, .int x1), (2, .int x2), (3, .int x3)] → W p l e rm_X5_sumOfTours s m args below meth c H locs 0 0 (MQ below (va_Qi (fun r (_ : Unit) => r = RES) (Bt D (fun _ => [(t, .inr (9, [.ref b])), (b, .inr (4, [.ref r])), (r, .inl (k.1, 628, .inl f))]) A) A) args s rm_X5_sumOfTours.cells rm_X5_sumOfTours.slots A) (F0 m 4 ls []) := by
  intro n
  induction n with
  | zero =>
    intro f x1 x2 x3 RES hF hm H locs hP hD hS ls hl
    exact absurd hm (Nat.not_lt_zero _)
  | succ n ih =>
    intro f x1 x2 x3 RES hF hm H locs hP hD hS ls hl
    rw [FL_X5_sumOfTours_4] at hF
    refine lv_iload_n hx hb dX5_sumOfTours_4 rfl (lv_at hl 3 rfl) ?_
    refine lv_aload_n hx hb dX5_sumOfTours_5 rfl (lv_at hl 0 rfl) ?_
    refine va_get (D := D) (ci := 9) (v := .ref b) (C := RX5) (T := TX5) (N := 1) hx hb hts in_X5_sumOfTours_X5 hown hE.1 hP 0 rfl rfl 0 (by decide) (hts _ lk_X5_sumOfTours_12) (fun _ h9 => h9) rfl dX5_sumOfTours_6 ?_
    refine lv_iconst (v := 1) hx hb dX5_sumOfTours_9 (by decide) ?_
    refine fc_ci (isC := [1, 2]) (cells' := 0) (slots' := 0) (fc_runV (n := 1) (As := [.int (1 : Int32)]) (rest := [.int x3]) (isC := [1, 2]) (maxL := 2) ⟨hx, hb, hml, hown, hts⟩ (c_X0_get b r f (1 : Int32) H.size) gX5_sumOfTours_X0_get rfl (by decide +kernel) rfl ⟨Nat.le_of_ble_eq_true rfl, Nat.le_of_ble_eq_true rfl⟩ ⟨Nat.le_of_ble_eq_true rfl, Nat.le_of_ble_eq_true rfl⟩ hE hP hD hS hA rfl rfl (va_recv hE.1 hP (ci := 4) (q0 := 1) rfl rfl) hl rfl (Nat.le_of_ble_eq_true rfl) dX5_sumOfTours_10) hP hD hS hA rfl (fun _ => rfl) rfl rfl (fun r_1 _ H locs hr_1 hP hD hS => ?_)
    obtain rfl : (F_X0_get f (1 : Int32)) = r_1 := hr_1.symm
    dsimp only [fs, List.set] at hP hD
    have hP : va_P D vwCl [(t, .inr (9, [.ref b])), (b, .inr (4, [.ref r])), (r, .inl (k.1, 628, .inl f))] H := hP
    have hD : va_D A [(t, .inr (9, [.ref b])), (b, .inr (4, [.ref r])), (r, .inl (k.1, 628, .inl f))] := hD
    refine lv_icmp_ge (tgt := 37) hx hb dX5_sumOfTours_13 (by decide) (fun c_2 => ?_) (fun c_2 => ?_)
    · rw [if_pos c_2] at hF
      refine lv_iload_n hx hb dX5_sumOfTours_37 rfl (lv_at hl 2 rfl) ?_
      subst hF
      exact fc_iret hx hb hr rfl hlk hS () rfl hP hD (by decide) (by decide) dX5_sumOfTours_38
    · rw [if_neg c_2] at hF
      refine lv_iload_n hx hb dX5_sumOfTours_16 rfl (lv_at hl 2 rfl) ?_
      refine lv_aload_n hx hb dX5_sumOfTours_17 rfl (lv_at hl 0 rfl) ?_
      refine va_get (D := D) (ci := 9) (v := .ref b) (C := RX5) (T := TX5) (N := 1) hx hb hts in_X5_sumOfTours_X5 hown hE.1 hP 0 rfl rfl 0 (by decide) (hts _ lk_X5_sumOfTours_12) (fun _ h9 => h9) rfl dX5_sumOfTours_18 ?_
      refine lv_iload_n hx hb dX5_sumOfTours_21 rfl (lv_at hl 3 rfl) ?_
      refine lv_iload_n hx hb dX5_sumOfTours_22 rfl (lv_at hl 1 rfl) ?_
      refine fc_ci (isC := []) (cells' := 0) (slots' := 0) (fc_runSN (n := 2) (As := [.int x3, .int x1]) (rest := [.ref b, .int x2]) (isC := []) (maxL := 2) ⟨hx, hb, hml, hown, hts⟩ (c_X6_ofTour x3 x1 H.size) gX5_sumOfTours_X6_ofTour_n22 (by decide +kernel) (by decide +kernel) (by decide +kernel) rfl (by decide +kernel) rfl ⟨Nat.le_of_ble_eq_true rfl, Nat.le_of_ble_eq_true rfl⟩ ⟨Nat.le_of_ble_eq_true rfl, Nat.le_of_ble_eq_true rfl⟩ hE hP hD hS hA rfl rfl hl rfl (Nat.le_of_ble_eq_true rfl) dX5_sumOfTours_23) hP hD hS hA rfl (fun _ => rfl) rfl rfl (fun r_3 _ H locs hr_3 hP hD hS => ?_)
      obtain rfl : (F_X6_ofTour x3 x1) = r_3 := hr_3.symm
      dsimp only [fs, List.set] at hP hD
      have hP : va_P D vwCl [(t, .inr (9, [.ref b])), (b, .inr (4, [.ref r])), (r, .inl (k.1, 628, .inl f))] H := hP
      have hD : va_D A [(t, .inr (9, [.ref b])), (b, .inr (4, [.ref r])), (r, .inl (k.1, 628, .inl f))] := hD
      refine fc_ci (isC := [1, 2]) (cells' := 0) (slots' := 0) (fc_runV (n := 1) (As := [.int (F_X6_ofTour x3 x1)]) (rest := [.int x2]) (isC := [1, 2]) (maxL := 2) ⟨hx, hb, hml, hown, hts⟩ (c_X0_get b r f (F_X6_ofTour x3 x1) H.size) gX5_sumOfTours_X0_get rfl (by decide +kernel) rfl ⟨Nat.le_of_ble_eq_true rfl, Nat.le_of_ble_eq_true rfl⟩ ⟨Nat.le_of_ble_eq_true rfl, Nat.le_of_ble_eq_true rfl⟩ hE hP hD hS hA rfl rfl (va_recv hE.1 hP (ci := 4) (q0 := 1) rfl rfl) hl rfl (Nat.le_of_ble_eq_true rfl) dX5_sumOfTours_26) hP hD hS hA rfl (fun _ => rfl) rfl rfl (fun r_4 _ H locs hr_4 hP hD hS => ?_)
      obtain rfl : (F_X0_get f (F_X6_ofTour x3 x1)) = r_4 := hr_4.symm
      dsimp only [fs, List.set] at hP hD
      have hP : va_P D vwCl [(t, .inr (9, [.ref b])), (b, .inr (4, [.ref r])), (r, .inl (k.1, 628, .inl f))] H := hP
      have hD : va_D A [(t, .inr (9, [.ref b])), (b, .inr (4, [.ref r])), (r, .inl (k.1, 628, .inl f))] := hD
      refine lv_iadd hx hb dX5_sumOfTours_29 ?_
      refine lv_istore_n (lv' := [(2, .int (x2 + (F_X0_get f (F_X6_ofTour x3 x1)))), (0, .ref t), (1, .int x1), (3, .int x3)]) hx hb dX5_sumOfTours_30 rfl hl (by decide) rfl (fun ls hl => ?_)
      refine lv_iinc (v := (x3 + (1 : Int32))) (lv' := [(3, .int (x3 + (1 : Int32))), (2, .int (x2 + (F_X0_get f (F_X6_ofTour x3 x1)))), (0, .ref t), (1, .int x1)]) hx hb dX5_sumOfTours_31 hl (k := 3) rfl rfl (by decide) rfl (fun ls hl => ?_)
      refine lv_goto (tgt := 4) hx hb dX5_sumOfTours_34 (by decide) ?_
      exact ih f x1 (x2 + (F_X0_get f (F_X6_ofTour x3 x1))) (x3 + (1 : Int32)) RES hF (lp_step c_2 hm) H locs hP hD hS ls (lv_sub hl [2, 3, 1, 0] rfl)
set_option maxHeartbeats 4000000 in
set_option maxRecDepth 100000 in
theorem c_X5_sumOfTours {l : Launch} {D : va_G} {k : tyK} (t b r : Nat) (f : (Nat → Int32)) (ix : Int32) : FCi l yX5_sumOfTours wsX5_sumOfTours rm_X5_sumOfTours D k [.ref t, .int ix] [(t, .inr (9, [.ref b])), (b, .inr (4, [.ref r])), (r, .inl (k.1, 628, .inl f))] (fun r (_ : Unit) => r = (F_X5_sumOfTours f ix)) (fun _ => [(t, .inr (9, [.ref b])), (b, .inr (4, [.ref r])), (r, .inl (k.1, 628, .inl f))]) := by
  refine fc_start (cc := cX5_sumOfTours) (maxL := 4) (ret := (some .int)) (own := RX5) (Qc := fun A => va_Qi (fun r (_ : Unit) => r = (F_X5_sumOfTours f ix)) (Bt D (fun _ => [(t, .inr (9, [.ref b])), (b, .inr (4, [.ref r])), (r, .inl (k.1, 628, .inl f))]) A) A) (by decide) rfl rfl (Nat.le_of_ble_eq_true rfl) ?_
  intro p e s m below meth c A H hx hb hml hr hts hown hlk hname hA hP hE hD hS ls hl
  obtain ⟨RES, hF⟩ : ∃ z, (F_X5_sumOfTours f ix) = z := ⟨_, rfl⟩
  rw [hF]
  unfold F_X5_sumOfTours at hF
  have hl : lv_has ls 4 [(0, .ref t), (1, .int ix)] := hl
  obtain ⟨locs, hlocs⟩ : ∃ z : List Loc, z = [] := ⟨_, rfl⟩
  rw [← hlocs] at hS ⊢
  refine lv_iconst (v := 0) hx hb dX5_sumOfTours_0 (by decide) ?_
  refine lv_istore_n (lv' := [(2, .int (0 : Int32)), (0, .ref t), (1, .int ix)]) hx hb dX5_sumOfTours_1 rfl hl (by decide) rfl (fun ls hl => ?_)
  refine lv_iconst (v := 0) hx hb dX5_sumOfTours_2 (by decide) ?_
  refine lv_istore_n (lv' := [(3, .int (0 : Int32)), (2, .int (0 : Int32)), (0, .ref t), (1, .int ix)]) hx hb dX5_sumOfTours_3 rfl hl (by decide) rfl (fun ls hl => ?_)
  exact lp_X5_sumOfTours_4 hx hb hml hr hts hown hlk hA hE t b r (((F_X0_get f (1 : Int32)).toInt - ((0 : Int32) : Int32).toInt).toNat + 1) f ix (0 : Int32) (0 : Int32) RES hF (Nat.lt_succ_self _) H locs hP hD hS ls (lv_sub hl [2, 3, 1, 0] rfl)

abbrev rm_X5_passHours : Room := { frames := 4, cells := 0, slots := 0, locals := 94 }
theorem in_X5_passHours_X5 : ∀ w ∈ wsX50, w ∈ wsX5_passHours := by decide +kernel
theorem lk_X5_passHours_12 : (Cond.fieldLink RX5 12 "TheatreSaga$Theatre" "books" "LTheatreSaga$Books;") ∈ wsX5_passHours := by decide +kernel
def FL_X5_passHours_12 : Nat → (Nat → Int32) → Int32 → Int32 → Int32 → Int32 → Int32 × Int32 × (Nat → Int32)
  | 0, f, x1, x2, x3, x4 => (x2, x4, f)
  | n + 1, f, x1, x2, x3, x4 => (if (6 : Int32) ≤ x4 then (x2, x4, f) else (if (F_X5_isUnderWay f x4) = (0 : Int32) then (FL_X5_passHours_12 n f x1 x2 x3 (x4 + (1 : Int32))) else (if (F_X5_isUnderWay (F_X5_makeTry f x4) x4) = (0 : Int32) then (FL_X5_passHours_12 n (F_X5_makeTry f x4) x1 (x2 + (1 : Int32)) x3 (x4 + (1 : Int32))) else (FL_X5_passHours_12 n (F_X5_makeTry f x4) x1 (x2 + (0 : Int32)) x3 (x4 + (1 : Int32))))))
def FL_X5_passHours_4 : Nat → (Nat → Int32) → Int32 → Int32 → Int32 → Int32 × (Nat → Int32)
  | 0, f, x1, x2, x3 => (0, f)
  | n + 1, f, x1, x2, x3 => (if x1 ≤ x3 then (x2, f) else (FL_X5_passHours_4 n (F_X0_add ((FL_X5_passHours_12 (7) f x1 x2 x3 (0 : Int32)).2.2) (0 : Int32) (1 : Int32)) x1 ((FL_X5_passHours_12 (7) f x1 x2 x3 (0 : Int32)).1) (x3 + (1 : Int32))))
def F_X5_passHours (f : (Nat → Int32)) (ih : Int32) : Int32 × (Nat → Int32) := (FL_X5_passHours_4 ((ih.toInt - ((0 : Int32) : Int32).toInt).toNat + 1) f ih (0 : Int32) (0 : Int32))
set_option maxHeartbeats 4000000 in
set_option maxRecDepth 100000 in
theorem lp_X5_passHours_12 {p : Program} {l : Launch} {e : Env} {s : State} {m : MethodId} {args : Array Value} {below : List Frame} {meth : Method} {c : Code} {D : va_G} {k : tyK} {A : Nat → Prop} {Q : State → Prop} (hx : p.tables.exec = Jvm.exec) (hb : c.code = cX5_passHours) (hml : c.maxLocals = 5) (hr : meth.sig.returnType = (some .int)) (hts : ∀ w ∈ wsX5_passHours, w.before args s = true) (hown : s.vm.findClass RX5 = some m.cls) (hlk : meth.locks = false) (hA : ∀ q : Nat, s.heap.size ≤ q → A q) (hE : GE D k A s) (t b r : Nat) :
    ∀ (n : Nat) (f : (Nat → Int32)) (x1 : Int32) (x2 : Int32) (x3 : Int32) (x4 : Int32) (RES : Int32 × Int32 × (Nat → Int32)), FL_X5_passHours_12 n f x1 x2 x3 x4 = RES → ((6 : Int32).toInt - (x4 : Int32).toInt).toNat < n → (∀ (H : Heap) (locs : List Loc), va_P D vwCl [(t, .inr (9, [.ref b])), (b, .inr (4, [.ref r])), (r, .inl (k.1, 628, .inl RES.2.2))] H → va_D A [(t, .inr (9, [.ref b])), (b, .inr (4, [.ref r])), (r, .inl (k.1, 628, .inl RES.2.2))] → va_S A s.heap H locs → ∀ ls : Array Slot, lv_has ls 5 [(0, .ref t), (1, .int x1), (2, .int RES.1), (3, .int x3), (4, .int RES.2.1)] → W p l e rm_X5_passHours s m args below meth c H locs 0 0 Q (F0 m 57 ls [])) → ∀ (H : Heap) (locs : List Loc), va_P D vwCl [(t, .inr (9, [.ref b])), (b, .inr (4, [.ref r])), (r, .inl (k.1, 628, .inl f))] H → va_D A [(t, .inr (9, [.ref b])), (b, .inr (4, [.ref r])), (r, .inl (k.1, 628, .inl f))] → va_S A s.heap H locs → ∀ ls : Array Slot, lv_has ls 5 [(0, .ref t), (1, .int x1), (2, .int x2), (3, .int x3), (4, .int x4)] → W p l e rm_X5_passHours s m args below meth c H locs 0 0 Q (F0 m 12 ls []) := by
  intro n
  induction n with
  | zero =>
    intro f x1 x2 x3 x4 RES hF hm K H locs hP hD hS ls hl
    exact absurd hm (Nat.not_lt_zero _)
  | succ n ih =>
    intro f x1 x2 x3 x4 RES hF hm K H locs hP hD hS ls hl
    rw [FL_X5_passHours_12] at hF
    refine lv_iload hx hb dX5_passHours_12 (lv_at hl 4 rfl) ?_
    refine lv_bipush (v := 6) hx hb dX5_passHours_14 (by decide) ?_
    refine lv_icmp_ge (tgt := 57) hx hb dX5_passHours_16 (by decide) (fun c_2 => ?_) (fun c_2 => ?_)
    · rw [if_pos c_2] at hF
      subst hF
      exact K H locs hP hD hS ls (lv_sub hl [0, 1, 2, 3, 4] rfl)
    · rw [if_neg c_2] at hF
      refine lv_aload_n hx hb dX5_passHours_19 rfl (lv_at hl 0 rfl) ?_
      refine lv_iload hx hb dX5_passHours_20 (lv_at hl 4 rfl) ?_
      refine fc_ci (isC := [0, 1, 2]) (cells' := 0) (slots' := 0) (fc_runV (n := 1) (As := [.int x4]) (rest := []) (isC := [0, 1, 2]) (maxL := 3) ⟨hx, hb, hml, hown, hts⟩ (c_X5_isUnderWay t b r f x4 H.size) gX5_passHours_X5_isUnderWay rfl (by decide +kernel) rfl ⟨Nat.le_of_ble_eq_true rfl, Nat.le_of_ble_eq_true rfl⟩ ⟨Nat.le_of_ble_eq_true rfl, Nat.le_of_ble_eq_true rfl⟩ hE hP hD hS hA rfl rfl (va_recv hE.1 hP (ci := 9) (q0 := 0) rfl rfl) hl rfl (Nat.le_of_ble_eq_true rfl) dX5_passHours_22) hP hD hS hA rfl (fun _ => rfl) rfl rfl (fun r_3 _ H locs hr_3 hP hD hS => ?_)
      obtain rfl : (F_X5_isUnderWay f x4) = r_3 := hr_3.symm
      dsimp only [fs, List.set] at hP hD
      have hP : va_P D vwCl [(t, .inr (9, [.ref b])), (b, .inr (4, [.ref r])), (r, .inl (k.1, 628, .inl f))] H := hP
      have hD : va_D A [(t, .inr (9, [.ref b])), (b, .inr (4, [.ref r])), (r, .inl (k.1, 628, .inl f))] := hD
      refine lv_if_eq (tgt := 51) hx hb dX5_passHours_25 (by decide) (fun c_4 => ?_) (fun c_4 => ?_)
      · rw [if_pos c_4] at hF
        refine lv_iinc (v := (x4 + (1 : Int32))) (lv' := [(4, .int (x4 + (1 : Int32))), (0, .ref t), (1, .int x1), (2, .int x2), (3, .int x3)]) hx hb dX5_passHours_51 hl (k := 4) rfl rfl (by decide) rfl (fun ls hl => ?_)
        refine lv_goto (tgt := 12) hx hb dX5_passHours_54 (by decide) ?_
        exact ih f x1 x2 x3 (x4 + (1 : Int32)) RES hF (lp_step c_2 hm) K H locs hP hD hS ls (lv_sub hl [1, 2, 3, 4, 0] rfl)
      · rw [if_neg c_4] at hF
        refine lv_aload_n hx hb dX5_passHours_28 rfl (lv_at hl 0 rfl) ?_
        refine lv_iload hx hb dX5_passHours_29 (lv_at hl 4 rfl) ?_
        refine fc_cv (isC := [0, 1, 2]) (cells' := 0) (slots' := 0) (fc_runV (n := 1) (As := [.int x4]) (rest := []) (isC := [0, 1, 2]) (maxL := 3) ⟨hx, hb, hml, hown, hts⟩ (c_X5_makeTry t b r f x4 H.size) gX5_passHours_X5_makeTry rfl (by decide +kernel) rfl ⟨Nat.le_of_ble_eq_true rfl, Nat.le_of_ble_eq_true rfl⟩ ⟨Nat.le_of_ble_eq_true rfl, Nat.le_of_ble_eq_true rfl⟩ hE hP hD hS hA rfl rfl (va_recv hE.1 hP (ci := 9) (q0 := 0) rfl rfl) hl rfl (Nat.le_of_ble_eq_true rfl) dX5_passHours_31) hP hD hS hA rfl (fun _ => rfl) rfl rfl (fun _ H locs _ hP hD hS => ?_)
        dsimp only [fs, List.set] at hP hD
        have hP : va_P D vwCl [(t, .inr (9, [.ref b])), (b, .inr (4, [.ref r])), (r, .inl (k.1, 628, .inl (F_X5_makeTry f x4)))] H := hP
        have hD : va_D A [(t, .inr (9, [.ref b])), (b, .inr (4, [.ref r])), (r, .inl (k.1, 628, .inl (F_X5_makeTry f x4)))] := hD
        refine lv_iload_n hx hb dX5_passHours_34 rfl (lv_at hl 2 rfl) ?_
        refine lv_aload_n hx hb dX5_passHours_35 rfl (lv_at hl 0 rfl) ?_
        refine lv_iload hx hb dX5_passHours_36 (lv_at hl 4 rfl) ?_
        refine fc_ci (isC := [0, 1, 2]) (cells' := 0) (slots' := 0) (fc_runV (n := 1) (As := [.int x4]) (rest := [.int x2]) (isC := [0, 1, 2]) (maxL := 3) ⟨hx, hb, hml, hown, hts⟩ (c_X5_isUnderWay t b r (F_X5_makeTry f x4) x4 H.size) gX5_passHours_X5_isUnderWay rfl (by decide +kernel) rfl ⟨Nat.le_of_ble_eq_true rfl, Nat.le_of_ble_eq_true rfl⟩ ⟨Nat.le_of_ble_eq_true rfl, Nat.le_of_ble_eq_true rfl⟩ hE hP hD hS hA rfl rfl (va_recv hE.1 hP (ci := 9) (q0 := 0) rfl rfl) hl rfl (Nat.le_of_ble_eq_true rfl) dX5_passHours_38) hP hD hS hA rfl (fun _ => rfl) rfl rfl (fun r_5 _ H locs hr_5 hP hD hS => ?_)
        obtain rfl : (F_X5_isUnderWay (F_X5_makeTry f x4) x4) = r_5 := hr_5.symm
        dsimp only [fs, List.set] at hP hD
        have hP : va_P D vwCl [(t, .inr (9, [.ref b])), (b, .inr (4, [.ref r])), (r, .inl (k.1, 628, .inl (F_X5_makeTry f x4)))] H := hP
        have hD : va_D A [(t, .inr (9, [.ref b])), (b, .inr (4, [.ref r])), (r, .inl (k.1, 628, .inl (F_X5_makeTry f x4)))] := hD
        refine lv_if_eq (tgt := 48) hx hb dX5_passHours_41 (by decide) (fun c_6 => ?_) (fun c_6 => ?_)
        · rw [if_pos c_6] at hF
          refine lv_iconst (v := 1) hx hb dX5_passHours_48 (by decide) ?_
          refine lv_iadd hx hb dX5_passHours_49 ?_
          refine lv_istore_n (lv' := [(2, .int (x2 + (1 : Int32))), (0, .ref t), (1, .int x1), (3, .int x3), (4, .int x4)]) hx hb dX5_passHours_50 rfl hl (by decide) rfl (fun ls hl => ?_)
          refine lv_iinc (v := (x4 + (1 : Int32))) (lv' := [(4, .int (x4 + (1 : Int32))), (2, .int (x2 + (1 : Int32))), (0, .ref t), (1, .int x1), (3, .int x3)]) hx hb dX5_passHours_51 hl (k := 4) rfl rfl (by decide) rfl (fun ls hl => ?_)
          refine lv_goto (tgt := 12) hx hb dX5_passHours_54 (by decide) ?_
          exact ih (F_X5_makeTry f x4) x1 (x2 + (1 : Int32)) x3 (x4 + (1 : Int32)) RES hF (lp_step c_2 hm) K H locs hP hD hS ls (lv_sub hl [2, 3, 1, 4, 0] rfl)
        · rw [if_neg c_6] at hF
          refine lv_iconst (v := 0) hx hb dX5_passHours_44 (by decide) ?_
          refine lv_goto (tgt := 49) hx hb dX5_passHours_45 (by decide) ?_
          refine lv_iadd hx hb dX5_passHours_49 ?_
          refine lv_istore_n (lv' := [(2, .int (x2 + (0 : Int32))), (0, .ref t), (1, .int x1), (3, .int x3), (4, .int x4)]) hx hb dX5_passHours_50 rfl hl (by decide) rfl (fun ls hl => ?_)
          refine lv_iinc (v := (x4 + (1 : Int32))) (lv' := [(4, .int (x4 + (1 : Int32))), (2, .int (x2 + (0 : Int32))), (0, .ref t), (1, .int x1), (3, .int x3)]) hx hb dX5_passHours_51 hl (k := 4) rfl rfl (by decide) rfl (fun ls hl => ?_)
          refine lv_goto (tgt := 12) hx hb dX5_passHours_54 (by decide) ?_
          exact ih (F_X5_makeTry f x4) x1 (x2 + (0 : Int32)) x3 (x4 + (1 : Int32)) RES hF (lp_step c_2 hm) K H locs hP hD hS ls (lv_sub hl [2, 3, 1, 4, 0] rfl)
set_option maxHeartbeats 4000000 in
set_option maxRecDepth 100000 in
theorem lp_X5_passHours_4 {p : Program} {l : Launch} {e : Env} {s : State} {m : MethodId} {args : Array Value} {below : List Frame} {meth : Method} {c : Code} {D : va_G} {k : tyK} {A : Nat → Prop} (hx : p.tables.exec = Jvm.exec) (hb : c.code = cX5_passHours) (hml : c.maxLocals = 5) (hr : meth.sig.returnType = (some .int)) (hts : ∀ w ∈ wsX5_passHours, w.before args s = true) (hown : s.vm.findClass RX5 = some m.cls) (hlk : meth.locks = false) (hA : ∀ q : Nat, s.heap.size ≤ q → A q) (hE : GE D k A s) (t b r : Nat) :
    ∀ (n : Nat) (f : (Nat → Int32)) (x1 : Int32) (x2 : Int32) (x3 : Int32) (RES : Int32 × (Nat → Int32)), FL_X5_passHours_4 n f x1 x2 x3 = RES → ((x1 : Int32).toInt - (x3 : Int32).toInt).toNat < n → ∀ (H : Heap) (locs : List Loc), va_P D vwCl [(t, .inr (9, [.ref b])), (b, .inr (4, [.ref r])), (r, .inl (k.1, 628, .inl f))] H → va_D A [(t, .inr (9, [.ref b])), (b, .inr (4, [.ref r])), (r, .inl (k.1, 628, .inl f))] → va_S A s.heap H locs → ∀ ls : Array Slot, lv_has ls 5 [(0, .ref t), (1, .int x1), (2, .int x2), (3, .int x3)] → W p l e rm_X5_passHours s m args below meth c H locs 0 0 (MQ below (va_Qi (fun r (_ : Unit) => r = RES.1) (Bt D (fun _ => [(t, .inr (9, [.ref b])), (b, .inr (4, [.ref r])), (r, .inl (k.1, 628, .inl RES.2))]) A) A) args s rm_X5_passHours.cells rm_X5_passHours.slots A) (F0 m 4 ls []) := by
  intro n
  induction n with
  | zero =>
    intro f x1 x2 x3 RES hF hm H locs hP hD hS ls hl
    exact absurd hm (Nat.not_lt_zero _)
  | succ n ih =>
    intro f x1 x2 x3 RES hF hm H locs hP hD hS ls hl
    rw [FL_X5_passHours_4] at hF
    refine lv_iload_n hx hb dX5_passHours_4 rfl (lv_at hl 3 rfl) ?_
    refine lv_iload_n hx hb dX5_passHours_5 rfl (lv_at hl 1 rfl) ?_
    refine lv_icmp_ge (tgt := 72) hx hb dX5_passHours_6 (by decide) (fun c_1 => ?_) (fun c_1 => ?_)
    · rw [if_pos c_1] at hF
      refine lv_iload_n hx hb dX5_passHours_72 rfl (lv_at hl 2 rfl) ?_
      subst hF
      exact fc_iret hx hb hr rfl hlk hS () rfl hP hD (by decide) (by decide) dX5_passHours_73
    · rw [if_neg c_1] at hF
      refine lv_iconst (v := 0) hx hb dX5_passHours_9 (by decide) ?_
      refine lv_istore (lv' := [(4, .int (0 : Int32)), (0, .ref t), (1, .int x1), (2, .int x2), (3, .int x3)]) hx hb dX5_passHours_10 hl (by decide) rfl (fun ls hl => ?_)
      refine lp_X5_passHours_12 hx hb hml hr hts hown hlk hA hE t b r (7) f x1 x2 x3 (0 : Int32) _ rfl (by decide) (fun H locs hP hD hS ls hl => ?_) H locs hP hD hS ls (lv_sub hl [1, 2, 3, 4, 0] rfl)
      have hl : lv_has ls 5 [(0, .ref t), (1, .int x1), (2, .int (FL_X5_passHours_12 (7) f x1 x2 x3 (0 : Int32)).1), (3, .int x3), (4, .int (FL_X5_passHours_12 (7) f x1 x2 x3 (0 : Int32)).2.1)] := hl
      have hP : va_P D vwCl [(t, .inr (9, [.ref b])), (b, .inr (4, [.ref r])), (r, .inl (k.1, 628, .inl (FL_X5_passHours_12 (7) f x1 x2 x3 (0 : Int32)).2.2))] H := hP
      have hD : va_D A [(t, .inr (9, [.ref b])), (b, .inr (4, [.ref r])), (r, .inl (k.1, 628, .inl (FL_X5_passHours_12 (7) f x1 x2 x3 (0 : Int32)).2.2))] := hD
      refine lv_aload_n hx hb dX5_passHours_57 rfl (lv_at hl 0 rfl) ?_
      refine va_get (D := D) (ci := 9) (v := .ref b) (C := RX5) (T := TX5) (N := 1) hx hb hts in_X5_passHours_X5 hown hE.1 hP 0 rfl rfl 0 (by decide) (hts _ lk_X5_passHours_12) (fun _ h9 => h9) rfl dX5_passHours_58 ?_
      refine lv_iconst (v := 0) hx hb dX5_passHours_61 (by decide) ?_
      refine lv_iconst (v := 1) hx hb dX5_passHours_62 (by decide) ?_
      refine fc_cv (isC := [1, 2]) (cells' := 0) (slots' := 0) (fc_runV (n := 2) (As := [.int (0 : Int32), .int (1 : Int32)]) (rest := []) (isC := [1, 2]) (maxL := 3) ⟨hx, hb, hml, hown, hts⟩ (c_X0_add b r ((FL_X5_passHours_12 (7) f x1 x2 x3 (0 : Int32)).2.2) (0 : Int32) (1 : Int32) H.size) gX5_passHours_X0_add rfl (by decide +kernel) rfl ⟨Nat.le_of_ble_eq_true rfl, Nat.le_of_ble_eq_true rfl⟩ ⟨Nat.le_of_ble_eq_true rfl, Nat.le_of_ble_eq_true rfl⟩ hE hP hD hS hA rfl rfl (va_recv hE.1 hP (ci := 4) (q0 := 1) rfl rfl) hl rfl (Nat.le_of_ble_eq_true rfl) dX5_passHours_63) hP hD hS hA rfl (fun _ => rfl) rfl rfl (fun _ H locs _ hP hD hS => ?_)
      dsimp only [fs, List.set] at hP hD
      have hP : va_P D vwCl [(t, .inr (9, [.ref b])), (b, .inr (4, [.ref r])), (r, .inl (k.1, 628, .inl (F_X0_add ((FL_X5_passHours_12 (7) f x1 x2 x3 (0 : Int32)).2.2) (0 : Int32) (1 : Int32))))] H := hP
      have hD : va_D A [(t, .inr (9, [.ref b])), (b, .inr (4, [.ref r])), (r, .inl (k.1, 628, .inl (F_X0_add ((FL_X5_passHours_12 (7) f x1 x2 x3 (0 : Int32)).2.2) (0 : Int32) (1 : Int32))))] := hD
      refine lv_iinc (v := (x3 + (1 : Int32))) (lv' := [(3, .int (x3 + (1 : Int32))), (0, .ref t), (1, .int x1), (2, .int (FL_X5_passHours_12 (7) f x1 x2 x3 (0 : Int32)).1), (4, .int (FL_X5_passHours_12 (7) f x1 x2 x3 (0 : Int32)).2.1)]) hx hb dX5_passHours_66 hl (k := 3) rfl rfl (by decide) rfl (fun ls hl => ?_)
      refine lv_goto (tgt := 4) hx hb dX5_passHours_69 (by decide) ?_
      exact ih (F_X0_add ((FL_X5_passHours_12 (7) f x1 x2 x3 (0 : Int32)).2.2) (0 : Int32) (1 : Int32)) x1 ((FL_X5_passHours_12 (7) f x1 x2 x3 (0 : Int32)).1) (x3 + (1 : Int32)) RES hF (lp_step c_1 hm) H locs hP hD hS ls (lv_sub hl [1, 2, 3, 0] rfl)
set_option maxHeartbeats 4000000 in
set_option maxRecDepth 100000 in
theorem c_X5_passHours {l : Launch} {D : va_G} {k : tyK} (t b r : Nat) (f : (Nat → Int32)) (ih : Int32) : FCi l yX5_passHours wsX5_passHours rm_X5_passHours D k [.ref t, .int ih] [(t, .inr (9, [.ref b])), (b, .inr (4, [.ref r])), (r, .inl (k.1, 628, .inl f))] (fun r (_ : Unit) => r = (F_X5_passHours f ih).1) (fun _ => [(t, .inr (9, [.ref b])), (b, .inr (4, [.ref r])), (r, .inl (k.1, 628, .inl (F_X5_passHours f ih).2))]) := by
  refine fc_start (cc := cX5_passHours) (maxL := 5) (ret := (some .int)) (own := RX5) (Qc := fun A => va_Qi (fun r (_ : Unit) => r = (F_X5_passHours f ih).1) (Bt D (fun _ => [(t, .inr (9, [.ref b])), (b, .inr (4, [.ref r])), (r, .inl (k.1, 628, .inl (F_X5_passHours f ih).2))]) A) A) (by decide) rfl rfl (Nat.le_of_ble_eq_true rfl) ?_
  intro p e s m below meth c A H hx hb hml hr hts hown hlk hname hA hP hE hD hS ls hl
  obtain ⟨RES, hF⟩ : ∃ z, (F_X5_passHours f ih) = z := ⟨_, rfl⟩
  rw [hF]
  unfold F_X5_passHours at hF
  have hl : lv_has ls 5 [(0, .ref t), (1, .int ih)] := hl
  obtain ⟨locs, hlocs⟩ : ∃ z : List Loc, z = [] := ⟨_, rfl⟩
  rw [← hlocs] at hS ⊢
  refine lv_iconst (v := 0) hx hb dX5_passHours_0 (by decide) ?_
  refine lv_istore_n (lv' := [(2, .int (0 : Int32)), (0, .ref t), (1, .int ih)]) hx hb dX5_passHours_1 rfl hl (by decide) rfl (fun ls hl => ?_)
  refine lv_iconst (v := 0) hx hb dX5_passHours_2 (by decide) ?_
  refine lv_istore_n (lv' := [(3, .int (0 : Int32)), (2, .int (0 : Int32)), (0, .ref t), (1, .int ih)]) hx hb dX5_passHours_3 rfl hl (by decide) rfl (fun ls hl => ?_)
  exact lp_X5_passHours_4 hx hb hml hr hts hown hlk hA hE t b r ((ih.toInt - ((0 : Int32) : Int32).toInt).toNat + 1) f ih (0 : Int32) (0 : Int32) RES hF (Nat.lt_succ_self _) H locs hP hD hS ls (lv_sub hl [2, 3, 1, 0] rfl)

abbrev rm_X5_hoursToTheEnd : Room := { frames := 5, cells := 0, slots := 0, locals := 118 }
def FL_X5_hoursToTheEnd_2 : Nat → (Nat → Int32) → Int32 → Int32 → Int32 × (Nat → Int32)
  | 0, f, x1, x2 => (0, f)
  | n + 1, f, x1, x2 => (if (60 : Int32) < x2 then ((-1 : Int32), f) else (if (F_X5_isUnderWay f x1) = (0 : Int32) then (x2, f) else (letp (F_X5_passHours f (1 : Int32)) (fun (p_4 : Int32 × (Nat → Int32)) => (FL_X5_hoursToTheEnd_2 n p_4.2 x1 (x2 + (1 : Int32)))))))
def F_X5_hoursToTheEnd (f : (Nat → Int32)) (it : Int32) : Int32 × (Nat → Int32) := (FL_X5_hoursToTheEnd_2 (62) f it (0 : Int32))
set_option maxHeartbeats 4000000 in
set_option maxRecDepth 100000 in
theorem lp_X5_hoursToTheEnd_2 {p : Program} {l : Launch} {e : Env} {s : State} {m : MethodId} {args : Array Value} {below : List Frame} {meth : Method} {c : Code} {D : va_G} {k : tyK} {A : Nat → Prop} (hx : p.tables.exec = Jvm.exec) (hb : c.code = cX5_hoursToTheEnd) (hml : c.maxLocals = 3) (hr : meth.sig.returnType = (some .int)) (hts : ∀ w ∈ wsX5_hoursToTheEnd, w.before args s = true) (hown : s.vm.findClass RX5 = some m.cls) (hlk : meth.locks = false) (hA : ∀ q : Nat, s.heap.size ≤ q → A q) (hE : GE D k A s) (t b r : Nat) :
    ∀ (n : Nat) (f : (Nat → Int32)) (x1 : Int32) (x2 : Int32) (RES : Int32 × (Nat → Int32)), FL_X5_hoursToTheEnd_2 n f x1 x2 = RES → ((60 : Int32).toInt + 1 - (x2 : Int32).toInt).toNat < n → ∀ (H : Heap) (locs : List Loc), va_P D vwCl [(t, .inr (9, [.ref b])), (b, .inr (4, [.ref r])), (r, .inl (k.1, 628, .inl f))] H → va_D A [(t, .inr (9, [.ref b])), (b, .inr (4, [.ref r])), (r, .inl (k.1, 628, .inl f))] → va_S A s.heap H locs → ∀ ls : Array Slot, lv_has ls 3 [(0, .ref t), (1, .int x1), (2, .int x2)] → W p l e rm_X5_hoursToTheEnd s m args below meth c H locs 0 0 (MQ below (va_Qi (fun r (_ : Unit) => r = RES.1) (Bt D (fun _ => [(t, .inr (9, [.ref b])), (b, .inr (4, [.ref r])), (r, .inl (k.1, 628, .inl RES.2))]) A) A) args s rm_X5_hoursToTheEnd.cells rm_X5_hoursToTheEnd.slots A) (F0 m 2 ls []) := by
  intro n
  induction n with
  | zero =>
    intro f x1 x2 RES hF hm H locs hP hD hS ls hl
    exact absurd hm (Nat.not_lt_zero _)
  | succ n ih =>
    intro f x1 x2 RES hF hm H locs hP hD hS ls hl
    rw [FL_X5_hoursToTheEnd_2] at hF
    refine lv_iload_n hx hb dX5_hoursToTheEnd_2 rfl (lv_at hl 2 rfl) ?_
    refine lv_bipush (v := 60) hx hb dX5_hoursToTheEnd_3 (by decide) ?_
    refine lv_icmp_gt (tgt := 30) hx hb dX5_hoursToTheEnd_5 (by decide) (fun c_1 => ?_) (fun c_1 => ?_)
    · rw [if_pos c_1] at hF
      refine lv_iconst (v := -1) hx hb dX5_hoursToTheEnd_30 (by decide) ?_
      subst hF
      exact fc_iret hx hb hr rfl hlk hS () rfl hP hD (by decide) (by decide) dX5_hoursToTheEnd_31
    · rw [if_neg c_1] at hF
      refine lv_aload_n hx hb dX5_hoursToTheEnd_8 rfl (lv_at hl 0 rfl) ?_
      refine lv_iload_n hx hb dX5_hoursToTheEnd_9 rfl (lv_at hl 1 rfl) ?_
      refine fc_ci (isC := [0, 1, 2]) (cells' := 0) (slots' := 0) (fc_runV (n := 1) (As := [.int x1]) (rest := []) (isC := [0, 1, 2]) (maxL := 3) ⟨hx, hb, hml, hown, hts⟩ (c_X5_isUnderWay t b r f x1 H.size) gX5_hoursToTheEnd_X5_isUnderWay rfl (by decide +kernel) rfl ⟨Nat.le_of_ble_eq_true rfl, Nat.le_of_ble_eq_true rfl⟩ ⟨Nat.le_of_ble_eq_true rfl, Nat.le_of_ble_eq_true rfl⟩ hE hP hD hS hA rfl rfl (va_recv hE.1 hP (ci := 9) (q0 := 0) rfl rfl) hl rfl (Nat.le_of_ble_eq_true rfl) dX5_hoursToTheEnd_10) hP hD hS hA rfl (fun _ => rfl) rfl rfl (fun r_2 _ H locs hr_2 hP hD hS => ?_)
      obtain rfl : (F_X5_isUnderWay f x1) = r_2 := hr_2.symm
      dsimp only [fs, List.set] at hP hD
      have hP : va_P D vwCl [(t, .inr (9, [.ref b])), (b, .inr (4, [.ref r])), (r, .inl (k.1, 628, .inl f))] H := hP
      have hD : va_D A [(t, .inr (9, [.ref b])), (b, .inr (4, [.ref r])), (r, .inl (k.1, 628, .inl f))] := hD
      refine lv_if_ne (tgt := 18) hx hb dX5_hoursToTheEnd_13 (by decide) (fun c_3 => ?_) (fun c_3 => ?_)
      · rw [if_neg c_3] at hF
        refine lv_aload_n hx hb dX5_hoursToTheEnd_18 rfl (lv_at hl 0 rfl) ?_
        refine lv_iconst (v := 1) hx hb dX5_hoursToTheEnd_19 (by decide) ?_
        generalize hp_4 : (F_X5_passHours f (1 : Int32)) = p_4 at hF
        rw [letp_eq] at hF
        refine fc_ci (isC := [0, 1, 2]) (cells' := 0) (slots' := 0) (fc_runV (n := 1) (As := [.int (1 : Int32)]) (rest := []) (isC := [0, 1, 2]) (maxL := 5) ⟨hx, hb, hml, hown, hts⟩ (c_X5_passHours t b r f (1 : Int32) H.size) gX5_hoursToTheEnd_X5_passHours rfl (by decide +kernel) rfl ⟨Nat.le_of_ble_eq_true rfl, Nat.le_of_ble_eq_true rfl⟩ ⟨Nat.le_of_ble_eq_true rfl, Nat.le_of_ble_eq_true rfl⟩ hE hP hD hS hA rfl rfl (va_recv hE.1 hP (ci := 9) (q0 := 0) rfl rfl) hl rfl (Nat.le_of_ble_eq_true rfl) dX5_hoursToTheEnd_20) hP hD hS hA rfl (fun _ => rfl) rfl rfl (fun r_5 _ H locs hr_5 hP hD hS => ?_)
        rw [hp_4] at hr_5 hP hD
        obtain rfl : p_4.1 = r_5 := hr_5.symm
        dsimp only [fs, List.set] at hP hD
        have hP : va_P D vwCl [(t, .inr (9, [.ref b])), (b, .inr (4, [.ref r])), (r, .inl (k.1, 628, .inl p_4.2))] H := hP
        have hD : va_D A [(t, .inr (9, [.ref b])), (b, .inr (4, [.ref r])), (r, .inl (k.1, 628, .inl p_4.2))] := hD
        refine lv_pop hx hb dX5_hoursToTheEnd_23 rfl ?_
        refine lv_iinc (v := (x2 + (1 : Int32))) (lv' := [(2, .int (x2 + (1 : Int32))), (0, .ref t), (1, .int x1)]) hx hb dX5_hoursToTheEnd_24 hl (k := 2) rfl rfl (by decide) rfl (fun ls hl => ?_)
        refine lv_goto (tgt := 2) hx hb dX5_hoursToTheEnd_27 (by decide) ?_
        exact ih p_4.2 x1 (x2 + (1 : Int32)) RES hF (lp_step_le (by decide) c_1 hm) H locs hP hD hS ls (lv_sub hl [1, 2, 0] rfl)
      · rw [if_pos c_3] at hF
        refine lv_iload_n hx hb dX5_hoursToTheEnd_16 rfl (lv_at hl 2 rfl) ?_
        subst hF
        exact fc_iret hx hb hr rfl hlk hS () rfl hP hD (by decide) (by decide) dX5_hoursToTheEnd_17
set_option maxHeartbeats 4000000 in
set_option maxRecDepth 100000 in
theorem c_X5_hoursToTheEnd {l : Launch} {D : va_G} {k : tyK} (t b r : Nat) (f : (Nat → Int32)) (it : Int32) : FCi l yX5_hoursToTheEnd wsX5_hoursToTheEnd rm_X5_hoursToTheEnd D k [.ref t, .int it] [(t, .inr (9, [.ref b])), (b, .inr (4, [.ref r])), (r, .inl (k.1, 628, .inl f))] (fun r (_ : Unit) => r = (F_X5_hoursToTheEnd f it).1) (fun _ => [(t, .inr (9, [.ref b])), (b, .inr (4, [.ref r])), (r, .inl (k.1, 628, .inl (F_X5_hoursToTheEnd f it).2))]) := by
  refine fc_start (cc := cX5_hoursToTheEnd) (maxL := 3) (ret := (some .int)) (own := RX5) (Qc := fun A => va_Qi (fun r (_ : Unit) => r = (F_X5_hoursToTheEnd f it).1) (Bt D (fun _ => [(t, .inr (9, [.ref b])), (b, .inr (4, [.ref r])), (r, .inl (k.1, 628, .inl (F_X5_hoursToTheEnd f it).2))]) A) A) (by decide) rfl rfl (Nat.le_of_ble_eq_true rfl) ?_
  intro p e s m below meth c A H hx hb hml hr hts hown hlk hname hA hP hE hD hS ls hl
  obtain ⟨RES, hF⟩ : ∃ z, (F_X5_hoursToTheEnd f it) = z := ⟨_, rfl⟩
  rw [hF]
  unfold F_X5_hoursToTheEnd at hF
  have hl : lv_has ls 3 [(0, .ref t), (1, .int it)] := hl
  obtain ⟨locs, hlocs⟩ : ∃ z : List Loc, z = [] := ⟨_, rfl⟩
  rw [← hlocs] at hS ⊢
  refine lv_iconst (v := 0) hx hb dX5_hoursToTheEnd_0 (by decide) ?_
  refine lv_istore_n (lv' := [(2, .int (0 : Int32)), (0, .ref t), (1, .int it)]) hx hb dX5_hoursToTheEnd_1 rfl hl (by decide) rfl (fun ls hl => ?_)
  exact lp_X5_hoursToTheEnd_2 hx hb hml hr hts hown hlk hA hE t b r (62) f it (0 : Int32) RES hF (by decide) H locs hP hD hS ls (lv_sub hl [1, 2, 0] rfl)
end
