section
theorem nc_X3_signAt (ml ct : Int32) (bt : Nat → Int32) (ii : Int32) : narrow .char (.int (F_X3_signAt ml ct bt ii)) = .int (F_X3_signAt ml ct bt ii) := by
  unfold F_X3_signAt F_J4_charAt_5068e F_J5_charAt_5068e
  split
  · rfl
  · exact pk_nc _

abbrev rm_X6_character : Room := { frames := 7, cells := 1, slots := 6, locals := 117 }
theorem in_X6_character_X6 : ∀ w ∈ wsX60, w ∈ wsX6_character := by decide +kernel
theorem lk_X6_character_61 : (Cond.fieldLink RX6 61 "TheatreSaga" "latestLine" "LTheatreSaga$Line;") ∈ wsX6_character := by decide +kernel
def F_X6_character (hs : Int32) (fk : Int32) (ml : Int32) (ct : Int32) (yb : (Nat → Int32)) (ii : Int32) : Option String × Int32 := (if (F_X6_needBelow ii ct) = none then (none, (F_X3_signAt ml ct yb ii)) else ((F_X6_needBelow ii ct), (0 : Int32)))
set_option maxHeartbeats 4000000 in
set_option maxRecDepth 100000 in
theorem c_X6_character {l : Launch} {D : va_G} {k : tyK} (o t b t2 j h bt sn x ll sb va : Nat) (cap : Nat) (hs : Int32) (fk : Int32) (ml : Int32) (ct : Int32) (yb : (Nat → Int32)) (ii : Int32) (hlst : l.stackTraces = false) (hct : ∃ n, n ≤ cap ∧ cap ≤ 142 ∧ ct = nI n) : FOi l yX6_character wsX6_character rm_X6_character D k [.ref o, .int ii] [(o, .inr (10, [.ref t, .ref b, .ref t2, .ref j, .ref h, .ref bt, .ref sn, .int hs, .ref x, .ref ll, .int fk])), (ll, .inr (7, [.ref sb])), (sb, .inr (1, [.ref va, .int (0 : Int32), .int ml, .int ct])), (va, .inl (k.2.2.1, cap, .inl yb))] (F_X6_character hs fk ml ct yb ii).1 (F_X6_character hs fk ml ct yb ii).2 [(o, .inr (10, [.ref t, .ref b, .ref t2, .ref j, .ref h, .ref bt, .ref sn, .int hs, .ref x, .ref ll, .int fk])), (ll, .inr (7, [.ref sb])), (sb, .inr (1, [.ref va, .int (0 : Int32), .int ml, .int ct])), (va, .inl (k.2.2.1, cap, .inl yb))] := by
  refine fo_start (cc := cX6_character) (maxL := 2) (ret := (some .char)) (own := RX6) (Qc := fun A => va_Qi (fun r (_ : Unit) => (F_X6_character hs fk ml ct yb ii).1 = none ∧ r = (F_X6_character hs fk ml ct yb ii).2) (Bt D (fun _ => [(o, .inr (10, [.ref t, .ref b, .ref t2, .ref j, .ref h, .ref bt, .ref sn, .int hs, .ref x, .ref ll, .int fk])), (ll, .inr (7, [.ref sb])), (sb, .inr (1, [.ref va, .int (0 : Int32), .int ml, .int ct])), (va, .inl (k.2.2.1, cap, .inl yb))]) A) A) (XC := fun A => XB D (F_X6_character hs fk ml ct yb ii).1 [(o, .inr (10, [.ref t, .ref b, .ref t2, .ref j, .ref h, .ref bt, .ref sn, .int hs, .ref x, .ref ll, .int fk])), (ll, .inr (7, [.ref sb])), (sb, .inr (1, [.ref va, .int (0 : Int32), .int ml, .int ct])), (va, .inl (k.2.2.1, cap, .inl yb))] A) (by decide) rfl rfl (Nat.le_of_ble_eq_true rfl) ?_
  intro p e s m below meth c A H hx hb hml hr hts hown hlk hout hA hP hE hD hS ls hl
  obtain ⟨RES, hF⟩ : ∃ z, (F_X6_character hs fk ml ct yb ii) = z := ⟨_, rfl⟩
  rw [hF]
  unfold F_X6_character at hF
  have hl : lv_has ls 2 [(0, .ref o), (1, .int ii)] := hl
  obtain ⟨locs, hlocs⟩ : ∃ z : List Loc, z = [] := ⟨_, rfl⟩
  rw [← hlocs] at hS ⊢
  refine lv_iload_n hx hb dX6_character_0 rfl (lv_at hl 1 rfl) ?_
  refine lv_aload_n hx hb dX6_character_1 rfl (lv_at hl 0 rfl) ?_
  refine va_get (D := D) (ci := 10) (v := .ref ll) (C := RX6) (T := TX6) (N := 11) hx hb hts in_X6_character_X6 hown hE.1 hP 0 rfl rfl 9 (by decide) (hts _ lk_X6_character_61) (fun _ h9 => h9) rfl dX6_character_2 ?_
  refine fc_ci (isC := [1, 2, 3]) (cells' := 0) (slots' := 0) (fc_runV (n := 0) (As := []) (rest := [.int ii]) (isC := [1, 2, 3]) (maxL := 1) ⟨hx, hb, hml, hown, hts⟩ (c_X3_length ll sb va cap ml ct yb H.size) gX6_character_X3_length rfl (by decide +kernel) rfl ⟨Nat.le_of_ble_eq_true rfl, Nat.le_of_ble_eq_true rfl⟩ ⟨Nat.le_of_ble_eq_true rfl, Nat.le_of_ble_eq_true rfl⟩ hE hP hD hS hA rfl rfl (va_recv hE.1 hP (ci := 7) (q0 := 1) rfl rfl) hl rfl (Nat.le_of_ble_eq_true rfl) dX6_character_5) hP hD hS hA rfl (fun _ => rfl) rfl rfl (fun r_1 _ H locs hr_1 hP hD hS => ?_)
  obtain rfl : ct = r_1 := hr_1.symm
  dsimp only [fs, List.set] at hP hD
  have hP : va_P D vwCl [(o, .inr (10, [.ref t, .ref b, .ref t2, .ref j, .ref h, .ref bt, .ref sn, .int hs, .ref x, .ref ll, .int fk])), (ll, .inr (7, [.ref sb])), (sb, .inr (1, [.ref va, .int (0 : Int32), .int ml, .int ct])), (va, .inl (k.2.2.1, cap, .inl yb))] H := hP
  have hD : va_D A [(o, .inr (10, [.ref t, .ref b, .ref t2, .ref j, .ref h, .ref bt, .ref sn, .int hs, .ref x, .ref ll, .int fk])), (ll, .inr (7, [.ref sb])), (sb, .inr (1, [.ref va, .int (0 : Int32), .int ml, .int ct])), (va, .inl (k.2.2.1, cap, .inl yb))] := hD
  refine fo_cv (isC := []) (cells' := 1) (slots' := 6) (fo_runS (n := 2) (As := [.int ii, .int ct]) (rest := []) (isC := []) (maxL := 2) ⟨hx, hb, hml, hown, hts⟩ (c_X6_needBelow ii ct hlst H.size) gX6_character_X6_needBelow rfl (by decide +kernel) rfl ⟨Nat.le_of_ble_eq_true rfl, Nat.le_of_ble_eq_true rfl⟩ ⟨Nat.le_of_ble_eq_true rfl, Nat.le_of_ble_eq_true rfl⟩ hE hP hD hS hA rfl rfl hl rfl (Nat.le_of_ble_eq_true rfl) dX6_character_8) hP hD hS hA rfl rfl rfl rfl (fun E ce q9 H locs x_3 hP hD hS g1 g2 g3 => ?_) (fun H locs x_3 hP hD hS => ?_)
  · rw [if_neg (by rw [x_3]; exact fun z => nomatch z)] at hF
    dsimp only [fs, List.set] at hP hD
    have hP : va_P D vwCl [(o, .inr (10, [.ref t, .ref b, .ref t2, .ref j, .ref h, .ref bt, .ref sn, .int hs, .ref x, .ref ll, .int fk])), (ll, .inr (7, [.ref sb])), (sb, .inr (1, [.ref va, .int (0 : Int32), .int ml, .int ct])), (va, .inl (k.2.2.1, cap, .inl yb))] H := hP
    have hD : va_D A [(o, .inr (10, [.ref t, .ref b, .ref t2, .ref j, .ref h, .ref bt, .ref sn, .int hs, .ref x, .ref ll, .int fk])), (ll, .inr (7, [.ref sb])), (sb, .inr (1, [.ref va, .int (0 : Int32), .int ml, .int ct])), (va, .inl (k.2.2.1, cap, .inl yb))] := hD
    subst hF
    exact fo_out hout hlk g1 g2 g3 hS x_3 hP hD (by decide) (by decide)
  rw [if_pos x_3] at hF
  dsimp only [fs, List.set] at hP hD
  have hP : va_P D vwCl [(o, .inr (10, [.ref t, .ref b, .ref t2, .ref j, .ref h, .ref bt, .ref sn, .int hs, .ref x, .ref ll, .int fk])), (ll, .inr (7, [.ref sb])), (sb, .inr (1, [.ref va, .int (0 : Int32), .int ml, .int ct])), (va, .inl (k.2.2.1, cap, .inl yb))] H := hP
  have hD : va_D A [(o, .inr (10, [.ref t, .ref b, .ref t2, .ref j, .ref h, .ref bt, .ref sn, .int hs, .ref x, .ref ll, .int fk])), (ll, .inr (7, [.ref sb])), (sb, .inr (1, [.ref va, .int (0 : Int32), .int ml, .int ct])), (va, .inl (k.2.2.1, cap, .inl yb))] := hD
  refine lv_aload_n hx hb dX6_character_11 rfl (lv_at hl 0 rfl) ?_
  refine va_get (D := D) (ci := 10) (v := .ref ll) (C := RX6) (T := TX6) (N := 11) hx hb hts in_X6_character_X6 hown hE.1 hP 0 rfl rfl 9 (by decide) (hts _ lk_X6_character_61) (fun _ h9 => h9) rfl dX6_character_12 ?_
  refine lv_iload_n hx hb dX6_character_15 rfl (lv_at hl 1 rfl) ?_
  refine fc_ci (isC := [1, 2, 3]) (cells' := 1) (slots' := 6) (fc_runV (n := 1) (As := [.int ii]) (rest := []) (isC := [1, 2, 3]) (maxL := 2) ⟨hx, hb, hml, hown, hts⟩ (c_X3_signAt ll sb va cap ml ct yb ii hct H.size) gX6_character_X3_signAt rfl (by decide +kernel) rfl ⟨Nat.le_of_ble_eq_true rfl, Nat.le_of_ble_eq_true rfl⟩ ⟨Nat.le_of_ble_eq_true rfl, Nat.le_of_ble_eq_true rfl⟩ hE hP hD hS hA rfl rfl (va_recv hE.1 hP (ci := 7) (q0 := 1) rfl rfl) hl rfl (Nat.le_of_ble_eq_true rfl) dX6_character_16) hP hD hS hA rfl (fun _ => rfl) rfl rfl (fun r_4 _ H locs hr_4 hP hD hS => ?_)
  obtain rfl : (F_X3_signAt ml ct yb ii) = r_4 := hr_4.symm
  dsimp only [fs, List.set] at hP hD
  have hP : va_P D vwCl [(o, .inr (10, [.ref t, .ref b, .ref t2, .ref j, .ref h, .ref bt, .ref sn, .int hs, .ref x, .ref ll, .int fk])), (ll, .inr (7, [.ref sb])), (sb, .inr (1, [.ref va, .int (0 : Int32), .int ml, .int ct])), (va, .inl (k.2.2.1, cap, .inl yb))] H := hP
  have hD : va_D A [(o, .inr (10, [.ref t, .ref b, .ref t2, .ref j, .ref h, .ref bt, .ref sn, .int hs, .ref x, .ref ll, .int fk])), (ll, .inr (7, [.ref sb])), (sb, .inr (1, [.ref va, .int (0 : Int32), .int ml, .int ct])), (va, .inl (k.2.2.1, cap, .inl yb))] := hD
  subst hF
  exact fo_iret hx hb hr (nc_X3_signAt ..) hlk hS rfl rfl hP hD (by decide) (by decide) dX6_character_19
end
