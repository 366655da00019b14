section
abbrev rm_X3_length : Room := { frames := 2, cells := 0, slots := 0, locals := 40 }
theorem in_X3_length_X3 : ∀ w ∈ wsX30, w ∈ wsX3_length := by decide +kernel
theorem lk_X3_length_12 : (Cond.fieldLink RX3 12 "TheatreSaga$Line" "signs" "Ljava/lang/StringBuilder;") ∈ wsX3_length := by decide +kernel
def F_X3_length (ml : Int32) (ct : Int32) (bt : (Nat → Int32))  : Int32 := (F_J4_length_8abf5 ml ct bt)
set_option maxHeartbeats 4000000 in
set_option maxRecDepth 100000 in
theorem c_X3_length {l : Launch} {D : va_G} {k : tyK} (ln sb va : Nat) (cap : Nat) (ml : Int32) (ct : Int32) (bt : (Nat → Int32))  : FCi l yX3_length wsX3_length rm_X3_length D k [.ref ln] [(ln, .inr (7, [.ref sb])), (sb, .inr (1, [.ref va, .int (0 : Int32), .int ml, .int ct])), (va, .inl (k.2.2.1, cap, .inl bt))] (fun r (_ : Unit) => r = (F_X3_length ml ct bt)) (fun _ => [(ln, .inr (7, [.ref sb])), (sb, .inr (1, [.ref va, .int (0 : Int32), .int ml, .int ct])), (va, .inl (k.2.2.1, cap, .inl bt))]) := by
  refine fc_start (cc := cX3_length) (maxL := 1) (ret := (some .int)) (own := RX3) (Qc := fun A => va_Qi (fun r (_ : Unit) => r = (F_X3_length ml ct bt)) (Bt D (fun _ => [(ln, .inr (7, [.ref sb])), (sb, .inr (1, [.ref va, .int (0 : Int32), .int ml, .int ct])), (va, .inl (k.2.2.1, cap, .inl bt))]) A) A) (by decide) rfl rfl (Nat.le_of_ble_eq_true rfl) ?_
  intro p e s m below meth c A H hx hb hml hr hts hown hlk hname hA hP hE hD hS ls hl
  obtain ⟨RES, hF⟩ : ∃ z, (F_X3_length ml ct bt) = z := ⟨_, rfl⟩
  rw [hF]
  unfold F_X3_length at hF
  have hl : lv_has ls 1 [(0, .ref ln)] := hl
  obtain ⟨locs, hlocs⟩ : ∃ z : List Loc, z = [] := ⟨_, rfl⟩
  rw [← hlocs] at hS ⊢
  refine lv_aload_n hx hb dX3_length_0 rfl (lv_at hl 0 rfl) ?_
  refine va_get (D := D) (ci := 7) (v := .ref sb) (C := RX3) (T := TX3) (N := 1) hx hb hts in_X3_length_X3 hown hE.1 hP 0 rfl rfl 0 (by decide) (hts _ lk_X3_length_12) (fun _ h9 => h9) rfl dX3_length_1 ?_
  refine fc_ci (isC := [1, 2]) (cells' := 0) (slots' := 0) (fc_runV (n := 0) (As := []) (rest := []) (isC := [1, 2]) (maxL := 1) ⟨hx, hb, hml, hown, hts⟩ (c_J4_length_8abf5 sb va cap ml ct bt H.size) gX3_length_J4_length_8abf5 rfl (by decide +kernel) rfl ⟨Nat.le_of_ble_eq_true rfl, Nat.le_of_ble_eq_true rfl⟩ ⟨Nat.le_of_ble_eq_true rfl, Nat.le_of_ble_eq_true rfl⟩ hE hP hD hS hA rfl rfl (va_recv hE.1 hP (ci := 1) (q0 := 1) rfl rfl) hl rfl (Nat.le_of_ble_eq_true rfl) dX3_length_4) hP hD hS hA rfl (fun _ => rfl) rfl rfl (fun r_1 _ H locs hr_1 hP hD hS => ?_)
  obtain rfl : (F_J4_length_8abf5 ml ct bt) = r_1 := hr_1.symm
  dsimp only [fs, List.set] at hP hD
  have hP : va_P D vwCl [(ln, .inr (7, [.ref sb])), (sb, .inr (1, [.ref va, .int (0 : Int32), .int ml, .int ct])), (va, .inl (k.2.2.1, cap, .inl bt))] H := hP
  have hD : va_D A [(ln, .inr (7, [.ref sb])), (sb, .inr (1, [.ref va, .int (0 : Int32), .int ml, .int ct])), (va, .inl (k.2.2.1, cap, .inl bt))] := hD
  subst hF
  exact fc_iret hx hb hr rfl hlk hS () rfl hP hD (by decide) (by decide) dX3_length_7

abbrev rm_X3_conditionSign : Room := { frames := 0, cells := 0, slots := 0, locals := 0 }
def F_X3_conditionSign  (ii : Int32) : Int32 := (if ii = (0 : Int32) then (112 : Int32) else if ii = (1 : Int32) then (114 : Int32) else if ii = (2 : Int32) then (98 : Int32) else if ii = (3 : Int32) then (100 : Int32) else (117 : Int32))
set_option maxHeartbeats 4000000 in
set_option maxRecDepth 100000 in
theorem c_X3_conditionSign {l : Launch} {D : va_G} {k : tyK}  (ii : Int32) : FCi l yX3_conditionSign wsX3_conditionSign rm_X3_conditionSign D k [.int ii] [] (fun r (_ : Unit) => r = (F_X3_conditionSign ii)) (fun _ => []) := by
  refine fc_start (cc := cX3_conditionSign) (maxL := 1) (ret := (some .char)) (own := RX3) (Qc := fun A => va_Qi (fun r (_ : Unit) => r = (F_X3_conditionSign ii)) (Bt D (fun _ => []) A) A) (by decide) rfl rfl (Nat.le_of_ble_eq_true rfl) ?_
  intro p e s m below meth c A H hx hb hml hr hts hown hlk hname hA hP hE hD hS ls hl
  obtain ⟨RES, hF⟩ : ∃ z, (F_X3_conditionSign ii) = z := ⟨_, rfl⟩
  rw [hF]
  unfold F_X3_conditionSign at hF
  have hl : lv_has ls 1 [(0, .int ii)] := hl
  obtain ⟨locs, hlocs⟩ : ∃ z : List Loc, z = [] := ⟨_, rfl⟩
  rw [← hlocs] at hS ⊢
  refine lv_iload_n hx hb dX3_conditionSign_0 rfl (lv_at hl 0 rfl) ?_
  by_cases c_1 : ii = (0 : Int32)
  · rw [if_pos c_1] at hF
    refine lv_tableIn (tgt := 32) (off := 31) hx hb dX3_conditionSign_1 (by rw [c_1]; decide) (by rw [c_1]; decide) (by rw [c_1]; rfl) (by decide) ?_
    refine lv_bipush (v := 112) hx hb dX3_conditionSign_32 (by decide) ?_
    subst hF
    exact fc_iret hx hb hr rfl hlk hS () rfl hP hD (by decide) (by decide) dX3_conditionSign_34
  rw [if_neg c_1] at hF
  by_cases c_2 : ii = (1 : Int32)
  · rw [if_pos c_2] at hF
    refine lv_tableIn (tgt := 35) (off := 34) hx hb dX3_conditionSign_1 (by rw [c_2]; decide) (by rw [c_2]; decide) (by rw [c_2]; rfl) (by decide) ?_
    refine lv_bipush (v := 114) hx hb dX3_conditionSign_35 (by decide) ?_
    subst hF
    exact fc_iret hx hb hr rfl hlk hS () rfl hP hD (by decide) (by decide) dX3_conditionSign_37
  rw [if_neg c_2] at hF
  by_cases c_3 : ii = (2 : Int32)
  · rw [if_pos c_3] at hF
    refine lv_tableIn (tgt := 38) (off := 37) hx hb dX3_conditionSign_1 (by rw [c_3]; decide) (by rw [c_3]; decide) (by rw [c_3]; rfl) (by decide) ?_
    refine lv_bipush (v := 98) hx hb dX3_conditionSign_38 (by decide) ?_
    subst hF
    exact fc_iret hx hb hr rfl hlk hS () rfl hP hD (by decide) (by decide) dX3_conditionSign_40
  rw [if_neg c_3] at hF
  by_cases c_4 : ii = (3 : Int32)
  · rw [if_pos c_4] at hF
    refine lv_tableIn (tgt := 41) (off := 40) hx hb dX3_conditionSign_1 (by rw [c_4]; decide) (by rw [c_4]; decide) (by rw [c_4]; rfl) (by decide) ?_
    refine lv_bipush (v := 100) hx hb dX3_conditionSign_41 (by decide) ?_
    subst hF
    exact fc_iret hx hb hr rfl hlk hS () rfl hP hD (by decide) (by decide) dX3_conditionSign_43
  rw [if_neg c_4] at hF
  refine lv_tableOut (tgt := 44) hx hb dX3_conditionSign_1 (by have z := And.intro (i32_ne (n := 0) rfl c_1) True.intro; have z0 := i32_ne (n := 0) rfl c_1; have z1 := i32_ne (n := 1) rfl c_2; have z2 := i32_ne (n := 2) rfl c_3; have z3 := i32_ne (n := 3) rfl c_4; omega) (by decide) ?_
  refine lv_bipush (v := 117) hx hb dX3_conditionSign_44 (by decide) ?_
  subst hF
  exact fc_iret hx hb hr rfl hlk hS () rfl hP hD (by decide) (by decide) dX3_conditionSign_46

abbrev rm_X3_kindSign : Room := { frames := 0, cells := 0, slots := 0, locals := 0 }
def F_X3_kindSign  (ii : Int32) : Int32 := (if ii = (0 : Int32) then (104 : Int32) else if ii = (1 : Int32) then (119 : Int32) else (98 : Int32))
set_option maxHeartbeats 4000000 in
set_option maxRecDepth 100000 in
theorem c_X3_kindSign {l : Launch} {D : va_G} {k : tyK}  (ii : Int32) : FCi l yX3_kindSign wsX3_kindSign rm_X3_kindSign D k [.int ii] [] (fun r (_ : Unit) => r = (F_X3_kindSign ii)) (fun _ => []) := by
  refine fc_start (cc := cX3_kindSign) (maxL := 1) (ret := (some .char)) (own := RX3) (Qc := fun A => va_Qi (fun r (_ : Unit) => r = (F_X3_kindSign ii)) (Bt D (fun _ => []) A) A) (by decide) rfl rfl (Nat.le_of_ble_eq_true rfl) ?_
  intro p e s m below meth c A H hx hb hml hr hts hown hlk hname hA hP hE hD hS ls hl
  obtain ⟨RES, hF⟩ : ∃ z, (F_X3_kindSign ii) = z := ⟨_, rfl⟩
  rw [hF]
  unfold F_X3_kindSign at hF
  have hl : lv_has ls 1 [(0, .int ii)] := hl
  obtain ⟨locs, hlocs⟩ : ∃ z : List Loc, z = [] := ⟨_, rfl⟩
  rw [← hlocs] at hS ⊢
  refine lv_iload_n hx hb dX3_kindSign_0 rfl (lv_at hl 0 rfl) ?_
  by_cases c_1 : ii = (0 : Int32)
  · rw [if_pos c_1] at hF
    refine lv_lookup (tgt := 28) (off := 27) hx hb dX3_kindSign_1 (by decide) (by rw [c_1]; rfl) (by decide) ?_
    refine lv_bipush (v := 104) hx hb dX3_kindSign_28 (by decide) ?_
    subst hF
    exact fc_iret hx hb hr rfl hlk hS () rfl hP hD (by decide) (by decide) dX3_kindSign_30
  rw [if_neg c_1] at hF
  by_cases c_2 : ii = (1 : Int32)
  · rw [if_pos c_2] at hF
    refine lv_lookup (tgt := 31) (off := 30) hx hb dX3_kindSign_1 (by decide) (by rw [c_2]; rfl) (by decide) ?_
    refine lv_bipush (v := 119) hx hb dX3_kindSign_31 (by decide) ?_
    subst hF
    exact fc_iret hx hb hr rfl hlk hS () rfl hP hD (by decide) (by decide) dX3_kindSign_33
  rw [if_neg c_2] at hF
  refine lv_lookup (tgt := 34) (off := 33) hx hb dX3_kindSign_1 (by decide) (by have z0 := i32_ne (n := 0) rfl c_1; have z1 := i32_ne (n := 1) rfl c_2; simp [Op.lookupswitch.offset, List.find?, z0, Ne.symm z0, z1, Ne.symm z1]) (by decide) ?_
  refine lv_bipush (v := 98) hx hb dX3_kindSign_34 (by decide) ?_
  subst hF
  exact fc_iret hx hb hr rfl hlk hS () rfl hP hD (by decide) (by decide) dX3_kindSign_36
end
section TSline0
/-- a number below 100 -/
def SBn (x : Int32) : Prop := ∃ n : Nat, n < 100 ∧ x = nI n
/-- its letters -/
def sbI (x : Int32) : List Int32 := sbD x.toNatClampNeg
theorem sbI_of {v : Nat} (h : v < 100) : sbI (nI v) = sbD v := by
  unfold sbI
  rw [nI_clamp (by omega)]
theorem sbI_len {x : Int32} : (sbI x).length ≤ 2 := by
  unfold sbI
  rw [sbD_len]
  split <;> decide
theorem cT_J4_append_N {l : Launch} {D : va_G} {k : tyK} (sb va : Nat) (cap : Nat) (ml : Int32) (txt : List Int32) (bt : (Nat → Int32)) (ii : Int32) (ok : SBok txt cap bt) (hv : SBn ii) (hlen : txt.length < 141) : FCrS l yJ4_append_bf812 wsJ4_append_bf812 rmT_J4_append_I D k [.ref sb, .int ii] [(sb, .inr (1, [.ref va, .int (0 : Int32), .int ml, .int (nI txt.length)])), (va, .inl (k.2.2.1, cap, .inl bt))] sb (fun u => SBok (txt ++ sbI ii) u.2.1 u.2.2) (sbW k sb ml (txt ++ sbI ii)) := by
  obtain ⟨v, hv, rfl⟩ := hv
  rw [sbI_of hv]
  exact cT_J4_append_I sb va cap ml txt bt v ok hv hlen
theorem ch_X3_kindSign (x : Int32) : SBch (F_X3_kindSign x) := by
  unfold F_X3_kindSign
  repeat' split
  · exact ⟨104, by decide, by decide⟩
  · exact ⟨119, by decide, by decide⟩
  · exact ⟨98, by decide, by decide⟩
theorem ch_X3_conditionSign (x : Int32) : SBch (F_X3_conditionSign x) := by
  unfold F_X3_conditionSign
  repeat' split
  · exact ⟨112, by decide, by decide⟩
  · exact ⟨114, by decide, by decide⟩
  · exact ⟨98, by decide, by decide⟩
  · exact ⟨100, by decide, by decide⟩
  · exact ⟨117, by decide, by decide⟩
end TSline0
