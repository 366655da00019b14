section
abbrev rm_J5_length_8abf5 : Room := { frames := 0, cells := 0, slots := 0, locals := 0 }
theorem in_J5_length_8abf5_J4 : ∀ w ∈ wsJ40, w ∈ wsJ5_length_8abf5 := by decide +kernel
theorem lk_J5_length_8abf5_79 : (Cond.fieldLink RJ5 79 "java/lang/AbstractStringBuilder" "count" "I") ∈ wsJ5_length_8abf5 := by decide +kernel
def F_J5_length_8abf5 (ml : Int32) (ct : Int32) (bt : (Nat → Int32))  : Int32 := ct
set_option maxHeartbeats 4000000 in
set_option maxRecDepth 100000 in
theorem c_J5_length_8abf5 {l : Launch} {D : va_G} {k : tyK} (sb va : Nat) (cap : Nat) (ml : Int32) (ct : Int32) (bt : (Nat → Int32))  : FCi l yJ5_length_8abf5 wsJ5_length_8abf5 rm_J5_length_8abf5 D k [.ref sb] [(sb, .inr (1, [.ref va, .int (0 : Int32), .int ml, .int ct])), (va, .inl (k.2.2.1, cap, .inl bt))] (fun r (_ : Unit) => r = (F_J5_length_8abf5 ml ct bt)) (fun _ => [(sb, .inr (1, [.ref va, .int (0 : Int32), .int ml, .int ct])), (va, .inl (k.2.2.1, cap, .inl bt))]) := by
  refine fc_start (cc := cJ5_length_8abf5) (maxL := 1) (ret := (some .int)) (own := RJ5) (Qc := fun A => va_Qi (fun r (_ : Unit) => r = (F_J5_length_8abf5 ml ct bt)) (Bt D (fun _ => [(sb, .inr (1, [.ref va, .int (0 : Int32), .int ml, .int ct])), (va, .inl (k.2.2.1, cap, .inl bt))]) A) A) (by decide) rfl rfl (Nat.le_of_ble_eq_true rfl) ?_
  intro p e s m below meth c A H hx hb hml hr hts hown hlk hname hA hP hE hD hS ls hl
  obtain ⟨RES, hF⟩ : ∃ z, (F_J5_length_8abf5 ml ct bt) = z := ⟨_, rfl⟩
  rw [hF]
  unfold F_J5_length_8abf5 at hF
  have hl : lv_has ls 1 [(0, .ref sb)] := hl
  obtain ⟨locs, hlocs⟩ : ∃ z : List Loc, z = [] := ⟨_, rfl⟩
  rw [← hlocs] at hS ⊢
  refine lv_aload_n hx hb dJ5_length_8abf5_0 rfl (lv_at hl 0 rfl) ?_
  refine va_get (D := D) (ci := 1) (v := .int ct) (C := RJ4) (T := TJ4) (N := 4) hx hb hts in_J5_length_8abf5_J4 hown hE.1 hP 0 rfl rfl 3 (by decide) (hts _ lk_J5_length_8abf5_79) (fun _ h9 => h9) rfl dJ5_length_8abf5_1 ?_
  subst hF
  exact fc_iret hx hb hr rfl hlk hS () rfl hP hD (by decide) (by decide) dJ5_length_8abf5_4

abbrev rm_J5_isLatin1_aae02 : Room := { frames := 0, cells := 0, slots := 0, locals := 0 }
theorem in_J5_isLatin1_aae02_J4 : ∀ w ∈ wsJ40, w ∈ wsJ5_isLatin1_aae02 := by decide +kernel
theorem lk_J5_isLatin1_aae02_18 : (Cond.fieldLink RJ5 18 "java/lang/String" "COMPACT_STRINGS" "Z") ∈ wsJ5_isLatin1_aae02 := by decide +kernel
theorem lk_J5_isLatin1_aae02_22 : (Cond.fieldLink RJ5 22 "java/lang/AbstractStringBuilder" "coder" "B") ∈ wsJ5_isLatin1_aae02 := by decide +kernel
def F_J5_isLatin1_aae02 (ml : Int32) (ct : Int32) (bt : (Nat → Int32))  : Int32 := (1 : Int32)
set_option maxHeartbeats 4000000 in
set_option maxRecDepth 100000 in
theorem c_J5_isLatin1_aae02 {l : Launch} {D : va_G} {k : tyK} (sb va : Nat) (cap : Nat) (ml : Int32) (ct : Int32) (bt : (Nat → Int32))  : FCi l yJ5_isLatin1_aae02 wsJ5_isLatin1_aae02 rm_J5_isLatin1_aae02 D k [.ref sb] [(sb, .inr (1, [.ref va, .int (0 : Int32), .int ml, .int ct])), (va, .inl (k.2.2.1, cap, .inl bt))] (fun r (_ : Unit) => r = (F_J5_isLatin1_aae02 ml ct bt)) (fun _ => [(sb, .inr (1, [.ref va, .int (0 : Int32), .int ml, .int ct])), (va, .inl (k.2.2.1, cap, .inl bt))]) := by
  refine fc_start (cc := cJ5_isLatin1_aae02) (maxL := 1) (ret := (some .boolean)) (own := RJ5) (Qc := fun A => va_Qi (fun r (_ : Unit) => r = (F_J5_isLatin1_aae02 ml ct bt)) (Bt D (fun _ => [(sb, .inr (1, [.ref va, .int (0 : Int32), .int ml, .int ct])), (va, .inl (k.2.2.1, cap, .inl bt))]) A) A) (by decide) rfl rfl (Nat.le_of_ble_eq_true rfl) ?_
  intro p e s m below meth c A H hx hb hml hr hts hown hlk hname hA hP hE hD hS ls hl
  obtain ⟨RES, hF⟩ : ∃ z, (F_J5_isLatin1_aae02 ml ct bt) = z := ⟨_, rfl⟩
  rw [hF]
  unfold F_J5_isLatin1_aae02 at hF
  have hl : lv_has ls 1 [(0, .ref sb)] := hl
  obtain ⟨locs, hlocs⟩ : ∃ z : List Loc, z = [] := ⟨_, rfl⟩
  rw [← hlocs] at hS ⊢
  refine va_gets hx hb (GE.cs hE) hS hown (hts _ lk_J5_isLatin1_aae02_18) (fun _ h9 => h9) dJ5_isLatin1_aae02_0 ?_
  refine lv_if_eq (tgt := 17) hx hb dJ5_isLatin1_aae02_3 (by decide) (fun c_1 => absurd c_1 (by decide)) (fun c_1 => ?_)
  refine lv_aload_n hx hb dJ5_isLatin1_aae02_6 rfl (lv_at hl 0 rfl) ?_
  refine va_get (D := D) (ci := 1) (v := .int (0 : Int32)) (C := RJ4) (T := TJ4) (N := 4) hx hb hts in_J5_isLatin1_aae02_J4 hown hE.1 hP 0 rfl rfl 1 (by decide) (hts _ lk_J5_isLatin1_aae02_22) (fun _ h9 => h9) rfl dJ5_isLatin1_aae02_7 ?_
  refine lv_if_ne (tgt := 17) hx hb dJ5_isLatin1_aae02_10 (by decide) (fun c_2 => absurd c_2 (by decide)) (fun c_2 => ?_)
  refine lv_iconst (v := 1) hx hb dJ5_isLatin1_aae02_13 (by decide) ?_
  refine lv_goto (tgt := 18) hx hb dJ5_isLatin1_aae02_14 (by decide) ?_
  subst hF
  exact fc_iret hx hb hr rfl hlk hS () rfl hP hD (by decide) (by decide) dJ5_isLatin1_aae02_18

abbrev rm_J5_ensure_a : Room := { frames := 0, cells := 0, slots := 0, locals := 0 }
theorem in_J5_ensure_a_J4 : ∀ w ∈ wsJ40, w ∈ wsJ5_ensureCapacityInternal_d00df := by decide +kernel
theorem lk_J5_ensure_a_15 : (Cond.fieldLink RJ5 15 "java/lang/AbstractStringBuilder" "value" "[B") ∈ wsJ5_ensureCapacityInternal_d00df := by decide +kernel
theorem lk_J5_ensure_a_22 : (Cond.fieldLink RJ5 22 "java/lang/AbstractStringBuilder" "coder" "B") ∈ wsJ5_ensureCapacityInternal_d00df := by decide +kernel
set_option maxHeartbeats 4000000 in
set_option maxRecDepth 100000 in
theorem c_J5_ensure_a {l : Launch} {D : va_G} {k : tyK} (sb va : Nat) (cap : Nat) (ml : Int32) (ct : Int32) (bt : (Nat → Int32)) (iq : Int32) (hcap : (iq - ((Int32.ofNat cap) >>> ((0 : Int32) &&& 31))) ≤ (0 : Int32)) : FCv l yJ5_ensureCapacityInternal_d00df wsJ5_ensureCapacityInternal_d00df rm_J5_ensure_a D k [.ref sb, .int iq] [(sb, .inr (1, [.ref va, .int (0 : Int32), .int ml, .int ct])), (va, .inl (k.2.2.1, cap, .inl bt))] (fun (_ : Unit) => True) (fun _ => [(sb, .inr (1, [.ref va, .int (0 : Int32), .int ml, .int ct])), (va, .inl (k.2.2.1, cap, .inl bt))]) := by
  refine fc_start (cc := cJ5_ensureCapacityInternal_d00df) (maxL := 3) (ret := none) (own := RJ5) (Qc := fun A => va_Qv (fun (_ : Unit) => True) (Bt D (fun _ => [(sb, .inr (1, [.ref va, .int (0 : Int32), .int ml, .int ct])), (va, .inl (k.2.2.1, cap, .inl bt))]) A) A) (by decide) rfl rfl (Nat.le_of_ble_eq_true rfl) ?_
  intro p e s m below meth c A H hx hb hml hr hts hown hlk hname hA hP hE hD hS ls hl
  have hl : lv_has ls 3 [(0, .ref sb), (1, .int iq)] := hl
  obtain ⟨locs, hlocs⟩ : ∃ z : List Loc, z = [] := ⟨_, rfl⟩
  rw [← hlocs] at hS ⊢
  refine lv_aload_n hx hb dJ5_ensureCapacityInternal_d00df_0 rfl (lv_at hl 0 rfl) ?_
  refine va_get (D := D) (ci := 1) (v := .ref va) (C := RJ4) (T := TJ4) (N := 4) hx hb hts in_J5_ensure_a_J4 hown hE.1 hP 0 rfl rfl 0 (by decide) (hts _ lk_J5_ensure_a_15) (fun _ h9 => h9) rfl dJ5_ensureCapacityInternal_d00df_1 ?_
  refine va_alen (v := (Int32.ofNat cap)) hx hb hE.1 hP 1 2 rfl rfl rfl dJ5_ensureCapacityInternal_d00df_4 ?_
  refine lv_aload_n hx hb dJ5_ensureCapacityInternal_d00df_5 rfl (lv_at hl 0 rfl) ?_
  refine va_get (D := D) (ci := 1) (v := .int (0 : Int32)) (C := RJ4) (T := TJ4) (N := 4) hx hb hts in_J5_ensure_a_J4 hown hE.1 hP 0 rfl rfl 1 (by decide) (hts _ lk_J5_ensure_a_22) (fun _ h9 => h9) rfl dJ5_ensureCapacityInternal_d00df_6 ?_
  refine lv_ishr hx hb dJ5_ensureCapacityInternal_d00df_9 ?_
  refine lv_istore_n (lv' := [(2, .int ((Int32.ofNat cap) >>> ((0 : Int32) &&& 31))), (0, .ref sb), (1, .int iq)]) hx hb dJ5_ensureCapacityInternal_d00df_10 rfl hl (by decide) rfl (fun ls hl => ?_)
  refine lv_iload_n hx hb dJ5_ensureCapacityInternal_d00df_11 rfl (lv_at hl 2 rfl) ?_
  refine lv_iload_n hx hb dJ5_ensureCapacityInternal_d00df_12 rfl (lv_at hl 0 rfl) ?_
  refine lv_isub hx hb dJ5_ensureCapacityInternal_d00df_13 ?_
  refine lv_if_le (tgt := 38) hx hb dJ5_ensureCapacityInternal_d00df_14 (by decide) (fun c_1 => ?_) (fun c_1 => absurd hcap c_1)
  exact fc_vret hx hb hr hlk hS () trivial hP hD (by decide) (by decide) dJ5_ensureCapacityInternal_d00df_38

abbrev rm_J1_canEncode_fc78d : Room := { frames := 0, cells := 0, slots := 0, locals := 0 }
def F_J1_canEncode_fc78d  (ic : Int32) : Int32 := (1 : Int32)
set_option maxHeartbeats 4000000 in
set_option maxRecDepth 100000 in
theorem c_J1_canEncode_fc78d {l : Launch} {D : va_G} {k : tyK}  (ic : Int32) (hc : ¬ (255 : Int32) < ic) : FCi l yJ1_canEncode_fc78d wsJ1_canEncode_fc78d rm_J1_canEncode_fc78d D k [.int ic] [] (fun r (_ : Unit) => r = (F_J1_canEncode_fc78d ic)) (fun _ => []) := by
  refine fc_start (cc := cJ1_canEncode_fc78d) (maxL := 1) (ret := (some .boolean)) (own := RJ1) (Qc := fun A => va_Qi (fun r (_ : Unit) => r = (F_J1_canEncode_fc78d ic)) (Bt D (fun _ => []) A) A) (by decide) rfl rfl (Nat.le_of_ble_eq_true rfl) ?_
  intro p e s m below meth c A H hx hb hml hr hts hown hlk hname hA hP hE hD hS ls hl
  obtain ⟨RES, hF⟩ : ∃ z, (F_J1_canEncode_fc78d ic) = z := ⟨_, rfl⟩
  rw [hF]
  unfold F_J1_canEncode_fc78d at hF
  have hl : lv_has ls 1 [(0, .int ic)] := hl
  obtain ⟨locs, hlocs⟩ : ∃ z : List Loc, z = [] := ⟨_, rfl⟩
  rw [← hlocs] at hS ⊢
  refine lv_iload_n hx hb dJ1_canEncode_fc78d_0 rfl (lv_at hl 0 rfl) ?_
  refine lv_sipush (v := 255) hx hb dJ1_canEncode_fc78d_1 (by decide) ?_
  refine lv_icmp_gt (tgt := 11) hx hb dJ1_canEncode_fc78d_4 (by decide) (fun c_1 => absurd c_1 hc) (fun c_1 => ?_)
  refine lv_iconst (v := 1) hx hb dJ1_canEncode_fc78d_7 (by decide) ?_
  refine lv_goto (tgt := 12) hx hb dJ1_canEncode_fc78d_8 (by decide) ?_
  subst hF
  exact fc_iret hx hb hr rfl hlk hS () rfl hP hD (by decide) (by decide) dJ1_canEncode_fc78d_12

abbrev rm_J5_append_3fe6f : Room := { frames := 1, cells := 0, slots := 0, locals := 22 }
theorem in_J5_append_3fe6f_J4 : ∀ w ∈ wsJ40, w ∈ wsJ5_append_3fe6f := by decide +kernel
theorem lk_J5_append_3fe6f_15 : (Cond.fieldLink RJ5 15 "java/lang/AbstractStringBuilder" "value" "[B") ∈ wsJ5_append_3fe6f := by decide +kernel
theorem lk_J5_append_3fe6f_79 : (Cond.fieldLink RJ5 79 "java/lang/AbstractStringBuilder" "count" "I") ∈ wsJ5_append_3fe6f := by decide +kernel
def F_J5_append_3fe6f (ml : Int32) (ct : Int32) (bt : (Nat → Int32)) (ic : Int32) : Int32 × (Nat → Int32) := ((ct + (1 : Int32)), (upd bt (ct).toNatClampNeg (vp_nar .byte (ic).toInt8.toInt32)))
set_option maxHeartbeats 4000000 in
set_option maxRecDepth 100000 in
theorem c_J5_append_3fe6f {l : Launch} {D : va_G} {k : tyK} (sb va : Nat) (cap : Nat) (ml : Int32) (ct : Int32) (bt : (Nat → Int32)) (ic : Int32) (hcap : ((ct + (1 : Int32)) - ((Int32.ofNat cap) >>> ((0 : Int32) &&& 31))) ≤ (0 : Int32)) (hc : ¬ (255 : Int32) < ic) (hv : vp_in ct cap) : FCr l yJ5_append_3fe6f wsJ5_append_3fe6f rm_J5_append_3fe6f D k [.ref sb, .int ic] [(sb, .inr (1, [.ref va, .int (0 : Int32), .int ml, .int ct])), (va, .inl (k.2.2.1, cap, .inl bt))] sb [(sb, .inr (1, [.ref va, .int (0 : Int32), .int ml, .int (F_J5_append_3fe6f ml ct bt ic).1])), (va, .inl (k.2.2.1, cap, .inl (F_J5_append_3fe6f ml ct bt ic).2))] := by
  refine fc_start (cc := cJ5_append_3fe6f) (maxL := 2) (ret := (some (.object "java/lang/AbstractStringBuilder"))) (own := RJ5) (Qc := fun A => va_Qr (fun (_ : Unit) => True) (fun _ a t => a = sb ∧ va_P D vwCl [(sb, .inr (1, [.ref va, .int (0 : Int32), .int ml, .int (F_J5_append_3fe6f ml ct bt ic).1])), (va, .inl (k.2.2.1, cap, .inl (F_J5_append_3fe6f ml ct bt ic).2))] t.heap ∧ va_D A [(sb, .inr (1, [.ref va, .int (0 : Int32), .int ml, .int (F_J5_append_3fe6f ml ct bt ic).1])), (va, .inl (k.2.2.1, cap, .inl (F_J5_append_3fe6f ml ct bt ic).2))]) A) (by decide) rfl rfl (Nat.le_of_ble_eq_true rfl) ?_
  intro p e s m below meth c A H hx hb hml hr hts hown hlk hname hA hP hE hD hS ls hl
  obtain ⟨RES, hF⟩ : ∃ z, (F_J5_append_3fe6f ml ct bt ic) = z := ⟨_, rfl⟩
  rw [hF]
  unfold F_J5_append_3fe6f at hF
  have hl : lv_has ls 2 [(0, .ref sb), (1, .int ic)] := hl
  obtain ⟨locs, hlocs⟩ : ∃ z : List Loc, z = [] := ⟨_, rfl⟩
  rw [← hlocs] at hS ⊢
  refine lv_aload_n hx hb dJ5_append_3fe6f_0 rfl (lv_at hl 0 rfl) ?_
  refine lv_aload_n hx hb dJ5_append_3fe6f_1 rfl (lv_at hl 0 rfl) ?_
  refine va_get (D := D) (ci := 1) (v := .int ct) (C := RJ4) (T := TJ4) (N := 4) hx hb hts in_J5_append_3fe6f_J4 hown hE.1 hP 0 rfl rfl 3 (by decide) (hts _ lk_J5_append_3fe6f_79) (fun _ h9 => h9) rfl dJ5_append_3fe6f_2 ?_
  refine lv_iconst (v := 1) hx hb dJ5_append_3fe6f_5 (by decide) ?_
  refine lv_iadd hx hb dJ5_append_3fe6f_6 ?_
  refine fc_cv (isC := [0, 1]) (cells' := 0) (slots' := 0) (fc_runU (n := 1) (As := [.int (ct + (1 : Int32))]) (rest := []) (isC := [0, 1]) (maxL := 3) ⟨hx, hb, hml, hown, hts⟩ (c_J5_ensure_a sb va cap ml ct bt (ct + (1 : Int32)) hcap H.size) gJ5_append_3fe6f_J5_ensureCapacityInternal_d00df_u100J4 rfl rfl (by decide +kernel) rfl ⟨Nat.le_of_ble_eq_true rfl, Nat.le_of_ble_eq_true rfl⟩ ⟨Nat.le_of_ble_eq_true rfl, Nat.le_of_ble_eq_true rfl⟩ hE hP hD hS hA rfl rfl (va_recv hE.1 hP (ci := 1) (q0 := 0) rfl rfl) hl rfl (Nat.le_of_ble_eq_true rfl) dJ5_append_3fe6f_7) hP hD hS hA rfl (fun _ => rfl) rfl rfl (fun _ H locs _ hP hD hS => ?_)
  dsimp only [fs, List.set] at hP hD
  have hP : va_P D vwCl [(sb, .inr (1, [.ref va, .int (0 : Int32), .int ml, .int ct])), (va, .inl (k.2.2.1, cap, .inl bt))] H := hP
  have hD : va_D A [(sb, .inr (1, [.ref va, .int (0 : Int32), .int ml, .int ct])), (va, .inl (k.2.2.1, cap, .inl bt))] := hD
  refine lv_aload_n hx hb dJ5_append_3fe6f_10 rfl (lv_at hl 0 rfl) ?_
  refine fc_ci (isC := [0, 1]) (cells' := 0) (slots' := 0) (fc_runU (n := 0) (As := []) (rest := []) (isC := [0, 1]) (maxL := 1) ⟨hx, hb, hml, hown, hts⟩ (c_J5_isLatin1_aae02 sb va cap ml ct bt H.size) gJ5_append_3fe6f_J5_isLatin1_aae02_u83J4 rfl rfl (by decide +kernel) rfl ⟨Nat.le_of_ble_eq_true rfl, Nat.le_of_ble_eq_true rfl⟩ ⟨Nat.le_of_ble_eq_true rfl, Nat.le_of_ble_eq_true rfl⟩ hE hP hD hS hA rfl rfl (va_recv hE.1 hP (ci := 1) (q0 := 0) rfl rfl) hl rfl (Nat.le_of_ble_eq_true rfl) dJ5_append_3fe6f_11) hP hD hS hA rfl (fun _ => rfl) rfl rfl (fun r_1 _ H locs hr_1 hP hD hS => ?_)
  obtain rfl : (1 : Int32) = r_1 := hr_1.symm
  dsimp only [fs, List.set] at hP hD
  have hP : va_P D vwCl [(sb, .inr (1, [.ref va, .int (0 : Int32), .int ml, .int ct])), (va, .inl (k.2.2.1, cap, .inl bt))] H := hP
  have hD : va_D A [(sb, .inr (1, [.ref va, .int (0 : Int32), .int ml, .int ct])), (va, .inl (k.2.2.1, cap, .inl bt))] := hD
  refine lv_if_eq (tgt := 45) hx hb dJ5_append_3fe6f_14 (by decide) (fun c_2 => absurd c_2 (by decide)) (fun c_2 => ?_)
  refine lv_iload_n hx hb dJ5_append_3fe6f_17 rfl (lv_at hl 1 rfl) ?_
  refine fc_ci (isC := []) (cells' := 0) (slots' := 0) (fc_runS (n := 1) (As := [.int ic]) (rest := []) (isC := []) (maxL := 1) ⟨hx, hb, hml, hown, hts⟩ (c_J1_canEncode_fc78d ic hc H.size) gJ5_append_3fe6f_J1_canEncode_fc78d rfl (by decide +kernel) rfl ⟨Nat.le_of_ble_eq_true rfl, Nat.le_of_ble_eq_true rfl⟩ ⟨Nat.le_of_ble_eq_true rfl, Nat.le_of_ble_eq_true rfl⟩ hE hP hD hS hA rfl rfl hl rfl (Nat.le_of_ble_eq_true rfl) dJ5_append_3fe6f_18) hP hD hS hA rfl (fun _ => rfl) rfl rfl (fun r_3 _ H locs hr_3 hP hD hS => ?_)
  obtain rfl : (1 : Int32) = r_3 := hr_3.symm
  dsimp only [fs, List.set] at hP hD
  have hP : va_P D vwCl [(sb, .inr (1, [.ref va, .int (0 : Int32), .int ml, .int ct])), (va, .inl (k.2.2.1, cap, .inl bt))] H := hP
  have hD : va_D A [(sb, .inr (1, [.ref va, .int (0 : Int32), .int ml, .int ct])), (va, .inl (k.2.2.1, cap, .inl bt))] := hD
  refine lv_if_eq (tgt := 45) hx hb dJ5_append_3fe6f_21 (by decide) (fun c_4 => absurd c_4 (by decide)) (fun c_4 => ?_)
  refine lv_aload_n hx hb dJ5_append_3fe6f_24 rfl (lv_at hl 0 rfl) ?_
  refine va_get (D := D) (ci := 1) (v := .ref va) (C := RJ4) (T := TJ4) (N := 4) hx hb hts in_J5_append_3fe6f_J4 hown hE.1 hP 0 rfl rfl 0 (by decide) (hts _ lk_J5_append_3fe6f_15) (fun _ h9 => h9) rfl dJ5_append_3fe6f_25 ?_
  refine lv_aload_n hx hb dJ5_append_3fe6f_28 rfl (lv_at hl 0 rfl) ?_
  refine lv_dup hx hb dJ5_append_3fe6f_29 rfl ?_
  refine va_get (D := D) (ci := 1) (v := .int ct) (C := RJ4) (T := TJ4) (N := 4) hx hb hts in_J5_append_3fe6f_J4 hown hE.1 hP 0 rfl rfl 3 (by decide) (hts _ lk_J5_append_3fe6f_79) (fun _ h9 => h9) rfl dJ5_append_3fe6f_30 ?_
  refine lv_dup_x1 hx hb dJ5_append_3fe6f_33 rfl rfl ?_
  refine lv_iconst (v := 1) hx hb dJ5_append_3fe6f_34 (by decide) ?_
  refine lv_iadd hx hb dJ5_append_3fe6f_35 ?_
  refine va_put (D := D) (ci := 1) (v := .int (ct + (1 : Int32))) (ty := .int) (C := RJ4) (T := TJ4) (N := 4) hx hb hts in_J5_append_3fe6f_J4 tyJ4 tyJ4_ok nmJ4 hown hE.1 hP hD hS 0 rfl rfl 3 (by decide) (hts _ lk_J5_append_3fe6f_79) (fun _ h9 => h9) rfl (by decide +kernel) rfl rfl (Nat.le_of_ble_eq_true rfl) dJ5_append_3fe6f_36 (fun H locs hP hD hS => ?_)
  have hP : va_P D vwCl [(sb, .inr (1, [.ref va, .int (0 : Int32), .int ml, .int (ct + (1 : Int32))])), (va, .inl (k.2.2.1, cap, .inl bt))] H := hP
  have hD : va_D A [(sb, .inr (1, [.ref va, .int (0 : Int32), .int ml, .int (ct + (1 : Int32))])), (va, .inl (k.2.2.1, cap, .inl bt))] := hD
  refine lv_iload_n hx hb dJ5_append_3fe6f_39 rfl (lv_at hl 1 rfl) ?_
  refine lv_i2b hx hb dJ5_append_3fe6f_40 rfl ?_
  refine va_bast hx hb hE.1 hP hD hS 1 2 rfl rfl hv dJ5_append_3fe6f_41 (fun H locs hP hD hS => ?_)
  have hP : va_P D vwCl [(sb, .inr (1, [.ref va, .int (0 : Int32), .int ml, .int (ct + (1 : Int32))])), (va, .inl (k.2.2.1, cap, .inl (upd bt (ct).toNatClampNeg (vp_nar .byte (ic).toInt8.toInt32))))] H := hP
  have hD : va_D A [(sb, .inr (1, [.ref va, .int (0 : Int32), .int ml, .int (ct + (1 : Int32))])), (va, .inl (k.2.2.1, cap, .inl (upd bt (ct).toNatClampNeg (vp_nar .byte (ic).toInt8.toInt32))))] := hD
  refine lv_goto (tgt := 75) hx hb dJ5_append_3fe6f_42 (by decide) ?_
  refine lv_aload_n hx hb dJ5_append_3fe6f_75 rfl (lv_at hl 0 rfl) ?_
  subst hF
  exact fc_aret hx hb hr (Or.inl ⟨_, rfl⟩) hlk hS rfl hP hD (by decide) (by decide) dJ5_append_3fe6f_76

abbrev rm_J5_charAt_5068e : Room := { frames := 2, cells := 0, slots := 0, locals := 43 }
theorem in_J5_charAt_5068e_J4 : ∀ w ∈ wsJ40, w ∈ wsJ5_charAt_5068e := by decide +kernel
theorem lk_J5_charAt_5068e_15 : (Cond.fieldLink RJ5 15 "java/lang/AbstractStringBuilder" "value" "[B") ∈ wsJ5_charAt_5068e := by decide +kernel
theorem lk_J5_charAt_5068e_22 : (Cond.fieldLink RJ5 22 "java/lang/AbstractStringBuilder" "coder" "B") ∈ wsJ5_charAt_5068e := by decide +kernel
theorem lk_J5_charAt_5068e_79 : (Cond.fieldLink RJ5 79 "java/lang/AbstractStringBuilder" "count" "I") ∈ wsJ5_charAt_5068e := by decide +kernel
def F_J5_charAt_5068e (ml : Int32) (ct : Int32) (bt : (Nat → Int32)) (ii : Int32) : Int32 := (((((bt (ii).toNatClampNeg) &&& (255 : Int32))).toUInt32 % 65536).toInt32)
set_option maxHeartbeats 4000000 in
set_option maxRecDepth 100000 in
theorem c_J5_charAt_5068e {l : Launch} {D : va_G} {k : tyK} (sb va : Nat) (cap : Nat) (ml : Int32) (ct : Int32) (bt : (Nat → Int32)) (ii : Int32) (h0 : ¬ ii < 0) (h1 : ii < (if ((Int32.ofNat cap) >>> ((0 : Int32) &&& 31)) < ct then ((Int32.ofNat cap) >>> ((0 : Int32) &&& 31)) else ct)) (hv : vp_in ii cap) : FCi l yJ5_charAt_5068e wsJ5_charAt_5068e rm_J5_charAt_5068e D k [.ref sb, .int ii] [(sb, .inr (1, [.ref va, .int (0 : Int32), .int ml, .int ct])), (va, .inl (k.2.2.1, cap, .inl bt))] (fun r (_ : Unit) => r = (F_J5_charAt_5068e ml ct bt ii)) (fun _ => [(sb, .inr (1, [.ref va, .int (0 : Int32), .int ml, .int ct])), (va, .inl (k.2.2.1, cap, .inl bt))]) := by
  refine fc_start (cc := cJ5_charAt_5068e) (maxL := 5) (ret := (some .char)) (own := RJ5) (Qc := fun A => va_Qi (fun r (_ : Unit) => r = (F_J5_charAt_5068e ml ct bt ii)) (Bt D (fun _ => [(sb, .inr (1, [.ref va, .int (0 : Int32), .int ml, .int ct])), (va, .inl (k.2.2.1, cap, .inl bt))]) A) A) (by decide) rfl rfl (Nat.le_of_ble_eq_true rfl) ?_
  intro p e s m below meth c A H hx hb hml hr hts hown hlk hname hA hP hE hD hS ls hl
  obtain ⟨RES, hF⟩ : ∃ z, (F_J5_charAt_5068e ml ct bt ii) = z := ⟨_, rfl⟩
  rw [hF]
  unfold F_J5_charAt_5068e at hF
  have hl : lv_has ls 5 [(0, .ref sb), (1, .int ii)] := hl
  obtain ⟨locs, hlocs⟩ : ∃ z : List Loc, z = [] := ⟨_, rfl⟩
  rw [← hlocs] at hS ⊢
  refine lv_aload_n hx hb dJ5_charAt_5068e_0 rfl (lv_at hl 0 rfl) ?_
  refine va_get (D := D) (ci := 1) (v := .int (0 : Int32)) (C := RJ4) (T := TJ4) (N := 4) hx hb hts in_J5_charAt_5068e_J4 hown hE.1 hP 0 rfl rfl 1 (by decide) (hts _ lk_J5_charAt_5068e_22) (fun _ h9 => h9) rfl dJ5_charAt_5068e_1 ?_
  refine lv_istore_n (lv' := [(2, .int (0 : Int32)), (0, .ref sb), (1, .int ii)]) hx hb dJ5_charAt_5068e_4 rfl hl (by decide) rfl (fun ls hl => ?_)
  refine lv_aload_n hx hb dJ5_charAt_5068e_5 rfl (lv_at hl 1 rfl) ?_
  refine va_get (D := D) (ci := 1) (v := .ref va) (C := RJ4) (T := TJ4) (N := 4) hx hb hts in_J5_charAt_5068e_J4 hown hE.1 hP 0 rfl rfl 0 (by decide) (hts _ lk_J5_charAt_5068e_15) (fun _ h9 => h9) rfl dJ5_charAt_5068e_6 ?_
  refine lv_astore_n (lv' := [(3, .ref va), (2, .int (0 : Int32)), (0, .ref sb), (1, .int ii)]) hx hb dJ5_charAt_5068e_9 rfl hl (by decide) rfl (fun ls hl => ?_)
  refine lv_aload_n hx hb dJ5_charAt_5068e_10 rfl (lv_at hl 2 rfl) ?_
  refine va_get (D := D) (ci := 1) (v := .int ct) (C := RJ4) (T := TJ4) (N := 4) hx hb hts in_J5_charAt_5068e_J4 hown hE.1 hP 0 rfl rfl 3 (by decide) (hts _ lk_J5_charAt_5068e_79) (fun _ h9 => h9) rfl dJ5_charAt_5068e_11 ?_
  refine lv_aload_n hx hb dJ5_charAt_5068e_14 rfl (lv_at hl 0 rfl) ?_
  refine va_alen (v := (Int32.ofNat cap)) hx hb hE.1 hP 1 2 rfl rfl rfl dJ5_charAt_5068e_15 ?_
  refine lv_iload_n hx hb dJ5_charAt_5068e_16 rfl (lv_at hl 1 rfl) ?_
  refine lv_ishr hx hb dJ5_charAt_5068e_17 ?_
  refine va_mmin hx hb (hml.trans hl.1.symm) hown (hts (.methodLink RJ5 138 Lib.Math.min.name) (by decide +kernel)) (hts (.static Lib.Math.min.name) (by decide +kernel)) (hts (.initialized "java/lang/Math") (by decide +kernel)) (hts (.code Lib.Math.min.name Lib.Math.min.code 2 (some .int)) (by decide +kernel)) (by decide) (Nat.le_of_ble_eq_true rfl) (Nat.zero_le _) (Nat.zero_le _) dJ5_charAt_5068e_18 ?_
  refine lv_istore (lv' := [(4, .int (if ((Int32.ofNat cap) >>> ((0 : Int32) &&& 31)) < ct then ((Int32.ofNat cap) >>> ((0 : Int32) &&& 31)) else ct)), (3, .ref va), (2, .int (0 : Int32)), (0, .ref sb), (1, .int ii)]) hx hb dJ5_charAt_5068e_21 hl (by decide) rfl (fun ls hl => ?_)
  refine lv_iload_n hx hb dJ5_charAt_5068e_23 rfl (lv_at hl 4 rfl) ?_
  refine lv_iload hx hb dJ5_charAt_5068e_24 (lv_at hl 0 rfl) ?_
  refine fc_cv (isC := []) (cells' := 0) (slots' := 0) (fc_runS (n := 2) (As := [.int ii, .int (if ((Int32.ofNat cap) >>> ((0 : Int32) &&& 31)) < ct then ((Int32.ofNat cap) >>> ((0 : Int32) &&& 31)) else ct)]) (rest := []) (isC := []) (maxL := 2) ⟨hx, hb, hml, hown, hts⟩ (c_J0_checkIndex_df160 ii (if ((Int32.ofNat cap) >>> ((0 : Int32) &&& 31)) < ct then ((Int32.ofNat cap) >>> ((0 : Int32) &&& 31)) else ct) h0 h1 H.size) gJ5_charAt_5068e_J0_checkIndex_df160 rfl (by decide +kernel) rfl ⟨Nat.le_of_ble_eq_true rfl, Nat.le_of_ble_eq_true rfl⟩ ⟨Nat.le_of_ble_eq_true rfl, Nat.le_of_ble_eq_true rfl⟩ hE hP hD hS hA rfl rfl hl rfl (Nat.le_of_ble_eq_true rfl) dJ5_charAt_5068e_26) hP hD hS hA rfl (fun _ => rfl) rfl rfl (fun _ H locs _ hP hD hS => ?_)
  dsimp only [fs, List.set] at hP hD
  have hP : va_P D vwCl [(sb, .inr (1, [.ref va, .int (0 : Int32), .int ml, .int ct])), (va, .inl (k.2.2.1, cap, .inl bt))] H := hP
  have hD : va_D A [(sb, .inr (1, [.ref va, .int (0 : Int32), .int ml, .int ct])), (va, .inl (k.2.2.1, cap, .inl bt))] := hD
  refine lv_iload_n hx hb dJ5_charAt_5068e_29 rfl (lv_at hl 2 rfl) ?_
  refine lv_if_ne (tgt := 42) hx hb dJ5_charAt_5068e_30 (by decide) (fun c_1 => absurd c_1 (by decide)) (fun c_1 => ?_)
  refine lv_aload_n hx hb dJ5_charAt_5068e_33 rfl (lv_at hl 1 rfl) ?_
  refine lv_iload_n hx hb dJ5_charAt_5068e_34 rfl (lv_at hl 4 rfl) ?_
  refine va_bald hx hb hE.1 hP 1 2 rfl rfl hv dJ5_charAt_5068e_35 ?_
  refine lv_sipush (v := 255) hx hb dJ5_charAt_5068e_36 (by decide) ?_
  refine lv_iand hx hb dJ5_charAt_5068e_39 ?_
  refine lv_i2c hx hb dJ5_charAt_5068e_40 rfl ?_
  subst hF
  exact fc_iret hx hb hr (pk_nc _) hlk hS () rfl hP hD (by decide) (by decide) dJ5_charAt_5068e_41

abbrev rm_J5_setLength_d00df : Room := { frames := 1, cells := 0, slots := 0, locals := 22 }
theorem in_J5_setLength_d00df_J4 : ∀ w ∈ wsJ40, w ∈ wsJ5_setLength_d00df := by decide +kernel
theorem lk_J5_setLength_d00df_73 : (Cond.fieldLink RJ5 73 "java/lang/AbstractStringBuilder" "maybeLatin1" "Z") ∈ wsJ5_setLength_d00df := by decide +kernel
theorem lk_J5_setLength_d00df_79 : (Cond.fieldLink RJ5 79 "java/lang/AbstractStringBuilder" "count" "I") ∈ wsJ5_setLength_d00df := by decide +kernel
def F_J5_setLength_d00df (ml : Int32) (ct : Int32) (bt : (Nat → Int32)) (iq : Int32) : Int32 × Int32 := (if ct ≤ iq then (ml, iq) else ((1 : Int32), iq))
set_option maxHeartbeats 4000000 in
set_option maxRecDepth 100000 in
theorem c_J5_setLength_d00df {l : Launch} {D : va_G} {k : tyK} (sb va : Nat) (cap : Nat) (ml : Int32) (ct : Int32) (bt : (Nat → Int32)) (iq : Int32) (hcap : (iq - ((Int32.ofNat cap) >>> ((0 : Int32) &&& 31))) ≤ (0 : Int32)) (h0 : (0 : Int32) ≤ iq) (h1 : iq ≤ ct) : FCv l yJ5_setLength_d00df wsJ5_setLength_d00df rm_J5_setLength_d00df D k [.ref sb, .int iq] [(sb, .inr (1, [.ref va, .int (0 : Int32), .int ml, .int ct])), (va, .inl (k.2.2.1, cap, .inl bt))] (fun (_ : Unit) => True) (fun _ => [(sb, .inr (1, [.ref va, .int (0 : Int32), .int (F_J5_setLength_d00df ml ct bt iq).1, .int (F_J5_setLength_d00df ml ct bt iq).2])), (va, .inl (k.2.2.1, cap, .inl bt))]) := by
  refine fc_start (cc := cJ5_setLength_d00df) (maxL := 2) (ret := none) (own := RJ5) (Qc := fun A => va_Qv (fun (_ : Unit) => True) (Bt D (fun _ => [(sb, .inr (1, [.ref va, .int (0 : Int32), .int (F_J5_setLength_d00df ml ct bt iq).1, .int (F_J5_setLength_d00df ml ct bt iq).2])), (va, .inl (k.2.2.1, cap, .inl bt))]) A) A) (by decide) rfl rfl (Nat.le_of_ble_eq_true rfl) ?_
  intro p e s m below meth c A H hx hb hml hr hts hown hlk hname hA hP hE hD hS ls hl
  obtain ⟨RES, hF⟩ : ∃ z, (F_J5_setLength_d00df ml ct bt iq) = z := ⟨_, rfl⟩
  rw [hF]
  unfold F_J5_setLength_d00df at hF
  have hl : lv_has ls 2 [(0, .ref sb), (1, .int iq)] := hl
  obtain ⟨locs, hlocs⟩ : ∃ z : List Loc, z = [] := ⟨_, rfl⟩
  rw [← hlocs] at hS ⊢
  refine lv_iload_n hx hb dJ5_setLength_d00df_0 rfl (lv_at hl 1 rfl) ?_
  refine lv_if_ge (tgt := 13) hx hb dJ5_setLength_d00df_1 (by decide) (fun c_1 => ?_) (fun c_1 => absurd h0 c_1)
  refine lv_aload_n hx hb dJ5_setLength_d00df_13 rfl (lv_at hl 0 rfl) ?_
  refine lv_iload_n hx hb dJ5_setLength_d00df_14 rfl (lv_at hl 1 rfl) ?_
  refine fc_cv (isC := [0, 1]) (cells' := 0) (slots' := 0) (fc_runU (n := 1) (As := [.int iq]) (rest := []) (isC := [0, 1]) (maxL := 3) ⟨hx, hb, hml, hown, hts⟩ (c_J5_ensure_a sb va cap ml ct bt iq hcap H.size) gJ5_setLength_d00df_J5_ensureCapacityInternal_d00df_u100J4 rfl rfl (by decide +kernel) rfl ⟨Nat.le_of_ble_eq_true rfl, Nat.le_of_ble_eq_true rfl⟩ ⟨Nat.le_of_ble_eq_true rfl, Nat.le_of_ble_eq_true rfl⟩ hE hP hD hS hA rfl rfl (va_recv hE.1 hP (ci := 1) (q0 := 0) rfl rfl) hl rfl (Nat.le_of_ble_eq_true rfl) dJ5_setLength_d00df_15) hP hD hS hA rfl (fun _ => rfl) rfl rfl (fun _ H locs _ hP hD hS => ?_)
  dsimp only [fs, List.set] at hP hD
  have hP : va_P D vwCl [(sb, .inr (1, [.ref va, .int (0 : Int32), .int ml, .int ct])), (va, .inl (k.2.2.1, cap, .inl bt))] H := hP
  have hD : va_D A [(sb, .inr (1, [.ref va, .int (0 : Int32), .int ml, .int ct])), (va, .inl (k.2.2.1, cap, .inl bt))] := hD
  refine lv_aload_n hx hb dJ5_setLength_d00df_18 rfl (lv_at hl 0 rfl) ?_
  refine va_get (D := D) (ci := 1) (v := .int ct) (C := RJ4) (T := TJ4) (N := 4) hx hb hts in_J5_setLength_d00df_J4 hown hE.1 hP 0 rfl rfl 3 (by decide) (hts _ lk_J5_setLength_d00df_79) (fun _ h9 => h9) rfl dJ5_setLength_d00df_19 ?_
  refine lv_iload_n hx hb dJ5_setLength_d00df_22 rfl (lv_at hl 1 rfl) ?_
  refine lv_icmp_ge (tgt := 63) hx hb dJ5_setLength_d00df_23 (by decide) (fun c_2 => ?_) (fun c_2 => absurd h1 c_2)
  refine lv_aload_n hx hb dJ5_setLength_d00df_63 rfl (lv_at hl 0 rfl) ?_
  refine va_get (D := D) (ci := 1) (v := .int ct) (C := RJ4) (T := TJ4) (N := 4) hx hb hts in_J5_setLength_d00df_J4 hown hE.1 hP 0 rfl rfl 3 (by decide) (hts _ lk_J5_setLength_d00df_79) (fun _ h9 => h9) rfl dJ5_setLength_d00df_64 ?_
  refine lv_iload_n hx hb dJ5_setLength_d00df_67 rfl (lv_at hl 1 rfl) ?_
  refine lv_icmp_le (tgt := 76) hx hb dJ5_setLength_d00df_68 (by decide) (fun c_3 => ?_) (fun c_3 => ?_)
  · rw [if_pos c_3] at hF
    refine lv_aload_n hx hb dJ5_setLength_d00df_76 rfl (lv_at hl 0 rfl) ?_
    refine lv_iload_n hx hb dJ5_setLength_d00df_77 rfl (lv_at hl 1 rfl) ?_
    refine va_put (D := D) (ci := 1) (v := .int iq) (ty := .int) (C := RJ4) (T := TJ4) (N := 4) hx hb hts in_J5_setLength_d00df_J4 tyJ4 tyJ4_ok nmJ4 hown hE.1 hP hD hS 0 rfl rfl 3 (by decide) (hts _ lk_J5_setLength_d00df_79) (fun _ h9 => h9) rfl (by decide +kernel) rfl rfl (Nat.le_of_ble_eq_true rfl) dJ5_setLength_d00df_78 (fun H locs hP hD hS => ?_)
    have hP : va_P D vwCl [(sb, .inr (1, [.ref va, .int (0 : Int32), .int ml, .int iq])), (va, .inl (k.2.2.1, cap, .inl bt))] H := hP
    have hD : va_D A [(sb, .inr (1, [.ref va, .int (0 : Int32), .int ml, .int iq])), (va, .inl (k.2.2.1, cap, .inl bt))] := hD
    subst hF
    exact fc_vret hx hb hr hlk hS () trivial hP hD (by decide) (by decide) dJ5_setLength_d00df_81
  · rw [if_neg c_3] at hF
    refine lv_aload_n hx hb dJ5_setLength_d00df_71 rfl (lv_at hl 0 rfl) ?_
    refine lv_iconst (v := 1) hx hb dJ5_setLength_d00df_72 (by decide) ?_
    refine va_put (D := D) (ci := 1) (v := .int (1 : Int32)) (ty := .boolean) (C := RJ4) (T := TJ4) (N := 4) hx hb hts in_J5_setLength_d00df_J4 tyJ4 tyJ4_ok nmJ4 hown hE.1 hP hD hS 0 rfl rfl 2 (by decide) (hts _ lk_J5_setLength_d00df_73) (fun _ h9 => h9) rfl (by decide +kernel) rfl rfl (Nat.le_of_ble_eq_true rfl) dJ5_setLength_d00df_73 (fun H locs hP hD hS => ?_)
    have hP : va_P D vwCl [(sb, .inr (1, [.ref va, .int (0 : Int32), .int (1 : Int32), .int ct])), (va, .inl (k.2.2.1, cap, .inl bt))] H := hP
    have hD : va_D A [(sb, .inr (1, [.ref va, .int (0 : Int32), .int (1 : Int32), .int ct])), (va, .inl (k.2.2.1, cap, .inl bt))] := hD
    refine lv_aload_n hx hb dJ5_setLength_d00df_76 rfl (lv_at hl 0 rfl) ?_
    refine lv_iload_n hx hb dJ5_setLength_d00df_77 rfl (lv_at hl 1 rfl) ?_
    refine va_put (D := D) (ci := 1) (v := .int iq) (ty := .int) (C := RJ4) (T := TJ4) (N := 4) hx hb hts in_J5_setLength_d00df_J4 tyJ4 tyJ4_ok nmJ4 hown hE.1 hP hD hS 0 rfl rfl 3 (by decide) (hts _ lk_J5_setLength_d00df_79) (fun _ h9 => h9) rfl (by decide +kernel) rfl rfl (Nat.le_of_ble_eq_true rfl) dJ5_setLength_d00df_78 (fun H locs hP hD hS => ?_)
    have hP : va_P D vwCl [(sb, .inr (1, [.ref va, .int (0 : Int32), .int (1 : Int32), .int iq])), (va, .inl (k.2.2.1, cap, .inl bt))] H := hP
    have hD : va_D A [(sb, .inr (1, [.ref va, .int (0 : Int32), .int (1 : Int32), .int iq])), (va, .inl (k.2.2.1, cap, .inl bt))] := hD
    subst hF
    exact fc_vret hx hb hr hlk hS () trivial hP hD (by decide) (by decide) dJ5_setLength_d00df_81

abbrev rm_J6_stringSize_0f7a4 : Room := { frames := 0, cells := 0, slots := 0, locals := 0 }
def F_J6_stringSize_0f7a4  (ii : Int32) : Int32 := (if (-ii) ≤ (-10 : Int32) then (2 : Int32) else (1 : Int32))
set_option maxHeartbeats 4000000 in
set_option maxRecDepth 100000 in
theorem c_J6_stringSize_0f7a4 {l : Launch} {D : va_G} {k : tyK}  (ii : Int32) (h0 : (0 : Int32) ≤ ii) (h9 : ¬ (-ii) ≤ (-100 : Int32)) : FCi l yJ6_stringSize_0f7a4 wsJ6_stringSize_0f7a4 rm_J6_stringSize_0f7a4 D k [.int ii] [] (fun r (_ : Unit) => r = (F_J6_stringSize_0f7a4 ii)) (fun _ => []) := by
  refine fc_start (cc := cJ6_stringSize_0f7a4) (maxL := 4) (ret := (some .int)) (own := RJ6) (Qc := fun A => va_Qi (fun r (_ : Unit) => r = (F_J6_stringSize_0f7a4 ii)) (Bt D (fun _ => []) A) A) (by decide) rfl rfl (Nat.le_of_ble_eq_true rfl) ?_
  intro p e s m below meth c A H hx hb hml hr hts hown hlk hname hA hP hE hD hS ls hl
  obtain ⟨RES, hF⟩ : ∃ z, (F_J6_stringSize_0f7a4 ii) = z := ⟨_, rfl⟩
  rw [hF]
  unfold F_J6_stringSize_0f7a4 at hF
  have hl : lv_has ls 4 [(0, .int ii)] := hl
  obtain ⟨locs, hlocs⟩ : ∃ z : List Loc, z = [] := ⟨_, rfl⟩
  rw [← hlocs] at hS ⊢
  refine lv_iconst (v := 1) hx hb dJ6_stringSize_0f7a4_0 (by decide) ?_
  refine lv_istore_n (lv' := [(1, .int (1 : Int32)), (0, .int ii)]) hx hb dJ6_stringSize_0f7a4_1 rfl hl (by decide) rfl (fun ls hl => ?_)
  refine lv_iload_n hx hb dJ6_stringSize_0f7a4_2 rfl (lv_at hl 1 rfl) ?_
  refine lv_if_lt (tgt := 11) hx hb dJ6_stringSize_0f7a4_3 (by decide) (fun c_1 => absurd c_1 (Int32.not_lt.mpr h0)) (fun c_1 => ?_)
  refine lv_iconst (v := 0) hx hb dJ6_stringSize_0f7a4_6 (by decide) ?_
  refine lv_istore_n (lv' := [(1, .int (0 : Int32)), (0, .int ii)]) hx hb dJ6_stringSize_0f7a4_7 rfl hl (by decide) rfl (fun ls hl => ?_)
  refine lv_iload_n hx hb dJ6_stringSize_0f7a4_8 rfl (lv_at hl 1 rfl) ?_
  refine lv_ineg hx hb dJ6_stringSize_0f7a4_9 ?_
  refine lv_istore_n (lv' := [(0, .int (-ii)), (1, .int (0 : Int32))]) hx hb dJ6_stringSize_0f7a4_10 rfl hl (by decide) rfl (fun ls hl => ?_)
  refine lv_bipush (v := -10) hx hb dJ6_stringSize_0f7a4_11 (by decide) ?_
  refine lv_istore_n (lv' := [(2, .int (-10 : Int32)), (0, .int (-ii)), (1, .int (0 : Int32))]) hx hb dJ6_stringSize_0f7a4_13 rfl hl (by decide) rfl (fun ls hl => ?_)
  refine lv_iconst (v := 1) hx hb dJ6_stringSize_0f7a4_14 (by decide) ?_
  refine lv_istore_n (lv' := [(3, .int (1 : Int32)), (2, .int (-10 : Int32)), (0, .int (-ii)), (1, .int (0 : Int32))]) hx hb dJ6_stringSize_0f7a4_15 rfl hl (by decide) rfl (fun ls hl => ?_)
  refine lv_iload_n hx hb dJ6_stringSize_0f7a4_16 rfl (lv_at hl 0 rfl) ?_
  refine lv_bipush (v := 10) hx hb dJ6_stringSize_0f7a4_17 (by decide) ?_
  refine lv_icmp_ge (tgt := 42) hx hb dJ6_stringSize_0f7a4_19 (by decide) (fun c_2 => absurd c_2 (by decide)) (fun c_2 => ?_)
  refine lv_iload_n hx hb dJ6_stringSize_0f7a4_22 rfl (lv_at hl 2 rfl) ?_
  refine lv_iload_n hx hb dJ6_stringSize_0f7a4_23 rfl (lv_at hl 1 rfl) ?_
  refine lv_icmp_le (tgt := 31) hx hb dJ6_stringSize_0f7a4_24 (by decide) (fun c_3 => ?_) (fun c_3 => ?_)
  · rw [if_pos c_3] at hF
    refine lv_bipush (v := 10) hx hb dJ6_stringSize_0f7a4_31 (by decide) ?_
    refine lv_iload_n hx hb dJ6_stringSize_0f7a4_33 rfl (lv_at hl 1 rfl) ?_
    refine lv_imul hx hb dJ6_stringSize_0f7a4_34 ?_
    refine W.eq (g2 := F0 m 35 ls [.int (-100 : Int32)]) rfl ?_
    refine lv_istore_n (lv' := [(2, .int (-100 : Int32)), (3, .int (1 : Int32)), (0, .int (-ii)), (1, .int (0 : Int32))]) hx hb dJ6_stringSize_0f7a4_35 rfl hl (by decide) rfl (fun ls hl => ?_)
    refine lv_iinc (v := (2 : Int32)) (lv' := [(3, .int (2 : Int32)), (2, .int (-100 : Int32)), (0, .int (-ii)), (1, .int (0 : Int32))]) hx hb dJ6_stringSize_0f7a4_36 hl (k := 1) rfl rfl (by decide) rfl (fun ls hl => ?_)
    refine lv_goto (tgt := 16) hx hb dJ6_stringSize_0f7a4_39 (by decide) ?_
    refine lv_iload_n hx hb dJ6_stringSize_0f7a4_16 rfl (lv_at hl 0 rfl) ?_
    refine lv_bipush (v := 10) hx hb dJ6_stringSize_0f7a4_17 (by decide) ?_
    refine lv_icmp_ge (tgt := 42) hx hb dJ6_stringSize_0f7a4_19 (by decide) (fun c_4 => absurd c_4 (by decide)) (fun c_4 => ?_)
    refine lv_iload_n hx hb dJ6_stringSize_0f7a4_22 rfl (lv_at hl 2 rfl) ?_
    refine lv_iload_n hx hb dJ6_stringSize_0f7a4_23 rfl (lv_at hl 1 rfl) ?_
    refine lv_icmp_le (tgt := 31) hx hb dJ6_stringSize_0f7a4_24 (by decide) (fun c_5 => absurd c_5 h9) (fun c_5 => ?_)
    refine lv_iload_n hx hb dJ6_stringSize_0f7a4_27 rfl (lv_at hl 0 rfl) ?_
    refine lv_iload_n hx hb dJ6_stringSize_0f7a4_28 rfl (lv_at hl 3 rfl) ?_
    refine lv_iadd hx hb dJ6_stringSize_0f7a4_29 ?_
    refine W.eq (g2 := F0 m 30 ls [.int (2 : Int32)]) rfl ?_
    subst hF
    exact fc_iret hx hb hr rfl hlk hS () rfl hP hD (by decide) (by decide) dJ6_stringSize_0f7a4_30
  · rw [if_neg c_3] at hF
    refine lv_iload_n hx hb dJ6_stringSize_0f7a4_27 rfl (lv_at hl 0 rfl) ?_
    refine lv_iload_n hx hb dJ6_stringSize_0f7a4_28 rfl (lv_at hl 3 rfl) ?_
    refine lv_iadd hx hb dJ6_stringSize_0f7a4_29 ?_
    refine W.eq (g2 := F0 m 30 ls [.int (1 : Int32)]) rfl ?_
    subst hF
    exact fc_iret hx hb hr rfl hlk hS () rfl hP hD (by decide) (by decide) dJ6_stringSize_0f7a4_30

abbrev rm_J6_getChars_ba4f3 : Room := { frames := 0, cells := 0, slots := 0, locals := 0 }
theorem lk_J6_getChars_ba4f3_83 : (Cond.fieldLink RJ6 83 "java/lang/Integer" "DigitOnes" "[B") ∈ wsJ6_getChars_ba4f3 := by decide +kernel
theorem lk_J6_getChars_ba4f3_87 : (Cond.fieldLink RJ6 87 "java/lang/Integer" "DigitTens" "[B") ∈ wsJ6_getChars_ba4f3 := by decide +kernel
def F_J6_getChars_ba4f3 (bt : (Nat → Int32)) (ii : Int32) (ix : Int32) : Int32 × (Nat → Int32) := (if (-9 : Int32) ≤ (-ii) then ((ix + (-1 : Int32)), (upd bt ((ix + (-1 : Int32))).toNatClampNeg (vp_nar .byte (dgO ((-(-ii))).toNatClampNeg)))) else (((ix + (-1 : Int32)) + (-1 : Int32)), (upd (upd bt ((ix + (-1 : Int32))).toNatClampNeg (vp_nar .byte (dgO ((-(-ii))).toNatClampNeg))) (((ix + (-1 : Int32)) + (-1 : Int32))).toNatClampNeg (vp_nar .byte (dgT ((-(-ii))).toNatClampNeg)))))
set_option maxHeartbeats 4000000 in
set_option maxRecDepth 100000 in
theorem c_J6_getChars_ba4f3 {l : Launch} {D : va_G} {k : tyK} (va : Nat) (cap : Nat) (bt : (Nat → Int32)) (ii : Int32) (ix : Int32) (h0 : (0 : Int32) ≤ ii) (h9 : ¬ (-ii) ≤ (-100 : Int32)) (hd : vp_in (-(-ii)) 100) (hv : vp_in (ix + (-1 : Int32)) cap) (hw : ¬ (-9 : Int32) ≤ (-ii) → vp_in ((ix + (-1 : Int32)) + (-1 : Int32)) cap) : FCi l yJ6_getChars_ba4f3 wsJ6_getChars_ba4f3 rm_J6_getChars_ba4f3 D k [.int ii, .int ix, .ref va] [(va, .inl (k.2.2.1, cap, .inl bt))] (fun r (_ : Unit) => r = (F_J6_getChars_ba4f3 bt ii ix).1) (fun _ => [(va, .inl (k.2.2.1, cap, .inl (F_J6_getChars_ba4f3 bt ii ix).2))]) := by
  refine fc_start (cc := cJ6_getChars_ba4f3) (maxL := 7) (ret := (some .int)) (own := RJ6) (Qc := fun A => va_Qi (fun r (_ : Unit) => r = (F_J6_getChars_ba4f3 bt ii ix).1) (Bt D (fun _ => [(va, .inl (k.2.2.1, cap, .inl (F_J6_getChars_ba4f3 bt ii ix).2))]) A) A) (by decide) rfl rfl (Nat.le_of_ble_eq_true rfl) ?_
  intro p e s m below meth c A H hx hb hml hr hts hown hlk hname hA hP hE hD hS ls hl
  obtain ⟨RES, hF⟩ : ∃ z, (F_J6_getChars_ba4f3 bt ii ix) = z := ⟨_, rfl⟩
  rw [hF]
  unfold F_J6_getChars_ba4f3 at hF
  have hl : lv_has ls 7 [(0, .int ii), (1, .int ix), (2, .ref va)] := hl
  obtain ⟨locs, hlocs⟩ : ∃ z : List Loc, z = [] := ⟨_, rfl⟩
  rw [← hlocs] at hS ⊢
  refine lv_iload_n hx hb dJ6_getChars_ba4f3_0 rfl (lv_at hl 1 rfl) ?_
  refine lv_istore (lv' := [(5, .int ix), (0, .int ii), (1, .int ix), (2, .ref va)]) hx hb dJ6_getChars_ba4f3_1 hl (by decide) rfl (fun ls hl => ?_)
  refine lv_iload_n hx hb dJ6_getChars_ba4f3_3 rfl (lv_at hl 1 rfl) ?_
  refine lv_if_ge (tgt := 11) hx hb dJ6_getChars_ba4f3_4 (by decide) (fun c_1 => ?_) (fun c_1 => absurd h0 c_1)
  refine lv_iconst (v := 0) hx hb dJ6_getChars_ba4f3_11 (by decide) ?_
  refine lv_istore (lv' := [(6, .int (0 : Int32)), (5, .int ix), (0, .int ii), (1, .int ix), (2, .ref va)]) hx hb dJ6_getChars_ba4f3_12 hl (by decide) rfl (fun ls hl => ?_)
  refine lv_iload hx hb dJ6_getChars_ba4f3_14 (lv_at hl 0 rfl) ?_
  refine lv_if_ne (tgt := 22) hx hb dJ6_getChars_ba4f3_16 (by decide) (fun c_2 => absurd c_2 (by decide)) (fun c_2 => ?_)
  refine lv_iload_n hx hb dJ6_getChars_ba4f3_19 rfl (lv_at hl 2 rfl) ?_
  refine lv_ineg hx hb dJ6_getChars_ba4f3_20 ?_
  refine lv_istore_n (lv' := [(0, .int (-ii)), (6, .int (0 : Int32)), (5, .int ix), (1, .int ix), (2, .ref va)]) hx hb dJ6_getChars_ba4f3_21 rfl hl (by decide) rfl (fun ls hl => ?_)
  refine lv_iload_n hx hb dJ6_getChars_ba4f3_22 rfl (lv_at hl 0 rfl) ?_
  refine lv_bipush (v := -100) hx hb dJ6_getChars_ba4f3_23 (by decide) ?_
  refine lv_icmp_gt (tgt := 72) hx hb dJ6_getChars_ba4f3_25 (by decide) (fun c_3 => ?_) (fun c_3 => absurd (Int32.not_le.mp h9) c_3)
  refine lv_aload_n hx hb dJ6_getChars_ba4f3_72 rfl (lv_at hl 4 rfl) ?_
  refine lv_iinc (v := (ix + (-1 : Int32))) (lv' := [(5, .int (ix + (-1 : Int32))), (0, .int (-ii)), (6, .int (0 : Int32)), (1, .int ix), (2, .ref va)]) hx hb dJ6_getChars_ba4f3_73 hl (k := 2) rfl rfl (by decide) rfl (fun ls hl => ?_)
  refine lv_iload hx hb dJ6_getChars_ba4f3_76 (lv_at hl 0 rfl) ?_
  refine va_gets hx hb (GE.dO hE).1 hS hown (hts _ lk_J6_getChars_ba4f3_83) (fun _ h9 => h9) dJ6_getChars_ba4f3_78 ?_
  refine lv_iload_n hx hb dJ6_getChars_ba4f3_81 rfl (lv_at hl 1 rfl) ?_
  refine lv_ineg hx hb dJ6_getChars_ba4f3_82 ?_
  refine va_tb hx hb (GE.dO hE).2 hS hd (v := .int (dgO ((-(-ii))).toNatClampNeg)) rfl dJ6_getChars_ba4f3_83 ?_
  refine va_bast hx hb hE.1 hP hD hS 0 2 rfl rfl hv dJ6_getChars_ba4f3_84 (fun H locs hP hD hS => ?_)
  have hP : va_P D vwCl [(va, .inl (k.2.2.1, cap, .inl (upd bt ((ix + (-1 : Int32))).toNatClampNeg (vp_nar .byte (dgO ((-(-ii))).toNatClampNeg)))))] H := hP
  have hD : va_D A [(va, .inl (k.2.2.1, cap, .inl (upd bt ((ix + (-1 : Int32))).toNatClampNeg (vp_nar .byte (dgO ((-(-ii))).toNatClampNeg)))))] := hD
  refine lv_iload_n hx hb dJ6_getChars_ba4f3_85 rfl (lv_at hl 1 rfl) ?_
  refine lv_bipush (v := -9) hx hb dJ6_getChars_ba4f3_86 (by decide) ?_
  refine lv_icmp_ge (tgt := 104) hx hb dJ6_getChars_ba4f3_88 (by decide) (fun c_4 => ?_) (fun c_4 => ?_)
  · rw [if_pos c_4] at hF
    refine lv_iload hx hb dJ6_getChars_ba4f3_104 (lv_at hl 2 rfl) ?_
    refine lv_if_eq (tgt := 118) hx hb dJ6_getChars_ba4f3_106 (by decide) (fun c_5 => ?_) (fun c_5 => absurd c_5 (by decide))
    refine lv_iload hx hb dJ6_getChars_ba4f3_118 (lv_at hl 0 rfl) ?_
    subst hF
    exact fc_iret hx hb hr rfl hlk hS () rfl hP hD (by decide) (by decide) dJ6_getChars_ba4f3_120
  · rw [if_neg c_4] at hF
    refine lv_aload_n hx hb dJ6_getChars_ba4f3_91 rfl (lv_at hl 4 rfl) ?_
    refine lv_iinc (v := ((ix + (-1 : Int32)) + (-1 : Int32))) (lv' := [(5, .int ((ix + (-1 : Int32)) + (-1 : Int32))), (0, .int (-ii)), (6, .int (0 : Int32)), (1, .int ix), (2, .ref va)]) hx hb dJ6_getChars_ba4f3_92 hl (k := 0) rfl rfl (by decide) rfl (fun ls hl => ?_)
    refine lv_iload hx hb dJ6_getChars_ba4f3_95 (lv_at hl 0 rfl) ?_
    refine va_gets hx hb (GE.dT hE).1 hS hown (hts _ lk_J6_getChars_ba4f3_87) (fun _ h9 => h9) dJ6_getChars_ba4f3_97 ?_
    refine lv_iload_n hx hb dJ6_getChars_ba4f3_100 rfl (lv_at hl 1 rfl) ?_
    refine lv_ineg hx hb dJ6_getChars_ba4f3_101 ?_
    refine va_tb hx hb (GE.dT hE).2 hS hd (v := .int (dgT ((-(-ii))).toNatClampNeg)) rfl dJ6_getChars_ba4f3_102 ?_
    refine va_bast hx hb hE.1 hP hD hS 0 2 rfl rfl (hw (by assumption)) dJ6_getChars_ba4f3_103 (fun H locs hP hD hS => ?_)
    have hP : va_P D vwCl [(va, .inl (k.2.2.1, cap, .inl (upd (upd bt ((ix + (-1 : Int32))).toNatClampNeg (vp_nar .byte (dgO ((-(-ii))).toNatClampNeg))) (((ix + (-1 : Int32)) + (-1 : Int32))).toNatClampNeg (vp_nar .byte (dgT ((-(-ii))).toNatClampNeg)))))] H := hP
    have hD : va_D A [(va, .inl (k.2.2.1, cap, .inl (upd (upd bt ((ix + (-1 : Int32))).toNatClampNeg (vp_nar .byte (dgO ((-(-ii))).toNatClampNeg))) (((ix + (-1 : Int32)) + (-1 : Int32))).toNatClampNeg (vp_nar .byte (dgT ((-(-ii))).toNatClampNeg)))))] := hD
    refine lv_iload hx hb dJ6_getChars_ba4f3_104 (lv_at hl 2 rfl) ?_
    refine lv_if_eq (tgt := 118) hx hb dJ6_getChars_ba4f3_106 (by decide) (fun c_6 => ?_) (fun c_6 => absurd c_6 (by decide))
    refine lv_iload hx hb dJ6_getChars_ba4f3_118 (lv_at hl 0 rfl) ?_
    subst hF
    exact fc_iret hx hb hr rfl hlk hS () rfl hP hD (by decide) (by decide) dJ6_getChars_ba4f3_120

abbrev rm_J8_newLength_cabcc : Room := { frames := 1, cells := 0, slots := 0, locals := 24 }
def F_J8_newLength_cabcc  (io : Int32) (ig : Int32) (ip : Int32) : Int32 := (io + (if ig < ip then ip else ig))
set_option maxHeartbeats 4000000 in
set_option maxRecDepth 100000 in
theorem c_J8_newLength_cabcc {l : Launch} {D : va_G} {k : tyK}  (io : Int32) (ig : Int32) (ip : Int32) (hn : ¬ (io + (if ig < ip then ip else ig)) ≤ (0 : Int32)) (hm : ¬ (2147483639 : Int32) < (io + (if ig < ip then ip else ig))) : FCi l yJ8_newLength_cabcc wsJ8_newLength_cabcc rm_J8_newLength_cabcc D k [.int io, .int ig, .int ip] [] (fun r (_ : Unit) => r = (F_J8_newLength_cabcc io ig ip)) (fun _ => []) := by
  refine fc_start (cc := cJ8_newLength_cabcc) (maxL := 4) (ret := (some .int)) (own := RJ8) (Qc := fun A => va_Qi (fun r (_ : Unit) => r = (F_J8_newLength_cabcc io ig ip)) (Bt D (fun _ => []) A) A) (by decide) rfl rfl (Nat.le_of_ble_eq_true rfl) ?_
  intro p e s m below meth c A H hx hb hml hr hts hown hlk hname hA hP hE hD hS ls hl
  obtain ⟨RES, hF⟩ : ∃ z, (F_J8_newLength_cabcc io ig ip) = z := ⟨_, rfl⟩
  rw [hF]
  unfold F_J8_newLength_cabcc at hF
  have hl : lv_has ls 4 [(0, .int io), (1, .int ig), (2, .int ip)] := hl
  obtain ⟨locs, hlocs⟩ : ∃ z : List Loc, z = [] := ⟨_, rfl⟩
  rw [← hlocs] at hS ⊢
  refine lv_iload_n hx hb dJ8_newLength_cabcc_0 rfl (lv_at hl 0 rfl) ?_
  refine lv_iload_n hx hb dJ8_newLength_cabcc_1 rfl (lv_at hl 1 rfl) ?_
  refine lv_iload_n hx hb dJ8_newLength_cabcc_2 rfl (lv_at hl 2 rfl) ?_
  refine va_mmax hx hb (hml.trans hl.1.symm) hown (hts (.methodLink RJ8 194 Lib.Math.max.name) (by decide +kernel)) (hts (.static Lib.Math.max.name) (by decide +kernel)) (hts (.initialized "java/lang/Math") (by decide +kernel)) (hts (.code Lib.Math.max.name Lib.Math.max.code 2 (some .int)) (by decide +kernel)) (by decide) (Nat.le_of_ble_eq_true rfl) (Nat.zero_le _) (Nat.zero_le _) dJ8_newLength_cabcc_3 ?_
  refine lv_iadd hx hb dJ8_newLength_cabcc_6 ?_
  refine lv_istore_n (lv' := [(3, .int (io + (if ig < ip then ip else ig))), (0, .int io), (1, .int ig), (2, .int ip)]) hx hb dJ8_newLength_cabcc_7 rfl hl (by decide) rfl (fun ls hl => ?_)
  refine lv_iconst (v := 0) hx hb dJ8_newLength_cabcc_8 (by decide) ?_
  refine lv_iload_n hx hb dJ8_newLength_cabcc_9 rfl (lv_at hl 0 rfl) ?_
  refine lv_icmp_ge (tgt := 21) hx hb dJ8_newLength_cabcc_10 (by decide) (fun c_1 => absurd c_1 hn) (fun c_1 => ?_)
  refine lv_iload_n hx hb dJ8_newLength_cabcc_13 rfl (lv_at hl 0 rfl) ?_
  refine lv_ldc (v := 2147483639) hx hb hown (hts (.constant RJ8 200 (2147483639)) (by decide +kernel)) dJ8_newLength_cabcc_14 ?_
  refine lv_icmp_gt (tgt := 21) hx hb dJ8_newLength_cabcc_16 (by decide) (fun c_2 => absurd c_2 hm) (fun c_2 => ?_)
  refine lv_iload_n hx hb dJ8_newLength_cabcc_19 rfl (lv_at hl 0 rfl) ?_
  subst hF
  exact fc_iret hx hb hr rfl hlk hS () rfl hP hD (by decide) (by decide) dJ8_newLength_cabcc_20

abbrev rm_J5_newCapacity_0f7a4 : Room := { frames := 2, cells := 0, slots := 0, locals := 47 }
theorem in_J5_newCapacity_0f7a4_J4 : ∀ w ∈ wsJ40, w ∈ wsJ5_newCapacity_0f7a4 := by decide +kernel
theorem lk_J5_newCapacity_0f7a4_15 : (Cond.fieldLink RJ5 15 "java/lang/AbstractStringBuilder" "value" "[B") ∈ wsJ5_newCapacity_0f7a4 := by decide +kernel
theorem lk_J5_newCapacity_0f7a4_22 : (Cond.fieldLink RJ5 22 "java/lang/AbstractStringBuilder" "coder" "B") ∈ wsJ5_newCapacity_0f7a4 := by decide +kernel
def F_J5_newCapacity_0f7a4 (cap : Nat) (ml : Int32) (ct : Int32) (bt : (Nat → Int32)) (iq : Int32) : Int32 := (letp (F_J8_newLength_cabcc (Int32.ofNat cap) ((iq <<< ((0 : Int32) &&& 31)) - (Int32.ofNat cap)) ((Int32.ofNat cap) + ((2 : Int32) <<< ((0 : Int32) &&& 31)))) (fun (p_1 : Int32) => (p_1 >>> ((0 : Int32) &&& 31))))
set_option maxHeartbeats 4000000 in
set_option maxRecDepth 100000 in
theorem c_J5_newCapacity_0f7a4 {l : Launch} {D : va_G} {k : tyK} (sb va : Nat) (cap : Nat) (ml : Int32) (ct : Int32) (bt : (Nat → Int32)) (iq : Int32) (hn : ¬ ((Int32.ofNat cap) + (if ((iq <<< ((0 : Int32) &&& 31)) - (Int32.ofNat cap)) < ((Int32.ofNat cap) + ((2 : Int32) <<< ((0 : Int32) &&& 31))) then ((Int32.ofNat cap) + ((2 : Int32) <<< ((0 : Int32) &&& 31))) else ((iq <<< ((0 : Int32) &&& 31)) - (Int32.ofNat cap)))) ≤ (0 : Int32)) (hm : ¬ (2147483639 : Int32) < ((Int32.ofNat cap) + (if ((iq <<< ((0 : Int32) &&& 31)) - (Int32.ofNat cap)) < ((Int32.ofNat cap) + ((2 : Int32) <<< ((0 : Int32) &&& 31))) then ((Int32.ofNat cap) + ((2 : Int32) <<< ((0 : Int32) &&& 31))) else ((iq <<< ((0 : Int32) &&& 31)) - (Int32.ofNat cap))))) (h3 : ¬ (F_J8_newLength_cabcc (Int32.ofNat cap) ((iq <<< ((0 : Int32) &&& 31)) - (Int32.ofNat cap)) ((Int32.ofNat cap) + ((2 : Int32) <<< ((0 : Int32) &&& 31)))) = (2147483647 : Int32)) : FCi l yJ5_newCapacity_0f7a4 wsJ5_newCapacity_0f7a4 rm_J5_newCapacity_0f7a4 D k [.ref sb, .int iq] [(sb, .inr (1, [.ref va, .int (0 : Int32), .int ml, .int ct])), (va, .inl (k.2.2.1, cap, .inl bt))] (fun r (_ : Unit) => r = (F_J5_newCapacity_0f7a4 cap ml ct bt iq)) (fun _ => [(sb, .inr (1, [.ref va, .int (0 : Int32), .int ml, .int ct])), (va, .inl (k.2.2.1, cap, .inl bt))]) := by
  refine fc_start (cc := cJ5_newCapacity_0f7a4) (maxL := 6) (ret := (some .int)) (own := RJ5) (Qc := fun A => va_Qi (fun r (_ : Unit) => r = (F_J5_newCapacity_0f7a4 cap ml ct bt iq)) (Bt D (fun _ => [(sb, .inr (1, [.ref va, .int (0 : Int32), .int ml, .int ct])), (va, .inl (k.2.2.1, cap, .inl bt))]) A) A) (by decide) rfl rfl (Nat.le_of_ble_eq_true rfl) ?_
  intro p e s m below meth c A H hx hb hml hr hts hown hlk hname hA hP hE hD hS ls hl
  obtain ⟨RES, hF⟩ : ∃ z, (F_J5_newCapacity_0f7a4 cap ml ct bt iq) = z := ⟨_, rfl⟩
  rw [hF]
  unfold F_J5_newCapacity_0f7a4 at hF
  have hl : lv_has ls 6 [(0, .ref sb), (1, .int iq)] := hl
  obtain ⟨locs, hlocs⟩ : ∃ z : List Loc, z = [] := ⟨_, rfl⟩
  rw [← hlocs] at hS ⊢
  refine lv_aload_n hx hb dJ5_newCapacity_0f7a4_0 rfl (lv_at hl 0 rfl) ?_
  refine va_get (D := D) (ci := 1) (v := .ref va) (C := RJ4) (T := TJ4) (N := 4) hx hb hts in_J5_newCapacity_0f7a4_J4 hown hE.1 hP 0 rfl rfl 0 (by decide) (hts _ lk_J5_newCapacity_0f7a4_15) (fun _ h9 => h9) rfl dJ5_newCapacity_0f7a4_1 ?_
  refine va_alen (v := (Int32.ofNat cap)) hx hb hE.1 hP 1 2 rfl rfl rfl dJ5_newCapacity_0f7a4_4 ?_
  refine lv_istore_n (lv' := [(2, .int (Int32.ofNat cap)), (0, .ref sb), (1, .int iq)]) hx hb dJ5_newCapacity_0f7a4_5 rfl hl (by decide) rfl (fun ls hl => ?_)
  refine lv_iload_n hx hb dJ5_newCapacity_0f7a4_6 rfl (lv_at hl 2 rfl) ?_
  refine lv_aload_n hx hb dJ5_newCapacity_0f7a4_7 rfl (lv_at hl 1 rfl) ?_
  refine va_get (D := D) (ci := 1) (v := .int (0 : Int32)) (C := RJ4) (T := TJ4) (N := 4) hx hb hts in_J5_newCapacity_0f7a4_J4 hown hE.1 hP 0 rfl rfl 1 (by decide) (hts _ lk_J5_newCapacity_0f7a4_22) (fun _ h9 => h9) rfl dJ5_newCapacity_0f7a4_8 ?_
  refine lv_ishl hx hb dJ5_newCapacity_0f7a4_11 ?_
  refine lv_istore_n (lv' := [(3, .int (iq <<< ((0 : Int32) &&& 31))), (2, .int (Int32.ofNat cap)), (0, .ref sb), (1, .int iq)]) hx hb dJ5_newCapacity_0f7a4_12 rfl hl (by decide) rfl (fun ls hl => ?_)
  refine lv_iload_n hx hb dJ5_newCapacity_0f7a4_13 rfl (lv_at hl 0 rfl) ?_
  refine lv_iload_n hx hb dJ5_newCapacity_0f7a4_14 rfl (lv_at hl 1 rfl) ?_
  refine lv_isub hx hb dJ5_newCapacity_0f7a4_15 ?_
  refine lv_istore (lv' := [(4, .int ((iq <<< ((0 : Int32) &&& 31)) - (Int32.ofNat cap))), (3, .int (iq <<< ((0 : Int32) &&& 31))), (2, .int (Int32.ofNat cap)), (0, .ref sb), (1, .int iq)]) hx hb dJ5_newCapacity_0f7a4_16 hl (by decide) rfl (fun ls hl => ?_)
  refine lv_iload_n hx hb dJ5_newCapacity_0f7a4_18 rfl (lv_at hl 2 rfl) ?_
  refine lv_iload hx hb dJ5_newCapacity_0f7a4_19 (lv_at hl 0 rfl) ?_
  refine lv_iload_n hx hb dJ5_newCapacity_0f7a4_21 rfl (lv_at hl 2 rfl) ?_
  refine lv_iconst (v := 2) hx hb dJ5_newCapacity_0f7a4_22 (by decide) ?_
  refine lv_aload_n hx hb dJ5_newCapacity_0f7a4_23 rfl (lv_at hl 3 rfl) ?_
  refine va_get (D := D) (ci := 1) (v := .int (0 : Int32)) (C := RJ4) (T := TJ4) (N := 4) hx hb hts in_J5_newCapacity_0f7a4_J4 hown hE.1 hP 0 rfl rfl 1 (by decide) (hts _ lk_J5_newCapacity_0f7a4_22) (fun _ h9 => h9) rfl dJ5_newCapacity_0f7a4_24 ?_
  refine lv_ishl hx hb dJ5_newCapacity_0f7a4_27 ?_
  refine lv_iadd hx hb dJ5_newCapacity_0f7a4_28 ?_
  generalize hp_1 : (F_J8_newLength_cabcc (Int32.ofNat cap) ((iq <<< ((0 : Int32) &&& 31)) - (Int32.ofNat cap)) ((Int32.ofNat cap) + ((2 : Int32) <<< ((0 : Int32) &&& 31)))) = p_1 at hF
  rw [letp_eq] at hF
  refine fc_ci (isC := []) (cells' := 0) (slots' := 0) (fc_runS (n := 3) (As := [.int (Int32.ofNat cap), .int ((iq <<< ((0 : Int32) &&& 31)) - (Int32.ofNat cap)), .int ((Int32.ofNat cap) + ((2 : Int32) <<< ((0 : Int32) &&& 31)))]) (rest := []) (isC := []) (maxL := 4) ⟨hx, hb, hml, hown, hts⟩ (c_J8_newLength_cabcc (Int32.ofNat cap) ((iq <<< ((0 : Int32) &&& 31)) - (Int32.ofNat cap)) ((Int32.ofNat cap) + ((2 : Int32) <<< ((0 : Int32) &&& 31))) hn hm H.size) gJ5_newCapacity_0f7a4_J8_newLength_cabcc rfl (by decide +kernel) rfl ⟨Nat.le_of_ble_eq_true rfl, Nat.le_of_ble_eq_true rfl⟩ ⟨Nat.le_of_ble_eq_true rfl, Nat.le_of_ble_eq_true rfl⟩ hE hP hD hS hA rfl rfl hl rfl (Nat.le_of_ble_eq_true rfl) dJ5_newCapacity_0f7a4_29) hP hD hS hA rfl (fun _ => rfl) rfl rfl (fun r_2 _ H locs hr_2 hP hD hS => ?_)
  rw [hp_1] at hr_2
  obtain rfl : p_1 = r_2 := hr_2.symm
  dsimp only [fs, List.set] at hP hD
  have hP : va_P D vwCl [(sb, .inr (1, [.ref va, .int (0 : Int32), .int ml, .int ct])), (va, .inl (k.2.2.1, cap, .inl bt))] H := hP
  have hD : va_D A [(sb, .inr (1, [.ref va, .int (0 : Int32), .int ml, .int ct])), (va, .inl (k.2.2.1, cap, .inl bt))] := hD
  refine lv_istore (lv' := [(5, .int p_1), (4, .int ((iq <<< ((0 : Int32) &&& 31)) - (Int32.ofNat cap))), (3, .int (iq <<< ((0 : Int32) &&& 31))), (2, .int (Int32.ofNat cap)), (0, .ref sb), (1, .int iq)]) hx hb dJ5_newCapacity_0f7a4_32 hl (by decide) rfl (fun ls hl => ?_)
  refine lv_iload hx hb dJ5_newCapacity_0f7a4_34 (lv_at hl 0 rfl) ?_
  refine lv_ldc (v := 2147483647) hx hb hown (hts (.constant RJ5 39 (2147483647)) (by decide +kernel)) dJ5_newCapacity_0f7a4_36 ?_
  refine lv_icmp_ne (tgt := 51) hx hb dJ5_newCapacity_0f7a4_38 (by decide) (fun c_3 => ?_) (fun c_3 => absurd c_3 (by rw [← hp_1]; exact h3))
  refine lv_iload hx hb dJ5_newCapacity_0f7a4_51 (lv_at hl 0 rfl) ?_
  refine lv_aload_n hx hb dJ5_newCapacity_0f7a4_53 rfl (lv_at hl 4 rfl) ?_
  refine va_get (D := D) (ci := 1) (v := .int (0 : Int32)) (C := RJ4) (T := TJ4) (N := 4) hx hb hts in_J5_newCapacity_0f7a4_J4 hown hE.1 hP 0 rfl rfl 1 (by decide) (hts _ lk_J5_newCapacity_0f7a4_22) (fun _ h9 => h9) rfl dJ5_newCapacity_0f7a4_54 ?_
  refine lv_ishr hx hb dJ5_newCapacity_0f7a4_57 ?_
  subst hF
  exact fc_iret hx hb hr rfl hlk hS () rfl hP hD (by decide) (by decide) dJ5_newCapacity_0f7a4_58

abbrev rm_J5_append_c97b9 : Room := { frames := 1, cells := 0, slots := 0, locals := 26 }
theorem in_J5_append_c97b9_J4 : ∀ w ∈ wsJ40, w ∈ wsJ5_append_c97b9 := by decide +kernel
theorem lk_J5_append_c97b9_15 : (Cond.fieldLink RJ5 15 "java/lang/AbstractStringBuilder" "value" "[B") ∈ wsJ5_append_c97b9 := by decide +kernel
theorem lk_J5_append_c97b9_79 : (Cond.fieldLink RJ5 79 "java/lang/AbstractStringBuilder" "count" "I") ∈ wsJ5_append_c97b9 := by decide +kernel
def F_J5_append_c97b9 (ml : Int32) (ct : Int32) (bt : (Nat → Int32)) (ii : Int32) : Int32 × (Nat → Int32) := (letp (F_J6_getChars_ba4f3 bt ii (ct + (F_J6_stringSize_0f7a4 ii))) (fun (p_4 : Int32 × (Nat → Int32)) => ((ct + (F_J6_stringSize_0f7a4 ii)), p_4.2)))
set_option maxHeartbeats 4000000 in
set_option maxRecDepth 100000 in
theorem c_J5_append_c97b9 {l : Launch} {D : va_G} {k : tyK} (sb va : Nat) (cap : Nat) (ml : Int32) (ct : Int32) (bt : (Nat → Int32)) (ii : Int32) (h0 : (0 : Int32) ≤ ii) (h9 : ¬ (-ii) ≤ (-100 : Int32)) (hd : vp_in (-(-ii)) 100) (hcap : ((ct + (F_J6_stringSize_0f7a4 ii)) - ((Int32.ofNat cap) >>> ((0 : Int32) &&& 31))) ≤ (0 : Int32)) (hv : vp_in ((ct + (F_J6_stringSize_0f7a4 ii)) + (-1 : Int32)) cap) (hw : ¬ (-9 : Int32) ≤ (-ii) → vp_in (((ct + (F_J6_stringSize_0f7a4 ii)) + (-1 : Int32)) + (-1 : Int32)) cap) : FCr l yJ5_append_c97b9 wsJ5_append_c97b9 rm_J5_append_c97b9 D k [.ref sb, .int ii] [(sb, .inr (1, [.ref va, .int (0 : Int32), .int ml, .int ct])), (va, .inl (k.2.2.1, cap, .inl bt))] sb [(sb, .inr (1, [.ref va, .int (0 : Int32), .int ml, .int (F_J5_append_c97b9 ml ct bt ii).1])), (va, .inl (k.2.2.1, cap, .inl (F_J5_append_c97b9 ml ct bt ii).2))] := by
  refine fc_start (cc := cJ5_append_c97b9) (maxL := 4) (ret := (some (.object "java/lang/AbstractStringBuilder"))) (own := RJ5) (Qc := fun A => va_Qr (fun (_ : Unit) => True) (fun _ a t => a = sb ∧ va_P D vwCl [(sb, .inr (1, [.ref va, .int (0 : Int32), .int ml, .int (F_J5_append_c97b9 ml ct bt ii).1])), (va, .inl (k.2.2.1, cap, .inl (F_J5_append_c97b9 ml ct bt ii).2))] t.heap ∧ va_D A [(sb, .inr (1, [.ref va, .int (0 : Int32), .int ml, .int (F_J5_append_c97b9 ml ct bt ii).1])), (va, .inl (k.2.2.1, cap, .inl (F_J5_append_c97b9 ml ct bt ii).2))]) A) (by decide) rfl rfl (Nat.le_of_ble_eq_true rfl) ?_
  intro p e s m below meth c A H hx hb hml hr hts hown hlk hname hA hP hE hD hS ls hl
  obtain ⟨RES, hF⟩ : ∃ z, (F_J5_append_c97b9 ml ct bt ii) = z := ⟨_, rfl⟩
  rw [hF]
  unfold F_J5_append_c97b9 at hF
  have hl : lv_has ls 4 [(0, .ref sb), (1, .int ii)] := hl
  obtain ⟨locs, hlocs⟩ : ∃ z : List Loc, z = [] := ⟨_, rfl⟩
  rw [← hlocs] at hS ⊢
  refine lv_aload_n hx hb dJ5_append_c97b9_0 rfl (lv_at hl 0 rfl) ?_
  refine va_get (D := D) (ci := 1) (v := .int ct) (C := RJ4) (T := TJ4) (N := 4) hx hb hts in_J5_append_c97b9_J4 hown hE.1 hP 0 rfl rfl 3 (by decide) (hts _ lk_J5_append_c97b9_79) (fun _ h9 => h9) rfl dJ5_append_c97b9_1 ?_
  refine lv_istore_n (lv' := [(2, .int ct), (0, .ref sb), (1, .int ii)]) hx hb dJ5_append_c97b9_4 rfl hl (by decide) rfl (fun ls hl => ?_)
  refine lv_iload_n hx hb dJ5_append_c97b9_5 rfl (lv_at hl 0 rfl) ?_
  refine lv_iload_n hx hb dJ5_append_c97b9_6 rfl (lv_at hl 2 rfl) ?_
  refine fc_ci (isC := []) (cells' := 0) (slots' := 0) (fc_runS (n := 1) (As := [.int ii]) (rest := [.int ct]) (isC := []) (maxL := 4) ⟨hx, hb, hml, hown, hts⟩ (c_J6_stringSize_0f7a4 ii h0 h9 H.size) gJ5_append_c97b9_J6_stringSize_0f7a4 rfl (by decide +kernel) rfl ⟨Nat.le_of_ble_eq_true rfl, Nat.le_of_ble_eq_true rfl⟩ ⟨Nat.le_of_ble_eq_true rfl, Nat.le_of_ble_eq_true rfl⟩ hE hP hD hS hA rfl rfl hl rfl (Nat.le_of_ble_eq_true rfl) dJ5_append_c97b9_7) hP hD hS hA rfl (fun _ => rfl) rfl rfl (fun r_1 _ H locs hr_1 hP hD hS => ?_)
  obtain rfl : (F_J6_stringSize_0f7a4 ii) = r_1 := hr_1.symm
  dsimp only [fs, List.set] at hP hD
  have hP : va_P D vwCl [(sb, .inr (1, [.ref va, .int (0 : Int32), .int ml, .int ct])), (va, .inl (k.2.2.1, cap, .inl bt))] H := hP
  have hD : va_D A [(sb, .inr (1, [.ref va, .int (0 : Int32), .int ml, .int ct])), (va, .inl (k.2.2.1, cap, .inl bt))] := hD
  refine lv_iadd hx hb dJ5_append_c97b9_10 ?_
  refine lv_istore_n (lv' := [(3, .int (ct + (F_J6_stringSize_0f7a4 ii))), (2, .int ct), (0, .ref sb), (1, .int ii)]) hx hb dJ5_append_c97b9_11 rfl hl (by decide) rfl (fun ls hl => ?_)
  refine lv_aload_n hx hb dJ5_append_c97b9_12 rfl (lv_at hl 2 rfl) ?_
  refine lv_iload_n hx hb dJ5_append_c97b9_13 rfl (lv_at hl 0 rfl) ?_
  refine fc_cv (isC := [0, 1]) (cells' := 0) (slots' := 0) (fc_runU (n := 1) (As := [.int (ct + (F_J6_stringSize_0f7a4 ii))]) (rest := []) (isC := [0, 1]) (maxL := 3) ⟨hx, hb, hml, hown, hts⟩ (c_J5_ensure_a sb va cap ml ct bt (ct + (F_J6_stringSize_0f7a4 ii)) hcap H.size) gJ5_append_c97b9_J5_ensureCapacityInternal_d00df_u100J4 rfl rfl (by decide +kernel) rfl ⟨Nat.le_of_ble_eq_true rfl, Nat.le_of_ble_eq_true rfl⟩ ⟨Nat.le_of_ble_eq_true rfl, Nat.le_of_ble_eq_true rfl⟩ hE hP hD hS hA rfl rfl (va_recv hE.1 hP (ci := 1) (q0 := 0) rfl rfl) hl rfl (Nat.le_of_ble_eq_true rfl) dJ5_append_c97b9_14) hP hD hS hA rfl (fun _ => rfl) rfl rfl (fun _ H locs _ hP hD hS => ?_)
  dsimp only [fs, List.set] at hP hD
  have hP : va_P D vwCl [(sb, .inr (1, [.ref va, .int (0 : Int32), .int ml, .int ct])), (va, .inl (k.2.2.1, cap, .inl bt))] H := hP
  have hD : va_D A [(sb, .inr (1, [.ref va, .int (0 : Int32), .int ml, .int ct])), (va, .inl (k.2.2.1, cap, .inl bt))] := hD
  refine lv_aload_n hx hb dJ5_append_c97b9_17 rfl (lv_at hl 2 rfl) ?_
  refine fc_ci (isC := [0, 1]) (cells' := 0) (slots' := 0) (fc_runU (n := 0) (As := []) (rest := []) (isC := [0, 1]) (maxL := 1) ⟨hx, hb, hml, hown, hts⟩ (c_J5_isLatin1_aae02 sb va cap ml ct bt H.size) gJ5_append_c97b9_J5_isLatin1_aae02_u83J4 rfl rfl (by decide +kernel) rfl ⟨Nat.le_of_ble_eq_true rfl, Nat.le_of_ble_eq_true rfl⟩ ⟨Nat.le_of_ble_eq_true rfl, Nat.le_of_ble_eq_true rfl⟩ hE hP hD hS hA rfl rfl (va_recv hE.1 hP (ci := 1) (q0 := 0) rfl rfl) hl rfl (Nat.le_of_ble_eq_true rfl) dJ5_append_c97b9_18) hP hD hS hA rfl (fun _ => rfl) rfl rfl (fun r_2 _ H locs hr_2 hP hD hS => ?_)
  obtain rfl : (1 : Int32) = r_2 := hr_2.symm
  dsimp only [fs, List.set] at hP hD
  have hP : va_P D vwCl [(sb, .inr (1, [.ref va, .int (0 : Int32), .int ml, .int ct])), (va, .inl (k.2.2.1, cap, .inl bt))] H := hP
  have hD : va_D A [(sb, .inr (1, [.ref va, .int (0 : Int32), .int ml, .int ct])), (va, .inl (k.2.2.1, cap, .inl bt))] := hD
  refine lv_if_eq (tgt := 37) hx hb dJ5_append_c97b9_21 (by decide) (fun c_3 => absurd c_3 (by decide)) (fun c_3 => ?_)
  refine lv_iload_n hx hb dJ5_append_c97b9_24 rfl (lv_at hl 3 rfl) ?_
  refine lv_iload_n hx hb dJ5_append_c97b9_25 rfl (lv_at hl 0 rfl) ?_
  refine lv_aload_n hx hb dJ5_append_c97b9_26 rfl (lv_at hl 2 rfl) ?_
  refine va_get (D := D) (ci := 1) (v := .ref va) (C := RJ4) (T := TJ4) (N := 4) hx hb hts in_J5_append_c97b9_J4 hown hE.1 hP 0 rfl rfl 0 (by decide) (hts _ lk_J5_append_c97b9_15) (fun _ h9 => h9) rfl dJ5_append_c97b9_27 ?_
  generalize hp_4 : (F_J6_getChars_ba4f3 bt ii (ct + (F_J6_stringSize_0f7a4 ii))) = p_4 at hF
  rw [letp_eq] at hF
  refine fc_ci (isC := [1]) (cells' := 0) (slots' := 0) (fc_runS (n := 3) (As := [.int ii, .int (ct + (F_J6_stringSize_0f7a4 ii)), .ref va]) (rest := []) (isC := [1]) (maxL := 7) ⟨hx, hb, hml, hown, hts⟩ (c_J6_getChars_ba4f3 va cap bt ii (ct + (F_J6_stringSize_0f7a4 ii)) h0 h9 hd hv hw H.size) gJ5_append_c97b9_J6_getChars_ba4f3 rfl (by decide +kernel) rfl ⟨Nat.le_of_ble_eq_true rfl, Nat.le_of_ble_eq_true rfl⟩ ⟨Nat.le_of_ble_eq_true rfl, Nat.le_of_ble_eq_true rfl⟩ hE hP hD hS hA rfl rfl hl rfl (Nat.le_of_ble_eq_true rfl) dJ5_append_c97b9_30) hP hD hS hA rfl (fun _ => rfl) rfl rfl (fun r_5 _ H locs hr_5 hP hD hS => ?_)
  rw [hp_4] at hr_5 hP hD
  obtain rfl : p_4.1 = r_5 := hr_5.symm
  dsimp only [fs, List.set] at hP hD
  have hP : va_P D vwCl [(sb, .inr (1, [.ref va, .int (0 : Int32), .int ml, .int ct])), (va, .inl (k.2.2.1, cap, .inl p_4.2))] H := hP
  have hD : va_D A [(sb, .inr (1, [.ref va, .int (0 : Int32), .int ml, .int ct])), (va, .inl (k.2.2.1, cap, .inl p_4.2))] := hD
  refine lv_pop hx hb dJ5_append_c97b9_33 rfl ?_
  refine lv_goto (tgt := 48) hx hb dJ5_append_c97b9_34 (by decide) ?_
  refine lv_aload_n hx hb dJ5_append_c97b9_48 rfl (lv_at hl 2 rfl) ?_
  refine lv_iload_n hx hb dJ5_append_c97b9_49 rfl (lv_at hl 0 rfl) ?_
  refine va_put (D := D) (ci := 1) (v := .int (ct + (F_J6_stringSize_0f7a4 ii))) (ty := .int) (C := RJ4) (T := TJ4) (N := 4) hx hb hts in_J5_append_c97b9_J4 tyJ4 tyJ4_ok nmJ4 hown hE.1 hP hD hS 0 rfl rfl 3 (by decide) (hts _ lk_J5_append_c97b9_79) (fun _ h9 => h9) rfl (by decide +kernel) rfl rfl (Nat.le_of_ble_eq_true rfl) dJ5_append_c97b9_50 (fun H locs hP hD hS => ?_)
  have hP : va_P D vwCl [(sb, .inr (1, [.ref va, .int (0 : Int32), .int ml, .int (ct + (F_J6_stringSize_0f7a4 ii))])), (va, .inl (k.2.2.1, cap, .inl p_4.2))] H := hP
  have hD : va_D A [(sb, .inr (1, [.ref va, .int (0 : Int32), .int ml, .int (ct + (F_J6_stringSize_0f7a4 ii))])), (va, .inl (k.2.2.1, cap, .inl p_4.2))] := hD
  refine lv_aload_n hx hb dJ5_append_c97b9_53 rfl (lv_at hl 2 rfl) ?_
  subst hF
  exact fc_aret hx hb hr (Or.inl ⟨_, rfl⟩) hlk hS rfl hP hD (by decide) (by decide) dJ5_append_c97b9_54

abbrev rm_J4_append_cf468 : Room := { frames := 2, cells := 0, slots := 0, locals := 43 }
def F_J4_append_cf468 (ml : Int32) (ct : Int32) (bt : (Nat → Int32)) (ic : Int32) : Int32 × (Nat → Int32) := (letp (F_J5_append_3fe6f ml ct bt ic) (fun (p_1 : Int32 × (Nat → Int32)) => (p_1.1, p_1.2)))
set_option maxHeartbeats 4000000 in
set_option maxRecDepth 100000 in
theorem c_J4_append_cf468 {l : Launch} {D : va_G} {k : tyK} (sb va : Nat) (cap : Nat) (ml : Int32) (ct : Int32) (bt : (Nat → Int32)) (ic : Int32) (hcap : ((ct + (1 : Int32)) - ((Int32.ofNat cap) >>> ((0 : Int32) &&& 31))) ≤ (0 : Int32)) (hc : ¬ (255 : Int32) < ic) (hv : vp_in ct cap) : FCr l yJ4_append_cf468 wsJ4_append_cf468 rm_J4_append_cf468 D k [.ref sb, .int ic] [(sb, .inr (1, [.ref va, .int (0 : Int32), .int ml, .int ct])), (va, .inl (k.2.2.1, cap, .inl bt))] sb [(sb, .inr (1, [.ref va, .int (0 : Int32), .int ml, .int (F_J4_append_cf468 ml ct bt ic).1])), (va, .inl (k.2.2.1, cap, .inl (F_J4_append_cf468 ml ct bt ic).2))] := by
  refine fc_start (cc := cJ4_append_cf468) (maxL := 2) (ret := (some (.object "java/lang/StringBuilder"))) (own := RJ4) (Qc := fun A => va_Qr (fun (_ : Unit) => True) (fun _ a t => a = sb ∧ va_P D vwCl [(sb, .inr (1, [.ref va, .int (0 : Int32), .int ml, .int (F_J4_append_cf468 ml ct bt ic).1])), (va, .inl (k.2.2.1, cap, .inl (F_J4_append_cf468 ml ct bt ic).2))] t.heap ∧ va_D A [(sb, .inr (1, [.ref va, .int (0 : Int32), .int ml, .int (F_J4_append_cf468 ml ct bt ic).1])), (va, .inl (k.2.2.1, cap, .inl (F_J4_append_cf468 ml ct bt ic).2))]) A) (by decide) rfl rfl (Nat.le_of_ble_eq_true rfl) ?_
  intro p e s m below meth c A H hx hb hml hr hts hown hlk hname hA hP hE hD hS ls hl
  obtain ⟨RES, hF⟩ : ∃ z, (F_J4_append_cf468 ml ct bt ic) = z := ⟨_, rfl⟩
  rw [hF]
  unfold F_J4_append_cf468 at hF
  have hl : lv_has ls 2 [(0, .ref sb), (1, .int ic)] := hl
  obtain ⟨locs, hlocs⟩ : ∃ z : List Loc, z = [] := ⟨_, rfl⟩
  rw [← hlocs] at hS ⊢
  refine lv_aload_n hx hb dJ4_append_cf468_0 rfl (lv_at hl 0 rfl) ?_
  refine lv_iload_n hx hb dJ4_append_cf468_1 rfl (lv_at hl 1 rfl) ?_
  generalize hp_1 : (F_J5_append_3fe6f ml ct bt ic) = p_1 at hF
  rw [letp_eq] at hF
  refine fc_cr (isC := [0, 1]) (cells' := 0) (slots' := 0) (fc_runSU (hat := (hE.1.1 1 _ rfl).2) (n := 1) (As := [.int ic]) (rest := []) (isC := [0, 1]) (maxL := 2) ⟨hx, hb, hml, hown, hts⟩ (c_J5_append_3fe6f sb va cap ml ct bt ic hcap hc hv H.size) gJ4_append_cf468_J5_append_3fe6f_s50 rfl (by decide +kernel) rfl ⟨Nat.le_of_ble_eq_true rfl, Nat.le_of_ble_eq_true rfl⟩ ⟨Nat.le_of_ble_eq_true rfl, Nat.le_of_ble_eq_true rfl⟩ hE hP hD hS hA rfl rfl (va_recv hE.1 hP (ci := 1) (q0 := 0) rfl rfl) hl rfl (Nat.le_of_ble_eq_true rfl) dJ4_append_cf468_2) hP hD hS hA rfl rfl rfl rfl (fun H locs hP hD hS => ?_)
  rw [hp_1] at hP hD
  dsimp only [fs, List.set] at hP hD
  have hP : va_P D vwCl [(sb, .inr (1, [.ref va, .int (0 : Int32), .int ml, .int p_1.1])), (va, .inl (k.2.2.1, cap, .inl p_1.2))] H := hP
  have hD : va_D A [(sb, .inr (1, [.ref va, .int (0 : Int32), .int ml, .int p_1.1])), (va, .inl (k.2.2.1, cap, .inl p_1.2))] := hD
  refine lv_pop hx hb dJ4_append_cf468_5 rfl ?_
  refine lv_aload_n hx hb dJ4_append_cf468_6 rfl (lv_at hl 0 rfl) ?_
  subst hF
  exact fc_aret hx hb hr (Or.inl ⟨_, rfl⟩) hlk hS rfl hP hD (by decide) (by decide) dJ4_append_cf468_7

abbrev rm_J4_append_bf812 : Room := { frames := 2, cells := 0, slots := 0, locals := 49 }
def F_J4_append_bf812 (ml : Int32) (ct : Int32) (bt : (Nat → Int32)) (ii : Int32) : Int32 × (Nat → Int32) := (letp (F_J5_append_c97b9 ml ct bt ii) (fun (p_1 : Int32 × (Nat → Int32)) => (p_1.1, p_1.2)))
set_option maxHeartbeats 4000000 in
set_option maxRecDepth 100000 in
theorem c_J4_append_bf812 {l : Launch} {D : va_G} {k : tyK} (sb va : Nat) (cap : Nat) (ml : Int32) (ct : Int32) (bt : (Nat → Int32)) (ii : Int32) (h0 : (0 : Int32) ≤ ii) (h9 : ¬ (-ii) ≤ (-100 : Int32)) (hd : vp_in (-(-ii)) 100) (hcap : ((ct + (F_J6_stringSize_0f7a4 ii)) - ((Int32.ofNat cap) >>> ((0 : Int32) &&& 31))) ≤ (0 : Int32)) (hv : vp_in ((ct + (F_J6_stringSize_0f7a4 ii)) + (-1 : Int32)) cap) (hw : ¬ (-9 : Int32) ≤ (-ii) → vp_in (((ct + (F_J6_stringSize_0f7a4 ii)) + (-1 : Int32)) + (-1 : Int32)) cap) : FCr l yJ4_append_bf812 wsJ4_append_bf812 rm_J4_append_bf812 D k [.ref sb, .int ii] [(sb, .inr (1, [.ref va, .int (0 : Int32), .int ml, .int ct])), (va, .inl (k.2.2.1, cap, .inl bt))] sb [(sb, .inr (1, [.ref va, .int (0 : Int32), .int ml, .int (F_J4_append_bf812 ml ct bt ii).1])), (va, .inl (k.2.2.1, cap, .inl (F_J4_append_bf812 ml ct bt ii).2))] := by
  refine fc_start (cc := cJ4_append_bf812) (maxL := 2) (ret := (some (.object "java/lang/StringBuilder"))) (own := RJ4) (Qc := fun A => va_Qr (fun (_ : Unit) => True) (fun _ a t => a = sb ∧ va_P D vwCl [(sb, .inr (1, [.ref va, .int (0 : Int32), .int ml, .int (F_J4_append_bf812 ml ct bt ii).1])), (va, .inl (k.2.2.1, cap, .inl (F_J4_append_bf812 ml ct bt ii).2))] t.heap ∧ va_D A [(sb, .inr (1, [.ref va, .int (0 : Int32), .int ml, .int (F_J4_append_bf812 ml ct bt ii).1])), (va, .inl (k.2.2.1, cap, .inl (F_J4_append_bf812 ml ct bt ii).2))]) A) (by decide) rfl rfl (Nat.le_of_ble_eq_true rfl) ?_
  intro p e s m below meth c A H hx hb hml hr hts hown hlk hname hA hP hE hD hS ls hl
  obtain ⟨RES, hF⟩ : ∃ z, (F_J4_append_bf812 ml ct bt ii) = z := ⟨_, rfl⟩
  rw [hF]
  unfold F_J4_append_bf812 at hF
  have hl : lv_has ls 2 [(0, .ref sb), (1, .int ii)] := hl
  obtain ⟨locs, hlocs⟩ : ∃ z : List Loc, z = [] := ⟨_, rfl⟩
  rw [← hlocs] at hS ⊢
  refine lv_aload_n hx hb dJ4_append_bf812_0 rfl (lv_at hl 0 rfl) ?_
  refine lv_iload_n hx hb dJ4_append_bf812_1 rfl (lv_at hl 1 rfl) ?_
  generalize hp_1 : (F_J5_append_c97b9 ml ct bt ii) = p_1 at hF
  rw [letp_eq] at hF
  refine fc_cr (isC := [0, 1]) (cells' := 0) (slots' := 0) (fc_runSU (hat := (hE.1.1 1 _ rfl).2) (n := 1) (As := [.int ii]) (rest := []) (isC := [0, 1]) (maxL := 4) ⟨hx, hb, hml, hown, hts⟩ (c_J5_append_c97b9 sb va cap ml ct bt ii h0 h9 hd hcap hv hw H.size) gJ4_append_bf812_J5_append_c97b9_s53 rfl (by decide +kernel) rfl ⟨Nat.le_of_ble_eq_true rfl, Nat.le_of_ble_eq_true rfl⟩ ⟨Nat.le_of_ble_eq_true rfl, Nat.le_of_ble_eq_true rfl⟩ hE hP hD hS hA rfl rfl (va_recv hE.1 hP (ci := 1) (q0 := 0) rfl rfl) hl rfl (Nat.le_of_ble_eq_true rfl) dJ4_append_bf812_2) hP hD hS hA rfl rfl rfl rfl (fun H locs hP hD hS => ?_)
  rw [hp_1] at hP hD
  dsimp only [fs, List.set] at hP hD
  have hP : va_P D vwCl [(sb, .inr (1, [.ref va, .int (0 : Int32), .int ml, .int p_1.1])), (va, .inl (k.2.2.1, cap, .inl p_1.2))] H := hP
  have hD : va_D A [(sb, .inr (1, [.ref va, .int (0 : Int32), .int ml, .int p_1.1])), (va, .inl (k.2.2.1, cap, .inl p_1.2))] := hD
  refine lv_pop hx hb dJ4_append_bf812_5 rfl ?_
  refine lv_aload_n hx hb dJ4_append_bf812_6 rfl (lv_at hl 0 rfl) ?_
  subst hF
  exact fc_aret hx hb hr (Or.inl ⟨_, rfl⟩) hlk hS rfl hP hD (by decide) (by decide) dJ4_append_bf812_7

abbrev rm_J4_length_8abf5 : Room := { frames := 1, cells := 0, slots := 0, locals := 20 }
def F_J4_length_8abf5 (ml : Int32) (ct : Int32) (bt : (Nat → Int32))  : Int32 := (F_J5_length_8abf5 ml ct bt)
set_option maxHeartbeats 4000000 in
set_option maxRecDepth 100000 in
theorem c_J4_length_8abf5 {l : Launch} {D : va_G} {k : tyK} (sb va : Nat) (cap : Nat) (ml : Int32) (ct : Int32) (bt : (Nat → Int32))  : FCi l yJ4_length_8abf5 wsJ4_length_8abf5 rm_J4_length_8abf5 D k [.ref sb] [(sb, .inr (1, [.ref va, .int (0 : Int32), .int ml, .int ct])), (va, .inl (k.2.2.1, cap, .inl bt))] (fun r (_ : Unit) => r = (F_J4_length_8abf5 ml ct bt)) (fun _ => [(sb, .inr (1, [.ref va, .int (0 : Int32), .int ml, .int ct])), (va, .inl (k.2.2.1, cap, .inl bt))]) := by
  refine fc_start (cc := cJ4_length_8abf5) (maxL := 1) (ret := (some .int)) (own := RJ4) (Qc := fun A => va_Qi (fun r (_ : Unit) => r = (F_J4_length_8abf5 ml ct bt)) (Bt D (fun _ => [(sb, .inr (1, [.ref va, .int (0 : Int32), .int ml, .int ct])), (va, .inl (k.2.2.1, cap, .inl bt))]) A) A) (by decide) rfl rfl (Nat.le_of_ble_eq_true rfl) ?_
  intro p e s m below meth c A H hx hb hml hr hts hown hlk hname hA hP hE hD hS ls hl
  obtain ⟨RES, hF⟩ : ∃ z, (F_J4_length_8abf5 ml ct bt) = z := ⟨_, rfl⟩
  rw [hF]
  unfold F_J4_length_8abf5 at hF
  have hl : lv_has ls 1 [(0, .ref sb)] := hl
  obtain ⟨locs, hlocs⟩ : ∃ z : List Loc, z = [] := ⟨_, rfl⟩
  rw [← hlocs] at hS ⊢
  refine lv_aload_n hx hb dJ4_length_8abf5_0 rfl (lv_at hl 0 rfl) ?_
  refine fc_ci (isC := [0, 1]) (cells' := 0) (slots' := 0) (fc_runSU (hat := (hE.1.1 1 _ rfl).2) (n := 0) (As := []) (rest := []) (isC := [0, 1]) (maxL := 1) ⟨hx, hb, hml, hown, hts⟩ (c_J5_length_8abf5 sb va cap ml ct bt H.size) gJ4_length_8abf5_J5_length_8abf5_s343 rfl (by decide +kernel) rfl ⟨Nat.le_of_ble_eq_true rfl, Nat.le_of_ble_eq_true rfl⟩ ⟨Nat.le_of_ble_eq_true rfl, Nat.le_of_ble_eq_true rfl⟩ hE hP hD hS hA rfl rfl (va_recv hE.1 hP (ci := 1) (q0 := 0) rfl rfl) hl rfl (Nat.le_of_ble_eq_true rfl) dJ4_length_8abf5_1) hP hD hS hA rfl (fun _ => rfl) rfl rfl (fun r_1 _ H locs hr_1 hP hD hS => ?_)
  obtain rfl : (F_J5_length_8abf5 ml ct bt) = r_1 := hr_1.symm
  dsimp only [fs, List.set] at hP hD
  have hP : va_P D vwCl [(sb, .inr (1, [.ref va, .int (0 : Int32), .int ml, .int ct])), (va, .inl (k.2.2.1, cap, .inl bt))] H := hP
  have hD : va_D A [(sb, .inr (1, [.ref va, .int (0 : Int32), .int ml, .int ct])), (va, .inl (k.2.2.1, cap, .inl bt))] := hD
  subst hF
  exact fc_iret hx hb hr rfl hlk hS () rfl hP hD (by decide) (by decide) dJ4_length_8abf5_4

abbrev rm_J4_charAt_5068e : Room := { frames := 3, cells := 0, slots := 0, locals := 67 }
def F_J4_charAt_5068e (ml : Int32) (ct : Int32) (bt : (Nat → Int32)) (ii : Int32) : Int32 := (F_J5_charAt_5068e ml ct bt ii)
set_option maxHeartbeats 4000000 in
set_option maxRecDepth 100000 in
theorem c_J4_charAt_5068e {l : Launch} {D : va_G} {k : tyK} (sb va : Nat) (cap : Nat) (ml : Int32) (ct : Int32) (bt : (Nat → Int32)) (ii : Int32) (h0 : ¬ ii < 0) (h1 : ii < (if ((Int32.ofNat cap) >>> ((0 : Int32) &&& 31)) < ct then ((Int32.ofNat cap) >>> ((0 : Int32) &&& 31)) else ct)) (hv : vp_in ii cap) : FCi l yJ4_charAt_5068e wsJ4_charAt_5068e rm_J4_charAt_5068e D k [.ref sb, .int ii] [(sb, .inr (1, [.ref va, .int (0 : Int32), .int ml, .int ct])), (va, .inl (k.2.2.1, cap, .inl bt))] (fun r (_ : Unit) => r = (F_J4_charAt_5068e ml ct bt ii)) (fun _ => [(sb, .inr (1, [.ref va, .int (0 : Int32), .int ml, .int ct])), (va, .inl (k.2.2.1, cap, .inl bt))]) := by
  refine fc_start (cc := cJ4_charAt_5068e) (maxL := 2) (ret := (some .char)) (own := RJ4) (Qc := fun A => va_Qi (fun r (_ : Unit) => r = (F_J4_charAt_5068e ml ct bt ii)) (Bt D (fun _ => [(sb, .inr (1, [.ref va, .int (0 : Int32), .int ml, .int ct])), (va, .inl (k.2.2.1, cap, .inl bt))]) A) A) (by decide) rfl rfl (Nat.le_of_ble_eq_true rfl) ?_
  intro p e s m below meth c A H hx hb hml hr hts hown hlk hname hA hP hE hD hS ls hl
  obtain ⟨RES, hF⟩ : ∃ z, (F_J4_charAt_5068e ml ct bt ii) = z := ⟨_, rfl⟩
  rw [hF]
  unfold F_J4_charAt_5068e at hF
  have hl : lv_has ls 2 [(0, .ref sb), (1, .int ii)] := hl
  obtain ⟨locs, hlocs⟩ : ∃ z : List Loc, z = [] := ⟨_, rfl⟩
  rw [← hlocs] at hS ⊢
  refine lv_aload_n hx hb dJ4_charAt_5068e_0 rfl (lv_at hl 0 rfl) ?_
  refine lv_iload_n hx hb dJ4_charAt_5068e_1 rfl (lv_at hl 1 rfl) ?_
  refine fc_ci (isC := [0, 1]) (cells' := 0) (slots' := 0) (fc_runSU (hat := (hE.1.1 1 _ rfl).2) (n := 1) (As := [.int ii]) (rest := []) (isC := [0, 1]) (maxL := 5) ⟨hx, hb, hml, hown, hts⟩ (c_J5_charAt_5068e sb va cap ml ct bt ii h0 h1 hv H.size) gJ4_charAt_5068e_J5_charAt_5068e_s329 rfl (by decide +kernel) rfl ⟨Nat.le_of_ble_eq_true rfl, Nat.le_of_ble_eq_true rfl⟩ ⟨Nat.le_of_ble_eq_true rfl, Nat.le_of_ble_eq_true rfl⟩ hE hP hD hS hA rfl rfl (va_recv hE.1 hP (ci := 1) (q0 := 0) rfl rfl) hl rfl (Nat.le_of_ble_eq_true rfl) dJ4_charAt_5068e_2) hP hD hS hA rfl (fun _ => rfl) rfl rfl (fun r_1 _ H locs hr_1 hP hD hS => ?_)
  obtain rfl : (F_J5_charAt_5068e ml ct bt ii) = r_1 := hr_1.symm
  dsimp only [fs, List.set] at hP hD
  have hP : va_P D vwCl [(sb, .inr (1, [.ref va, .int (0 : Int32), .int ml, .int ct])), (va, .inl (k.2.2.1, cap, .inl bt))] H := hP
  have hD : va_D A [(sb, .inr (1, [.ref va, .int (0 : Int32), .int ml, .int ct])), (va, .inl (k.2.2.1, cap, .inl bt))] := hD
  subst hF
  exact fc_iret hx hb hr (by unfold F_J5_charAt_5068e; exact pk_nc _) hlk hS () rfl hP hD (by decide) (by decide) dJ4_charAt_5068e_5

abbrev rm_J4_setLength_d00df : Room := { frames := 2, cells := 0, slots := 0, locals := 43 }
def F_J4_setLength_d00df (ml : Int32) (ct : Int32) (bt : (Nat → Int32)) (iq : Int32) : Int32 × Int32 := (letp (F_J5_setLength_d00df ml ct bt iq) (fun (p_1 : Int32 × Int32) => (p_1.1, p_1.2)))
set_option maxHeartbeats 4000000 in
set_option maxRecDepth 100000 in
theorem c_J4_setLength_d00df {l : Launch} {D : va_G} {k : tyK} (sb va : Nat) (cap : Nat) (ml : Int32) (ct : Int32) (bt : (Nat → Int32)) (iq : Int32) (hcap : (iq - ((Int32.ofNat cap) >>> ((0 : Int32) &&& 31))) ≤ (0 : Int32)) (h0 : (0 : Int32) ≤ iq) (h1 : iq ≤ ct) : FCv l yJ4_setLength_d00df wsJ4_setLength_d00df rm_J4_setLength_d00df D k [.ref sb, .int iq] [(sb, .inr (1, [.ref va, .int (0 : Int32), .int ml, .int ct])), (va, .inl (k.2.2.1, cap, .inl bt))] (fun (_ : Unit) => True) (fun _ => [(sb, .inr (1, [.ref va, .int (0 : Int32), .int (F_J4_setLength_d00df ml ct bt iq).1, .int (F_J4_setLength_d00df ml ct bt iq).2])), (va, .inl (k.2.2.1, cap, .inl bt))]) := by
  refine fc_start (cc := cJ4_setLength_d00df) (maxL := 2) (ret := none) (own := RJ4) (Qc := fun A => va_Qv (fun (_ : Unit) => True) (Bt D (fun _ => [(sb, .inr (1, [.ref va, .int (0 : Int32), .int (F_J4_setLength_d00df ml ct bt iq).1, .int (F_J4_setLength_d00df ml ct bt iq).2])), (va, .inl (k.2.2.1, cap, .inl bt))]) A) A) (by decide) rfl rfl (Nat.le_of_ble_eq_true rfl) ?_
  intro p e s m below meth c A H hx hb hml hr hts hown hlk hname hA hP hE hD hS ls hl
  obtain ⟨RES, hF⟩ : ∃ z, (F_J4_setLength_d00df ml ct bt iq) = z := ⟨_, rfl⟩
  rw [hF]
  unfold F_J4_setLength_d00df at hF
  have hl : lv_has ls 2 [(0, .ref sb), (1, .int iq)] := hl
  obtain ⟨locs, hlocs⟩ : ∃ z : List Loc, z = [] := ⟨_, rfl⟩
  rw [← hlocs] at hS ⊢
  refine lv_aload_n hx hb dJ4_setLength_d00df_0 rfl (lv_at hl 0 rfl) ?_
  refine lv_iload_n hx hb dJ4_setLength_d00df_1 rfl (lv_at hl 1 rfl) ?_
  generalize hp_1 : (F_J5_setLength_d00df ml ct bt iq) = p_1 at hF
  rw [letp_eq] at hF
  refine fc_cv (isC := [0, 1]) (cells' := 0) (slots' := 0) (fc_runSU (hat := (hE.1.1 1 _ rfl).2) (n := 1) (As := [.int iq]) (rest := []) (isC := [0, 1]) (maxL := 2) ⟨hx, hb, hml, hown, hts⟩ (c_J5_setLength_d00df sb va cap ml ct bt iq hcap h0 h1 H.size) gJ4_setLength_d00df_J5_setLength_d00df_s333 rfl (by decide +kernel) rfl ⟨Nat.le_of_ble_eq_true rfl, Nat.le_of_ble_eq_true rfl⟩ ⟨Nat.le_of_ble_eq_true rfl, Nat.le_of_ble_eq_true rfl⟩ hE hP hD hS hA rfl rfl (va_recv hE.1 hP (ci := 1) (q0 := 0) rfl rfl) hl rfl (Nat.le_of_ble_eq_true rfl) dJ4_setLength_d00df_2) hP hD hS hA rfl (fun _ => rfl) rfl rfl (fun _ H locs _ hP hD hS => ?_)
  rw [hp_1] at hP hD
  dsimp only [fs, List.set] at hP hD
  have hP : va_P D vwCl [(sb, .inr (1, [.ref va, .int (0 : Int32), .int p_1.1, .int p_1.2])), (va, .inl (k.2.2.1, cap, .inl bt))] H := hP
  have hD : va_D A [(sb, .inr (1, [.ref va, .int (0 : Int32), .int p_1.1, .int p_1.2])), (va, .inl (k.2.2.1, cap, .inl bt))] := hD
  subst hF
  exact fc_vret hx hb hr hlk hS () trivial hP hD (by decide) (by decide) dJ4_setLength_d00df_5
end
