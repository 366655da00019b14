/-! The constructors of StringBuilder and Line. -/
section TSlineInit
abbrev rm_J5_init : Room := { frames := 1, cells := 1, slots := 16, locals := 24 }
theorem in_J5_init_J4 : ∀ w ∈ wsJ40, w ∈ wsJ5_init_d00df := by decide +kernel
abbrev sbN : List Value := [.null, .int (0 : Int32), .int (0 : Int32), .int (0 : Int32)]
set_option maxHeartbeats 4000000 in
set_option maxRecDepth 100000 in
theorem c_J5_init {l : Launch} {D : va_G} {k : tyK} (sb : Nat) : FCv l yJ5_init_d00df wsJ5_init_d00df rm_J5_init D k [.ref sb, .int (16 : Int32)] [(sb, .inr (1, sbN))] (fun (_ : Nat) => True) (fun u => [(sb, .inr (1, [.ref u, .int (0 : Int32), .int (0 : Int32), .int (0 : Int32)])), (u, .inl (k.2.2.1, 16, .inl (fun _ => 0)))]) := by
  refine fc_start (cc := cJ5_init_d00df) (maxL := 2) (ret := none) (own := RJ5) (Qc := fun A => va_Qv (fun (_ : Nat) => True) (Bt D (fun u => [(sb, .inr (1, [.ref u, .int (0 : Int32), .int (0 : Int32), .int (0 : Int32)])), (u, .inl (k.2.2.1, 16, .inl (fun _ => 0)))]) A) A) (by decide) rfl rfl (Nat.le_of_ble_eq_true rfl) ?_
  intro p e s m below meth c A H hx hb hml hr hts hown hlk hname hA hP hE hD hS ls hl
  have hl : lv_has ls 2 [(0, .ref sb), (1, .int (16 : Int32))] := hl
  obtain ⟨locs, hlocs⟩ : ∃ z : List Loc, z = [] := ⟨_, rfl⟩
  rw [← hlocs] at hS ⊢
  refine lv_aload_n hx hb dJ5_init_d00df_0 rfl (lv_at hl 0 rfl) ?_
  refine W.objInit hx hb hown (hts (.methodLink RJ5 3 objectInit) (by decide +kernel)) (hts (.instanceMethod objectInit) (by decide +kernel)) (hts (.code objectInit ⟨#[0xb1]⟩ 1 none) (by decide +kernel)) rfl (by rw [hml]; exact hl.1) rfl dJ5_init_d00df_1 (Nat.le_of_ble_eq_true rfl) (Nat.le_of_ble_eq_true rfl) ?_
  refine W.eq (g2 := F0 m 4 ls []) rfl ?_
  refine va_gets hx hb (GE.cs hE) hS hown (hts (.fieldLink RJ5 18 "java/lang/String" "COMPACT_STRINGS" "Z") (by decide +kernel)) (fun _ h9 => h9) dJ5_init_d00df_4 ?_
  refine lv_if_eq (tgt := 25) hx hb dJ5_init_d00df_7 (by decide) (fun c_1 => absurd c_1 (by decide)) (fun c_1 => ?_)
  refine lv_aload_n hx hb dJ5_init_d00df_10 rfl (lv_at hl 0 rfl) ?_
  refine lv_iload_n hx hb dJ5_init_d00df_11 rfl (lv_at hl 1 rfl) ?_
  refine va_newa (atype := .byte) (a0 := (16, .inl (fun _ => 0))) hx hb (hts (.arrayClass .byte) (by decide +kernel)) rfl hE.1 hP hD hS hA (fun _ => rfl) (by decide) (by decide) (by decide) (by decide) (by decide) dJ5_init_d00df_12 (fun r cA H hK hP hD hS => ?_)
  have e9 : cA = k.2.2.1 := Option.some.inj ((hK.2 4 _ rfl).2.symm.trans (hK.2 2 _ rfl).2)
  subst e9
  have hP : va_P D vwCl [(sb, .inr (1, sbN)), (r, .inl (k.2.2.1, 16, .inl (fun _ => 0)))] H := hP
  have hD : va_D A [(sb, .inr (1, sbN)), (r, .inl (k.2.2.1, 16, .inl (fun _ => 0)))] := hD
  refine va_put (D := D) (ci := 1) (v := .ref r) (ty := (.array .byte)) (C := RJ4) (T := TJ4) (N := 4) hx hb hts in_J5_init_J4 tyJ4 tyJ4_ok nmJ4 hown hE.1 hP hD hS 0 rfl rfl 0 (by decide) (hts (.fieldLink RJ5 15 "java/lang/AbstractStringBuilder" "value" "[B") (by decide +kernel)) (fun _ h9 => h9) rfl (by decide +kernel) rfl rfl (Nat.le_of_ble_eq_true rfl) dJ5_init_d00df_14 (fun H locs hP hD hS => ?_)
  refine lv_aload_n hx hb dJ5_init_d00df_17 rfl (lv_at hl 0 rfl) ?_
  refine lv_iconst (v := 0) hx hb dJ5_init_d00df_18 (by decide) ?_
  refine va_put (D := D) (ci := 1) (v := .int (0 : Int32)) (ty := .byte) (C := RJ4) (T := TJ4) (N := 4) hx hb hts in_J5_init_J4 tyJ4 tyJ4_ok nmJ4 hown hE.1 hP hD hS 0 rfl rfl 1 (by decide) (hts (.fieldLink RJ5 22 "java/lang/AbstractStringBuilder" "coder" "B") (by decide +kernel)) (fun _ h9 => h9) rfl (by decide +kernel) rfl rfl (Nat.le_of_ble_eq_true rfl) dJ5_init_d00df_19 (fun H locs hP hD hS => ?_)
  refine lv_goto (tgt := 38) hx hb dJ5_init_d00df_22 (by decide) ?_
  exact fc_vret hx hb hr hlk hS r trivial hP hD (by decide) (by decide) dJ5_init_d00df_38
abbrev rm_J4_init : Room := { frames := 2, cells := 1, slots := 16, locals := 60 }
set_option maxHeartbeats 4000000 in
set_option maxRecDepth 100000 in
theorem c_J4_init {l : Launch} {D : va_G} {k : tyK} (sb : Nat) : FCv l yJ4_init_da8c8 wsJ4_init_da8c8 rm_J4_init D k [.ref sb] [(sb, .inr (1, sbN))] (fun (_ : Nat) => True) (fun u => [(sb, .inr (1, [.ref u, .int (0 : Int32), .int (0 : Int32), .int (0 : Int32)])), (u, .inl (k.2.2.1, 16, .inl (fun _ => 0)))]) := by
  refine fc_start (cc := cJ4_init_da8c8) (maxL := 1) (ret := none) (own := RJ4) (Qc := fun A => va_Qv (fun (_ : Nat) => True) (Bt D (fun u => [(sb, .inr (1, [.ref u, .int (0 : Int32), .int (0 : Int32), .int (0 : Int32)])), (u, .inl (k.2.2.1, 16, .inl (fun _ => 0)))]) A) A) (by decide) rfl rfl (Nat.le_of_ble_eq_true rfl) ?_
  intro p e s m below meth c A H hx hb hml hr hts hown hlk hname hA hP hE hD hS ls hl
  have hl : lv_has ls 1 [(0, .ref sb)] := hl
  obtain ⟨locs, hlocs⟩ : ∃ z : List Loc, z = [] := ⟨_, rfl⟩
  rw [← hlocs] at hS ⊢
  refine lv_aload_n hx hb dJ4_init_da8c8_0 rfl (lv_at hl 0 rfl) ?_
  refine lv_bipush (v := 16) hx hb dJ4_init_da8c8_1 (by decide) ?_
  refine fc_cvN (cells' := 1) (slots' := 16) [0] [] (wr := []) (fc_runI (n := 1) (As := [.int (16 : Int32)]) (rest := []) (isC := [0]) (maxL := 2) ⟨hx, hb, hml, hown, hts⟩ (c_J5_init sb H.size) gJ4_init_da8c8_J5_init_d00df (by decide +kernel) (by decide +kernel) (by decide +kernel) rfl rfl (by decide +kernel) rfl ⟨Nat.le_of_ble_eq_true rfl, Nat.le_of_ble_eq_true rfl⟩ ⟨Nat.le_of_ble_eq_true rfl, Nat.le_of_ble_eq_true rfl⟩ hE hP hD hS hA rfl rfl hl rfl (Nat.le_of_ble_eq_true rfl) dJ4_init_da8c8_3) hP hD hS hA rfl rfl (by decide) (by decide) rfl rfl (fun u H locs _ hP hD hS => ?_)
  exact fc_vret hx hb hr hlk hS u trivial hP hD (by decide) (by decide) dJ4_init_da8c8_6
abbrev rm_X3_init : Room := { frames := 3, cells := 2, slots := 20, locals := 100 }
theorem in_X3_init_X3 : ∀ w ∈ wsX30, w ∈ wsX3_init := by decide +kernel
theorem in_X3_init_J4 : ∀ w ∈ wsJ40, w ∈ wsX3_init := by decide +kernel
set_option maxHeartbeats 4000000 in
set_option maxRecDepth 100000 in
theorem c_X3_init {l : Launch} {D : va_G} {k : tyK} (ln : Nat) : FCv l yX3_init wsX3_init rm_X3_init D k [.ref ln] [(ln, .inr (7, [.null]))] (fun (_ : Nat × Nat) => True) (fun u => [(ln, .inr (7, [.ref u.1])), (u.1, .inr (1, [.ref u.2, .int (0 : Int32), .int (0 : Int32), .int (0 : Int32)])), (u.2, .inl (k.2.2.1, 16, .inl (fun _ => 0)))]) := by
  refine fc_start (cc := cX3_init) (maxL := 1) (ret := none) (own := RX3) (Qc := fun A => va_Qv (fun (_ : Nat × Nat) => True) (Bt D (fun u => [(ln, .inr (7, [.ref u.1])), (u.1, .inr (1, [.ref u.2, .int (0 : Int32), .int (0 : Int32), .int (0 : Int32)])), (u.2, .inl (k.2.2.1, 16, .inl (fun _ => 0)))]) A) A) (by decide) rfl rfl (Nat.le_of_ble_eq_true rfl) ?_
  intro p e s m below meth c A H hx hb hml hr hts hown hlk hname hA hP hE hD hS ls hl
  have hl : lv_has ls 1 [(0, .ref ln)] := hl
  obtain ⟨locs, hlocs⟩ : ∃ z : List Loc, z = [] := ⟨_, rfl⟩
  rw [← hlocs] at hS ⊢
  refine lv_aload_n hx hb dX3_init_0 rfl (lv_at hl 0 rfl) ?_
  refine W.objInit hx hb hown (hts (.methodLink RX3 3 objectInit) (by decide +kernel)) (hts (.instanceMethod objectInit) (by decide +kernel)) (hts (.code objectInit ⟨#[0xb1]⟩ 1 none) (by decide +kernel)) rfl (by rw [hml]; exact hl.1) rfl dX3_init_1 (Nat.le_of_ble_eq_true rfl) (Nat.le_of_ble_eq_true rfl) ?_
  refine lv_aload_n hx hb dX3_init_4 rfl (lv_at hl 0 rfl) ?_
  refine va_new (ci := 1) (fs := sbN) (C := RJ4) (T := TJ4) (N := 4) hx hb hts in_X3_init_J4 tyJ4 tyJ4_ok hown (hts (.classLink RX3 9 RJ4) (by decide +kernel)) (hts (.instantiable RJ4 4) (by decide +kernel)) (hts (.initialized RJ4) (by decide +kernel)) hE.1 hP hD hS hA rfl (fun j hj => by rcases (show j = 0 ∨ j = 1 ∨ j = 2 ∨ j = 3 by omega) with rfl | rfl | rfl | rfl <;> rfl) (by decide) (by decide) dX3_init_5 (fun b H hP hD hS => ?_)
  have hP : va_P D vwCl [(ln, .inr (7, [.null])), (b, .inr (1, sbN))] H := hP
  have hD : va_D A [(ln, .inr (7, [.null])), (b, .inr (1, sbN))] := hD
  refine lv_dup hx hb dX3_init_8 rfl ?_
  refine fc_cvN (cells' := 2) (slots' := 20) [1] [0] (wr := [(ln, .inr (7, [.null]))]) (fc_runI (n := 0) (As := []) (rest := [.ref b, .ref ln]) (isC := [1]) (maxL := 1) ⟨hx, hb, hml, hown, hts⟩ (c_J4_init b H.size) gX3_init_J4_init_da8c8 (by decide +kernel) (by decide +kernel) (by decide +kernel) rfl rfl (by decide +kernel) rfl ⟨Nat.le_of_ble_eq_true rfl, Nat.le_of_ble_eq_true rfl⟩ ⟨Nat.le_of_ble_eq_true rfl, Nat.le_of_ble_eq_true rfl⟩ hE hP hD hS hA rfl rfl hl rfl (Nat.le_of_ble_eq_true rfl) dX3_init_9) hP hD hS hA rfl rfl (by decide) (by decide) rfl rfl (fun u H locs _ hP hD hS => ?_)
  have hP : va_P D vwCl [(ln, .inr (7, [.null])), (b, .inr (1, [.ref u, .int (0 : Int32), .int (0 : Int32), .int (0 : Int32)])), (u, .inl (k.2.2.1, 16, .inl (fun _ => 0)))] H := hP
  have hD : va_D A [(ln, .inr (7, [.null])), (b, .inr (1, [.ref u, .int (0 : Int32), .int (0 : Int32), .int (0 : Int32)])), (u, .inl (k.2.2.1, 16, .inl (fun _ => 0)))] := hD
  refine va_putF (D := D) (ci := 7) (v := .ref b) (ty := (.object "java/lang/StringBuilder")) (C := RX3) (T := TX3) (N := 1) hx hb hts in_X3_init_X3 tyX3 tyX3_ok nmX3 hown hE.1 hP hD hS 0 rfl rfl 0 (by decide) (hts (.fieldLink RX3 12 "TheatreSaga$Line" "signs" "Ljava/lang/StringBuilder;") (by decide +kernel)) (fun _ h9 => h9) rfl (hname.trans rfl) rfl (by decide +kernel) rfl rfl (Nat.le_of_ble_eq_true rfl) dX3_init_12 (fun H locs hP hD hS => ?_)
  exact fc_vret hx hb hr hlk hS (b, u) trivial hP hD (by decide) (by decide) dX3_init_15
theorem SBok_new : SBok [] 16 (fun _ => 0) := ⟨Or.inl rfl, Nat.zero_le _, sb_fit0, fun i hi => absurd hi (Nat.not_lt_zero i)⟩
end TSlineInit
