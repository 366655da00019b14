/-! STRINGS MADE BY A StringBuilder: append of a constant, toString, what a fresh String answers. -/
section TSstrA
def SBf (j : Nat) (i : Nat) : Int32 := (SB j).getD i 0
theorem SBf_all : ∀ j : Fin 34, ∀ i : Fin 60, fits .byte (.int ((SB j.val).getD i.val 0)) = true := by decide +kernel
theorem SBf_fit {j : Nat} (hj : j < 34) : sb_Fit (SBf j) := fun i => by
  have h60 := len_all ⟨j, hj⟩
  dsimp only at h60
  by_cases h : i < 60
  · exact SBf_all ⟨j, hj⟩ ⟨i, h⟩
  · unfold SBf
    rw [List.getD_eq_getElem?_getD, List.getElem?_eq_none (by omega)]
    rfl
theorem SBok.app {txt : List Int32} {cap : Nat} {bt : Nat → Int32} {j : Nat} (hj : j < 34) (h : SBok txt cap bt) (hl : txt.length + (SB j).length ≤ cap) : SBok (txt ++ SB j) cap (va_cpy (SBf j) bt 0 txt.length (SB j).length) := by
  refine ⟨h.1, by rw [List.length_append]; exact hl, sb_fitC (SBf_fit hj) h.2.2.1, fun i hi => ?_⟩
  rw [List.length_append] at hi
  by_cases e : i < txt.length
  · show (if txt.length ≤ i ∧ i < txt.length + (SB j).length then _ else bt i) = _
    rw [if_neg (by omega), h.2.2.2 i e, List.getD_eq_getElem?_getD, List.getD_eq_getElem?_getD, List.getElem?_append_left e]
  · show (if txt.length ≤ i ∧ i < txt.length + (SB j).length then SBf j (0 + (i - txt.length)) else bt i) = _
    rw [if_pos (by omega), Nat.zero_add]
    unfold SBf
    rw [List.getD_eq_getElem?_getD, List.getD_eq_getElem?_getD, List.getElem?_append_right (by omega)]
theorem inS_J5_inflateIfNeededFor_a7421_J4 : ∀ w ∈ wsJ40, w ∈ wsJ5_inflateIfNeededFor_a7421 := by decide +kernel
abbrev rmS_inf : Room := { frames := 1, cells := 0, slots := 0, locals := 20 }
set_option maxHeartbeats 4000000 in
set_option maxRecDepth 100000 in
theorem cS_inf {l : Launch} {D : va_G} {k : tyK} (sb va cap : Nat) (ml ct : Int32) (bt : Nat → Int32) {j : Nat} (hj : j < 34) : FCv l yJ5_inflateIfNeededFor_a7421 wsJ5_inflateIfNeededFor_a7421 rmS_inf D k [.ref sb, .ref (kS k j)] [(sb, .inr (1, [.ref va, .int (0 : Int32), .int ml, .int ct])), (va, .inl (k.2.2.1, cap, .inl bt))] (fun (_ : Unit) => True) (fun _ => [(sb, .inr (1, [.ref va, .int (0 : Int32), .int ml, .int ct])), (va, .inl (k.2.2.1, cap, .inl bt))]) := by
  refine fc_start (cc := cJ5_inflateIfNeededFor_a7421) (maxL := 2) (ret := none) (own := RJ5) (Qc := fun A => va_Qv (fun (_ : Unit) => True) (Bt D (fun _ => [(sb, .inr (1, [.ref va, .int (0 : Int32), .int ml, .int ct])), (va, .inl (k.2.2.1, cap, .inl bt))]) A) A) (by decide) rfl rfl (Nat.le_of_ble_eq_true rfl) ?_
  intro p e s m below meth c A H hx hb hml hr hts hown hlk hname hA hP hE hD hS ls hl
  have hl : lv_has ls 2 [(0, .ref sb), (1, .ref (kS k j))] := hl
  obtain ⟨locs, hlocs⟩ : ∃ z : List Loc, z = [] := ⟨_, rfl⟩
  rw [← hlocs] at hS ⊢
  refine va_gets hx hb (GE.cs hE) hS hown (hts (.fieldLink RJ5 18 "java/lang/String" "COMPACT_STRINGS" "Z") (by decide +kernel)) (fun _ h9 => h9) dJ5_inflateIfNeededFor_a7421_0 ?_
  refine lv_if_eq (tgt := 21) hx hb dJ5_inflateIfNeededFor_a7421_3 (by decide) (fun c_1 => absurd c_1 (by decide)) (fun c_1 => ?_)
  refine lv_aload_n hx hb dJ5_inflateIfNeededFor_a7421_6 rfl (lv_at hl 0 rfl) ?_
  refine va_get (D := D) (ci := 1) (v := .int (0 : Int32)) (C := RJ4) (T := TJ4) (N := 4) hx hb hts inS_J5_inflateIfNeededFor_a7421_J4 hown hE.1 hP 0 rfl rfl 1 (by decide) (hts (.fieldLink RJ5 22 "java/lang/AbstractStringBuilder" "coder" "B") (by decide +kernel)) (fun _ h9 => h9) rfl dJ5_inflateIfNeededFor_a7421_7 ?_
  refine lv_aload_n hx hb dJ5_inflateIfNeededFor_a7421_10 rfl (lv_at hl 1 rfl) ?_
  refine fc_c0 (v := (0 : Int32)) (cells' := 0) (slots' := 0) (fc_runV (n := 0) (As := []) (rest := [.int (0 : Int32)]) (isC := []) (maxL := 1) ⟨hx, hb, hml, hown, hts⟩ (c_J0_coder_7d493 j hj H.size) gJ5_inflateIfNeededFor_a7421_J0_coder_7d493 rfl (by decide +kernel) rfl ⟨Nat.le_of_ble_eq_true rfl, Nat.le_of_ble_eq_true rfl⟩ ⟨Nat.le_of_ble_eq_true rfl, Nat.le_of_ble_eq_true rfl⟩ hE hP hD hS hA rfl rfl (GE.rcv hE hj hS) hl rfl (Nat.le_of_ble_eq_true rfl) dJ5_inflateIfNeededFor_a7421_11) hP hD hS hA rfl rfl (fun H locs hP hD hS => ?_)
  refine lv_icmp_eq (tgt := 21) hx hb dJ5_inflateIfNeededFor_a7421_14 (by decide) (fun _ => ?_) (fun h => absurd rfl h)
  exact fc_vret hx hb hr hlk hS () trivial hP hD (by decide) (by decide) dJ5_inflateIfNeededFor_a7421_21
abbrev rmS_gb : Room := { frames := 1, cells := 0, slots := 0, locals := 60 }
set_option maxHeartbeats 4000000 in
set_option maxRecDepth 100000 in
theorem cS_gb {l : Launch} {D : va_G} {k : tyK} (va cap p : Nat) (bt : Nat → Int32) {j : Nat} (hj : j < 34) (hp : p + (SB j).length ≤ cap) (hc : cap ≤ 142) : FCv l yJ0_getBytes_840e7 wsJ0_getBytes_840e7 rmS_gb D k [.ref (kS k j), .ref va, .int (nI p), .int (0 : Int32)] [(va, .inl (k.2.2.1, cap, .inl bt))] (fun (_ : Unit) => True) (fun _ => [(va, .inl (k.2.2.1, cap, .inl (va_cpy (SBf j) bt 0 p (SB j).length)))]) := by
  have h60 : (SB j).length < 60 := len_all ⟨j, hj⟩
  refine fc_start (cc := cJ0_getBytes_840e7) (maxL := 4) (ret := none) (own := RJ0) (Qc := fun A => va_Qv (fun (_ : Unit) => True) (Bt D (fun _ => [(va, .inl (k.2.2.1, cap, .inl (va_cpy (SBf j) bt 0 p (SB j).length)))]) A) A) (by decide) rfl rfl (Nat.le_of_ble_eq_true rfl) ?_
  intro pr e s m below meth c A H hx hb hml hr hts hown hlk hname hA hP hE hD hS ls hl
  have hl : lv_has ls 4 [(0, .ref (kS k j)), (1, .ref va), (2, .int (nI p)), (3, .int (0 : Int32))] := hl
  obtain ⟨locs, hlocs⟩ : ∃ z : List Loc, z = [] := ⟨_, rfl⟩
  rw [← hlocs] at hS ⊢
  refine lv_aload_n hx hb dJ0_getBytes_840e7_0 rfl (lv_at hl 0 rfl) ?_
  refine fc_c0 (v := (0 : Int32)) (cells' := 0) (slots' := 0) (fc_runV (n := 0) (As := []) (rest := []) (isC := []) (maxL := 1) ⟨hx, hb, hml, hown, hts⟩ (c_J0_coder_7d493 j hj H.size) gJ0_getBytes_840e7_J0_coder_7d493 rfl (by decide +kernel) rfl ⟨Nat.le_of_ble_eq_true rfl, Nat.le_of_ble_eq_true rfl⟩ ⟨Nat.le_of_ble_eq_true rfl, Nat.le_of_ble_eq_true rfl⟩ hE hP hD hS hA rfl rfl (GE.rcv hE hj hS) hl rfl (Nat.le_of_ble_eq_true rfl) dJ0_getBytes_840e7_1) hP hD hS hA rfl rfl (fun H locs hP hD hS => ?_)
  refine lv_iload_n hx hb dJ0_getBytes_840e7_4 rfl (lv_at hl 3 rfl) ?_
  refine lv_icmp_ne (tgt := 28) hx hb dJ0_getBytes_840e7_5 (by decide) (fun h => absurd rfl h) (fun _ => ?_)
  refine lv_aload_n hx hb dJ0_getBytes_840e7_8 rfl (lv_at hl 0 rfl) ?_
  refine vk_getf hx hb (GE.sv hE hj) hS hown (hts (.fieldLink RJ0 9 "java/lang/String" "value" "[B") (by decide +kernel)) (fun _ h9 => h9) dJ0_getBytes_840e7_9 ?_
  refine lv_iconst (v := 0) hx hb dJ0_getBytes_840e7_12 (by decide) ?_
  refine lv_aload_n hx hb dJ0_getBytes_840e7_13 rfl (lv_at hl 1 rfl) ?_
  refine lv_iload_n hx hb dJ0_getBytes_840e7_14 rfl (lv_at hl 2 rfl) ?_
  refine lv_iload_n hx hb dJ0_getBytes_840e7_15 rfl (lv_at hl 3 rfl) ?_
  refine lv_ishl hx hb dJ0_getBytes_840e7_16 ?_
  rw [sb_shl0]
  refine lv_aload_n hx hb dJ0_getBytes_840e7_17 rfl (lv_at hl 0 rfl) ?_
  refine vk_getf hx hb (GE.sv hE hj) hS hown (hts (.fieldLink RJ0 9 "java/lang/String" "value" "[B") (by decide +kernel)) (fun _ h9 => h9) dJ0_getBytes_840e7_18 ?_
  refine va_tlen hx hb (GE.sb hE hj) hS (v := nI (SB j).length) rfl dJ0_getBytes_840e7_21 ?_
  refine vk_copyt hx hb (hml.trans hl.1.symm) hown (hts (.methodLink RJ0 212 arraycopyName) (by decide +kernel)) (hts (.native arraycopyName) (by decide +kernel)) (hts (.static arraycopyName) (by decide +kernel)) (hts (.initialized "java/lang/System") (by decide +kernel)) hE.1 hP hD hS (f := SBf j) (GE.sb hE hj) 0 2 rfl rfl (by decide) (nI_pos (by omega)) (nI_pos (by omega)) (by rw [nI_clamp (by omega)]; show 0 + _ ≤ _; omega) (by rw [nI_clamp (by omega), nI_clamp (by omega)]; exact hp) (fun i _ => SBf_fit hj _) (by decide) (by decide +kernel) dJ0_getBytes_840e7_22 (fun H locs hP hD hS => ?_)
  rw [nI_clamp (by omega), nI_clamp (by omega)] at hP hD
  have hP : va_P D vwCl [(va, .inl (k.2.2.1, cap, .inl (va_cpy (SBf j) bt 0 p (SB j).length)))] H := hP
  have hD : va_D A [(va, .inl (k.2.2.1, cap, .inl (va_cpy (SBf j) bt 0 p (SB j).length)))] := hD
  refine lv_goto (tgt := 43) hx hb dJ0_getBytes_840e7_25 (by decide) ?_
  exact fc_vret hx hb hr hlk hS () trivial hP hD (by decide) (by decide) dJ0_getBytes_840e7_43
theorem inS_J5_putStringAt_47b60_J4 : ∀ w ∈ wsJ40, w ∈ wsJ5_putStringAt_47b60 := by decide +kernel
abbrev rmS_put : Room := { frames := 2, cells := 0, slots := 0, locals := 90 }
set_option maxHeartbeats 4000000 in
set_option maxRecDepth 100000 in
theorem cS_put {l : Launch} {D : va_G} {k : tyK} (sb va cap : Nat) (ml ct : Int32) (bt : Nat → Int32) (p : Nat) {j : Nat} (hj : j < 34) (hp : p + (SB j).length ≤ cap) (hc : cap ≤ 142) : FCv l yJ5_putStringAt_47b60 wsJ5_putStringAt_47b60 rmS_put D k [.ref sb, .int (nI p), .ref (kS k j)] [(sb, .inr (1, [.ref va, .int (0 : Int32), .int ml, .int ct])), (va, .inl (k.2.2.1, cap, .inl bt))] (fun (_ : Unit) => True) (fun _ => [(sb, .inr (1, [.ref va, .int (0 : Int32), .int ml, .int ct])), (va, .inl (k.2.2.1, cap, .inl (va_cpy (SBf j) bt 0 p (SB j).length)))]) := by
  refine fc_start (cc := cJ5_putStringAt_47b60) (maxL := 3) (ret := none) (own := RJ5) (Qc := fun A => va_Qv (fun (_ : Unit) => True) (Bt D (fun _ => [(sb, .inr (1, [.ref va, .int (0 : Int32), .int ml, .int ct])), (va, .inl (k.2.2.1, cap, .inl (va_cpy (SBf j) bt 0 p (SB j).length)))]) A) A) (by decide) rfl rfl (Nat.le_of_ble_eq_true rfl) ?_
  intro pr e s m below meth c A H hx hb hml hr hts hown hlk hname hA hP hE hD hS ls hl
  have hl : lv_has ls 3 [(0, .ref sb), (1, .int (nI p)), (2, .ref (kS k j))] := hl
  obtain ⟨locs, hlocs⟩ : ∃ z : List Loc, z = [] := ⟨_, rfl⟩
  rw [← hlocs] at hS ⊢
  refine lv_aload_n hx hb dJ5_putStringAt_47b60_0 rfl (lv_at hl 0 rfl) ?_
  refine lv_aload_n hx hb dJ5_putStringAt_47b60_1 rfl (lv_at hl 2 rfl) ?_
  refine fc_cv (isC := [0, 1]) (cells' := 0) (slots' := 0) (fc_runU (n := 1) (As := [.ref (kS k j)]) (rest := []) (isC := [0, 1]) (maxL := 2) ⟨hx, hb, hml, hown, hts⟩ (cS_inf sb va cap ml ct bt hj H.size) gJ5_putStringAt_47b60_J5_inflateIfNeededFor_a7421_u397J4 rfl rfl (by decide +kernel) rfl ⟨Nat.le_of_ble_eq_true rfl, Nat.le_of_ble_eq_true rfl⟩ ⟨Nat.le_of_ble_eq_true rfl, Nat.le_of_ble_eq_true rfl⟩ hE hP hD hS hA rfl rfl (va_recv hE.1 hP (ci := 1) (q0 := 0) rfl rfl) hl rfl (Nat.le_of_ble_eq_true rfl) dJ5_putStringAt_47b60_2) hP hD hS hA rfl (fun _ => rfl) rfl rfl (fun _ H locs _ hP hD hS => ?_)
  dsimp only [fs, List.set] at hP hD
  have hP : va_P D vwCl [(sb, .inr (1, [.ref va, .int (0 : Int32), .int ml, .int ct])), (va, .inl (k.2.2.1, cap, .inl bt))] H := hP
  have hD : va_D A [(sb, .inr (1, [.ref va, .int (0 : Int32), .int ml, .int ct])), (va, .inl (k.2.2.1, cap, .inl bt))] := hD
  refine lv_aload_n hx hb dJ5_putStringAt_47b60_5 rfl (lv_at hl 2 rfl) ?_
  refine lv_aload_n hx hb dJ5_putStringAt_47b60_6 rfl (lv_at hl 0 rfl) ?_
  refine va_get (D := D) (ci := 1) (v := .ref va) (C := RJ4) (T := TJ4) (N := 4) hx hb hts inS_J5_putStringAt_47b60_J4 hown hE.1 hP 0 rfl rfl 0 (by decide) (hts (.fieldLink RJ5 15 "java/lang/AbstractStringBuilder" "value" "[B") (by decide +kernel)) (fun _ h9 => h9) rfl dJ5_putStringAt_47b60_7 ?_
  refine lv_iload_n hx hb dJ5_putStringAt_47b60_10 rfl (lv_at hl 1 rfl) ?_
  refine lv_aload_n hx hb dJ5_putStringAt_47b60_11 rfl (lv_at hl 0 rfl) ?_
  refine va_get (D := D) (ci := 1) (v := .int (0 : Int32)) (C := RJ4) (T := TJ4) (N := 4) hx hb hts inS_J5_putStringAt_47b60_J4 hown hE.1 hP 0 rfl rfl 1 (by decide) (hts (.fieldLink RJ5 22 "java/lang/AbstractStringBuilder" "coder" "B") (by decide +kernel)) (fun _ h9 => h9) rfl dJ5_putStringAt_47b60_12 ?_
  refine fc_cv (isC := [1]) (cells' := 0) (slots' := 0) (fc_runV (n := 3) (As := [.ref va, .int (nI p), .int (0 : Int32)]) (rest := []) (isC := [1]) (maxL := 4) ⟨hx, hb, hml, hown, hts⟩ (cS_gb va cap p bt hj hp hc H.size) gJ5_putStringAt_47b60_J0_getBytes_840e7 rfl (by decide +kernel) rfl ⟨Nat.le_of_ble_eq_true rfl, Nat.le_of_ble_eq_true rfl⟩ ⟨Nat.le_of_ble_eq_true rfl, Nat.le_of_ble_eq_true rfl⟩ hE hP hD hS hA rfl rfl (GE.rcv hE hj hS) hl rfl (Nat.le_of_ble_eq_true rfl) dJ5_putStringAt_47b60_15) hP hD hS hA rfl (fun _ => rfl) rfl rfl (fun _ H locs _ hP hD hS => ?_)
  dsimp only [fs, List.set] at hP hD
  have hP : va_P D vwCl [(sb, .inr (1, [.ref va, .int (0 : Int32), .int ml, .int ct])), (va, .inl (k.2.2.1, cap, .inl (va_cpy (SBf j) bt 0 p (SB j).length)))] H := hP
  have hD : va_D A [(sb, .inr (1, [.ref va, .int (0 : Int32), .int ml, .int ct])), (va, .inl (k.2.2.1, cap, .inl (va_cpy (SBf j) bt 0 p (SB j).length)))] := hD
  exact fc_vret hx hb hr hlk hS () trivial hP hD (by decide) (by decide) dJ5_putStringAt_47b60_18
theorem inS_J5_append_cf1ce_J4 : ∀ w ∈ wsJ40, w ∈ wsJ5_append_cf1ce := by decide +kernel
abbrev rmS_app5 : Room := { frames := 4, cells := 1, slots := 142, locals := 140 }
set_option maxHeartbeats 4000000 in
set_option maxRecDepth 100000 in
theorem cS_app5 {l : Launch} {D : va_G} {k : tyK} (sb va cap : Nat) (ml : Int32) (txt : List Int32) (bt : Nat → Int32) {j : Nat} (ok : SBok txt cap bt) (hj : j < 34) (hn : (SB j).length ≤ 16) (hlen : txt.length < 120) : FCrS l yJ5_append_cf1ce wsJ5_append_cf1ce rmS_app5 D k [.ref sb, .ref (kS k j)] [(sb, .inr (1, [.ref va, .int (0 : Int32), .int ml, .int (nI txt.length)])), (va, .inl (k.2.2.1, cap, .inl bt))] sb (fun u => SBok (txt ++ SB j) u.2.1 u.2.2) (sbW k sb ml (txt ++ SB j)) := by
  refine fc_start (cc := cJ5_append_cf1ce) (maxL := 3) (ret := (some (.object "java/lang/AbstractStringBuilder"))) (own := RJ5) (Qc := fun A => va_Qr (fun u => SBok (txt ++ SB j) u.2.1 u.2.2) (fun u a t => a = sb ∧ va_P D vwCl (sbW k sb ml (txt ++ SB j) u) t.heap ∧ va_D A (sbW k sb ml (txt ++ SB j) u)) A) (by decide) rfl rfl (Nat.le_of_ble_eq_true rfl) ?_
  intro p e s m below meth c A H hx hb hml hr hts hown hlk hname hA hP hE hD hS ls hl
  have hl : lv_has ls 3 [(0, .ref sb), (1, .ref (kS k j))] := hl
  obtain ⟨locs, hlocs⟩ : ∃ z : List Loc, z = [] := ⟨_, rfl⟩
  rw [← hlocs] at hS ⊢
  refine lv_aload_n hx hb dJ5_append_cf1ce_0 rfl (lv_at hl 1 rfl) ?_
  refine lv_ifnonnull (tgt := 9) hx hb dJ5_append_cf1ce_1 (by decide) ?_
  refine lv_aload_n hx hb dJ5_append_cf1ce_9 rfl (lv_at hl 1 rfl) ?_
  refine fc_c0 (v := (nI (SB j).length)) (cells' := 0) (slots' := 0) (fc_runV (n := 0) (As := []) (rest := []) (isC := []) (maxL := 1) ⟨hx, hb, hml, hown, hts⟩ ((LEN_k hj) H.size) gJ5_append_cf1ce_J0_length_8abf5 rfl (by decide +kernel) rfl ⟨Nat.le_of_ble_eq_true rfl, Nat.le_of_ble_eq_true rfl⟩ ⟨Nat.le_of_ble_eq_true rfl, Nat.le_of_ble_eq_true rfl⟩ hE hP hD hS hA rfl rfl (GE.rcv hE hj hS) hl rfl (Nat.le_of_ble_eq_true rfl) dJ5_append_cf1ce_10) hP hD hS hA rfl rfl (fun H locs hP hD hS => ?_)
  refine lv_istore_n (lv' := [(2, .int (nI (SB j).length)), (0, .ref sb), (1, .ref (kS k j))]) hx hb dJ5_append_cf1ce_13 rfl hl (by decide) rfl (fun ls hl => ?_)
  refine lv_aload_n hx hb dJ5_append_cf1ce_14 rfl (lv_at hl 1 rfl) ?_
  refine lv_aload_n hx hb dJ5_append_cf1ce_15 rfl (lv_at hl 1 rfl) ?_
  refine va_get (D := D) (ci := 1) (v := .int (nI txt.length)) (C := RJ4) (T := TJ4) (N := 4) hx hb hts inS_J5_append_cf1ce_J4 hown hE.1 hP 0 rfl rfl 3 (by decide) (hts (.fieldLink RJ5 79 "java/lang/AbstractStringBuilder" "count" "I") (by decide +kernel)) (fun _ h9 => h9) rfl dJ5_append_cf1ce_16 ?_
  refine lv_iload_n hx hb dJ5_append_cf1ce_19 rfl (lv_at hl 0 rfl) ?_
  refine lv_iadd hx hb dJ5_append_cf1ce_20 ?_
  rw [nI_add]
  refine fc_cv (isC := [0, 1]) (cells' := 1) (slots' := 142) (fc_runU (n := 1) (As := [.int (nI (txt.length + (SB j).length))]) (rest := []) (isC := [0, 1]) (maxL := 3) ⟨hx, hb, hml, hown, hts⟩ (cT_J5_ensure sb va cap (txt.length + (SB j).length) ml (nI txt.length) bt txt ok (by have := ok.2.1; have := ok.lt.2; omega) (by omega) H.size) gJ5_append_cf1ce_J5_ensureCapacityInternal_d00df_u100J4 rfl rfl (by decide +kernel) rfl ⟨Nat.le_of_ble_eq_true rfl, Nat.le_of_ble_eq_true rfl⟩ ⟨Nat.le_of_ble_eq_true rfl, Nat.le_of_ble_eq_true rfl⟩ hE hP hD hS hA rfl rfl (va_recv hE.1 hP (ci := 1) (q0 := 0) rfl rfl) hl rfl (Nat.le_of_ble_eq_true rfl) dJ5_append_cf1ce_21) hP hD hS hA rfl (fun _ => rfl) rfl rfl (fun u H locs hu hP hD hS => ?_)
  obtain ⟨va', cap', bt'⟩ := u
  obtain ⟨ok', hQ'⟩ := hu
  replace ok' : SBok txt cap' bt' := ok'
  replace hQ' : txt.length + (SB j).length ≤ cap' := hQ'
  dsimp only [fs, List.set] at hP hD
  have hP : va_P D vwCl [(sb, .inr (1, [.ref va', .int (0 : Int32), .int ml, .int (nI txt.length)])), (va', .inl (k.2.2.1, cap', .inl bt'))] H := hP
  have hD : va_D A [(sb, .inr (1, [.ref va', .int (0 : Int32), .int ml, .int (nI txt.length)])), (va', .inl (k.2.2.1, cap', .inl bt'))] := hD
  refine lv_aload_n hx hb dJ5_append_cf1ce_24 rfl (lv_at hl 1 rfl) ?_
  refine lv_aload_n hx hb dJ5_append_cf1ce_25 rfl (lv_at hl 1 rfl) ?_
  refine va_get (D := D) (ci := 1) (v := .int (nI txt.length)) (C := RJ4) (T := TJ4) (N := 4) hx hb hts inS_J5_append_cf1ce_J4 hown hE.1 hP 0 rfl rfl 3 (by decide) (hts (.fieldLink RJ5 79 "java/lang/AbstractStringBuilder" "count" "I") (by decide +kernel)) (fun _ h9 => h9) rfl dJ5_append_cf1ce_26 ?_
  refine lv_aload_n hx hb dJ5_append_cf1ce_29 rfl (lv_at hl 2 rfl) ?_
  refine fc_cv (isC := [0, 1]) (cells' := 1) (slots' := 142) (fc_runU (n := 2) (As := [.int (nI txt.length), .ref (kS k j)]) (rest := []) (isC := [0, 1]) (maxL := 3) ⟨hx, hb, hml, hown, hts⟩ (cS_put sb va' cap' ml (nI txt.length) bt' txt.length hj hQ' ok'.lt.1 H.size) gJ5_append_cf1ce_J5_putStringAt_47b60_u208J4 rfl rfl (by decide +kernel) rfl ⟨Nat.le_of_ble_eq_true rfl, Nat.le_of_ble_eq_true rfl⟩ ⟨Nat.le_of_ble_eq_true rfl, Nat.le_of_ble_eq_true rfl⟩ hE hP hD hS hA rfl rfl (va_recv hE.1 hP (ci := 1) (q0 := 0) rfl rfl) hl rfl (Nat.le_of_ble_eq_true rfl) dJ5_append_cf1ce_30) hP hD hS hA rfl (fun _ => rfl) rfl rfl (fun _ H locs _ hP hD hS => ?_)
  dsimp only [fs, List.set] at hP hD
  have hP : va_P D vwCl [(sb, .inr (1, [.ref va', .int (0 : Int32), .int ml, .int (nI txt.length)])), (va', .inl (k.2.2.1, cap', .inl (va_cpy (SBf j) bt' 0 txt.length (SB j).length)))] H := hP
  have hD : va_D A [(sb, .inr (1, [.ref va', .int (0 : Int32), .int ml, .int (nI txt.length)])), (va', .inl (k.2.2.1, cap', .inl (va_cpy (SBf j) bt' 0 txt.length (SB j).length)))] := hD
  refine lv_aload_n hx hb dJ5_append_cf1ce_33 rfl (lv_at hl 1 rfl) ?_
  refine lv_dup hx hb dJ5_append_cf1ce_34 rfl ?_
  refine va_get (D := D) (ci := 1) (v := .int (nI txt.length)) (C := RJ4) (T := TJ4) (N := 4) hx hb hts inS_J5_append_cf1ce_J4 hown hE.1 hP 0 rfl rfl 3 (by decide) (hts (.fieldLink RJ5 79 "java/lang/AbstractStringBuilder" "count" "I") (by decide +kernel)) (fun _ h9 => h9) rfl dJ5_append_cf1ce_35 ?_
  refine lv_iload_n hx hb dJ5_append_cf1ce_38 rfl (lv_at hl 0 rfl) ?_
  refine lv_iadd hx hb dJ5_append_cf1ce_39 ?_
  rw [nI_add]
  refine va_put (D := D) (ci := 1) (v := .int (nI (txt.length + (SB j).length))) (ty := .int) (C := RJ4) (T := TJ4) (N := 4) hx hb hts inS_J5_append_cf1ce_J4 tyJ4 tyJ4_ok nmJ4 hown hE.1 hP hD hS 0 rfl rfl 3 (by decide) (hts (.fieldLink RJ5 79 "java/lang/AbstractStringBuilder" "count" "I") (by decide +kernel)) (fun _ h9 => h9) rfl (by decide +kernel) rfl rfl (Nat.le_of_ble_eq_true rfl) dJ5_append_cf1ce_40 (fun H locs hP hD hS => ?_)
  have hP : va_P D vwCl [(sb, .inr (1, [.ref va', .int (0 : Int32), .int ml, .int (nI (txt.length + (SB j).length))])), (va', .inl (k.2.2.1, cap', .inl (va_cpy (SBf j) bt' 0 txt.length (SB j).length)))] H := hP
  have hD : va_D A [(sb, .inr (1, [.ref va', .int (0 : Int32), .int ml, .int (nI (txt.length + (SB j).length))])), (va', .inl (k.2.2.1, cap', .inl (va_cpy (SBf j) bt' 0 txt.length (SB j).length)))] := hD
  refine lv_aload_n hx hb dJ5_append_cf1ce_43 rfl (lv_at hl 1 rfl) ?_
  rw [show txt.length + (SB j).length = (txt ++ SB j).length from List.length_append.symm] at hP hD
  exact fc_aretS hx hb hr (Or.inl ⟨_, rfl⟩) hlk hS (va', cap', va_cpy (SBf j) bt' 0 txt.length (SB j).length) (ok'.app hj hQ') rfl hP hD (by decide) (by decide) dJ5_append_cf1ce_44
abbrev rmS_app4 : Room := { frames := 5, cells := 1, slots := 142, locals := 165 }
set_option maxHeartbeats 4000000 in
set_option maxRecDepth 100000 in
theorem cS_app4 {l : Launch} {D : va_G} {k : tyK} (sb va cap : Nat) (ml : Int32) (txt : List Int32) (bt : Nat → Int32) {j : Nat} (ok : SBok txt cap bt) (hj : j < 34) (hn : (SB j).length ≤ 16) (hlen : txt.length < 120) : FCrS l yJ4_append_15ec4 wsJ4_append_15ec4 rmS_app4 D k [.ref sb, .ref (kS k j)] [(sb, .inr (1, [.ref va, .int (0 : Int32), .int ml, .int (nI txt.length)])), (va, .inl (k.2.2.1, cap, .inl bt))] sb (fun u => SBok (txt ++ SB j) u.2.1 u.2.2) (sbW k sb ml (txt ++ SB j)) := by
  refine fc_start (cc := cJ4_append_15ec4) (maxL := 2) (ret := (some (.object "java/lang/StringBuilder"))) (own := RJ4) (Qc := fun A => va_Qr (fun u => SBok (txt ++ SB j) u.2.1 u.2.2) (fun u a t => a = sb ∧ va_P D vwCl (sbW k sb ml (txt ++ SB j) u) t.heap ∧ va_D A (sbW k sb ml (txt ++ SB j) u)) A) (by decide) rfl rfl (Nat.le_of_ble_eq_true rfl) ?_
  intro p e s m below meth c A H hx hb hml hr hts hown hlk hname hA hP hE hD hS ls hl
  have hl : lv_has ls 2 [(0, .ref sb), (1, .ref (kS k j))] := hl
  obtain ⟨locs, hlocs⟩ : ∃ z : List Loc, z = [] := ⟨_, rfl⟩
  rw [← hlocs] at hS ⊢
  refine lv_aload_n hx hb dJ4_append_15ec4_0 rfl (lv_at hl 0 rfl) ?_
  refine lv_aload_n hx hb dJ4_append_15ec4_1 rfl (lv_at hl 1 rfl) ?_
  refine fc_crS (isC := [0, 1]) (cells' := 1) (slots' := 142) (fc_runSU (hat := (hE.1.1 1 _ rfl).2) (n := 1) (As := [.ref (kS k j)]) (rest := []) (isC := [0, 1]) (maxL := 3) ⟨hx, hb, hml, hown, hts⟩ (cS_app5 sb va cap ml txt bt ok hj hn hlen H.size) gJ4_append_15ec4_J5_append_cf1ce_s29 rfl (by decide +kernel) rfl ⟨Nat.le_of_ble_eq_true rfl, Nat.le_of_ble_eq_true rfl⟩ ⟨Nat.le_of_ble_eq_true rfl, Nat.le_of_ble_eq_true rfl⟩ hE hP hD hS hA rfl rfl (va_recv hE.1 hP (ci := 1) (q0 := 0) rfl rfl) hl rfl (Nat.le_of_ble_eq_true rfl) dJ4_append_15ec4_2) hP hD hS hA rfl (fun _ => rfl) rfl rfl (fun u H locs hu hP hD hS => ?_)
  dsimp only [fs, List.set] at hP hD
  have hP : va_P D vwCl (sbW k sb ml (txt ++ SB j) u) H := hP
  have hD : va_D A (sbW k sb ml (txt ++ SB j) u) := hD
  refine lv_pop hx hb dJ4_append_15ec4_5 rfl ?_
  refine lv_aload_n hx hb dJ4_append_15ec4_6 rfl (lv_at hl 0 rfl) ?_
  exact fc_aretS hx hb hr (Or.inl ⟨_, rfl⟩) hlk hS u hu rfl hP hD (by decide) (by decide) dJ4_append_15ec4_7
end TSstrA
