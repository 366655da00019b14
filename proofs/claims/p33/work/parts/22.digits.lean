/-! Numbers 0 .. 99 in a StringBuilder's text, and the calls of StringBuilder itself. -/
section TSappend2
/-- the letters of a number below 100 -/
def sbD (v : Nat) : List Int32 := if v < 10 then [nI (48 + v)] else [nI (48 + v / 10), nI (48 + v % 10)]
theorem sbD_len {v : Nat} : (sbD v).length = if v < 10 then 1 else 2 := by
  unfold sbD
  split <;> rfl
theorem sbD_ss : ∀ v, v < 100 → F_J6_stringSize_0f7a4 (nI v) = nI (if v < 10 then 1 else 2) := by decide +kernel
theorem sbD_h0 : ∀ v, v < 100 → (0 : Int32) ≤ nI v := by decide +kernel
theorem sbD_h9 : ∀ v, v < 100 → ¬ (-nI v) ≤ (-100 : Int32) := by decide +kernel
theorem sbD_c : ∀ v, v < 100 → ((-9 : Int32) ≤ (-nI v) ↔ v < 10) := by decide +kernel
theorem sbD_ch : ∀ n, n < 128 → vp_nar .byte (nI n) = nI n := by decide +kernel
theorem sbD_get {v : Nat} (hv : v < 100) (n : Nat) (hn : n < 1000) (bt : Nat → Int32) : (F_J6_getChars_ba4f3 bt (nI v) (nI (n + (sbD v).length))).2 = if v < 10 then upd bt n (nI (48 + v)) else upd (upd bt (n + 1) (nI (48 + v % 10))) n (nI (48 + v / 10)) := by
  unfold F_J6_getChars_ba4f3
  rw [sbD_len, Int32.neg_neg, nI_clamp (n := v) (by omega)]
  by_cases h : v < 10
  · rw [if_pos h, if_pos h, if_pos ((sbD_c v hv).mpr h)]
    have e1 : nI (n + 1) + (-1 : Int32) = nI n := sb_m1 (by omega)
    show upd bt (nI (n + 1) + (-1 : Int32)).toNatClampNeg (vp_nar .byte (dgO v)) = _
    rw [e1, nI_clamp (by omega)]
    unfold dgO
    rw [sbD_ch _ (by omega), Nat.mod_eq_of_lt h]
  · rw [if_neg h, if_neg h, if_neg (fun z => h ((sbD_c v hv).mp z))]
    have e1 : nI (n + 2) + (-1 : Int32) = nI (n + 1) := sb_m1 (by omega)
    have e2 : nI (n + 1) + (-1 : Int32) = nI n := sb_m1 (by omega)
    show upd (upd bt (nI (n + 2) + (-1 : Int32)).toNatClampNeg (vp_nar .byte (dgO v))) ((nI (n + 2) + (-1 : Int32)) + (-1 : Int32)).toNatClampNeg (vp_nar .byte (dgT v)) = _
    rw [e1, e2, nI_clamp (n := n) (by omega), nI_clamp (n := n + 1) (by omega)]
    unfold dgO dgT
    rw [sbD_ch _ (by omega), sbD_ch _ (by omega)]
theorem SBch.dig {n : Nat} (h : n < 128) : SBch (nI n) := ⟨n, h, rfl⟩
theorem upd_comm {f : Nat → Int32} {a b : Nat} {x y : Int32} (h : a ≠ b) : upd (upd f a x) b y = upd (upd f b y) a x := by
  funext j
  by_cases e : j = a
  · subst e
    rw [pk_us, pk_un h, pk_us]
  · by_cases e2 : j = b
    · subst e2
      rw [pk_us, pk_un e, pk_us]
    · rw [pk_un e2, pk_un e, pk_un e, pk_un e2]
theorem SBok.digs {txt : List Int32} {cap v : Nat} {bt : Nat → Int32} (h : SBok txt cap bt) (hv : v < 100) (hl : txt.length + (sbD v).length ≤ cap) : SBok (txt ++ sbD v) cap (F_J6_getChars_ba4f3 bt (nI v) (nI (txt.length + (sbD v).length))).2 := by
  have h142 := h.lt.1
  rw [sbD_get hv _ (by omega)]
  rw [sbD_len] at hl
  unfold sbD
  by_cases e : v < 10
  · rw [if_pos e] at hl
    rw [if_pos e, if_pos e]
    exact h.push hl (SBch.dig (by omega))
  · rw [if_neg e] at hl
    rw [if_neg e, if_neg e]
    have h1 := h.push (c := nI (48 + v / 10)) (by omega) (SBch.dig (by omega))
    have h2 := h1.push (c := nI (48 + v % 10)) (by rw [List.length_append]; exact hl) (SBch.dig (by omega))
    rw [List.length_append] at h2
    have e3 : txt ++ [nI (48 + v / 10), nI (48 + v % 10)] = (txt ++ [nI (48 + v / 10)]) ++ [nI (48 + v % 10)] := by rw [List.append_assoc]; rfl
    rw [e3, upd_comm (by omega)]
    exact h2

abbrev rmT_J5_append_I : Room := { frames := 4, cells := 1, slots := 142, locals := 122 }
set_option maxHeartbeats 4000000 in
set_option maxRecDepth 100000 in
theorem cT_J5_append_I {l : Launch} {D : va_G} {k : tyK} (sb va : Nat) (cap : Nat) (ml : Int32) (txt : List Int32) (bt : (Nat → Int32)) (v : Nat) (ok : SBok txt cap bt) (hv : v < 100) (hlen : txt.length < 141) : FCrS l yJ5_append_c97b9 wsJ5_append_c97b9 rmT_J5_append_I D k [.ref sb, .int (nI v)] [(sb, .inr (1, [.ref va, .int (0 : Int32), .int ml, .int (nI txt.length)])), (va, .inl (k.2.2.1, cap, .inl bt))] sb (fun u => SBok (txt ++ sbD v) u.2.1 u.2.2) (sbW k sb ml (txt ++ sbD v)) := by
  obtain ⟨Q, hQe⟩ : ∃ Q, Q = txt.length + (sbD v).length := ⟨_, rfl⟩
  have hsz : (sbD v).length = 1 ∨ (sbD v).length = 2 := by rw [sbD_len]; split; exact Or.inl rfl; exact Or.inr rfl
  have hadd : nI txt.length + (F_J6_stringSize_0f7a4 (nI v)) = nI Q := by rw [sbD_ss v hv, ← sbD_len, hQe]; exact nI_add _ _
  have hm1 : nI Q + (-1 : Int32) = nI (Q - 1) := sb_m1 (by omega)
  refine fc_start (cc := cJ5_append_c97b9) (maxL := 4) (ret := (some (.object "java/lang/AbstractStringBuilder"))) (own := RJ5) (Qc := fun A => va_Qr (fun u => SBok (txt ++ sbD v) u.2.1 u.2.2) (fun u a t => a = sb ∧ va_P D vwCl (sbW k sb ml (txt ++ sbD v) u) t.heap ∧ va_D A (sbW k sb ml (txt ++ sbD v) u)) A) (by decide) rfl rfl (Nat.le_of_ble_eq_true rfl) ?_
  intro p e s m below meth c A H hx hb hml hr hts hown hlk hname hA hP hE hD hS ls hl
  have hl : lv_has ls 4 [(0, .ref sb), (1, .int (nI v))] := hl
  obtain ⟨locs, hlocs⟩ : ∃ z : List Loc, z = [] := ⟨_, rfl⟩
  rw [← hlocs] at hS ⊢
  refine lv_aload_n hx hb dJ5_append_c97b9_0 rfl (lv_at hl 0 rfl) ?_
  refine va_get (D := D) (ci := 1) (v := .int (nI txt.length)) (C := RJ4) (T := TJ4) (N := 4) hx hb hts in_J5_append_c97b9_J4 hown hE.1 hP 0 rfl rfl 3 (by decide) (hts _ lk_J5_append_c97b9_79) (fun _ h9 => h9) rfl dJ5_append_c97b9_1 ?_
  refine lv_istore_n (lv' := [(2, .int (nI txt.length)), (0, .ref sb), (1, .int (nI v))]) hx hb dJ5_append_c97b9_4 rfl hl (by decide) rfl (fun ls hl => ?_)
  refine lv_iload_n hx hb dJ5_append_c97b9_5 rfl (lv_at hl 0 rfl) ?_
  refine lv_iload_n hx hb dJ5_append_c97b9_6 rfl (lv_at hl 2 rfl) ?_
  refine fc_ci (isC := []) (cells' := 0) (slots' := 0) (fc_runS (n := 1) (As := [.int (nI v)]) (rest := [.int (nI txt.length)]) (isC := []) (maxL := 4) ⟨hx, hb, hml, hown, hts⟩ (c_J6_stringSize_0f7a4 (nI v) (sbD_h0 v hv) (sbD_h9 v hv) H.size) gJ5_append_c97b9_J6_stringSize_0f7a4 rfl (by decide +kernel) rfl ⟨Nat.le_of_ble_eq_true rfl, Nat.le_of_ble_eq_true rfl⟩ ⟨Nat.le_of_ble_eq_true rfl, Nat.le_of_ble_eq_true rfl⟩ hE hP hD hS hA rfl rfl hl rfl (Nat.le_of_ble_eq_true rfl) dJ5_append_c97b9_7) hP hD hS hA rfl (fun _ => rfl) rfl rfl (fun r_1 _ H locs hr_1 hP hD hS => ?_)
  obtain rfl : (F_J6_stringSize_0f7a4 (nI v)) = r_1 := hr_1.symm
  dsimp only [fs, List.set] at hP hD
  have hP : va_P D vwCl [(sb, .inr (1, [.ref va, .int (0 : Int32), .int ml, .int (nI txt.length)])), (va, .inl (k.2.2.1, cap, .inl bt))] H := hP
  have hD : va_D A [(sb, .inr (1, [.ref va, .int (0 : Int32), .int ml, .int (nI txt.length)])), (va, .inl (k.2.2.1, cap, .inl bt))] := hD
  refine lv_iadd hx hb dJ5_append_c97b9_10 ?_
  rw [hadd]
  refine lv_istore_n (lv' := [(3, .int (nI Q)), (2, .int (nI txt.length)), (0, .ref sb), (1, .int (nI v))]) hx hb dJ5_append_c97b9_11 rfl hl (by decide) rfl (fun ls hl => ?_)
  refine lv_aload_n hx hb dJ5_append_c97b9_12 rfl (lv_at hl 2 rfl) ?_
  refine lv_iload_n hx hb dJ5_append_c97b9_13 rfl (lv_at hl 0 rfl) ?_
  refine fc_cv (isC := [0, 1]) (cells' := 1) (slots' := 142) (fc_runU (n := 1) (As := [.int (nI Q)]) (rest := []) (isC := [0, 1]) (maxL := 3) ⟨hx, hb, hml, hown, hts⟩ (cT_J5_ensure sb va cap Q ml (nI txt.length) bt txt ok (by have := ok.2.1; have := ok.lt.2; omega) (by omega) H.size) gJ5_append_c97b9_J5_ensureCapacityInternal_d00df_u100J4 rfl rfl (by decide +kernel) rfl ⟨Nat.le_of_ble_eq_true rfl, Nat.le_of_ble_eq_true rfl⟩ ⟨Nat.le_of_ble_eq_true rfl, Nat.le_of_ble_eq_true rfl⟩ hE hP hD hS hA rfl rfl (va_recv hE.1 hP (ci := 1) (q0 := 0) rfl rfl) hl rfl (Nat.le_of_ble_eq_true rfl) dJ5_append_c97b9_14) hP hD hS hA rfl (fun _ => rfl) rfl rfl (fun u H locs hu hP hD hS => ?_)
  obtain ⟨va', cap', bt'⟩ := u
  obtain ⟨ok', hQ'⟩ := hu
  replace ok' : SBok txt cap' bt' := ok'
  replace hQ' : Q ≤ cap' := hQ'
  have h142 := ok'.lt.1
  have hw2 : ¬ (-9 : Int32) ≤ (-nI v) → vp_in ((nI Q + (-1 : Int32)) + (-1 : Int32)) cap' := by
    intro hz
    have hv2 : ¬ v < 10 := fun z => hz ((sbD_c v hv).mpr z)
    have hl2 : (sbD v).length = 2 := by rw [sbD_len, if_neg hv2]
    have hm2 : nI (Q - 1) + (-1 : Int32) = nI (Q - 1 - 1) := sb_m1 (by omega)
    rw [hm1, hm2]
    exact nI_in (by omega) (by omega)
  dsimp only [fs, List.set] at hP hD
  have hP : va_P D vwCl [(sb, .inr (1, [.ref va', .int (0 : Int32), .int ml, .int (nI txt.length)])), (va', .inl (k.2.2.1, cap', .inl bt'))] H := hP
  have hD : va_D A [(sb, .inr (1, [.ref va', .int (0 : Int32), .int ml, .int (nI txt.length)])), (va', .inl (k.2.2.1, cap', .inl bt'))] := hD
  refine lv_aload_n hx hb dJ5_append_c97b9_17 rfl (lv_at hl 2 rfl) ?_
  refine fc_ci (isC := [0, 1]) (cells' := 1) (slots' := 142) (fc_runU (n := 0) (As := []) (rest := []) (isC := [0, 1]) (maxL := 1) ⟨hx, hb, hml, hown, hts⟩ (c_J5_isLatin1_aae02 sb va' cap' ml (nI txt.length) bt' H.size) gJ5_append_c97b9_J5_isLatin1_aae02_u83J4 rfl rfl (by decide +kernel) rfl ⟨Nat.le_of_ble_eq_true rfl, Nat.le_of_ble_eq_true rfl⟩ ⟨Nat.le_of_ble_eq_true rfl, Nat.le_of_ble_eq_true rfl⟩ hE hP hD hS hA rfl rfl (va_recv hE.1 hP (ci := 1) (q0 := 0) rfl rfl) hl rfl (Nat.le_of_ble_eq_true rfl) dJ5_append_c97b9_18) hP hD hS hA rfl (fun _ => rfl) rfl rfl (fun r_2 _ H locs hr_2 hP hD hS => ?_)
  obtain rfl : (1 : Int32) = r_2 := hr_2.symm
  dsimp only [fs, List.set] at hP hD
  have hP : va_P D vwCl [(sb, .inr (1, [.ref va', .int (0 : Int32), .int ml, .int (nI txt.length)])), (va', .inl (k.2.2.1, cap', .inl bt'))] H := hP
  have hD : va_D A [(sb, .inr (1, [.ref va', .int (0 : Int32), .int ml, .int (nI txt.length)])), (va', .inl (k.2.2.1, cap', .inl bt'))] := hD
  refine lv_if_eq (tgt := 37) hx hb dJ5_append_c97b9_21 (by decide) (fun c_3 => absurd c_3 (by decide)) (fun c_3 => ?_)
  refine lv_iload_n hx hb dJ5_append_c97b9_24 rfl (lv_at hl 3 rfl) ?_
  refine lv_iload_n hx hb dJ5_append_c97b9_25 rfl (lv_at hl 0 rfl) ?_
  refine lv_aload_n hx hb dJ5_append_c97b9_26 rfl (lv_at hl 2 rfl) ?_
  refine va_get (D := D) (ci := 1) (v := .ref va') (C := RJ4) (T := TJ4) (N := 4) hx hb hts in_J5_append_c97b9_J4 hown hE.1 hP 0 rfl rfl 0 (by decide) (hts _ lk_J5_append_c97b9_15) (fun _ h9 => h9) rfl dJ5_append_c97b9_27 ?_
  refine fc_ci (isC := [1]) (cells' := 1) (slots' := 142) (fc_runS (n := 3) (As := [.int (nI v), .int (nI Q), .ref va']) (rest := []) (isC := [1]) (maxL := 7) ⟨hx, hb, hml, hown, hts⟩ (c_J6_getChars_ba4f3 va' cap' bt' (nI v) (nI Q) (sbD_h0 v hv) (sbD_h9 v hv) (by rw [Int32.neg_neg]; exact nI_in hv (by decide)) (by rw [hm1]; exact nI_in (by omega) (by omega)) hw2 H.size) gJ5_append_c97b9_J6_getChars_ba4f3 rfl (by decide +kernel) rfl ⟨Nat.le_of_ble_eq_true rfl, Nat.le_of_ble_eq_true rfl⟩ ⟨Nat.le_of_ble_eq_true rfl, Nat.le_of_ble_eq_true rfl⟩ hE hP hD hS hA rfl rfl hl rfl (Nat.le_of_ble_eq_true rfl) dJ5_append_c97b9_30) hP hD hS hA rfl (fun _ => rfl) rfl rfl (fun r_5 _ H locs hr_5 hP hD hS => ?_)
  dsimp only [fs, List.set] at hP hD
  have hP : va_P D vwCl [(sb, .inr (1, [.ref va', .int (0 : Int32), .int ml, .int (nI txt.length)])), (va', .inl (k.2.2.1, cap', .inl (F_J6_getChars_ba4f3 bt' (nI v) (nI Q)).2))] H := hP
  have hD : va_D A [(sb, .inr (1, [.ref va', .int (0 : Int32), .int ml, .int (nI txt.length)])), (va', .inl (k.2.2.1, cap', .inl (F_J6_getChars_ba4f3 bt' (nI v) (nI Q)).2))] := hD
  refine lv_pop hx hb dJ5_append_c97b9_33 rfl ?_
  refine lv_goto (tgt := 48) hx hb dJ5_append_c97b9_34 (by decide) ?_
  refine lv_aload_n hx hb dJ5_append_c97b9_48 rfl (lv_at hl 2 rfl) ?_
  refine lv_iload_n hx hb dJ5_append_c97b9_49 rfl (lv_at hl 0 rfl) ?_
  refine va_put (D := D) (ci := 1) (v := .int (nI Q)) (ty := .int) (C := RJ4) (T := TJ4) (N := 4) hx hb hts in_J5_append_c97b9_J4 tyJ4 tyJ4_ok nmJ4 hown hE.1 hP hD hS 0 rfl rfl 3 (by decide) (hts _ lk_J5_append_c97b9_79) (fun _ h9 => h9) rfl (by decide +kernel) rfl rfl (Nat.le_of_ble_eq_true rfl) dJ5_append_c97b9_50 (fun H locs hP hD hS => ?_)
  have hP : va_P D vwCl [(sb, .inr (1, [.ref va', .int (0 : Int32), .int ml, .int (nI Q)])), (va', .inl (k.2.2.1, cap', .inl (F_J6_getChars_ba4f3 bt' (nI v) (nI Q)).2))] H := hP
  have hD : va_D A [(sb, .inr (1, [.ref va', .int (0 : Int32), .int ml, .int (nI Q)])), (va', .inl (k.2.2.1, cap', .inl (F_J6_getChars_ba4f3 bt' (nI v) (nI Q)).2))] := hD
  refine lv_aload_n hx hb dJ5_append_c97b9_53 rfl (lv_at hl 2 rfl) ?_
  have hlen2 : nI Q = nI (txt ++ sbD v).length := by rw [List.length_append, hQe]
  have hP : va_P D vwCl (sbW k sb ml (txt ++ sbD v) (va', cap', (F_J6_getChars_ba4f3 bt' (nI v) (nI Q)).2)) H := by
    show va_P D vwCl [(sb, .inr (1, [.ref va', .int (0 : Int32), .int ml, .int (nI (txt ++ sbD v).length)])), (va', .inl (k.2.2.1, cap', .inl (F_J6_getChars_ba4f3 bt' (nI v) (nI Q)).2))] H
    rw [← hlen2]
    exact hP
  have hD : va_D A (sbW k sb ml (txt ++ sbD v) (va', cap', (F_J6_getChars_ba4f3 bt' (nI v) (nI Q)).2)) := by
    show va_D A [(sb, .inr (1, [.ref va', .int (0 : Int32), .int ml, .int (nI (txt ++ sbD v).length)])), (va', .inl (k.2.2.1, cap', .inl (F_J6_getChars_ba4f3 bt' (nI v) (nI Q)).2))]
    rw [← hlen2]
    exact hD
  have okE : SBok (txt ++ sbD v) cap' (F_J6_getChars_ba4f3 bt' (nI v) (nI Q)).2 := by
    rw [hQe]
    exact ok'.digs hv (by omega)
  exact fc_aretS hx hb hr (Or.inl ⟨_, rfl⟩) hlk hS (va', cap', (F_J6_getChars_ba4f3 bt' (nI v) (nI Q)).2) okE rfl hP hD (by decide) (by decide) dJ5_append_c97b9_54

abbrev rmT_J4_append_C : Room := { frames := 5, cells := 1, slots := 142, locals := 145 }
set_option maxHeartbeats 4000000 in
set_option maxRecDepth 100000 in
theorem cT_J4_append_C {l : Launch} {D : va_G} {k : tyK} (sb va : Nat) (cap : Nat) (ml : Int32) (txt : List Int32) (bt : (Nat → Int32)) (ic : Int32) (ok : SBok txt cap bt) (hc : SBch ic) (hlen : txt.length < 142) : FCrS l yJ4_append_cf468 wsJ4_append_cf468 rmT_J4_append_C D k [.ref sb, .int ic] [(sb, .inr (1, [.ref va, .int (0 : Int32), .int ml, .int (nI txt.length)])), (va, .inl (k.2.2.1, cap, .inl bt))] sb (fun u => SBok (txt ++ [ic]) u.2.1 u.2.2) (sbW k sb ml (txt ++ [ic])) := by
  refine fc_start (cc := cJ4_append_cf468) (maxL := 2) (ret := (some (.object "java/lang/StringBuilder"))) (own := RJ4) (Qc := fun A => va_Qr (fun u => SBok (txt ++ [ic]) u.2.1 u.2.2) (fun u a t => a = sb ∧ va_P D vwCl (sbW k sb ml (txt ++ [ic]) u) t.heap ∧ va_D A (sbW k sb ml (txt ++ [ic]) u)) A) (by decide) rfl rfl (Nat.le_of_ble_eq_true rfl) ?_
  intro p e s m below meth c A H hx hb hml hr hts hown hlk hname hA hP hE hD hS ls hl
  have hl : lv_has ls 2 [(0, .ref sb), (1, .int ic)] := hl
  refine lv_aload_n hx hb dJ4_append_cf468_0 rfl (lv_at hl 0 rfl) ?_
  refine lv_iload_n hx hb dJ4_append_cf468_1 rfl (lv_at hl 1 rfl) ?_
  refine fc_crS (isC := [0, 1]) (cells' := 1) (slots' := 142) (fc_runSU (hat := (hE.1.1 1 _ rfl).2) (n := 1) (As := [.int ic]) (rest := []) (isC := [0, 1]) (maxL := 2) ⟨hx, hb, hml, hown, hts⟩ (cT_J5_append_C sb va cap ml txt bt ic ok hc hlen H.size) gJ4_append_cf468_J5_append_3fe6f_s50 rfl (by decide +kernel) rfl ⟨Nat.le_of_ble_eq_true rfl, Nat.le_of_ble_eq_true rfl⟩ ⟨Nat.le_of_ble_eq_true rfl, Nat.le_of_ble_eq_true rfl⟩ hE hP hD hS hA rfl rfl (va_recv hE.1 hP (ci := 1) (q0 := 0) rfl rfl) hl rfl (Nat.le_of_ble_eq_true rfl) dJ4_append_cf468_2) hP hD hS hA rfl (fun _ => rfl) rfl rfl (fun u H locs hu hP hD hS => ?_)
  dsimp only [fs, List.set] at hP hD
  have hP : va_P D vwCl (sbW k sb ml (txt ++ [ic]) u) H := hP
  have hD : va_D A (sbW k sb ml (txt ++ [ic]) u) := hD
  refine lv_pop hx hb dJ4_append_cf468_5 rfl ?_
  refine lv_aload_n hx hb dJ4_append_cf468_6 rfl (lv_at hl 0 rfl) ?_
  exact fc_aretS hx hb hr (Or.inl ⟨_, rfl⟩) hlk hS u hu rfl hP hD (by decide) (by decide) dJ4_append_cf468_7

abbrev rmT_J4_append_I : Room := { frames := 5, cells := 1, slots := 142, locals := 145 }
set_option maxHeartbeats 4000000 in
set_option maxRecDepth 100000 in
theorem cT_J4_append_I {l : Launch} {D : va_G} {k : tyK} (sb va : Nat) (cap : Nat) (ml : Int32) (txt : List Int32) (bt : (Nat → Int32)) (v : Nat) (ok : SBok txt cap bt) (hv : v < 100) (hlen : txt.length < 141) : FCrS l yJ4_append_bf812 wsJ4_append_bf812 rmT_J4_append_I D k [.ref sb, .int (nI v)] [(sb, .inr (1, [.ref va, .int (0 : Int32), .int ml, .int (nI txt.length)])), (va, .inl (k.2.2.1, cap, .inl bt))] sb (fun u => SBok (txt ++ sbD v) u.2.1 u.2.2) (sbW k sb ml (txt ++ sbD v)) := by
  refine fc_start (cc := cJ4_append_bf812) (maxL := 2) (ret := (some (.object "java/lang/StringBuilder"))) (own := RJ4) (Qc := fun A => va_Qr (fun u => SBok (txt ++ sbD v) u.2.1 u.2.2) (fun u a t => a = sb ∧ va_P D vwCl (sbW k sb ml (txt ++ sbD v) u) t.heap ∧ va_D A (sbW k sb ml (txt ++ sbD v) u)) A) (by decide) rfl rfl (Nat.le_of_ble_eq_true rfl) ?_
  intro p e s m below meth c A H hx hb hml hr hts hown hlk hname hA hP hE hD hS ls hl
  have hl : lv_has ls 2 [(0, .ref sb), (1, .int (nI v))] := hl
  refine lv_aload_n hx hb dJ4_append_bf812_0 rfl (lv_at hl 0 rfl) ?_
  refine lv_iload_n hx hb dJ4_append_bf812_1 rfl (lv_at hl 1 rfl) ?_
  refine fc_crS (isC := [0, 1]) (cells' := 1) (slots' := 142) (fc_runSU (hat := (hE.1.1 1 _ rfl).2) (n := 1) (As := [.int (nI v)]) (rest := []) (isC := [0, 1]) (maxL := 4) ⟨hx, hb, hml, hown, hts⟩ (cT_J5_append_I sb va cap ml txt bt v ok hv hlen H.size) gJ4_append_bf812_J5_append_c97b9_s53 rfl (by decide +kernel) rfl ⟨Nat.le_of_ble_eq_true rfl, Nat.le_of_ble_eq_true rfl⟩ ⟨Nat.le_of_ble_eq_true rfl, Nat.le_of_ble_eq_true rfl⟩ hE hP hD hS hA rfl rfl (va_recv hE.1 hP (ci := 1) (q0 := 0) rfl rfl) hl rfl (Nat.le_of_ble_eq_true rfl) dJ4_append_bf812_2) hP hD hS hA rfl (fun _ => rfl) rfl rfl (fun u H locs hu hP hD hS => ?_)
  dsimp only [fs, List.set] at hP hD
  have hP : va_P D vwCl (sbW k sb ml (txt ++ sbD v) u) H := hP
  have hD : va_D A (sbW k sb ml (txt ++ sbD v) u) := hD
  refine lv_pop hx hb dJ4_append_bf812_5 rfl ?_
  refine lv_aload_n hx hb dJ4_append_bf812_6 rfl (lv_at hl 0 rfl) ?_
  exact fc_aretS hx hb hr (Or.inl ⟨_, rfl⟩) hlk hS u hu rfl hP hD (by decide) (by decide) dJ4_append_bf812_7

end TSappend2
