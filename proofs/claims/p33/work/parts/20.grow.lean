/-! AbstractStringBuilder.ensureCapacityInternal where the bytes must grow: a new row of 2 cap + 2. -/
section TSgrow
theorem in_J5_ensure_b_J4 : ∀ w ∈ wsJ40, w ∈ wsJ5_ensureCapacityInternal_d00df := by decide +kernel
theorem lk_J5_ensure_b_15 : (Cond.fieldLink RJ5 15 "java/lang/AbstractStringBuilder" "value" "[B") ∈ wsJ5_ensureCapacityInternal_d00df := by decide +kernel
theorem lk_J5_ensure_b_22 : (Cond.fieldLink RJ5 22 "java/lang/AbstractStringBuilder" "coder" "B") ∈ wsJ5_ensureCapacityInternal_d00df := by decide +kernel
theorem sb_len {cap Q : Nat} (h1 : cap < Q) (h2 : Q ≤ 2 * cap + 2) (h3 : cap ≤ 70) : ((Int32.ofNat cap) + (if ((nI Q <<< ((0 : Int32) &&& 31)) - (Int32.ofNat cap)) < ((Int32.ofNat cap) + ((2 : Int32) <<< ((0 : Int32) &&& 31))) then ((Int32.ofNat cap) + ((2 : Int32) <<< ((0 : Int32) &&& 31))) else ((nI Q <<< ((0 : Int32) &&& 31)) - (Int32.ofNat cap)))) = nI (2 * cap + 2) := by
  rw [sb_shl0, sb_shl0]
  have e1 : nI Q - Int32.ofNat cap = nI (Q - cap) := pk_sub (by omega)
  have e2 : Int32.ofNat cap + (2 : Int32) = nI (cap + 2) := nI_add cap 2
  rw [e1, e2]
  by_cases h : Q - cap < cap + 2
  · rw [if_pos (nI_lt h (by omega))]
    exact (nI_add cap (cap + 2)).trans (congrArg nI (by omega))
  · rw [if_neg (nI_nlt (by omega) (by omega))]
    exact (nI_add cap (Q - cap)).trans (congrArg nI (by omega))
abbrev rm_J5_ensure_b : Room := { frames := 3, cells := 1, slots := 142, locals := 100 }
set_option maxHeartbeats 4000000 in
set_option maxRecDepth 100000 in
theorem c_J5_ensure_b {l : Launch} {D : va_G} {k : tyK} (sb va cap Q : Nat) (ml ct : Int32) (bt : Nat → Int32) (hq1 : cap < Q) (hq2 : Q ≤ 2 * cap + 2) (hq3 : cap ≤ 70) (hfit : ∀ i, fits .byte (.int (bt i)) = true) : FCv l yJ5_ensureCapacityInternal_d00df wsJ5_ensureCapacityInternal_d00df rm_J5_ensure_b D k [.ref sb, .int (nI Q)] [(sb, .inr (1, [.ref va, .int (0 : Int32), .int ml, .int ct])), (va, .inl (k.2.2.1, cap, .inl bt))] (fun (_ : Nat) => True) (fun u => [(sb, .inr (1, [.ref u, .int (0 : Int32), .int ml, .int ct])), (u, .inl (k.2.2.1, 2 * cap + 2, .inl (va_cpy bt (fun _ => 0) 0 0 cap)))]) := by
  have el := sb_len hq1 hq2 hq3
  have hn : ¬ ((Int32.ofNat cap) + (if ((nI Q <<< ((0 : Int32) &&& 31)) - (Int32.ofNat cap)) < ((Int32.ofNat cap) + ((2 : Int32) <<< ((0 : Int32) &&& 31))) then ((Int32.ofNat cap) + ((2 : Int32) <<< ((0 : Int32) &&& 31))) else ((nI Q <<< ((0 : Int32) &&& 31)) - (Int32.ofNat cap)))) ≤ (0 : Int32) := by rw [el]; exact nI_nle (by omega) (by omega)
  have hm : ¬ (2147483639 : Int32) < ((Int32.ofNat cap) + (if ((nI Q <<< ((0 : Int32) &&& 31)) - (Int32.ofNat cap)) < ((Int32.ofNat cap) + ((2 : Int32) <<< ((0 : Int32) &&& 31))) then ((Int32.ofNat cap) + ((2 : Int32) <<< ((0 : Int32) &&& 31))) else ((nI Q <<< ((0 : Int32) &&& 31)) - (Int32.ofNat cap)))) := by rw [el]; exact nI_nlt (a := 2147483639) (b := 2 * cap + 2) (by omega) (by decide)
  have h3 : ¬ (F_J8_newLength_cabcc (Int32.ofNat cap) ((nI Q <<< ((0 : Int32) &&& 31)) - (Int32.ofNat cap)) ((Int32.ofNat cap) + ((2 : Int32) <<< ((0 : Int32) &&& 31)))) = (2147483647 : Int32) := by
    intro z
    have z2 : nI (2 * cap + 2) = nI 2147483647 := el.symm.trans z
    have := (nI_eq (by omega) (by decide)).mp z2
    omega
  have hNC : F_J5_newCapacity_0f7a4 cap ml ct bt (nI Q) = nI (2 * cap + 2) := by
    unfold F_J5_newCapacity_0f7a4
    rw [letp_eq, sb_shr0]
    exact el
  have hcap : ¬ (nI Q - ((Int32.ofNat cap) >>> ((0 : Int32) &&& 31))) ≤ (0 : Int32) := by
    rw [sb_shr0, show nI Q - Int32.ofNat cap = nI (Q - cap) from pk_sub (by omega)]
    exact nI_nle (by omega) (by omega)
  refine fc_start (cc := cJ5_ensureCapacityInternal_d00df) (maxL := 3) (ret := none) (own := RJ5) (Qc := fun A => va_Qv (fun (_ : Nat) => True) (Bt D (fun u => [(sb, .inr (1, [.ref u, .int (0 : Int32), .int ml, .int ct])), (u, .inl (k.2.2.1, 2 * cap + 2, .inl (va_cpy bt (fun _ => 0) 0 0 cap)))]) A) A) (by decide) rfl rfl (Nat.le_of_ble_eq_true rfl) ?_
  intro p e s m below meth c A H hx hb hml hr hts hown hlk hname hA hP hE hD hS ls hl
  have hl : lv_has ls 3 [(0, .ref sb), (1, .int (nI Q))] := hl
  obtain ⟨locs, hlocs⟩ : ∃ z : List Loc, z = [] := ⟨_, rfl⟩
  rw [← hlocs] at hS ⊢
  refine lv_aload_n hx hb dJ5_ensureCapacityInternal_d00df_0 rfl (lv_at hl 0 rfl) ?_
  refine va_get (D := D) (ci := 1) (v := .ref va) (C := RJ4) (T := TJ4) (N := 4) hx hb hts in_J5_ensure_b_J4 hown hE.1 hP 0 rfl rfl 0 (by decide) (hts _ lk_J5_ensure_b_15) (fun _ h9 => h9) rfl dJ5_ensureCapacityInternal_d00df_1 ?_
  refine va_alen (v := (Int32.ofNat cap)) hx hb hE.1 hP 1 2 rfl rfl rfl dJ5_ensureCapacityInternal_d00df_4 ?_
  refine lv_aload_n hx hb dJ5_ensureCapacityInternal_d00df_5 rfl (lv_at hl 0 rfl) ?_
  refine va_get (D := D) (ci := 1) (v := .int (0 : Int32)) (C := RJ4) (T := TJ4) (N := 4) hx hb hts in_J5_ensure_b_J4 hown hE.1 hP 0 rfl rfl 1 (by decide) (hts _ lk_J5_ensure_b_22) (fun _ h9 => h9) rfl dJ5_ensureCapacityInternal_d00df_6 ?_
  refine lv_ishr hx hb dJ5_ensureCapacityInternal_d00df_9 ?_
  refine lv_istore_n (lv' := [(2, .int ((Int32.ofNat cap) >>> ((0 : Int32) &&& 31))), (0, .ref sb), (1, .int (nI Q))]) hx hb dJ5_ensureCapacityInternal_d00df_10 rfl hl (by decide) rfl (fun ls hl => ?_)
  refine lv_iload_n hx hb dJ5_ensureCapacityInternal_d00df_11 rfl (lv_at hl 2 rfl) ?_
  refine lv_iload_n hx hb dJ5_ensureCapacityInternal_d00df_12 rfl (lv_at hl 0 rfl) ?_
  refine lv_isub hx hb dJ5_ensureCapacityInternal_d00df_13 ?_
  refine lv_if_le (tgt := 38) hx hb dJ5_ensureCapacityInternal_d00df_14 (by decide) (fun c_1 => absurd c_1 hcap) (fun c_1 => ?_)
  refine lv_aload_n hx hb dJ5_ensureCapacityInternal_d00df_17 rfl (lv_at hl 1 rfl) ?_
  refine lv_aload_n hx hb dJ5_ensureCapacityInternal_d00df_18 rfl (lv_at hl 1 rfl) ?_
  refine va_get (D := D) (ci := 1) (v := .ref va) (C := RJ4) (T := TJ4) (N := 4) hx hb hts in_J5_ensure_b_J4 hown hE.1 hP 0 rfl rfl 0 (by decide) (hts _ lk_J5_ensure_b_15) (fun _ h9 => h9) rfl dJ5_ensureCapacityInternal_d00df_19 ?_
  refine lv_aload_n hx hb dJ5_ensureCapacityInternal_d00df_22 rfl (lv_at hl 1 rfl) ?_
  refine lv_iload_n hx hb dJ5_ensureCapacityInternal_d00df_23 rfl (lv_at hl 2 rfl) ?_
  refine fc_ci (isC := [0, 1]) (cells' := 0) (slots' := 0) (fc_runU (n := 1) (As := [.int (nI Q)]) (rest := [.ref va, .ref sb]) (isC := [0, 1]) (maxL := 6) ⟨hx, hb, hml, hown, hts⟩ (c_J5_newCapacity_0f7a4 sb va cap ml ct bt (nI Q) hn hm h3 H.size) gJ5_ensureCapacityInternal_d00df_J5_newCapacity_0f7a4_u104J4 rfl rfl (by decide +kernel) rfl ⟨Nat.le_of_ble_eq_true rfl, Nat.le_of_ble_eq_true rfl⟩ ⟨Nat.le_of_ble_eq_true rfl, Nat.le_of_ble_eq_true rfl⟩ hE hP hD hS hA rfl rfl (va_recv hE.1 hP (ci := 1) (q0 := 0) rfl rfl) hl rfl (Nat.le_of_ble_eq_true rfl) dJ5_ensureCapacityInternal_d00df_24) hP hD hS hA rfl (fun _ => rfl) rfl rfl (fun r_2 _ H locs hr_2 hP hD hS => ?_)
  obtain rfl : (F_J5_newCapacity_0f7a4 cap ml ct bt (nI Q)) = r_2 := hr_2.symm
  dsimp only [fs, List.set] at hP hD
  have hP : va_P D vwCl [(sb, .inr (1, [.ref va, .int (0 : Int32), .int ml, .int ct])), (va, .inl (k.2.2.1, cap, .inl bt))] H := hP
  have hD : va_D A [(sb, .inr (1, [.ref va, .int (0 : Int32), .int ml, .int ct])), (va, .inl (k.2.2.1, cap, .inl bt))] := hD
  refine lv_aload_n hx hb dJ5_ensureCapacityInternal_d00df_27 rfl (lv_at hl 1 rfl) ?_
  refine va_get (D := D) (ci := 1) (v := .int (0 : Int32)) (C := RJ4) (T := TJ4) (N := 4) hx hb hts in_J5_ensure_b_J4 hown hE.1 hP 0 rfl rfl 1 (by decide) (hts _ lk_J5_ensure_b_22) (fun _ h9 => h9) rfl dJ5_ensureCapacityInternal_d00df_28 ?_
  refine lv_ishl hx hb dJ5_ensureCapacityInternal_d00df_31 ?_
  rw [hNC, sb_shl0]
  have hFc := va_free (wc := [(va, .inl (k.2.2.1, cap, .inl bt))]) hD hS hA [1] rfl
  refine va_callr (fc_runS (n := 2) (As := [.ref va, .int (nI (2 * cap + 2))]) (rest := [.ref sb]) (isC := [1]) (maxL := 3) ⟨hx, hb, hml, hown, hts⟩ (c_J7_copyOf va cap (2 * cap + 2) bt (by omega) (by omega) hfit H.size) gJ5_ensureCapacityInternal_d00df_J7_copyOf_9075b rfl (by decide +kernel) rfl ⟨Nat.le_of_ble_eq_true rfl, Nat.le_of_ble_eq_true rfl⟩ ⟨Nat.le_of_ble_eq_true rfl, Nat.le_of_ble_eq_true rfl⟩ hE hP hD hS hA rfl rfl hl rfl (Nat.le_of_ble_eq_true rfl) dJ5_ensureCapacityInternal_d00df_32) hS (fun q _ h => hFc q h) hFc (fun _ q t H1 locs1 ht _ _ hB _ hk hS1 => ?_)
  obtain ⟨hP1, hD1⟩ := hB
  rw [ht] at hP1
  obtain ⟨hP, hD⟩ := va_join (wr := [(sb, .inr (1, [.ref va, .int (0 : Int32), .int ml, .int ct]))]) hP hD [1] [0] rfl rfl (by decide) (by decide) hk hFc hP1 hD1
  have hS := hS1
  have hP : va_P D vwCl [(sb, .inr (1, [.ref va, .int (0 : Int32), .int ml, .int ct])), (va, .inl (k.2.2.1, cap, .inl bt)), (q, .inl (k.2.2.1, 2 * cap + 2, .inl (va_cpy bt (fun _ => 0) 0 0 cap)))] H1 := hP
  have hD : va_D A [(sb, .inr (1, [.ref va, .int (0 : Int32), .int ml, .int ct])), (va, .inl (k.2.2.1, cap, .inl bt)), (q, .inl (k.2.2.1, 2 * cap + 2, .inl (va_cpy bt (fun _ => 0) 0 0 cap)))] := hD
  refine va_put (D := D) (ci := 1) (v := .ref q) (ty := (.array .byte)) (C := RJ4) (T := TJ4) (N := 4) hx hb hts in_J5_ensure_b_J4 tyJ4 tyJ4_ok nmJ4 hown hE.1 hP hD hS 0 rfl rfl 0 (by decide) (hts _ lk_J5_ensure_b_15) (fun _ h9 => h9) rfl (by decide +kernel) rfl rfl (Nat.le_of_ble_eq_true rfl) dJ5_ensureCapacityInternal_d00df_35 (fun H locs hP hD hS => ?_)
  have hP2 := hP.sub (ws' := [(sb, .inr (1, [.ref q, .int (0 : Int32), .int ml, .int ct])), (q, .inl (k.2.2.1, 2 * cap + 2, .inl (va_cpy bt (fun _ => 0) 0 0 cap)))]) [0, 2] rfl
  have hD2 := hD.sub (ws' := [(sb, .inr (1, [.ref q, .int (0 : Int32), .int ml, .int ct])), (q, .inl (k.2.2.1, 2 * cap + 2, .inl (va_cpy bt (fun _ => 0) 0 0 cap)))]) [0, 2] (by decide) rfl
  exact fc_vret hx hb hr hlk hS q trivial hP2 hD2 (by decide) (by decide) dJ5_ensureCapacityInternal_d00df_38
end TSgrow
