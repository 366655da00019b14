/-! Arrays.copyOf of bytes to a longer row. -/
section TScopy
abbrev rm_J7_copyOf : Room := { frames := 1, cells := 1, slots := 142, locals := 60 }
set_option maxHeartbeats 4000000 in
set_option maxRecDepth 100000 in
theorem c_J7_copyOf {l : Launch} {D : va_G} {k : tyK} (va cap N : Nat) (bt : Nat → Int32) (hN : cap < N) (hM : N ≤ 142) (hfit : ∀ i, fits .byte (.int (bt i)) = true) : ∀ sz : Nat, Met l yJ7_copyOf_9075b wsJ7_copyOf_9075b rm_J7_copyOf (va_Pc [.ref va, .int (nI N)] (PcW D k [(va, .inl (k.2.2.1, cap, .inl bt))] sz)) (va_Qr (fun (_ : Unit) => True) (fun _ a t => va_P D vwCl [(va, .inl (k.2.2.1, cap, .inl bt)), (a, .inl (k.2.2.1, N, .inl (va_cpy bt (fun _ => 0) 0 0 cap)))] t.heap ∧ va_D (va_A [(va, .inl (k.2.2.1, cap, .inl bt))] sz) [(va, .inl (k.2.2.1, cap, .inl bt)), (a, .inl (k.2.2.1, N, .inl (va_cpy bt (fun _ => 0) 0 0 cap)))]) (va_A [(va, .inl (k.2.2.1, cap, .inl bt))] sz)) rm_J7_copyOf.cells rm_J7_copyOf.slots (va_A [(va, .inl (k.2.2.1, cap, .inl bt))] sz) := by
  intro sz
  refine fc_start (cc := cJ7_copyOf_9075b) (maxL := 3) (ret := some (.array .byte)) (own := RJ7) (W0 := [(va, .inl (k.2.2.1, cap, .inl bt))]) (Qc := fun A => va_Qr (fun (_ : Unit) => True) (fun _ a t => va_P D vwCl [(va, .inl (k.2.2.1, cap, .inl bt)), (a, .inl (k.2.2.1, N, .inl (va_cpy bt (fun _ => 0) 0 0 cap)))] t.heap ∧ va_D A [(va, .inl (k.2.2.1, cap, .inl bt)), (a, .inl (k.2.2.1, N, .inl (va_cpy bt (fun _ => 0) 0 0 cap)))]) A) (by decide) rfl rfl (Nat.le_of_ble_eq_true rfl) ?_ sz
  intro p e s m below meth c A H hx hb hml hr hts hown hlk hname hA hP hE hD hS ls hl
  have hl : lv_has ls 3 [(0, .ref va), (1, .int (nI N))] := hl
  refine lv_iload_n hx hb dJ7_copyOf_9075b_0 rfl (lv_at hl 1 rfl) ?_
  refine lv_aload_n hx hb dJ7_copyOf_9075b_1 rfl (lv_at hl 0 rfl) ?_
  refine va_alen (v := nI cap) hx hb hE.1 hP 0 2 rfl rfl rfl dJ7_copyOf_9075b_2 ?_
  refine lv_icmp_ne (tgt := 14) hx hb dJ7_copyOf_9075b_3 (by decide) (fun _ => ?_) (fun c => absurd ((nI_eq (by omega) (by omega)).mp c) (by omega))
  refine lv_iload_n hx hb dJ7_copyOf_9075b_14 rfl (lv_at hl 1 rfl) ?_
  refine va_newa (atype := .byte) (a0 := (N, .inl (fun _ => 0))) hx hb (hts (.arrayClass .byte) (by decide +kernel)) rfl hE.1 hP hD hS hA (fun _ => rfl) (nI_pos (by omega)) (nI_clamp (by omega)) (by show N * 1 ≤ 536870912; omega) (by decide) (by show 0 + N ≤ 142; omega) dJ7_copyOf_9075b_15 (fun q cA H hK hP hD hS => ?_)
  have e9 : cA = k.2.2.1 := Option.some.inj ((hK.2 4 _ rfl).2.symm.trans (hK.2 2 _ rfl).2)
  subst e9
  have hP : va_P D vwCl [(va, .inl (k.2.2.1, cap, .inl bt)), (q, .inl (k.2.2.1, N, .inl (fun _ => 0)))] H := hP
  have hD : va_D A [(va, .inl (k.2.2.1, cap, .inl bt)), (q, .inl (k.2.2.1, N, .inl (fun _ => 0)))] := hD
  refine lv_astore_n (lv' := [(2, .ref q), (0, .ref va), (1, .int (nI N))]) hx hb dJ7_copyOf_9075b_17 rfl hl (by decide) rfl (fun ls hl => ?_)
  refine lv_aload_n hx hb dJ7_copyOf_9075b_18 rfl (lv_at hl 1 rfl) ?_
  refine lv_iconst (v := 0) hx hb dJ7_copyOf_9075b_19 (by decide) ?_
  refine lv_aload_n hx hb dJ7_copyOf_9075b_20 rfl (lv_at hl 0 rfl) ?_
  refine lv_iconst (v := 0) hx hb dJ7_copyOf_9075b_21 (by decide) ?_
  refine lv_aload_n hx hb dJ7_copyOf_9075b_22 rfl (lv_at hl 1 rfl) ?_
  refine va_alen (v := nI cap) hx hb hE.1 hP 0 2 rfl rfl rfl dJ7_copyOf_9075b_23 ?_
  refine lv_iload_n hx hb dJ7_copyOf_9075b_24 rfl (lv_at hl 2 rfl) ?_
  refine va_mmin hx hb (hml.trans hl.1.symm) hown (hts (.methodLink RJ7 304 Lib.Math.min.name) (by decide +kernel)) (hts (.static Lib.Math.min.name) (by decide +kernel)) (hts (.initialized "java/lang/Math") (by decide +kernel)) (hts (.code Lib.Math.min.name Lib.Math.min.code 2 (some .int)) (by decide +kernel)) (by decide) (Nat.le_of_ble_eq_true rfl) (by decide) (by show 0 + N ≤ 142; omega) dJ7_copyOf_9075b_25 ?_
  rw [if_neg (nI_nlt (by omega) (by omega))]
  have ec : (nI cap).toNatClampNeg = cap := nI_clamp (by omega)
  refine va_copyi hx hb (hml.trans hl.1.symm) hown (hts (.methodLink RJ7 150 arraycopyName) (by decide +kernel)) (hts (.native arraycopyName) (by decide +kernel)) (hts (.static arraycopyName) (by decide +kernel)) (hts (.initialized "java/lang/System") (by decide +kernel)) hE.1 hP hD hS 0 1 2 2 rfl rfl rfl rfl rfl (by decide) (by decide) (nI_pos (by omega)) (by rw [ec]; show 0 + cap ≤ cap; omega) (by rw [ec]; show 0 + cap ≤ N; omega) (fun i _ => hfit _) (by decide) (by decide +kernel) dJ7_copyOf_9075b_28 (fun H locs hP hD hS => ?_)
  rw [ec] at hP hD
  have hP : va_P D vwCl [(va, .inl (k.2.2.1, cap, .inl bt)), (q, .inl (k.2.2.1, N, .inl (va_cpy bt (fun _ => 0) 0 0 cap)))] H := hP
  have hD : va_D A [(va, .inl (k.2.2.1, cap, .inl bt)), (q, .inl (k.2.2.1, N, .inl (va_cpy bt (fun _ => 0) 0 0 cap)))] := hD
  refine lv_aload_n hx hb dJ7_copyOf_9075b_31 rfl (lv_at hl 0 rfl) ?_
  refine W.widen (k := 1) (n := 142) (by decide) (by show 0 + N ≤ 142; omega) ?_
  exact W.aret hx hb hr (Or.inr ⟨_, rfl⟩) (Or.inr ⟨q, rfl⟩) (fun t ht _ => ⟨⟨(), q, rfl, trivial, by rw [ht]; exact hP, hD⟩, hS.F ht⟩) hS.2.2 dJ7_copyOf_9075b_32 hlk
end TScopy
