/-! toString: a fresh String. -/
section TSstrB
theorem inS_J5_getValue_6d5f1_J4 : ∀ w ∈ wsJ40, w ∈ wsJ5_getValue_6d5f1 := by decide +kernel
abbrev rmS_gv : Room := { frames := 0, cells := 0, slots := 0, locals := 0 }
set_option maxHeartbeats 4000000 in
set_option maxRecDepth 100000 in
theorem cS_gv {l : Launch} {D : va_G} {k : tyK} (sb va cap : Nat) (ml ct : Int32) (bt : Nat → Int32) : FCr l yJ5_getValue_6d5f1 wsJ5_getValue_6d5f1 rmS_gv D k [.ref sb] [(sb, .inr (1, [.ref va, .int (0 : Int32), .int ml, .int ct])), (va, .inl (k.2.2.1, cap, .inl bt))] va [(sb, .inr (1, [.ref va, .int (0 : Int32), .int ml, .int ct])), (va, .inl (k.2.2.1, cap, .inl bt))] := by
  refine fc_start (cc := cJ5_getValue_6d5f1) (maxL := 1) (ret := (some (.array .byte))) (own := RJ5) (Qc := fun A => va_Qr (fun (_ : Unit) => True) (fun _ a t => a = va ∧ va_P D vwCl [(sb, .inr (1, [.ref va, .int (0 : Int32), .int ml, .int ct])), (va, .inl (k.2.2.1, cap, .inl bt))] t.heap ∧ va_D A [(sb, .inr (1, [.ref va, .int (0 : Int32), .int ml, .int ct])), (va, .inl (k.2.2.1, cap, .inl bt))]) A) (by decide) rfl rfl (Nat.le_of_ble_eq_true rfl) ?_
  intro p e s m below meth c A H hx hb hml hr hts hown hlk hname hA hP hE hD hS ls hl
  have hl : lv_has ls 1 [(0, .ref sb)] := hl
  obtain ⟨locs, hlocs⟩ : ∃ z : List Loc, z = [] := ⟨_, rfl⟩
  rw [← hlocs] at hS ⊢
  refine lv_aload_n hx hb dJ5_getValue_6d5f1_0 rfl (lv_at hl 0 rfl) ?_
  refine va_get (D := D) (ci := 1) (v := .ref va) (C := RJ4) (T := TJ4) (N := 4) hx hb hts inS_J5_getValue_6d5f1_J4 hown hE.1 hP 0 rfl rfl 0 (by decide) (hts (.fieldLink RJ5 15 "java/lang/AbstractStringBuilder" "value" "[B") (by decide +kernel)) (fun _ h9 => h9) rfl dJ5_getValue_6d5f1_1 ?_
  exact fc_aret hx hb hr (Or.inr ⟨_, rfl⟩) hlk hS rfl hP hD (by decide) (by decide) dJ5_getValue_6d5f1_4
abbrev rmS_cl : Room := { frames := 0, cells := 0, slots := 0, locals := 0 }
set_option maxHeartbeats 4000000 in
set_option maxRecDepth 100000 in
theorem cS_cl {l : Launch} {D : va_G} {k : tyK} (n : Nat) (hn : n < 2 ^ 31) : FCv l yJ7_checkLength_df160 wsJ7_checkLength_df160 rmS_cl D k [.int (0 : Int32), .int (nI n)] [] (fun (_ : Unit) => True) (fun _ => []) := by
  refine fc_start (cc := cJ7_checkLength_df160) (maxL := 2) (ret := none) (own := RJ7) (Qc := fun A => va_Qv (fun (_ : Unit) => True) (Bt D (fun _ => []) A) A) (by decide) rfl rfl (Nat.le_of_ble_eq_true rfl) ?_
  intro p e s m below meth c A H hx hb hml hr hts hown hlk hname hA hP hE hD hS ls hl
  have hl : lv_has ls 2 [(0, .int (0 : Int32)), (1, .int (nI n))] := hl
  obtain ⟨locs, hlocs⟩ : ∃ z : List Loc, z = [] := ⟨_, rfl⟩
  rw [← hlocs] at hS ⊢
  refine lv_iload_n hx hb dJ7_checkLength_df160_0 rfl (lv_at hl 1 rfl) ?_
  refine lv_iload_n hx hb dJ7_checkLength_df160_1 rfl (lv_at hl 0 rfl) ?_
  refine lv_icmp_ge (tgt := 37) hx hb dJ7_checkLength_df160_2 (by decide) (fun _ => ?_) (fun h => absurd (nI_le (a := 0) (Nat.zero_le n) hn) h)
  exact fc_vret hx hb hr hlk hS () trivial hP hD (by decide) (by decide) dJ7_checkLength_df160_37
abbrev rmS_crb : Room := { frames := 1, cells := 1, slots := 142, locals := 60 }
set_option maxHeartbeats 4000000 in
set_option maxRecDepth 100000 in
theorem cS_crb {l : Launch} {D : va_G} {k : tyK} (va cap N : Nat) (bt : Nat → Int32) (hN : N < cap) (hM : cap ≤ 142) (hfit : sb_Fit bt) : ∀ sz : Nat, Met l yJ7_copyOfRangeByte_39247 wsJ7_copyOfRangeByte_39247 rmS_crb (va_Pc [.ref va, .int (0 : Int32), .int (nI N)] (PcW D k [(va, .inl (k.2.2.1, cap, .inl bt))] sz)) (va_Qr (fun (_ : Unit) => True) (fun _ q9 t => va_P D vwCl [(va, .inl (k.2.2.1, cap, .inl bt)), (q9, .inl (k.2.2.1, N, .inl (va_cpy bt (fun _ => 0) 0 0 N)))] t.heap ∧ va_D (va_A [(va, .inl (k.2.2.1, cap, .inl bt))] sz) [(va, .inl (k.2.2.1, cap, .inl bt)), (q9, .inl (k.2.2.1, N, .inl (va_cpy bt (fun _ => 0) 0 0 N)))]) (va_A [(va, .inl (k.2.2.1, cap, .inl bt))] sz)) rmS_crb.cells rmS_crb.slots (va_A [(va, .inl (k.2.2.1, cap, .inl bt))] sz) := by
  intro sz
  refine fc_start (cc := cJ7_copyOfRangeByte_39247) (maxL := 5) (ret := some (.array .byte)) (own := RJ7) (W0 := [(va, .inl (k.2.2.1, cap, .inl bt))]) (Qc := fun A => va_Qr (fun (_ : Unit) => True) (fun _ q9 t => va_P D vwCl [(va, .inl (k.2.2.1, cap, .inl bt)), (q9, .inl (k.2.2.1, N, .inl (va_cpy bt (fun _ => 0) 0 0 N)))] t.heap ∧ va_D A [(va, .inl (k.2.2.1, cap, .inl bt)), (q9, .inl (k.2.2.1, N, .inl (va_cpy bt (fun _ => 0) 0 0 N)))]) A) (by decide) rfl rfl (Nat.le_of_ble_eq_true rfl)  ?_ sz
  intro p e s m below meth c A H hx hb hml hr hts hown hlk hname hA hP hE hD hS ls hl
  have hl : lv_has ls 5 [(0, .ref va), (1, .int (0 : Int32)), (2, .int (nI N))] := hl
  obtain ⟨locs, hlocs⟩ : ∃ z : List Loc, z = [] := ⟨_, rfl⟩
  rw [← hlocs] at hS ⊢
  refine lv_iload_n hx hb dJ7_copyOfRangeByte_39247_0 rfl (lv_at hl 1 rfl) ?_
  refine lv_iload_n hx hb dJ7_copyOfRangeByte_39247_1 rfl (lv_at hl 2 rfl) ?_
  refine fc_cv (isC := []) (cells' := 0) (slots' := 0) (fc_runS (n := 2) (As := [.int (0 : Int32), .int (nI N)]) (rest := []) (isC := []) (maxL := 2) ⟨hx, hb, hml, hown, hts⟩ (cS_cl N (by omega) H.size) gJ7_copyOfRangeByte_39247_J7_checkLength_df160 rfl (by decide +kernel) rfl ⟨Nat.le_of_ble_eq_true rfl, Nat.le_of_ble_eq_true rfl⟩ ⟨Nat.le_of_ble_eq_true rfl, Nat.le_of_ble_eq_true rfl⟩ hE hP hD hS hA rfl rfl hl rfl (Nat.le_of_ble_eq_true rfl) dJ7_copyOfRangeByte_39247_2) hP hD hS hA rfl (fun _ => rfl) rfl rfl (fun _ H locs _ hP hD hS => ?_)
  dsimp only [fs, List.set] at hP hD
  have hP : va_P D vwCl [(va, .inl (k.2.2.1, cap, .inl bt))] H := hP
  have hD : va_D A [(va, .inl (k.2.2.1, cap, .inl bt))] := hD
  refine lv_iload_n hx hb dJ7_copyOfRangeByte_39247_5 rfl (lv_at hl 2 rfl) ?_
  refine lv_iload_n hx hb dJ7_copyOfRangeByte_39247_6 rfl (lv_at hl 1 rfl) ?_
  refine lv_isub hx hb dJ7_copyOfRangeByte_39247_7 ?_
  rw [Int32.sub_zero]
  refine lv_istore_n (lv' := [(3, .int (nI N)), (0, .ref va), (1, .int (0 : Int32)), (2, .int (nI N))]) hx hb dJ7_copyOfRangeByte_39247_8 rfl hl (by decide) rfl (fun ls hl => ?_)
  refine lv_iload_n hx hb dJ7_copyOfRangeByte_39247_9 rfl (lv_at hl 0 rfl) ?_
  refine va_newa (atype := .byte) (a0 := (N, .inl (fun _ => 0))) hx hb (hts (.arrayClass .byte) (by decide +kernel)) rfl hE.1 hP hD hS hA (fun _ => rfl) (nI_pos (by omega)) (nI_clamp (by omega)) (by show N * 1 ≤ 536870912; omega) (by decide) (by show 0 + N ≤ 142; omega) dJ7_copyOfRangeByte_39247_10 (fun q cA H hK hP hD hS => ?_)
  have e9 : cA = k.2.2.1 := Option.some.inj ((hK.2 4 _ rfl).2.symm.trans (hK.2 2 _ rfl).2)
  subst e9
  have hP : va_P D vwCl [(va, .inl (k.2.2.1, cap, .inl bt)), (q, .inl (k.2.2.1, N, .inl (fun _ => 0)))] H := hP
  have hD : va_D A [(va, .inl (k.2.2.1, cap, .inl bt)), (q, .inl (k.2.2.1, N, .inl (fun _ => 0)))] := hD
  refine lv_astore (lv' := [(4, .ref q), (3, .int (nI N)), (0, .ref va), (1, .int (0 : Int32)), (2, .int (nI N))]) hx hb dJ7_copyOfRangeByte_39247_12 hl (by decide) rfl (fun ls hl => ?_)
  refine lv_aload_n hx hb dJ7_copyOfRangeByte_39247_14 rfl (lv_at hl 2 rfl) ?_
  refine lv_iload_n hx hb dJ7_copyOfRangeByte_39247_15 rfl (lv_at hl 3 rfl) ?_
  refine lv_aload hx hb dJ7_copyOfRangeByte_39247_16 (lv_at hl 0 rfl) ?_
  refine lv_iconst (v := 0) hx hb dJ7_copyOfRangeByte_39247_18 (by decide) ?_
  refine lv_aload_n hx hb dJ7_copyOfRangeByte_39247_19 rfl (lv_at hl 2 rfl) ?_
  refine va_alen (v := nI cap) hx hb hE.1 hP 0 2 rfl rfl rfl dJ7_copyOfRangeByte_39247_20 ?_
  refine lv_iload_n hx hb dJ7_copyOfRangeByte_39247_21 rfl (lv_at hl 3 rfl) ?_
  refine lv_isub hx hb dJ7_copyOfRangeByte_39247_22 ?_
  rw [Int32.sub_zero]
  refine lv_iload_n hx hb dJ7_copyOfRangeByte_39247_23 rfl (lv_at hl 1 rfl) ?_
  refine va_mmin hx hb (hml.trans hl.1.symm) hown (hts (.methodLink RJ7 304 Lib.Math.min.name) (by decide +kernel)) (hts (.static Lib.Math.min.name) (by decide +kernel)) (hts (.initialized "java/lang/Math") (by decide +kernel)) (hts (.code Lib.Math.min.name Lib.Math.min.code 2 (some .int)) (by decide +kernel)) (by decide) (Nat.le_of_ble_eq_true rfl) (by decide) (by show 0 + N ≤ 142; omega) dJ7_copyOfRangeByte_39247_24 ?_
  rw [if_pos (nI_lt hN (by omega))]
  have ec : (nI N).toNatClampNeg = N := nI_clamp (by omega)
  refine va_copyi hx hb (hml.trans hl.1.symm) hown (hts (.methodLink RJ7 150 arraycopyName) (by decide +kernel)) (hts (.native arraycopyName) (by decide +kernel)) (hts (.static arraycopyName) (by decide +kernel)) (hts (.initialized "java/lang/System") (by decide +kernel)) hE.1 hP hD hS 0 1 2 2 rfl rfl rfl rfl rfl (by decide) (by decide) (nI_pos (by omega)) (by rw [ec]; show 0 + N ≤ cap; omega) (by rw [ec]; show 0 + N ≤ N; omega) (fun i _ => hfit _) (by decide) (by decide +kernel) dJ7_copyOfRangeByte_39247_27 (fun H locs hP hD hS => ?_)
  rw [ec] at hP hD
  have hP : va_P D vwCl [(va, .inl (k.2.2.1, cap, .inl bt)), (q, .inl (k.2.2.1, N, .inl (va_cpy bt (fun _ => 0) 0 0 N)))] H := hP
  have hD : va_D A [(va, .inl (k.2.2.1, cap, .inl bt)), (q, .inl (k.2.2.1, N, .inl (va_cpy bt (fun _ => 0) 0 0 N)))] := hD
  refine lv_aload hx hb dJ7_copyOfRangeByte_39247_30 (lv_at hl 0 rfl) ?_
  refine W.widen (k := 1) (n := 142) (by decide) (by show 0 + N ≤ 142; omega) ?_
  exact W.aret hx hb hr (Or.inr ⟨_, rfl⟩) (Or.inr ⟨q, rfl⟩) (fun t ht _ => ⟨⟨(), q, rfl, trivial, by rw [ht]; exact hP, hD⟩, hS.F ht⟩) hS.2.2 dJ7_copyOfRangeByte_39247_32 hlk
abbrev rmS_cr : Room := { frames := 2, cells := 1, slots := 142, locals := 90 }
set_option maxHeartbeats 4000000 in
set_option maxRecDepth 100000 in
theorem cS_cr {l : Launch} {D : va_G} {k : tyK} (va cap N : Nat) (bt : Nat → Int32) (hN : N < cap) (hM : cap ≤ 142) (hfit : sb_Fit bt) : ∀ sz : Nat, Met l yJ7_copyOfRange_39247 wsJ7_copyOfRange_39247 rmS_cr (va_Pc [.ref va, .int (0 : Int32), .int (nI N)] (PcW D k [(va, .inl (k.2.2.1, cap, .inl bt))] sz)) (va_Qr (fun (_ : Unit) => True) (fun _ q9 t => va_P D vwCl [(va, .inl (k.2.2.1, cap, .inl bt)), (q9, .inl (k.2.2.1, N, .inl (va_cpy bt (fun _ => 0) 0 0 N)))] t.heap ∧ va_D (va_A [(va, .inl (k.2.2.1, cap, .inl bt))] sz) [(va, .inl (k.2.2.1, cap, .inl bt)), (q9, .inl (k.2.2.1, N, .inl (va_cpy bt (fun _ => 0) 0 0 N)))]) (va_A [(va, .inl (k.2.2.1, cap, .inl bt))] sz)) rmS_cr.cells rmS_cr.slots (va_A [(va, .inl (k.2.2.1, cap, .inl bt))] sz) := by
  intro sz
  refine fc_start (cc := cJ7_copyOfRange_39247) (maxL := 3) (ret := some (.array .byte)) (own := RJ7) (W0 := [(va, .inl (k.2.2.1, cap, .inl bt))]) (Qc := fun A => va_Qr (fun (_ : Unit) => True) (fun _ q9 t => va_P D vwCl [(va, .inl (k.2.2.1, cap, .inl bt)), (q9, .inl (k.2.2.1, N, .inl (va_cpy bt (fun _ => 0) 0 0 N)))] t.heap ∧ va_D A [(va, .inl (k.2.2.1, cap, .inl bt)), (q9, .inl (k.2.2.1, N, .inl (va_cpy bt (fun _ => 0) 0 0 N)))]) A) (by decide) rfl rfl (Nat.le_of_ble_eq_true rfl)  ?_ sz
  intro p e s m below meth c A H hx hb hml hr hts hown hlk hname hA hP hE hD hS ls hl
  have hl : lv_has ls 3 [(0, .ref va), (1, .int (0 : Int32)), (2, .int (nI N))] := hl
  obtain ⟨locs, hlocs⟩ : ∃ z : List Loc, z = [] := ⟨_, rfl⟩
  rw [← hlocs] at hS ⊢
  refine lv_iload_n hx hb dJ7_copyOfRange_39247_0 rfl (lv_at hl 1 rfl) ?_
  refine lv_if_ne (tgt := 10) hx hb dJ7_copyOfRange_39247_1 (by decide) (fun h => absurd rfl h) (fun _ => ?_)
  refine lv_iload_n hx hb dJ7_copyOfRange_39247_4 rfl (lv_at hl 2 rfl) ?_
  refine lv_aload_n hx hb dJ7_copyOfRange_39247_5 rfl (lv_at hl 0 rfl) ?_
  refine va_alen (v := nI cap) hx hb hE.1 hP 0 2 rfl rfl rfl dJ7_copyOfRange_39247_6 ?_
  refine lv_icmp_eq (tgt := 17) hx hb dJ7_copyOfRange_39247_7 (by decide) (fun h => absurd ((nI_eq (by omega) (by omega)).mp h) (by omega)) (fun _ => ?_)
  refine lv_aload_n hx hb dJ7_copyOfRange_39247_10 rfl (lv_at hl 0 rfl) ?_
  refine lv_iload_n hx hb dJ7_copyOfRange_39247_11 rfl (lv_at hl 1 rfl) ?_
  refine lv_iload_n hx hb dJ7_copyOfRange_39247_12 rfl (lv_at hl 2 rfl) ?_
  have hFc := va_free (wc := [(va, .inl (k.2.2.1, cap, .inl bt))]) hD hS hA [0] rfl
  refine va_callr (fc_runS (n := 3) (As := [.ref va, .int (0 : Int32), .int (nI N)]) (rest := []) (isC := [0]) (maxL := 5) ⟨hx, hb, hml, hown, hts⟩ (cS_crb va cap N bt hN hM hfit H.size) gJ7_copyOfRange_39247_J7_copyOfRangeByte_39247 rfl (by decide +kernel) rfl ⟨Nat.le_of_ble_eq_true rfl, Nat.le_of_ble_eq_true rfl⟩ ⟨Nat.le_of_ble_eq_true rfl, Nat.le_of_ble_eq_true rfl⟩ hE hP hD hS hA rfl rfl hl rfl (Nat.le_of_ble_eq_true rfl) dJ7_copyOfRange_39247_13) hS (fun q _ h => hFc q h) hFc (fun _ q t H1 locs1 ht _ _ hB _ hk hS1 => ?_)
  obtain ⟨hP1, hD1⟩ := hB
  rw [ht] at hP1
  obtain ⟨hP, hD⟩ := va_join (wr := []) hP hD [0] [] rfl rfl (by decide) (by decide) hk hFc hP1 hD1
  refine W.widen (k := 1) (n := 142) (by decide) (by decide) ?_
  exact W.aret hx hb hr (Or.inr ⟨_, rfl⟩) (Or.inr ⟨q, rfl⟩) (fun t ht _ => ⟨⟨(), q, rfl, trivial, by rw [ht]; exact hP, hD⟩, hS1.F ht⟩) hS1.2.2 dJ7_copyOfRange_39247_16 hlk
section
variable {p : Program} {l : Launch} {e : Env} {R : Room} {s : State} {m : MethodId} {args : Array Value} {below : List Frame} {meth : Method} {c : Code} {H : Heap} {locs : List Loc} {cells slots : Nat} {D : va_G} {k : tyK} {A : Nat → Prop} {cc : ByteArray} {pc : Nat} {ls : Array Slot} {rest st0 : List Value} {ws wc : va_W} {lv : List (Nat × Value)}
  {Ts wsy ws' : List Cond} {own C owner : String} {index n nL maxL : Nat} {x y : MethodName} {bytes : ByteArray} {ret : Option FieldType} {rm : Room} {Qc : Array Value → State → Outcome → State → Prop} {free : Addr → Prop} {b : Addr} {As : List Value}
theorem fc_runO {isC : List Nat} (S : CallFix p m c cc nL s args Ts own) (hM : Met l y wsy rm (va_Pc (.ref b :: As) (PcW D k wc H.size)) Qc rm.cells rm.slots free) (hG : GoodIn Ts (va_wsO own index C owner x y wsy)) (hw : wsy = Cond.code y bytes maxL ret :: ws') {b0 : ByteArray} {m0 : Nat} {r0 : Option FieldType} (h0 : Cond.code ⟨owner, x.name, x.desc⟩ b0 m0 r0 ∈ Ts) (hd : owner ≠ "java/lang/invoke/MethodHandle" ∧ owner ≠ "java/lang/invoke/VarHandle" ∧ (parseMethodDescriptor x.desc).map (fun d => d.parameters.length) = some n) (hn : As.length = n) (hR : rm.frames + 1 ≤ R.frames ∧ 8 + (maxL + 11) + rm.locals ≤ R.locals) (hf : cells + rm.cells ≤ R.cells ∧ slots + rm.slots ≤ R.slots) (hE : GE D k A s) (hP : va_P D vwCl ws H) (hD : va_D A ws) (hS : va_S A s.heap H locs) (hA : ∀ q : Nat, s.heap.size ≤ q → A q) (hC : isC.map (fun i => ws[i]?) = wc.map some) (hnd : va_nd isC = true) (hcell : ∃ cell : Cell, H[b]? = some cell ∧ cell.vm.isStatics = false ∧ s.vm.findClass C = some cell.cls) (hl : lv_has ls nL lv) (hstack : st0 = As.reverse ++ .ref b :: rest) (hst : (rest.map fun v => v.category).sum ≤ 8) (hdg : decode cc pc = .ok (.invokevirtual index, 3)) :
    va_Run p l e R s m args below meth c H locs cells slots rm.cells rm.slots (F0 m pc ls st0) rest (Qc (Value.ref b :: As).toArray) free :=
  va_runU S hM (va_cwO n S.2.2.2.2 hG hw rfl rfl h0 hd hR) ⟨PcW_blind _, hcell, fc_pre hE hP hD hS hA hC hnd _⟩ rfl hn hl.1 hstack (lv_room hst) hdg hf
end
theorem inS_J0_init_db425_J0 : ∀ w ∈ wsJ00, w ∈ wsJ0_init_db425 := by decide +kernel
abbrev rmS_si5 : Room := { frames := 3, cells := 1, slots := 142, locals := 130 }
set_option maxHeartbeats 4000000 in
set_option maxRecDepth 100000 in
theorem cS_si5 {l : Launch} {D : va_G} {k : tyK} (st sb va cap N : Nat) (ml : Int32) (bt : Nat → Int32) (hN : N < cap) (hM : cap ≤ 142) (hfit : sb_Fit bt) : FCv l yJ0_init_db425 wsJ0_init_db425 rmS_si5 D k [.ref st, .ref sb, .null] [(st, .inr (0, [.null, .int (0 : Int32), .int (0 : Int32), .int (0 : Int32)])), (sb, .inr (1, [.ref va, .int (0 : Int32), .int ml, .int (nI N)])), (va, .inl (k.2.2.1, cap, .inl bt))] (fun (_ : Nat) => True) (fun u => [(st, .inr (0, [.ref u, .int (0 : Int32), .int (0 : Int32), .int (0 : Int32)])), (sb, .inr (1, [.ref va, .int (0 : Int32), .int ml, .int (nI N)])), (va, .inl (k.2.2.1, cap, .inl bt)), (u, .inl (k.2.2.1, N, .inl (va_cpy bt (fun _ => 0) 0 0 N)))]) := by
  refine fc_start (cc := cJ0_init_db425) (maxL := 5) (ret := none) (own := RJ0) (Qc := fun A => va_Qv (fun (_ : Nat) => True) (Bt D (fun u => [(st, .inr (0, [.ref u, .int (0 : Int32), .int (0 : Int32), .int (0 : Int32)])), (sb, .inr (1, [.ref va, .int (0 : Int32), .int ml, .int (nI N)])), (va, .inl (k.2.2.1, cap, .inl bt)), (u, .inl (k.2.2.1, N, .inl (va_cpy bt (fun _ => 0) 0 0 N)))]) A) A) (by decide) rfl rfl (Nat.le_of_ble_eq_true rfl) ?_
  intro p e s m below meth c A H hx hb hml hr hts hown hlk hname hA hP hE hD hS ls hl
  have hl : lv_has ls 5 [(0, .ref st), (1, .ref sb), (2, .null)] := hl
  obtain ⟨locs, hlocs⟩ : ∃ z : List Loc, z = [] := ⟨_, rfl⟩
  rw [← hlocs] at hS ⊢
  refine lv_aload_n hx hb dJ0_init_db425_0 rfl (lv_at hl 0 rfl) ?_
  refine W.objInit hx hb hown (hts (.methodLink RJ0 1 objectInit) (by decide +kernel)) (hts (.instanceMethod objectInit) (by decide +kernel)) (hts (.code objectInit ⟨#[0xb1]⟩ 1 none) (by decide +kernel)) rfl (by rw [hml]; exact hl.1) rfl dJ0_init_db425_1 (Nat.le_of_ble_eq_true rfl) (Nat.le_of_ble_eq_true rfl) ?_
  refine W.eq (g2 := F0 m 4 ls []) rfl ?_
  refine lv_aload_n hx hb dJ0_init_db425_4 rfl (lv_at hl 1 rfl) ?_
  refine fc_cr (isC := [1, 2]) (cells' := 0) (slots' := 0) (fc_runU (n := 0) (As := []) (rest := []) (isC := [1, 2]) (maxL := 1) ⟨hx, hb, hml, hown, hts⟩ (cS_gv sb va cap ml (nI N) bt H.size) gJ0_init_db425_J5_getValue_6d5f1_u552J4 rfl rfl (by decide +kernel) rfl ⟨Nat.le_of_ble_eq_true rfl, Nat.le_of_ble_eq_true rfl⟩ ⟨Nat.le_of_ble_eq_true rfl, Nat.le_of_ble_eq_true rfl⟩ hE hP hD hS hA rfl rfl (va_recv hE.1 hP (ci := 1) (q0 := 1) rfl rfl) hl rfl (Nat.le_of_ble_eq_true rfl) dJ0_init_db425_5) hP hD hS hA rfl rfl rfl rfl (fun H locs hP hD hS => ?_)
  dsimp only [fs, List.set] at hP hD
  have hP : va_P D vwCl [(st, .inr (0, [.null, .int (0 : Int32), .int (0 : Int32), .int (0 : Int32)])), (sb, .inr (1, [.ref va, .int (0 : Int32), .int ml, .int (nI N)])), (va, .inl (k.2.2.1, cap, .inl bt))] H := hP
  have hD : va_D A [(st, .inr (0, [.null, .int (0 : Int32), .int (0 : Int32), .int (0 : Int32)])), (sb, .inr (1, [.ref va, .int (0 : Int32), .int ml, .int (nI N)])), (va, .inl (k.2.2.1, cap, .inl bt))] := hD
  refine lv_astore_n (lv' := [(3, .ref va), (0, .ref st), (1, .ref sb), (2, .null)]) hx hb dJ0_init_db425_8 rfl hl (by decide) rfl (fun ls hl => ?_)
  refine lv_aload_n hx hb dJ0_init_db425_9 rfl (lv_at hl 2 rfl) ?_
  refine fc_ci (isC := [1, 2]) (cells' := 0) (slots' := 0) (fc_runO (n := 0) (As := []) (rest := []) (isC := [1, 2]) (maxL := 1) ⟨hx, hb, hml, hown, hts⟩ (c_J4_length_8abf5 sb va cap ml (nI N) bt H.size) gJ0_init_db425_J4_length_8abf5_u549J4 rfl (b0 := cJ5_length_8abf5) (m0 := 1) (r0 := some .int) (by decide +kernel) (by decide +kernel) rfl ⟨Nat.le_of_ble_eq_true rfl, Nat.le_of_ble_eq_true rfl⟩ ⟨Nat.le_of_ble_eq_true rfl, Nat.le_of_ble_eq_true rfl⟩ hE hP hD hS hA rfl rfl (va_recv hE.1 hP (ci := 1) (q0 := 1) rfl rfl) hl rfl (Nat.le_of_ble_eq_true rfl) dJ0_init_db425_10) hP hD hS hA rfl (fun _ => rfl) rfl rfl (fun r_1 _ H locs hr_1 hP hD hS => ?_)
  obtain rfl : (F_J4_length_8abf5 ml (nI N) bt) = r_1 := hr_1.symm
  dsimp only [fs, List.set] at hP hD
  have hP : va_P D vwCl [(st, .inr (0, [.null, .int (0 : Int32), .int (0 : Int32), .int (0 : Int32)])), (sb, .inr (1, [.ref va, .int (0 : Int32), .int ml, .int (nI N)])), (va, .inl (k.2.2.1, cap, .inl bt))] H := hP
  have hD : va_D A [(st, .inr (0, [.null, .int (0 : Int32), .int (0 : Int32), .int (0 : Int32)])), (sb, .inr (1, [.ref va, .int (0 : Int32), .int ml, .int (nI N)])), (va, .inl (k.2.2.1, cap, .inl bt))] := hD
  have eN : F_J4_length_8abf5 ml (nI N) bt = nI N := rfl
  rw [eN]
  refine lv_istore (lv' := [(4, .int (nI N)), (3, .ref va), (0, .ref st), (1, .ref sb), (2, .null)]) hx hb dJ0_init_db425_13 hl (by decide) rfl (fun ls hl => ?_)
  refine lv_aload_n hx hb dJ0_init_db425_15 rfl (lv_at hl 3 rfl) ?_
  refine fc_ci (isC := [1, 2]) (cells' := 0) (slots' := 0) (fc_runU (n := 0) (As := []) (rest := []) (isC := [1, 2]) (maxL := 1) ⟨hx, hb, hml, hown, hts⟩ (c_J5_isLatin1_aae02 sb va cap ml (nI N) bt H.size) gJ0_init_db425_J5_isLatin1_aae02_u1047J4 rfl rfl (by decide +kernel) rfl ⟨Nat.le_of_ble_eq_true rfl, Nat.le_of_ble_eq_true rfl⟩ ⟨Nat.le_of_ble_eq_true rfl, Nat.le_of_ble_eq_true rfl⟩ hE hP hD hS hA rfl rfl (va_recv hE.1 hP (ci := 1) (q0 := 1) rfl rfl) hl rfl (Nat.le_of_ble_eq_true rfl) dJ0_init_db425_16) hP hD hS hA rfl (fun _ => rfl) rfl rfl (fun r_2 _ H locs hr_2 hP hD hS => ?_)
  obtain rfl : (1 : Int32) = r_2 := hr_2.symm
  dsimp only [fs, List.set] at hP hD
  have hP : va_P D vwCl [(st, .inr (0, [.null, .int (0 : Int32), .int (0 : Int32), .int (0 : Int32)])), (sb, .inr (1, [.ref va, .int (0 : Int32), .int ml, .int (nI N)])), (va, .inl (k.2.2.1, cap, .inl bt))] H := hP
  have hD : va_D A [(st, .inr (0, [.null, .int (0 : Int32), .int (0 : Int32), .int (0 : Int32)])), (sb, .inr (1, [.ref va, .int (0 : Int32), .int ml, .int (nI N)])), (va, .inl (k.2.2.1, cap, .inl bt))] := hD
  refine lv_if_eq (tgt := 41) hx hb dJ0_init_db425_19 (by decide) (fun c_1 => absurd c_1 (by decide)) (fun c_1 => ?_)
  refine lv_aload_n hx hb dJ0_init_db425_22 rfl (lv_at hl 2 rfl) ?_
  refine lv_iconst (v := 0) hx hb dJ0_init_db425_23 (by decide) ?_
  refine va_putF (D := D) (ci := 0) (v := .int (0 : Int32)) (ty := .byte) (C := RJ0) (T := TJ0) (N := 4) hx hb hts inS_J0_init_db425_J0 tyJ0 tyJ0_ok nmJ0 hown hE.1 hP hD hS 0 rfl rfl 1 (by decide) (hts (.fieldLink RJ0 15 "java/lang/String" "coder" "B") (by decide +kernel)) (fun _ h9 => h9) rfl (hname.trans rfl) rfl (by decide +kernel) rfl rfl (Nat.le_of_ble_eq_true rfl) dJ0_init_db425_24 (fun H locs hP hD hS => ?_)
  have hP : va_P D vwCl [(st, .inr (0, [.null, .int (0 : Int32), .int (0 : Int32), .int (0 : Int32)])), (sb, .inr (1, [.ref va, .int (0 : Int32), .int ml, .int (nI N)])), (va, .inl (k.2.2.1, cap, .inl bt))] H := hP
  have hD : va_D A [(st, .inr (0, [.null, .int (0 : Int32), .int (0 : Int32), .int (0 : Int32)])), (sb, .inr (1, [.ref va, .int (0 : Int32), .int ml, .int (nI N)])), (va, .inl (k.2.2.1, cap, .inl bt))] := hD
  refine lv_aload_n hx hb dJ0_init_db425_27 rfl (lv_at hl 2 rfl) ?_
  refine lv_aload_n hx hb dJ0_init_db425_28 rfl (lv_at hl 1 rfl) ?_
  refine lv_iconst (v := 0) hx hb dJ0_init_db425_29 (by decide) ?_
  refine lv_iload hx hb dJ0_init_db425_30 (lv_at hl 0 rfl) ?_
  have hFc := va_free (wc := [(va, .inl (k.2.2.1, cap, .inl bt))]) hD hS hA [2] rfl
  refine va_callr (fc_runS (n := 3) (As := [.ref va, .int (0 : Int32), .int (nI N)]) (rest := [.ref st]) (isC := [2]) (maxL := 3) ⟨hx, hb, hml, hown, hts⟩ (cS_cr va cap N bt hN hM hfit H.size) gJ0_init_db425_J7_copyOfRange_39247 rfl (by decide +kernel) rfl ⟨Nat.le_of_ble_eq_true rfl, Nat.le_of_ble_eq_true rfl⟩ ⟨Nat.le_of_ble_eq_true rfl, Nat.le_of_ble_eq_true rfl⟩ hE hP hD hS hA rfl rfl hl rfl (Nat.le_of_ble_eq_true rfl) dJ0_init_db425_32) hS (fun q _ h => hFc q h) hFc (fun _ q t H1 locs1 ht _ _ hB _ hk hS1 => ?_)
  obtain ⟨hP1, hD1⟩ := hB
  rw [ht] at hP1
  obtain ⟨hP, hD⟩ := va_join (wr := [(st, .inr (0, [.null, .int (0 : Int32), .int (0 : Int32), .int (0 : Int32)])), (sb, .inr (1, [.ref va, .int (0 : Int32), .int ml, .int (nI N)]))]) hP hD [2] [0, 1] rfl rfl (by decide) (by decide) hk hFc hP1 hD1
  have hS := hS1
  have hP : va_P D vwCl [(st, .inr (0, [.null, .int (0 : Int32), .int (0 : Int32), .int (0 : Int32)])), (sb, .inr (1, [.ref va, .int (0 : Int32), .int ml, .int (nI N)])), (va, .inl (k.2.2.1, cap, .inl bt)), (q, .inl (k.2.2.1, N, .inl (va_cpy bt (fun _ => 0) 0 0 N)))] H1 := hP
  have hD : va_D A [(st, .inr (0, [.null, .int (0 : Int32), .int (0 : Int32), .int (0 : Int32)])), (sb, .inr (1, [.ref va, .int (0 : Int32), .int ml, .int (nI N)])), (va, .inl (k.2.2.1, cap, .inl bt)), (q, .inl (k.2.2.1, N, .inl (va_cpy bt (fun _ => 0) 0 0 N)))] := hD
  refine va_putF (D := D) (ci := 0) (v := .ref q) (ty := (.array .byte)) (C := RJ0) (T := TJ0) (N := 4) hx hb hts inS_J0_init_db425_J0 tyJ0 tyJ0_ok nmJ0 hown hE.1 hP hD hS 0 rfl rfl 0 (by decide) (hts (.fieldLink RJ0 9 "java/lang/String" "value" "[B") (by decide +kernel)) (fun _ h9 => h9) rfl (hname.trans rfl) rfl (by decide +kernel) rfl rfl (Nat.le_of_ble_eq_true rfl) dJ0_init_db425_35 (fun H locs hP hD hS => ?_)
  refine lv_goto (tgt := 97) hx hb dJ0_init_db425_38 (by decide) ?_
  exact fc_vret hx hb hr hlk hS q trivial hP hD (by decide) (by decide) dJ0_init_db425_97
abbrev rmS_si1 : Room := { frames := 4, cells := 1, slots := 142, locals := 160 }
set_option maxHeartbeats 4000000 in
set_option maxRecDepth 100000 in
theorem cS_si1 {l : Launch} {D : va_G} {k : tyK} (st sb va cap N : Nat) (ml : Int32) (bt : Nat → Int32) (hN : N < cap) (hM : cap ≤ 142) (hfit : sb_Fit bt) : FCv l yJ0_init_81219 wsJ0_init_81219 rmS_si1 D k [.ref st, .ref sb] [(st, .inr (0, [.null, .int (0 : Int32), .int (0 : Int32), .int (0 : Int32)])), (sb, .inr (1, [.ref va, .int (0 : Int32), .int ml, .int (nI N)])), (va, .inl (k.2.2.1, cap, .inl bt))] (fun (_ : Nat) => True) (fun u => [(st, .inr (0, [.ref u, .int (0 : Int32), .int (0 : Int32), .int (0 : Int32)])), (sb, .inr (1, [.ref va, .int (0 : Int32), .int ml, .int (nI N)])), (va, .inl (k.2.2.1, cap, .inl bt)), (u, .inl (k.2.2.1, N, .inl (va_cpy bt (fun _ => 0) 0 0 N)))]) := by
  refine fc_start (cc := cJ0_init_81219) (maxL := 2) (ret := none) (own := RJ0) (Qc := fun A => va_Qv (fun (_ : Nat) => True) (Bt D (fun u => [(st, .inr (0, [.ref u, .int (0 : Int32), .int (0 : Int32), .int (0 : Int32)])), (sb, .inr (1, [.ref va, .int (0 : Int32), .int ml, .int (nI N)])), (va, .inl (k.2.2.1, cap, .inl bt)), (u, .inl (k.2.2.1, N, .inl (va_cpy bt (fun _ => 0) 0 0 N)))]) A) A) (by decide) rfl rfl (Nat.le_of_ble_eq_true rfl) ?_
  intro p e s m below meth c A H hx hb hml hr hts hown hlk hname hA hP hE hD hS ls hl
  have hl : lv_has ls 2 [(0, .ref st), (1, .ref sb)] := hl
  obtain ⟨locs, hlocs⟩ : ∃ z : List Loc, z = [] := ⟨_, rfl⟩
  rw [← hlocs] at hS ⊢
  refine lv_aload_n hx hb dJ0_init_81219_0 rfl (lv_at hl 0 rfl) ?_
  refine lv_aload_n hx hb dJ0_init_81219_1 rfl (lv_at hl 1 rfl) ?_
  refine lv_null hx hb dJ0_init_81219_2 ?_
  refine fc_cvN (cells' := 1) (slots' := 142) [0, 1, 2] [] (wr := []) (fc_runI (n := 2) (As := [.ref sb, .null]) (rest := []) (isC := [0, 1, 2]) (maxL := 5) ⟨hx, hb, hml, hown, hts⟩ (cS_si5 st sb va cap N ml bt hN hM hfit H.size) gJ0_init_81219_J0_init_db425 (by decide +kernel) (by decide +kernel) (by decide +kernel) rfl rfl (by decide +kernel) rfl ⟨Nat.le_of_ble_eq_true rfl, Nat.le_of_ble_eq_true rfl⟩ ⟨Nat.le_of_ble_eq_true rfl, Nat.le_of_ble_eq_true rfl⟩ hE hP hD hS hA rfl rfl hl rfl (Nat.le_of_ble_eq_true rfl) dJ0_init_81219_3) hP hD hS hA rfl rfl (by decide) (by decide) rfl rfl (fun u H locs _ hP hD hS => ?_)
  exact fc_vret hx hb hr hlk hS u trivial hP hD (by decide) (by decide) dJ0_init_81219_6
theorem inS_J4_toString_0e30d_J0 : ∀ w ∈ wsJ00, w ∈ wsJ4_toString_0e30d := by decide +kernel
abbrev rmS_ts : Room := { frames := 5, cells := 2, slots := 146, locals := 185 }
set_option maxHeartbeats 4000000 in
set_option maxRecDepth 100000 in
theorem cS_ts {l : Launch} {D : va_G} {k : tyK} (sb va cap N : Nat) (ml : Int32) (bt : Nat → Int32) (hN : N < cap) (hM : cap ≤ 142) (hfit : sb_Fit bt) : ∀ sz : Nat, Met l yJ4_toString_0e30d wsJ4_toString_0e30d rmS_ts (va_Pc [.ref sb] (PcW D k [(sb, .inr (1, [.ref va, .int (0 : Int32), .int ml, .int (nI N)])), (va, .inl (k.2.2.1, cap, .inl bt))] sz)) (va_Qr (fun (_ : Nat) => True) (fun u q9 t => va_P D vwCl [(sb, .inr (1, [.ref va, .int (0 : Int32), .int ml, .int (nI N)])), (va, .inl (k.2.2.1, cap, .inl bt)), (q9, .inr (0, [.ref u, .int (0 : Int32), .int (0 : Int32), .int (0 : Int32)])), (u, .inl (k.2.2.1, N, .inl (va_cpy bt (fun _ => 0) 0 0 N)))] t.heap ∧ va_D (va_A [(sb, .inr (1, [.ref va, .int (0 : Int32), .int ml, .int (nI N)])), (va, .inl (k.2.2.1, cap, .inl bt))] sz) [(sb, .inr (1, [.ref va, .int (0 : Int32), .int ml, .int (nI N)])), (va, .inl (k.2.2.1, cap, .inl bt)), (q9, .inr (0, [.ref u, .int (0 : Int32), .int (0 : Int32), .int (0 : Int32)])), (u, .inl (k.2.2.1, N, .inl (va_cpy bt (fun _ => 0) 0 0 N)))]) (va_A [(sb, .inr (1, [.ref va, .int (0 : Int32), .int ml, .int (nI N)])), (va, .inl (k.2.2.1, cap, .inl bt))] sz)) rmS_ts.cells rmS_ts.slots (va_A [(sb, .inr (1, [.ref va, .int (0 : Int32), .int ml, .int (nI N)])), (va, .inl (k.2.2.1, cap, .inl bt))] sz) := by
  intro sz
  refine fc_start (cc := cJ4_toString_0e30d) (maxL := 1) (ret := (some (.object "java/lang/String"))) (own := RJ4) (W0 := [(sb, .inr (1, [.ref va, .int (0 : Int32), .int ml, .int (nI N)])), (va, .inl (k.2.2.1, cap, .inl bt))]) (Qc := fun A => va_Qr (fun (_ : Nat) => True) (fun u q9 t => va_P D vwCl [(sb, .inr (1, [.ref va, .int (0 : Int32), .int ml, .int (nI N)])), (va, .inl (k.2.2.1, cap, .inl bt)), (q9, .inr (0, [.ref u, .int (0 : Int32), .int (0 : Int32), .int (0 : Int32)])), (u, .inl (k.2.2.1, N, .inl (va_cpy bt (fun _ => 0) 0 0 N)))] t.heap ∧ va_D A [(sb, .inr (1, [.ref va, .int (0 : Int32), .int ml, .int (nI N)])), (va, .inl (k.2.2.1, cap, .inl bt)), (q9, .inr (0, [.ref u, .int (0 : Int32), .int (0 : Int32), .int (0 : Int32)])), (u, .inl (k.2.2.1, N, .inl (va_cpy bt (fun _ => 0) 0 0 N)))]) A) (by decide) rfl rfl (Nat.le_of_ble_eq_true rfl)  ?_ sz
  intro p e s m below meth c A H hx hb hml hr hts hown hlk hname hA hP hE hD hS ls hl
  have hl : lv_has ls 1 [(0, .ref sb)] := hl
  obtain ⟨locs, hlocs⟩ : ∃ z : List Loc, z = [] := ⟨_, rfl⟩
  rw [← hlocs] at hS ⊢
  refine va_new (ci := 0) (fs := [.null, .int (0 : Int32), .int (0 : Int32), .int (0 : Int32)]) (C := RJ0) (T := TJ0) (N := 4) hx hb hts inS_J4_toString_0e30d_J0 tyJ0 tyJ0_ok hown (hts (.classLink RJ4 18 RJ0) (by decide +kernel)) (hts (.instantiable RJ0 4) (by decide +kernel)) (hts (.initialized RJ0) (by decide +kernel)) hE.1 hP hD hS hA rfl (fun j hj => by rcases (show j = 0 ∨ j = 1 ∨ j = 2 ∨ j = 3 by omega) with rfl | rfl | rfl | rfl <;> rfl) (by decide) (by decide) dJ4_toString_0e30d_0 (fun st H hP hD hS => ?_)
  have hP : va_P D vwCl [(sb, .inr (1, [.ref va, .int (0 : Int32), .int ml, .int (nI N)])), (va, .inl (k.2.2.1, cap, .inl bt)), (st, .inr (0, [.null, .int (0 : Int32), .int (0 : Int32), .int (0 : Int32)]))] H := hP
  have hD : va_D A [(sb, .inr (1, [.ref va, .int (0 : Int32), .int ml, .int (nI N)])), (va, .inl (k.2.2.1, cap, .inl bt)), (st, .inr (0, [.null, .int (0 : Int32), .int (0 : Int32), .int (0 : Int32)]))] := hD
  refine lv_dup hx hb dJ4_toString_0e30d_3 rfl ?_
  refine lv_aload_n hx hb dJ4_toString_0e30d_4 rfl (lv_at hl 0 rfl) ?_
  refine fc_cvN (cells' := 2) (slots' := 146) [2, 0, 1] [] (wr := []) (fc_runI (n := 1) (As := [.ref sb]) (rest := [.ref st]) (isC := [2, 0, 1]) (maxL := 2) ⟨hx, hb, hml, hown, hts⟩ (cS_si1 st sb va cap N ml bt hN hM hfit H.size) gJ4_toString_0e30d_J0_init_81219 (by decide +kernel) (by decide +kernel) (by decide +kernel) rfl rfl (by decide +kernel) rfl ⟨Nat.le_of_ble_eq_true rfl, Nat.le_of_ble_eq_true rfl⟩ ⟨Nat.le_of_ble_eq_true rfl, Nat.le_of_ble_eq_true rfl⟩ hE hP hD hS hA rfl rfl hl rfl (Nat.le_of_ble_eq_true rfl) dJ4_toString_0e30d_5) hP hD hS hA rfl rfl (by decide) (by decide) rfl rfl (fun u H locs _ hP hD hS => ?_)
  have hP := hP.sub (ws' := [(sb, .inr (1, [.ref va, .int (0 : Int32), .int ml, .int (nI N)])), (va, .inl (k.2.2.1, cap, .inl bt)), (st, .inr (0, [.ref u, .int (0 : Int32), .int (0 : Int32), .int (0 : Int32)])), (u, .inl (k.2.2.1, N, .inl (va_cpy bt (fun _ => 0) 0 0 N)))]) [1, 2, 0, 3] rfl
  have hD := hD.sub (ws' := [(sb, .inr (1, [.ref va, .int (0 : Int32), .int ml, .int (nI N)])), (va, .inl (k.2.2.1, cap, .inl bt)), (st, .inr (0, [.ref u, .int (0 : Int32), .int (0 : Int32), .int (0 : Int32)])), (u, .inl (k.2.2.1, N, .inl (va_cpy bt (fun _ => 0) 0 0 N)))]) [1, 2, 0, 3] (by decide) rfl
  exact W.aret hx hb hr (Or.inl ⟨_, rfl⟩) (Or.inr ⟨st, rfl⟩) (fun t ht _ => ⟨⟨u, st, rfl, trivial, by rw [ht]; exact hP, hD⟩, hS.F ht⟩) hS.2.2 dJ4_toString_0e30d_8 hlk
end TSstrB
