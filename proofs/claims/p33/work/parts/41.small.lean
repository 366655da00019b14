/-! THE LAW'S SMALLEST METHODS: at, some; the bits of floats. -/
section TSsmall2
/-- the script's place j, or 0 -/
def atN (k : tyK) (j : Nat) : Int32 := if j < kL k then kX k j else 0
def someN (x : Int32) (n : Nat) : Int32 := if x - x / nI n * nI n < 0 then x - x / nI n * nI n + nI n else x - x / nI n * nI n
theorem some_lt (x : Int32) {n : Nat} (h0 : 0 < n) (hn : n < 1000) : ∃ q, q < n ∧ someN x n = nI q := by
  unfold someN
  by_cases h : x - x / nI n * nI n < 0
  · rw [if_pos h]; exact (some_ok x h0 hn).2 h
  · rw [if_neg h]; exact (some_ok x h0 hn).1 h
def nanD (x : UInt64) : Int32 := if Op.cmpValue (FP.dcmp x x) .l = 0 then 0 else 1
def nanF (x : UInt32) : Int32 := if Op.cmpValue (FP.fcmp x x) .l = 0 then 0 else 1
def bitsD (x : UInt64) : Int64 := if nanD x = 0 then x.toInt64 else 9221120237041090560
def bitsF (x : UInt32) : Int32 := if nanF x = 0 then x.toInt32 else 2143289344
/-- a contract's beginning where the class is one of those with rows in place of bytecode, but the method has none -/
theorem fc_startF {l : Launch} {D : va_G} {k : tyK} {y : MethodName} {cc : ByteArray} {maxL : Nat} {ret : Option FieldType} {ws ws' : List Cond} {rm : Room} {av : List Value} {W0 : va_W} {own : String} {Qc : (Nat → Prop) → Array Value → State → Outcome → State → Prop}
    (hy : plainFor y = true) (ho : y.cls = own) (hw : ws = Cond.code y cc maxL ret :: ws') (hn : (lg_sl av).length ≤ maxL)
    (body : ∀ (p : Program) (e : Env) (s : State) (m : MethodId) (below : List Frame) (meth : Method) (c : Code) (A : Nat → Prop) (H : Heap), p.tables.exec = Jvm.exec → c.code = cc → c.maxLocals = maxL → meth.sig.returnType = ret → (∀ w ∈ ws, w.before av.toArray s = true) → s.vm.findClass own = some m.cls → meth.locks = false → (∀ q : Nat, s.heap.size ≤ q → A q) → va_P D vwCl W0 H → GE D k A s → va_D A W0 → va_S A s.heap H [] → ∀ ls : Array Slot, lv_has ls maxL (lv_args 0 av) → W p l e rm s m av.toArray below meth c H [] 0 0 (MQ below (Qc A) av.toArray s rm.cells rm.slots A) (F0 m 0 ls [])) :
    ∀ sz : Nat, Met l y ws rm (va_Pc av (PcW D k W0 sz)) (Qc (va_A W0 sz)) rm.cells rm.slots (va_A W0 sz) := by
  intro sz
  refine MetFree.of_bodySF (code := cc) (maxLocals := maxL) (ret := ret) hy (fun args s m h hn => ?_) (fun p e s m args below meth c s₁ B hml hv _ => ?_)
  · obtain ⟨meth, c, h1, h2, h3, h4, h5, h6, -, -⟩ := Cond.code_spec hn (atoms_spec (ws := ws) h _ (by rw [hw]; exact List.mem_cons_self))
    exact ⟨meth, c, h1, h2, h3, h4, h5, h6⟩
  · obtain ⟨rfl, hsz, hP, hE, hD0⟩ := hv
    have hts := atoms_spec (ws := ws) B.pre
    have hown : s.vm.findClass own = some m.cls := ho ▸ findClass_of_methodNamed B.named
    have hh0 : s₁.heap = s.heap := by rw [B.state]; rfl
    subst hsz
    have hW := body p e s m below meth c _ s.heap B.exec B.bytes hml B.returns hts hown B.notSynchronized (fun q h => Or.inr h) hP hE hD0.self va_S.rf _ (lv_entry av hn)
    rw [← lg_entry_eq] at hW
    obtain ⟨t, a1, o, b1, b2, b3⟩ := hW s₁ hh0 (Stand.of_body B)
    exact ⟨t, o, a1, b1, b2, ⟨b3.1, b3.2⟩⟩
section TSsmall3
variable {p : Program} {l : Launch} {e : Env} {R : Room} {s : State} {m : MethodId} {args : Array Value} {below : List Frame} {meth : Method} {c : Code} {H : Heap} {locs : List Loc} {cells slots : Nat} {Q : State → Prop} {D : va_G} {k : tyK} {A : Nat → Prop} {cc : ByteArray} {pc : Nat} {ls : Array Slot} {rest st0 : List Value} {a0 : Array Value} {mc ms : Nat} {ws : va_W}
/-- a call that touches nothing -/
theorem fc_c0 {v : Int32} (hr : va_Run p l e R s m args below meth c H locs cells slots mc ms (F0 m pc ls st0) rest (va_Qi (fun r (_ : Unit) => r = v) (Bt D (fun _ => []) (va_A [] H.size)) (va_A [] H.size) a0) (va_A [] H.size)) (hP : va_P D vwCl ws H) (hD : va_D A ws) (hS : va_S A s.heap H locs) (hA : ∀ q : Nat, s.heap.size ≤ q → A q) {cells' slots' : Nat} (hcs : cells + mc = cells') (hss : slots + ms = slots')
    (kk : ∀ (H1 : Heap) (locs1 : List Loc), va_P D vwCl ws H1 → va_D A ws → va_S A s.heap H1 locs1 → W p l e R s m args below meth c H1 locs1 cells' slots' Q (F0 m (pc + 3) ls (.int v :: rest))) : W p l e R s m args below meth c H locs cells slots Q (F0 m pc ls st0) :=
  fc_ci (isC := []) hr hP hD hS hA rfl (fun _ => rfl) hcs hss (fun r _ H1 locs1 hp hP1 hD1 hS1 => by
    subst hp
    exact kk H1 locs1 hP1 hD1 hS1)
theorem fc_l0 {v : Int64} (hr : va_Run p l e R s m args below meth c H locs cells slots mc ms (F0 m pc ls st0) rest (va_Ql (fun r (_ : Unit) => r = v) (Bt D (fun _ => []) (va_A [] H.size)) (va_A [] H.size) a0) (va_A [] H.size)) (hP : va_P D vwCl ws H) (hD : va_D A ws) (hS : va_S A s.heap H locs) (hA : ∀ q : Nat, s.heap.size ≤ q → A q) {cells' slots' : Nat} (hcs : cells + mc = cells') (hss : slots + ms = slots')
    (kk : ∀ (H1 : Heap) (locs1 : List Loc), va_P D vwCl ws H1 → va_D A ws → va_S A s.heap H1 locs1 → W p l e R s m args below meth c H1 locs1 cells' slots' Q (F0 m (pc + 3) ls (.long v :: rest))) : W p l e R s m args below meth c H locs cells slots Q (F0 m pc ls st0) :=
  fc_cl (isC := []) hr hP hD hS hA rfl (fun _ => rfl) hcs hss (fun r _ H1 locs1 hp hP1 hD1 hS1 => by
    subst hp
    exact kk H1 locs1 hP1 hD1 hS1)
end TSsmall3
abbrev rm_L_at : Room := { frames := 0, cells := 0, slots := 0, locals := 0 }
theorem c_L_at {l : Launch} {D : va_G} {k : tyK} (j : Nat) (hj : j < 1000) (hL : kL k ≤ 1000) : FCi l yL_at wsL_at rm_L_at D k [.ref (kB k), .int (nI j)] [] (fun r (_ : Unit) => r = atN k j) (fun _ => []) := by
  refine fc_start (cc := cL_at) (maxL := 2) (ret := (some .int)) (own := RL) (Qc := fun A => va_Qi (fun r (_ : Unit) => r = atN k j) (Bt D (fun _ => []) A) A) (by decide) rfl rfl (Nat.le_of_ble_eq_true rfl) ?_
  intro p e s m below meth c A H hx hb hml hr hts hown hlk hname hA hP hE hD hS ls hl
  have hl : lv_has ls 2 [(0, .ref (kB k)), (1, .int (nI j))] := hl
  obtain ⟨locs, hlocs⟩ : ∃ z : List Loc, z = [] := ⟨_, rfl⟩
  rw [← hlocs] at hS ⊢
  refine lv_iload_n hx hb dL_at_0 rfl (lv_at hl 1 rfl) ?_
  refine lv_aload_n hx hb dL_at_1 rfl (lv_at hl 0 rfl) ?_
  refine va_tlen hx hb (GE.sc0 hE) hS (v := nI (kL k)) rfl dL_at_2 ?_
  refine lv_icmp_ge (tgt := 12) hx hb dL_at_3 (by decide) (fun h => ?_) (fun h => ?_)
  · refine lv_iconst (v := 0) hx hb dL_at_12 (by decide) ?_
    have hv : atN k j = 0 := if_neg (fun z => nI_ge z (by omega) h)
    exact fc_iret hx hb hr rfl hlk hS () hv.symm hP hD (by decide) (by decide) dL_at_13
  · have hlt : j < kL k := by
      by_cases z : j < kL k
      · exact z
      · exact absurd (nI_le (Nat.not_lt.mp z) (by omega)) h
    refine lv_aload_n hx hb dL_at_6 rfl (lv_at hl 0 rfl) ?_
    refine lv_iload_n hx hb dL_at_7 rfl (lv_at hl 1 rfl) ?_
    refine va_ti hx hb (GE.sc0 hE) hS (nI_in hlt (by omega)) (v := .int (kX k j)) (by show Value.int (kX k (nI j).toNatClampNeg) = _; rw [nI_clamp (by omega)]) dL_at_8 ?_
    refine lv_goto (tgt := 13) hx hb dL_at_9 (by decide) ?_
    have hv : atN k j = kX k j := if_pos hlt
    exact fc_iret hx hb hr rfl hlk hS () hv.symm hP hD (by decide) (by decide) dL_at_13
abbrev rm_L_some : Room := { frames := 0, cells := 0, slots := 0, locals := 0 }
theorem c_L_some {l : Launch} {D : va_G} {k : tyK} (x : Int32) (n : Nat) (h0 : 0 < n) (hn : n < 1000) : FCi l yL_some wsL_some rm_L_some D k [.int x, .int (nI n)] [] (fun r (_ : Unit) => r = someN x n) (fun _ => []) := by
  refine fc_start (cc := cL_some) (maxL := 3) (ret := (some .int)) (own := RL) (Qc := fun A => va_Qi (fun r (_ : Unit) => r = someN x n) (Bt D (fun _ => []) A) A) (by decide) rfl rfl (Nat.le_of_ble_eq_true rfl) ?_
  intro p e s m below meth c A H hx hb hml hr hts hown hlk hname hA hP hE hD hS ls hl
  have hl : lv_has ls 3 [(0, .int x), (1, .int (nI n))] := hl
  obtain ⟨locs, hlocs⟩ : ∃ z : List Loc, z = [] := ⟨_, rfl⟩
  rw [← hlocs] at hS ⊢
  refine lv_iload_n hx hb dL_some_0 rfl (lv_at hl 0 rfl) ?_
  refine lv_iload_n hx hb dL_some_1 rfl (lv_at hl 1 rfl) ?_
  refine lv_irem hx hb dL_some_2 (nI_ne0 h0 (by omega)) ?_
  refine lv_istore_n (lv' := [(2, .int (x - x / nI n * nI n)), (0, .int x), (1, .int (nI n))]) hx hb dL_some_3 rfl hl (by decide) rfl (fun ls hl => ?_)
  refine lv_iload_n hx hb dL_some_4 rfl (lv_at hl 0 rfl) ?_
  refine lv_if_ge (tgt := 14) hx hb dL_some_5 (by decide) (fun h => ?_) (fun h => ?_)
  · refine lv_iload_n hx hb dL_some_14 rfl (lv_at hl 0 rfl) ?_
    have hv : someN x n = x - x / nI n * nI n := if_neg (Int32.not_lt.mpr h)
    exact fc_iret hx hb hr rfl hlk hS () hv.symm hP hD (by decide) (by decide) dL_some_15
  · refine lv_iload_n hx hb dL_some_8 rfl (lv_at hl 0 rfl) ?_
    refine lv_iload_n hx hb dL_some_9 rfl (lv_at hl 2 rfl) ?_
    refine lv_iadd hx hb dL_some_10 ?_
    refine lv_goto (tgt := 15) hx hb dL_some_11 (by decide) ?_
    have hv : someN x n = x - x / nI n * nI n + nI n := if_pos (Int32.not_le.mp h)
    exact fc_iret hx hb hr rfl hlk hS () hv.symm hP hD (by decide) (by decide) dL_some_15
abbrev rm_nanD : Room := { frames := 0, cells := 0, slots := 0, locals := 0 }
theorem c_nanD {l : Launch} {D : va_G} {k : tyK} (x : UInt64) : FCi l yJxe99ae_isNaN_b9ae7 wsJxe99ae_isNaN_b9ae7 rm_nanD D k [.double x] [] (fun r (_ : Unit) => r = nanD x) (fun _ => []) := by
  refine fc_start (cc := cJxe99ae_isNaN_b9ae7) (maxL := 2) (ret := (some .boolean)) (own := RJxe99ae) (Qc := fun A => va_Qi (fun r (_ : Unit) => r = nanD x) (Bt D (fun _ => []) A) A) (by decide) rfl rfl (Nat.le_of_ble_eq_true rfl) ?_
  intro p e s m below meth c A H hx hb hml hr hts hown hlk hname hA hP hE hD hS ls hl
  have hl : lv_has ls 2 [(0, .double x)] := hl
  obtain ⟨locs, hlocs⟩ : ∃ z : List Loc, z = [] := ⟨_, rfl⟩
  rw [← hlocs] at hS ⊢
  refine lv_dload_n hx hb dJxe99ae_isNaN_b9ae7_0 rfl (lv_at hl 0 rfl) ?_
  refine lv_dload_n hx hb dJxe99ae_isNaN_b9ae7_1 rfl (lv_at hl 0 rfl) ?_
  refine lv_dcmp hx hb dJxe99ae_isNaN_b9ae7_2 ?_
  refine lv_if_eq (tgt := 10) hx hb dJxe99ae_isNaN_b9ae7_3 (by decide) (fun h => ?_) (fun h => ?_)
  · refine lv_iconst (v := 0) hx hb dJxe99ae_isNaN_b9ae7_10 (by decide) ?_
    have hv : nanD x = 0 := if_pos h
    exact fc_iret hx hb hr rfl hlk hS () hv.symm hP hD (by decide) (by decide) dJxe99ae_isNaN_b9ae7_11
  · refine lv_iconst (v := 1) hx hb dJxe99ae_isNaN_b9ae7_6 (by decide) ?_
    refine lv_goto (tgt := 11) hx hb dJxe99ae_isNaN_b9ae7_7 (by decide) ?_
    have hv : nanD x = 1 := if_neg h
    exact fc_iret hx hb hr rfl hlk hS () hv.symm hP hD (by decide) (by decide) dJxe99ae_isNaN_b9ae7_11
theorem c_nanF {l : Launch} {D : va_G} {k : tyK} (x : UInt32) : FCi l yJxf58ca_isNaN_12338 wsJxf58ca_isNaN_12338 rm_nanD D k [.float x] [] (fun r (_ : Unit) => r = nanF x) (fun _ => []) := by
  refine fc_startF (cc := cJxf58ca_isNaN_12338) (maxL := 1) (ret := (some .boolean)) (own := RJxf58ca) (Qc := fun A => va_Qi (fun r (_ : Unit) => r = nanF x) (Bt D (fun _ => []) A) A) (by decide +kernel) rfl rfl (Nat.le_of_ble_eq_true rfl) ?_
  intro p e s m below meth c A H hx hb hml hr hts hown hlk hA hP hE hD hS ls hl
  have hl : lv_has ls 1 [(0, .float x)] := hl
  obtain ⟨locs, hlocs⟩ : ∃ z : List Loc, z = [] := ⟨_, rfl⟩
  rw [← hlocs] at hS ⊢
  refine lv_fload_n hx hb dJxf58ca_isNaN_12338_0 rfl (lv_at hl 0 rfl) ?_
  refine lv_fload_n hx hb dJxf58ca_isNaN_12338_1 rfl (lv_at hl 0 rfl) ?_
  refine lv_fcmp hx hb dJxf58ca_isNaN_12338_2 ?_
  refine lv_if_eq (tgt := 10) hx hb dJxf58ca_isNaN_12338_3 (by decide) (fun h => ?_) (fun h => ?_)
  · refine lv_iconst (v := 0) hx hb dJxf58ca_isNaN_12338_10 (by decide) ?_
    have hv : nanF x = 0 := if_pos h
    exact fc_iret hx hb hr rfl hlk hS () hv.symm hP hD (by decide) (by decide) dJxf58ca_isNaN_12338_11
  · refine lv_iconst (v := 1) hx hb dJxf58ca_isNaN_12338_6 (by decide) ?_
    refine lv_goto (tgt := 11) hx hb dJxf58ca_isNaN_12338_7 (by decide) ?_
    have hv : nanF x = 1 := if_neg h
    exact fc_iret hx hb hr rfl hlk hS () hv.symm hP hD (by decide) (by decide) dJxf58ca_isNaN_12338_11
abbrev rm_bits : Room := { frames := 1, cells := 0, slots := 0, locals := 32 }
theorem c_bitsD {l : Launch} {D : va_G} {k : tyK} (x : UInt64) : ∀ sz : Nat, Met l yJxe99ae_doubleToLongBits_ccdee wsJxe99ae_doubleToLongBits_ccdee rm_bits (va_Pc [.double x] (PcW D k [] sz)) (va_Ql (fun r (_ : Unit) => r = bitsD x) (Bt D (fun _ => []) (va_A [] sz)) (va_A [] sz)) rm_bits.cells rm_bits.slots (va_A [] sz) := by
  refine fc_start (cc := cJxe99ae_doubleToLongBits_ccdee) (maxL := 2) (ret := (some .long)) (own := RJxe99ae) (Qc := fun A => va_Ql (fun r (_ : Unit) => r = bitsD x) (Bt D (fun _ => []) A) A) (by decide) rfl rfl (Nat.le_of_ble_eq_true rfl) ?_
  intro p e s m below meth c A H hx hb hml hr hts hown hlk hname hA hP hE hD hS ls hl
  have hl : lv_has ls 2 [(0, .double x)] := hl
  obtain ⟨locs, hlocs⟩ : ∃ z : List Loc, z = [] := ⟨_, rfl⟩
  rw [← hlocs] at hS ⊢
  refine lv_dload_n hx hb dJxe99ae_doubleToLongBits_ccdee_0 rfl (lv_at hl 0 rfl) ?_
  refine fc_c0 (cells' := 0) (slots' := 0) (fc_runS (n := 1) (As := [.double x]) (rest := []) (isC := []) (maxL := 2) ⟨hx, hb, hml, hown, hts⟩ (c_nanD x H.size) gJxe99ae_doubleToLongBits_ccdee_Jxe99ae_isNaN_b9ae7 rfl (by decide +kernel) rfl ⟨Nat.le_of_ble_eq_true rfl, Nat.le_of_ble_eq_true rfl⟩ ⟨Nat.le_of_ble_eq_true rfl, Nat.le_of_ble_eq_true rfl⟩ hE hP hD hS hA rfl rfl hl rfl (Nat.le_of_ble_eq_true rfl) dJxe99ae_doubleToLongBits_ccdee_1) hP hD hS hA rfl rfl (fun H locs hP hD hS => ?_)
  refine lv_if_ne (tgt := 12) hx hb dJxe99ae_doubleToLongBits_ccdee_4 (by decide) (fun h => ?_) (fun h => ?_)
  · refine lv_ldc2 (v := 9221120237041090560) hx hb hown (hts (.constantLong RJxe99ae 137 (9221120237041090560)) (by decide +kernel)) dJxe99ae_doubleToLongBits_ccdee_12 ?_
    have hv : bitsD x = 9221120237041090560 := if_neg h
    exact fc_lret hx hb hr hlk hS () hv.symm hP hD (by decide) (by decide) dJxe99ae_doubleToLongBits_ccdee_15
  · refine lv_dload_n hx hb dJxe99ae_doubleToLongBits_ccdee_7 rfl (lv_at hl 0 rfl) ?_
    refine vn_d2l hx hb (hml.trans hl.1.symm) hown (hts (.methodLink RJxe99ae 134 ⟨"java/lang/Double", "doubleToRawLongBits", "(D)J"⟩) (by decide +kernel)) (hts (.native ⟨"java/lang/Double", "doubleToRawLongBits", "(D)J"⟩) (by decide +kernel)) (hts (.static ⟨"java/lang/Double", "doubleToRawLongBits", "(D)J"⟩) (by decide +kernel)) (hts (.initialized "java/lang/Double") (by decide +kernel)) (Nat.le_of_ble_eq_true rfl) (Nat.le_of_ble_eq_true rfl) dJxe99ae_doubleToLongBits_ccdee_8 ?_
    have hv : bitsD x = x.toInt64 := if_pos h
    exact fc_lret hx hb hr hlk hS () hv.symm hP hD (by decide) (by decide) dJxe99ae_doubleToLongBits_ccdee_11
theorem c_bitsF {l : Launch} {D : va_G} {k : tyK} (x : UInt32) : FCi l yJxf58ca_floatToIntBits_5c35a wsJxf58ca_floatToIntBits_5c35a rm_bits D k [.float x] [] (fun r (_ : Unit) => r = bitsF x) (fun _ => []) := by
  refine fc_startF (cc := cJxf58ca_floatToIntBits_5c35a) (maxL := 1) (ret := (some .int)) (own := RJxf58ca) (Qc := fun A => va_Qi (fun r (_ : Unit) => r = bitsF x) (Bt D (fun _ => []) A) A) (by decide +kernel) rfl rfl (Nat.le_of_ble_eq_true rfl) ?_
  intro p e s m below meth c A H hx hb hml hr hts hown hlk hA hP hE hD hS ls hl
  have hl : lv_has ls 1 [(0, .float x)] := hl
  obtain ⟨locs, hlocs⟩ : ∃ z : List Loc, z = [] := ⟨_, rfl⟩
  rw [← hlocs] at hS ⊢
  refine lv_fload_n hx hb dJxf58ca_floatToIntBits_5c35a_0 rfl (lv_at hl 0 rfl) ?_
  refine fc_c0 (cells' := 0) (slots' := 0) (fc_runS (n := 1) (As := [.float x]) (rest := []) (isC := []) (maxL := 1) ⟨hx, hb, hml, hown, hts⟩ (c_nanF x H.size) gJxf58ca_floatToIntBits_5c35a_Jxf58ca_isNaN_12338 rfl (by decide +kernel) rfl ⟨Nat.le_of_ble_eq_true rfl, Nat.le_of_ble_eq_true rfl⟩ ⟨Nat.le_of_ble_eq_true rfl, Nat.le_of_ble_eq_true rfl⟩ hE hP hD hS hA rfl rfl hl rfl (Nat.le_of_ble_eq_true rfl) dJxf58ca_floatToIntBits_5c35a_1) hP hD hS hA rfl rfl (fun H locs hP hD hS => ?_)
  refine lv_if_ne (tgt := 12) hx hb dJxf58ca_floatToIntBits_5c35a_4 (by decide) (fun h => ?_) (fun h => ?_)
  · refine lv_ldc (v := 2143289344) hx hb hown (hts (.constant RJxf58ca 77 (2143289344)) (by decide +kernel)) dJxf58ca_floatToIntBits_5c35a_12 ?_
    have hv : bitsF x = 2143289344 := if_neg h
    exact fc_iret hx hb hr rfl hlk hS () hv.symm hP hD (by decide) (by decide) dJxf58ca_floatToIntBits_5c35a_14
  · refine lv_fload_n hx hb dJxf58ca_floatToIntBits_5c35a_7 rfl (lv_at hl 0 rfl) ?_
    refine vn_f2i hx hb (hml.trans hl.1.symm) hown (hts (.methodLink RJxf58ca 74 ⟨"java/lang/Float", "floatToRawIntBits", "(F)I"⟩) (by decide +kernel)) (hts (.native ⟨"java/lang/Float", "floatToRawIntBits", "(F)I"⟩) (by decide +kernel)) (hts (.static ⟨"java/lang/Float", "floatToRawIntBits", "(F)I"⟩) (by decide +kernel)) (hts (.initialized "java/lang/Float") (by decide +kernel)) (Nat.le_of_ble_eq_true rfl) (Nat.le_of_ble_eq_true rfl) dJxf58ca_floatToIntBits_5c35a_8 ?_
    have hv : bitsF x = x.toInt32 := if_pos h
    exact fc_iret hx hb hr rfl hlk hS () hv.symm hP hD (by decide) (by decide) dJxf58ca_floatToIntBits_5c35a_11
end TSsmall2
