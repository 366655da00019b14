/-! METHODS THAT RETURN OR THROW: X = none: they return r0; X = some E: an E leaves; the world is W1 either way. -/
section TSthrows
/-- the words of an exception's making that are not among the methods' own -/
def exB (E : String) : List Cond := [.castable E E, .declares (Bundle.initS "java/lang/RuntimeException"), .declares (Bundle.initS "java/lang/Exception"), .declares (Bundle.initS Bundle.tN)]
def XB (D : va_G) (X : Option String) (W1 : va_W) (A : Nat → Prop) : String → State → State → Prop := vx_X (fun (_ : Unit) => True) (fun E _ t => X = some E ∧ va_P D vwCl W1 t.heap ∧ va_D A W1) A
def FOi (l : Launch) (y : MethodName) (ws : List Cond) (rm : Room) (D : va_G) (k : tyK) (av : List Value) (W0 : va_W) (X : Option String) (r0 : Int32) (W1 : va_W) : Prop :=
  ∀ sz : Nat, vx_Met l y ws rm (va_Pc av (PcW D k W0 sz)) (va_Qi (fun r (_ : Unit) => X = none ∧ r = r0) (Bt D (fun _ => W1) (va_A W0 sz)) (va_A W0 sz)) (XB D X W1 (va_A W0 sz)) rm.cells rm.slots (va_A W0 sz)
def FOv (l : Launch) (y : MethodName) (ws : List Cond) (rm : Room) (D : va_G) (k : tyK) (av : List Value) (W0 : va_W) (X : Option String) (W1 : va_W) : Prop :=
  ∀ sz : Nat, vx_Met l y ws rm (va_Pc av (PcW D k W0 sz)) (va_Qv (fun (_ : Unit) => X = none) (Bt D (fun _ => W1) (va_A W0 sz)) (va_A W0 sz)) (XB D X W1 (va_A W0 sz)) rm.cells rm.slots (va_A W0 sz)
theorem fo_start {l : Launch} {D : va_G} {k : tyK} {y : MethodName} {cc : ByteArray} {maxL : Nat} {ret : Option FieldType} {ws ws' : List Cond} {rm : Room} {av : List Value} {W0 : va_W} {own : String} {Qc : (Nat → Prop) → Array Value → State → Outcome → State → Prop} {XC : (Nat → Prop) → String → State → State → Prop}
    (hy : plainName y.cls = true) (ho : y.cls = own) (hw : ws = Cond.code y cc maxL ret :: ws') (hn : (lg_sl av).length ≤ maxL)
    (body : ∀ (p : Program) (e : Env) (s : State) (m : MethodId) (below : List Frame) (meth : Method) (c : Code) (A : Nat → Prop) (H : Heap), p.tables.exec = Jvm.exec → c.code = cc → c.maxLocals = maxL → meth.sig.returnType = ret → (∀ w ∈ ws, w.before av.toArray s = true) → s.vm.findClass own = some m.cls → meth.locks = false → (∀ x ∈ c.exceptionTable.toList, False) → (∀ q : Nat, s.heap.size ≤ q → A q) → va_P D vwCl W0 H → GE D k A s → va_D A W0 → va_S A s.heap H [] → ∀ ls : Array Slot, lv_has ls maxL (lv_args 0 av) → W p l e rm s m av.toArray below meth c H [] 0 0 (vx_MQ below (Qc A) (XC A) av.toArray s rm.cells rm.slots A) (F0 m 0 ls [])) :
    ∀ sz : Nat, vx_Met l y ws rm (va_Pc av (PcW D k W0 sz)) (Qc (va_A W0 sz)) (XC (va_A W0 sz)) rm.cells rm.slots (va_A W0 sz) := by
  intro sz
  refine vx_ofW (cc := cc) (maxL := maxL) (ret := ret) hy hw ?_
  intro p e s m args below meth c s₁ B hml hout hv
  obtain ⟨rfl, hsz, hP, hE, hD0⟩ := hv
  have hts := atoms_spec (ws := ws) B.pre
  have hown : s.vm.findClass own = some m.cls := ho ▸ findClass_of_methodNamed B.named
  subst hsz
  rw [lg_entry_eq]
  exact body p e s m below meth c _ s.heap B.exec B.bytes hml B.returns hts hown B.notSynchronized hout (fun q h => Or.inr h) hP hE hD0.self va_S.rf _ (lv_entry av hn)
section TSruns2
variable {p : Program} {l : Launch} {e : Env} {R : Room} {s : State} {m : MethodId} {args : Array Value} {below : List Frame} {meth : Method} {c : Code} {H : Heap} {locs : List Loc} {cells slots : Nat} {Q : State → Prop} {D : va_G} {k : tyK} {A : Nat → Prop} {cc : ByteArray} {pc : Nat} {ls : Array Slot} {rest st0 : List Value} {a : Array Value} {mc ms : Nat} {ws wc : va_W} {lv : List (Nat × Value)}
theorem fo_iret {X : Option String} {r0 v : Int32} {W1 : va_W} {XC : String → State → State → Prop} {ty : FieldType} (hx : p.tables.exec = Jvm.exec) (hb : c.code = cc) (hr : meth.sig.returnType = some ty) (hn : narrow ty (.int v) = .int v) (hl : meth.locks = false) (hS : va_S A s.heap H locs) (hX : X = none) (hv : v = r0) (hP : va_P D vwCl W1 H) (hD : va_D A W1) (h1 : cells ≤ mc) (h2 : slots ≤ ms) (hdg : decode cc pc = .ok (.ireturn, 1)) :
    W p l e R s m args below meth c H locs cells slots (vx_MQ below (va_Qi (fun r (_ : Unit) => X = none ∧ r = r0) (Bt D (fun _ => W1) A) A) XC args s mc ms A) (F0 m pc ls [.int v]) :=
  vx_ret (fc_iret hx hb hr hn hl hS () ⟨hX, hv⟩ hP hD h1 h2 hdg)
theorem fo_vret {X : Option String} {W1 : va_W} {XC : String → State → State → Prop} (hx : p.tables.exec = Jvm.exec) (hb : c.code = cc) (hr : meth.sig.returnType = none) (hl : meth.locks = false) (hS : va_S A s.heap H locs) (hX : X = none) (hP : va_P D vwCl W1 H) (hD : va_D A W1) (h1 : cells ≤ mc) (h2 : slots ≤ ms) (hdg : decode cc pc = .ok (.return_, 1)) :
    W p l e R s m args below meth c H locs cells slots (vx_MQ below (va_Qv (fun (_ : Unit) => X = none) (Bt D (fun _ => W1) A) A) XC args s mc ms A) (F0 m pc ls []) :=
  vx_ret (fc_vret hx hb hr hl hS () hX hP hD h1 h2 hdg)
theorem fo_XB {X : Option String} {W1 : va_W} {E : String} {t : State} (hS : va_S A s.heap H locs) (hX : X = some E) (hP : va_P D vwCl W1 H) (hD : va_D A W1) (h1 : H.size ≤ t.heap.size) (h2 : ∀ q : Nat, q < H.size → t.heap[q]? = H[q]?) : XB D X W1 A E s t :=
  ⟨(), trivial, ⟨hX, hP.kept (fun j q hj => h2 q.1 (hP j q hj).lt), hD⟩, Nat.le_trans hS.1 h1, fun q hq hA => (h2 q (Nat.lt_of_lt_of_le hq hS.1)).trans (hS.2.1 q hq hA)⟩
/-- new E(text); throw: it leaves -/
theorem fo_throwW {X : Option String} {W1 : va_W} {Qc : Array Value → State → Outcome → State → Prop} (hl : l.stackTraces = false) (hx : p.tables.exec = Jvm.exec) (hb : c.code = cc) {own cls text : String} {names : List String} {ik is ic i nL : Nat} {byt : List Int32} {Ts B : List Cond} (hml : c.maxLocals = nL)
    (hown : s.vm.findClass own = some m.cls) (hE : GE D k A s) (hts : ∀ w ∈ Ts, w.before args s = true) (hcls : Bundle.fit cls = true) (hnames : ∀ n ∈ names, Bundle.fit n = true)
    (hk : Cond.classLink own ik cls ∈ Ts) (hini : Cond.initialized cls ∈ Ts) (hstr : STR[i]? = some (own, is, text, byt)) (h1 : ∀ w ∈ (vx_atS own ic cls names).filter goodWord, w ∈ Ts) (h2 : ∀ w ∈ (vx_atS own ic cls names).filter (fun w => !goodWord w), w ∈ exB cls) (h3 : ∀ w ∈ exB cls, w ∈ nestW ∧ w.onTables = true)
    (hgood : ∀ w ∈ Cond.classLink own ik cls :: Cond.initialized cls :: vx_atS own ic cls names, vx_ot w = true) (hlv : lv_has ls nL lv)
    (d0 : decode cc pc = .ok (.new ik, 3)) (d3 : decode cc (pc + 3) = .ok (.dup, 1)) (d4 : decode cc (pc + 4) = .ok (.ldc_w is, 3)) (d7 : decode cc (pc + 7) = .ok (.invokespecial ic, 3)) (d10 : decode cc (pc + 10) = .ok (.athrow, 1))
    (hout : ∀ x ∈ c.exceptionTable.toList, False)
    (hRf : names.length + 3 < R.frames) (hRl : (rest.map fun v => v.category).sum + (13 * (names.length + 1) + 43) ≤ R.locals) (hRc : cells + 1 ≤ R.cells) (hRs : slots + 6 ≤ R.slots) (hlocks : meth.locks = false)
    (hS : va_S A s.heap H locs) (hX : X = some cls) (hP : va_P D vwCl W1 H) (hD : va_D A W1) (hc : cells + 1 ≤ mc) (hs : slots + 6 ≤ ms) :
    W p l e R s m args below meth c H locs cells slots (vx_MQ below Qc (XB D X W1 A) args s mc ms A) (F0 m pc ls rest) := by
  obtain ⟨-, hN, hZ1, hZ2, hZ3, -⟩ := hE
  refine vx_throwSW hx hb hl hown hcls hnames (hts _ hk) (hts _ hini) (hZ1 i _ hstr).1 (vx_hat (fun w hw => hts w (h1 w hw)) h2 (fun w hw => ?_)) hgood hZ2 hZ3 hS (hlv.1.trans hml.symm) d0 d3 d4 d7 d10 (fun x hx => (hout x hx).elim) hRf hRl hRc hRs hlocks (fun t _ z1 z2 => fo_XB hS hX hP hD z1 z2) hS.2.2 hc hs
  exact va_Nw.use (h3 w hw).2 (hN _ (h3 w hw).1)
/-- the same with a short ldc -/
theorem fo_throwS {X : Option String} {W1 : va_W} {Qc : Array Value → State → Outcome → State → Prop} (hl : l.stackTraces = false) (hx : p.tables.exec = Jvm.exec) (hb : c.code = cc) {own cls text : String} {names : List String} {ik is ic i nL : Nat} {byt : List Int32} {Ts B : List Cond} (hml : c.maxLocals = nL)
    (hown : s.vm.findClass own = some m.cls) (hE : GE D k A s) (hts : ∀ w ∈ Ts, w.before args s = true) (hcls : Bundle.fit cls = true) (hnames : ∀ n ∈ names, Bundle.fit n = true)
    (hk : Cond.classLink own ik cls ∈ Ts) (hini : Cond.initialized cls ∈ Ts) (hstr : STR[i]? = some (own, is, text, byt)) (h1 : ∀ w ∈ (vx_atS own ic cls names).filter goodWord, w ∈ Ts) (h2 : ∀ w ∈ (vx_atS own ic cls names).filter (fun w => !goodWord w), w ∈ exB cls) (h3 : ∀ w ∈ exB cls, w ∈ nestW ∧ w.onTables = true)
    (hgood : ∀ w ∈ Cond.classLink own ik cls :: Cond.initialized cls :: vx_atS own ic cls names, vx_ot w = true) (hlv : lv_has ls nL lv)
    (d0 : decode cc pc = .ok (.new ik, 3)) (d3 : decode cc (pc + 3) = .ok (.dup, 1)) (d4 : decode cc (pc + 4) = .ok (.ldc is, 2)) (d6 : decode cc (pc + 6) = .ok (.invokespecial ic, 3)) (d9 : decode cc (pc + 9) = .ok (.athrow, 1))
    (hout : ∀ x ∈ c.exceptionTable.toList, False)
    (hRf : names.length + 3 < R.frames) (hRl : (rest.map fun v => v.category).sum + (13 * (names.length + 1) + 43) ≤ R.locals) (hRc : cells + 1 ≤ R.cells) (hRs : slots + 6 ≤ R.slots) (hlocks : meth.locks = false)
    (hS : va_S A s.heap H locs) (hX : X = some cls) (hP : va_P D vwCl W1 H) (hD : va_D A W1) (hc : cells + 1 ≤ mc) (hs : slots + 6 ≤ ms) :
    W p l e R s m args below meth c H locs cells slots (vx_MQ below Qc (XB D X W1 A) args s mc ms A) (F0 m pc ls rest) := by
  obtain ⟨-, hN, hZ1, hZ2, hZ3, -⟩ := hE
  refine vx_throwS hx hb hl hown hcls hnames (hts _ hk) (hts _ hini) (hZ1 i _ hstr).1 (vx_hat (fun w hw => hts w (h1 w hw)) h2 (fun w hw => ?_)) hgood hZ2 hZ3 hS (hlv.1.trans hml.symm) d0 d3 d4 d6 d9 (fun x hx => (hout x hx).elim) hRf hRl hRc hRs hlocks (fun t _ z1 z2 => fo_XB hS hX hP hD z1 z2) hS.2.2 hc hs
  exact va_Nw.use (h3 w hw).2 (hN _ (h3 w hw).1)
/-- what a callee threw leaves -/
theorem fo_out {X : Option String} {W1 : va_W} {Qc : Array Value → State → Outcome → State → Prop} {E : String} {ce : Cell} {q : Addr} (hout : ∀ x ∈ c.exceptionTable.toList, False) (hlocks : meth.locks = false) (hcell : H[q]? = some ce) (hv : ce.vm = .none) (hcl : s.vm.findClass E = some ce.cls) (hS : va_S A s.heap H locs) (hX : X = some E) (hP : va_P D vwCl W1 H) (hD : va_D A W1) (hc : cells ≤ mc) (hs : slots ≤ ms) :
    vx_W p l e R s m args below meth c H locs cells slots (vx_MQ below Qc (XB D X W1 A) args s mc ms A) (F0 m pc ls rest) q :=
  vx_out (fun x hx => (hout x hx).elim) hlocks hcell hv hcl (fun t ht _ => fo_XB hS hX hP hD (by rw [ht]; exact Nat.le_refl _) (fun q _ => by rw [ht])) hS.2.2 hc hs
/-- behind a call that may throw -/
theorem fo_ci {Xc : Option String} {rc : Int32} {W1 : va_W} {isC : List Nat} (hr : vx_Run p l e R s m args below meth c H locs cells slots mc ms (F0 m pc ls st0) rest (va_Qi (fun r (_ : Unit) => Xc = none ∧ r = rc) (Bt D (fun _ => W1) (va_A wc H.size)) (va_A wc H.size) a) (XB D Xc W1 (va_A wc H.size)) (va_A wc H.size)) (hP : va_P D vwCl ws H) (hD : va_D A ws) (hS : va_S A s.heap H locs) (hA : ∀ q : Nat, s.heap.size ≤ q → A q) (hC : isC.map (fun i => ws[i]?) = wc.map some) (hlen : isC.length = W1.length) {cells' slots' : Nat} (hcs : cells + mc = cells') (hss : slots + ms = slots')
    (kx : ∀ (E : String) (ce : Cell) (q9 : Addr) (H1 : Heap) (locs1 : List Loc), Xc = some E → va_P D vwCl (fs ws isC W1) H1 → va_D A (fs ws isC W1) → va_S A s.heap H1 locs1 → H1[q9]? = some ce → ce.vm = .none → s.vm.findClass E = some ce.cls → vx_W p l e R s m args below meth c H1 locs1 cells' slots' Q (F0 m pc ls rest) q9)
    (kk : ∀ (r : Int32) (H1 : Heap) (locs1 : List Loc), Xc = none → r = rc → va_P D vwCl (fs ws isC W1) H1 → va_D A (fs ws isC W1) → va_S A s.heap H1 locs1 → W p l e R s m args below meth c H1 locs1 cells' slots' Q (F0 m (pc + 3) ls (.int r :: rest))) : W p l e R s m args below meth c H locs cells slots Q (F0 m pc ls st0) := by
  subst hcs; subst hss
  have hF := va_free hD hS hA isC hC
  refine vx_calli hr hS (fun q _ h => hF q h) hF (fun q _ h => hF q h) (fun E ce q9 u t H1 locs1 ht _ _ hB _ hk hS1 g1 g2 g3 => ?_) (fun r u t H1 locs1 ht _ hp hB _ hk hS1 => ?_)
  · obtain ⟨hX, hP1, hD1⟩ := hB
    rw [ht] at hP1
    obtain ⟨hP2, hD2⟩ := fs_ok hP hD hC hlen hk hF hP1 hD1
    exact kx E ce q9 H1 locs1 hX hP2 hD2 hS1 g1 g2 g3
  · obtain ⟨hP1, hD1⟩ := hB
    rw [ht] at hP1
    obtain ⟨hP2, hD2⟩ := fs_ok hP hD hC hlen hk hF hP1 hD1
    exact kk r H1 locs1 hp.1 hp.2 hP2 hD2 hS1
theorem fo_cv {Xc : Option String} {W1 : va_W} {isC : List Nat} (hr : vx_Run p l e R s m args below meth c H locs cells slots mc ms (F0 m pc ls st0) rest (va_Qv (fun (_ : Unit) => Xc = none) (Bt D (fun _ => W1) (va_A wc H.size)) (va_A wc H.size) a) (XB D Xc W1 (va_A wc H.size)) (va_A wc H.size)) (hP : va_P D vwCl ws H) (hD : va_D A ws) (hS : va_S A s.heap H locs) (hA : ∀ q : Nat, s.heap.size ≤ q → A q) (hC : isC.map (fun i => ws[i]?) = wc.map some) (hlen : isC.length = W1.length) {cells' slots' : Nat} (hcs : cells + mc = cells') (hss : slots + ms = slots')
    (kx : ∀ (E : String) (ce : Cell) (q9 : Addr) (H1 : Heap) (locs1 : List Loc), Xc = some E → va_P D vwCl (fs ws isC W1) H1 → va_D A (fs ws isC W1) → va_S A s.heap H1 locs1 → H1[q9]? = some ce → ce.vm = .none → s.vm.findClass E = some ce.cls → vx_W p l e R s m args below meth c H1 locs1 cells' slots' Q (F0 m pc ls rest) q9)
    (kk : ∀ (H1 : Heap) (locs1 : List Loc), Xc = none → va_P D vwCl (fs ws isC W1) H1 → va_D A (fs ws isC W1) → va_S A s.heap H1 locs1 → W p l e R s m args below meth c H1 locs1 cells' slots' Q (F0 m (pc + 3) ls rest)) : W p l e R s m args below meth c H locs cells slots Q (F0 m pc ls st0) := by
  subst hcs; subst hss
  have hF := va_free hD hS hA isC hC
  refine vx_callv hr hS (fun q _ h => hF q h) hF (fun q _ h => hF q h) (fun E ce q9 u t H1 locs1 ht _ _ hB _ hk hS1 g1 g2 g3 => ?_) (fun u t H1 locs1 ht _ hp hB _ hk hS1 => ?_)
  · obtain ⟨hX, hP1, hD1⟩ := hB
    rw [ht] at hP1
    obtain ⟨hP2, hD2⟩ := fs_ok hP hD hC hlen hk hF hP1 hD1
    exact kx E ce q9 H1 locs1 hX hP2 hD2 hS1 g1 g2 g3
  · obtain ⟨hP1, hD1⟩ := hB
    rw [ht] at hP1
    obtain ⟨hP2, hD2⟩ := fs_ok hP hD hC hlen hk hF hP1 hD1
    exact kk H1 locs1 hp hP2 hD2 hS1
variable {Ts wsy ws' : List Cond} {own C : String} {index n nL maxL : Nat} {y : MethodName} {bytes : ByteArray} {ret : Option FieldType} {rm : Room} {Qc : Array Value → State → Outcome → State → Prop} {XC : String → State → State → Prop} {free : Addr → Prop} {b : Addr} {As : List Value}
theorem fo_runV {isC : List Nat} (S : CallFix p m c cc nL s args Ts own) (hM : vx_Met l y wsy rm (va_Pc (.ref b :: As) (PcW D k wc H.size)) Qc XC rm.cells rm.slots free) (hG : GoodIn Ts (wsV own index C y wsy)) (hw : wsy = Cond.code y bytes maxL ret :: ws') (hd : y.cls = C ∧ y.cls ≠ "java/lang/invoke/MethodHandle" ∧ y.cls ≠ "java/lang/invoke/VarHandle" ∧ (parseMethodDescriptor y.desc).map (fun d => d.parameters.length) = some n) (hn : As.length = n) (hR : rm.frames + 1 ≤ R.frames ∧ 8 + (maxL + 11) + rm.locals ≤ R.locals) (hf : cells + rm.cells ≤ R.cells ∧ slots + rm.slots ≤ R.slots) (hE : GE D k A s) (hP : va_P D vwCl ws H) (hD : va_D A ws) (hS : va_S A s.heap H locs) (hA : ∀ q : Nat, s.heap.size ≤ q → A q) (hC : isC.map (fun i => ws[i]?) = wc.map some) (hnd : va_nd isC = true) (hcell : ∃ cell : Cell, H[b]? = some cell ∧ cell.vm.isStatics = false ∧ s.vm.findClass C = some cell.cls) (hl : lv_has ls nL lv) (hstack : st0 = As.reverse ++ .ref b :: rest) (hst : (rest.map fun v => v.category).sum ≤ 8) (hdg : decode cc pc = .ok (.invokevirtual index, 3)) :
    vx_Run p l e R s m args below meth c H locs cells slots rm.cells rm.slots (F0 m pc ls st0) rest (Qc (Value.ref b :: As).toArray) XC free :=
  vx_runV S hM (cwV n S.2.2.2.2 hG hw rfl rfl hd hR) ⟨PcW_blind _, hcell, fc_pre hE hP hD hS hA hC hnd _⟩ rfl hn hl.1 hstack (lv_room hst) hdg hf
theorem fo_runS {isC : List Nat} (S : CallFix p m c cc nL s args Ts own) (hM : vx_Met l y wsy rm (va_Pc As (PcW D k wc H.size)) Qc XC rm.cells rm.slots free) (hG : GoodIn Ts (va_wsS own index y wsy)) (hw : wsy = Cond.code y bytes maxL ret :: ws') (hd : y.cls ≠ "java/lang/invoke/MethodHandle" ∧ y.cls ≠ "java/lang/invoke/VarHandle" ∧ (parseMethodDescriptor y.desc).map (fun d => d.parameters.length) = some n) (hn : As.length = n) (hR : rm.frames + 1 ≤ R.frames ∧ 8 + (maxL + 11) + rm.locals ≤ R.locals) (hf : cells + rm.cells ≤ R.cells ∧ slots + rm.slots ≤ R.slots) (hE : GE D k A s) (hP : va_P D vwCl ws H) (hD : va_D A ws) (hS : va_S A s.heap H locs) (hA : ∀ q : Nat, s.heap.size ≤ q → A q) (hC : isC.map (fun i => ws[i]?) = wc.map some) (hnd : va_nd isC = true) (hl : lv_has ls nL lv) (hstack : st0 = As.reverse ++ rest) (hst : (rest.map fun v => v.category).sum ≤ 8) (hdg : decode cc pc = .ok (.invokestatic index, 3)) :
    vx_Run p l e R s m args below meth c H locs cells slots rm.cells rm.slots (F0 m pc ls st0) rest (Qc As.toArray) XC free :=
  vx_runS S hM (va_cwS n S.2.2.2.2 hG hw rfl rfl hd hR) ⟨PcW_blind _, fc_pre hE hP hD hS hA hC hnd _⟩ rfl hn hl.1 hstack (lv_room hst) hdg hf
end TSruns2
end TSthrows
