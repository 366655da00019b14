/-! Answers that are doubles or floats, of methods that may throw. -/
section TSfloat
def FOd (l : Launch) (y : MethodName) (ws : List Cond) (rm : Room) (D : va_G) (k : tyK) (av : List Value) (W0 : va_W) (X : Option String) (r0 : UInt64) (W1 : va_W) : Prop :=
  ∀ sz : Nat, vx_Met l y ws rm (va_Pc av (PcW D k W0 sz)) (va_Qd (fun r (_ : Unit) => X = none ∧ r = r0) (Bt D (fun _ => W1) (va_A W0 sz)) (va_A W0 sz)) (XB D X W1 (va_A W0 sz)) rm.cells rm.slots (va_A W0 sz)
def FOf (l : Launch) (y : MethodName) (ws : List Cond) (rm : Room) (D : va_G) (k : tyK) (av : List Value) (W0 : va_W) (X : Option String) (r0 : UInt32) (W1 : va_W) : Prop :=
  ∀ sz : Nat, vx_Met l y ws rm (va_Pc av (PcW D k W0 sz)) (va_Qf (fun r (_ : Unit) => X = none ∧ r = r0) (Bt D (fun _ => W1) (va_A W0 sz)) (va_A W0 sz)) (XB D X W1 (va_A W0 sz)) rm.cells rm.slots (va_A W0 sz)
variable {p : Program} {l : Launch} {e : Env} {R : Room} {s : State} {m : MethodId} {args : Array Value} {below : List Frame} {meth : Method} {c : Code} {H : Heap} {locs : List Loc} {cells slots : Nat} {D : va_G} {A : Nat → Prop} {cc : ByteArray} {pc : Nat} {ls : Array Slot} {mc ms : Nat}
theorem fo_dret {X : Option String} {r0 v : UInt64} {W1 : va_W} {XC : String → State → State → Prop} (hx : p.tables.exec = Jvm.exec) (hb : c.code = cc) (hr : meth.sig.returnType = some .double) (hl : meth.locks = false) (hS : va_S A s.heap H locs) (hX : X = none) (hv : v = r0) (hP : va_P D vwCl W1 H) (hD : va_D A W1) (h1 : cells ≤ mc) (h2 : slots ≤ ms) (hdg : decode cc pc = .ok (.dreturn, 1)) :
    W p l e R s m args below meth c H locs cells slots (vx_MQ below (va_Qd (fun r (_ : Unit) => X = none ∧ r = r0) (Bt D (fun _ => W1) A) A) XC args s mc ms A) (F0 m pc ls [.double v]) :=
  vx_ret (W.widen h1 h2 (W.dret hx hb hr (fun t ht _ => ⟨⟨v, (), rfl, ⟨hX, hv⟩, by rw [Bt, ht]; exact ⟨hP, hD⟩⟩, hS.F ht⟩) hS.2.2 hdg hl))
theorem fo_fret {X : Option String} {r0 v : UInt32} {W1 : va_W} {XC : String → State → State → Prop} (hx : p.tables.exec = Jvm.exec) (hb : c.code = cc) (hr : meth.sig.returnType = some .float) (hl : meth.locks = false) (hS : va_S A s.heap H locs) (hX : X = none) (hv : v = r0) (hP : va_P D vwCl W1 H) (hD : va_D A W1) (h1 : cells ≤ mc) (h2 : slots ≤ ms) (hdg : decode cc pc = .ok (.freturn, 1)) :
    W p l e R s m args below meth c H locs cells slots (vx_MQ below (va_Qf (fun r (_ : Unit) => X = none ∧ r = r0) (Bt D (fun _ => W1) A) A) XC args s mc ms A) (F0 m pc ls [.float v]) :=
  vx_ret (W.widen h1 h2 (W.fret hx hb hr (fun t ht _ => ⟨⟨v, (), rfl, ⟨hX, hv⟩, by rw [Bt, ht]; exact ⟨hP, hD⟩⟩, hS.F ht⟩) hS.2.2 hdg hl))
end TSfloat
