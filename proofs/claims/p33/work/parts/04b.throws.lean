/-! Throws of an exception whose constructor hands on by another entry. -/
section TSthrowsY
variable {p : Program} {l : Launch} {e : Env} {R : Room} {s : State} {m : MethodId} {args : Array Value} {below : List Frame} {meth : Method} {c : Code} {H : Heap} {locs : List Loc} {cells slots : Nat} {Q : State → Prop} {D : va_G} {k : tyK} {A : Nat → Prop} {cc : ByteArray} {pc : Nat} {ls : Array Slot} {rest st0 : List Value} {a : Array Value} {mc ms : Nat} {ws wc : va_W} {lv : List (Nat × Value)}
/-- new E(text); throw: it leaves -/
theorem fo_throwWy {X : Option String} {W1 : va_W} {Qc : Array Value → State → Outcome → State → Prop} (hl : l.stackTraces = false) (hx : p.tables.exec = Jvm.exec) (hb : c.code = cc) {own cls text : String} {Y : String} {r : List String} {ix : Nat} {rx : ByteArray} {ik is ic i nL : Nat} {byt : List Int32} {Ts B : List Cond} (hml : c.maxLocals = nL)
    (hown : s.vm.findClass own = some m.cls) (hE : GE D k A s) (hts : ∀ w ∈ Ts, w.before args s = true) (hcls : Bundle.fit cls = true) (hY : Bundle.fit Y = true) (hnr : ∀ n ∈ r, Bundle.fit n = true) (x0 : decode rx 0 = .ok (.aload_n 0, 1)) (x1 : decode rx 1 = .ok (.aload_n 1, 1)) (x2 : decode rx 2 = .ok (.invokespecial ix, 3)) (x5 : decode rx 5 = .ok (.return_, 1))
    (hk : Cond.classLink own ik cls ∈ Ts) (hini : Cond.initialized cls ∈ Ts) (hstr : STR[i]? = some (own, is, text, byt)) (h1 : ∀ w ∈ (vy_atS own ic cls Y ix rx r).filter goodWord, w ∈ Ts) (h2 : ∀ w ∈ (vy_atS own ic cls Y ix rx r).filter (fun w => !goodWord w), w ∈ exB cls) (h3 : ∀ w ∈ exB cls, w ∈ nestW ∧ w.onTables = true)
    (hgood : ∀ w ∈ Cond.classLink own ik cls :: Cond.initialized cls :: vy_atS own ic cls Y ix rx r, vx_ot w = true) (hlv : lv_has ls nL lv)
    (d0 : decode cc pc = .ok (.new ik, 3)) (d3 : decode cc (pc + 3) = .ok (.dup, 1)) (d4 : decode cc (pc + 4) = .ok (.ldc_w is, 3)) (d7 : decode cc (pc + 7) = .ok (.invokespecial ic, 3)) (d10 : decode cc (pc + 10) = .ok (.athrow, 1))
    (hout : ∀ x ∈ c.exceptionTable.toList, False)
    (hRf : r.length + 1 + 3 < R.frames) (hRl : (rest.map fun v => v.category).sum + (13 * (r.length + 1 + 1) + 43) ≤ R.locals) (hRc : cells + 1 ≤ R.cells) (hRs : slots + 6 ≤ R.slots) (hlocks : meth.locks = false)
    (hS : va_S A s.heap H locs) (hX : X = some cls) (hP : va_P D vwCl W1 H) (hD : va_D A W1) (hc : cells + 1 ≤ mc) (hs : slots + 6 ≤ ms) :
    W p l e R s m args below meth c H locs cells slots (vx_MQ below Qc (XB D X W1 A) args s mc ms A) (F0 m pc ls rest) := by
  obtain ⟨-, hN, hZ1, hZ2, hZ3, -⟩ := hE
  refine vy_throwSW hx hb hl hown hcls hY hnr x0 x1 x2 x5 (hts _ hk) (hts _ hini) (hZ1 i _ hstr).1 (vx_hat (fun w hw => hts w (h1 w hw)) h2 (fun w hw => ?_)) hgood hZ2 hZ3 hS (hlv.1.trans hml.symm) d0 d3 d4 d7 d10 (fun x hx => (hout x hx).elim) hRf hRl hRc hRs hlocks (fun t _ z1 z2 => fo_XB hS hX hP hD z1 z2) hS.2.2 hc hs
  exact va_Nw.use (h3 w hw).2 (hN _ (h3 w hw).1)
/-- the same with a short ldc -/
theorem fo_throwSy {X : Option String} {W1 : va_W} {Qc : Array Value → State → Outcome → State → Prop} (hl : l.stackTraces = false) (hx : p.tables.exec = Jvm.exec) (hb : c.code = cc) {own cls text : String} {Y : String} {r : List String} {ix : Nat} {rx : ByteArray} {ik is ic i nL : Nat} {byt : List Int32} {Ts B : List Cond} (hml : c.maxLocals = nL)
    (hown : s.vm.findClass own = some m.cls) (hE : GE D k A s) (hts : ∀ w ∈ Ts, w.before args s = true) (hcls : Bundle.fit cls = true) (hY : Bundle.fit Y = true) (hnr : ∀ n ∈ r, Bundle.fit n = true) (x0 : decode rx 0 = .ok (.aload_n 0, 1)) (x1 : decode rx 1 = .ok (.aload_n 1, 1)) (x2 : decode rx 2 = .ok (.invokespecial ix, 3)) (x5 : decode rx 5 = .ok (.return_, 1))
    (hk : Cond.classLink own ik cls ∈ Ts) (hini : Cond.initialized cls ∈ Ts) (hstr : STR[i]? = some (own, is, text, byt)) (h1 : ∀ w ∈ (vy_atS own ic cls Y ix rx r).filter goodWord, w ∈ Ts) (h2 : ∀ w ∈ (vy_atS own ic cls Y ix rx r).filter (fun w => !goodWord w), w ∈ exB cls) (h3 : ∀ w ∈ exB cls, w ∈ nestW ∧ w.onTables = true)
    (hgood : ∀ w ∈ Cond.classLink own ik cls :: Cond.initialized cls :: vy_atS own ic cls Y ix rx r, vx_ot w = true) (hlv : lv_has ls nL lv)
    (d0 : decode cc pc = .ok (.new ik, 3)) (d3 : decode cc (pc + 3) = .ok (.dup, 1)) (d4 : decode cc (pc + 4) = .ok (.ldc is, 2)) (d6 : decode cc (pc + 6) = .ok (.invokespecial ic, 3)) (d9 : decode cc (pc + 9) = .ok (.athrow, 1))
    (hout : ∀ x ∈ c.exceptionTable.toList, False)
    (hRf : r.length + 1 + 3 < R.frames) (hRl : (rest.map fun v => v.category).sum + (13 * (r.length + 1 + 1) + 43) ≤ R.locals) (hRc : cells + 1 ≤ R.cells) (hRs : slots + 6 ≤ R.slots) (hlocks : meth.locks = false)
    (hS : va_S A s.heap H locs) (hX : X = some cls) (hP : va_P D vwCl W1 H) (hD : va_D A W1) (hc : cells + 1 ≤ mc) (hs : slots + 6 ≤ ms) :
    W p l e R s m args below meth c H locs cells slots (vx_MQ below Qc (XB D X W1 A) args s mc ms A) (F0 m pc ls rest) := by
  obtain ⟨-, hN, hZ1, hZ2, hZ3, -⟩ := hE
  refine vy_throwS hx hb hl hown hcls hY hnr x0 x1 x2 x5 (hts _ hk) (hts _ hini) (hZ1 i _ hstr).1 (vx_hat (fun w hw => hts w (h1 w hw)) h2 (fun w hw => ?_)) hgood hZ2 hZ3 hS (hlv.1.trans hml.symm) d0 d3 d4 d6 d9 (fun x hx => (hout x hx).elim) hRf hRl hRc hRs hlocks (fun t _ z1 z2 => fo_XB hS hX hP hD z1 z2) hS.2.2 hc hs
  exact va_Nw.use (h3 w hw).2 (hN _ (h3 w hw).1)
end TSthrowsY
