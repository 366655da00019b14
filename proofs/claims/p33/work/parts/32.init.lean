/-! Calls of constructors: plain and of a nest mate. -/
section TSinit
variable {p : Program} {l : Launch} {e : Env} {R : Room} {s : State} {m : MethodId} {args : Array Value} {below : List Frame} {meth : Method} {c : Code} {H : Heap} {locs : List Loc} {cells slots : Nat} {D : va_G} {k : tyK} {A : Nat → Prop} {cc : ByteArray} {pc : Nat} {ls : Array Slot} {rest st0 : List Value} {ws wc : va_W} {lv : List (Nat × Value)}
  {Ts wsy ws' : List Cond} {own : String} {index n nL maxL : Nat} {y : MethodName} {bytes : ByteArray} {rm : Room} {Qc : Array Value → State → Outcome → State → Prop} {free : Addr → Prop} {b : Addr} {As : List Value}
theorem fc_runI {isC : List Nat} (S : CallFix p m c cc nL s args Ts own) (hM : Met l y wsy rm (va_Pc (.ref b :: As) (PcW D k wc H.size)) Qc rm.cells rm.slots free) (hG : GoodIn Ts wsy) (hlk : Cond.methodLink own index y ∈ Ts) (hins : Cond.instanceMethod y ∈ Ts) (hini : Cond.initialized y.cls ∈ Ts) (hw : wsy = Cond.code y bytes maxL none :: ws') (hy1 : y.name = "<init>") (hd : y.cls ≠ "java/lang/invoke/MethodHandle" ∧ y.cls ≠ "java/lang/invoke/VarHandle" ∧ (parseMethodDescriptor y.desc).map (fun d => d.parameters.length) = some n) (hn : As.length = n) (hR : rm.frames + 1 ≤ R.frames ∧ 8 + (maxL + 11) + rm.locals ≤ R.locals) (hf : cells + rm.cells ≤ R.cells ∧ slots + rm.slots ≤ R.slots) (hE : GE D k A s) (hP : va_P D vwCl ws H) (hD : va_D A ws) (hS : va_S A s.heap H locs) (hA : ∀ q : Nat, s.heap.size ≤ q → A q) (hC : isC.map (fun i => ws[i]?) = wc.map some) (hnd : va_nd isC = true) (hl : lv_has ls nL lv) (hstack : st0 = As.reverse ++ .ref b :: rest) (hst : (rest.map fun v => v.category).sum ≤ 8) (hdg : decode cc pc = .ok (.invokespecial index, 3)) :
    va_Run p l e R s m args below meth c H locs cells slots rm.cells rm.slots (F0 m pc ls st0) rest (Qc (Value.ref b :: As).toArray) free :=
  va_runI S hM (cwI n S.2.2.2.2 hG hw rfl rfl (S.2.2.2.2 _ hini) (S.2.2.2.2 _ hlk) (S.2.2.2.2 _ hins) hy1 hd hR) ⟨PcW_blind _, fc_pre hE hP hD hS hA hC hnd _⟩ rfl hn hl.1 hstack (lv_room hst) hdg hf
theorem fc_runIN {isC : List Nat} (S : CallFix p m c cc nL s args Ts own) (hM : Met l y wsy rm (va_Pc (.ref b :: As) (PcW D k wc H.size)) Qc rm.cells rm.slots free) (hG : GoodIn Ts wsy) (hnw : Cond.methodLinkNest own index y "TheatreSaga" ∈ nestW) (hins : Cond.instanceMethod y ∈ Ts) (hini : Cond.initialized y.cls ∈ Ts) (hw : wsy = Cond.code y bytes maxL none :: ws') (hy1 : y.name = "<init>") (hd : y.cls ≠ "java/lang/invoke/MethodHandle" ∧ y.cls ≠ "java/lang/invoke/VarHandle" ∧ (parseMethodDescriptor y.desc).map (fun d => d.parameters.length) = some n) (hn : As.length = n) (hR : rm.frames + 1 ≤ R.frames ∧ 8 + (maxL + 11) + rm.locals ≤ R.locals) (hf : cells + rm.cells ≤ R.cells ∧ slots + rm.slots ≤ R.slots) (hE : GE D k A s) (hP : va_P D vwCl ws H) (hD : va_D A ws) (hS : va_S A s.heap H locs) (hA : ∀ q : Nat, s.heap.size ≤ q → A q) (hC : isC.map (fun i => ws[i]?) = wc.map some) (hnd : va_nd isC = true) (hl : lv_has ls nL lv) (hstack : st0 = As.reverse ++ .ref b :: rest) (hst : (rest.map fun v => v.category).sum ≤ 8) (hdg : decode cc pc = .ok (.invokespecial index, 3)) :
    va_Run p l e R s m args below meth c H locs cells slots rm.cells rm.slots (F0 m pc ls st0) rest (Qc (Value.ref b :: As).toArray) free :=
  va_runIN S hM ⟨va_cnB n S.2.2.2.2 hG hw rfl rfl (hE.2.1 _ hnw) (S.2.2.2.2 _ hini) hd hR, hy1, S.2.2.2.2 _ hins⟩ ⟨PcW_blind _, fc_pre hE hP hD hS hA hC hnd _⟩ rfl hn hl.1 hstack (lv_room hst) hdg hf
/-- behind a constructor that made more cells: they stand at the end -/
theorem fc_cvN {S : Type} {post : S → Prop} {W1 : S → va_W} {wr : va_W} {Q : State → Prop} {a : Array Value} {mc ms : Nat} (isC isR : List Nat) (hr : va_Run p l e R s m args below meth c H locs cells slots mc ms (F0 m pc ls st0) rest (va_Qv post (Bt D W1 (va_A wc H.size)) (va_A wc H.size) a) (va_A wc H.size)) (hP : va_P D vwCl ws H) (hD : va_D A ws) (hS : va_S A s.heap H locs) (hA : ∀ q : Nat, s.heap.size ≤ q → A q) (hC : isC.map (fun i => ws[i]?) = wc.map some) (hR : isR.map (fun i => ws[i]?) = wr.map some) (hn : va_nd isR = true) (hdis : ∀ i ∈ isR, i ∉ isC) {cells' slots' : Nat} (hcs : cells + mc = cells') (hss : slots + ms = slots')
    (kk : ∀ (u : S) (H1 : Heap) (locs1 : List Loc), post u → va_P D vwCl (wr ++ W1 u) H1 → va_D A (wr ++ W1 u) → va_S A s.heap H1 locs1 → W p l e R s m args below meth c H1 locs1 cells' slots' Q (F0 m (pc + 3) ls rest)) : W p l e R s m args below meth c H locs cells slots Q (F0 m pc ls st0) := by
  subst hcs; subst hss
  have hF := va_free hD hS hA isC hC
  refine va_callv hr hS (fun q _ h => hF q h) hF (fun u t H1 locs1 ht _ hp hB _ hk hS1 => ?_)
  obtain ⟨hP1, hD1⟩ := hB
  rw [ht] at hP1
  obtain ⟨hP2, hD2⟩ := va_join hP hD isC isR hC hR hn hdis hk hF hP1 hD1
  exact kk u H1 locs1 hp hP2 hD2 hS1
end TSinit
section TStheatre
abbrev rm_X5_init : Room := { frames := 2, cells := 2, slots := 629, locals := 100 }
theorem in_X5_init_X5 : ∀ w ∈ wsX50, w ∈ wsX5_init := by decide +kernel
theorem in_X5_init_X0 : ∀ w ∈ wsX00, w ∈ wsX5_init := by decide +kernel
set_option maxHeartbeats 4000000 in
set_option maxRecDepth 100000 in
theorem c_X5_init {l : Launch} {D : va_G} {k : tyK} (t : Nat) : FCv l yX5_init wsX5_init rm_X5_init D k [.ref t] [(t, .inr (9, [.null]))] (fun (_ : Nat × Nat) => True) (fun u => [(t, .inr (9, [.ref u.1])), (u.1, .inr (4, [.ref u.2])), (u.2, .inl (k.1, 628, .inl (F_X0_init (fun _ => 0))))]) := by
  refine fc_start (cc := cX5_init) (maxL := 1) (ret := none) (own := RX5) (Qc := fun A => va_Qv (fun (_ : Nat × Nat) => True) (Bt D (fun u => [(t, .inr (9, [.ref u.1])), (u.1, .inr (4, [.ref u.2])), (u.2, .inl (k.1, 628, .inl (F_X0_init (fun _ => 0))))]) A) A) (by decide) rfl rfl (Nat.le_of_ble_eq_true rfl) ?_
  intro p e s m below meth c A H hx hb hml hr hts hown hlk hname hA hP hE hD hS ls hl
  have hl : lv_has ls 1 [(0, .ref t)] := hl
  obtain ⟨locs, hlocs⟩ : ∃ z : List Loc, z = [] := ⟨_, rfl⟩
  rw [← hlocs] at hS ⊢
  refine lv_aload_n hx hb dX5_init_0 rfl (lv_at hl 0 rfl) ?_
  refine W.objInit hx hb hown (hts (.methodLink RX5 3 objectInit) (by decide +kernel)) (hts (.instanceMethod objectInit) (by decide +kernel)) (hts (.code objectInit ⟨#[0xb1]⟩ 1 none) (by decide +kernel)) rfl (by rw [hml]; exact hl.1) rfl dX5_init_1 (Nat.le_of_ble_eq_true rfl) (Nat.le_of_ble_eq_true rfl) ?_
  refine lv_aload_n hx hb dX5_init_4 rfl (lv_at hl 0 rfl) ?_
  refine va_new (ci := 4) (fs := [.null]) (C := RX0) (T := TX0) (N := 1) hx hb hts in_X5_init_X0 tyX0 tyX0_ok hown (hts (.classLink RX5 9 RX0) (by decide +kernel)) (hts (.instantiable RX0 1) (by decide +kernel)) (hts (.initialized RX0) (by decide +kernel)) hE.1 hP hD hS hA rfl (fun j hj => by rcases (show j = 0 by omega) with rfl; rfl) (by decide) (by decide) dX5_init_5 (fun b H hP hD hS => ?_)
  have hP : va_P D vwCl [(t, .inr (9, [.null])), (b, .inr (4, [.null]))] H := hP
  have hD : va_D A [(t, .inr (9, [.null])), (b, .inr (4, [.null]))] := hD
  refine lv_dup hx hb dX5_init_8 rfl ?_
  refine fc_cvN (cells' := 2) (slots' := 629) [1] [0] (wr := [(t, .inr (9, [.null]))]) (fc_runI (n := 0) (As := []) (rest := [.ref b, .ref t]) (isC := [1]) (maxL := 3) ⟨hx, hb, hml, hown, hts⟩ (c_X0_init b H.size) gX5_init_X0_init (by decide +kernel) (by decide +kernel) (by decide +kernel) rfl rfl (by decide +kernel) rfl ⟨Nat.le_of_ble_eq_true rfl, Nat.le_of_ble_eq_true rfl⟩ ⟨Nat.le_of_ble_eq_true rfl, Nat.le_of_ble_eq_true rfl⟩ hE hP hD hS hA rfl rfl hl rfl (Nat.le_of_ble_eq_true rfl) dX5_init_9) hP hD hS hA rfl rfl (by decide) (by decide) rfl rfl (fun u H locs _ hP hD hS => ?_)
  have hP : va_P D vwCl [(t, .inr (9, [.null])), (b, .inr (4, [.ref u])), (u, .inl (k.1, 628, .inl (F_X0_init (fun _ => 0))))] H := hP
  have hD : va_D A [(t, .inr (9, [.null])), (b, .inr (4, [.ref u])), (u, .inl (k.1, 628, .inl (F_X0_init (fun _ => 0))))] := hD
  refine va_putF (D := D) (ci := 9) (v := .ref b) (ty := (.object "TheatreSaga$Books")) (C := RX5) (T := TX5) (N := 1) hx hb hts in_X5_init_X5 tyX5 tyX5_ok nmX5 hown hE.1 hP hD hS 0 rfl rfl 0 (by decide) (hts (.fieldLink RX5 12 "TheatreSaga$Theatre" "books" "LTheatreSaga$Books;") (by decide +kernel)) (fun _ h9 => h9) rfl (hname.trans rfl) rfl (by decide +kernel) rfl rfl (Nat.le_of_ble_eq_true rfl) dX5_init_12 (fun H locs hP hD hS => ?_)
  exact fc_vret hx hb hr hlk hS (b, u) trivial hP hD (by decide) (by decide) dX5_init_15
end TStheatre
