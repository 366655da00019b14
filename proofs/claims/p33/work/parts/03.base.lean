/-! THE GROUND OF ALL CONTRACTS: what holds of the tables at every place (GE), a contract's form (FC..), the call rows (fc_..). -/
section TSbase
/-- the links among nest mates -/
def nestW : List Cond := [.fieldLinkNest RX6 16 "TheatreSaga$Theatre" "books" "LTheatreSaga$Books;" "TheatreSaga", .methodLinkNest RX6 11 yX5_init "TheatreSaga", .methodLinkNest RX6 26 yX2_init "TheatreSaga", .methodLinkNest RX6 53 yX4_init "TheatreSaga", .methodLinkNest RX6 60 yX3_init "TheatreSaga", .methodLinkNest RX0 19 yX6_ofTown "TheatreSaga", .methodLinkNest RX0 23 yX6_ofLeft "TheatreSaga", .methodLinkNest RX0 27 yX6_mostOf "TheatreSaga", .methodLinkNest RX1 25 yX6_isBelow "TheatreSaga", .methodLinkNest RX2 18 yX6_isWithin "TheatreSaga", .methodLinkNest RX2 36 yX6_isBelow "TheatreSaga", .methodLinkNest RX2 40 yX6_mostOf "TheatreSaga", .methodLinkNest RX2 43 yX6_ofTour "TheatreSaga", .methodLinkNest RX2 46 yX6_findStep "TheatreSaga", .methodLinkNest RX2 50 yX6_ofTown "TheatreSaga", .methodLinkNest RX3 22 yX6_isBelow "TheatreSaga", .methodLinkNest RX3 38 yX6_ofTour "TheatreSaga", .methodLinkNest RX3 58 yX6_ofStep "TheatreSaga", .methodLinkNest RX4 40 yX6_isBelow "TheatreSaga", .methodLinkNest RX4 74 yX6_wordOf "TheatreSaga", .methodLinkNest RX5 100 yX6_findStep "TheatreSaga", .methodLinkNest RX5 22 yX6_ofTour "TheatreSaga", .methodLinkNest RX5 33 yX6_ofStep "TheatreSaga", .methodLinkNest RX5 44 yX6_ofTown "TheatreSaga", .methodLinkNest RX5 83 yX6_ofLeft "TheatreSaga", .methodLinkNest RX5 91 yX6_coinsOf "TheatreSaga", .methodLinkNest RX5 97 yX6_mostOf "TheatreSaga", .castable "java/lang/IndexOutOfBoundsException" "java/lang/IndexOutOfBoundsException", .castable "java/lang/IllegalArgumentException" "java/lang/IllegalArgumentException", .castable "java/lang/UnsupportedOperationException" "java/lang/UnsupportedOperationException", .castable "java/util/NoSuchElementException" "java/util/NoSuchElementException", .castable "java/lang/IllegalStateException" "java/lang/IllegalStateException", .castable "java/lang/ArithmeticException" "java/lang/ArithmeticException", .declares (Bundle.initS "java/lang/RuntimeException"), .declares (Bundle.initS "java/lang/Exception"), .declares (Bundle.initS Bundle.tN), .classLink RL 13 "java/lang/IllegalArgumentException", .classLink RL 15 "java/lang/UnsupportedOperationException", .classLink RL 21 "java/lang/IndexOutOfBoundsException", .classLink RL 59 "java/util/NoSuchElementException", .classLink RL 87 "java/lang/ArithmeticException", .classLink RL 100 "java/lang/IllegalStateException"]
def isNest : Cond → Bool
  | .fieldLinkNest .. => true
  | .methodLinkNest .. => true
  | .castable .. => true
  | .declares .. => true
  | .classLink .. => true
  | _ => false
theorem isNest_tab {w : Cond} (h : isNest w = true) : w.onTables = true := by
  cases w <;> first | rfl | (exact absurd h (by simp [isNest]))
theorem isNest_warm {w : Cond} (h : isNest w = true) {s U : State} (hW : s.WarmedH U.vm) (hZ : va_Nw w s) : va_Nw w U := by
  cases w <;> first | exact va_Nw.warmF hW hZ | exact va_Nw.warmM hW hZ | exact va_Nw.warmC hW hZ | exact va_Nw.warmD hW hZ | exact va_tabs rfl (rfl : (s.setVm U.vm).vm = U.vm) (Cond.onTables_warm (T := s) (args' := #[]) hW rfl rfl hZ) | (exact absurd h (by simp [isNest]))
theorem nestW_ok : nestW.all isNest = true := rfl
def NW (U : State) : Prop := ∀ w ∈ nestW, va_Nw w U
theorem NW.same {u U : State} (h : u.vm = U.vm) (hZ : NW u) : NW U := fun w hw => va_Nw.same (isNest_tab (List.all_eq_true.mp nestW_ok w hw)) h (hZ w hw)
theorem NW.warm {s U : State} (hW : s.WarmedH U.vm) (hZ : NW s) : NW U := fun w hw => isNest_warm (List.all_eq_true.mp nestW_ok w hw) hW (hZ w hw)
/-- exceptions that another one's handler passes by -/
def ncW : List (String × String) := [("java/lang/UnsupportedOperationException", "java/lang/IllegalArgumentException"), ("java/lang/IllegalArgumentException", "java/lang/IndexOutOfBoundsException"), ("java/lang/UnsupportedOperationException", "java/lang/IndexOutOfBoundsException"), ("java/util/NoSuchElementException", "java/lang/IndexOutOfBoundsException"), ("java/util/NoSuchElementException", "java/lang/IllegalArgumentException")]
/-- the String constants: class, place, text, bytes -/
def STR : List (String × Nat × String × List Int32) := [(RX6, 159, "the tour neither runs nor goes back", [116, 104, 101, 32, 116, 111, 117, 114, 32, 110, 101, 105, 116, 104, 101, 114, 32, 114, 117, 110, 115, 32, 110, 111, 114, 32, 103, 111, 101, 115, 32, 98, 97, 99, 107]), (RX6, 167, "the tour is planned", [116, 104, 101, 32, 116, 111, 117, 114, 32, 105, 115, 32, 112, 108, 97, 110, 110, 101, 100]), (RX6, 175, "the tour does not end within the hours that are looked at", [116, 104, 101, 32, 116, 111, 117, 114, 32, 100, 111, 101, 115, 32, 110, 111, 116, 32, 101, 110, 100, 32, 119, 105, 116, 104, 105, 110, 32, 116, 104, 101, 32, 104, 111, 117, 114, 115, 32, 116, 104, 97, 116, 32, 97, 114, 101, 32, 108, 111, 111, 107, 101, 100, 32, 97, 116]), (RX6, 183, "there is no such town", [116, 104, 101, 114, 101, 32, 105, 115, 32, 110, 111, 32, 115, 117, 99, 104, 32, 116, 111, 119, 110]), (RX6, 188, "there is no such place", [116, 104, 101, 114, 101, 32, 105, 115, 32, 110, 111, 32, 115, 117, 99, 104, 32, 112, 108, 97, 99, 101]), (RX6, 217, "there are no tours", [116, 104, 101, 114, 101, 32, 97, 114, 101, 32, 110, 111, 32, 116, 111, 117, 114, 115]), (RX6, 220, "there were no tries", [116, 104, 101, 114, 101, 32, 119, 101, 114, 101, 32, 110, 111, 32, 116, 114, 105, 101, 115]), (RX6, 224, "the input is full", [116, 104, 101, 32, 105, 110, 112, 117, 116, 32, 105, 115, 32, 102, 117, 108, 108]), (RX6, 239, "the input is no text", [116, 104, 101, 32, 105, 110, 112, 117, 116, 32, 105, 115, 32, 110, 111, 32, 116, 101, 120, 116]), (RX6, 254, "a command is refused", [97, 32, 99, 111, 109, 109, 97, 110, 100, 32, 105, 115, 32, 114, 101, 102, 117, 115, 101, 100]), (RX6, 264, "no fault position was kept", [110, 111, 32, 102, 97, 117, 108, 116, 32, 112, 111, 115, 105, 116, 105, 111, 110, 32, 119, 97, 115, 32, 107, 101, 112, 116]), (RX6, 269, "nothing was refused", [110, 111, 116, 104, 105, 110, 103, 32, 119, 97, 115, 32, 114, 101, 102, 117, 115, 101, 100]), (RX6, 274, "there is no change that can be undone", [116, 104, 101, 114, 101, 32, 105, 115, 32, 110, 111, 32, 99, 104, 97, 110, 103, 101, 32, 116, 104, 97, 116, 32, 99, 97, 110, 32, 98, 101, 32, 117, 110, 100, 111, 110, 101]), (RX6, 279, "there is no snapshot", [116, 104, 101, 114, 101, 32, 105, 115, 32, 110, 111, 32, 115, 110, 97, 112, 115, 104, 111, 116]), (RX6, 290, "there is no such thing", [116, 104, 101, 114, 101, 32, 105, 115, 32, 110, 111, 32, 115, 117, 99, 104, 32, 116, 104, 105, 110, 103]), (RX6, 297, "the number is out of range", [116, 104, 101, 32, 110, 117, 109, 98, 101, 114, 32, 105, 115, 32, 111, 117, 116, 32, 111, 102, 32, 114, 97, 110, 103, 101]), (RX6, 299, "it is refused", [105, 116, 32, 105, 115, 32, 114, 101, 102, 117, 115, 101, 100]), (RX6, 325, "tour ", [116, 111, 117, 114, 32]), (RX6, 327, "hall ", [104, 97, 108, 108, 32]), (RX6, 329, "wagons ", [119, 97, 103, 111, 110, 115, 32]), (RX6, 331, "beds ", [98, 101, 100, 115, 32]), (RX6, 333, "start ", [115, 116, 97, 114, 116, 32]), (RX6, 335, "back ", [98, 97, 99, 107, 32]), (RX6, 337, "shut ", [115, 104, 117, 116, 32]), (RX6, 339, "open ", [111, 112, 101, 110, 32]), (RX6, 341, "hours ", [104, 111, 117, 114, 115, 32]), (RL, 216, "tour ", [116, 111, 117, 114, 32]), (RL, 225, ";hours ", [59, 104, 111, 117, 114, 115, 32]), (RL, 231, "shut ", [115, 104, 117, 116, 32]), (RL, 233, ";back ", [59, 98, 97, 99, 107, 32]), (RL, 235, ";hours 1", [59, 104, 111, 117, 114, 115, 32, 49]), (RL, 249, "q", [113]), (RL, 253, "hours 1;hours 0", [104, 111, 117, 114, 115, 32, 49, 59, 104, 111, 117, 114, 115, 32, 48]), (RL, 255, "shut 4;hours 9;shut 4", [115, 104, 117, 116, 32, 52, 59, 104, 111, 117, 114, 115, 32, 57, 59, 115, 104, 117, 116, 32, 52])]
/-- the array classes: of ints, chars, bytes, books; the addresses of the String constants and of their bytes; of the two digit tables; the script: its address, its length, its ints -/
abbrev tyK : Type := ClassId × ClassId × ClassId × ClassId × (Nat → Nat) × (Nat → Nat) × Nat × Nat × Nat × Nat × (Nat → Int32)
abbrev kS (k : tyK) : Nat → Nat := k.2.2.2.2.1
abbrev kV (k : tyK) : Nat → Nat := k.2.2.2.2.2.1
abbrev kO (k : tyK) : Nat := k.2.2.2.2.2.2.1
abbrev kT (k : tyK) : Nat := k.2.2.2.2.2.2.2.1
abbrev kB (k : tyK) : Nat := k.2.2.2.2.2.2.2.2.1
abbrev kL (k : tyK) : Nat := k.2.2.2.2.2.2.2.2.2.1
abbrev kX (k : tyK) : Nat → Int32 := k.2.2.2.2.2.2.2.2.2.2
abbrev TY (k : tyK) : List (ClassId × FieldType) := [(k.1, .int), (k.2.1, .char), (k.2.2.1, .byte), (k.2.2.2.1, .object "TheatreSaga$Books")]
def dgO (j : Nat) : Int32 := nI (48 + j % 10)
def dgT (j : Nat) : Int32 := nI (48 + j / 10)
/-- what stands outside of every world: constants, and statics of the JDK's -/
def ZEh (k : tyK) (A : Nat → Prop) (U : State) (H : Heap) : Prop :=
  (∀ (i : Nat) (x : String × Nat × String × List Int32), STR[i]? = some x → vk_R x.1 x.2.1 x.2.2.1 (kS k i) U ∧ vk_S 1 [x.2.2.2.length] [x.2.2.2] (fun _ => kS k i) (fun _ => kV k i) A U H) ∧
  vx_Zq Bundle.tN "UNASSIGNED_STACK" Bundle.steD A U H ∧ vx_Zq Bundle.tN "SUPPRESSED_SENTINEL" Bundle.listD A U H ∧
  (va_Z "java/lang/Integer" "DigitOnes" "[B" (.ref (kO k)) A U H ∧ va_T .byte (kO k) 100 (fun j => .int (dgO j)) A U H) ∧ (va_Z "java/lang/Integer" "DigitTens" "[B" (.ref (kT k)) A U H ∧ va_T .byte (kT k) 100 (fun j => .int (dgT j)) A U H) ∧ va_Z "java/lang/String" "COMPACT_STRINGS" "Z" (.int 1) A U H ∧ va_Zq "jdk/internal/util/Preconditions" "SIOOBE_FORMATTER" "Ljava/util/function/BiFunction;" A U H ∧ (∀ q ∈ ncW, va_Nc q.1 q.2 U) ∧ va_AO "TheatreSaga$Books" U ∧ va_T .int (kB k) (kL k) (fun j => .int (kX k j)) A U H
theorem ZEh.step {k : tyK} {A B : Nat → Prop} {s U : State} {H H1 : Heap} (h : ZEh k A s H) (hW : s.WarmedH U.vm) (hq : ∀ a : Nat, a < H.size → ¬ A a → H1[a]? = H[a]?) (hF : ∀ q, B q → A q) : ZEh k B U H1 := by
  obtain ⟨h1, h2, h3, ⟨h4, h5⟩, ⟨h6, h7⟩, h8, h11, h10, h12, h13⟩ := h
  have hv := hW.alike
  exact ⟨fun i x hx => ⟨(h1 i x hx).1.warm hW, (((h1 i x hx).2.kept hq).narrow hF).moved hv⟩, ((h2.kept hq).narrow hF).moved hv, ((h3.kept hq).narrow hF).moved hv, ⟨((h4.kept hq).narrow hF).moved hv, ((h5.kept hq).narrow hF).moved hv⟩, ⟨((h6.kept hq).narrow hF).moved hv, ((h7.kept hq).narrow hF).moved hv⟩, ((h8.kept hq).narrow hF).moved hv, ((h11.kept hq).narrow hF).moved hv, fun q hq => va_Nc.moved hv (h10 q hq), h12.moved hv, ((h13.kept hq).narrow hF).moved hv⟩
def GE (D : va_G) (k : tyK) (A : Nat → Prop) (U : State) : Prop := va_K D vwCl (TY k) U ∧ NW U ∧ ZEh k A U U.heap
theorem GE.step {D : va_G} {k : tyK} {A B : Nat → Prop} {s U : State} {H : Heap} {locs : List Loc} (h : GE D k A s) (hW : s.WarmedH U.vm) (hS : va_S A s.heap H locs) (hU : U.heap = H) (hF : ∀ q, B q → A q) : GE D k B U := ⟨va_K.moved hW.alike h.1, NW.warm hW h.2.1, by rw [hU]; exact h.2.2.step hW hS.2.1 hF⟩
theorem GE.call {D : va_G} {k : tyK} {A : Nat → Prop} {U : State} {g : JFrame} {mk : MethodId} {a : Array Value} (h : GE D k A U) : GE D k A (U.calling g mk a) := by
  have hv : U.vm.Alike (U.calling g mk a).vm := Vm.Alike.refl U.vm
  obtain ⟨h0, h9, h1, h2, h3, ⟨h4, h5⟩, ⟨h6, h7⟩, h8, h11, h10, h12, h13⟩ := h
  exact ⟨va_K.moved (u := U) (U := U.calling g mk a) hv h0, NW.same (u := U) (U := U.calling g mk a) rfl h9, fun i x hx => ⟨vk_R.same (u := U) (U := U.calling g mk a) rfl (h1 i x hx).1, (h1 i x hx).2.moved hv⟩, h2.moved hv, h3.moved hv, ⟨h4.moved hv, h5.moved hv⟩, ⟨h6.moved hv, h7.moved hv⟩, h8.moved hv, h11.moved hv, fun q hq => va_Nc.moved (u := U) (U := U.calling g mk a) hv (h10 q hq), va_AO.moved (u := U) (U := U.calling g mk a) hv h12, h13.moved hv⟩
def PcW (D : va_G) (k : tyK) (W0 : va_W) (sz : Nat) (U : State) : Prop := U.heap.size = sz ∧ va_P D vwCl W0 U.heap ∧ GE D k (va_A W0 sz) U ∧ va_D (fun _ => True) W0
theorem PcW_blind {D : va_G} {k : tyK} {W0 : va_W} {sz : Nat} (av : List Value) : FrameBlind (va_Pc av (PcW D k W0 sz)) := fun _ _ _ _ q => ⟨q.1, q.2.1, q.2.2.1, q.2.2.2.1.call, q.2.2.2.2⟩
/-- what a method leaves: its world anew -/
def Bt (D : va_G) {S : Type} (W1 : S → va_W) (A : Nat → Prop) (u : S) (t : State) : Prop := va_P D vwCl (W1 u) t.heap ∧ va_D A (W1 u)
/-- contracts: with an int answer, with none -/
def FCi {S : Type} (l : Launch) (y : MethodName) (ws : List Cond) (rm : Room) (D : va_G) (k : tyK) (av : List Value) (W0 : va_W) (post : Int32 → S → Prop) (W1 : S → va_W) : Prop :=
  ∀ sz : Nat, Met l y ws rm (va_Pc av (PcW D k W0 sz)) (va_Qi post (Bt D W1 (va_A W0 sz)) (va_A W0 sz)) rm.cells rm.slots (va_A W0 sz)
def FCv {S : Type} (l : Launch) (y : MethodName) (ws : List Cond) (rm : Room) (D : va_G) (k : tyK) (av : List Value) (W0 : va_W) (post : S → Prop) (W1 : S → va_W) : Prop :=
  ∀ sz : Nat, Met l y ws rm (va_Pc av (PcW D k W0 sz)) (va_Qv post (Bt D W1 (va_A W0 sz)) (va_A W0 sz)) rm.cells rm.slots (va_A W0 sz)
/-- a contract's beginning -/
theorem fc_start {l : Launch} {D : va_G} {k : tyK} {y : MethodName} {cc : ByteArray} {maxL : Nat} {ret : Option FieldType} {ws ws' : List Cond} {rm : Room} {av : List Value} {W0 : va_W} {own : String} {Qc : (Nat → Prop) → Array Value → State → Outcome → State → Prop}
    (hy : plainName y.cls = true) (ho : y.cls = own) (hw : ws = Cond.code y cc maxL ret :: ws') (hn : (lg_sl av).length ≤ maxL)
    (body : ∀ (p : Program) (e : Env) (s : State) (m : MethodId) (below : List Frame) (meth : Method) (c : Code) (A : Nat → Prop) (H : Heap), p.tables.exec = Jvm.exec → c.code = cc → c.maxLocals = maxL → meth.sig.returnType = ret → (∀ w ∈ ws, w.before av.toArray s = true) → s.vm.findClass own = some m.cls → meth.locks = false → meth.name = y.name → (∀ q : Nat, s.heap.size ≤ q → A q) → va_P D vwCl W0 H → GE D k A s → va_D A W0 → va_S A s.heap H [] → ∀ ls : Array Slot, lv_has ls maxL (lv_args 0 av) → W p l e rm s m av.toArray below meth c H [] 0 0 (MQ below (Qc A) av.toArray s rm.cells rm.slots A) (F0 m 0 ls [])) :
    ∀ sz : Nat, Met l y ws rm (va_Pc av (PcW D k W0 sz)) (Qc (va_A W0 sz)) rm.cells rm.slots (va_A W0 sz) := by
  intro sz
  refine Met.ofW (cc := cc) (maxL := maxL) (ret := ret) hy hw ?_
  intro p e s m args below meth c s₁ B hml hv
  obtain ⟨rfl, hsz, hP, hE, hD0⟩ := hv
  have hts := atoms_spec (ws := ws) B.pre
  have hown : s.vm.findClass own = some m.cls := ho ▸ findClass_of_methodNamed B.named
  have hname : meth.name = y.name := (name_of_methodNamed B.named B.method).1
  subst hsz
  rw [lg_entry_eq]
  exact body p e s m below meth c _ s.heap B.exec B.bytes hml B.returns hts hown B.notSynchronized hname (fun q h => Or.inr h) hP hE hD0.self va_S.rf _ (lv_entry av hn)
section TSrun
variable {p : Program} {l : Launch} {e : Env} {R : Room} {s : State} {m : MethodId} {args : Array Value} {below : List Frame} {meth : Method} {c : Code} {H : Heap} {locs : List Loc} {cells slots : Nat} {Q : State → Prop} {D : va_G} {k : tyK} {A : Nat → Prop} {cc : ByteArray} {pc : Nat} {ls : Array Slot}
/-- ends -/
theorem fc_iret {S : Type} {post : Int32 → S → Prop} {W1 : S → va_W} {mc ms : Nat} {v : Int32} {ty : FieldType} (hx : p.tables.exec = Jvm.exec) (hb : c.code = cc) (hr : meth.sig.returnType = some ty) (hn : narrow ty (.int v) = .int v) (hl : meth.locks = false) (hS : va_S A s.heap H locs) (u : S) (hpost : post v u) (hP : va_P D vwCl (W1 u) H) (hD : va_D A (W1 u)) (h1 : cells ≤ mc) (h2 : slots ≤ ms) (hdg : decode cc pc = .ok (.ireturn, 1)) :
    W p l e R s m args below meth c H locs cells slots (MQ below (va_Qi post (Bt D W1 A) A) args s mc ms A) (F0 m pc ls [.int v]) :=
  W.widen h1 h2 (W.zret hx hb hr hn (fun t ht _ => ⟨⟨v, u, rfl, hpost, by rw [Bt, ht]; exact ⟨hP, hD⟩⟩, hS.F ht⟩) hS.2.2 hdg hl)
theorem fc_vret {S : Type} {post : S → Prop} {W1 : S → va_W} {mc ms : Nat} (hx : p.tables.exec = Jvm.exec) (hb : c.code = cc) (hr : meth.sig.returnType = none) (hl : meth.locks = false) (hS : va_S A s.heap H locs) (u : S) (hpost : post u) (hP : va_P D vwCl (W1 u) H) (hD : va_D A (W1 u)) (h1 : cells ≤ mc) (h2 : slots ≤ ms) (hdg : decode cc pc = .ok (.return_, 1)) :
    W p l e R s m args below meth c H locs cells slots (MQ below (va_Qv post (Bt D W1 A) A) args s mc ms A) (F0 m pc ls []) :=
  W.widen h1 h2 (W.vret hx hb hr (fun t ht _ => ⟨⟨u, rfl, hpost, by rw [Bt, ht]; exact ⟨hP, hD⟩⟩, hS.F ht⟩) hS.2.2 hdg hl)
end TSrun
/-- places of a list set anew -/
def fs (W : va_W) : List Nat → va_W → va_W
  | [], _ => W
  | _ :: _, [] => W
  | i :: is, x :: xs => fs (W.set i x) is xs
theorem fs_get : ∀ (isC : List Nat) (ws w1 : va_W) (j : Nat) (q : Nat × va_E), (fs ws isC w1)[j]? = some q → isC.length = w1.length → (∃ i : Nat, isC[i]? = some j ∧ w1[i]? = some q) ∨ (j ∉ isC ∧ ws[j]? = some q)
  | [], _, _, _, _, h, _ => Or.inr ⟨List.not_mem_nil, by simpa [fs] using h⟩
  | _ :: _, _, [], _, _, _, h2 => by simp at h2
  | i :: is, ws, x :: xs, j, q, h, h2 => by
    rcases fs_get is (ws.set i x) xs j q h (by simpa using h2) with ⟨a, h3, h4⟩ | ⟨h3, h4⟩
    · exact Or.inl ⟨a + 1, by simpa using h3, by simpa using h4⟩
    · by_cases e : i = j
      · subst e
        rw [List.getElem?_set] at h4
        simp only [if_true] at h4
        split at h4
        · exact Or.inl ⟨0, rfl, h4⟩
        · cases h4
      · rw [List.getElem?_set_ne e] at h4
        exact Or.inr ⟨by simp only [List.mem_cons, not_or]; exact ⟨fun z => e z.symm, h3⟩, h4⟩
/-- the places of a callee's world in the caller's -/
theorem fs_at {isC : List Nat} {ws wc : va_W} (hC : isC.map (fun i => ws[i]?) = wc.map some) (j : Nat) (q : Nat × va_E) (h : wc[j]? = some q) : ∃ i : Nat, isC[j]? = some i ∧ ws[i]? = some q := by
  have h1 : (isC.map (fun i => ws[i]?))[j]? = some (some q) := by rw [hC, List.getElem?_map, h]; rfl
  rw [List.getElem?_map] at h1
  cases hi : isC[j]? with
  | none => rw [hi] at h1; cases h1
  | some i => rw [hi] at h1; exact ⟨i, rfl, Option.some.inj h1⟩
theorem fs_ok {D : va_G} {A : Nat → Prop} {ws wc w1 : va_W} {H H1 : Heap} {isC : List Nat} (hP : va_P D vwCl ws H) (hD : va_D A ws) (hC : isC.map (fun i => ws[i]?) = wc.map some) (hlen : isC.length = w1.length)
    (hk : ∀ q : Nat, q < H.size → ¬ va_A wc H.size q → H1[q]? = H[q]?) (hF : ∀ q, va_A wc H.size q → A q) (hP1 : va_P D vwCl w1 H1) (hD1 : va_D (va_A wc H.size) w1) : va_P D vwCl (fs ws isC w1) H1 ∧ va_D A (fs ws isC w1) := by
  have apart : ∀ (j : Nat) (q : Nat × va_E), j ∉ isC → ws[j]? = some q → q.1 < H.size ∧ ¬ va_A wc H.size q.1 := by
    intro j q hj hq
    have hl := (hP j q hq).lt
    refine ⟨hl, fun h => ?_⟩
    rcases h with ⟨k2, e, h⟩ | h
    · obtain ⟨i, h3, h4⟩ := fs_at hC k2 (q.1, e) h
      have hij := hD.1 j i q (q.1, e) hq h4 rfl
      subst hij
      exact hj (List.mem_of_getElem? h3)
    · exact absurd hl (Nat.not_lt.mpr h)
  refine ⟨fun j q hq => ?_, fun i j x y hx hy hxy => ?_, fun j q hq => ?_⟩
  · rcases fs_get isC ws w1 j q hq hlen with ⟨a, -, h2⟩ | ⟨h1, h2⟩
    · exact hP1 a q h2
    · obtain ⟨g1, g2⟩ := apart j q h1 h2
      exact (hP j q h2).kept (hk q.1 g1 g2)
  · rcases fs_get isC ws w1 i x hx hlen with ⟨a, h1, h2⟩ | ⟨h1, h2⟩
    · rcases fs_get isC ws w1 j y hy hlen with ⟨b, h3, h4⟩ | ⟨h3, h4⟩
      · have e := hD1.1 a b x y h2 h4 hxy
        subst e
        exact Option.some.inj (h1.symm.trans h3)
      · exact absurd (hxy ▸ hD1.2 a x h2) (apart j y h3 h4).2
    · rcases fs_get isC ws w1 j y hy hlen with ⟨b, h3, h4⟩ | ⟨h3, h4⟩
      · exact absurd (hxy ▸ hD1.2 b y h4) (apart i x h1 h2).2
      · exact hD.1 i j x y h2 h4 hxy
  · rcases fs_get isC ws w1 j q hq hlen with ⟨a, -, h2⟩ | ⟨h1, h2⟩
    · exact hF _ (hD1.2 a q h2)
    · exact hD.2 j q h2
section TScall
variable {p : Program} {l : Launch} {e : Env} {R : Room} {s : State} {m : MethodId} {args : Array Value} {below : List Frame} {meth : Method} {c : Code} {H : Heap} {locs : List Loc} {cells slots : Nat} {Q : State → Prop} {D : va_G} {k : tyK} {A : Nat → Prop} {cc : ByteArray} {pc : Nat} {ls : Array Slot} {rest st0 : List Value} {a : Array Value} {mc ms : Nat} {ws wc : va_W}
/-- behind a call: the caller's world with the callee's places set anew -/
theorem fc_ci {S : Type} {post : Int32 → S → Prop} {W1 : S → va_W} {isC : List Nat} (hr : va_Run p l e R s m args below meth c H locs cells slots mc ms (F0 m pc ls st0) rest (va_Qi post (Bt D W1 (va_A wc H.size)) (va_A wc H.size) a) (va_A wc H.size)) (hP : va_P D vwCl ws H) (hD : va_D A ws) (hS : va_S A s.heap H locs) (hA : ∀ q : Nat, s.heap.size ≤ q → A q) (hC : isC.map (fun i => ws[i]?) = wc.map some) (hlen : ∀ u, isC.length = (W1 u).length) {cells' slots' : Nat} (hcs : cells + mc = cells') (hss : slots + ms = slots')
    (kk : ∀ (r : Int32) (u : S) (H1 : Heap) (locs1 : List Loc), post r u → va_P D vwCl (fs ws isC (W1 u)) H1 → va_D A (fs ws isC (W1 u)) → va_S A s.heap H1 locs1 → W p l e R s m args below meth c H1 locs1 cells' slots' Q (F0 m (pc + 3) ls (.int r :: rest))) : W p l e R s m args below meth c H locs cells slots Q (F0 m pc ls st0) := by
  subst hcs; subst hss
  have hF := va_free hD hS hA isC hC
  refine va_calli hr hS (fun q _ h => hF q h) hF (fun r u t H1 locs1 ht _ hp hB _ hk hS1 => ?_)
  obtain ⟨hP1, hD1⟩ := hB
  rw [ht] at hP1
  obtain ⟨hP2, hD2⟩ := fs_ok hP hD hC (hlen u) hk hF hP1 hD1
  exact kk r u H1 locs1 hp hP2 hD2 hS1
theorem fc_cv {S : Type} {post : S → Prop} {W1 : S → va_W} {isC : List Nat} (hr : va_Run p l e R s m args below meth c H locs cells slots mc ms (F0 m pc ls st0) rest (va_Qv post (Bt D W1 (va_A wc H.size)) (va_A wc H.size) a) (va_A wc H.size)) (hP : va_P D vwCl ws H) (hD : va_D A ws) (hS : va_S A s.heap H locs) (hA : ∀ q : Nat, s.heap.size ≤ q → A q) (hC : isC.map (fun i => ws[i]?) = wc.map some) (hlen : ∀ u, isC.length = (W1 u).length) {cells' slots' : Nat} (hcs : cells + mc = cells') (hss : slots + ms = slots')
    (kk : ∀ (u : S) (H1 : Heap) (locs1 : List Loc), post u → va_P D vwCl (fs ws isC (W1 u)) H1 → va_D A (fs ws isC (W1 u)) → va_S A s.heap H1 locs1 → W p l e R s m args below meth c H1 locs1 cells' slots' Q (F0 m (pc + 3) ls rest)) : W p l e R s m args below meth c H locs cells slots Q (F0 m pc ls st0) := by
  subst hcs; subst hss
  have hF := va_free hD hS hA isC hC
  refine va_callv hr hS (fun q _ h => hF q h) hF (fun u t H1 locs1 ht _ hp hB _ hk hS1 => ?_)
  obtain ⟨hP1, hD1⟩ := hB
  rw [ht] at hP1
  obtain ⟨hP2, hD2⟩ := fs_ok hP hD hC (hlen u) hk hF hP1 hD1
  exact kk u H1 locs1 hp hP2 hD2 hS1
theorem fc_pre {isC : List Nat} (hE : GE D k A s) (hP : va_P D vwCl ws H) (hD : va_D A ws) (hS : va_S A s.heap H locs) (hA : ∀ q : Nat, s.heap.size ≤ q → A q) (hC : isC.map (fun i => ws[i]?) = wc.map some) (hnd : va_nd isC = true) (av : List Value) : ∀ U : State, U.heap = H → s.WarmedH U.vm → va_Pc av (PcW D k wc H.size) av.toArray U := by
  intro U hU hW
  have hi := va_nd_inj isC hnd
  refine ⟨rfl, by rw [hU], ?_, hE.step hW hS hU (va_free hD hS hA isC hC), ⟨fun i j x y hx hy hxy => ?_, fun _ _ _ => trivial⟩⟩
  · rw [hU]
    intro j q hq
    obtain ⟨i, -, h2⟩ := fs_at hC j q hq
    exact hP i q h2
  · obtain ⟨a1, h1, h2⟩ := fs_at hC i x hx
    obtain ⟨a2, h3, h4⟩ := fs_at hC j y hy
    have e := hD.1 a1 a2 x y h2 h4 hxy
    subst e
    exact hi _ _ _ h1 h3
variable {Ts wsy ws' : List Cond} {own C : String} {index n nL maxL : Nat} {y : MethodName} {bytes : ByteArray} {ret : Option FieldType} {rm : Room} {Qc : Array Value → State → Outcome → State → Prop} {free : Addr → Prop} {b : Addr} {As : List Value} {lv : List (Nat × Value)}
/-- the calls: virtual, static, static of a nest mate -/
theorem fc_runV {isC : List Nat} (S : CallFix p m c cc nL s args Ts own) (hM : Met l y wsy rm (va_Pc (.ref b :: As) (PcW D k wc H.size)) Qc rm.cells rm.slots free) (hG : GoodIn Ts (wsV own index C y wsy)) (hw : wsy = Cond.code y bytes maxL ret :: ws') (hd : y.cls = C ∧ y.cls ≠ "java/lang/invoke/MethodHandle" ∧ y.cls ≠ "java/lang/invoke/VarHandle" ∧ (parseMethodDescriptor y.desc).map (fun d => d.parameters.length) = some n) (hn : As.length = n) (hR : rm.frames + 1 ≤ R.frames ∧ 8 + (maxL + 11) + rm.locals ≤ R.locals) (hf : cells + rm.cells ≤ R.cells ∧ slots + rm.slots ≤ R.slots) (hE : GE D k A s) (hP : va_P D vwCl ws H) (hD : va_D A ws) (hS : va_S A s.heap H locs) (hA : ∀ q : Nat, s.heap.size ≤ q → A q) (hC : isC.map (fun i => ws[i]?) = wc.map some) (hnd : va_nd isC = true) (hcell : ∃ cell : Cell, H[b]? = some cell ∧ cell.vm.isStatics = false ∧ s.vm.findClass C = some cell.cls) (hl : lv_has ls nL lv) (hstack : st0 = As.reverse ++ .ref b :: rest) (hst : (rest.map fun v => v.category).sum ≤ 8) (hdg : decode cc pc = .ok (.invokevirtual index, 3)) :
    va_Run p l e R s m args below meth c H locs cells slots rm.cells rm.slots (F0 m pc ls st0) rest (Qc (Value.ref b :: As).toArray) free :=
  va_runV S hM (cwV n S.2.2.2.2 hG hw rfl rfl hd hR) ⟨PcW_blind _, hcell, fc_pre hE hP hD hS hA hC hnd _⟩ rfl hn hl.1 hstack (lv_room hst) hdg hf
theorem fc_runS {isC : List Nat} (S : CallFix p m c cc nL s args Ts own) (hM : Met l y wsy rm (va_Pc As (PcW D k wc H.size)) Qc rm.cells rm.slots free) (hG : GoodIn Ts (va_wsS own index y wsy)) (hw : wsy = Cond.code y bytes maxL ret :: ws') (hd : y.cls ≠ "java/lang/invoke/MethodHandle" ∧ y.cls ≠ "java/lang/invoke/VarHandle" ∧ (parseMethodDescriptor y.desc).map (fun d => d.parameters.length) = some n) (hn : As.length = n) (hR : rm.frames + 1 ≤ R.frames ∧ 8 + (maxL + 11) + rm.locals ≤ R.locals) (hf : cells + rm.cells ≤ R.cells ∧ slots + rm.slots ≤ R.slots) (hE : GE D k A s) (hP : va_P D vwCl ws H) (hD : va_D A ws) (hS : va_S A s.heap H locs) (hA : ∀ q : Nat, s.heap.size ≤ q → A q) (hC : isC.map (fun i => ws[i]?) = wc.map some) (hnd : va_nd isC = true) (hl : lv_has ls nL lv) (hstack : st0 = As.reverse ++ rest) (hst : (rest.map fun v => v.category).sum ≤ 8) (hdg : decode cc pc = .ok (.invokestatic index, 3)) :
    va_Run p l e R s m args below meth c H locs cells slots rm.cells rm.slots (F0 m pc ls st0) rest (Qc As.toArray) free :=
  va_runS S hM (va_cwS n S.2.2.2.2 hG hw rfl rfl hd hR) ⟨PcW_blind _, fc_pre hE hP hD hS hA hC hnd _⟩ rfl hn hl.1 hstack (lv_room hst) hdg hf
theorem fc_runSN {isC : List Nat} (S : CallFix p m c cc nL s args Ts own) (hM : Met l y wsy rm (va_Pc As (PcW D k wc H.size)) Qc rm.cells rm.slots free) (hG : GoodIn Ts wsy) (hnw : Cond.methodLinkNest own index y "TheatreSaga" ∈ nestW) (hstat : Cond.static y ∈ Ts) (hini : Cond.initialized y.cls ∈ Ts) (hw : wsy = Cond.code y bytes maxL ret :: ws') (hd : y.cls ≠ "java/lang/invoke/MethodHandle" ∧ y.cls ≠ "java/lang/invoke/VarHandle" ∧ (parseMethodDescriptor y.desc).map (fun d => d.parameters.length) = some n) (hn : As.length = n) (hR : rm.frames + 1 ≤ R.frames ∧ 8 + (maxL + 11) + rm.locals ≤ R.locals) (hf : cells + rm.cells ≤ R.cells ∧ slots + rm.slots ≤ R.slots) (hE : GE D k A s) (hP : va_P D vwCl ws H) (hD : va_D A ws) (hS : va_S A s.heap H locs) (hA : ∀ q : Nat, s.heap.size ≤ q → A q) (hC : isC.map (fun i => ws[i]?) = wc.map some) (hnd : va_nd isC = true) (hl : lv_has ls nL lv) (hstack : st0 = As.reverse ++ rest) (hst : (rest.map fun v => v.category).sum ≤ 8) (hdg : decode cc pc = .ok (.invokestatic index, 3)) :
    va_Run p l e R s m args below meth c H locs cells slots rm.cells rm.slots (F0 m pc ls st0) rest (Qc As.toArray) free :=
  va_runSN S hM ⟨va_cnB n S.2.2.2.2 hG hw rfl rfl (hE.2.1 _ hnw) (S.2.2.2.2 _ hini) hd hR, S.2.2.2.2 _ hstat, trivial⟩ ⟨PcW_blind _, fc_pre hE hP hD hS hA hC hnd _⟩ rfl hn hl.1 hstack (lv_room hst) hdg hf
end TScall
/-- small things -/
theorem vp_of {n : Nat} {i : Int32} (hn : n < 2 ^ 31) (h0 : ¬ i < 0) (h1 : ¬ Int32.ofNat n ≤ i) : vp_in i n := by
  obtain ⟨j, hj, rfl⟩ := nI_of h0
  have : j < n := by
    rcases Nat.lt_or_ge j n with q | q
    · exact q
    · exact absurd (nI_le q hj) h1
  exact vp_in_nI this hn
theorem i32_ne {x y : Int32} {n : Int} (hn : y.toInt = n) (h : ¬ x = y) : ¬ x.toInt = n := fun z => h (Int32.toInt_inj.mp (z.trans hn.symm))
theorem nar_b {v : Int32} (h : v = 0 ∨ v = 1) : narrow .boolean (.int v) = .int v := by rcases h with rfl | rfl <;> rfl
theorem lp_step {i b : Int32} {n : Nat} (hc : ¬ b ≤ i) (hm : (b.toInt - i.toInt).toNat < n + 1) : (b.toInt - (i + 1).toInt).toNat < n := by
  have h1 : i.toInt < b.toInt := by
    rw [Int32.le_iff_toInt_le] at hc
    omega
  have h2 := Int32.toInt_lt b
  have h3 := Int32.le_toInt i
  have h4 : (i + 1).toInt = i.toInt + 1 := by
    rw [Int32.toInt_add, show (1 : Int32).toInt = 1 from rfl]
    refine Int.bmod_eq_of_le ?_ ?_ <;> omega
  omega
theorem lp_step_le {i b : Int32} {n : Nat} (hb : b.toInt < 2147483647) (hc : ¬ b < i) (hm : (b.toInt + 1 - i.toInt).toNat < n + 1) : (b.toInt + 1 - (i + 1).toInt).toNat < n := by
  have h1 : i.toInt ≤ b.toInt := by
    rw [Int32.lt_iff_toInt_lt] at hc
    omega
  have h3 := Int32.le_toInt i
  have h4 : (i + 1).toInt = i.toInt + 1 := by
    rw [Int32.toInt_add, show (1 : Int32).toInt = 1 from rfl]
    refine Int.bmod_eq_of_le ?_ ?_ <;> omega
  omega
end TSbase
