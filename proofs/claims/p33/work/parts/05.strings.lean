/-! STRING CONSTANTS: what GE says of them; a contract whose answer is a known address. -/
section TSstr
/-- the bytes of a constant -/
def SB (j : Nat) : List Int32 := ((STR[j]?).map (fun x => x.2.2.2)).getD []
theorem GE.sx {D : va_G} {k : tyK} {A : Nat → Prop} {s : State} (hE : GE D k A s) {j : Nat} (hj : j < 34) : vk_S 1 [(SB j).length] [SB j] (fun _ => kS k j) (fun _ => kV k j) A s s.heap := by
  have hl : STR.length = 34 := rfl
  have hq : STR[j]? = some (STR[j]'(by omega)) := List.getElem?_eq_getElem _
  have h := (hE.2.2.1 j _ hq).2
  have e : SB j = (STR[j]'(by omega)).2.2.2 := by rw [SB, hq]; rfl
  rw [e]
  exact h
theorem GE.sc {D : va_G} {k : tyK} {A : Nat → Prop} {s : State} (hE : GE D k A s) {j : Nat} (hj : j < 34) : va_OF "java/lang/String" "coder" "B" (.int 0) (kS k j) A s s.heap := ((GE.sx hE hj).1 0 (by decide)).2.1
theorem GE.sv {D : va_G} {k : tyK} {A : Nat → Prop} {s : State} (hE : GE D k A s) {j : Nat} (hj : j < 34) : va_OF "java/lang/String" "value" "[B" (.ref (kV k j)) (kS k j) A s s.heap := ((GE.sx hE hj).1 0 (by decide)).2.2.1
theorem GE.sb {D : va_G} {k : tyK} {A : Nat → Prop} {s : State} (hE : GE D k A s) {j : Nat} (hj : j < 34) : va_T .byte (kV k j) (SB j).length (fun i => .int ((SB j).getD i 0)) A s s.heap := ((GE.sx hE hj).1 0 (by decide)).2.2.2
theorem GE.dO {D : va_G} {k : tyK} {A : Nat → Prop} {s : State} (hE : GE D k A s) : va_Z "java/lang/Integer" "DigitOnes" "[B" (.ref (kO k)) A s s.heap ∧ va_T .byte (kO k) 100 (fun j => .int (dgO j)) A s s.heap := hE.2.2.2.2.2.1
theorem GE.dT {D : va_G} {k : tyK} {A : Nat → Prop} {s : State} (hE : GE D k A s) : va_Z "java/lang/Integer" "DigitTens" "[B" (.ref (kT k)) A s s.heap ∧ va_T .byte (kT k) 100 (fun j => .int (dgT j)) A s s.heap := hE.2.2.2.2.2.2.1
theorem GE.cs {D : va_G} {k : tyK} {A : Nat → Prop} {s : State} (hE : GE D k A s) : va_Z "java/lang/String" "COMPACT_STRINGS" "Z" (.int 1) A s s.heap := hE.2.2.2.2.2.2.2.1
theorem GE.sf {D : va_G} {k : tyK} {A : Nat → Prop} {s : State} (hE : GE D k A s) : va_Zq "jdk/internal/util/Preconditions" "SIOOBE_FORMATTER" "Ljava/util/function/BiFunction;" A s s.heap := hE.2.2.2.2.2.2.2.2.1
theorem GE.nc {D : va_G} {k : tyK} {A : Nat → Prop} {s : State} (hE : GE D k A s) : ∀ q ∈ ncW, va_Nc q.1 q.2 s := hE.2.2.2.2.2.2.2.2.2.1
theorem GE.ao {D : va_G} {k : tyK} {A : Nat → Prop} {s : State} (hE : GE D k A s) : va_AO "TheatreSaga$Books" s := hE.2.2.2.2.2.2.2.2.2.2.1
theorem GE.sc0 {D : va_G} {k : tyK} {A : Nat → Prop} {s : State} (hE : GE D k A s) : va_T .int (kB k) (kL k) (fun j => .int (kX k j)) A s s.heap := hE.2.2.2.2.2.2.2.2.2.2.2
def FCr (l : Launch) (y : MethodName) (ws : List Cond) (rm : Room) (D : va_G) (k : tyK) (av : List Value) (W0 : va_W) (adr : Nat) (W1 : va_W) : Prop :=
  ∀ sz : Nat, Met l y ws rm (va_Pc av (PcW D k W0 sz)) (va_Qr (fun (_ : Unit) => True) (fun _ a t => a = adr ∧ va_P D vwCl W1 t.heap ∧ va_D (va_A W0 sz) W1) (va_A W0 sz)) rm.cells rm.slots (va_A W0 sz)
section TSstr2
variable {p : Program} {l : Launch} {e : Env} {R : Room} {s : State} {m : MethodId} {args : Array Value} {below : List Frame} {meth : Method} {c : Code} {H : Heap} {locs : List Loc} {cells slots : Nat} {Q : State → Prop} {D : va_G} {k : tyK} {A : Nat → Prop} {cc : ByteArray} {pc : Nat} {ls : Array Slot} {rest st0 : List Value} {a : Array Value} {mc ms : Nat} {ws wc : va_W}
theorem va_ldcSW (hexec : p.tables.exec = Jvm.exec) (hb : c.code = cc) {own tx : String} {index q : Nat} (hown : s.vm.findClass own = some m.cls) (hZ : vk_R own index tx q s) (hdg : decode cc pc = .ok (.ldc_w index, 3))
    (k : W p l e R s m args below meth c H locs cells slots Q (F0 m (pc + 3) ls (.ref q :: rest))) : W p l e R s m args below meth c H locs cells slots Q (F0 m pc ls rest) := by
  intro T hT X
  obtain ⟨t, a1, b1⟩ := k T hT X
  exact ⟨t, X.ldcStringW hexec hown (text := tx) (a := q) hZ.1 hZ.2 (g := F0 m pc ls rest) rfl (by rw [hb]; exact hdg) t a1, b1⟩
theorem fc_aret {W1 : va_W} {adr q : Nat} {rt : FieldType} (hx : p.tables.exec = Jvm.exec) (hb : c.code = cc) (hr : meth.sig.returnType = some rt) (hrt : (∃ n, rt = .object n) ∨ ∃ t, rt = .array t) (hl : meth.locks = false) (hS : va_S A s.heap H locs) (ha : q = adr) (hP : va_P D vwCl W1 H) (hD : va_D A W1) (h1 : cells ≤ mc) (h2 : slots ≤ ms) (hdg : decode cc pc = .ok (.areturn, 1)) :
    W p l e R s m args below meth c H locs cells slots (MQ below (va_Qr (fun (_ : Unit) => True) (fun _ a t => a = adr ∧ va_P D vwCl W1 t.heap ∧ va_D A W1) A) args s mc ms A) (F0 m pc ls [.ref q]) :=
  W.widen h1 h2 (W.aret hx hb hr hrt (Or.inr ⟨q, rfl⟩) (fun t ht _ => ⟨⟨(), q, rfl, trivial, ha, by rw [ht]; exact hP, hD⟩, hS.F ht⟩) hS.2.2 hdg hl)
theorem fc_cr {W1 : va_W} {adr : Nat} {isC : List Nat} (hr : va_Run p l e R s m args below meth c H locs cells slots mc ms (F0 m pc ls st0) rest (va_Qr (fun (_ : Unit) => True) (fun _ a t => a = adr ∧ va_P D vwCl W1 t.heap ∧ va_D (va_A wc H.size) W1) (va_A wc H.size) a) (va_A wc H.size)) (hP : va_P D vwCl ws H) (hD : va_D A ws) (hS : va_S A s.heap H locs) (hA : ∀ q : Nat, s.heap.size ≤ q → A q) (hC : isC.map (fun i => ws[i]?) = wc.map some) (hlen : isC.length = W1.length) {cells' slots' : Nat} (hcs : cells + mc = cells') (hss : slots + ms = slots')
    (kk : ∀ (H1 : Heap) (locs1 : List Loc), va_P D vwCl (fs ws isC W1) H1 → va_D A (fs ws isC W1) → va_S A s.heap H1 locs1 → W p l e R s m args below meth c H1 locs1 cells' slots' Q (F0 m (pc + 3) ls (.ref adr :: rest))) : W p l e R s m args below meth c H locs cells slots Q (F0 m pc ls st0) := by
  subst hcs; subst hss
  have hF := va_free hD hS hA isC hC
  refine va_callr hr hS (fun q _ h => hF q h) hF (fun u ra t H1 locs1 ht _ _ hB _ hk hS1 => ?_)
  obtain ⟨rfl, hP1, hD1⟩ := hB
  rw [ht] at hP1
  obtain ⟨hP2, hD2⟩ := fs_ok hP hD hC hlen hk hF hP1 hD1
  exact kk H1 locs1 hP2 hD2 hS1
end TSstr2
/-- the exceptions' own words -/
abbrev exN : List String := ["java/lang/RuntimeException", "java/lang/Exception"]
theorem exN_ok : ∀ n ∈ exN, Bundle.fit n = true := by decide +kernel
theorem exF_IndexOutOfBoundsException : Bundle.fit "java/lang/IndexOutOfBoundsException" = true := by decide +kernel
theorem exF_IllegalArgumentException : Bundle.fit "java/lang/IllegalArgumentException" = true := by decide +kernel
theorem exF_UnsupportedOperationException : Bundle.fit "java/lang/UnsupportedOperationException" = true := by decide +kernel
theorem exF_NoSuchElementException : Bundle.fit "java/util/NoSuchElementException" = true := by decide +kernel
theorem exF_IllegalStateException : Bundle.fit "java/lang/IllegalStateException" = true := by decide +kernel
theorem exF_ArithmeticException : Bundle.fit "java/lang/ArithmeticException" = true := by decide +kernel
end TSstr
