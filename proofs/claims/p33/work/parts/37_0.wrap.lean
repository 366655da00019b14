/-! THE LAW'S SMALL METHODS: each calls one of TheatreSaga's and catches. K_m: the answer and the object behind it. */ -/
section TSwrap
/-- the answer of a method that catches: by the class of what was thrown -/
def xc (X : Option String) (r : Int32) (tab : List (String × Int32)) : Int32 := match X with
  | none => r
  | some E => ((tab.find? (fun q => q.1 == E)).map (fun q => q.2)).getD 0
theorem xc_none (r : Int32) (tab : List (String × Int32)) : xc none r tab = r := by unfold xc; rfl
theorem xc_at {E : String} {tab : List (String × Int32)} {v : Int32} (h : ((tab.find? (fun q => q.1 == E)).map (fun q => q.2)).getD 0 = v) (r : Int32) : xc (some E) r tab = v := by unfold xc; exact h
abbrev lwM1001d : UInt64 := 13875388141788987392
abbrev lwM1001f : UInt32 := 3296346112
theorem SBok_142 {txt : List Int32} {cap : Nat} {yb : Nat → Int32} (ok : SBok txt cap yb) : cap ≤ 142 := by
  rcases ok.1 with h | h | h | h <;> omega
def FCd {S : Type} (l : Launch) (y : MethodName) (ws : List Cond) (rm : Room) (D : va_G) (k : tyK) (av : List Value) (W0 : va_W) (post : UInt64 → S → Prop) (W1 : S → va_W) : Prop :=
  ∀ sz : Nat, Met l y ws rm (va_Pc av (PcW D k W0 sz)) (va_Qd post (Bt D W1 (va_A W0 sz)) (va_A W0 sz)) rm.cells rm.slots (va_A W0 sz)
def FCf {S : Type} (l : Launch) (y : MethodName) (ws : List Cond) (rm : Room) (D : va_G) (k : tyK) (av : List Value) (W0 : va_W) (post : UInt32 → S → Prop) (W1 : S → va_W) : Prop :=
  ∀ sz : Nat, Met l y ws rm (va_Pc av (PcW D k W0 sz)) (va_Qf post (Bt D W1 (va_A W0 sz)) (va_A W0 sz)) rm.cells rm.slots (va_A W0 sz)
/-- the beginning of a contract of a method with an exception table -/
theorem fcw_start {l : Launch} {D : va_G} {k : tyK} {y : MethodName} {cc : ByteArray} {maxL : Nat} {ret : Option FieldType} {hh : List (Nat × Nat × Nat × Nat)} {ws ws' : List Cond} {rm : Room} {av : List Value} {W0 : va_W} {own : String} {Qc : (Nat → Prop) → Array Value → State → Outcome → State → Prop}
    (hy : plainName y.cls = true) (ho : y.cls = own) (hw : ws = Cond.codeWith y cc maxL ret hh :: ws') (hn : (lg_sl av).length ≤ maxL)
    (body : ∀ (p : Program) (e : Env) (s : State) (m : MethodId) (below : List Frame) (meth : Method) (c : Code) (A : Nat → Prop) (H : Heap), p.tables.exec = Jvm.exec → c.code = cc → c.maxLocals = maxL → meth.sig.returnType = ret → (∀ w ∈ ws, w.before av.toArray s = true) → s.vm.findClass own = some m.cls → meth.locks = false → c.exceptionTable.toList = tableOf hh → (∀ q : Nat, s.heap.size ≤ q → A q) → va_P D vwCl W0 H → GE D k A s → va_D A W0 → va_S A s.heap H [] → ∀ ls : Array Slot, lv_has ls maxL (lv_args 0 av) → W p l e rm s m av.toArray below meth c H [] 0 0 (MQ below (Qc A) av.toArray s rm.cells rm.slots A) (F0 m 0 ls [])) :
    ∀ sz : Nat, Met l y ws rm (va_Pc av (PcW D k W0 sz)) (Qc (va_A W0 sz)) rm.cells rm.slots (va_A W0 sz) := by
  intro sz
  refine va_MetW (cc := cc) (maxL := maxL) (ret := ret) (hh := hh) hy hw ?_
  intro p e s m args below meth c s₁ B hml hv
  obtain ⟨rfl, hsz, hP, hE, hD0⟩ := hv
  have hts := atoms_spec (ws := ws) B.pre
  have hown : s.vm.findClass own = some m.cls := ho ▸ findClass_of_methodNamed B.named
  have htab := vx_table (x := y) B (hts _ (by rw [hw]; exact List.mem_cons_self))
  subst hsz
  rw [lg_entry_eq]
  exact body p e s m below meth c _ s.heap B.exec B.bytes hml B.returns hts hown B.notSynchronized htab (fun q h => Or.inr h) hP hE hD0.self va_S.rf _ (lv_entry av hn)
section TSwrap2
variable {p : Program} {l : Launch} {e : Env} {R : Room} {s : State} {m : MethodId} {args : Array Value} {below : List Frame} {meth : Method} {c : Code} {H : Heap} {locs : List Loc} {cells slots : Nat} {Q : State → Prop} {D : va_G} {k : tyK} {A : Nat → Prop} {cc : ByteArray} {pc : Nat} {ls : Array Slot} {rest st0 : List Value} {a : Array Value} {mc ms : Nat} {ws wc : va_W}
theorem fc_dret {S : Type} {post : UInt64 → S → Prop} {W1 : S → va_W} {v : UInt64} (hx : p.tables.exec = Jvm.exec) (hb : c.code = cc) (hr : meth.sig.returnType = some .double) (hl : meth.locks = false) (hS : va_S A s.heap H locs) (u : S) (hpost : post v u) (hP : va_P D vwCl (W1 u) H) (hD : va_D A (W1 u)) (h1 : cells ≤ mc) (h2 : slots ≤ ms) (hdg : decode cc pc = .ok (.dreturn, 1)) :
    W p l e R s m args below meth c H locs cells slots (MQ below (va_Qd post (Bt D W1 A) A) args s mc ms A) (F0 m pc ls [.double v]) :=
  W.widen h1 h2 (W.dret hx hb hr (fun t ht _ => ⟨⟨v, u, rfl, hpost, by rw [Bt, ht]; exact ⟨hP, hD⟩⟩, hS.F ht⟩) hS.2.2 hdg hl)
theorem fc_fret {S : Type} {post : UInt32 → S → Prop} {W1 : S → va_W} {v : UInt32} (hx : p.tables.exec = Jvm.exec) (hb : c.code = cc) (hr : meth.sig.returnType = some .float) (hl : meth.locks = false) (hS : va_S A s.heap H locs) (u : S) (hpost : post v u) (hP : va_P D vwCl (W1 u) H) (hD : va_D A (W1 u)) (h1 : cells ≤ mc) (h2 : slots ≤ ms) (hdg : decode cc pc = .ok (.freturn, 1)) :
    W p l e R s m args below meth c H locs cells slots (MQ below (va_Qf post (Bt D W1 A) A) args s mc ms A) (F0 m pc ls [.float v]) :=
  W.widen h1 h2 (W.fret hx hb hr (fun t ht _ => ⟨⟨v, u, rfl, hpost, by rw [Bt, ht]; exact ⟨hP, hD⟩⟩, hS.F ht⟩) hS.2.2 hdg hl)
theorem fo_ciS {S : Type} {post : S → Prop} {Xc : Option String} {rc : Int32} {W1 : S → va_W} {isC : List Nat} (hr : vx_Run p l e R s m args below meth c H locs cells slots mc ms (F0 m pc ls st0) rest (va_Qi (fun r (u : S) => Xc = none ∧ r = rc ∧ post u) (Bt D W1 (va_A wc H.size)) (va_A wc H.size) a) (XBS D Xc post W1 (va_A wc H.size)) (va_A wc H.size)) (hP : va_P D vwCl ws H) (hD : va_D A ws) (hS : va_S A s.heap H locs) (hA : ∀ q : Nat, s.heap.size ≤ q → A q) (hC : isC.map (fun i => ws[i]?) = wc.map some) (hlen : ∀ u, isC.length = (W1 u).length) {cells' slots' : Nat} (hcs : cells + mc = cells') (hss : slots + ms = slots')
    (kx : ∀ (E : String) (ce : Cell) (q9 : Addr) (u : S) (H1 : Heap) (locs1 : List Loc), Xc = some E → post u → va_P D vwCl (fs ws isC (W1 u)) H1 → va_D A (fs ws isC (W1 u)) → va_S A s.heap H1 locs1 → H1[q9]? = some ce → ce.vm = .none → s.vm.findClass E = some ce.cls → vx_W p l e R s m args below meth c H1 locs1 cells' slots' Q (F0 m pc ls rest) q9)
    (kk : ∀ (r : Int32) (u : S) (H1 : Heap) (locs1 : List Loc), Xc = none → r = rc → post u → va_P D vwCl (fs ws isC (W1 u)) H1 → va_D A (fs ws isC (W1 u)) → va_S A s.heap H1 locs1 → W p l e R s m args below meth c H1 locs1 cells' slots' Q (F0 m (pc + 3) ls (.int r :: rest))) : W p l e R s m args below meth c H locs cells slots Q (F0 m pc ls st0) := by
  subst hcs; subst hss
  have hF := va_free hD hS hA isC hC
  refine vx_calli hr hS (fun q _ h => hF q h) hF (fun q _ h => hF q h) (fun E ce q9 u t H1 locs1 ht _ hu hB _ hk hS1 g1 g2 g3 => ?_) (fun r u t H1 locs1 ht _ hp hB _ hk hS1 => ?_)
  · obtain ⟨hX, hP1, hD1⟩ := hB
    rw [ht] at hP1
    obtain ⟨hP2, hD2⟩ := fs_ok hP hD hC (hlen u) hk hF hP1 hD1
    exact kx E ce q9 u H1 locs1 hX hu hP2 hD2 hS1 g1 g2 g3
  · obtain ⟨hP1, hD1⟩ := hB
    rw [ht] at hP1
    obtain ⟨hP2, hD2⟩ := fs_ok hP hD hC (hlen u) hk hF hP1 hD1
    exact kk r u H1 locs1 hp.1 hp.2.1 hp.2.2 hP2 hD2 hS1
theorem fo_cd {Xc : Option String} {rc : UInt64} {W1 : va_W} {isC : List Nat} (hr : vx_Run p l e R s m args below meth c H locs cells slots mc ms (F0 m pc ls st0) rest (va_Qd (fun r (_ : Unit) => Xc = none ∧ r = rc) (Bt D (fun _ => W1) (va_A wc H.size)) (va_A wc H.size) a) (XB D Xc W1 (va_A wc H.size)) (va_A wc H.size)) (hP : va_P D vwCl ws H) (hD : va_D A ws) (hS : va_S A s.heap H locs) (hA : ∀ q : Nat, s.heap.size ≤ q → A q) (hC : isC.map (fun i => ws[i]?) = wc.map some) (hlen : isC.length = W1.length) {cells' slots' : Nat} (hcs : cells + mc = cells') (hss : slots + ms = slots')
    (kx : ∀ (E : String) (ce : Cell) (q9 : Addr) (H1 : Heap) (locs1 : List Loc), Xc = some E → va_P D vwCl (fs ws isC W1) H1 → va_D A (fs ws isC W1) → va_S A s.heap H1 locs1 → H1[q9]? = some ce → ce.vm = .none → s.vm.findClass E = some ce.cls → vx_W p l e R s m args below meth c H1 locs1 cells' slots' Q (F0 m pc ls rest) q9)
    (kk : ∀ (r : UInt64) (H1 : Heap) (locs1 : List Loc), Xc = none → r = rc → va_P D vwCl (fs ws isC W1) H1 → va_D A (fs ws isC W1) → va_S A s.heap H1 locs1 → W p l e R s m args below meth c H1 locs1 cells' slots' Q (F0 m (pc + 3) ls (.double r :: rest))) : W p l e R s m args below meth c H locs cells slots Q (F0 m pc ls st0) := by
  subst hcs; subst hss
  have hF := va_free hD hS hA isC hC
  refine vx_calld hr hS (fun q _ h => hF q h) hF (fun q _ h => hF q h) (fun E ce q9 u t H1 locs1 ht _ _ hB _ hk hS1 g1 g2 g3 => ?_) (fun r u t H1 locs1 ht _ hp hB _ hk hS1 => ?_)
  · obtain ⟨hX, hP1, hD1⟩ := hB
    rw [ht] at hP1
    obtain ⟨hP2, hD2⟩ := fs_ok hP hD hC hlen hk hF hP1 hD1
    exact kx E ce q9 H1 locs1 hX hP2 hD2 hS1 g1 g2 g3
  · obtain ⟨hP1, hD1⟩ := hB
    rw [ht] at hP1
    obtain ⟨hP2, hD2⟩ := fs_ok hP hD hC hlen hk hF hP1 hD1
    exact kk r H1 locs1 hp.1 hp.2 hP2 hD2 hS1
theorem fo_cf {Xc : Option String} {rc : UInt32} {W1 : va_W} {isC : List Nat} (hr : vx_Run p l e R s m args below meth c H locs cells slots mc ms (F0 m pc ls st0) rest (va_Qf (fun r (_ : Unit) => Xc = none ∧ r = rc) (Bt D (fun _ => W1) (va_A wc H.size)) (va_A wc H.size) a) (XB D Xc W1 (va_A wc H.size)) (va_A wc H.size)) (hP : va_P D vwCl ws H) (hD : va_D A ws) (hS : va_S A s.heap H locs) (hA : ∀ q : Nat, s.heap.size ≤ q → A q) (hC : isC.map (fun i => ws[i]?) = wc.map some) (hlen : isC.length = W1.length) {cells' slots' : Nat} (hcs : cells + mc = cells') (hss : slots + ms = slots')
    (kx : ∀ (E : String) (ce : Cell) (q9 : Addr) (H1 : Heap) (locs1 : List Loc), Xc = some E → va_P D vwCl (fs ws isC W1) H1 → va_D A (fs ws isC W1) → va_S A s.heap H1 locs1 → H1[q9]? = some ce → ce.vm = .none → s.vm.findClass E = some ce.cls → vx_W p l e R s m args below meth c H1 locs1 cells' slots' Q (F0 m pc ls rest) q9)
    (kk : ∀ (r : UInt32) (H1 : Heap) (locs1 : List Loc), Xc = none → r = rc → va_P D vwCl (fs ws isC W1) H1 → va_D A (fs ws isC W1) → va_S A s.heap H1 locs1 → W p l e R s m args below meth c H1 locs1 cells' slots' Q (F0 m (pc + 3) ls (.float r :: rest))) : W p l e R s m args below meth c H locs cells slots Q (F0 m pc ls st0) := by
  subst hcs; subst hss
  have hF := va_free hD hS hA isC hC
  refine vx_callf hr hS (fun q _ h => hF q h) hF (fun q _ h => hF q h) (fun E ce q9 u t H1 locs1 ht _ _ hB _ hk hS1 g1 g2 g3 => ?_) (fun r u t H1 locs1 ht _ hp hB _ hk hS1 => ?_)
  · obtain ⟨hX, hP1, hD1⟩ := hB
    rw [ht] at hP1
    obtain ⟨hP2, hD2⟩ := fs_ok hP hD hC hlen hk hF hP1 hD1
    exact kx E ce q9 H1 locs1 hX hP2 hD2 hS1 g1 g2 g3
  · obtain ⟨hP1, hD1⟩ := hB
    rw [ht] at hP1
    obtain ⟨hP2, hD2⟩ := fs_ok hP hD hC hlen hk hF hP1 hD1
    exact kk r H1 locs1 hp.1 hp.2 hP2 hD2 hS1
end TSwrap2
/-- what may be thrown -/
theorem nb_x {a b : Int32} {E : String} (h : F_X6_needBelow a b = some E) : E = "java/lang/IndexOutOfBoundsException" := by
  unfold F_X6_needBelow at h
  split at h
  · exact (Option.some.inj h).symm
  · exact nomatch h
theorem nr_x {a b c : Int32} {E : String} (h : F_X6_needRange a b c = some E) : E = "java/lang/IllegalArgumentException" := by
  unfold F_X6_needRange at h
  split at h
  · exact (Option.some.inj h).symm
  · exact nomatch h
theorem nt_x {hs fk : Int32} {f : Nat → Int32} {t : Int32} {E : String} (h : F_X6_needTour hs fk f t = some E) : E = "java/lang/IndexOutOfBoundsException" := by
  unfold F_X6_needTour at h
  split at h
  · exact nomatch h
  · exact nb_x h
theorem allow_x {v : Int32} {E : String} (h : F_X6_allow v = some E) : (v = -1 ∧ E = "java/lang/IndexOutOfBoundsException") ∨ (v = -2 ∧ E = "java/lang/IllegalArgumentException") ∨ (¬ v = 0 ∧ E = "java/lang/UnsupportedOperationException") := by
  unfold F_X6_allow at h
  split at h
  · exact Or.inl ⟨by assumption, (Option.some.inj h).symm⟩
  · split at h
    · exact Or.inr (Or.inl ⟨by assumption, (Option.some.inj h).symm⟩)
    · split at h
      · exact nomatch h
      · exact Or.inr (Or.inr ⟨by assumption, (Option.some.inj h).symm⟩)
theorem plan_v (jr jd : Int32) (f : Nat → Int32) (il : Int32) : ¬ (F_X2_planning jr jd f il).1 = -1 := by
  unfold F_X2_planning
  split
  · show ¬ (-2 : Int32) = -1; decide
  · split
    · show ¬ (1 : Int32) = -1; decide
    · show ¬ (0 : Int32) = -1; decide
theorem start_v (jr jd : Int32) (f : Nat → Int32) (it : Int32) : ¬ (F_X2_starting jr jd f it).1 = -2 := by
  unfold F_X2_starting
  split
  · show ¬ (-1 : Int32) = -2; decide
  · split
    · split
      · show ¬ (3 : Int32) = -2; decide
      · show ¬ (0 : Int32) = -2; decide
    · show ¬ (2 : Int32) = -2; decide
theorem back_v (jr jd : Int32) (f : Nat → Int32) (it : Int32) : ¬ (F_X2_callingBack jr jd f it).1 = -2 := by
  unfold F_X2_callingBack
  split
  · show ¬ (-1 : Int32) = -2; decide
  · split
    · show ¬ (0 : Int32) = -2; decide
    · show ¬ (2 : Int32) = -2; decide
theorem shut_v (jr jd : Int32) (f : Nat → Int32) (iw is : Int32) : ¬ (F_X2_shutting jr jd f iw is).1 = -2 := by
  unfold F_X2_shutting
  split
  · show ¬ (-1 : Int32) = -2; decide
  · split
    · split
      · show ¬ (0 : Int32) = -2; decide
      · show ¬ (4 : Int32) = -2; decide
    · split
      · show ¬ (0 : Int32) = -2; decide
      · show ¬ (4 : Int32) = -2; decide
theorem pass_v (jr jd : Int32) (ih : Int32) : F_X2_passing jr jd ih = -2 ∨ F_X2_passing jr jd ih = 0 := by
  unfold F_X2_passing
  split
  · exact Or.inl rfl
  · exact Or.inr rfl
def XU {β : Type} (x : Option String × β) : Prop := ∀ E, x.1 = some E → E = "java/lang/UnsupportedOperationException"
theorem XU_letp {α β : Type} {x : α} {f : α → Option String × β} (h : ∀ p, XU (f p)) : XU (letp x f) := by
  rw [letp_n]; exact h x
theorem XU_if {β : Type} {c : Prop} [Decidable c] {a b : Option String × β} (h1 : XU a) (h2 : XU b) : XU (if c then a else b) := by
  by_cases q : c
  · rw [if_pos q]; exact h1
  · rw [if_neg q]; exact h2
theorem XU_none {β : Type} {y : β} : XU (none, y) := fun _ h => nomatch h
theorem XU_some {β : Type} {y : β} : XU (some "java/lang/UnsupportedOperationException", y) := fun _ h => (Option.some.inj h).symm
theorem XU_read55 (n : Nat) : ∀ (hs fk : Int32) (f : Nat → Int32) (jr jd nx kp : Int32) (g : Nat → Nat → Int32) (f3 : Nat → Int32) (ln tp wd fi tw dy mn vl : Int32) (sg : Nat → Int32) (x1 x2 : Int32), XU (FL_X6_read_55 n hs fk f jr jd nx kp g f3 ln tp wd fi tw dy mn vl sg x1 x2) := by
  induction n with
  | zero => intros; exact XU_none
  | succ n ih =>
    intro hs fk f jr jd nx kp g f3 ln tp wd fi tw dy mn vl sg x1 x2
    rw [FL_X6_read_55]
    exact XU_letp (fun _ => XU_letp (fun _ => XU_if (XU_letp (fun _ => XU_if (XU_letp fun _ => XU_letp fun _ => XU_none) (XU_letp fun _ => XU_if (XU_letp fun _ => XU_letp fun _ => XU_none) (ih _ _ _ _ _ _ _ _ _ _ _ _ _ _ _ _ _ _ _ _)))) (XU_letp fun _ => XU_some)))
def XV {β : Type} (x : Option String × β) : Prop := ∀ E, x.1 = some E → E = "java/lang/IllegalArgumentException" ∨ E = "java/lang/UnsupportedOperationException"
theorem XV_letp {α β : Type} {x : α} {f : α → Option String × β} (h : ∀ p, XV (f p)) : XV (letp x f) := by
  rw [letp_n]; exact h x
theorem XV_if {β : Type} {c : Prop} [Decidable c] {a b : Option String × β} (h1 : XV a) (h2 : XV b) : XV (if c then a else b) := by
  by_cases q : c
  · rw [if_pos q]; exact h1
  · rw [if_neg q]; exact h2
theorem XV_of {β : Type} {x : Option String × β} (h : XU x) : XV x := fun E e => Or.inr (h E e)
theorem XV_some {β : Type} {y : β} : XV (some "java/lang/IllegalArgumentException", y) := fun _ h => Or.inl (Option.some.inj h).symm
theorem XS_read55 (n : Nat) (hs fk : Int32) (f : Nat → Int32) (jr jd nx kp : Int32) (g : Nat → Nat → Int32) (f3 : Nat → Int32) (ln tp wd fi tw dy mn vl : Int32) (sg : Nat → Int32) (x1 x2 : Int32) (E : String) (h : (FL_X6_read_55 n hs fk f jr jd nx kp g f3 ln tp wd fi tw dy mn vl sg x1 x2).1 = some E) : E = "java/lang/UnsupportedOperationException" := XU_read55 n hs fk f jr jd nx kp g f3 ln tp wd fi tw dy mn vl sg x1 x2 E h

end TSwrap
