/-! CALLS OF THE LAW'S METHODS over an object that stands first in the world. -/
section TSlcall
abbrev iL : List Nat := [0, 1, 2, 3, 4, 5, 6, 7, 8, 9, 10, 11, 12, 13, 14, 15, 16, 17, 18, 19, 20, 21, 22, 23, 24, 25, 26, 27, 28, 29, 30, 31, 32, 33, 34]
theorem WT_len (k : tyK) (ad : Nat → Nat) (σ : TSt) : iL.length = (WT k ad σ).length := by
  obtain ⟨hs, fk, f, f2, f3, f4, jr, jd, nx, kp, g, ln, tp, wd, fi, tw, dy, mn, vl, sg, ml, txt, q, cap, yb⟩ := σ
  rfl
theorem iL_C (k : tyK) (ad : Nat → Nat) (σ : TSt) (wr : va_W) : iL.map (fun i => (WT k ad σ ++ wr)[i]?) = (WT k ad σ).map some := by
  obtain ⟨hs, fk, f, f2, f3, f4, jr, jd, nx, kp, g, ln, tp, wd, fi, tw, dy, mn, vl, sg, ml, txt, q, cap, yb⟩ := σ
  rfl
theorem fs_run : ∀ (w w' u wr : va_W), w.length = w'.length → fs (u ++ (w ++ wr)) (List.range' u.length w.length) w' = u ++ (w' ++ wr)
  | [], [], u, wr, _ => rfl
  | [], _ :: _, _, _, h => absurd h (by simp)
  | _ :: _, [], _, _, h => absurd h (by simp)
  | x :: w, y :: w', u, wr, h => by
    show fs ((u ++ (x :: (w ++ wr))).set u.length y) (List.range' (u.length + 1) w.length) w' = _
    have e : (u ++ (x :: (w ++ wr))).set u.length y = (u ++ [y]) ++ (w ++ wr) := by
      rw [List.set_append_right _ _ (Nat.le_refl _), Nat.sub_self]
      simp
    rw [e]
    have ih := fs_run w w' (u ++ [y]) wr (by simpa using h)
    rw [List.length_append] at ih
    exact ih.trans (by simp)
theorem iL_fs (k : tyK) (ad : Nat → Nat) (σ σ' : TSt) (wr : va_W) : fs (WT k ad σ ++ wr) iL (WT k ad σ') = WT k ad σ' ++ wr := by
  have e : iL = List.range' ([] : va_W).length (WT k ad σ).length := by rw [← WT_len k ad σ]; rfl
  rw [e]
  exact fs_run (WT k ad σ) (WT k ad σ') [] wr ((WT_len k ad σ).symm.trans (WT_len k ad σ'))
theorem iL_nd : va_nd iL = true := by decide
def FCl {S : Type} (l : Launch) (y : MethodName) (ws : List Cond) (rm : Room) (D : va_G) (k : tyK) (av : List Value) (W0 : va_W) (post : Int64 → S → Prop) (W1 : S → va_W) : Prop :=
  ∀ sz : Nat, Met l y ws rm (va_Pc av (PcW D k W0 sz)) (va_Ql post (Bt D W1 (va_A W0 sz)) (va_A W0 sz)) rm.cells rm.slots (va_A W0 sz)
def LCl (l : Launch) (y : MethodName) (ws : List Cond) (rm : Room) (D : va_G) (k : tyK) (ad : Nat → Nat) (args : List Value) (a : Abs) (post : Int64 → Abs → Prop) : Prop :=
  ∀ σ, Rep σ a → FCl l y ws rm D k (.ref (ad 0) :: args) (WT k ad σ) (fun r (u : TSt × Abs) => post r u.2 ∧ Rep u.1 u.2) (fun u => WT k ad u.1)
section TSlc2
variable {p : Program} {l : Launch} {e : Env} {R : Room} {s : State} {m : MethodId} {args : Array Value} {below : List Frame} {meth : Method} {c : Code} {H : Heap} {locs : List Loc} {cells slots : Nat} {Q : State → Prop} {D : va_G} {k : tyK} {A : Nat → Prop} {cc : ByteArray} {pc : Nat} {ls : Array Slot} {rest st0 : List Value} {a0 : Array Value} {mc ms : Nat} {wr : va_W}
  {Ts wsy ws' : List Cond} {own : String} {index n nL maxL : Nat} {y : MethodName} {bytes : ByteArray} {ret : Option FieldType} {rm : Room} {As : List Value} {lv : List (Nat × Value)} {hh : List (Nat × Nat × Nat × Nat)} {ad : Nat → Nat} {σ : TSt} {a : Abs}
theorem fc_lret {S : Type} {post : Int64 → S → Prop} {W1 : S → va_W} {v : Int64} (hx : p.tables.exec = Jvm.exec) (hb : c.code = cc) (hr : meth.sig.returnType = some .long) (hl : meth.locks = false) (hS : va_S A s.heap H locs) (u : S) (hpost : post v u) (hP : va_P D vwCl (W1 u) H) (hD : va_D A (W1 u)) (h1 : cells ≤ mc) (h2 : slots ≤ ms) (hdg : decode cc pc = .ok (.lreturn, 1)) :
    W p l e R s m args below meth c H locs cells slots (MQ below (va_Ql post (Bt D W1 A) A) args s mc ms A) (F0 m pc ls [.long v]) :=
  W.widen h1 h2 (W.lret hx hb hr (fun t ht _ => ⟨⟨v, u, rfl, hpost, by rw [Bt, ht]; exact ⟨hP, hD⟩⟩, hS.F ht⟩) hS.2.2 hdg hl)
/-- behind a call with an int answer -/
theorem lc_ci {post : Int32 → Abs → Prop} (hr : va_Run p l e R s m args below meth c H locs cells slots mc ms (F0 m pc ls st0) rest (va_Qi (fun r (u : TSt × Abs) => post r u.2 ∧ Rep u.1 u.2) (Bt D (fun u => WT k ad u.1) (va_A (WT k ad σ) H.size)) (va_A (WT k ad σ) H.size) a0) (va_A (WT k ad σ) H.size)) (hP : va_P D vwCl (WT k ad σ ++ wr) H) (hD : va_D A (WT k ad σ ++ wr)) (hS : va_S A s.heap H locs) (hA : ∀ q : Nat, s.heap.size ≤ q → A q) {cells' slots' : Nat} (hcs : cells + mc = cells') (hss : slots + ms = slots')
    (kk : ∀ (r : Int32) (σ' : TSt) (a' : Abs) (H1 : Heap) (locs1 : List Loc), post r a' → Rep σ' a' → va_P D vwCl (WT k ad σ' ++ wr) H1 → va_D A (WT k ad σ' ++ wr) → va_S A s.heap H1 locs1 → W p l e R s m args below meth c H1 locs1 cells' slots' Q (F0 m (pc + 3) ls (.int r :: rest))) : W p l e R s m args below meth c H locs cells slots Q (F0 m pc ls st0) :=
  fc_ci (isC := iL) hr hP hD hS hA (iL_C k ad σ wr) (fun u => WT_len k ad u.1) hcs hss (fun r u H1 locs1 hp hP1 hD1 hS1 => by
    rw [iL_fs] at hP1 hD1
    exact kk r u.1 u.2 H1 locs1 hp.1 hp.2 hP1 hD1 hS1)
/-- with a long, a double, a float -/
theorem fc_cl {S : Type} {ws wc : va_W} {post : Int64 → S → Prop} {W1 : S → va_W} {isC : List Nat} (hr : va_Run p l e R s m args below meth c H locs cells slots mc ms (F0 m pc ls st0) rest (va_Ql post (Bt D W1 (va_A wc H.size)) (va_A wc H.size) a0) (va_A wc H.size)) (hP : va_P D vwCl ws H) (hD : va_D A ws) (hS : va_S A s.heap H locs) (hA : ∀ q : Nat, s.heap.size ≤ q → A q) (hC : isC.map (fun i => ws[i]?) = wc.map some) (hlen : ∀ u, isC.length = (W1 u).length) {cells' slots' : Nat} (hcs : cells + mc = cells') (hss : slots + ms = slots')
    (kk : ∀ (r : Int64) (u : S) (H1 : Heap) (locs1 : List Loc), post r u → va_P D vwCl (fs ws isC (W1 u)) H1 → va_D A (fs ws isC (W1 u)) → va_S A s.heap H1 locs1 → W p l e R s m args below meth c H1 locs1 cells' slots' Q (F0 m (pc + 3) ls (.long r :: rest))) : W p l e R s m args below meth c H locs cells slots Q (F0 m pc ls st0) := by
  subst hcs; subst hss
  have hF := va_free hD hS hA isC hC
  refine va_calll hr hS (fun q _ h => hF q h) hF (fun r u t H1 locs1 ht _ hp hB _ hk hS1 => ?_)
  obtain ⟨hP1, hD1⟩ := hB
  rw [ht] at hP1
  obtain ⟨hP2, hD2⟩ := fs_ok hP hD hC (hlen u) hk hF hP1 hD1
  exact kk r u H1 locs1 hp hP2 hD2 hS1
theorem fc_cd {S : Type} {ws wc : va_W} {post : UInt64 → S → Prop} {W1 : S → va_W} {isC : List Nat} (hr : va_Run p l e R s m args below meth c H locs cells slots mc ms (F0 m pc ls st0) rest (va_Qd post (Bt D W1 (va_A wc H.size)) (va_A wc H.size) a0) (va_A wc H.size)) (hP : va_P D vwCl ws H) (hD : va_D A ws) (hS : va_S A s.heap H locs) (hA : ∀ q : Nat, s.heap.size ≤ q → A q) (hC : isC.map (fun i => ws[i]?) = wc.map some) (hlen : ∀ u, isC.length = (W1 u).length) {cells' slots' : Nat} (hcs : cells + mc = cells') (hss : slots + ms = slots')
    (kk : ∀ (r : UInt64) (u : S) (H1 : Heap) (locs1 : List Loc), post r u → va_P D vwCl (fs ws isC (W1 u)) H1 → va_D A (fs ws isC (W1 u)) → va_S A s.heap H1 locs1 → W p l e R s m args below meth c H1 locs1 cells' slots' Q (F0 m (pc + 3) ls (.double r :: rest))) : W p l e R s m args below meth c H locs cells slots Q (F0 m pc ls st0) := by
  subst hcs; subst hss
  have hF := va_free hD hS hA isC hC
  refine va_calld hr hS (fun q _ h => hF q h) hF (fun r u t H1 locs1 ht _ hp hB _ hk hS1 => ?_)
  obtain ⟨hP1, hD1⟩ := hB
  rw [ht] at hP1
  obtain ⟨hP2, hD2⟩ := fs_ok hP hD hC (hlen u) hk hF hP1 hD1
  exact kk r u H1 locs1 hp hP2 hD2 hS1
theorem fc_cf {S : Type} {ws wc : va_W} {post : UInt32 → S → Prop} {W1 : S → va_W} {isC : List Nat} (hr : va_Run p l e R s m args below meth c H locs cells slots mc ms (F0 m pc ls st0) rest (va_Qf post (Bt D W1 (va_A wc H.size)) (va_A wc H.size) a0) (va_A wc H.size)) (hP : va_P D vwCl ws H) (hD : va_D A ws) (hS : va_S A s.heap H locs) (hA : ∀ q : Nat, s.heap.size ≤ q → A q) (hC : isC.map (fun i => ws[i]?) = wc.map some) (hlen : ∀ u, isC.length = (W1 u).length) {cells' slots' : Nat} (hcs : cells + mc = cells') (hss : slots + ms = slots')
    (kk : ∀ (r : UInt32) (u : S) (H1 : Heap) (locs1 : List Loc), post r u → va_P D vwCl (fs ws isC (W1 u)) H1 → va_D A (fs ws isC (W1 u)) → va_S A s.heap H1 locs1 → W p l e R s m args below meth c H1 locs1 cells' slots' Q (F0 m (pc + 3) ls (.float r :: rest))) : W p l e R s m args below meth c H locs cells slots Q (F0 m pc ls st0) := by
  subst hcs; subst hss
  have hF := va_free hD hS hA isC hC
  refine va_callf hr hS (fun q _ h => hF q h) hF (fun r u t H1 locs1 ht _ hp hB _ hk hS1 => ?_)
  obtain ⟨hP1, hD1⟩ := hB
  rw [ht] at hP1
  obtain ⟨hP2, hD2⟩ := fs_ok hP hD hC (hlen u) hk hF hP1 hD1
  exact kk r u H1 locs1 hp hP2 hD2 hS1
theorem lc_cl {post : Int64 → Abs → Prop} (hr : va_Run p l e R s m args below meth c H locs cells slots mc ms (F0 m pc ls st0) rest (va_Ql (fun r (u : TSt × Abs) => post r u.2 ∧ Rep u.1 u.2) (Bt D (fun u => WT k ad u.1) (va_A (WT k ad σ) H.size)) (va_A (WT k ad σ) H.size) a0) (va_A (WT k ad σ) H.size)) (hP : va_P D vwCl (WT k ad σ ++ wr) H) (hD : va_D A (WT k ad σ ++ wr)) (hS : va_S A s.heap H locs) (hA : ∀ q : Nat, s.heap.size ≤ q → A q) {cells' slots' : Nat} (hcs : cells + mc = cells') (hss : slots + ms = slots')
    (kk : ∀ (r : Int64) (σ' : TSt) (a' : Abs) (H1 : Heap) (locs1 : List Loc), post r a' → Rep σ' a' → va_P D vwCl (WT k ad σ' ++ wr) H1 → va_D A (WT k ad σ' ++ wr) → va_S A s.heap H1 locs1 → W p l e R s m args below meth c H1 locs1 cells' slots' Q (F0 m (pc + 3) ls (.long r :: rest))) : W p l e R s m args below meth c H locs cells slots Q (F0 m pc ls st0) :=
  fc_cl (isC := iL) hr hP hD hS hA (iL_C k ad σ wr) (fun u => WT_len k ad u.1) hcs hss (fun r u H1 locs1 hp hP1 hD1 hS1 => by
    rw [iL_fs] at hP1 hD1
    exact kk r u.1 u.2 H1 locs1 hp.1 hp.2 hP1 hD1 hS1)
/-- the calls: of a method with handlers, of a plain one; any world -/
theorem fc_runSW {ws wc : va_W} {Qc : Array Value → State → Outcome → State → Prop} {free : Addr → Prop} {isC : List Nat} (S : CallFix p m c cc nL s args Ts own) (hM : Met l y wsy rm (va_Pc As (PcW D k wc H.size)) Qc rm.cells rm.slots free) (hG : GoodIn Ts (va_wsS own index y wsy)) (hw : wsy = Cond.codeWith y bytes maxL ret hh :: ws') (hd : y.cls ≠ "java/lang/invoke/MethodHandle" ∧ y.cls ≠ "java/lang/invoke/VarHandle" ∧ (parseMethodDescriptor y.desc).map (fun d => d.parameters.length) = some n) (hn : As.length = n) (hR : rm.frames + 1 ≤ R.frames ∧ 8 + (maxL + 11) + rm.locals ≤ R.locals) (hf : cells + rm.cells ≤ R.cells ∧ slots + rm.slots ≤ R.slots) (hE : GE D k A s) (hP : va_P D vwCl ws H) (hD : va_D A ws) (hS : va_S A s.heap H locs) (hA : ∀ q : Nat, s.heap.size ≤ q → A q) (hC : isC.map (fun i => ws[i]?) = wc.map some) (hnd : va_nd isC = true) (hl : lv_has ls nL lv) (hstack : st0 = As.reverse ++ rest) (hst : (rest.map fun v => v.category).sum ≤ 8) (hdg : decode cc pc = .ok (.invokestatic index, 3)) :
    va_Run p l e R s m args below meth c H locs cells slots rm.cells rm.slots (F0 m pc ls st0) rest (Qc As.toArray) free :=
  vx_runSW S hM (vx_cwSW n S.2.2.2.2 hG hw rfl rfl hd hR) ⟨PcW_blind _, fc_pre hE hP hD hS hA hC hnd _⟩ rfl hn hl.1 hstack (lv_room hst) hdg hf
end TSlc2
/-- the rest of a division -/
theorem rem_bd (x : Int32) {m : Nat} (h0 : 0 < m) (hm : m < 1000) : -(m : Int) < (x - x / nI m * nI m).toInt ∧ (x - x / nI m * nI m).toInt < m := by
  have hx1 := Int32.toInt_lt x
  have hx2 := Int32.le_toInt x
  have hmi : (nI m).toInt = (m : Int) := nI_toInt (by omega)
  have hmp : (0 : Int) < (m : Int) := by omega
  have a1 := Int.tmod_lt_of_pos x.toInt hmp
  have a2 := Int.lt_tmod_of_pos x.toInt hmp
  have a3 := Int.tmod_def x.toInt (m : Int)
  have a4 := Int.natAbs_tdiv_le_natAbs x.toInt (m : Int)
  have e1 : (x / nI m).toInt = x.toInt.tdiv m := by
    rw [Int32.toInt_div_of_ne_right _ _ (fun h => by have := congrArg Int32.toInt h; rw [hmi, show (-1 : Int32).toInt = -1 from rfl] at this; omega), hmi]
  have hprod : x.toInt.tdiv m * m = x.toInt - x.toInt.tmod m := by
    rw [a3, Int.mul_comm]; omega
  have hn : (x.toInt.tdiv m * m).natAbs ≤ x.toInt.natAbs := by
    rw [Int.natAbs_mul, Int.natAbs_tdiv]
    exact Nat.div_mul_le_self _ _
  have e2 : (x / nI m * nI m).toInt = x.toInt.tdiv m * m := by
    rw [Int32.toInt_mul, e1, hmi]
    exact Int.bmod_eq_of_le (by omega) (by omega)
  have e3 : (x - x / nI m * nI m).toInt = x.toInt.tmod m := by
    rw [Int32.toInt_sub, e2]
    have : x.toInt - x.toInt.tdiv m * m = x.toInt.tmod m := by omega
    rw [this]
    exact Int.bmod_eq_of_le (by omega) (by omega)
  rw [e3]
  exact ⟨a2, a1⟩
theorem some_ok (x : Int32) {m : Nat} (h0 : 0 < m) (hm : m < 1000) : (¬ (x - x / nI m * nI m) < 0 → ∃ q, q < m ∧ x - x / nI m * nI m = nI q) ∧ ((x - x / nI m * nI m) < 0 → ∃ q, q < m ∧ x - x / nI m * nI m + nI m = nI q) := by
  obtain ⟨a, b⟩ := rem_bd x h0 hm
  generalize x - x / nI m * nI m = r at a b
  refine ⟨fun h => ?_, fun h => ?_⟩
  · obtain ⟨j, hj, rfl⟩ := nI_of h
    rw [nI_toInt hj] at b
    exact ⟨j, by omega, rfl⟩
  · have hr : r.toInt < 0 := by
      have := Int32.lt_iff_toInt_lt.mp h
      exact this
    refine ⟨(r.toInt + m).toNat, by omega, Int32.toInt_inj.mp ?_⟩
    rw [Int32.toInt_add, nI_toInt (by omega), nI_toInt (by omega), Int.bmod_eq_of_le (by omega) (by omega)]
    omega
end TSlcall
