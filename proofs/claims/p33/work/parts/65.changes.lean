/-! THE LAW'S changes. -/
section TSchanges
def CHG (a : Abs) (r : Int32) (a' : Abs) : Prop := GD a' ∧ ((r = 0 ∧ a'.1 = a.1 ∧ a'.2.1 = a.2.1 ∧ a'.2.2.1 = a.2.2.1) ∨ (r = 1 ∧ a'.2.1 = push a.1 a.2.1 ∧ a'.2.2.1 = a.2.2.1))
theorem CHD_lt {a : Abs} {x : Int32 × Abs} (h : CHD a x) (hn : x.1 < 0) : CHG a 0 x.2 := by
  obtain ⟨h1, h2 | h2⟩ := h
  · exact ⟨h1, Or.inl ⟨rfl, h2.2⟩⟩
  · exact absurd hn h2.1
theorem CHD_ge {a : Abs} {x : Int32 × Abs} (h : CHD a x) (hn : ¬ x.1 < 0) : CHG a 1 x.2 := by
  obtain ⟨h1, h2 | h2⟩ := h
  · exact absurd h2.1 hn
  · exact ⟨h1, Or.inr ⟨rfl, h2.2⟩⟩
theorem in_changes_J4 : ∀ w ∈ wsJ40, w ∈ wsL_changes := fun _ h => (List.mem_cons_of_mem _ (List.mem_append_left _ (List.mem_append_left _ (List.mem_append_left _ (List.mem_append_left _ (List.mem_append_left _ (List.mem_append_left _ (List.mem_append_left _ (List.mem_append_left _ (List.mem_append_left _ (List.mem_append_left _ (List.mem_append_left _ (List.mem_append_left _ (List.mem_append_left _ (List.mem_append_right _ h)))))))))))))))
abbrev rm_L_changes : Room := { frames := 11, cells := 71, slots := 1248, locals := 254 }
set_option maxRecDepth 100000 in
set_option maxHeartbeats 8000000 in
theorem bC_88 {p : Program} {l : Launch} {e : Env} {s : State} {m : MethodId} {args : Array Value} {below : List Frame} {meth : Method} {c : Code} {D : va_G} {k : tyK} {A : Nat → Prop} (hx : p.tables.exec = Jvm.exec) (hb : c.code = cL_changes) (hml : c.maxLocals = 3) (hr : meth.sig.returnType = some .boolean) (hlk : meth.locks = false) (hts : ∀ w ∈ wsL_changes, w.before args s = true) (hown : s.vm.findClass RL = some m.cls) (hA : ∀ q : Nat, s.heap.size ≤ q → A q) (hE : GE D k A s) (hlst : l.stackTraces = false) (ad : Nat → Nat) {a : Abs} (hG : GD a) {t : Nat} (ht : t < 7) (x : Int32) (σ : TSt) (H : Heap) (locs : List Loc) (ls : Array Slot) (hR : Rep σ a) (hP : va_P D vwCl (WT k ad σ ++ ([] : va_W)) H) (hD : va_D A (WT k ad σ ++ ([] : va_W))) (hS : va_S A s.heap H locs) (hl : lv_has ls 3 [(2, .int (nI t)), (0, .ref (ad 0)), (1, .int x)]) : W p l e rm_L_changes s m args below meth c H locs 1 6 (MQ below (va_Qi (fun r (u : TSt × Abs) => CHG a r u.2 ∧ Rep u.1 u.2) (Bt D (fun u => WT k ad u.1) A) A) args s rm_L_changes.cells rm_L_changes.slots A) (F0 m 88 ls []) := by
  refine lv_aload_n hx hb dL_changes_88 rfl (lv_at hl 1 rfl) ?_
  refine lv_iload_n hx hb dL_changes_89 rfl (lv_at hl 2 rfl) ?_
  refine lv_iconst (v := 4) hx hb dL_changes_90 (by decide) ?_
  refine lv_ishr hx hb dL_changes_91 ?_
  refine lv_bipush (v := 6) hx hb dL_changes_92 (by decide) ?_
  obtain ⟨q1, hq1, eq1⟩ := some_lt (x >>> ((4 : Int32) &&& 31)) (n := 6) (by omega) (by omega)
  refine fc_c0 (cells' := 1) (slots' := 6) (fc_runS (n := 2) (As := [.int (x >>> ((4 : Int32) &&& 31)), .int (6 : Int32)]) (rest := [.ref (ad 0)]) (isC := []) (maxL := 3) ⟨hx, hb, hml, hown, hts⟩ (FCi.to0 (c_L_some (k := k) (D := D) (l := l) (x >>> ((4 : Int32) &&& 31)) 6 (by omega) (by omega)) eq1 H.size) gL_changes_L_some rfl (by decide +kernel) rfl ⟨Nat.le_of_ble_eq_true rfl, Nat.le_of_ble_eq_true rfl⟩ ⟨Nat.le_of_ble_eq_true rfl, Nat.le_of_ble_eq_true rfl⟩ hE hP hD hS hA rfl rfl hl rfl (Nat.le_of_ble_eq_true rfl) dL_changes_94) hP hD hS hA rfl rfl (fun H locs hP hD hS => ?_)
  have hC : CHD a (A_tour a (nI q1)) := CHD_tour hG (by omega)
  refine lc_k (v := (A_tour a (nI q1)).1) (a1 := (A_tour a (nI q1)).2) (cells' := 2) (slots' := 12) (fc_runSW (n := 2) (As := [.ref (ad 0), .int (nI q1)]) (rest := []) (isC := iL) (maxL := 3) ⟨hx, hb, hml, hown, hts⟩ (LC_tour hlst ad a (nI q1) σ hR H.size) gL_changes_L_tour rfl (by decide +kernel) rfl ⟨Nat.le_of_ble_eq_true rfl, Nat.le_of_ble_eq_true rfl⟩ ⟨Nat.le_of_ble_eq_true rfl, Nat.le_of_ble_eq_true rfl⟩ hE hP hD hS hA (iL_C k ad σ ([] : va_W)) iL_nd hl rfl (Nat.le_of_ble_eq_true rfl) dL_changes_97) hP hD hS hA rfl rfl (fun σ H locs hR hP hD hS => ?_)
  generalize A_tour a (nI q1) = xr at hC hR ⊢
  refine lv_if_lt (tgt := 107) hx hb dL_changes_100 (by decide) (fun hn => ?_) (fun hn => ?_)
  · skip
    refine lv_iconst (v := 0) hx hb dL_changes_107 (by decide) ?_
    exact fc_iret hx hb hr rfl hlk hS (σ, xr.2) ⟨CHD_lt hC hn, hR⟩ (hP.sub (ws' := WT k ad σ) iL (iL_f k ad σ ([] : va_W))) (hD.sub (ws' := WT k ad σ) iL iL_nd (iL_C k ad σ ([] : va_W))) (by decide) (by decide) dL_changes_108
  · skip
    refine lv_iconst (v := 1) hx hb dL_changes_103 (by decide) ?_
    refine lv_goto (tgt := 108) hx hb dL_changes_104 (by decide) ?_
    exact fc_iret hx hb hr rfl hlk hS (σ, xr.2) ⟨CHD_ge hC hn, hR⟩ (hP.sub (ws' := WT k ad σ) iL (iL_f k ad σ ([] : va_W))) (hD.sub (ws' := WT k ad σ) iL iL_nd (iL_C k ad σ ([] : va_W))) (by decide) (by decide) dL_changes_108
set_option maxRecDepth 100000 in
set_option maxHeartbeats 8000000 in
theorem bC_109 {p : Program} {l : Launch} {e : Env} {s : State} {m : MethodId} {args : Array Value} {below : List Frame} {meth : Method} {c : Code} {D : va_G} {k : tyK} {A : Nat → Prop} (hx : p.tables.exec = Jvm.exec) (hb : c.code = cL_changes) (hml : c.maxLocals = 3) (hr : meth.sig.returnType = some .boolean) (hlk : meth.locks = false) (hts : ∀ w ∈ wsL_changes, w.before args s = true) (hown : s.vm.findClass RL = some m.cls) (hA : ∀ q : Nat, s.heap.size ≤ q → A q) (hE : GE D k A s) (hlst : l.stackTraces = false) (ad : Nat → Nat) {a : Abs} (hG : GD a) {t : Nat} (ht : t < 7) (x : Int32) (σ : TSt) (H : Heap) (locs : List Loc) (ls : Array Slot) (hR : Rep σ a) (hP : va_P D vwCl (WT k ad σ ++ ([] : va_W)) H) (hD : va_D A (WT k ad σ ++ ([] : va_W))) (hS : va_S A s.heap H locs) (hl : lv_has ls 3 [(2, .int (nI t)), (0, .ref (ad 0)), (1, .int x)]) : W p l e rm_L_changes s m args below meth c H locs 1 6 (MQ below (va_Qi (fun r (u : TSt × Abs) => CHG a r u.2 ∧ Rep u.1 u.2) (Bt D (fun u => WT k ad u.1) A) A) args s rm_L_changes.cells rm_L_changes.slots A) (F0 m 109 ls []) := by
  refine lv_aload_n hx hb dL_changes_109 rfl (lv_at hl 1 rfl) ?_
  refine lv_iload_n hx hb dL_changes_110 rfl (lv_at hl 0 rfl) ?_
  refine lv_iload_n hx hb dL_changes_111 rfl (lv_at hl 2 rfl) ?_
  refine lv_bipush (v := 6) hx hb dL_changes_112 (by decide) ?_
  refine lv_ishr hx hb dL_changes_114 ?_
  refine lv_iconst (v := 4) hx hb dL_changes_115 (by decide) ?_
  obtain ⟨q1, hq1, eq1⟩ := some_lt (x >>> ((6 : Int32) &&& 31)) (n := 4) (by omega) (by omega)
  refine fc_c0 (cells' := 1) (slots' := 6) (fc_runS (n := 2) (As := [.int (x >>> ((6 : Int32) &&& 31)), .int (4 : Int32)]) (rest := [.int (nI t), .ref (ad 0)]) (isC := []) (maxL := 3) ⟨hx, hb, hml, hown, hts⟩ (FCi.to0 (c_L_some (k := k) (D := D) (l := l) (x >>> ((6 : Int32) &&& 31)) 4 (by omega) (by omega)) eq1 H.size) gL_changes_L_some rfl (by decide +kernel) rfl ⟨Nat.le_of_ble_eq_true rfl, Nat.le_of_ble_eq_true rfl⟩ ⟨Nat.le_of_ble_eq_true rfl, Nat.le_of_ble_eq_true rfl⟩ hE hP hD hS hA rfl rfl hl rfl (Nat.le_of_ble_eq_true rfl) dL_changes_116) hP hD hS hA rfl rfl (fun H locs hP hD hS => ?_)
  refine lv_iload_n hx hb dL_changes_119 rfl (lv_at hl 2 rfl) ?_
  refine lv_bipush (v := 7) hx hb dL_changes_120 (by decide) ?_
  refine lv_ishr hx hb dL_changes_122 ?_
  refine lv_bipush (v := 6) hx hb dL_changes_123 (by decide) ?_
  obtain ⟨q2, hq2, eq2⟩ := some_lt (x >>> ((7 : Int32) &&& 31)) (n := 6) (by omega) (by omega)
  refine fc_c0 (cells' := 1) (slots' := 6) (fc_runS (n := 2) (As := [.int (x >>> ((7 : Int32) &&& 31)), .int (6 : Int32)]) (rest := [.int (nI q1), .int (nI t), .ref (ad 0)]) (isC := []) (maxL := 3) ⟨hx, hb, hml, hown, hts⟩ (FCi.to0 (c_L_some (k := k) (D := D) (l := l) (x >>> ((7 : Int32) &&& 31)) 6 (by omega) (by omega)) eq2 H.size) gL_changes_L_some rfl (by decide +kernel) rfl ⟨Nat.le_of_ble_eq_true rfl, Nat.le_of_ble_eq_true rfl⟩ ⟨Nat.le_of_ble_eq_true rfl, Nat.le_of_ble_eq_true rfl⟩ hE hP hD hS hA rfl rfl hl rfl (Nat.le_of_ble_eq_true rfl) dL_changes_125) hP hD hS hA rfl rfl (fun H locs hP hD hS => ?_)
  refine lv_iload_n hx hb dL_changes_128 rfl (lv_at hl 2 rfl) ?_
  refine lv_bipush (v := 8) hx hb dL_changes_129 (by decide) ?_
  refine lv_ishr hx hb dL_changes_131 ?_
  refine lv_bipush (v := 22) hx hb dL_changes_132 (by decide) ?_
  obtain ⟨q3, hq3, eq3⟩ := some_lt (x >>> ((8 : Int32) &&& 31)) (n := 22) (by omega) (by omega)
  refine fc_c0 (cells' := 1) (slots' := 6) (fc_runS (n := 2) (As := [.int (x >>> ((8 : Int32) &&& 31)), .int (22 : Int32)]) (rest := [.int (nI q2), .int (nI q1), .int (nI t), .ref (ad 0)]) (isC := []) (maxL := 3) ⟨hx, hb, hml, hown, hts⟩ (FCi.to0 (c_L_some (k := k) (D := D) (l := l) (x >>> ((8 : Int32) &&& 31)) 22 (by omega) (by omega)) eq3 H.size) gL_changes_L_some rfl (by decide +kernel) rfl ⟨Nat.le_of_ble_eq_true rfl, Nat.le_of_ble_eq_true rfl⟩ ⟨Nat.le_of_ble_eq_true rfl, Nat.le_of_ble_eq_true rfl⟩ hE hP hD hS hA rfl rfl hl rfl (Nat.le_of_ble_eq_true rfl) dL_changes_134) hP hD hS hA rfl rfl (fun H locs hP hD hS => ?_)
  refine lv_iload_n hx hb dL_changes_137 rfl (lv_at hl 2 rfl) ?_
  refine lv_bipush (v := 9) hx hb dL_changes_138 (by decide) ?_
  refine lv_ishr hx hb dL_changes_140 ?_
  refine lv_iconst (v := 4) hx hb dL_changes_141 (by decide) ?_
  obtain ⟨q4, hq4, eq4⟩ := some_lt (x >>> ((9 : Int32) &&& 31)) (n := 4) (by omega) (by omega)
  refine fc_c0 (cells' := 1) (slots' := 6) (fc_runS (n := 2) (As := [.int (x >>> ((9 : Int32) &&& 31)), .int (4 : Int32)]) (rest := [.int (nI q3), .int (nI q2), .int (nI q1), .int (nI t), .ref (ad 0)]) (isC := []) (maxL := 3) ⟨hx, hb, hml, hown, hts⟩ (FCi.to0 (c_L_some (k := k) (D := D) (l := l) (x >>> ((9 : Int32) &&& 31)) 4 (by omega) (by omega)) eq4 H.size) gL_changes_L_some rfl (by decide +kernel) rfl ⟨Nat.le_of_ble_eq_true rfl, Nat.le_of_ble_eq_true rfl⟩ ⟨Nat.le_of_ble_eq_true rfl, Nat.le_of_ble_eq_true rfl⟩ hE hP hD hS hA rfl rfl hl rfl (Nat.le_of_ble_eq_true rfl) dL_changes_142) hP hD hS hA rfl rfl (fun H locs hP hD hS => ?_)
  have hC : CHD a (A_step a (nI t) (nI q1) (nI q2) (nI q3) (nI q4)) := CHD_step hG (by omega) (by omega) (by omega) (by omega) (by omega)
  refine lc_k (v := (A_step a (nI t) (nI q1) (nI q2) (nI q3) (nI q4)).1) (a1 := (A_step a (nI t) (nI q1) (nI q2) (nI q3) (nI q4)).2) (cells' := 2) (slots' := 12) (fc_runSW (n := 6) (As := [.ref (ad 0), .int (nI t), .int (nI q1), .int (nI q2), .int (nI q3), .int (nI q4)]) (rest := []) (isC := iL) (maxL := 7) ⟨hx, hb, hml, hown, hts⟩ (LC_step hlst ad a (nI t) (nI q1) (nI q2) (nI q3) (nI q4) σ hR H.size) gL_changes_L_step rfl (by decide +kernel) rfl ⟨Nat.le_of_ble_eq_true rfl, Nat.le_of_ble_eq_true rfl⟩ ⟨Nat.le_of_ble_eq_true rfl, Nat.le_of_ble_eq_true rfl⟩ hE hP hD hS hA (iL_C k ad σ ([] : va_W)) iL_nd hl rfl (Nat.le_of_ble_eq_true rfl) dL_changes_145) hP hD hS hA rfl rfl (fun σ H locs hR hP hD hS => ?_)
  generalize A_step a (nI t) (nI q1) (nI q2) (nI q3) (nI q4) = xr at hC hR ⊢
  refine lv_if_lt (tgt := 155) hx hb dL_changes_148 (by decide) (fun hn => ?_) (fun hn => ?_)
  · skip
    refine lv_iconst (v := 0) hx hb dL_changes_155 (by decide) ?_
    exact fc_iret hx hb hr rfl hlk hS (σ, xr.2) ⟨CHD_lt hC hn, hR⟩ (hP.sub (ws' := WT k ad σ) iL (iL_f k ad σ ([] : va_W))) (hD.sub (ws' := WT k ad σ) iL iL_nd (iL_C k ad σ ([] : va_W))) (by decide) (by decide) dL_changes_156
  · skip
    refine lv_iconst (v := 1) hx hb dL_changes_151 (by decide) ?_
    refine lv_goto (tgt := 156) hx hb dL_changes_152 (by decide) ?_
    exact fc_iret hx hb hr rfl hlk hS (σ, xr.2) ⟨CHD_ge hC hn, hR⟩ (hP.sub (ws' := WT k ad σ) iL (iL_f k ad σ ([] : va_W))) (hD.sub (ws' := WT k ad σ) iL iL_nd (iL_C k ad σ ([] : va_W))) (by decide) (by decide) dL_changes_156
set_option maxRecDepth 100000 in
set_option maxHeartbeats 8000000 in
theorem bC_157 {p : Program} {l : Launch} {e : Env} {s : State} {m : MethodId} {args : Array Value} {below : List Frame} {meth : Method} {c : Code} {D : va_G} {k : tyK} {A : Nat → Prop} (hx : p.tables.exec = Jvm.exec) (hb : c.code = cL_changes) (hml : c.maxLocals = 3) (hr : meth.sig.returnType = some .boolean) (hlk : meth.locks = false) (hts : ∀ w ∈ wsL_changes, w.before args s = true) (hown : s.vm.findClass RL = some m.cls) (hA : ∀ q : Nat, s.heap.size ≤ q → A q) (hE : GE D k A s) (hlst : l.stackTraces = false) (ad : Nat → Nat) {a : Abs} (hG : GD a) {t : Nat} (ht : t < 7) (x : Int32) (σ : TSt) (H : Heap) (locs : List Loc) (ls : Array Slot) (hR : Rep σ a) (hP : va_P D vwCl (WT k ad σ ++ ([] : va_W)) H) (hD : va_D A (WT k ad σ ++ ([] : va_W))) (hS : va_S A s.heap H locs) (hl : lv_has ls 3 [(2, .int (nI t)), (0, .ref (ad 0)), (1, .int x)]) : W p l e rm_L_changes s m args below meth c H locs 1 6 (MQ below (va_Qi (fun r (u : TSt × Abs) => CHG a r u.2 ∧ Rep u.1 u.2) (Bt D (fun u => WT k ad u.1) A) A) args s rm_L_changes.cells rm_L_changes.slots A) (F0 m 157 ls []) := by
  refine lv_aload_n hx hb dL_changes_157 rfl (lv_at hl 1 rfl) ?_
  refine lv_iload_n hx hb dL_changes_158 rfl (lv_at hl 0 rfl) ?_
  have hC : CHD a (A_start a (nI t)) := CHD_start hG (by omega)
  refine lc_k (v := (A_start a (nI t)).1) (a1 := (A_start a (nI t)).2) (cells' := 2) (slots' := 12) (fc_runSW (n := 2) (As := [.ref (ad 0), .int (nI t)]) (rest := []) (isC := iL) (maxL := 3) ⟨hx, hb, hml, hown, hts⟩ (LC_start hlst ad a (nI t) σ hR H.size) gL_changes_L_start rfl (by decide +kernel) rfl ⟨Nat.le_of_ble_eq_true rfl, Nat.le_of_ble_eq_true rfl⟩ ⟨Nat.le_of_ble_eq_true rfl, Nat.le_of_ble_eq_true rfl⟩ hE hP hD hS hA (iL_C k ad σ ([] : va_W)) iL_nd hl rfl (Nat.le_of_ble_eq_true rfl) dL_changes_159) hP hD hS hA rfl rfl (fun σ H locs hR hP hD hS => ?_)
  generalize A_start a (nI t) = xr at hC hR ⊢
  refine lv_if_lt (tgt := 169) hx hb dL_changes_162 (by decide) (fun hn => ?_) (fun hn => ?_)
  · skip
    refine lv_iconst (v := 0) hx hb dL_changes_169 (by decide) ?_
    exact fc_iret hx hb hr rfl hlk hS (σ, xr.2) ⟨CHD_lt hC hn, hR⟩ (hP.sub (ws' := WT k ad σ) iL (iL_f k ad σ ([] : va_W))) (hD.sub (ws' := WT k ad σ) iL iL_nd (iL_C k ad σ ([] : va_W))) (by decide) (by decide) dL_changes_170
  · skip
    refine lv_iconst (v := 1) hx hb dL_changes_165 (by decide) ?_
    refine lv_goto (tgt := 170) hx hb dL_changes_166 (by decide) ?_
    exact fc_iret hx hb hr rfl hlk hS (σ, xr.2) ⟨CHD_ge hC hn, hR⟩ (hP.sub (ws' := WT k ad σ) iL (iL_f k ad σ ([] : va_W))) (hD.sub (ws' := WT k ad σ) iL iL_nd (iL_C k ad σ ([] : va_W))) (by decide) (by decide) dL_changes_170
set_option maxRecDepth 100000 in
set_option maxHeartbeats 8000000 in
theorem bC_171 {p : Program} {l : Launch} {e : Env} {s : State} {m : MethodId} {args : Array Value} {below : List Frame} {meth : Method} {c : Code} {D : va_G} {k : tyK} {A : Nat → Prop} (hx : p.tables.exec = Jvm.exec) (hb : c.code = cL_changes) (hml : c.maxLocals = 3) (hr : meth.sig.returnType = some .boolean) (hlk : meth.locks = false) (hts : ∀ w ∈ wsL_changes, w.before args s = true) (hown : s.vm.findClass RL = some m.cls) (hA : ∀ q : Nat, s.heap.size ≤ q → A q) (hE : GE D k A s) (hlst : l.stackTraces = false) (ad : Nat → Nat) {a : Abs} (hG : GD a) {t : Nat} (ht : t < 7) (x : Int32) (σ : TSt) (H : Heap) (locs : List Loc) (ls : Array Slot) (hR : Rep σ a) (hP : va_P D vwCl (WT k ad σ ++ ([] : va_W)) H) (hD : va_D A (WT k ad σ ++ ([] : va_W))) (hS : va_S A s.heap H locs) (hl : lv_has ls 3 [(2, .int (nI t)), (0, .ref (ad 0)), (1, .int x)]) : W p l e rm_L_changes s m args below meth c H locs 1 6 (MQ below (va_Qi (fun r (u : TSt × Abs) => CHG a r u.2 ∧ Rep u.1 u.2) (Bt D (fun u => WT k ad u.1) A) A) args s rm_L_changes.cells rm_L_changes.slots A) (F0 m 171 ls []) := by
  refine lv_aload_n hx hb dL_changes_171 rfl (lv_at hl 1 rfl) ?_
  refine lv_iload_n hx hb dL_changes_172 rfl (lv_at hl 0 rfl) ?_
  have hC : CHD a (A_back a (nI t)) := CHD_back hG (by omega)
  refine lc_k (v := (A_back a (nI t)).1) (a1 := (A_back a (nI t)).2) (cells' := 2) (slots' := 12) (fc_runSW (n := 2) (As := [.ref (ad 0), .int (nI t)]) (rest := []) (isC := iL) (maxL := 3) ⟨hx, hb, hml, hown, hts⟩ (LC_back hlst ad a (nI t) σ hR H.size) gL_changes_L_back rfl (by decide +kernel) rfl ⟨Nat.le_of_ble_eq_true rfl, Nat.le_of_ble_eq_true rfl⟩ ⟨Nat.le_of_ble_eq_true rfl, Nat.le_of_ble_eq_true rfl⟩ hE hP hD hS hA (iL_C k ad σ ([] : va_W)) iL_nd hl rfl (Nat.le_of_ble_eq_true rfl) dL_changes_173) hP hD hS hA rfl rfl (fun σ H locs hR hP hD hS => ?_)
  generalize A_back a (nI t) = xr at hC hR ⊢
  refine lv_if_lt (tgt := 183) hx hb dL_changes_176 (by decide) (fun hn => ?_) (fun hn => ?_)
  · skip
    refine lv_iconst (v := 0) hx hb dL_changes_183 (by decide) ?_
    exact fc_iret hx hb hr rfl hlk hS (σ, xr.2) ⟨CHD_lt hC hn, hR⟩ (hP.sub (ws' := WT k ad σ) iL (iL_f k ad σ ([] : va_W))) (hD.sub (ws' := WT k ad σ) iL iL_nd (iL_C k ad σ ([] : va_W))) (by decide) (by decide) dL_changes_184
  · skip
    refine lv_iconst (v := 1) hx hb dL_changes_179 (by decide) ?_
    refine lv_goto (tgt := 184) hx hb dL_changes_180 (by decide) ?_
    exact fc_iret hx hb hr rfl hlk hS (σ, xr.2) ⟨CHD_ge hC hn, hR⟩ (hP.sub (ws' := WT k ad σ) iL (iL_f k ad σ ([] : va_W))) (hD.sub (ws' := WT k ad σ) iL iL_nd (iL_C k ad σ ([] : va_W))) (by decide) (by decide) dL_changes_184
set_option maxRecDepth 100000 in
set_option maxHeartbeats 8000000 in
theorem bC_185 {p : Program} {l : Launch} {e : Env} {s : State} {m : MethodId} {args : Array Value} {below : List Frame} {meth : Method} {c : Code} {D : va_G} {k : tyK} {A : Nat → Prop} (hx : p.tables.exec = Jvm.exec) (hb : c.code = cL_changes) (hml : c.maxLocals = 3) (hr : meth.sig.returnType = some .boolean) (hlk : meth.locks = false) (hts : ∀ w ∈ wsL_changes, w.before args s = true) (hown : s.vm.findClass RL = some m.cls) (hA : ∀ q : Nat, s.heap.size ≤ q → A q) (hE : GE D k A s) (hlst : l.stackTraces = false) (ad : Nat → Nat) {a : Abs} (hG : GD a) {t : Nat} (ht : t < 7) (x : Int32) (σ : TSt) (H : Heap) (locs : List Loc) (ls : Array Slot) (hR : Rep σ a) (hP : va_P D vwCl (WT k ad σ ++ ([] : va_W)) H) (hD : va_D A (WT k ad σ ++ ([] : va_W))) (hS : va_S A s.heap H locs) (hl : lv_has ls 3 [(2, .int (nI t)), (0, .ref (ad 0)), (1, .int x)]) : W p l e rm_L_changes s m args below meth c H locs 1 6 (MQ below (va_Qi (fun r (u : TSt × Abs) => CHG a r u.2 ∧ Rep u.1 u.2) (Bt D (fun u => WT k ad u.1) A) A) args s rm_L_changes.cells rm_L_changes.slots A) (F0 m 185 ls []) := by
  refine lv_aload_n hx hb dL_changes_185 rfl (lv_at hl 1 rfl) ?_
  refine lv_iload_n hx hb dL_changes_186 rfl (lv_at hl 2 rfl) ?_
  refine lv_iconst (v := 4) hx hb dL_changes_187 (by decide) ?_
  refine lv_ishr hx hb dL_changes_188 ?_
  refine lv_bipush (v := 6) hx hb dL_changes_189 (by decide) ?_
  obtain ⟨q1, hq1, eq1⟩ := some_lt (x >>> ((4 : Int32) &&& 31)) (n := 6) (by omega) (by omega)
  refine fc_c0 (cells' := 1) (slots' := 6) (fc_runS (n := 2) (As := [.int (x >>> ((4 : Int32) &&& 31)), .int (6 : Int32)]) (rest := [.ref (ad 0)]) (isC := []) (maxL := 3) ⟨hx, hb, hml, hown, hts⟩ (FCi.to0 (c_L_some (k := k) (D := D) (l := l) (x >>> ((4 : Int32) &&& 31)) 6 (by omega) (by omega)) eq1 H.size) gL_changes_L_some rfl (by decide +kernel) rfl ⟨Nat.le_of_ble_eq_true rfl, Nat.le_of_ble_eq_true rfl⟩ ⟨Nat.le_of_ble_eq_true rfl, Nat.le_of_ble_eq_true rfl⟩ hE hP hD hS hA rfl rfl hl rfl (Nat.le_of_ble_eq_true rfl) dL_changes_191) hP hD hS hA rfl rfl (fun H locs hP hD hS => ?_)
  refine lv_iload_n hx hb dL_changes_194 rfl (lv_at hl 2 rfl) ?_
  refine lv_bipush (v := 8) hx hb dL_changes_195 (by decide) ?_
  refine lv_ishr hx hb dL_changes_197 ?_
  refine lv_iconst (v := 1) hx hb dL_changes_198 (by decide) ?_
  refine lv_iand hx hb dL_changes_199 ?_
  refine lv_if_ne (tgt := 207) hx hb dL_changes_200 (by decide) (fun _ => ?_) (fun _ => ?_)
  · skip
    refine lv_iconst (v := 0) hx hb dL_changes_207 (by decide) ?_
    have hC : CHD a (A_shut a (nI q1) (0 : Int32)) := CHD_shut hG (by omega) (Or.inl rfl)
    refine lc_k (v := (A_shut a (nI q1) (0 : Int32)).1) (a1 := (A_shut a (nI q1) (0 : Int32)).2) (cells' := 2) (slots' := 12) (fc_runSW (n := 3) (As := [.ref (ad 0), .int (nI q1), .int (0 : Int32)]) (rest := []) (isC := iL) (maxL := 4) ⟨hx, hb, hml, hown, hts⟩ (LC_shut hlst ad a (nI q1) (0 : Int32) σ hR H.size) gL_changes_L_shut rfl (by decide +kernel) rfl ⟨Nat.le_of_ble_eq_true rfl, Nat.le_of_ble_eq_true rfl⟩ ⟨Nat.le_of_ble_eq_true rfl, Nat.le_of_ble_eq_true rfl⟩ hE hP hD hS hA (iL_C k ad σ ([] : va_W)) iL_nd hl rfl (Nat.le_of_ble_eq_true rfl) dL_changes_208) hP hD hS hA rfl rfl (fun σ H locs hR hP hD hS => ?_)
    generalize A_shut a (nI q1) (0 : Int32) = xr at hC hR ⊢
    refine lv_if_lt (tgt := 218) hx hb dL_changes_211 (by decide) (fun hn => ?_) (fun hn => ?_)
    · skip
      refine lv_iconst (v := 0) hx hb dL_changes_218 (by decide) ?_
      exact fc_iret hx hb hr rfl hlk hS (σ, xr.2) ⟨CHD_lt hC hn, hR⟩ (hP.sub (ws' := WT k ad σ) iL (iL_f k ad σ ([] : va_W))) (hD.sub (ws' := WT k ad σ) iL iL_nd (iL_C k ad σ ([] : va_W))) (by decide) (by decide) dL_changes_219
    · skip
      refine lv_iconst (v := 1) hx hb dL_changes_214 (by decide) ?_
      refine lv_goto (tgt := 219) hx hb dL_changes_215 (by decide) ?_
      exact fc_iret hx hb hr rfl hlk hS (σ, xr.2) ⟨CHD_ge hC hn, hR⟩ (hP.sub (ws' := WT k ad σ) iL (iL_f k ad σ ([] : va_W))) (hD.sub (ws' := WT k ad σ) iL iL_nd (iL_C k ad σ ([] : va_W))) (by decide) (by decide) dL_changes_219
  · skip
    refine lv_iconst (v := 1) hx hb dL_changes_203 (by decide) ?_
    refine lv_goto (tgt := 208) hx hb dL_changes_204 (by decide) ?_
    have hC : CHD a (A_shut a (nI q1) (1 : Int32)) := CHD_shut hG (by omega) (Or.inr rfl)
    refine lc_k (v := (A_shut a (nI q1) (1 : Int32)).1) (a1 := (A_shut a (nI q1) (1 : Int32)).2) (cells' := 2) (slots' := 12) (fc_runSW (n := 3) (As := [.ref (ad 0), .int (nI q1), .int (1 : Int32)]) (rest := []) (isC := iL) (maxL := 4) ⟨hx, hb, hml, hown, hts⟩ (LC_shut hlst ad a (nI q1) (1 : Int32) σ hR H.size) gL_changes_L_shut rfl (by decide +kernel) rfl ⟨Nat.le_of_ble_eq_true rfl, Nat.le_of_ble_eq_true rfl⟩ ⟨Nat.le_of_ble_eq_true rfl, Nat.le_of_ble_eq_true rfl⟩ hE hP hD hS hA (iL_C k ad σ ([] : va_W)) iL_nd hl rfl (Nat.le_of_ble_eq_true rfl) dL_changes_208) hP hD hS hA rfl rfl (fun σ H locs hR hP hD hS => ?_)
    generalize A_shut a (nI q1) (1 : Int32) = xr at hC hR ⊢
    refine lv_if_lt (tgt := 218) hx hb dL_changes_211 (by decide) (fun hn => ?_) (fun hn => ?_)
    · skip
      refine lv_iconst (v := 0) hx hb dL_changes_218 (by decide) ?_
      exact fc_iret hx hb hr rfl hlk hS (σ, xr.2) ⟨CHD_lt hC hn, hR⟩ (hP.sub (ws' := WT k ad σ) iL (iL_f k ad σ ([] : va_W))) (hD.sub (ws' := WT k ad σ) iL iL_nd (iL_C k ad σ ([] : va_W))) (by decide) (by decide) dL_changes_219
    · skip
      refine lv_iconst (v := 1) hx hb dL_changes_214 (by decide) ?_
      refine lv_goto (tgt := 219) hx hb dL_changes_215 (by decide) ?_
      exact fc_iret hx hb hr rfl hlk hS (σ, xr.2) ⟨CHD_ge hC hn, hR⟩ (hP.sub (ws' := WT k ad σ) iL (iL_f k ad σ ([] : va_W))) (hD.sub (ws' := WT k ad σ) iL iL_nd (iL_C k ad σ ([] : va_W))) (by decide) (by decide) dL_changes_219
set_option maxRecDepth 100000 in
set_option maxHeartbeats 8000000 in
theorem bC_220 {p : Program} {l : Launch} {e : Env} {s : State} {m : MethodId} {args : Array Value} {below : List Frame} {meth : Method} {c : Code} {D : va_G} {k : tyK} {A : Nat → Prop} (hx : p.tables.exec = Jvm.exec) (hb : c.code = cL_changes) (hml : c.maxLocals = 3) (hr : meth.sig.returnType = some .boolean) (hlk : meth.locks = false) (hts : ∀ w ∈ wsL_changes, w.before args s = true) (hown : s.vm.findClass RL = some m.cls) (hA : ∀ q : Nat, s.heap.size ≤ q → A q) (hE : GE D k A s) (hlst : l.stackTraces = false) (ad : Nat → Nat) {a : Abs} (hG : GD a) {t : Nat} (ht : t < 7) (x : Int32) (σ : TSt) (H : Heap) (locs : List Loc) (ls : Array Slot) (hR : Rep σ a) (hP : va_P D vwCl (WT k ad σ ++ ([] : va_W)) H) (hD : va_D A (WT k ad σ ++ ([] : va_W))) (hS : va_S A s.heap H locs) (hl : lv_has ls 3 [(2, .int (nI t)), (0, .ref (ad 0)), (1, .int x)]) : W p l e rm_L_changes s m args below meth c H locs 1 6 (MQ below (va_Qi (fun r (u : TSt × Abs) => CHG a r u.2 ∧ Rep u.1 u.2) (Bt D (fun u => WT k ad u.1) A) A) args s rm_L_changes.cells rm_L_changes.slots A) (F0 m 220 ls []) := by
  refine lv_aload_n hx hb dL_changes_220 rfl (lv_at hl 1 rfl) ?_
  refine lv_iload_n hx hb dL_changes_221 rfl (lv_at hl 2 rfl) ?_
  refine lv_iconst (v := 4) hx hb dL_changes_222 (by decide) ?_
  refine lv_ishr hx hb dL_changes_223 ?_
  refine lv_bipush (v := 6) hx hb dL_changes_224 (by decide) ?_
  obtain ⟨q1, hq1, eq1⟩ := some_lt (x >>> ((4 : Int32) &&& 31)) (n := 6) (by omega) (by omega)
  refine fc_c0 (cells' := 1) (slots' := 6) (fc_runS (n := 2) (As := [.int (x >>> ((4 : Int32) &&& 31)), .int (6 : Int32)]) (rest := [.ref (ad 0)]) (isC := []) (maxL := 3) ⟨hx, hb, hml, hown, hts⟩ (FCi.to0 (c_L_some (k := k) (D := D) (l := l) (x >>> ((4 : Int32) &&& 31)) 6 (by omega) (by omega)) eq1 H.size) gL_changes_L_some rfl (by decide +kernel) rfl ⟨Nat.le_of_ble_eq_true rfl, Nat.le_of_ble_eq_true rfl⟩ ⟨Nat.le_of_ble_eq_true rfl, Nat.le_of_ble_eq_true rfl⟩ hE hP hD hS hA rfl rfl hl rfl (Nat.le_of_ble_eq_true rfl) dL_changes_226) hP hD hS hA rfl rfl (fun H locs hP hD hS => ?_)
  refine lv_iload_n hx hb dL_changes_229 rfl (lv_at hl 2 rfl) ?_
  refine lv_bipush (v := 7) hx hb dL_changes_230 (by decide) ?_
  refine lv_ishr hx hb dL_changes_232 ?_
  refine lv_bipush (v := 7) hx hb dL_changes_233 (by decide) ?_
  obtain ⟨q2, hq2, eq2⟩ := some_lt (x >>> ((7 : Int32) &&& 31)) (n := 7) (by omega) (by omega)
  refine fc_c0 (cells' := 1) (slots' := 6) (fc_runS (n := 2) (As := [.int (x >>> ((7 : Int32) &&& 31)), .int (7 : Int32)]) (rest := [.int (nI q1), .ref (ad 0)]) (isC := []) (maxL := 3) ⟨hx, hb, hml, hown, hts⟩ (FCi.to0 (c_L_some (k := k) (D := D) (l := l) (x >>> ((7 : Int32) &&& 31)) 7 (by omega) (by omega)) eq2 H.size) gL_changes_L_some rfl (by decide +kernel) rfl ⟨Nat.le_of_ble_eq_true rfl, Nat.le_of_ble_eq_true rfl⟩ ⟨Nat.le_of_ble_eq_true rfl, Nat.le_of_ble_eq_true rfl⟩ hE hP hD hS hA rfl rfl hl rfl (Nat.le_of_ble_eq_true rfl) dL_changes_235) hP hD hS hA rfl rfl (fun H locs hP hD hS => ?_)
  have hC : CHD a (A_dear a (nI q1) (nI q2)) := CHD_dear hG (by omega) (by omega)
  refine lc_k (v := (A_dear a (nI q1) (nI q2)).1) (a1 := (A_dear a (nI q1) (nI q2)).2) (cells' := 3) (slots' := 18) (fc_runSW (n := 3) (As := [.ref (ad 0), .int (nI q1), .int (nI q2)]) (rest := []) (isC := iL) (maxL := 4) ⟨hx, hb, hml, hown, hts⟩ (LC_dear hlst ad a (nI q1) (nI q2) σ hR H.size) gL_changes_L_dear rfl (by decide +kernel) rfl ⟨Nat.le_of_ble_eq_true rfl, Nat.le_of_ble_eq_true rfl⟩ ⟨Nat.le_of_ble_eq_true rfl, Nat.le_of_ble_eq_true rfl⟩ hE hP hD hS hA (iL_C k ad σ ([] : va_W)) iL_nd hl rfl (Nat.le_of_ble_eq_true rfl) dL_changes_238) hP hD hS hA rfl rfl (fun σ H locs hR hP hD hS => ?_)
  generalize A_dear a (nI q1) (nI q2) = xr at hC hR ⊢
  refine lv_if_lt (tgt := 248) hx hb dL_changes_241 (by decide) (fun hn => ?_) (fun hn => ?_)
  · skip
    refine lv_iconst (v := 0) hx hb dL_changes_248 (by decide) ?_
    exact fc_iret hx hb hr rfl hlk hS (σ, xr.2) ⟨CHD_lt hC hn, hR⟩ (hP.sub (ws' := WT k ad σ) iL (iL_f k ad σ ([] : va_W))) (hD.sub (ws' := WT k ad σ) iL iL_nd (iL_C k ad σ ([] : va_W))) (by decide) (by decide) dL_changes_249
  · skip
    refine lv_iconst (v := 1) hx hb dL_changes_244 (by decide) ?_
    refine lv_goto (tgt := 249) hx hb dL_changes_245 (by decide) ?_
    exact fc_iret hx hb hr rfl hlk hS (σ, xr.2) ⟨CHD_ge hC hn, hR⟩ (hP.sub (ws' := WT k ad σ) iL (iL_f k ad σ ([] : va_W))) (hD.sub (ws' := WT k ad σ) iL iL_nd (iL_C k ad σ ([] : va_W))) (by decide) (by decide) dL_changes_249
set_option maxRecDepth 100000 in
set_option maxHeartbeats 8000000 in
theorem bC_250 {p : Program} {l : Launch} {e : Env} {s : State} {m : MethodId} {args : Array Value} {below : List Frame} {meth : Method} {c : Code} {D : va_G} {k : tyK} {A : Nat → Prop} (hx : p.tables.exec = Jvm.exec) (hb : c.code = cL_changes) (hml : c.maxLocals = 3) (hr : meth.sig.returnType = some .boolean) (hlk : meth.locks = false) (hts : ∀ w ∈ wsL_changes, w.before args s = true) (hown : s.vm.findClass RL = some m.cls) (hA : ∀ q : Nat, s.heap.size ≤ q → A q) (hE : GE D k A s) (hlst : l.stackTraces = false) (ad : Nat → Nat) {a : Abs} (hG : GD a) {t : Nat} (ht : t < 7) (x : Int32) (σ : TSt) (H : Heap) (locs : List Loc) (ls : Array Slot) (hR : Rep σ a) (hP : va_P D vwCl (WT k ad σ ++ ([] : va_W)) H) (hD : va_D A (WT k ad σ ++ ([] : va_W))) (hS : va_S A s.heap H locs) (hl : lv_has ls 3 [(2, .int (nI t)), (0, .ref (ad 0)), (1, .int x)]) : W p l e rm_L_changes s m args below meth c H locs 1 6 (MQ below (va_Qi (fun r (u : TSt × Abs) => CHG a r u.2 ∧ Rep u.1 u.2) (Bt D (fun u => WT k ad u.1) A) A) args s rm_L_changes.cells rm_L_changes.slots A) (F0 m 250 ls []) := by
  refine lv_aload_n hx hb dL_changes_250 rfl (lv_at hl 1 rfl) ?_
  refine lv_iload_n hx hb dL_changes_251 rfl (lv_at hl 2 rfl) ?_
  refine lv_iconst (v := 4) hx hb dL_changes_252 (by decide) ?_
  refine lv_ishr hx hb dL_changes_253 ?_
  refine lv_iload_n hx hb dL_changes_254 rfl (lv_at hl 2 rfl) ?_
  refine lv_bipush (v := 9) hx hb dL_changes_255 (by decide) ?_
  refine lv_ishr hx hb dL_changes_257 ?_
  refine lv_iconst (v := 1) hx hb dL_changes_258 (by decide) ?_
  refine lv_iand hx hb dL_changes_259 ?_
  refine lv_if_ne (tgt := 267) hx hb dL_changes_260 (by decide) (fun _ => ?_) (fun _ => ?_)
  · skip
    refine lv_bipush (v := 42) hx hb dL_changes_267 (by decide) ?_
    obtain ⟨q1, hq1, eq1⟩ := some_lt (x >>> ((4 : Int32) &&& 31)) (n := 42) (by omega) (by omega)
    refine fc_c0 (cells' := 1) (slots' := 6) (fc_runS (n := 2) (As := [.int (x >>> ((4 : Int32) &&& 31)), .int (42 : Int32)]) (rest := [.ref (ad 0)]) (isC := []) (maxL := 3) ⟨hx, hb, hml, hown, hts⟩ (FCi.to0 (c_L_some (k := k) (D := D) (l := l) (x >>> ((4 : Int32) &&& 31)) 42 (by omega) (by omega)) eq1 H.size) gL_changes_L_some rfl (by decide +kernel) rfl ⟨Nat.le_of_ble_eq_true rfl, Nat.le_of_ble_eq_true rfl⟩ ⟨Nat.le_of_ble_eq_true rfl, Nat.le_of_ble_eq_true rfl⟩ hE hP hD hS hA rfl rfl hl rfl (Nat.le_of_ble_eq_true rfl) dL_changes_269) hP hD hS hA rfl rfl (fun H locs hP hD hS => ?_)
    have hC : CHD a (A_pass a (nI q1)) := CHD_pass hG (by omega)
    refine lc_k (v := (A_pass a (nI q1)).1) (a1 := (A_pass a (nI q1)).2) (cells' := 2) (slots' := 12) (fc_runSW (n := 2) (As := [.ref (ad 0), .int (nI q1)]) (rest := []) (isC := iL) (maxL := 3) ⟨hx, hb, hml, hown, hts⟩ (LC_pass hlst ad a (nI q1) σ hR H.size) gL_changes_L_pass rfl (by decide +kernel) rfl ⟨Nat.le_of_ble_eq_true rfl, Nat.le_of_ble_eq_true rfl⟩ ⟨Nat.le_of_ble_eq_true rfl, Nat.le_of_ble_eq_true rfl⟩ hE hP hD hS hA (iL_C k ad σ ([] : va_W)) iL_nd hl rfl (Nat.le_of_ble_eq_true rfl) dL_changes_272) hP hD hS hA rfl rfl (fun σ H locs hR hP hD hS => ?_)
    generalize A_pass a (nI q1) = xr at hC hR ⊢
    refine lv_if_lt (tgt := 282) hx hb dL_changes_275 (by decide) (fun hn => ?_) (fun hn => ?_)
    · skip
      refine lv_iconst (v := 0) hx hb dL_changes_282 (by decide) ?_
      exact fc_iret hx hb hr rfl hlk hS (σ, xr.2) ⟨CHD_lt hC hn, hR⟩ (hP.sub (ws' := WT k ad σ) iL (iL_f k ad σ ([] : va_W))) (hD.sub (ws' := WT k ad σ) iL iL_nd (iL_C k ad σ ([] : va_W))) (by decide) (by decide) dL_changes_283
    · skip
      refine lv_iconst (v := 1) hx hb dL_changes_278 (by decide) ?_
      refine lv_goto (tgt := 283) hx hb dL_changes_279 (by decide) ?_
      exact fc_iret hx hb hr rfl hlk hS (σ, xr.2) ⟨CHD_ge hC hn, hR⟩ (hP.sub (ws' := WT k ad σ) iL (iL_f k ad σ ([] : va_W))) (hD.sub (ws' := WT k ad σ) iL iL_nd (iL_C k ad σ ([] : va_W))) (by decide) (by decide) dL_changes_283
  · skip
    refine lv_iconst (v := 5) hx hb dL_changes_263 (by decide) ?_
    refine lv_goto (tgt := 269) hx hb dL_changes_264 (by decide) ?_
    obtain ⟨q1, hq1, eq1⟩ := some_lt (x >>> ((4 : Int32) &&& 31)) (n := 5) (by omega) (by omega)
    refine fc_c0 (cells' := 1) (slots' := 6) (fc_runS (n := 2) (As := [.int (x >>> ((4 : Int32) &&& 31)), .int (5 : Int32)]) (rest := [.ref (ad 0)]) (isC := []) (maxL := 3) ⟨hx, hb, hml, hown, hts⟩ (FCi.to0 (c_L_some (k := k) (D := D) (l := l) (x >>> ((4 : Int32) &&& 31)) 5 (by omega) (by omega)) eq1 H.size) gL_changes_L_some rfl (by decide +kernel) rfl ⟨Nat.le_of_ble_eq_true rfl, Nat.le_of_ble_eq_true rfl⟩ ⟨Nat.le_of_ble_eq_true rfl, Nat.le_of_ble_eq_true rfl⟩ hE hP hD hS hA rfl rfl hl rfl (Nat.le_of_ble_eq_true rfl) dL_changes_269) hP hD hS hA rfl rfl (fun H locs hP hD hS => ?_)
    have hC : CHD a (A_pass a (nI q1)) := CHD_pass hG (by omega)
    refine lc_k (v := (A_pass a (nI q1)).1) (a1 := (A_pass a (nI q1)).2) (cells' := 2) (slots' := 12) (fc_runSW (n := 2) (As := [.ref (ad 0), .int (nI q1)]) (rest := []) (isC := iL) (maxL := 3) ⟨hx, hb, hml, hown, hts⟩ (LC_pass hlst ad a (nI q1) σ hR H.size) gL_changes_L_pass rfl (by decide +kernel) rfl ⟨Nat.le_of_ble_eq_true rfl, Nat.le_of_ble_eq_true rfl⟩ ⟨Nat.le_of_ble_eq_true rfl, Nat.le_of_ble_eq_true rfl⟩ hE hP hD hS hA (iL_C k ad σ ([] : va_W)) iL_nd hl rfl (Nat.le_of_ble_eq_true rfl) dL_changes_272) hP hD hS hA rfl rfl (fun σ H locs hR hP hD hS => ?_)
    generalize A_pass a (nI q1) = xr at hC hR ⊢
    refine lv_if_lt (tgt := 282) hx hb dL_changes_275 (by decide) (fun hn => ?_) (fun hn => ?_)
    · skip
      refine lv_iconst (v := 0) hx hb dL_changes_282 (by decide) ?_
      exact fc_iret hx hb hr rfl hlk hS (σ, xr.2) ⟨CHD_lt hC hn, hR⟩ (hP.sub (ws' := WT k ad σ) iL (iL_f k ad σ ([] : va_W))) (hD.sub (ws' := WT k ad σ) iL iL_nd (iL_C k ad σ ([] : va_W))) (by decide) (by decide) dL_changes_283
    · skip
      refine lv_iconst (v := 1) hx hb dL_changes_278 (by decide) ?_
      refine lv_goto (tgt := 283) hx hb dL_changes_279 (by decide) ?_
      exact fc_iret hx hb hr rfl hlk hS (σ, xr.2) ⟨CHD_ge hC hn, hR⟩ (hP.sub (ws' := WT k ad σ) iL (iL_f k ad σ ([] : va_W))) (hD.sub (ws' := WT k ad σ) iL iL_nd (iL_C k ad σ ([] : va_W))) (by decide) (by decide) dL_changes_283
set_option maxRecDepth 100000 in
set_option maxHeartbeats 8000000 in
theorem bC_284 {p : Program} {l : Launch} {e : Env} {s : State} {m : MethodId} {args : Array Value} {below : List Frame} {meth : Method} {c : Code} {D : va_G} {k : tyK} {A : Nat → Prop} (hx : p.tables.exec = Jvm.exec) (hb : c.code = cL_changes) (hml : c.maxLocals = 3) (hr : meth.sig.returnType = some .boolean) (hlk : meth.locks = false) (hts : ∀ w ∈ wsL_changes, w.before args s = true) (hown : s.vm.findClass RL = some m.cls) (hA : ∀ q : Nat, s.heap.size ≤ q → A q) (hE : GE D k A s) (hlst : l.stackTraces = false) (ad : Nat → Nat) {a : Abs} (hG : GD a) {t : Nat} (ht : t < 7) (x : Int32) (σ : TSt) (H : Heap) (locs : List Loc) (ls : Array Slot) (hR : Rep σ a) (hP : va_P D vwCl (WT k ad σ ++ ([] : va_W)) H) (hD : va_D A (WT k ad σ ++ ([] : va_W))) (hS : va_S A s.heap H locs) (hl : lv_has ls 3 [(2, .int (nI t)), (0, .ref (ad 0)), (1, .int x)]) : W p l e rm_L_changes s m args below meth c H locs 1 6 (MQ below (va_Qi (fun r (u : TSt × Abs) => CHG a r u.2 ∧ Rep u.1 u.2) (Bt D (fun u => WT k ad u.1) A) A) args s rm_L_changes.cells rm_L_changes.slots A) (F0 m 284 ls []) := by
  refine lv_aload_n hx hb dL_changes_284 rfl (lv_at hl 1 rfl) ?_
  refine lv_iload_n hx hb dL_changes_285 rfl (lv_at hl 2 rfl) ?_
  refine lv_bipush (v := 6) hx hb dL_changes_286 (by decide) ?_
  refine lv_ishr hx hb dL_changes_288 ?_
  refine lv_iconst (v := 1) hx hb dL_changes_289 (by decide) ?_
  refine lv_iand hx hb dL_changes_290 ?_
  refine lv_if_ne (tgt := 338) hx hb dL_changes_291 (by decide) (fun _ => ?_) (fun _ => ?_)
  · skip
    have hP : va_P D vwCl (WT k ad σ) H := by rw [← List.append_nil (WT k ad σ)]; exact hP
    have hD : va_D A (WT k ad σ) := by rw [← List.append_nil (WT k ad σ)]; exact hD
    refine va_new (ci := 1) (fs := sbN) (C := RJ4) (T := TJ4) (N := 4) hx hb hts in_changes_J4 tyJ4 tyJ4_ok hown (hts (.classLink RL 213 RJ4) (List.mem_cons_of_mem _ (List.mem_append_left _ (List.mem_append_left _ (List.mem_append_left _ (List.mem_append_left _ (List.mem_append_left _ (List.mem_append_left _ (List.mem_append_left _ (List.mem_append_left _ (List.mem_append_left _ (List.mem_append_left _ (List.mem_append_left _ (List.mem_append_left _ (List.mem_append_left _ (List.mem_append_left _ (List.mem_append_left _ (List.mem_of_getElem? (i := 0) (rfl : wsL_changes_r1[0]? = _))))))))))))))))))) (hts (.instantiable RJ4 4) (List.mem_cons_of_mem _ (List.mem_append_left _ (List.mem_append_left _ (List.mem_append_left _ (List.mem_append_left _ (List.mem_append_left _ (List.mem_append_left _ (List.mem_append_left _ (List.mem_append_left _ (List.mem_append_left _ (List.mem_append_left _ (List.mem_append_left _ (List.mem_append_left _ (List.mem_append_left _ (List.mem_append_left _ (List.mem_append_left _ (List.mem_of_getElem? (i := 1) (rfl : wsL_changes_r1[1]? = _))))))))))))))))))) (hts (.initialized RJ4) (List.mem_cons_of_mem _ (List.mem_append_left _ (List.mem_append_left _ (List.mem_append_left _ (List.mem_append_left _ (List.mem_append_left _ (List.mem_append_left _ (List.mem_append_left _ (List.mem_append_left _ (List.mem_append_left _ (List.mem_append_left _ (List.mem_append_left _ (List.mem_append_left _ (List.mem_append_left _ (List.mem_append_left _ (List.mem_append_left _ (List.mem_of_getElem? (i := 2) (rfl : wsL_changes_r1[2]? = _))))))))))))))))))) hE.1 hP hD hS hA rfl (fun j hj => by rcases (show j = 0 ∨ j = 1 ∨ j = 2 ∨ j = 3 by omega) with rfl | rfl | rfl | rfl <;> rfl) (by decide) (by decide) dL_changes_338 (fun b H hP hD hS => ?_)
    refine lv_dup hx hb dL_changes_341 rfl ?_
    refine fc_cvN (cells' := 3) (slots' := 26) [35] iL (wr := WT k ad σ) (fc_runI (n := 0) (As := []) (rest := [.ref b, .ref (ad 0)]) (isC := [35]) (maxL := 1) ⟨hx, hb, hml, hown, hts⟩ (c_J4_init b H.size) gL_changes_J4_init_da8c8 (List.mem_cons_of_mem _ (List.mem_append_left _ (List.mem_append_left _ (List.mem_append_left _ (List.mem_append_left _ (List.mem_append_left _ (List.mem_append_left _ (List.mem_append_left _ (List.mem_append_left _ (List.mem_append_left _ (List.mem_append_left _ (List.mem_append_left _ (List.mem_append_left _ (List.mem_append_left _ (List.mem_append_left _ (List.mem_append_right _ (List.mem_append_right _ (List.mem_append_right _ (List.mem_append_right _ (List.mem_append_right _ (List.mem_append_right _ (List.mem_append_right _ (List.mem_append_right _ (List.mem_append_right _ (List.mem_append_right _ (List.mem_append_right _ (List.mem_append_left _ (List.mem_of_getElem? (i := 13) (rfl : wsL_changes_r12[13]? = _))))))))))))))))))))))))))))) (List.mem_cons_of_mem _ (List.mem_append_left _ (List.mem_append_left _ (List.mem_append_left _ (List.mem_append_left _ (List.mem_append_left _ (List.mem_append_left _ (List.mem_append_left _ (List.mem_append_left _ (List.mem_append_left _ (List.mem_append_left _ (List.mem_append_left _ (List.mem_append_left _ (List.mem_append_left _ (List.mem_append_left _ (List.mem_append_right _ (List.mem_append_right _ (List.mem_append_right _ (List.mem_append_right _ (List.mem_append_right _ (List.mem_append_right _ (List.mem_append_right _ (List.mem_append_right _ (List.mem_append_right _ (List.mem_append_right _ (List.mem_append_right _ (List.mem_append_left _ (List.mem_of_getElem? (i := 14) (rfl : wsL_changes_r12[14]? = _))))))))))))))))))))))))))))) (List.mem_cons_of_mem _ (List.mem_append_left _ (List.mem_append_left _ (List.mem_append_left _ (List.mem_append_left _ (List.mem_append_left _ (List.mem_append_left _ (List.mem_append_left _ (List.mem_append_left _ (List.mem_append_left _ (List.mem_append_left _ (List.mem_append_left _ (List.mem_append_left _ (List.mem_append_left _ (List.mem_append_left _ (List.mem_append_left _ (List.mem_of_getElem? (i := 2) (rfl : wsL_changes_r1[2]? = _)))))))))))))))))) rfl rfl (by decide +kernel) rfl ⟨Nat.le_of_ble_eq_true rfl, Nat.le_of_ble_eq_true rfl⟩ ⟨Nat.le_of_ble_eq_true rfl, Nat.le_of_ble_eq_true rfl⟩ hE hP hD hS hA (i35_C k ad σ _) (by decide) hl rfl (Nat.le_of_ble_eq_true rfl) dL_changes_342) hP hD hS hA (i35_C k ad σ _) (iL_C k ad σ _) iL_nd (by decide) rfl rfl (fun va H locs _ hP hD hS => ?_)
    have hP : va_P D vwCl (WT k ad σ ++ [(b, .inr (1, [.ref va, .int (0 : Int32), .int (0 : Int32), .int (nI ([] : List Int32).length)])), (va, .inl (k.2.2.1, 16, .inl (fun _ => 0)))]) H := hP
    have hD : va_D A (WT k ad σ ++ [(b, .inr (1, [.ref va, .int (0 : Int32), .int (0 : Int32), .int (nI ([] : List Int32).length)])), (va, .inl (k.2.2.1, 16, .inl (fun _ => 0)))]) := hD
    have ok := SBok_new
    refine va_ldcS hx hb hown (hE.2.2.1 28 _ rfl).1 dL_changes_345 ?_
    refine lc_app (txt := ([] ++ SB 28)) (cells' := 4) (slots' := 168) (fc_runV (n := 1) (As := [.ref (kS k 28)]) (rest := [.ref (ad 0)]) (isC := [35, 36]) (maxL := 2) ⟨hx, hb, hml, hown, hts⟩ (cS_app4 b va 16 0 [] (fun _ => 0) ok (j := 28) (by decide) (by decide) (by decide) H.size) gL_changes_J4_append_15ec4 rfl (by decide +kernel) rfl ⟨Nat.le_of_ble_eq_true rfl, Nat.le_of_ble_eq_true rfl⟩ ⟨Nat.le_of_ble_eq_true rfl, Nat.le_of_ble_eq_true rfl⟩ hE hP hD hS hA (iR_C k ad σ _ _) (by decide) (va_recv hE.1 hP (ci := 1) (q0 := 35) rfl (iR_35 k ad σ _ _)) hl rfl (Nat.le_of_ble_eq_true rfl) dL_changes_347) hP hD hS hA rfl rfl (fun va1 cap1 bt1 H locs ok hP hD hS => ?_)
    replace ok : SBok ([] ++ SB 28) cap1 bt1 := ok
    refine lv_iload_n hx hb dL_changes_350 rfl (lv_at hl 2 rfl) ?_
    refine lv_iconst (v := 3) hx hb dL_changes_351 (by decide) ?_
    refine lv_ishr hx hb dL_changes_352 ?_
    refine lv_bipush (v := 6) hx hb dL_changes_353 (by decide) ?_
    obtain ⟨q1, hq1, eq1⟩ := some_lt (x >>> ((3 : Int32) &&& 31)) (n := 6) (by omega) (by omega)
    refine fc_c0 (cells' := 4) (slots' := 168) (fc_runS (n := 2) (As := [.int (x >>> ((3 : Int32) &&& 31)), .int (6 : Int32)]) (rest := [.ref b, .ref (ad 0)]) (isC := []) (maxL := 3) ⟨hx, hb, hml, hown, hts⟩ (FCi.to0 (c_L_some (k := k) (D := D) (l := l) (x >>> ((3 : Int32) &&& 31)) 6 (by omega) (by omega)) eq1 H.size) gL_changes_L_some rfl (by decide +kernel) rfl ⟨Nat.le_of_ble_eq_true rfl, Nat.le_of_ble_eq_true rfl⟩ ⟨Nat.le_of_ble_eq_true rfl, Nat.le_of_ble_eq_true rfl⟩ hE hP hD hS hA rfl rfl hl rfl (Nat.le_of_ble_eq_true rfl) dL_changes_355) hP hD hS hA rfl rfl (fun H locs hP hD hS => ?_)
    refine lc_app (txt := (([] ++ SB 28) ++ sbD q1)) (cells' := 5) (slots' := 310) (fc_runV (n := 1) (As := [.int (nI q1)]) (rest := [.ref (ad 0)]) (isC := [35, 36]) (maxL := 2) ⟨hx, hb, hml, hown, hts⟩ (cT_J4_append_I b va1 cap1 0 ([] ++ SB 28) bt1 q1 ok (by omega) (by decide) H.size) gL_changes_J4_append_bf812 rfl (by decide +kernel) rfl ⟨Nat.le_of_ble_eq_true rfl, Nat.le_of_ble_eq_true rfl⟩ ⟨Nat.le_of_ble_eq_true rfl, Nat.le_of_ble_eq_true rfl⟩ hE hP hD hS hA (iR_C k ad σ _ _) (by decide) (va_recv hE.1 hP (ci := 1) (q0 := 35) rfl (iR_35 k ad σ _ _)) hl rfl (Nat.le_of_ble_eq_true rfl) dL_changes_358) hP hD hS hA rfl rfl (fun va2 cap2 bt2 H locs ok hP hD hS => ?_)
    replace ok : SBok (([] ++ SB 28) ++ sbD q1) cap2 bt2 := ok
    refine va_ldcS hx hb hown (hE.2.2.1 29 _ rfl).1 dL_changes_361 ?_
    refine lc_app (txt := ((([] ++ SB 28) ++ sbD q1) ++ SB 29)) (cells' := 6) (slots' := 452) (fc_runV (n := 1) (As := [.ref (kS k 29)]) (rest := [.ref (ad 0)]) (isC := [35, 36]) (maxL := 2) ⟨hx, hb, hml, hown, hts⟩ (cS_app4 b va2 cap2 0 (([] ++ SB 28) ++ sbD q1) bt2 ok (j := 29) (by decide) (by decide) (by simp only [List.length_append, sbD_len, if_pos (show q1 < 10 by omega)]; decide) H.size) gL_changes_J4_append_15ec4 rfl (by decide +kernel) rfl ⟨Nat.le_of_ble_eq_true rfl, Nat.le_of_ble_eq_true rfl⟩ ⟨Nat.le_of_ble_eq_true rfl, Nat.le_of_ble_eq_true rfl⟩ hE hP hD hS hA (iR_C k ad σ _ _) (by decide) (va_recv hE.1 hP (ci := 1) (q0 := 35) rfl (iR_35 k ad σ _ _)) hl rfl (Nat.le_of_ble_eq_true rfl) dL_changes_363) hP hD hS hA rfl rfl (fun va3 cap3 bt3 H locs ok hP hD hS => ?_)
    replace ok : SBok ((([] ++ SB 28) ++ sbD q1) ++ SB 29) cap3 bt3 := ok
    refine lv_iload_n hx hb dL_changes_366 rfl (lv_at hl 0 rfl) ?_
    refine lc_app (txt := (((([] ++ SB 28) ++ sbD q1) ++ SB 29) ++ sbD t)) (cells' := 7) (slots' := 594) (fc_runV (n := 1) (As := [.int (nI t)]) (rest := [.ref (ad 0)]) (isC := [35, 36]) (maxL := 2) ⟨hx, hb, hml, hown, hts⟩ (cT_J4_append_I b va3 cap3 0 ((([] ++ SB 28) ++ sbD q1) ++ SB 29) bt3 t ok (by omega) (by simp only [List.length_append, sbD_len, if_pos (show q1 < 10 by omega)]; decide) H.size) gL_changes_J4_append_bf812 rfl (by decide +kernel) rfl ⟨Nat.le_of_ble_eq_true rfl, Nat.le_of_ble_eq_true rfl⟩ ⟨Nat.le_of_ble_eq_true rfl, Nat.le_of_ble_eq_true rfl⟩ hE hP hD hS hA (iR_C k ad σ _ _) (by decide) (va_recv hE.1 hP (ci := 1) (q0 := 35) rfl (iR_35 k ad σ _ _)) hl rfl (Nat.le_of_ble_eq_true rfl) dL_changes_367) hP hD hS hA rfl rfl (fun va4 cap4 bt4 H locs ok hP hD hS => ?_)
    replace ok : SBok (((([] ++ SB 28) ++ sbD q1) ++ SB 29) ++ sbD t) cap4 bt4 := ok
    refine va_ldcS hx hb hown (hE.2.2.1 30 _ rfl).1 dL_changes_370 ?_
    refine lc_app (txt := ((((([] ++ SB 28) ++ sbD q1) ++ SB 29) ++ sbD t) ++ SB 30)) (cells' := 8) (slots' := 736) (fc_runV (n := 1) (As := [.ref (kS k 30)]) (rest := [.ref (ad 0)]) (isC := [35, 36]) (maxL := 2) ⟨hx, hb, hml, hown, hts⟩ (cS_app4 b va4 cap4 0 (((([] ++ SB 28) ++ sbD q1) ++ SB 29) ++ sbD t) bt4 ok (j := 30) (by decide) (by decide) (by simp only [List.length_append, sbD_len, if_pos (show q1 < 10 by omega), if_pos (show t < 10 by omega)]; decide) H.size) gL_changes_J4_append_15ec4 rfl (by decide +kernel) rfl ⟨Nat.le_of_ble_eq_true rfl, Nat.le_of_ble_eq_true rfl⟩ ⟨Nat.le_of_ble_eq_true rfl, Nat.le_of_ble_eq_true rfl⟩ hE hP hD hS hA (iR_C k ad σ _ _) (by decide) (va_recv hE.1 hP (ci := 1) (q0 := 35) rfl (iR_35 k ad σ _ _)) hl rfl (Nat.le_of_ble_eq_true rfl) dL_changes_372) hP hD hS hA rfl rfl (fun va5 cap5 bt5 H locs ok hP hD hS => ?_)
    replace ok : SBok ((((([] ++ SB 28) ++ sbD q1) ++ SB 29) ++ sbD t) ++ SB 30) cap5 bt5 := ok
    have eL : ((((([] ++ SB 28) ++ sbD q1) ++ SB 29) ++ sbD t) ++ SB 30) = (txB q1 t) := by
      unfold txB
      rw [sbD_1 (show q1 < 10 by omega), sbD_1 (show t < 10 by omega)]
      rfl
    rw [eL] at ok hP hD
    have hlen : (txB q1 t).length = 21 := (tx_lens ⟨q1, hq1⟩ ⟨t, ht⟩).2
    have hcap : (txB q1 t).length < cap5 := by have h1 := ok.1; have h2 := ok.2.1; rw [hlen] at h2 ⊢; omega
    refine lc_ts (cells' := 10) (slots' := 882) (fc_runV (n := 0) (As := []) (rest := [.ref (ad 0)]) (isC := [35, 36]) (maxL := 1) ⟨hx, hb, hml, hown, hts⟩ (cS_ts b va5 cap5 (txB q1 t).length 0 bt5 hcap ok.lt.1 ok.2.2.1 H.size) gL_changes_J4_toString_0e30d rfl (by decide +kernel) rfl ⟨Nat.le_of_ble_eq_true rfl, Nat.le_of_ble_eq_true rfl⟩ ⟨Nat.le_of_ble_eq_true rfl, Nat.le_of_ble_eq_true rfl⟩ hE hP hD hS hA (iR_C k ad σ _ _) (by decide) (va_recv hE.1 hP (ci := 1) (q0 := 35) rfl (iR_35 k ad σ _ _)) hl rfl (Nat.le_of_ble_eq_true rfl) dL_changes_375) hP hD hS hA rfl rfl (fun st vs H locs hP hD hS => ?_)
    have hC : CHD a (A_read (withT a (txB q1 t)) [(6, q1), (5, t), (8, 1)]) := CHD_read hG (txB q1 t) (cwB hq1 ht) (Nat.le_of_ble_eq_true rfl)
    have hRd := LC_read (D := D) (k := k) hlst ad (withT a (txB q1 t)) [(6, q1), (5, t), (8, 1)] (TXB hq1 ht) (Nat.le_of_ble_eq_true rfl)
    generalize A_read (withT a (txB q1 t)) [(6, q1), (5, t), (8, 1)] = xr at hC hRd
    refine lc_rd (post := fun r a' => r = xr.1 ∧ a' = xr.2) (cells' := 71) (slots' := 1248) (fc_runS (n := 2) (As := [.ref (ad 0), .ref st]) (rest := []) (isC := iM) (maxL := 3) ⟨hx, hb, hml, hown, hts⟩ (LC_readsW hlst ad a hG.2.2 st vs (by omega) (STR_of ok (chB hq1 ht)) hRd σ hR H.size) gL_changes_L_reads rfl (by decide +kernel) rfl ⟨Nat.le_of_ble_eq_true rfl, Nat.le_of_ble_eq_true rfl⟩ ⟨Nat.le_of_ble_eq_true rfl, Nat.le_of_ble_eq_true rfl⟩ hE hP hD hS hA (iM_C k ad σ _ _) iM_nd hl rfl (Nat.le_of_ble_eq_true rfl) dL_changes_378) hP hD hS hA rfl rfl (fun r σ a2 H locs hp hR hP hD hS => ?_)
    obtain ⟨rfl, rfl⟩ := hp
    refine lv_if_lt (tgt := 388) hx hb dL_changes_381 (by decide) (fun hn => ?_) (fun hn => ?_)
    · skip
      refine lv_iconst (v := 0) hx hb dL_changes_388 (by decide) ?_
      exact fc_iret hx hb hr rfl hlk hS (σ, xr.2) ⟨CHD_lt hC hn, hR⟩ (hP.sub (ws' := WT k ad σ) iL (iL_f k ad σ _)) (hD.sub (ws' := WT k ad σ) iL iL_nd (iL_C k ad σ _)) (by decide) (by decide) dL_changes_389
    · skip
      refine lv_iconst (v := 1) hx hb dL_changes_384 (by decide) ?_
      refine lv_goto (tgt := 389) hx hb dL_changes_385 (by decide) ?_
      exact fc_iret hx hb hr rfl hlk hS (σ, xr.2) ⟨CHD_ge hC hn, hR⟩ (hP.sub (ws' := WT k ad σ) iL (iL_f k ad σ _)) (hD.sub (ws' := WT k ad σ) iL iL_nd (iL_C k ad σ _)) (by decide) (by decide) dL_changes_389
  · skip
    have hP : va_P D vwCl (WT k ad σ) H := by rw [← List.append_nil (WT k ad σ)]; exact hP
    have hD : va_D A (WT k ad σ) := by rw [← List.append_nil (WT k ad σ)]; exact hD
    refine va_new (ci := 1) (fs := sbN) (C := RJ4) (T := TJ4) (N := 4) hx hb hts in_changes_J4 tyJ4 tyJ4_ok hown (hts (.classLink RL 213 RJ4) (List.mem_cons_of_mem _ (List.mem_append_left _ (List.mem_append_left _ (List.mem_append_left _ (List.mem_append_left _ (List.mem_append_left _ (List.mem_append_left _ (List.mem_append_left _ (List.mem_append_left _ (List.mem_append_left _ (List.mem_append_left _ (List.mem_append_left _ (List.mem_append_left _ (List.mem_append_left _ (List.mem_append_left _ (List.mem_append_left _ (List.mem_of_getElem? (i := 0) (rfl : wsL_changes_r1[0]? = _))))))))))))))))))) (hts (.instantiable RJ4 4) (List.mem_cons_of_mem _ (List.mem_append_left _ (List.mem_append_left _ (List.mem_append_left _ (List.mem_append_left _ (List.mem_append_left _ (List.mem_append_left _ (List.mem_append_left _ (List.mem_append_left _ (List.mem_append_left _ (List.mem_append_left _ (List.mem_append_left _ (List.mem_append_left _ (List.mem_append_left _ (List.mem_append_left _ (List.mem_append_left _ (List.mem_of_getElem? (i := 1) (rfl : wsL_changes_r1[1]? = _))))))))))))))))))) (hts (.initialized RJ4) (List.mem_cons_of_mem _ (List.mem_append_left _ (List.mem_append_left _ (List.mem_append_left _ (List.mem_append_left _ (List.mem_append_left _ (List.mem_append_left _ (List.mem_append_left _ (List.mem_append_left _ (List.mem_append_left _ (List.mem_append_left _ (List.mem_append_left _ (List.mem_append_left _ (List.mem_append_left _ (List.mem_append_left _ (List.mem_append_left _ (List.mem_of_getElem? (i := 2) (rfl : wsL_changes_r1[2]? = _))))))))))))))))))) hE.1 hP hD hS hA rfl (fun j hj => by rcases (show j = 0 ∨ j = 1 ∨ j = 2 ∨ j = 3 by omega) with rfl | rfl | rfl | rfl <;> rfl) (by decide) (by decide) dL_changes_294 (fun b H hP hD hS => ?_)
    refine lv_dup hx hb dL_changes_297 rfl ?_
    refine fc_cvN (cells' := 3) (slots' := 26) [35] iL (wr := WT k ad σ) (fc_runI (n := 0) (As := []) (rest := [.ref b, .ref (ad 0)]) (isC := [35]) (maxL := 1) ⟨hx, hb, hml, hown, hts⟩ (c_J4_init b H.size) gL_changes_J4_init_da8c8 (List.mem_cons_of_mem _ (List.mem_append_left _ (List.mem_append_left _ (List.mem_append_left _ (List.mem_append_left _ (List.mem_append_left _ (List.mem_append_left _ (List.mem_append_left _ (List.mem_append_left _ (List.mem_append_left _ (List.mem_append_left _ (List.mem_append_left _ (List.mem_append_left _ (List.mem_append_left _ (List.mem_append_left _ (List.mem_append_right _ (List.mem_append_right _ (List.mem_append_right _ (List.mem_append_right _ (List.mem_append_right _ (List.mem_append_right _ (List.mem_append_right _ (List.mem_append_right _ (List.mem_append_right _ (List.mem_append_right _ (List.mem_append_right _ (List.mem_append_left _ (List.mem_of_getElem? (i := 13) (rfl : wsL_changes_r12[13]? = _))))))))))))))))))))))))))))) (List.mem_cons_of_mem _ (List.mem_append_left _ (List.mem_append_left _ (List.mem_append_left _ (List.mem_append_left _ (List.mem_append_left _ (List.mem_append_left _ (List.mem_append_left _ (List.mem_append_left _ (List.mem_append_left _ (List.mem_append_left _ (List.mem_append_left _ (List.mem_append_left _ (List.mem_append_left _ (List.mem_append_left _ (List.mem_append_right _ (List.mem_append_right _ (List.mem_append_right _ (List.mem_append_right _ (List.mem_append_right _ (List.mem_append_right _ (List.mem_append_right _ (List.mem_append_right _ (List.mem_append_right _ (List.mem_append_right _ (List.mem_append_right _ (List.mem_append_left _ (List.mem_of_getElem? (i := 14) (rfl : wsL_changes_r12[14]? = _))))))))))))))))))))))))))))) (List.mem_cons_of_mem _ (List.mem_append_left _ (List.mem_append_left _ (List.mem_append_left _ (List.mem_append_left _ (List.mem_append_left _ (List.mem_append_left _ (List.mem_append_left _ (List.mem_append_left _ (List.mem_append_left _ (List.mem_append_left _ (List.mem_append_left _ (List.mem_append_left _ (List.mem_append_left _ (List.mem_append_left _ (List.mem_append_left _ (List.mem_of_getElem? (i := 2) (rfl : wsL_changes_r1[2]? = _)))))))))))))))))) rfl rfl (by decide +kernel) rfl ⟨Nat.le_of_ble_eq_true rfl, Nat.le_of_ble_eq_true rfl⟩ ⟨Nat.le_of_ble_eq_true rfl, Nat.le_of_ble_eq_true rfl⟩ hE hP hD hS hA (i35_C k ad σ _) (by decide) hl rfl (Nat.le_of_ble_eq_true rfl) dL_changes_298) hP hD hS hA (i35_C k ad σ _) (iL_C k ad σ _) iL_nd (by decide) rfl rfl (fun va H locs _ hP hD hS => ?_)
    have hP : va_P D vwCl (WT k ad σ ++ [(b, .inr (1, [.ref va, .int (0 : Int32), .int (0 : Int32), .int (nI ([] : List Int32).length)])), (va, .inl (k.2.2.1, 16, .inl (fun _ => 0)))]) H := hP
    have hD : va_D A (WT k ad σ ++ [(b, .inr (1, [.ref va, .int (0 : Int32), .int (0 : Int32), .int (nI ([] : List Int32).length)])), (va, .inl (k.2.2.1, 16, .inl (fun _ => 0)))]) := hD
    have ok := SBok_new
    refine va_ldcS hx hb hown (hE.2.2.1 26 _ rfl).1 dL_changes_301 ?_
    refine lc_app (txt := ([] ++ SB 26)) (cells' := 4) (slots' := 168) (fc_runV (n := 1) (As := [.ref (kS k 26)]) (rest := [.ref (ad 0)]) (isC := [35, 36]) (maxL := 2) ⟨hx, hb, hml, hown, hts⟩ (cS_app4 b va 16 0 [] (fun _ => 0) ok (j := 26) (by decide) (by decide) (by decide) H.size) gL_changes_J4_append_15ec4 rfl (by decide +kernel) rfl ⟨Nat.le_of_ble_eq_true rfl, Nat.le_of_ble_eq_true rfl⟩ ⟨Nat.le_of_ble_eq_true rfl, Nat.le_of_ble_eq_true rfl⟩ hE hP hD hS hA (iR_C k ad σ _ _) (by decide) (va_recv hE.1 hP (ci := 1) (q0 := 35) rfl (iR_35 k ad σ _ _)) hl rfl (Nat.le_of_ble_eq_true rfl) dL_changes_303) hP hD hS hA rfl rfl (fun va1 cap1 bt1 H locs ok hP hD hS => ?_)
    replace ok : SBok ([] ++ SB 26) cap1 bt1 := ok
    refine lv_iload_n hx hb dL_changes_306 rfl (lv_at hl 2 rfl) ?_
    refine lv_iconst (v := 3) hx hb dL_changes_307 (by decide) ?_
    refine lv_ishr hx hb dL_changes_308 ?_
    refine lv_bipush (v := 6) hx hb dL_changes_309 (by decide) ?_
    obtain ⟨q1, hq1, eq1⟩ := some_lt (x >>> ((3 : Int32) &&& 31)) (n := 6) (by omega) (by omega)
    refine fc_c0 (cells' := 4) (slots' := 168) (fc_runS (n := 2) (As := [.int (x >>> ((3 : Int32) &&& 31)), .int (6 : Int32)]) (rest := [.ref b, .ref (ad 0)]) (isC := []) (maxL := 3) ⟨hx, hb, hml, hown, hts⟩ (FCi.to0 (c_L_some (k := k) (D := D) (l := l) (x >>> ((3 : Int32) &&& 31)) 6 (by omega) (by omega)) eq1 H.size) gL_changes_L_some rfl (by decide +kernel) rfl ⟨Nat.le_of_ble_eq_true rfl, Nat.le_of_ble_eq_true rfl⟩ ⟨Nat.le_of_ble_eq_true rfl, Nat.le_of_ble_eq_true rfl⟩ hE hP hD hS hA rfl rfl hl rfl (Nat.le_of_ble_eq_true rfl) dL_changes_311) hP hD hS hA rfl rfl (fun H locs hP hD hS => ?_)
    refine lc_app (txt := (([] ++ SB 26) ++ sbD q1)) (cells' := 5) (slots' := 310) (fc_runV (n := 1) (As := [.int (nI q1)]) (rest := [.ref (ad 0)]) (isC := [35, 36]) (maxL := 2) ⟨hx, hb, hml, hown, hts⟩ (cT_J4_append_I b va1 cap1 0 ([] ++ SB 26) bt1 q1 ok (by omega) (by decide) H.size) gL_changes_J4_append_bf812 rfl (by decide +kernel) rfl ⟨Nat.le_of_ble_eq_true rfl, Nat.le_of_ble_eq_true rfl⟩ ⟨Nat.le_of_ble_eq_true rfl, Nat.le_of_ble_eq_true rfl⟩ hE hP hD hS hA (iR_C k ad σ _ _) (by decide) (va_recv hE.1 hP (ci := 1) (q0 := 35) rfl (iR_35 k ad σ _ _)) hl rfl (Nat.le_of_ble_eq_true rfl) dL_changes_314) hP hD hS hA rfl rfl (fun va2 cap2 bt2 H locs ok hP hD hS => ?_)
    replace ok : SBok (([] ++ SB 26) ++ sbD q1) cap2 bt2 := ok
    refine va_ldcS hx hb hown (hE.2.2.1 27 _ rfl).1 dL_changes_317 ?_
    refine lc_app (txt := ((([] ++ SB 26) ++ sbD q1) ++ SB 27)) (cells' := 6) (slots' := 452) (fc_runV (n := 1) (As := [.ref (kS k 27)]) (rest := [.ref (ad 0)]) (isC := [35, 36]) (maxL := 2) ⟨hx, hb, hml, hown, hts⟩ (cS_app4 b va2 cap2 0 (([] ++ SB 26) ++ sbD q1) bt2 ok (j := 27) (by decide) (by decide) (by simp only [List.length_append, sbD_len, if_pos (show q1 < 10 by omega)]; decide) H.size) gL_changes_J4_append_15ec4 rfl (by decide +kernel) rfl ⟨Nat.le_of_ble_eq_true rfl, Nat.le_of_ble_eq_true rfl⟩ ⟨Nat.le_of_ble_eq_true rfl, Nat.le_of_ble_eq_true rfl⟩ hE hP hD hS hA (iR_C k ad σ _ _) (by decide) (va_recv hE.1 hP (ci := 1) (q0 := 35) rfl (iR_35 k ad σ _ _)) hl rfl (Nat.le_of_ble_eq_true rfl) dL_changes_319) hP hD hS hA rfl rfl (fun va3 cap3 bt3 H locs ok hP hD hS => ?_)
    replace ok : SBok ((([] ++ SB 26) ++ sbD q1) ++ SB 27) cap3 bt3 := ok
    refine lv_iload_n hx hb dL_changes_322 rfl (lv_at hl 2 rfl) ?_
    refine lv_iconst (v := 5) hx hb dL_changes_323 (by decide) ?_
    refine lv_ishr hx hb dL_changes_324 ?_
    refine lv_iconst (v := 4) hx hb dL_changes_325 (by decide) ?_
    obtain ⟨q2, hq2, eq2⟩ := some_lt (x >>> ((5 : Int32) &&& 31)) (n := 4) (by omega) (by omega)
    refine fc_c0 (cells' := 6) (slots' := 452) (fc_runS (n := 2) (As := [.int (x >>> ((5 : Int32) &&& 31)), .int (4 : Int32)]) (rest := [.ref b, .ref (ad 0)]) (isC := []) (maxL := 3) ⟨hx, hb, hml, hown, hts⟩ (FCi.to0 (c_L_some (k := k) (D := D) (l := l) (x >>> ((5 : Int32) &&& 31)) 4 (by omega) (by omega)) eq2 H.size) gL_changes_L_some rfl (by decide +kernel) rfl ⟨Nat.le_of_ble_eq_true rfl, Nat.le_of_ble_eq_true rfl⟩ ⟨Nat.le_of_ble_eq_true rfl, Nat.le_of_ble_eq_true rfl⟩ hE hP hD hS hA rfl rfl hl rfl (Nat.le_of_ble_eq_true rfl) dL_changes_326) hP hD hS hA rfl rfl (fun H locs hP hD hS => ?_)
    refine lc_app (txt := (((([] ++ SB 26) ++ sbD q1) ++ SB 27) ++ sbD q2)) (cells' := 7) (slots' := 594) (fc_runV (n := 1) (As := [.int (nI q2)]) (rest := [.ref (ad 0)]) (isC := [35, 36]) (maxL := 2) ⟨hx, hb, hml, hown, hts⟩ (cT_J4_append_I b va3 cap3 0 ((([] ++ SB 26) ++ sbD q1) ++ SB 27) bt3 q2 ok (by omega) (by simp only [List.length_append, sbD_len, if_pos (show q1 < 10 by omega)]; decide) H.size) gL_changes_J4_append_bf812 rfl (by decide +kernel) rfl ⟨Nat.le_of_ble_eq_true rfl, Nat.le_of_ble_eq_true rfl⟩ ⟨Nat.le_of_ble_eq_true rfl, Nat.le_of_ble_eq_true rfl⟩ hE hP hD hS hA (iR_C k ad σ _ _) (by decide) (va_recv hE.1 hP (ci := 1) (q0 := 35) rfl (iR_35 k ad σ _ _)) hl rfl (Nat.le_of_ble_eq_true rfl) dL_changes_329) hP hD hS hA rfl rfl (fun va4 cap4 bt4 H locs ok hP hD hS => ?_)
    replace ok : SBok (((([] ++ SB 26) ++ sbD q1) ++ SB 27) ++ sbD q2) cap4 bt4 := ok
    have eL : (((([] ++ SB 26) ++ sbD q1) ++ SB 27) ++ sbD q2) = (txA q1 q2) := by
      unfold txA
      rw [sbD_1 (show q1 < 10 by omega), sbD_1 (show q2 < 10 by omega)]
      rfl
    rw [eL] at ok hP hD
    have hlen : (txA q1 q2).length = 14 := (tx_lens ⟨q1, hq1⟩ ⟨q2, by omega⟩).1
    have hcap : (txA q1 q2).length < cap4 := by have h1 := ok.1; have h2 := ok.2.1; rw [hlen] at h2 ⊢; omega
    refine lc_ts (cells' := 9) (slots' := 740) (fc_runV (n := 0) (As := []) (rest := [.ref (ad 0)]) (isC := [35, 36]) (maxL := 1) ⟨hx, hb, hml, hown, hts⟩ (cS_ts b va4 cap4 (txA q1 q2).length 0 bt4 hcap ok.lt.1 ok.2.2.1 H.size) gL_changes_J4_toString_0e30d rfl (by decide +kernel) rfl ⟨Nat.le_of_ble_eq_true rfl, Nat.le_of_ble_eq_true rfl⟩ ⟨Nat.le_of_ble_eq_true rfl, Nat.le_of_ble_eq_true rfl⟩ hE hP hD hS hA (iR_C k ad σ _ _) (by decide) (va_recv hE.1 hP (ci := 1) (q0 := 35) rfl (iR_35 k ad σ _ _)) hl rfl (Nat.le_of_ble_eq_true rfl) dL_changes_332) hP hD hS hA rfl rfl (fun st vs H locs hP hD hS => ?_)
    refine lv_goto (tgt := 378) hx hb dL_changes_335 (by decide) ?_
    have hC : CHD a (A_read (withT a (txA q1 q2)) [(0, q1), (8, q2)]) := CHD_read hG (txA q1 q2) (cwA hq1 hq2) (Nat.le_of_ble_eq_true rfl)
    have hRd := LC_read (D := D) (k := k) hlst ad (withT a (txA q1 q2)) [(0, q1), (8, q2)] (TXA hq1 hq2) (Nat.le_of_ble_eq_true rfl)
    generalize A_read (withT a (txA q1 q2)) [(0, q1), (8, q2)] = xr at hC hRd
    refine lc_rd (post := fun r a' => r = xr.1 ∧ a' = xr.2) (cells' := 70) (slots' := 1106) (fc_runS (n := 2) (As := [.ref (ad 0), .ref st]) (rest := []) (isC := iM) (maxL := 3) ⟨hx, hb, hml, hown, hts⟩ (LC_readsW hlst ad a hG.2.2 st vs (by omega) (STR_of ok (chA hq1 (by omega))) hRd σ hR H.size) gL_changes_L_reads rfl (by decide +kernel) rfl ⟨Nat.le_of_ble_eq_true rfl, Nat.le_of_ble_eq_true rfl⟩ ⟨Nat.le_of_ble_eq_true rfl, Nat.le_of_ble_eq_true rfl⟩ hE hP hD hS hA (iM_C k ad σ _ _) iM_nd hl rfl (Nat.le_of_ble_eq_true rfl) dL_changes_378) hP hD hS hA rfl rfl (fun r σ a2 H locs hp hR hP hD hS => ?_)
    obtain ⟨rfl, rfl⟩ := hp
    refine lv_if_lt (tgt := 388) hx hb dL_changes_381 (by decide) (fun hn => ?_) (fun hn => ?_)
    · skip
      refine lv_iconst (v := 0) hx hb dL_changes_388 (by decide) ?_
      exact fc_iret hx hb hr rfl hlk hS (σ, xr.2) ⟨CHD_lt hC hn, hR⟩ (hP.sub (ws' := WT k ad σ) iL (iL_f k ad σ _)) (hD.sub (ws' := WT k ad σ) iL iL_nd (iL_C k ad σ _)) (by decide) (by decide) dL_changes_389
    · skip
      refine lv_iconst (v := 1) hx hb dL_changes_384 (by decide) ?_
      refine lv_goto (tgt := 389) hx hb dL_changes_385 (by decide) ?_
      exact fc_iret hx hb hr rfl hlk hS (σ, xr.2) ⟨CHD_ge hC hn, hR⟩ (hP.sub (ws' := WT k ad σ) iL (iL_f k ad σ _)) (hD.sub (ws' := WT k ad σ) iL iL_nd (iL_C k ad σ _)) (by decide) (by decide) dL_changes_389
set_option maxRecDepth 100000 in
set_option maxHeartbeats 8000000 in
theorem LC_changes {l : Launch} {D : va_G} {k : tyK} (hlst : l.stackTraces = false) (ad : Nat → Nat) (a : Abs) (hG : GD a) (x : Int32) : LCi l yL_changes wsL_changes rm_L_changes D k ad [.int x] a (fun r a' => CHG a r a') := by
  intro σ hR
  refine fc_start (cc := cL_changes) (maxL := 3) (ret := (some .boolean)) (own := RL) (Qc := fun A => va_Qi (fun r (u : TSt × Abs) => CHG a r u.2 ∧ Rep u.1 u.2) (Bt D (fun u => WT k ad u.1) A) A) (by decide) rfl rfl (Nat.le_of_ble_eq_true rfl) ?_
  intro p e s m below meth c A H hx hb hml hr hts hown hlk hname hA hP hE hD hS ls hl
  have hl : lv_has ls 3 [(0, .ref (ad 0)), (1, .int x)] := hl
  obtain ⟨locs, hlocs⟩ : ∃ z : List Loc, z = [] := ⟨_, rfl⟩
  rw [← hlocs] at hS ⊢
  have hP : va_P D vwCl (WT k ad σ ++ ([] : va_W)) H := by rw [List.append_nil]; exact hP
  have hD : va_D A (WT k ad σ ++ ([] : va_W)) := by rw [List.append_nil]; exact hD
  refine lv_iload_n hx hb dL_changes_0 rfl (lv_at hl 1 rfl) ?_
  refine lv_iconst (v := 4) hx hb dL_changes_1 (by decide) ?_
  refine lv_ishr hx hb dL_changes_2 ?_
  refine lv_aload_n hx hb dL_changes_3 rfl (lv_at hl 0 rfl) ?_
  refine lv_iconst (v := 1) hx hb dL_changes_4 (by decide) ?_
  refine lc_k (v := (nI (NT a.1))) (a1 := a) (cells' := 1) (slots' := 6) (fc_runSW (n := 2) (As := [.ref (ad 0), .int (1 : Int32)]) (rest := [.int (x >>> ((4 : Int32) &&& 31))]) (isC := iL) (maxL := 3) ⟨hx, hb, hml, hown, hts⟩ ((LC_count hlst ad a hG.1.1) σ hR H.size) gL_changes_L_number rfl (by decide +kernel) rfl ⟨Nat.le_of_ble_eq_true rfl, Nat.le_of_ble_eq_true rfl⟩ ⟨Nat.le_of_ble_eq_true rfl, Nat.le_of_ble_eq_true rfl⟩ hE hP hD hS hA (iL_C k ad σ ([] : va_W)) iL_nd hl rfl (Nat.le_of_ble_eq_true rfl) dL_changes_5) hP hD hS hA rfl rfl (fun σ H locs hR hP hD hS => ?_)
  refine lv_iconst (v := 1) hx hb dL_changes_8 (by decide) ?_
  refine lv_iadd hx hb dL_changes_9 ?_
  have hN6 := (BK_n hG.1.1).2
  rw [show nI (NT a.1) + (1 : Int32) = nI (NT a.1 + 1) from nI_add _ 1]
  obtain ⟨t, ht, et⟩ := some_lt (x >>> ((4 : Int32) &&& 31)) (n := NT a.1 + 1) (by omega) (by omega)
  refine fc_c0 (cells' := 1) (slots' := 6) (fc_runS (n := 2) (As := [.int (x >>> ((4 : Int32) &&& 31)), .int (nI (NT a.1 + 1))]) (rest := []) (isC := []) (maxL := 3) ⟨hx, hb, hml, hown, hts⟩ (FCi.to0 (c_L_some (k := k) (D := D) (l := l) (x >>> ((4 : Int32) &&& 31)) (NT a.1 + 1) (by omega) (by omega)) et H.size) gL_changes_L_some rfl (by decide +kernel) rfl ⟨Nat.le_of_ble_eq_true rfl, Nat.le_of_ble_eq_true rfl⟩ ⟨Nat.le_of_ble_eq_true rfl, Nat.le_of_ble_eq_true rfl⟩ hE hP hD hS hA rfl rfl hl rfl (Nat.le_of_ble_eq_true rfl) dL_changes_10) hP hD hS hA rfl rfl (fun H locs hP hD hS => ?_)
  refine lv_istore_n (lv' := [(2, .int (nI t)), (0, .ref (ad 0)), (1, .int x)]) hx hb dL_changes_13 rfl hl (by decide) rfl (fun ls hl => ?_)
  refine lv_iload_n hx hb dL_changes_14 rfl (lv_at hl 2 rfl) ?_
  refine lv_bipush (v := 16) hx hb dL_changes_15 (by decide) ?_
  obtain ⟨q0, hq0, eq0⟩ := some_lt x (n := 16) (by decide) (by decide)
  refine fc_c0 (cells' := 1) (slots' := 6) (fc_runS (n := 2) (As := [.int x, .int (16 : Int32)]) (rest := []) (isC := []) (maxL := 3) ⟨hx, hb, hml, hown, hts⟩ (FCi.to0 (c_L_some (k := k) (D := D) (l := l) x 16 (by omega) (by omega)) eq0 H.size) gL_changes_L_some rfl (by decide +kernel) rfl ⟨Nat.le_of_ble_eq_true rfl, Nat.le_of_ble_eq_true rfl⟩ ⟨Nat.le_of_ble_eq_true rfl, Nat.le_of_ble_eq_true rfl⟩ hE hP hD hS hA rfl rfl hl rfl (Nat.le_of_ble_eq_true rfl) dL_changes_17) hP hD hS hA rfl rfl (fun H locs hP hD hS => ?_)
  have ht7 : t < 7 := by omega
  rcases (show q0 = 0 ∨ q0 = 1 ∨ q0 = 2 ∨ q0 = 3 ∨ q0 = 4 ∨ q0 = 5 ∨ q0 = 6 ∨ q0 = 7 ∨ q0 = 8 ∨ q0 = 9 ∨ q0 = 10 ∨ q0 = 11 ∨ q0 = 12 ∨ q0 = 13 ∨ q0 = 14 ∨ q0 = 15 by omega) with rfl | rfl | rfl | rfl | rfl | rfl | rfl | rfl | rfl | rfl | rfl | rfl | rfl | rfl | rfl | rfl
  · refine lv_tableIn (tgt := 88) hx hb dL_changes_20 (by decide) (by decide) (off := 68) (by decide) (by decide) ?_
    exact bC_88 hx hb hml hr hlk hts hown hA hE hlst ad hG ht7 x σ H locs ls hR hP hD hS hl
  · refine lv_tableIn (tgt := 109) hx hb dL_changes_20 (by decide) (by decide) (off := 89) (by decide) (by decide) ?_
    exact bC_109 hx hb hml hr hlk hts hown hA hE hlst ad hG ht7 x σ H locs ls hR hP hD hS hl
  · refine lv_tableIn (tgt := 109) hx hb dL_changes_20 (by decide) (by decide) (off := 89) (by decide) (by decide) ?_
    exact bC_109 hx hb hml hr hlk hts hown hA hE hlst ad hG ht7 x σ H locs ls hR hP hD hS hl
  · refine lv_tableIn (tgt := 157) hx hb dL_changes_20 (by decide) (by decide) (off := 137) (by decide) (by decide) ?_
    exact bC_157 hx hb hml hr hlk hts hown hA hE hlst ad hG ht7 x σ H locs ls hR hP hD hS hl
  · refine lv_tableIn (tgt := 157) hx hb dL_changes_20 (by decide) (by decide) (off := 137) (by decide) (by decide) ?_
    exact bC_157 hx hb hml hr hlk hts hown hA hE hlst ad hG ht7 x σ H locs ls hR hP hD hS hl
  · refine lv_tableIn (tgt := 171) hx hb dL_changes_20 (by decide) (by decide) (off := 151) (by decide) (by decide) ?_
    exact bC_171 hx hb hml hr hlk hts hown hA hE hlst ad hG ht7 x σ H locs ls hR hP hD hS hl
  · refine lv_tableIn (tgt := 171) hx hb dL_changes_20 (by decide) (by decide) (off := 151) (by decide) (by decide) ?_
    exact bC_171 hx hb hml hr hlk hts hown hA hE hlst ad hG ht7 x σ H locs ls hR hP hD hS hl
  · refine lv_tableIn (tgt := 185) hx hb dL_changes_20 (by decide) (by decide) (off := 165) (by decide) (by decide) ?_
    exact bC_185 hx hb hml hr hlk hts hown hA hE hlst ad hG ht7 x σ H locs ls hR hP hD hS hl
  · refine lv_tableIn (tgt := 185) hx hb dL_changes_20 (by decide) (by decide) (off := 165) (by decide) (by decide) ?_
    exact bC_185 hx hb hml hr hlk hts hown hA hE hlst ad hG ht7 x σ H locs ls hR hP hD hS hl
  · refine lv_tableIn (tgt := 220) hx hb dL_changes_20 (by decide) (by decide) (off := 200) (by decide) (by decide) ?_
    exact bC_220 hx hb hml hr hlk hts hown hA hE hlst ad hG ht7 x σ H locs ls hR hP hD hS hl
  · refine lv_tableIn (tgt := 250) hx hb dL_changes_20 (by decide) (by decide) (off := 230) (by decide) (by decide) ?_
    exact bC_250 hx hb hml hr hlk hts hown hA hE hlst ad hG ht7 x σ H locs ls hR hP hD hS hl
  · refine lv_tableIn (tgt := 250) hx hb dL_changes_20 (by decide) (by decide) (off := 230) (by decide) (by decide) ?_
    exact bC_250 hx hb hml hr hlk hts hown hA hE hlst ad hG ht7 x σ H locs ls hR hP hD hS hl
  · refine lv_tableIn (tgt := 250) hx hb dL_changes_20 (by decide) (by decide) (off := 230) (by decide) (by decide) ?_
    exact bC_250 hx hb hml hr hlk hts hown hA hE hlst ad hG ht7 x σ H locs ls hR hP hD hS hl
  · refine lv_tableOut (tgt := 284) hx hb dL_changes_20 (Or.inr (by decide)) (by decide) ?_
    exact bC_284 hx hb hml hr hlk hts hown hA hE hlst ad hG ht7 x σ H locs ls hR hP hD hS hl
  · refine lv_tableOut (tgt := 284) hx hb dL_changes_20 (Or.inr (by decide)) (by decide) ?_
    exact bC_284 hx hb hml hr hlk hts hown hA hE hlst ad hG ht7 x σ H locs ls hR hP hD hS hl
  · refine lv_tableOut (tgt := 284) hx hb dL_changes_20 (Or.inr (by decide)) (by decide) ?_
    exact bC_284 hx hb hml hr hlk hts hown hA hE hlst ad hG ht7 x σ H locs ls hR hP hD hS hl
end TSchanges
