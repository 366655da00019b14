/-! saveSnapshot by itself; what keeps the order GD. -/
section TSsave
def A_save (a : Abs) : Int32 × Abs := (a.1 1, (a.1, a.2.1, some a.1, a.2.2.2))
theorem pr_ext {x : Int32 × Abs} {v : Int32} (h : x.1 = v) : x = (v, x.2) := by rw [← h]
set_option maxRecDepth 100000 in
set_option maxHeartbeats 4000000 in
theorem lw_save {p : Program} {l : Launch} {e : Env} {s : State} {m : MethodId} {args : Array Value} {below : List Frame} {meth : Method} {c : Code} {D : va_G} {k : tyK} {A : Nat → Prop} {Q : State → Prop} (hx : p.tables.exec = Jvm.exec) (hb : c.code = cL_law) (hml : c.maxLocals = 11) (hts : ∀ w ∈ wsL_law, w.before args s = true) (hown : s.vm.findClass RL = some m.cls) (hA : ∀ q : Nat, s.heap.size ≤ q → A q) (hE : GE D k A s) (hlst : l.stackTraces = false) (ad : Nat → Nat) (a : Abs) (σ : TSt) (hR : Rep σ a) {H : Heap} {locs : List Loc} {ls : Array Slot} {lv : List (Nat × Value)} {cells slots pc : Nat} (hP : va_P D vwCl (WT k ad σ ++ ([] : va_W)) H) (hD : va_D A (WT k ad σ ++ ([] : va_W))) (hS : va_S A s.heap H locs) (hl : lv_has ls 11 lv) (hc : cells + 0 ≤ 600258) (hs0 : slots + 0 ≤ 7294185) (hdg : decode cL_law pc = .ok (.invokevirtual 263, 3))
    (kk : ∀ (σ : TSt) (H : Heap) (locs : List Loc), Rep σ (A_save a).2 → va_P D vwCl (WT k ad σ ++ ([] : va_W)) H → va_D A (WT k ad σ ++ ([] : va_W)) → va_S A s.heap H locs → W p l e room_1 s m args below meth c H locs cells slots Q (F0 m (pc + 3) ls [.int (a.1 1)])) : W p l e room_1 s m args below meth c H locs cells slots Q (F0 m pc ls [.ref (ad 0)]) := by
  obtain ⟨hs, fk, f, f2, f3, f4, jr, jd, nx, kp, g, ln, tp, wd, fi, tw, dy, mn, vl, sg, ml, txt, q, cap, yb⟩ := σ
  obtain ⟨af, aH, aS, aj, ajd, ak, atx, al⟩ := a
  obtain ⟨⟨rfl, rfl, rfl, rfl⟩, ⟨rfl, hsb⟩, ⟨hln, hl60, hsg, hch⟩, hsn, hH⟩ := hR
  refine fc_ci (isC := [0, 2, 3, 28, 29]) (cells' := cells) (slots' := slots) (fc_runV (n := 0) (As := []) (rest := []) (isC := [0, 2, 3, 28, 29]) (maxL := 1) ⟨hx, hb, hml, hown, hts⟩ (c_X6_saveSnapshot (ad 0) (ad 1) (ad 2) (ad 4) (ad 7) (ad 8) (ad 26) (ad 28) (ad 30) (ad 32) (ad 3) (ad 29) hs fk f f4 H.size) gL_law_X6_saveSnapshot rfl (by decide +kernel) rfl ⟨Nat.le_of_ble_eq_true rfl, Nat.le_of_ble_eq_true rfl⟩ ⟨hc, hs0⟩ hE hP hD hS hA rfl (by decide) (va_recv hE.1 hP (ci := 10) (q0 := 0) rfl rfl) hl rfl (Nat.le_of_ble_eq_true rfl) hdg) hP hD hS hA rfl (fun _ => rfl) rfl rfl (fun r u H locs hp hP hD hS => ?_)
  have hp : r = f 1 := hp.trans gN_1
  subst hp
  have hP : va_P D vwCl (WT k ad (1, fk, f, f2, f3, F_X0_take f4 f, jr, jd, nx, kp, g, ln, tp, wd, fi, tw, dy, mn, vl, sg, ml, txt, q, cap, yb)) H := by rw [← List.append_nil (WT k ad (1, fk, f, f2, f3, F_X0_take f4 f, jr, jd, nx, kp, g, ln, tp, wd, fi, tw, dy, mn, vl, sg, ml, txt, q, cap, yb))]; exact hP
  have hD : va_D A (WT k ad (1, fk, f, f2, f3, F_X0_take f4 f, jr, jd, nx, kp, g, ln, tp, wd, fi, tw, dy, mn, vl, sg, ml, txt, q, cap, yb)) := by rw [← List.append_nil (WT k ad (1, fk, f, f2, f3, F_X0_take f4 f, jr, jd, nx, kp, g, ln, tp, wd, fi, tw, dy, mn, vl, sg, ml, txt, q, cap, yb))]; exact hD
  have hP2 := WT_conv (D := D) (k := k) (ad := ad) (hs := 1) (fk := fk) (jr := jr) (jd := jd) (nx := nx) (kp := kp) (ln := ln) (tp := tp) (wd := wd) (fi := fi) (tw := tw) (dy := dy) (mn := mn) (vl := vl) (sg := sg) (ml := ml) (txt := txt) (q := q) (cap := cap) (yb := yb) (f := f) (f2 := f2) (f3 := f3) (f4 := F_X0_take f4 f) (g := g) (f' := f) (f2' := f2) (f3' := f3) (f4' := f) (g' := g) (fun _ _ => rfl) (fun _ _ => rfl) (fun _ _ => rfl) (fun j hj => take_at hj) (fun _ _ _ => rfl) H hP
  have hD2 : va_D A (WT k ad (1, fk, f, f2, f3, f, jr, jd, nx, kp, g, ln, tp, wd, fi, tw, dy, mn, vl, sg, ml, txt, q, cap, yb)) := by refine va_D_adr ?_ hD; rfl
  exact kk (1, fk, f, f2, f3, f, jr, jd, nx, kp, g, ln, tp, wd, fi, tw, dy, mn, vl, sg, ml, txt, q, cap, yb) H locs ⟨⟨rfl, rfl, rfl, rfl⟩, ⟨rfl, hsb⟩, ⟨hln, hl60, hsg, hch⟩, Or.inr ⟨rfl, rfl⟩, hH⟩ (by rw [List.append_nil]; exact hP2) (by rw [List.append_nil]; exact hD2) hS
/-- books that are the same where they are read -/
theorem rep_nm {D : va_G} {k : tyK} {A : Nat → Prop} {ad : Nat → Nat} {σ : TSt} {a : Abs} {H : Heap} (f' : Nat → Int32) (hR : Rep σ a) (e : ∀ j, j < 628 → a.1 j = f' j) (hP : va_P D vwCl (WT k ad σ ++ ([] : va_W)) H) (hD : va_D A (WT k ad σ ++ ([] : va_W))) : ∃ σ : TSt, Rep σ (f', a.2) ∧ va_P D vwCl (WT k ad σ ++ ([] : va_W)) H ∧ va_D A (WT k ad σ ++ ([] : va_W)) := by
  obtain ⟨hs, fk, f, f2, f3, f4, jr, jd, nx, kp, g, ln, tp, wd, fi, tw, dy, mn, vl, sg, ml, txt, q, cap, yb⟩ := σ
  obtain ⟨af, aH, aS, aj, ajd, ak, atx, al⟩ := a
  obtain ⟨⟨rfl, rfl, rfl, rfl⟩, ⟨rfl, hsb⟩, ⟨hln, hl60, hsg, hch⟩, hsn, hH⟩ := hR
  rw [List.append_nil] at hP hD
  have hP2 := WT_conv (D := D) (k := k) (ad := ad) (hs := hs) (fk := fk) (jr := jr) (jd := jd) (nx := nx) (kp := kp) (ln := ln) (tp := tp) (wd := wd) (fi := fi) (tw := tw) (dy := dy) (mn := mn) (vl := vl) (sg := sg) (ml := ml) (txt := txt) (q := q) (cap := cap) (yb := yb) (f := f) (f2 := f2) (f3 := f3) (f4 := f4) (g := g) (f' := f') (f2' := f2) (f3' := f3) (f4' := f4) (g' := g) e (fun _ _ => rfl) (fun _ _ => rfl) (fun _ _ => rfl) (fun _ _ _ => rfl) H hP
  have hD2 : va_D A (WT k ad (hs, fk, f', f2, f3, f4, jr, jd, nx, kp, g, ln, tp, wd, fi, tw, dy, mn, vl, sg, ml, txt, q, cap, yb)) := by refine va_D_adr ?_ hD; rfl
  exact ⟨(hs, fk, f', f2, f3, f4, jr, jd, nx, kp, g, ln, tp, wd, fi, tw, dy, mn, vl, sg, ml, txt, q, cap, yb), ⟨⟨rfl, rfl, rfl, rfl⟩, ⟨rfl, hsb⟩, ⟨hln, hl60, hsg, hch⟩, hsn, hH⟩, by rw [List.append_nil]; exact hP2, by rw [List.append_nil]; exact hD2⟩
theorem GD_save {a : Abs} (h : GD a) : GD (A_save a).2 := ⟨⟨h.1.1, h.1.2.1, fun b e => by cases (show some a.1 = some b from e); exact h.1.1⟩, h.2⟩
theorem GD_withL {a : Abs} {L : List Int32} (h : GD a) (hX : L = a.2.2.2.2.2.2.2 ∨ L.length ≤ 91) : GD (withL a L) := ⟨⟨h.1.1, h.1.2.1, h.1.2.2⟩, hX.elim (fun e => by rw [e]; exact h.2.1) (fun e => e), h.2.2⟩
theorem GD_REF {a a' : Abs} (h : GD a) (hr : REFd a a') : GD a' := by
  obtain ⟨jr, jd, fk, L, hL, rfl⟩ := hr
  exact ⟨⟨h.1.1, h.1.2.1, h.1.2.2⟩, hL, rfl⟩
theorem GD_pop {a : Abs} {b : Nat → Int32} {H : List (Nat → Int32)} (h : GD a) (e : a.2.1 = b :: H) : GD (b, H, a.2.2) := ⟨⟨h.1.2.1 b (by rw [e]; exact List.mem_cons_self), fun b' hb' => h.1.2.1 b' (by rw [e]; exact List.mem_cons_of_mem _ hb'), h.1.2.2⟩, h.2⟩
theorem A_undo_c {a : Abs} {b : Nat → Int32} {H : List (Nat → Int32)} (e : a.2.1 = b :: H) : A_undo a = (nI H.length, (b, H, a.2.2)) := by unfold A_undo; rw [e]
theorem A_undo_n {a : Abs} (e : a.2.1 = []) : A_undo a = (-1001, a) := by unfold A_undo; rw [e]
theorem A_rest_s {a : Abs} {b : Nat → Int32} (e : a.2.2.1 = some b) : A_restore a = (b 1, (b, [], a.2.2)) := by unfold A_restore; rw [e]
theorem GD_rest {a : Abs} {b : Nat → Int32} (h : GD a) (e : a.2.2.1 = some b) : GD (b, [], a.2.2) := ⟨⟨h.1.2.2 b e, fun _ hb => absurd hb List.not_mem_nil, h.1.2.2⟩, h.2⟩
theorem Rep_h8 {σ : TSt} {a : Abs} (hR : Rep σ a) : a.2.1.length ≤ 8 := by
  obtain ⟨hs, fk, f, f2, f3, f4, jr, jd, nx, kp, g, ln, tp, wd, fi, tw, dy, mn, vl, sg, ml, txt, q, cap, yb⟩ := σ
  obtain ⟨af, aH, aS, aj, ajd, ak, atx, al⟩ := a
  obtain ⟨-, -, -, -, n, -, -, -, h8, -⟩ := hR
  exact h8
end TSsave
