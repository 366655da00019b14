/-! read, in the words of Abs. -/
section TSread
theorem hrep_push2 {nx kp : Int32} {g : Nat → Nat → Int32} {H : List (Nat → Int32)} {f f0 : Nat → Int32} (h : HRep nx kp g H) (he : ∀ j, j < 628 → f0 j = f j) : ∃ g' : Nat → Nat → Int32, HRep (F_X1_keep nx kp g f0).1 (F_X1_keep nx kp g f0).2.1 g' (push f H) ∧ ∀ i j, j < 628 → (F_X1_keep nx kp g f0).2.2 i j = g' i j := by
  obtain ⟨g', h1, h2⟩ := h.push (f := f)
  refine ⟨g', h1, fun i j hj => ?_⟩
  rw [← h2 i j hj]
  show (if i = nx.toNatClampNeg then F_X0_take (g i) f0 else g i) j = (if i = nx.toNatClampNeg then F_X0_take (g i) f else g i) j
  split
  · rw [take_at hj, take_at hj]; exact he j hj
  · rfl
def A_read (a : Abs) (cs : List (Nat × Nat)) : Int32 × Abs := if (RN cs 0 a.1 a.2.2.2.1 a.2.2.2.2.1).1 = true then (nI cs.length, ((RN cs 0 a.1 a.2.2.2.1 a.2.2.2.2.1).2.1, push a.1 a.2.1, a.2.2.1, (RN cs 0 a.1 a.2.2.2.1 a.2.2.2.2.1).2.2.1, (RN cs 0 a.1 a.2.2.2.1 a.2.2.2.2.1).2.2.2, a.2.2.2.2.2.1, [], a.2.2.2.2.2.2.2))
  else (-1002, (a.1, a.2.1, a.2.2.1, (RN cs 0 a.1 a.2.2.2.1 a.2.2.2.2.1).2.2.1, (RN cs 0 a.1 a.2.2.2.1 a.2.2.2.2.1).2.2.2, a.2.2.2.2.2.1, [], a.2.2.2.2.2.2.2))
set_option maxRecDepth 100000 in
set_option maxHeartbeats 2000000 in
theorem LC_read {l : Launch} {D : va_G} {k : tyK} (hlst : l.stackTraces = false) (ad : Nat → Nat) (a : Abs) (cs : List (Nat × Nat)) (hT : TX a.2.2.2.2.2.2.1.length (fun i => a.2.2.2.2.2.2.1.getD i 0) 0 cs) (hc : cs.length ≤ 10) : LCi l yL_read wsL_read rm_L_read D k ad [] a (fun r a' => r = (A_read a cs).1 ∧ a' = (A_read a cs).2) := by
  intro σ hR
  obtain ⟨hs, fk, f, f2, f3, f4, jr, jd, nx, kp, g, ln, tp, wd, fi, tw, dy, mn, vl, sg, ml, txt, q, cap, yb⟩ := σ
  obtain ⟨af, aH, aS, aj, ajd, ak, atx, al⟩ := a
  obtain ⟨⟨rfl, rfl, rfl, rfl⟩, ⟨rfl, hsb⟩, ⟨hln, hl60, hsg, hch⟩, hsn, hH⟩ := hR
  have h := c_L_read (l := l) (D := D) (k := k) ad hs fk f f2 f3 f4 jr jd nx kp g ln tp wd fi tw dy mn vl sg ml txt q cap yb hlst hH.hn hch
  refine FCi.conv h rfl (fun _ h => h) (fun r _ hr => ?_)
  have hSG := SG_of hln hl60 hsg
  obtain ⟨b1, b2, b3, b4, b5, b6, b7, hf⟩ := fault_none hSG hln hl60 cs 61 0 0 wd fi tw dy mn vl hT (by omega) (by omega) (by omega)
  have e0 : F_X6_read hs fk f jr jd nx kp g f3 ln tp wd fi tw dy mn vl sg = FL_X6_read_55 61 hs fk f jr jd nx kp g (F_X0_take f3 f) ln (nI 0) b2 b3 b4 b5 b6 b7 sg (-1) (nI 0) := by
    have hf' : F_X4_findFault ln tp wd fi tw dy mn vl sg = (-1, b1, b2, b3, b4, b5, b6, b7) := by
      unfold F_X4_findFault F_X4_rewind
      exact hf
    unfold F_X6_read
    rw [hf', letp_n, if_pos rfl, letp_n]
    rfl
  obtain ⟨R, hR⟩ : ∃ z, RN cs 0 f jr jd = z := ⟨_, rfl⟩
  obtain ⟨r1, r2⟩ := run_eq hSG hl60 cs 61 0 0 hs fk f jr jd nx kp g (F_X0_take f3 f) b2 b3 b4 b5 b6 b7 (-1) R hR hT (by omega) (by omega) (by omega)
  have ht : ∀ j, j < 628 → F_X0_take f3 f j = f j := fun j hj => take_at hj
  have hH0 : (0 : Int32) = nI ([] : List Int32).length := rfl
  cases hq : R.1 with
  | true =>
    obtain ⟨c1, c2, c3, c4, c5, c6, c7, e1⟩ := r1 hq
    rw [Nat.zero_add] at e1
    obtain ⟨g', hg1, hg2⟩ := hrep_push2 hH (f := f) ht
    have eK : K_read (hs, fk, f, f2, f3, f4, jr, jd, nx, kp, g, ln, tp, wd, fi, tw, dy, mn, vl, sg, ml, txt, q, cap, yb) = (nI cs.length, (hs, fk, R.2.1, f2, (F_X0_take f3 f), f4, R.2.2.1, R.2.2.2, (F_X1_keep nx kp g (F_X0_take f3 f)).1, (F_X1_keep nx kp g (F_X0_take f3 f)).2.1, (F_X1_keep nx kp g (F_X0_take f3 f)).2.2, 0, c1, c2, c3, c4, c5, c6, c7, sg, ml, txt, q, cap, yb)) := by
      unfold K_read
      dsimp only
      rw [e0, e1]
      rfl
    have eA : A_read (f, aH, aS, jr, jd, fk, atx, txt) cs = (nI cs.length, (R.2.1, push f aH, aS, R.2.2.1, R.2.2.2, fk, [], txt)) := by
      unfold A_read
      dsimp only
      rw [hR, if_pos hq]
    rw [eK] at hr
    refine ⟨((hs, fk, R.2.1, f2, (F_X0_take f3 f), f4, R.2.2.1, R.2.2.2, (F_X1_keep nx kp g (F_X0_take f3 f)).1, (F_X1_keep nx kp g (F_X0_take f3 f)).2.1, g', 0, c1, c2, c3, c4, c5, c6, c7, sg, ml, txt, q, cap, yb), (A_read (f, aH, aS, jr, jd, fk, atx, txt) cs).2), ⟨⟨by rw [hr, eA], rfl⟩, ?_⟩, ?_, ?_⟩
    · rw [eA]
      exact ⟨⟨rfl, rfl, rfl, rfl⟩, ⟨rfl, hsb⟩, ⟨hH0, Nat.zero_le _, fun i hi => absurd hi (Nat.not_lt_zero i), hch⟩, hsn, hg1⟩
    · rw [eK]
      exact WT_conv (fun _ _ => rfl) (fun _ _ => rfl) (fun _ _ => rfl) (fun _ _ => rfl) hg2
    · rw [eK] <;> rfl
  | false =>
    obtain ⟨c1, c2, c3, c4, c5, c6, c7, e1⟩ := r2 hq
    have eK : K_read (hs, fk, f, f2, f3, f4, jr, jd, nx, kp, g, ln, tp, wd, fi, tw, dy, mn, vl, sg, ml, txt, q, cap, yb) = (-1002, (hs, fk, F_X0_take R.2.1 (F_X0_take f3 f), f2, (F_X0_take f3 f), f4, R.2.2.1, R.2.2.2, nx, kp, g, 0, c1, c2, c3, c4, c5, c6, c7, sg, ml, txt, q, cap, yb)) := by
      unfold K_read
      dsimp only
      rw [e0, e1]
      rfl
    have eA : A_read (f, aH, aS, jr, jd, fk, atx, txt) cs = (-1002, (f, aH, aS, R.2.2.1, R.2.2.2, fk, [], txt)) := by
      unfold A_read
      dsimp only
      rw [hR, if_neg (by rw [hq]; decide)]
    rw [eK] at hr
    refine ⟨((hs, fk, f, f2, (F_X0_take f3 f), f4, R.2.2.1, R.2.2.2, nx, kp, g, 0, c1, c2, c3, c4, c5, c6, c7, sg, ml, txt, q, cap, yb), (A_read (f, aH, aS, jr, jd, fk, atx, txt) cs).2), ⟨⟨by rw [hr, eA], rfl⟩, ?_⟩, ?_, ?_⟩
    · rw [eA]
      exact ⟨⟨rfl, rfl, rfl, rfl⟩, ⟨rfl, hsb⟩, ⟨hH0, Nat.zero_le _, fun i hi => absurd hi (Nat.not_lt_zero i), hch⟩, hsn, hH⟩
    · rw [eK]
      exact WT_conv (fun j hj => (take_at hj).trans (ht j hj)) (fun _ _ => rfl) (fun _ _ => rfl) (fun _ _ => rfl) (fun _ _ _ => rfl)
    · rw [eK] <;> rfl
/-- a text that no command begins -/
def A_readBad (a : Abs) : Int32 × Abs := (-1001, (a.1, a.2.1, a.2.2.1, a.2.2.2.1, a.2.2.2.2.1, 0, [], a.2.2.2.2.2.2.2))
set_option maxRecDepth 100000 in
set_option maxHeartbeats 2000000 in
theorem LC_readBad {l : Launch} {D : va_G} {k : tyK} (hlst : l.stackTraces = false) (ad : Nat → Nat) (a : Abs) (hW : rdW (fun i => a.2.2.2.2.2.2.1.getD i 0) 10 0 0 = (none, 0)) : LCi l yL_read wsL_read rm_L_read D k ad [] a (fun r a' => r = (A_readBad a).1 ∧ a' = (A_readBad a).2) := by
  intro σ hR
  obtain ⟨hs, fk, f, f2, f3, f4, jr, jd, nx, kp, g, ln, tp, wd, fi, tw, dy, mn, vl, sg, ml, txt, q, cap, yb⟩ := σ
  obtain ⟨af, aH, aS, aj, ajd, ak, atx, al⟩ := a
  obtain ⟨⟨rfl, rfl, rfl, rfl⟩, ⟨rfl, hsb⟩, ⟨hln, hl60, hsg, hch⟩, hsn, hH⟩ := hR
  have h := c_L_read (l := l) (D := D) (k := k) ad hs fk f f2 f3 f4 jr jd nx kp g ln tp wd fi tw dy mn vl sg ml txt q cap yb hlst hH.hn hch
  refine FCi.conv h rfl (fun _ h => h) (fun r _ hr => ?_)
  have hSG := SG_of hln hl60 hsg
  have hw := word_eq hSG wd fi tw dy mn vl (p := 0) (by omega)
  rw [show (fun j => (fun i => atx.getD i 0) (0 + j)) = (fun i => atx.getD i 0) by funext j; rw [Nat.zero_add], hW] at hw
  have hcmd : F_X4_readCommand ln (nI 0) wd fi tw dy mn vl sg = (0, nI 0, wd, fi, tw, dy, mn, vl) := by
    unfold F_X4_readCommand
    rw [letp_n, hw]
    dsimp only
    rw [if_pos rfl]
  have e : F_X6_read hs fk f jr jd nx kp g f3 ln tp wd fi tw dy mn vl sg = (some "java/lang/IllegalArgumentException", 0, 0, f, jr, jd, nx, kp, g, f3, 0, 0, wd, fi, tw, dy, mn, vl) := by
    have hf' : F_X4_findFault ln tp wd fi tw dy mn vl sg = (nI 0, nI 0, wd, fi, tw, dy, mn, vl) := by
      unfold F_X4_findFault F_X4_rewind
      rw [FL_X4_findFault_6, if_neg (show ¬ (60 : Int32) ≤ 0 by decide), show F_X4_readCommand ln 0 wd fi tw dy mn vl sg = (0, nI 0, wd, fi, tw, dy, mn, vl) from hcmd, letp_n, if_pos rfl]
    unfold F_X6_read
    rw [hf', letp_n, if_neg (show ¬ nI 0 = -1 by decide), letp_n]
    rfl
  have eK : K_read (hs, fk, f, f2, f3, f4, jr, jd, nx, kp, g, ln, tp, wd, fi, tw, dy, mn, vl, sg, ml, txt, q, cap, yb) = (-1001, (hs, 0, f, f2, f3, f4, jr, jd, nx, kp, g, 0, 0, wd, fi, tw, dy, mn, vl, sg, ml, txt, q, cap, yb)) := by
    unfold K_read
    dsimp only
    rw [e]
    rfl
  rw [eK] at hr
  refine ⟨((hs, 0, f, f2, f3, f4, jr, jd, nx, kp, g, 0, 0, wd, fi, tw, dy, mn, vl, sg, ml, txt, q, cap, yb), (A_readBad (f, aH, aS, jr, jd, fk, atx, txt)).2), ⟨⟨hr, rfl⟩, ?_⟩, ?_, ?_⟩
  · exact ⟨⟨rfl, rfl, rfl, rfl⟩, ⟨rfl, hsb⟩, ⟨rfl, Nat.zero_le _, fun i hi => absurd hi (Nat.not_lt_zero i), hch⟩, hsn, hH⟩
  · rw [eK]; exact fun _ h => h
  · rw [eK] <;> rfl
end TSread
