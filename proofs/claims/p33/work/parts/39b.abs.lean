/-! The law's small methods in the words of Abs, second half. -/
section TSabs2
def Q_faultPosition (fk : Int32) : Int32 := xc (F_X6_faultPosition 0 fk).1 (F_X6_faultPosition 0 fk).2 [("java/util/NoSuchElementException", (-1001 : Int32))]
set_option maxRecDepth 100000 in
set_option maxHeartbeats 2000000 in
theorem LC_faultPosition {l : Launch} {D : va_G} {k : tyK} (hlst : l.stackTraces = false) (ad : Nat → Nat) (a : Abs) : LCi l yL_faultPosition wsL_faultPosition rm_L_faultPosition D k ad [] a (fun r a' => r = Q_faultPosition a.2.2.2.2.2.1 ∧ a' = a) := by
  intro σ hR
  obtain ⟨hs, fk, f, f2, f3, f4, jr, jd, nx, kp, g, ln, tp, wd, fi, tw, dy, mn, vl, sg, ml, txt, q, cap, yb⟩ := σ
  obtain ⟨af, aH, aS, aj, ajd, ak, atx, al⟩ := a
  obtain ⟨⟨rfl, rfl, rfl, rfl⟩, ⟨rfl, hsb⟩, ⟨hln, hl60, hsg, hch⟩, hsn, hH⟩ := hR
  have h := c_L_faultPosition (l := l) (D := D) (k := k) ad hs fk f f2 f3 f4 jr jd nx kp g ln tp wd fi tw dy mn vl sg ml txt q cap yb hlst
  refine FCi.conv h rfl (fun _ h => h) (fun r _ hr => ?_)
  exact ⟨((hs, fk, f, f2, f3, f4, jr, jd, nx, kp, g, ln, tp, wd, fi, tw, dy, mn, vl, sg, ml, txt, q, cap, yb), (f, aH, aS, jr, jd, fk, atx, txt)), ⟨⟨hr, rfl⟩, ⟨⟨rfl, rfl, rfl, rfl⟩, ⟨rfl, hsb⟩, ⟨hln, hl60, hsg, hch⟩, hsn, hH⟩⟩, fun _ h => h, rfl⟩
def Q_refusal (jr jd ir : Int32) : Int32 := xc (F_X6_refusal 0 0 jr jd ir).1 (F_X6_refusal 0 0 jr jd ir).2 [("java/util/NoSuchElementException", (-1001 : Int32))]
set_option maxRecDepth 100000 in
set_option maxHeartbeats 2000000 in
theorem LC_refusal {l : Launch} {D : va_G} {k : tyK} (hlst : l.stackTraces = false) (ad : Nat → Nat) (a : Abs) (ir : Int32) : LCi l yL_refusal wsL_refusal rm_L_refusal D k ad [.int ir] a (fun r a' => r = Q_refusal a.2.2.2.1 a.2.2.2.2.1 ir ∧ a' = a) := by
  intro σ hR
  obtain ⟨hs, fk, f, f2, f3, f4, jr, jd, nx, kp, g, ln, tp, wd, fi, tw, dy, mn, vl, sg, ml, txt, q, cap, yb⟩ := σ
  obtain ⟨af, aH, aS, aj, ajd, ak, atx, al⟩ := a
  obtain ⟨⟨rfl, rfl, rfl, rfl⟩, ⟨rfl, hsb⟩, ⟨hln, hl60, hsg, hch⟩, hsn, hH⟩ := hR
  have h := c_L_refusal (l := l) (D := D) (k := k) ad hs fk f f2 f3 f4 jr jd nx kp g ln tp wd fi tw dy mn vl sg ml txt q cap yb ir hlst
  refine FCi.conv h rfl (fun _ h => h) (fun r _ hr => ?_)
  exact ⟨((hs, fk, f, f2, f3, f4, jr, jd, nx, kp, g, ln, tp, wd, fi, tw, dy, mn, vl, sg, ml, txt, q, cap, yb), (f, aH, aS, jr, jd, fk, atx, txt)), ⟨⟨hr, rfl⟩, ⟨⟨rfl, rfl, rfl, rfl⟩, ⟨rfl, hsb⟩, ⟨hln, hl60, hsg, hch⟩, hsn, hH⟩⟩, fun _ h => h, rfl⟩
def Q_number (f : Nat → Int32) (kp ln iw : Int32) : Int32 := xc (F_X6_number 0 0 f 0 kp ln 0 0 0 0 0 0 0 (fun _ => 0) iw).1 (F_X6_number 0 0 f 0 kp ln 0 0 0 0 0 0 0 (fun _ => 0) iw).2 [("java/lang/IllegalArgumentException", (-1001 : Int32))]
set_option maxRecDepth 100000 in
set_option maxHeartbeats 2000000 in
theorem LC_number {l : Launch} {D : va_G} {k : tyK} (hlst : l.stackTraces = false) (ad : Nat → Nat) (a : Abs) (iw : Int32) : LCi l yL_number wsL_number rm_L_number D k ad [.int iw] a (fun r a' => r = Q_number a.1 (nI a.2.1.length) (nI a.2.2.2.2.2.2.1.length) iw ∧ a' = a) := by
  intro σ hR
  obtain ⟨hs, fk, f, f2, f3, f4, jr, jd, nx, kp, g, ln, tp, wd, fi, tw, dy, mn, vl, sg, ml, txt, q, cap, yb⟩ := σ
  obtain ⟨af, aH, aS, aj, ajd, ak, atx, al⟩ := a
  obtain ⟨⟨rfl, rfl, rfl, rfl⟩, ⟨rfl, hsb⟩, ⟨hln, hl60, hsg, hch⟩, hsn, hH⟩ := hR
  have h := c_L_number (l := l) (D := D) (k := k) ad hs fk f f2 f3 f4 jr jd nx kp g ln tp wd fi tw dy mn vl sg ml txt q cap yb iw hlst
  refine FCi.conv h rfl (fun _ h => h) (fun r _ hr => ?_)
  obtain ⟨n, h1, h2, h3, h4, h5⟩ := hH
  have hH : HRep nx kp g aH := ⟨n, h1, h2, h3, h4, h5⟩
  refine ⟨((hs, fk, f, f2, f3, f4, jr, jd, nx, kp, g, ln, tp, wd, fi, tw, dy, mn, vl, sg, ml, txt, q, cap, yb), (f, aH, aS, jr, jd, fk, atx, txt)), ⟨⟨?_, rfl⟩, ⟨⟨rfl, rfl, rfl, rfl⟩, ⟨rfl, hsb⟩, ⟨hln, hl60, hsg, hch⟩, hsn, hH⟩⟩, fun _ h => h, rfl⟩
  rw [hr]
  show Q_number f kp ln iw = Q_number f (nI aH.length) (nI atx.length) iw
  rw [h3, hln]
def Q_endsIn (f : Nat → Int32) (it : Int32) : Int32 := xc (F_X6_endsIn 0 0 f f it).1 (F_X6_endsIn 0 0 f f it).2.1 [("java/lang/IndexOutOfBoundsException", (-1001 : Int32)), ("java/util/NoSuchElementException", (-1002 : Int32))]
theorem ends_f2 (hs fk : Int32) {f f2 : Nat → Int32} (h : F_X0_take f2 f = f) (it : Int32) : (F_X6_endsIn hs fk f f2 it).1 = (F_X6_endsIn 0 0 f f it).1 ∧ (F_X6_endsIn hs fk f f2 it).2.1 = (F_X6_endsIn 0 0 f f it).2.1 := by
  have h2 : F_X0_take f f = f := take_same (fun _ _ => rfl)
  have hn : F_X6_needTour hs fk f it = F_X6_needTour 0 0 f it := rfl
  unfold F_X6_endsIn
  rw [h, h2, hn]
  split
  · split
    · exact ⟨rfl, rfl⟩
    · rw [letp_n]
      split
      · exact ⟨rfl, rfl⟩
      · exact ⟨rfl, rfl⟩
  · exact ⟨rfl, rfl⟩
set_option maxRecDepth 100000 in
set_option maxHeartbeats 2000000 in
theorem LC_endsIn {l : Launch} {D : va_G} {k : tyK} (hlst : l.stackTraces = false) (ad : Nat → Nat) (a : Abs) (it : Int32) : LCi l yL_endsIn wsL_endsIn rm_L_endsIn D k ad [.int it] a (fun r a' => r = Q_endsIn a.1 it ∧ a' = a) := by
  intro σ hR
  obtain ⟨hs, fk, f, f2, f3, f4, jr, jd, nx, kp, g, ln, tp, wd, fi, tw, dy, mn, vl, sg, ml, txt, q, cap, yb⟩ := σ
  obtain ⟨af, aH, aS, aj, ajd, ak, atx, al⟩ := a
  obtain ⟨⟨rfl, rfl, rfl, rfl⟩, ⟨rfl, hsb⟩, ⟨hln, hl60, hsg, hch⟩, hsn, hH⟩ := hR
  obtain ⟨w2, hw2⟩ : ∃ z : Nat → Int32, z = fun i => if i < 628 then f2 i else f i := ⟨_, rfl⟩
  have hw : F_X0_take w2 f = f := take_same (fun i hi => by rw [hw2]; exact if_neg (by omega))
  have h := c_L_endsIn (l := l) (D := D) (k := k) ad hs fk f w2 f3 f4 jr jd nx kp g ln tp wd fi tw dy mn vl sg ml txt q cap yb it hlst
  refine FCi.conv h rfl (WT_conv (fun _ _ => rfl) (fun j hj => by rw [hw2]; exact (if_pos hj).symm) (fun _ _ => rfl) (fun _ _ => rfl) (fun _ _ _ => rfl)) (fun r _ hr => ?_)
  obtain ⟨e1, e2⟩ := ends_f2 hs fk hw it
  refine ⟨((hs, fk, f, (F_X6_endsIn hs fk f w2 it).2.2, f3, f4, jr, jd, nx, kp, g, ln, tp, wd, fi, tw, dy, mn, vl, sg, ml, txt, q, cap, yb), (f, aH, aS, jr, jd, fk, atx, txt)), ⟨⟨?_, rfl⟩, ⟨⟨rfl, rfl, rfl, rfl⟩, ⟨rfl, hsb⟩, ⟨hln, hl60, hsg, hch⟩, hsn, hH⟩⟩, fun _ h => h, rfl⟩
  rw [hr]
  show xc (F_X6_endsIn hs fk f w2 it).1 (F_X6_endsIn hs fk f w2 it).2.1 _ = _
  rw [e1, e2]
  rfl
/-- a sign more -/
def A_feed (a : Abs) (c : Int32) : Int32 × Abs := if a.2.2.2.2.2.2.1.length < 60 then (nI (a.2.2.2.2.2.2.1.length + 1), (a.1, a.2.1, a.2.2.1, a.2.2.2.1, a.2.2.2.2.1, a.2.2.2.2.2.1, a.2.2.2.2.2.2.1 ++ [c], a.2.2.2.2.2.2.2)) else (-1001, a)
set_option maxRecDepth 100000 in
set_option maxHeartbeats 2000000 in
theorem LC_feed {l : Launch} {D : va_G} {k : tyK} (hlst : l.stackTraces = false) (ad : Nat → Nat) (a : Abs) (n : Nat) (hn : n < 65536) : LCi l yL_feed wsL_feed rm_L_feed D k ad [.int (nI n)] a (fun r a' => r = (A_feed a (nI n)).1 ∧ a' = (A_feed a (nI n)).2) := by
  intro σ hR
  obtain ⟨hs, fk, f, f2, f3, f4, jr, jd, nx, kp, g, ln, tp, wd, fi, tw, dy, mn, vl, sg, ml, txt, q, cap, yb⟩ := σ
  obtain ⟨af, aH, aS, aj, ajd, ak, atx, al⟩ := a
  obtain ⟨⟨rfl, rfl, rfl, rfl⟩, ⟨rfl, hsb⟩, ⟨hln, hl60, hsg, hch⟩, hsn, hH⟩ := hR
  have h := c_L_feed (l := l) (D := D) (k := k) ad hs fk f f2 f3 f4 jr jd nx kp g ln tp wd fi tw dy mn vl sg ml txt q cap yb (nI n) hlst
  refine FCi.conv h rfl (fun _ h => h) (fun r _ hr => ?_)
  have hvn : vp_nar .char (nI n) = nI n := by
    unfold vp_nar
    rw [(pk_charN hn).1]
  by_cases hq : atx.length < 60
  · have e : F_X6_feed hs fk ln tp wd fi tw dy mn vl sg (nI n) = (none, nI (atx.length + 1), nI (atx.length + 1), upd sg atx.length (nI n)) := by
      have hb : ¬ F_X6_isBelow (nI atx.length) 60 = 0 := by
        unfold F_X6_isBelow
        rw [if_neg (nI_pos (by omega)), if_neg (show ¬ (60 : Int32) ≤ nI atx.length from nI_ge (b := 60) (by omega) (by decide))]
        decide
      unfold F_X6_feed F_X4_append F_X4_length
      rw [hln, if_pos (show nI atx.length < (60 : Int32) from nI_lt (b := 60) (by omega) (by decide)), letp_n, if_neg hb, nI_1, nI_clamp (by omega), hvn]
    have eK : K_feed (hs, fk, f, f2, f3, f4, jr, jd, nx, kp, g, ln, tp, wd, fi, tw, dy, mn, vl, sg, ml, txt, q, cap, yb) (nI n) = (nI (atx.length + 1), (hs, fk, f, f2, f3, f4, jr, jd, nx, kp, g, nI (atx.length + 1), tp, wd, fi, tw, dy, mn, vl, upd sg atx.length (nI n), ml, txt, q, cap, yb)) := by
      unfold K_feed
      dsimp only
      rw [e]
      rfl
    have eA : A_feed (f, aH, aS, jr, jd, fk, atx, txt) (nI n) = (nI (atx.length + 1), (f, aH, aS, jr, jd, fk, atx ++ [nI n], txt)) := by
      unfold A_feed
      dsimp only
      rw [if_pos hq]
    rw [eK] at hr
    refine ⟨((hs, fk, f, f2, f3, f4, jr, jd, nx, kp, g, nI (atx.length + 1), tp, wd, fi, tw, dy, mn, vl, upd sg atx.length (nI n), ml, txt, q, cap, yb), (A_feed (f, aH, aS, jr, jd, fk, atx, txt) (nI n)).2), ⟨⟨by rw [hr, eA], rfl⟩, ?_⟩, ?_, ?_⟩
    · rw [eA]
      refine ⟨⟨rfl, rfl, rfl, rfl⟩, ⟨rfl, hsb⟩, ⟨by rw [List.length_append]; rfl, by rw [List.length_append]; exact hq, fun i hi => ?_, fun j => ?_⟩, hsn, hH⟩
      · rw [List.length_append] at hi
        by_cases z : i = atx.length
        · subst z
          rw [upd_eq]; simp
        · have hi2 : i < atx.length := by
            have : i < atx.length + 1 := hi
            omega
          rw [upd_ne z, hsg i hi2]
          simp [List.getElem?_append, hi2]
      · by_cases z : j = atx.length
        · subst z
          rw [upd_eq]; exact (pk_charN hn).1
        · rw [upd_ne z]; exact hch j
    · rw [eK]; exact fun _ h => h
    · rw [eK] <;> rfl
  · have e : F_X6_feed hs fk ln tp wd fi tw dy mn vl sg (nI n) = (some "java/lang/IllegalStateException", 0, ln, sg) := by
      unfold F_X6_feed F_X4_length
      rw [if_neg (by rw [hln]; exact (show ¬ nI atx.length < (60 : Int32) from nI_nlt (a := atx.length) (b := 60) (by omega) (by omega)))]
    have eK : K_feed (hs, fk, f, f2, f3, f4, jr, jd, nx, kp, g, ln, tp, wd, fi, tw, dy, mn, vl, sg, ml, txt, q, cap, yb) (nI n) = (-1001, (hs, fk, f, f2, f3, f4, jr, jd, nx, kp, g, ln, tp, wd, fi, tw, dy, mn, vl, sg, ml, txt, q, cap, yb)) := by
      unfold K_feed
      dsimp only
      rw [e]
      rfl
    have eA : A_feed (f, aH, aS, jr, jd, fk, atx, txt) (nI n) = (-1001, (f, aH, aS, jr, jd, fk, atx, txt)) := by
      unfold A_feed
      dsimp only
      rw [if_neg hq]
    rw [eK] at hr
    refine ⟨((hs, fk, f, f2, f3, f4, jr, jd, nx, kp, g, ln, tp, wd, fi, tw, dy, mn, vl, sg, ml, txt, q, cap, yb), (A_feed (f, aH, aS, jr, jd, fk, atx, txt) (nI n)).2), ⟨⟨by rw [hr, eA], rfl⟩, ?_⟩, ?_, ?_⟩
    · rw [eA]; exact ⟨⟨rfl, rfl, rfl, rfl⟩, ⟨rfl, hsb⟩, ⟨hln, hl60, hsg, hch⟩, hsn, hH⟩
    · rw [eK]; exact fun _ h => h
    · rw [eK] <;> rfl
/-- the line's sign -/
def Q_character (lx : List Int32) (ii : Int32) : Int32 := xc (F_X6_character 0 0 0 (nI lx.length) (fun i => lx.getD i 0) ii).1 (F_X6_character 0 0 0 (nI lx.length) (fun i => lx.getD i 0) ii).2 [("java/lang/IndexOutOfBoundsException", (-1001 : Int32))]
theorem char_yb {hs fk ml : Int32} {txt : List Int32} {cap : Nat} {yb : Nat → Int32} (ok : SBok txt cap yb) (ii : Int32) : F_X6_character hs fk ml (nI txt.length) yb ii = F_X6_character 0 0 0 (nI txt.length) (fun i => txt.getD i 0) ii := by
  unfold F_X6_character
  split
  · rename_i hb
    have hz : ¬ F_X6_isBelow ii (nI txt.length) = 0 := fun z => by
      unfold F_X6_needBelow at hb
      rw [if_pos z] at hb
      exact nomatch hb
    have hlen := SBok_142 ok
    have hl2 := ok.2.1
    have hii : ∃ j : Nat, j < txt.length ∧ ii = nI j := by
      unfold F_X6_isBelow at hz
      by_cases h0 : ii < 0
      · rw [if_pos h0] at hz; exact absurd rfl hz
      · rw [if_neg h0] at hz
        by_cases h1 : nI txt.length ≤ ii
        · rw [if_pos h1] at hz; exact absurd rfl hz
        · rcases pk_ix ii (n := txt.length) (by omega) with q | q | q
          · exact absurd q h0
          · exact absurd q h1
          · exact q
    obtain ⟨j, hj, rfl⟩ := hii
    have hy : yb j = txt.getD j 0 := ok.2.2.2 j hj
    unfold F_X3_signAt
    show (none, (if F_X6_isBelow (nI j) (nI txt.length) = 0 then (0 : Int32) else ((((yb (nI j).toNatClampNeg) &&& (255 : Int32))).toUInt32 % 65536).toInt32)) = (none, (if F_X6_isBelow (nI j) (nI txt.length) = 0 then (0 : Int32) else ((((txt.getD (nI j).toNatClampNeg 0) &&& (255 : Int32))).toUInt32 % 65536).toInt32))
    rw [nI_clamp (by omega), hy]
  · rfl
set_option maxRecDepth 100000 in
set_option maxHeartbeats 2000000 in
theorem LC_character {l : Launch} {D : va_G} {k : tyK} (hlst : l.stackTraces = false) (ad : Nat → Nat) (a : Abs) (ii : Int32) : LCi l yL_character wsL_character rm_L_character D k ad [.int ii] a (fun r a' => r = Q_character a.2.2.2.2.2.2.2 ii ∧ a' = a) := by
  intro σ hR
  obtain ⟨hs, fk, f, f2, f3, f4, jr, jd, nx, kp, g, ln, tp, wd, fi, tw, dy, mn, vl, sg, ml, txt, q, cap, yb⟩ := σ
  obtain ⟨af, aH, aS, aj, ajd, ak, atx, al⟩ := a
  obtain ⟨⟨rfl, rfl, rfl, rfl⟩, ⟨rfl, hsb⟩, ⟨hln, hl60, hsg, hch⟩, hsn, hH⟩ := hR
  have h := c_L_character (l := l) (D := D) (k := k) ad hs fk f f2 f3 f4 jr jd nx kp g ln tp wd fi tw dy mn vl sg ml txt q cap yb ii hlst hsb
  refine FCi.conv h rfl (fun _ h => h) (fun r _ hr => ?_)
  refine ⟨((hs, fk, f, f2, f3, f4, jr, jd, nx, kp, g, ln, tp, wd, fi, tw, dy, mn, vl, sg, ml, txt, q, cap, yb), (f, aH, aS, jr, jd, fk, atx, txt)), ⟨⟨?_, rfl⟩, ⟨⟨rfl, rfl, rfl, rfl⟩, ⟨rfl, hsb⟩, ⟨hln, hl60, hsg, hch⟩, hsn, hH⟩⟩, fun _ h => h, rfl⟩
  rw [hr]
  show xc (F_X6_character hs fk ml (nI txt.length) yb ii).1 (F_X6_character hs fk ml (nI txt.length) yb ii).2 _ = _
  rw [char_yb hsb]
  rfl
/-- the line about a tour -/
theorem lnLoop_ml (ml : Int32) (f : Nat → Int32) (it bk : Int32) : ∀ (n j : Nat) (t : List Int32), lnLoop ml f it bk n j t = lnLoop 0 f it bk n j t
  | 0, _, _ => rfl
  | n + 1, j, t => by
    show lnLoop ml f it bk n (j + 1) (lnStep ml f it bk t j) = lnLoop 0 f it bk n (j + 1) (lnStep 0 f it bk t j)
    rw [lnLoop_ml ml f it bk n]
    rfl
def lineOf (f : Nat → Int32) (it : Int32) : List Int32 := F_X3_write 0 f it (nSt f it)
def A_line (a : Abs) (it : Int32) : Int32 × Abs := if F_X6_needTour 0 0 a.1 it = none then (nI (lineOf a.1 it).length, (a.1, a.2.1, a.2.2.1, a.2.2.2.1, a.2.2.2.2.1, a.2.2.2.2.2.1, a.2.2.2.2.2.2.1, lineOf a.1 it)) else (-1001, a)
theorem tour_of {f : Nat → Int32} {it : Int32} (hB : BK f) (h : F_X6_needTour 0 0 f it = none) : ∃ t n : Nat, t < n ∧ n ≤ 6 ∧ f 1 = nI n ∧ it = nI t := by
  obtain ⟨n, hn, h1, -⟩ := hB.1
  unfold F_X6_needTour at h
  rw [gN_1, h1] at h
  split at h
  · rename_i hb
    unfold F_X6_needBelow at hb
    split at hb
    · exact nomatch hb
    · rename_i hz
      unfold F_X6_isBelow at hz
      by_cases h0 : it < 0
      · rw [if_pos h0] at hz; exact absurd rfl hz
      · rw [if_neg h0] at hz
        by_cases h1' : nI n ≤ it
        · rw [if_pos h1'] at hz; exact absurd rfl hz
        · rcases pk_ix it (n := n) (by omega) with q | q | ⟨t, ht, q⟩
          · exact absurd q h0
          · exact absurd q h1'
          · exact ⟨t, n, ht, hn, h1, q⟩
  · rename_i hb
    exact absurd h hb
theorem line_ok {f : Nat → Int32} {it : Int32} (hB : BK f) (h : F_X6_needTour 0 0 f it = none) : LineOK f it := by
  obtain ⟨t, n, ht, hn, h1, rfl⟩ := tour_of hB h
  obtain ⟨c', b', s', q1, q2, q3, q4, q5, -⟩ := hB.2.1 t (by omega)
  have e : nSt f (nI t) = s' := by
    unfold nSt
    rw [gT_2 (by omega), q3, nI_clamp (by omega)]
  refine ⟨⟨t, by omega, rfl⟩, by omega, by rw [e, gT_2 (by omega), q3], fun j hj => ?_⟩
  rw [e] at hj
  obtain ⟨-, ⟨x1, y1, z1⟩, ⟨x2, y2, z2⟩, ⟨x3, y3, z3⟩⟩ := hB.2.2.1 t j (by omega) (by omega)
  rw [iS_1, iS_2, iS_3, get_nI (by omega), get_nI (by omega), get_nI (by omega)]
  exact ⟨⟨x1, by omega, z1⟩, ⟨x2, by omega, z2⟩, ⟨x3, by omega, z3⟩⟩
set_option maxRecDepth 100000 in
set_option maxHeartbeats 2000000 in
theorem LC_line {l : Launch} {D : va_G} {k : tyK} (hlst : l.stackTraces = false) (ad : Nat → Nat) (a : Abs) (hB : BK a.1) (it : Int32) : LCi l yL_line wsL_line rm_L_line D k ad [.int it] a (fun r a' => r = (A_line a it).1 ∧ a' = (A_line a it).2) := by
  intro σ hR
  obtain ⟨hs, fk, f, f2, f3, f4, jr, jd, nx, kp, g, ln, tp, wd, fi, tw, dy, mn, vl, sg, ml, txt, q, cap, yb⟩ := σ
  obtain ⟨af, aH, aS, aj, ajd, ak, atx, al⟩ := a
  obtain ⟨⟨rfl, rfl, rfl, rfl⟩, ⟨rfl, hsb⟩, ⟨hln, hl60, hsg, hch⟩, hsn, hH⟩ := hR
  have h := c_L_line (l := l) (D := D) (k := k) ad hs fk f f2 f3 f4 jr jd nx kp g ln tp wd fi tw dy mn vl sg ml txt q cap yb it hlst hsb (fun z => line_ok hB z)
  refine FCi.conv h rfl (fun _ h => h) (fun r u hr => ?_)
  by_cases hn : F_X6_needTour 0 0 f it = none
  · have hn' : F_X6_needTour hs fk f it = none := hn
    have e : F_X6_line hs fk f ml txt it = (none, nI (lineOf f it).length, mlZ ml txt, lineOf f it) := by
      unfold F_X6_line
      rw [if_pos hn']
      have : F_X3_write (mlZ ml txt) f it (nSt f it) = lineOf f it := lnLoop_ml _ _ _ _ _ _ _
      rw [this]
    have eK : K_line (hs, fk, f, f2, f3, f4, jr, jd, nx, kp, g, ln, tp, wd, fi, tw, dy, mn, vl, sg, ml, txt, q, cap, yb) it u = (nI (lineOf f it).length, (hs, fk, f, f2, f3, f4, jr, jd, nx, kp, g, ln, tp, wd, fi, tw, dy, mn, vl, sg, mlZ ml txt, lineOf f it, u.1, u.2.1, u.2.2)) := by
      unfold K_line
      dsimp only
      rw [e]
      rfl
    have eA : A_line (f, aH, aS, jr, jd, fk, atx, txt) it = (nI (lineOf f it).length, (f, aH, aS, jr, jd, fk, atx, lineOf f it)) := by
      unfold A_line
      dsimp only
      rw [if_pos hn]
    rw [eK] at hr
    refine ⟨((hs, fk, f, f2, f3, f4, jr, jd, nx, kp, g, ln, tp, wd, fi, tw, dy, mn, vl, sg, mlZ ml txt, lineOf f it, u.1, u.2.1, u.2.2), (A_line (f, aH, aS, jr, jd, fk, atx, txt) it).2), ⟨⟨by rw [hr.1, eA], rfl⟩, ?_⟩, ?_, ?_⟩
    · rw [eA]
      exact ⟨⟨rfl, rfl, rfl, rfl⟩, ⟨rfl, hr.2⟩, ⟨hln, hl60, hsg, hch⟩, hsn, hH⟩
    · rw [eK]; exact fun _ h => h
    · rw [eK] <;> rfl
  · have hn' : ¬ F_X6_needTour hs fk f it = none := hn
    have hx : F_X6_needTour hs fk f it = some "java/lang/IndexOutOfBoundsException" := by
      cases hz : F_X6_needTour hs fk f it with
      | none => exact absurd hz hn'
      | some E => rw [nt_x hz]
    have e : F_X6_line hs fk f ml txt it = (some "java/lang/IndexOutOfBoundsException", 0, ml, txt) := by
      unfold F_X6_line
      rw [if_neg hn', hx]
    have eK : K_line (hs, fk, f, f2, f3, f4, jr, jd, nx, kp, g, ln, tp, wd, fi, tw, dy, mn, vl, sg, ml, txt, q, cap, yb) it u = (-1001, (hs, fk, f, f2, f3, f4, jr, jd, nx, kp, g, ln, tp, wd, fi, tw, dy, mn, vl, sg, ml, txt, u.1, u.2.1, u.2.2)) := by
      unfold K_line
      dsimp only
      rw [e]
      rfl
    have eA : A_line (f, aH, aS, jr, jd, fk, atx, txt) it = (-1001, (f, aH, aS, jr, jd, fk, atx, txt)) := by
      unfold A_line
      dsimp only
      rw [if_neg hn]
    rw [eK] at hr
    refine ⟨((hs, fk, f, f2, f3, f4, jr, jd, nx, kp, g, ln, tp, wd, fi, tw, dy, mn, vl, sg, ml, txt, u.1, u.2.1, u.2.2), (A_line (f, aH, aS, jr, jd, fk, atx, txt) it).2), ⟨⟨by rw [hr.1, eA], rfl⟩, ?_⟩, ?_, ?_⟩
    · rw [eA]
      exact ⟨⟨rfl, rfl, rfl, rfl⟩, ⟨rfl, hr.2⟩, ⟨hln, hl60, hsg, hch⟩, hsn, hH⟩
    · rw [eK]; exact fun _ h => h
    · rw [eK] <;> rfl
/-- the latest change is undone -/
def A_undo (a : Abs) : Int32 × Abs := match a.2.1 with
  | [] => (-1001, a)
  | b :: H => (nI H.length, (b, H, a.2.2))
set_option maxRecDepth 100000 in
set_option maxHeartbeats 2000000 in
theorem LC_undo {l : Launch} {D : va_G} {k : tyK} (hlst : l.stackTraces = false) (ad : Nat → Nat) (a : Abs) : LCi l yL_undo wsL_undo rm_L_undo D k ad [] a (fun r a' => r = (A_undo a).1 ∧ a' = (A_undo a).2) := by
  intro σ hR
  obtain ⟨hs, fk, f, f2, f3, f4, jr, jd, nx, kp, g, ln, tp, wd, fi, tw, dy, mn, vl, sg, ml, txt, q, cap, yb⟩ := σ
  obtain ⟨af, aH, aS, aj, ajd, ak, atx, al⟩ := a
  obtain ⟨⟨rfl, rfl, rfl, rfl⟩, ⟨rfl, hsb⟩, ⟨hln, hl60, hsg, hch⟩, hsn, hH⟩ := hR
  have h := c_L_undo (l := l) (D := D) (k := k) ad hs fk f f2 f3 f4 jr jd nx kp g ln tp wd fi tw dy mn vl sg ml txt q cap yb hlst hH.hn
  refine FCi.conv h rfl (fun _ h => h) (fun r _ hr => ?_)
  cases aH with
  | nil =>
    have hk : kp = 0 := by
      obtain ⟨n, h1, h2, h3, h4, h5⟩ := hH
      rw [h3]; rfl
    have e : F_X6_undo hs fk f nx kp g = (some "java/lang/IllegalStateException", 0, f, nx, kp) := by
      unfold F_X6_undo F_X1_count
      rw [if_pos hk]
    have eK : K_undo (hs, fk, f, f2, f3, f4, jr, jd, nx, kp, g, ln, tp, wd, fi, tw, dy, mn, vl, sg, ml, txt, q, cap, yb) = (-1001, (hs, fk, f, f2, f3, f4, jr, jd, nx, kp, g, ln, tp, wd, fi, tw, dy, mn, vl, sg, ml, txt, q, cap, yb)) := by
      unfold K_undo
      dsimp only
      rw [e]
      rfl
    rw [eK] at hr
    refine ⟨((hs, fk, f, f2, f3, f4, jr, jd, nx, kp, g, ln, tp, wd, fi, tw, dy, mn, vl, sg, ml, txt, q, cap, yb), (f, [], aS, jr, jd, fk, atx, txt)), ⟨⟨hr, rfl⟩, ⟨⟨rfl, rfl, rfl, rfl⟩, ⟨rfl, hsb⟩, ⟨hln, hl60, hsg, hch⟩, hsn, hH⟩⟩, ?_, ?_⟩
    · rw [eK]; exact fun _ h => h
    · rw [eK] <;> rfl
  | cons b H =>
    have hk : ¬ kp = 0 := by
      obtain ⟨n, h1, h2, h3, h4, h5⟩ := hH
      rw [h3, List.length_cons]
      rw [List.length_cons] at h4
      exact nI_ne0 (by omega) (by omega)
    obtain ⟨p1, p2, p3⟩ := hH.pop (f := f)
    have e : F_X6_undo hs fk f nx kp g = (none, (F_X1_takeBack nx kp g f).2.1, (F_X1_takeBack nx kp g f).2.2, (F_X1_takeBack nx kp g f).1, (F_X1_takeBack nx kp g f).2.1) := by
      unfold F_X6_undo F_X1_count
      rw [if_neg hk, letp_n]
    have eK : K_undo (hs, fk, f, f2, f3, f4, jr, jd, nx, kp, g, ln, tp, wd, fi, tw, dy, mn, vl, sg, ml, txt, q, cap, yb) = ((F_X1_takeBack nx kp g f).2.1, (hs, fk, (F_X1_takeBack nx kp g f).2.2, f2, f3, f4, jr, jd, (F_X1_takeBack nx kp g f).1, (F_X1_takeBack nx kp g f).2.1, g, ln, tp, wd, fi, tw, dy, mn, vl, sg, ml, txt, q, cap, yb)) := by
      unfold K_undo
      dsimp only
      rw [e]
      rfl
    rw [eK] at hr
    refine ⟨((hs, fk, b, f2, f3, f4, jr, jd, (F_X1_takeBack nx kp g f).1, (F_X1_takeBack nx kp g f).2.1, g, ln, tp, wd, fi, tw, dy, mn, vl, sg, ml, txt, q, cap, yb), (b, H, aS, jr, jd, fk, atx, txt)), ⟨⟨hr.trans p3, rfl⟩, ⟨⟨rfl, rfl, rfl, rfl⟩, ⟨rfl, hsb⟩, ⟨hln, hl60, hsg, hch⟩, hsn, p1⟩⟩, ?_, ?_⟩
    · rw [eK]
      exact WT_conv p2 (fun _ _ => rfl) (fun _ _ => rfl) (fun _ _ => rfl) (fun _ _ _ => rfl)
    · rw [eK] <;> rfl
/-- the snapshot comes back -/
def A_restore (a : Abs) : Int32 × Abs := match a.2.2.1 with
  | none => (-1001, a)
  | some b => (b 1, (b, [], a.2.2))
set_option maxRecDepth 100000 in
set_option maxHeartbeats 2000000 in
theorem LC_restore {l : Launch} {D : va_G} {k : tyK} (hlst : l.stackTraces = false) (ad : Nat → Nat) (a : Abs) : LCi l yL_restore wsL_restore rm_L_restore D k ad [] a (fun r a' => r = (A_restore a).1 ∧ a' = (A_restore a).2) := by
  intro σ hR
  obtain ⟨hs, fk, f, f2, f3, f4, jr, jd, nx, kp, g, ln, tp, wd, fi, tw, dy, mn, vl, sg, ml, txt, q, cap, yb⟩ := σ
  obtain ⟨af, aH, aS, aj, ajd, ak, atx, al⟩ := a
  obtain ⟨⟨rfl, rfl, rfl, rfl⟩, ⟨rfl, hsb⟩, ⟨hln, hl60, hsg, hch⟩, hsn, hH⟩ := hR
  have h := c_L_restore (l := l) (D := D) (k := k) ad hs fk f f2 f3 f4 jr jd nx kp g ln tp wd fi tw dy mn vl sg ml txt q cap yb hlst
  refine FCi.conv h rfl (fun _ h => h) (fun r _ hr => ?_)
  rcases hsn with ⟨rfl, hz⟩ | ⟨rfl, hz⟩
  · have hsn : ((none : Option (Nat → Int32)) = none ∧ hs = 0) ∨ ((none : Option (Nat → Int32)) = some f4 ∧ hs = 1) := Or.inl ⟨rfl, hz⟩
    have e : F_X6_restoreSnapshot hs fk f nx kp f4 = (some "java/lang/IllegalStateException", 0, f, kp) := by
      unfold F_X6_restoreSnapshot
      rw [if_pos hz]
    have eK : K_restore (hs, fk, f, f2, f3, f4, jr, jd, nx, kp, g, ln, tp, wd, fi, tw, dy, mn, vl, sg, ml, txt, q, cap, yb) = (-1001, (hs, fk, f, f2, f3, f4, jr, jd, nx, kp, g, ln, tp, wd, fi, tw, dy, mn, vl, sg, ml, txt, q, cap, yb)) := by
      unfold K_restore
      dsimp only
      rw [e]
      rfl
    rw [eK] at hr
    refine ⟨((hs, fk, f, f2, f3, f4, jr, jd, nx, kp, g, ln, tp, wd, fi, tw, dy, mn, vl, sg, ml, txt, q, cap, yb), (f, aH, none, jr, jd, fk, atx, txt)), ⟨⟨hr, rfl⟩, ⟨⟨rfl, rfl, rfl, rfl⟩, ⟨rfl, hsb⟩, ⟨hln, hl60, hsg, hch⟩, hsn, hH⟩⟩, ?_, ?_⟩
    · rw [eK]; exact fun _ h => h
    · rw [eK] <;> rfl
  · have hsn : (some f4 = none ∧ hs = 0) ∨ (some f4 = some f4 ∧ hs = 1) := Or.inr ⟨rfl, hz⟩
    have e : F_X6_restoreSnapshot hs fk f nx kp f4 = (none, f4 1, F_X0_take f f4, 0) := by
      unfold F_X6_restoreSnapshot
      rw [if_neg (by rw [hz]; decide), gN_1, take_at (by decide)]
      rfl
    have eK : K_restore (hs, fk, f, f2, f3, f4, jr, jd, nx, kp, g, ln, tp, wd, fi, tw, dy, mn, vl, sg, ml, txt, q, cap, yb) = (f4 1, (hs, fk, F_X0_take f f4, f2, f3, f4, jr, jd, nx, 0, g, ln, tp, wd, fi, tw, dy, mn, vl, sg, ml, txt, q, cap, yb)) := by
      unfold K_restore
      dsimp only
      rw [e]
      rfl
    have hH0 : HRep nx 0 g [] := by
      obtain ⟨n, h1, h2, h3, h4, h5⟩ := hH
      exact ⟨n, h1, h2, rfl, by decide, fun j hj => absurd hj (Nat.not_lt_zero j)⟩
    rw [eK] at hr
    refine ⟨((hs, fk, f4, f2, f3, f4, jr, jd, nx, 0, g, ln, tp, wd, fi, tw, dy, mn, vl, sg, ml, txt, q, cap, yb), (f4, [], some f4, jr, jd, fk, atx, txt)), ⟨⟨hr, rfl⟩, ⟨⟨rfl, rfl, rfl, rfl⟩, ⟨rfl, hsb⟩, ⟨hln, hl60, hsg, hch⟩, hsn, hH0⟩⟩, ?_, ?_⟩
    · rw [eK]
      exact WT_conv (fun j hj => take_at hj) (fun _ _ => rfl) (fun _ _ => rfl) (fun _ _ => rfl) (fun _ _ _ => rfl)
    · rw [eK] <;> rfl
/-- the two answers that are no ints -/
def Q_meanSteps (f : Nat → Int32) : UInt64 := match (F_X6_meanSteps 0 0 f).1 with
  | none => (F_X6_meanSteps 0 0 f).2
  | some _ => lwM1001d
def Q_failedShare (f : Nat → Int32) : UInt32 := match (F_X6_failedShare 0 0 f).1 with
  | none => (F_X6_failedShare 0 0 f).2
  | some _ => lwM1001f
set_option maxRecDepth 100000 in
set_option maxHeartbeats 2000000 in
theorem LC_meanSteps {l : Launch} {D : va_G} {k : tyK} (hlst : l.stackTraces = false) (ad : Nat → Nat) {σ : TSt} {a : Abs} (hR : Rep σ a) : FCd l yL_meanSteps wsL_meanSteps rm_L_meanSteps D k [.ref (ad 0)] (WT k ad σ) (fun r (_ : Unit) => r = Q_meanSteps a.1) (fun _ => WT k ad σ) := by
  obtain ⟨hs, fk, f, f2, f3, f4, jr, jd, nx, kp, g, ln, tp, wd, fi, tw, dy, mn, vl, sg, ml, txt, q, cap, yb⟩ := σ
  obtain ⟨af, aH, aS, aj, ajd, ak, atx, al⟩ := a
  obtain ⟨⟨rfl, rfl, rfl, rfl⟩, ⟨rfl, hsb⟩, ⟨hln, hl60, hsg, hch⟩, hsn, hH⟩ := hR
  exact c_L_meanSteps (l := l) (D := D) (k := k) ad hs fk f f2 f3 f4 jr jd nx kp g ln tp wd fi tw dy mn vl sg ml txt q cap yb hlst (fun h => nan_ok64 _ _ h)
set_option maxRecDepth 100000 in
set_option maxHeartbeats 2000000 in
theorem LC_failedShare {l : Launch} {D : va_G} {k : tyK} (hlst : l.stackTraces = false) (ad : Nat → Nat) {σ : TSt} {a : Abs} (hR : Rep σ a) : FCf l yL_failedShare wsL_failedShare rm_L_failedShare D k [.ref (ad 0)] (WT k ad σ) (fun r (_ : Unit) => r = Q_failedShare a.1) (fun _ => WT k ad σ) := by
  obtain ⟨hs, fk, f, f2, f3, f4, jr, jd, nx, kp, g, ln, tp, wd, fi, tw, dy, mn, vl, sg, ml, txt, q, cap, yb⟩ := σ
  obtain ⟨af, aH, aS, aj, ajd, ak, atx, al⟩ := a
  obtain ⟨⟨rfl, rfl, rfl, rfl⟩, ⟨rfl, hsb⟩, ⟨hln, hl60, hsg, hch⟩, hsn, hH⟩ := hR
  exact c_L_failedShare (l := l) (D := D) (k := k) ad hs fk f f2 f3 f4 jr jd nx kp g ln tp wd fi tw dy mn vl sg ml txt q cap yb hlst (fun h => nan_ok32 _ _ h)
end TSabs2
