/-! FACTS OF THE REFUSED: the three texts. -/
section TSrefT
def rdq (a : Abs) (jr jd fk : Int32) : Abs := (a.1, a.2.1, a.2.2.1, jr, jd, fk, [], a.2.2.2.2.2.2.2)
theorem isQ1 {a : Abs} {x y : Int32} (hr : a.2.2.2.1 = x) (hd : a.2.2.2.2.1 = y) (hx : ¬ x = 0) : isQ a x y = 1 := by
  unfold isQ
  rw [hr, hd, Q_ref1 hx, Q_ref0 hx, if_pos rfl, if_pos rfl]
theorem fp_0 : Q_faultPosition 0 = 0 := by decide
theorem RDq {l : Launch} {D : va_G} {k : tyK} (hlst : l.stackTraces = false) (ad : Nat → Nat) (a : Abs) : LCi l yL_read wsL_read rm_L_read D k ad [] (withT a (SB 31)) (fun r a' => r = -1001 ∧ a' = rdq a a.2.2.2.1 a.2.2.2.2.1 0) :=
  LCi.at (LC_readBad hlst ad (withT a (SB 31)) (show rdW (fun i => (SB 31).getD i 0) 10 0 0 = (none, 0) by decide +kernel)) rfl
theorem TX32 : TX (SB 32).length (fun i => (SB 32).getD i 0) 0 [(8, 1), (8, 0)] := by
  refine ⟨Or.inr (Or.inr (Or.inr rfl)), by decide, ?_, ?_, ?_, Or.inr (Or.inr (Or.inr rfl)), by decide, ?_, ?_, ?_, ?_⟩ <;> decide +kernel
theorem TX33 : TX (SB 33).length (fun i => (SB 33).getD i 0) 0 [(6, 4), (8, 9), (6, 4)] := by
  refine ⟨Or.inr (Or.inr (Or.inl rfl)), by decide, ?_, ?_, ?_, Or.inr (Or.inr (Or.inr rfl)), by decide, ?_, ?_, ?_, Or.inr (Or.inr (Or.inl rfl)), by decide, ?_, ?_, ?_, ?_⟩ <;> decide +kernel
theorem pass_0 {jr jd : Int32} {h : Nat} (h1 : 1 ≤ h) (h2 : h ≤ 40) : F_X2_passing jr jd (nI h) = 0 := by
  unfold F_X2_passing
  rw [show F_X6_isWithin (nI h) 1 40 = 1 from within_1 (lo := 1) (hi := 40) h1 h2 (by omega), if_neg (by decide)]
theorem ic_ok {f : Nat → Int32} {jr jd : Int32} {w v i : Nat} (h : jcmd f jr jd w v = (0, jr, jd)) : icmd f jr jd w v i = (0, jr, jd) := by
  unfold icmd
  rw [h]
  rfl
theorem RN32 (f : Nat → Int32) (jr jd : Int32) : ∃ f', RN [(8, 1), (8, 0)] 0 f jr jd = (false, f', 20, nI 1) := by
  have e1 : jcmd f jr jd 8 1 = (0, jr, jd) := by
    show (F_X2_passing jr jd (nI 1), jr, jd) = _
    rw [pass_0 (by omega) (by omega)]
  refine ⟨ccmd f 8 1, ?_⟩
  rw [RN, ic_ok e1, if_pos rfl, RN]
  have e2 : icmd (ccmd f 8 1) jr jd 8 0 1 = (1, 20, nI 1) := by
    unfold icmd
    rw [show (jcmd (ccmd f 8 1) jr jd 8 0).1 = -2 from rfl]
    rfl
  rw [e2]
  rfl
theorem shut_0 {f : Nat → Int32} {jr jd : Int32} (h : f 324 = nI 1) : jcmd f jr jd 6 4 = (0, jr, jd) := by
  show F_X2_shutting jr jd f (nI 4) 1 = _
  unfold F_X2_shutting
  rw [show F_X6_isBelow (nI 4) 5 = 1 by decide, if_neg (by decide), show F_X0_get f (F_X6_ofTown (nI 4) 0) = nI 1 from (congrArg (F_X0_get f) (iW_0 4)).trans ((get_nI (by omega)).trans h), if_pos (by decide), if_pos rfl]
theorem shut_4 {f : Nat → Int32} {jr jd : Int32} (h : f 324 = 0) : jcmd f jr jd 6 4 = (4, 4, 0) := by
  show F_X2_shutting jr jd f (nI 4) 1 = _
  unfold F_X2_shutting
  rw [show F_X6_isBelow (nI 4) 5 = 1 by decide, if_neg (by decide), show F_X0_get f (F_X6_ofTown (nI 4) 0) = 0 from (congrArg (F_X0_get f) (iW_0 4)).trans ((get_nI (by omega)).trans h), if_neg (by decide), if_neg (by decide)]
  rfl
theorem RN33 {f : Nat → Int32} (hB : BK f) (h : f 324 = nI 1) (jr jd : Int32) : ∃ f', RN [(6, 4), (8, 9), (6, 4)] 0 f jr jd = (false, f', 4, 0) := by
  obtain ⟨-, b2, b3⟩ := shut_eff hB (w := 4) (by omega) 1
  have g1 : (ccmd f 6 4) 324 = 0 := by
    show (F_X5_shutTown f (nI 4) 1).2 324 = 0
    rw [b3]; exact upd_eq
  obtain ⟨-, b4, k1, k2, k3, -⟩ := pass_eff (h := 9) (by omega) (show BK (ccmd f 6 4) from b2)
  have g2 : (ccmd (ccmd f 6 4) 8 9) 324 = 0 := (k3 4 (by omega)).1.trans g1
  have e2 : jcmd (ccmd f 6 4) jr jd 8 9 = (0, jr, jd) := by
    show (F_X2_passing jr jd (nI 9), jr, jd) = _
    rw [pass_0 (by omega) (by omega)]
  refine ⟨ccmd (ccmd f 6 4) 8 9, ?_⟩
  rw [RN, ic_ok (shut_0 h), if_pos rfl, RN, ic_ok e2, if_pos rfl, RN]
  have e3 : icmd (ccmd (ccmd f 6 4) 8 9) jr jd 6 4 (0 + 1 + 1) = (1, 4, 0) := by
    unfold icmd
    rw [shut_4 g2]
    rfl
  rw [show icmd (ccmd (ccmd f 6 4) 8 9) (0, jr, jd).2.1 (0, jr, jd).2.2 6 4 (0 + 1 + 1) = (1, 4, 0) from e3]
  rfl
theorem RD32 {l : Launch} {D : va_G} {k : tyK} (hlst : l.stackTraces = false) (ad : Nat → Nat) (a : Abs) : LCi l yL_read wsL_read rm_L_read D k ad [] (withT a (SB 32)) (fun r a' => r = -1002 ∧ a' = rdq a 20 1 a.2.2.2.2.2.1) := by
  obtain ⟨f', e⟩ := RN32 a.1 a.2.2.2.1 a.2.2.2.2.1
  refine LCi.at (LC_read hlst ad (withT a (SB 32)) [(8, 1), (8, 0)] TX32 (by decide)) ?_
  unfold A_read
  rw [show RN [(8, 1), (8, 0)] 0 (withT a (SB 32)).1 (withT a (SB 32)).2.2.2.1 (withT a (SB 32)).2.2.2.2.1 = (false, f', 20, nI 1) from e, if_neg (show ¬ false = true by decide)]
  rfl
theorem RD33 {l : Launch} {D : va_G} {k : tyK} (hlst : l.stackTraces = false) (ad : Nat → Nat) (a : Abs) (hB : BK a.1) (h : a.1 324 = nI 1) : LCi l yL_read wsL_read rm_L_read D k ad [] (withT a (SB 33)) (fun r a' => r = -1002 ∧ a' = rdq a 4 0 a.2.2.2.2.2.1) := by
  obtain ⟨f', e⟩ := RN33 hB h a.2.2.2.1 a.2.2.2.2.1
  refine LCi.at (LC_read hlst ad (withT a (SB 33)) [(6, 4), (8, 9), (6, 4)] TX33 (by decide)) ?_
  unfold A_read
  rw [show RN [(6, 4), (8, 9), (6, 4)] 0 (withT a (SB 33)).1 (withT a (SB 33)).2.2.2.1 (withT a (SB 33)).2.2.2.2.1 = (false, f', 4, 0) from e, if_neg (show ¬ false = true by decide)]
  rfl
end TSrefT
