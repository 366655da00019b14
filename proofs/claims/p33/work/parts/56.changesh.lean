/-! FACTS OF CHANGES: a text that is read. -/
section TSchg3
theorem ccmd_0 (f : Nat → Int32) (v : Nat) : ccmd f 0 v = (F_X5_planTour f (nI v)).2 := by unfold ccmd; rw [if_pos rfl]
theorem ccmd_5 (f : Nat → Int32) (v : Nat) : ccmd f 5 v = (F_X5_callBack f (nI v)).2 := by unfold ccmd; rw [if_neg (by decide), if_pos rfl]
theorem ccmd_6 (f : Nat → Int32) (v : Nat) : ccmd f 6 v = (F_X5_shutTown f (nI v) 1).2 := by unfold ccmd; rw [if_neg (by decide), if_neg (by decide), if_pos rfl]
theorem ccmd_8 (f : Nat → Int32) (v : Nat) : ccmd f 8 v = (F_X5_passHours f (nI v)).2 := by unfold ccmd; rw [if_neg (by decide), if_neg (by decide), if_neg (by decide)]
theorem jcmd_0 (f : Nat → Int32) (jr jd : Int32) (v : Nat) : jcmd f jr jd 0 v = F_X2_planning jr jd f (nI v) := by unfold jcmd; rw [if_pos rfl]
theorem jcmd_5 (f : Nat → Int32) (jr jd : Int32) (v : Nat) : jcmd f jr jd 5 v = F_X2_callingBack jr jd f (nI v) := by unfold jcmd; rw [if_neg (by decide), if_pos rfl]
theorem jcmd_6 (f : Nat → Int32) (jr jd : Int32) (v : Nat) : jcmd f jr jd 6 v = F_X2_shutting jr jd f (nI v) 1 := by unfold jcmd; rw [if_neg (by decide), if_neg (by decide), if_pos rfl]
theorem ccmd_BK {f : Nat → Int32} {jr jd : Int32} {w v i : Nat} (hB : BK f) (hw : CW w) (hv : v < 10) (h0 : (icmd f jr jd w v i).1 = 0) : BK (ccmd f w v) := by
  obtain ⟨n, hn, h1, -⟩ := hB.1
  have hj : (jcmd f jr jd w v).1 = 0 := by
    unfold icmd at h0
    by_cases a1 : (jcmd f jr jd w v).1 = -1 ∨ (jcmd f jr jd w v).1 = -2
    · rw [if_pos a1] at h0; exact absurd h0 (show ¬ (1 : Int32) = 0 by decide)
    · rw [if_neg a1] at h0
      by_cases a2 : (jcmd f jr jd w v).1 = 0
      · exact a2
      · rw [if_neg a2] at h0; exact absurd h0 (show ¬ (1 : Int32) = 0 by decide)
  rcases hw with rfl | rfl | rfl | rfl
  · rw [jcmd_0] at hj
    rw [ccmd_0]
    have hp : (F_X2_planning jr jd f (nI v)).1 = 0 := hj
    unfold F_X2_planning at hp
    by_cases n6 : n < 6
    · exact (plan_eff hB h1 n6 (nI v)).2.1
    · exfalso
      by_cases z : F_X6_isWithin (nI v) 0 4 = 0
      · rw [if_pos z] at hp; exact absurd hp (show ¬ (-2 : Int32) = 0 by decide)
      · rw [if_neg z, gN_1, h1, if_pos (show (6 : Int32) ≤ nI n from nI_le (a := 6) (by omega) (by omega))] at hp
        exact absurd hp (show ¬ (1 : Int32) = 0 by decide)
  · rw [jcmd_5] at hj
    rw [ccmd_5]
    have hp : (F_X2_callingBack jr jd f (nI v)).1 = 0 := hj
    unfold F_X2_callingBack at hp
    by_cases tn : v < n
    · have t6 : v < 6 := by omega
      by_cases c1 : f (14 + v * 9) = nI 1
      · exact (back_eff hB t6 c1).2
      · exfalso
        rw [hasT h1 tn hn, if_neg (by decide), gT_0 t6, if_neg (show ¬ f (14 + v * 9) = 1 from c1)] at hp
        exact absurd hp (show ¬ (2 : Int32) = 0 by decide)
    · exfalso
      rw [hasT_no h1 (by omega) (by omega), if_pos rfl] at hp
      exact absurd hp (show ¬ (-1 : Int32) = 0 by decide)
  · rw [jcmd_6] at hj
    rw [ccmd_6]
    have hp : (F_X2_shutting jr jd f (nI v) 1).1 = 0 := hj
    unfold F_X2_shutting at hp
    by_cases w5 : v < 5
    · exact (shut_eff hB w5 1).2.1
    · exfalso
      rw [show F_X6_isBelow (nI v) 5 = 0 from below_0 (b := 5) (by omega) (by omega), if_pos rfl] at hp
      exact absurd hp (show ¬ (-1 : Int32) = 0 by decide)
  · rw [ccmd_8]
    exact (pass_eff (h := v) (by omega) hB).2.1
theorem RN_BK : ∀ (cs : List (Nat × Nat)) (i : Nat) (f : Nat → Int32) (jr jd : Int32), BK f → (∀ q, q ∈ cs → CW q.1 ∧ q.2 < 10) → BK (RN cs i f jr jd).2.1
  | [], _, _, _, _, h, _ => h
  | (w, v) :: cs, i, f, jr, jd, h, hq => by
    rw [RN]
    by_cases z : (icmd f jr jd w v i).1 = 0
    · rw [if_pos z]
      obtain ⟨g1, g2⟩ := hq (w, v) List.mem_cons_self
      exact RN_BK cs (i + 1) _ _ _ (ccmd_BK h g1 g2 z) (fun q hm => hq q (List.mem_cons_of_mem _ hm))
    · rw [if_neg z]
      exact h
theorem CHD_read {a : Abs} (h : GD a) (tx : List Int32) {cs : List (Nat × Nat)} (hq : ∀ q, q ∈ cs → CW q.1 ∧ q.2 < 10) (hl : cs.length < 100) : CHD a (A_read (withT a tx) cs) := by
  have hb := RN_BK cs 0 a.1 a.2.2.2.1 a.2.2.2.2.1 h.1.1 hq
  unfold A_read
  by_cases z : (RN cs 0 (withT a tx).1 (withT a tx).2.2.2.1 (withT a tx).2.2.2.2.1).1 = true
  · rw [if_pos z]
    exact ⟨⟨⟨hb, push_BK h.1.1 h.1.2.1, h.1.2.2⟩, h.2.1, rfl⟩, Or.inr ⟨nI_pos (by omega), rfl, rfl⟩⟩
  · rw [if_neg z]
    exact ⟨⟨⟨h.1.1, h.1.2.1, h.1.2.2⟩, h.2.1, rfl⟩, Or.inl ⟨by show (-1002 : Int32) < 0; decide, rfl, rfl, rfl⟩⟩
end TSchg3
