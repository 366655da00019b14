/-! NO NaN: whole numbers divided by whole numbers that aren't 0. -/
section TSfloats2
theorem ri_fin {f : Jvm.FP.Core.Fmt} (hf : Jvm.FP.Core.Good f) (s : Bool) {c : Nat} (hc : 0 < c) (h33 : c < 2 ^ 33) (h1 : f.qmin + ((f.p : Int) - 1) < 0) (h2 : 35 < f.qmax) : ∃ (c' : Nat) (q : Int), Jvm.FP.Core.roundRatio f s c 1 0 = .fin s c' q ∧ c' ≠ 0 := by
  have hl := Jvm.FP.Core.leading_spec (A := c) (B := 1) hc (by decide)
  have b33 : Jvm.FP.Core.Below c 1 33 := by
    show c * 2 ^ (-33 : Int).toNat < 1 * 2 ^ (33 : Int).toNat
    simpa using h33
  have b0 : ¬ Jvm.FP.Core.Below c 1 0 := by
    show ¬ (c * 2 ^ (-0 : Int).toNat < 1 * 2 ^ (0 : Int).toNat)
    simp
    omega
  have l1 := Jvm.FP.Core.lt_of_below hl.1 b33
  have l0 := Jvm.FP.Core.lt_of_below b0 hl.2
  have hp := hf.2
  have hfit := Jvm.FP.Core.roundRatio_fits hf s c (B := 1) (by decide) 0
  have hq1 : Jvm.FP.Core.quantum f c 1 0 ≤ 33 := by
    unfold Jvm.FP.Core.quantum
    omega
  have hq2 : Jvm.FP.Core.quantum f c 1 0 ≠ f.qmin := by
    unfold Jvm.FP.Core.quantum
    omega
  have ht := Jvm.FP.Core.tails_pos f
  unfold Jvm.FP.Core.roundRatio at hfit ⊢
  rw [if_neg (by omega)] at hfit ⊢
  unfold Jvm.FP.Core.roundAt Jvm.FP.Core.settle Jvm.FP.Core.bound at hfit ⊢
  split at hfit
  · rename_i hlt
    rw [if_pos hlt]
    rw [if_pos (by omega)] at hfit ⊢
    refine ⟨_, _, rfl, ?_⟩
    rcases hfit.2.2.2 with z | z
    · exact absurd z hq2
    · omega
  · rename_i hlt
    rw [if_neg hlt]
    rw [if_pos (by omega)]
    exact ⟨_, _, rfl, by omega⟩
theorem ri_any {f : Jvm.FP.Core.Fmt} (hf : Jvm.FP.Core.Good f) (x : Int32) (h1 : f.qmin + ((f.p : Int) - 1) < 0) (h2 : 35 < f.qmax) : ∃ (s : Bool) (c' : Nat) (q : Int), Jvm.FP.Core.round f (Jvm.FP.Core.ofInt x.toInt) = .fin s c' q ∧ (x ≠ 0 → c' ≠ 0) := by
  unfold Jvm.FP.Core.ofInt Jvm.FP.Core.round
  by_cases h0 : x.toInt.natAbs = 0
  · refine ⟨decide (x.toInt < 0), 0, f.qmin, ?_, fun hx => absurd (Int32.toInt_inj.mp (by rw [Int.natAbs_eq_zero.mp h0]; rfl)) hx⟩
    unfold Jvm.FP.Core.roundRatio
    rw [if_pos h0]
  · have a := Int32.toInt_lt x
    have b := Int32.le_toInt x
    obtain ⟨c', q, e, hc⟩ := ri_fin hf (decide (x.toInt < 0)) (c := x.toInt.natAbs) (by omega) (by omega) h1 h2
    exact ⟨_, c', q, e, fun _ => hc⟩
theorem rr_nan {f : Jvm.FP.Core.Fmt} {s : Bool} {a b : Nat} {e : Int} : Jvm.FP.Core.roundRatio f s a b e ≠ .nan := by
  unfold Jvm.FP.Core.roundRatio
  split
  · exact fun h => nomatch h
  · unfold Jvm.FP.Core.roundAt Jvm.FP.Core.settle Jvm.FP.Core.bound
    split <;> split <;> exact fun h => nomatch h
theorem quo_nan {f : Jvm.FP.Core.Fmt} {s t : Bool} {c d : Nat} {q r : Int} (hd : d ≠ 0) : Jvm.FP.Core.quotient f (.fin s c q) (.fin t d r) ≠ .nan := by
  unfold Jvm.FP.Core.quotient
  dsimp only
  rw [if_neg hd]
  exact rr_nan
theorem n32_of {a : UInt32} (h : Jvm.FP.Core.val32 a ≠ .nan) : vf_n32 a := by
  unfold vf_n32
  rw [UInt32.le_iff_toNat_le, UInt32.toNat_and]
  show a.toNat &&& 2147483647 ≤ 2139095040
  rw [show (2147483647 : Nat) = 2 ^ 31 - 1 from rfl, Nat.and_two_pow_sub_one_eq_mod]
  refine Nat.le_of_not_lt fun hlt => h ?_
  unfold Jvm.FP.Core.val32 Jvm.FP.Core.decode Jvm.FP.Core.fieldE Jvm.FP.Core.fieldT
  have e1 : Jvm.FP.Core.b32.tails = 8388608 := rfl
  have e2 : Jvm.FP.Core.b32.exps = 256 := rfl
  rw [e1, e2, if_pos (by omega), if_neg (by omega)]
theorem n64_of {a : UInt64} (h : Jvm.FP.Core.val64 a ≠ .nan) : vf_n64 a := by
  unfold vf_n64
  rw [UInt64.le_iff_toNat_le, UInt64.toNat_and]
  show a.toNat &&& 9223372036854775807 ≤ 9218868437227405312
  rw [show (9223372036854775807 : Nat) = 2 ^ 63 - 1 from rfl, Nat.and_two_pow_sub_one_eq_mod]
  refine Nat.le_of_not_lt fun hlt => h ?_
  unfold Jvm.FP.Core.val64 Jvm.FP.Core.decode Jvm.FP.Core.fieldE Jvm.FP.Core.fieldT
  have e1 : Jvm.FP.Core.b64.tails = 4503599627370496 := rfl
  have e2 : Jvm.FP.Core.b64.exps = 2048 := rfl
  rw [e1, e2, if_pos (by omega), if_neg (by omega)]
theorem fq_ok (x y : Int32) (hy : y ≠ 0) : vf_n32 (FP.fdiv (FP.i2f x) (FP.i2f y)) := by
  refine n32_of ?_
  show Jvm.FP.Core.val32 (Jvm.FP.Core.fdiv (Jvm.FP.Core.i2f x) (Jvm.FP.Core.i2f y)) ≠ _
  rw [Jvm.FP.Core.val32_fdiv, Jvm.FP.Core.val32_i2f, Jvm.FP.Core.val32_i2f]
  obtain ⟨s, c, q, e, -⟩ := ri_any Jvm.FP.Core.good_b32 x (by decide) (by decide)
  obtain ⟨t, d, r, e2, hd⟩ := ri_any Jvm.FP.Core.good_b32 y (by decide) (by decide)
  rw [e, e2]
  exact quo_nan (hd hy)
theorem dq_ok (x y : Int32) (hy : y ≠ 0) : vf_n64 (FP.ddiv (FP.i2d x) (FP.i2d y)) := by
  refine n64_of ?_
  show Jvm.FP.Core.val64 (Jvm.FP.Core.ddiv (Jvm.FP.Core.i2d x) (Jvm.FP.Core.i2d y)) ≠ _
  rw [Jvm.FP.Core.val64_ddiv, Jvm.FP.Core.val64_i2d, Jvm.FP.Core.val64_i2d]
  obtain ⟨s, c, q, e, -⟩ := ri_any Jvm.FP.Core.good_b64 x (by decide) (by decide)
  obtain ⟨t, d, r, e2, hd⟩ := ri_any Jvm.FP.Core.good_b64 y (by decide) (by decide)
  rw [e, e2]
  exact quo_nan (hd hy)
end TSfloats2
