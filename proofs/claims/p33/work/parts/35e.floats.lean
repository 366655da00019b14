/-! NO NaN: whole numbers divided by whole numbers that aren't 0. -/
section TSfloats2
theorem lead_le (c : Nat) : Jvm.FP.Core.leading c 1 ≤ (c.log2 : Int) := by
  unfold Jvm.FP.Core.leading
  have h1 : Nat.log2 1 = 0 := by decide
  rw [h1]
  dsimp only
  split <;> omega
theorem near_pos {a b : Nat} (hb : 0 < b) (h : b ≤ a) : Jvm.FP.Core.nearest a b ≠ 0 := by
  have : 1 ≤ a / b := (Nat.one_le_div_iff hb).mpr h
  unfold Jvm.FP.Core.nearest
  split
  · omega
  · split <;> omega
theorem fq_num32 : Jvm.FP.Core.b32.tails = 8388608 ∧ Jvm.FP.Core.b32.exps = 256 ∧ Jvm.FP.Core.b32.qmin = -149 ∧ Jvm.FP.Core.b32.qmax = 104 ∧ 2 ^ Jvm.FP.Core.b32.p = 16777216 ∧ Jvm.FP.Core.b32.p = 24 := by decide +kernel
/-- what settle gives is encoded as no NaN -/
theorem enc_ok32 (s : Bool) (n : Nat) (q : Int) : Jvm.FP.Core.encode Jvm.FP.Core.b32 (Jvm.FP.Core.settle Jvm.FP.Core.b32 s n q) % 2147483648 ≤ 2139095040 ∧ Jvm.FP.Core.encode Jvm.FP.Core.b32 (Jvm.FP.Core.settle Jvm.FP.Core.b32 s n q) < 4294967296 := by
  obtain ⟨h1, h2, h3, h4, h5, -⟩ := fq_num32
  unfold Jvm.FP.Core.settle Jvm.FP.Core.bound
  rw [h5, h4]
  have hs : s.toNat ≤ 1 := by cases s <;> decide
  generalize hz : s.toNat = z at hs
  split
  · split
    · unfold Jvm.FP.Core.encode Jvm.FP.Core.assemble
      dsimp only
      rw [h1, h2, h3, hz]
      split
      · omega
      · omega
    · unfold Jvm.FP.Core.encode Jvm.FP.Core.assemble
      dsimp only
      rw [h1, h2, hz]
      omega
  · split
    · unfold Jvm.FP.Core.encode Jvm.FP.Core.assemble
      dsimp only
      rw [h1, h2, h3, hz]
      split
      · omega
      · omega
    · unfold Jvm.FP.Core.encode Jvm.FP.Core.assemble
      dsimp only
      rw [h1, h2, hz]
      omega
theorem enc_ok032 (s : Bool) (q : Int) : Jvm.FP.Core.encode Jvm.FP.Core.b32 (.fin s 0 q) % 2147483648 ≤ 2139095040 ∧ Jvm.FP.Core.encode Jvm.FP.Core.b32 (.fin s 0 q) < 4294967296 := by
  obtain ⟨h1, h2, h3, h4, h5, -⟩ := fq_num32
  have hs : s.toNat ≤ 1 := by cases s <;> decide
  generalize hz : s.toNat = z at hs
  unfold Jvm.FP.Core.encode Jvm.FP.Core.assemble
  dsimp only
  rw [h1, h2, hz, if_pos (by omega)]
  omega
/-- and read again it is a number, if it isn't too great -/
theorem dec_ok32 (s : Bool) (n : Nat) (q : Int) (hq : q + 1 ≤ 104) : ∃ (t : Bool) (c : Nat) (r : Int), Jvm.FP.Core.decode Jvm.FP.Core.b32 (Jvm.FP.Core.encode Jvm.FP.Core.b32 (Jvm.FP.Core.settle Jvm.FP.Core.b32 s n q)) = .fin t c r ∧ (n ≠ 0 → c ≠ 0) := by
  obtain ⟨h1, h2, h3, h4, h5, -⟩ := fq_num32
  have hs : s.toNat ≤ 1 := by cases s <;> decide
  have key : ∀ (e t : Nat), e < 255 → t < 8388608 → ∃ (t' : Bool) (c : Nat) (r : Int), Jvm.FP.Core.decode Jvm.FP.Core.b32 ((s.toNat * 256 + e) * 8388608 + t) = .fin t' c r ∧ ((e ≠ 0 ∨ t ≠ 0) → c ≠ 0) := by
    intro e t he ht
    unfold Jvm.FP.Core.decode Jvm.FP.Core.fieldE Jvm.FP.Core.fieldT
    rw [h1, h2]
    have e1 : ((s.toNat * 256 + e) * 8388608 + t) / 8388608 % 256 = e := by omega
    have e2 : ((s.toNat * 256 + e) * 8388608 + t) % 8388608 = t := by omega
    rw [e1, e2, if_neg (by omega)]
    split
    · exact ⟨_, _, _, rfl, fun h => by omega⟩
    · exact ⟨_, _, _, rfl, fun h => by omega⟩
  unfold Jvm.FP.Core.settle Jvm.FP.Core.bound
  rw [h5, h4]
  split
  · rw [if_pos (by omega)]
    unfold Jvm.FP.Core.encode Jvm.FP.Core.assemble
    dsimp only
    rw [h1, h2, h3]
    split
    · obtain ⟨a, b, c, d, g⟩ := key 0 n (by omega) (by omega)
      exact ⟨a, b, c, d, fun h => g (Or.inr h)⟩
    · obtain ⟨a, b, c, d, g⟩ := key ((q - (-149)).toNat + 1) (n - 8388608) (by omega) (by omega)
      exact ⟨a, b, c, d, fun h => g (Or.inl (by omega))⟩
  · try rw [if_pos (by omega)]
    unfold Jvm.FP.Core.encode Jvm.FP.Core.assemble
    dsimp only
    rw [h1, h2, h3, if_neg (by omega)]
    obtain ⟨a, b, c, d, g⟩ := key ((q + 1 - (-149)).toNat + 1) (8388608 - 8388608) (by omega) (by omega)
    exact ⟨a, b, c, d, fun h => g (Or.inl (by omega))⟩
theorem int_ok32 (x : Int32) : ∃ (t : Bool) (c : Nat) (r : Int), Jvm.FP.Core.decode Jvm.FP.Core.b32 (Jvm.FP.Core.fromInt Jvm.FP.Core.b32 x.toInt) = .fin t c r ∧ (x ≠ 0 → c ≠ 0) := by
  obtain ⟨h1, h2, h3, h4, h5, h6⟩ := fq_num32
  unfold Jvm.FP.Core.fromInt Jvm.FP.Core.ofInt Jvm.FP.Core.round
  dsimp only
  have a := Int32.toInt_lt x
  have b := Int32.le_toInt x
  by_cases h0 : x.toInt.natAbs = 0
  · unfold Jvm.FP.Core.roundRatio
    rw [if_pos h0, h3]
    refine ⟨decide (x.toInt < 0), 0, -149, ?_, fun hx => absurd (Int32.toInt_inj.mp (by rw [Int.natAbs_eq_zero.mp h0]; rfl)) hx⟩
    have hz : x.toInt = 0 := Int.natAbs_eq_zero.mp h0
    rw [hz]
    decide +kernel
  · unfold Jvm.FP.Core.roundRatio
    rw [if_neg h0]
    unfold Jvm.FP.Core.roundAt
    have hl := lead_le x.toInt.natAbs
    have hlog : x.toInt.natAbs.log2 < 32 := (Nat.log2_lt h0).mpr (by omega)
    have hself : 2 ^ x.toInt.natAbs.log2 ≤ x.toInt.natAbs := Nat.log2_self_le h0
    have hq : Jvm.FP.Core.quantum Jvm.FP.Core.b32 x.toInt.natAbs 1 0 ≤ 32 ∧ Jvm.FP.Core.quantum Jvm.FP.Core.b32 x.toInt.natAbs 1 0 ≤ max 0 (x.toInt.natAbs.log2 : Int) := by
      unfold Jvm.FP.Core.quantum
      rw [h3, h6]
      omega
    generalize Jvm.FP.Core.quantum Jvm.FP.Core.b32 x.toInt.natAbs 1 0 = q at hq
    obtain ⟨t, c, r, e, hc⟩ := dec_ok32 (decide (x.toInt < 0)) (Jvm.FP.Core.nearest (Jvm.FP.Core.unitsNum x.toInt.natAbs 0 q) (Jvm.FP.Core.unitsDen 1 0 q)) q (by omega)
    refine ⟨t, c, r, e, fun _ => hc (near_pos ?_ ?_)⟩
    · unfold Jvm.FP.Core.unitsDen
      exact Nat.mul_pos (by decide) (Nat.two_pow_pos _)
    · unfold Jvm.FP.Core.unitsDen Jvm.FP.Core.unitsNum
      have hle : q.toNat ≤ x.toInt.natAbs.log2 := by omega
      calc 1 * 2 ^ (q - 0).toNat ≤ 2 ^ x.toInt.natAbs.log2 := by rw [Nat.one_mul]; exact Nat.pow_le_pow_right (by decide) (by omega)
        _ ≤ x.toInt.natAbs := hself
        _ ≤ x.toInt.natAbs * 2 ^ (0 - q).toNat := Nat.le_mul_of_pos_right _ (Nat.two_pow_pos _)
theorem quo_ok32 {s t : Bool} {c d : Nat} {q r : Int} (hd : d ≠ 0) : Jvm.FP.Core.encode Jvm.FP.Core.b32 (Jvm.FP.Core.quotient Jvm.FP.Core.b32 (.fin s c q) (.fin t d r)) % 2147483648 ≤ 2139095040 ∧ Jvm.FP.Core.encode Jvm.FP.Core.b32 (Jvm.FP.Core.quotient Jvm.FP.Core.b32 (.fin s c q) (.fin t d r)) < 4294967296 := by
  unfold Jvm.FP.Core.quotient
  dsimp only
  rw [if_neg hd]
  unfold Jvm.FP.Core.roundRatio
  split
  · exact enc_ok032 _ _
  · unfold Jvm.FP.Core.roundAt
    exact enc_ok32 _ _ _
theorem fromInt_lt32 (x : Int32) : Jvm.FP.Core.fromInt Jvm.FP.Core.b32 x.toInt < 4294967296 := by
  unfold Jvm.FP.Core.fromInt Jvm.FP.Core.ofInt Jvm.FP.Core.round Jvm.FP.Core.roundRatio
  dsimp only
  split
  · exact (enc_ok032 _ _).2
  · unfold Jvm.FP.Core.roundAt
    exact (enc_ok32 _ _ _).2
theorem nan_ok32 (x y : Int32) (hy : y ≠ 0) : vf_n32 (FP.fdiv (FP.i2f x) (FP.i2f y)) := by
  unfold vf_n32
  rw [UInt32.le_iff_toNat_le, UInt32.toNat_and]
  show (UInt32.ofNat (Jvm.FP.Core.encode Jvm.FP.Core.b32 (Jvm.FP.Core.quotient Jvm.FP.Core.b32 (Jvm.FP.Core.decode Jvm.FP.Core.b32 (UInt32.ofNat (Jvm.FP.Core.fromInt Jvm.FP.Core.b32 x.toInt)).toNat) (Jvm.FP.Core.decode Jvm.FP.Core.b32 (UInt32.ofNat (Jvm.FP.Core.fromInt Jvm.FP.Core.b32 y.toInt)).toNat)))).toNat &&& 2147483647 ≤ 2139095040
  rw [show (UInt32.ofNat (Jvm.FP.Core.fromInt Jvm.FP.Core.b32 x.toInt)).toNat = Jvm.FP.Core.fromInt Jvm.FP.Core.b32 x.toInt from UInt32.toNat_ofNat_of_lt' (fromInt_lt32 x), show (UInt32.ofNat (Jvm.FP.Core.fromInt Jvm.FP.Core.b32 y.toInt)).toNat = Jvm.FP.Core.fromInt Jvm.FP.Core.b32 y.toInt from UInt32.toNat_ofNat_of_lt' (fromInt_lt32 y)]
  obtain ⟨s, c, q, e1, -⟩ := int_ok32 x
  obtain ⟨t, d, r, e2, hd⟩ := int_ok32 y
  rw [e1, e2]
  obtain ⟨a, b⟩ := quo_ok32 (s := s) (t := t) (c := c) (q := q) (r := r) (hd hy)
  rw [show (UInt32.ofNat (Jvm.FP.Core.encode Jvm.FP.Core.b32 (Jvm.FP.Core.quotient Jvm.FP.Core.b32 (.fin s c q) (.fin t d r)))).toNat = _ from UInt32.toNat_ofNat_of_lt' b, show (2147483647 : Nat) = 2 ^ 31 - 1 from rfl, Nat.and_two_pow_sub_one_eq_mod]
  exact a
theorem fq_num64 : Jvm.FP.Core.b64.tails = 4503599627370496 ∧ Jvm.FP.Core.b64.exps = 2048 ∧ Jvm.FP.Core.b64.qmin = -1074 ∧ Jvm.FP.Core.b64.qmax = 971 ∧ 2 ^ Jvm.FP.Core.b64.p = 9007199254740992 ∧ Jvm.FP.Core.b64.p = 53 := by decide +kernel
/-- what settle gives is encoded as no NaN -/
theorem enc_ok64 (s : Bool) (n : Nat) (q : Int) : Jvm.FP.Core.encode Jvm.FP.Core.b64 (Jvm.FP.Core.settle Jvm.FP.Core.b64 s n q) % 9223372036854775808 ≤ 9218868437227405312 ∧ Jvm.FP.Core.encode Jvm.FP.Core.b64 (Jvm.FP.Core.settle Jvm.FP.Core.b64 s n q) < 18446744073709551616 := by
  obtain ⟨h1, h2, h3, h4, h5, -⟩ := fq_num64
  unfold Jvm.FP.Core.settle Jvm.FP.Core.bound
  rw [h5, h4]
  have hs : s.toNat ≤ 1 := by cases s <;> decide
  generalize hz : s.toNat = z at hs
  split
  · split
    · unfold Jvm.FP.Core.encode Jvm.FP.Core.assemble
      dsimp only
      rw [h1, h2, h3, hz]
      split
      · omega
      · omega
    · unfold Jvm.FP.Core.encode Jvm.FP.Core.assemble
      dsimp only
      rw [h1, h2, hz]
      omega
  · split
    · unfold Jvm.FP.Core.encode Jvm.FP.Core.assemble
      dsimp only
      rw [h1, h2, h3, hz]
      split
      · omega
      · omega
    · unfold Jvm.FP.Core.encode Jvm.FP.Core.assemble
      dsimp only
      rw [h1, h2, hz]
      omega
theorem enc_ok064 (s : Bool) (q : Int) : Jvm.FP.Core.encode Jvm.FP.Core.b64 (.fin s 0 q) % 9223372036854775808 ≤ 9218868437227405312 ∧ Jvm.FP.Core.encode Jvm.FP.Core.b64 (.fin s 0 q) < 18446744073709551616 := by
  obtain ⟨h1, h2, h3, h4, h5, -⟩ := fq_num64
  have hs : s.toNat ≤ 1 := by cases s <;> decide
  generalize hz : s.toNat = z at hs
  unfold Jvm.FP.Core.encode Jvm.FP.Core.assemble
  dsimp only
  rw [h1, h2, hz, if_pos (by omega)]
  omega
/-- and read again it is a number, if it isn't too great -/
theorem dec_ok64 (s : Bool) (n : Nat) (q : Int) (hq : q + 1 ≤ 971) : ∃ (t : Bool) (c : Nat) (r : Int), Jvm.FP.Core.decode Jvm.FP.Core.b64 (Jvm.FP.Core.encode Jvm.FP.Core.b64 (Jvm.FP.Core.settle Jvm.FP.Core.b64 s n q)) = .fin t c r ∧ (n ≠ 0 → c ≠ 0) := by
  obtain ⟨h1, h2, h3, h4, h5, -⟩ := fq_num64
  have hs : s.toNat ≤ 1 := by cases s <;> decide
  have key : ∀ (e t : Nat), e < 2047 → t < 4503599627370496 → ∃ (t' : Bool) (c : Nat) (r : Int), Jvm.FP.Core.decode Jvm.FP.Core.b64 ((s.toNat * 2048 + e) * 4503599627370496 + t) = .fin t' c r ∧ ((e ≠ 0 ∨ t ≠ 0) → c ≠ 0) := by
    intro e t he ht
    unfold Jvm.FP.Core.decode Jvm.FP.Core.fieldE Jvm.FP.Core.fieldT
    rw [h1, h2]
    have e1 : ((s.toNat * 2048 + e) * 4503599627370496 + t) / 4503599627370496 % 2048 = e := by omega
    have e2 : ((s.toNat * 2048 + e) * 4503599627370496 + t) % 4503599627370496 = t := by omega
    rw [e1, e2, if_neg (by omega)]
    split
    · exact ⟨_, _, _, rfl, fun h => by omega⟩
    · exact ⟨_, _, _, rfl, fun h => by omega⟩
  unfold Jvm.FP.Core.settle Jvm.FP.Core.bound
  rw [h5, h4]
  split
  · rw [if_pos (by omega)]
    unfold Jvm.FP.Core.encode Jvm.FP.Core.assemble
    dsimp only
    rw [h1, h2, h3]
    split
    · obtain ⟨a, b, c, d, g⟩ := key 0 n (by omega) (by omega)
      exact ⟨a, b, c, d, fun h => g (Or.inr h)⟩
    · obtain ⟨a, b, c, d, g⟩ := key ((q - (-1074)).toNat + 1) (n - 4503599627370496) (by omega) (by omega)
      exact ⟨a, b, c, d, fun h => g (Or.inl (by omega))⟩
  · try rw [if_pos (by omega)]
    unfold Jvm.FP.Core.encode Jvm.FP.Core.assemble
    dsimp only
    rw [h1, h2, h3, if_neg (by omega)]
    obtain ⟨a, b, c, d, g⟩ := key ((q + 1 - (-1074)).toNat + 1) (4503599627370496 - 4503599627370496) (by omega) (by omega)
    exact ⟨a, b, c, d, fun h => g (Or.inl (by omega))⟩
theorem int_ok64 (x : Int32) : ∃ (t : Bool) (c : Nat) (r : Int), Jvm.FP.Core.decode Jvm.FP.Core.b64 (Jvm.FP.Core.fromInt Jvm.FP.Core.b64 x.toInt) = .fin t c r ∧ (x ≠ 0 → c ≠ 0) := by
  obtain ⟨h1, h2, h3, h4, h5, h6⟩ := fq_num64
  unfold Jvm.FP.Core.fromInt Jvm.FP.Core.ofInt Jvm.FP.Core.round
  dsimp only
  have a := Int32.toInt_lt x
  have b := Int32.le_toInt x
  by_cases h0 : x.toInt.natAbs = 0
  · unfold Jvm.FP.Core.roundRatio
    rw [if_pos h0, h3]
    refine ⟨decide (x.toInt < 0), 0, -1074, ?_, fun hx => absurd (Int32.toInt_inj.mp (by rw [Int.natAbs_eq_zero.mp h0]; rfl)) hx⟩
    have hz : x.toInt = 0 := Int.natAbs_eq_zero.mp h0
    rw [hz]
    decide +kernel
  · unfold Jvm.FP.Core.roundRatio
    rw [if_neg h0]
    unfold Jvm.FP.Core.roundAt
    have hl := lead_le x.toInt.natAbs
    have hlog : x.toInt.natAbs.log2 < 32 := (Nat.log2_lt h0).mpr (by omega)
    have hself : 2 ^ x.toInt.natAbs.log2 ≤ x.toInt.natAbs := Nat.log2_self_le h0
    have hq : Jvm.FP.Core.quantum Jvm.FP.Core.b64 x.toInt.natAbs 1 0 ≤ 32 ∧ Jvm.FP.Core.quantum Jvm.FP.Core.b64 x.toInt.natAbs 1 0 ≤ max 0 (x.toInt.natAbs.log2 : Int) := by
      unfold Jvm.FP.Core.quantum
      rw [h3, h6]
      omega
    generalize Jvm.FP.Core.quantum Jvm.FP.Core.b64 x.toInt.natAbs 1 0 = q at hq
    obtain ⟨t, c, r, e, hc⟩ := dec_ok64 (decide (x.toInt < 0)) (Jvm.FP.Core.nearest (Jvm.FP.Core.unitsNum x.toInt.natAbs 0 q) (Jvm.FP.Core.unitsDen 1 0 q)) q (by omega)
    refine ⟨t, c, r, e, fun _ => hc (near_pos ?_ ?_)⟩
    · unfold Jvm.FP.Core.unitsDen
      exact Nat.mul_pos (by decide) (Nat.two_pow_pos _)
    · unfold Jvm.FP.Core.unitsDen Jvm.FP.Core.unitsNum
      have hle : q.toNat ≤ x.toInt.natAbs.log2 := by omega
      calc 1 * 2 ^ (q - 0).toNat ≤ 2 ^ x.toInt.natAbs.log2 := by rw [Nat.one_mul]; exact Nat.pow_le_pow_right (by decide) (by omega)
        _ ≤ x.toInt.natAbs := hself
        _ ≤ x.toInt.natAbs * 2 ^ (0 - q).toNat := Nat.le_mul_of_pos_right _ (Nat.two_pow_pos _)
theorem quo_ok64 {s t : Bool} {c d : Nat} {q r : Int} (hd : d ≠ 0) : Jvm.FP.Core.encode Jvm.FP.Core.b64 (Jvm.FP.Core.quotient Jvm.FP.Core.b64 (.fin s c q) (.fin t d r)) % 9223372036854775808 ≤ 9218868437227405312 ∧ Jvm.FP.Core.encode Jvm.FP.Core.b64 (Jvm.FP.Core.quotient Jvm.FP.Core.b64 (.fin s c q) (.fin t d r)) < 18446744073709551616 := by
  unfold Jvm.FP.Core.quotient
  dsimp only
  rw [if_neg hd]
  unfold Jvm.FP.Core.roundRatio
  split
  · exact enc_ok064 _ _
  · unfold Jvm.FP.Core.roundAt
    exact enc_ok64 _ _ _
theorem fromInt_lt64 (x : Int32) : Jvm.FP.Core.fromInt Jvm.FP.Core.b64 x.toInt < 18446744073709551616 := by
  unfold Jvm.FP.Core.fromInt Jvm.FP.Core.ofInt Jvm.FP.Core.round Jvm.FP.Core.roundRatio
  dsimp only
  split
  · exact (enc_ok064 _ _).2
  · unfold Jvm.FP.Core.roundAt
    exact (enc_ok64 _ _ _).2
theorem nan_ok64 (x y : Int32) (hy : y ≠ 0) : vf_n64 (FP.ddiv (FP.i2d x) (FP.i2d y)) := by
  unfold vf_n64
  rw [UInt64.le_iff_toNat_le, UInt64.toNat_and]
  show (UInt64.ofNat (Jvm.FP.Core.encode Jvm.FP.Core.b64 (Jvm.FP.Core.quotient Jvm.FP.Core.b64 (Jvm.FP.Core.decode Jvm.FP.Core.b64 (UInt64.ofNat (Jvm.FP.Core.fromInt Jvm.FP.Core.b64 x.toInt)).toNat) (Jvm.FP.Core.decode Jvm.FP.Core.b64 (UInt64.ofNat (Jvm.FP.Core.fromInt Jvm.FP.Core.b64 y.toInt)).toNat)))).toNat &&& 9223372036854775807 ≤ 9218868437227405312
  rw [show (UInt64.ofNat (Jvm.FP.Core.fromInt Jvm.FP.Core.b64 x.toInt)).toNat = Jvm.FP.Core.fromInt Jvm.FP.Core.b64 x.toInt from UInt64.toNat_ofNat_of_lt' (fromInt_lt64 x), show (UInt64.ofNat (Jvm.FP.Core.fromInt Jvm.FP.Core.b64 y.toInt)).toNat = Jvm.FP.Core.fromInt Jvm.FP.Core.b64 y.toInt from UInt64.toNat_ofNat_of_lt' (fromInt_lt64 y)]
  obtain ⟨s, c, q, e1, -⟩ := int_ok64 x
  obtain ⟨t, d, r, e2, hd⟩ := int_ok64 y
  rw [e1, e2]
  obtain ⟨a, b⟩ := quo_ok64 (s := s) (t := t) (c := c) (q := q) (r := r) (hd hy)
  rw [show (UInt64.ofNat (Jvm.FP.Core.encode Jvm.FP.Core.b64 (Jvm.FP.Core.quotient Jvm.FP.Core.b64 (.fin s c q) (.fin t d r)))).toNat = _ from UInt64.toNat_ofNat_of_lt' b, show (9223372036854775807 : Nat) = 2 ^ 63 - 1 from rfl, Nat.and_two_pow_sub_one_eq_mod]
  exact a
end TSfloats2
