/-! THE LAW'S FIRST OBJECT: what each call answers. -/
section TSefacts
theorem ev1 : (A_undo a00).1 = (-1001 : Int32) := by decide +kernel
def eS1 : Abs := (A_undo a00).2
theorem eS1_eq : A_undo a00 = ((-1001 : Int32), eS1) := pr_ext ev1
theorem ev2 : (A_restore eS1).1 = (-1001 : Int32) := by decide +kernel
def eS2 : Abs := (A_restore eS1).2
theorem eS2_eq : A_restore eS1 = ((-1001 : Int32), eS2) := pr_ext ev2
def eS3 : Abs := (A_save eS2).2
theorem ev3 : eS2.1 1 = 0 := by decide +kernel
theorem ev4 : (A_pass eS3 (40 : Int32)).1 = (0 : Int32) := by decide +kernel
def eS4 : Abs := (A_pass eS3 (40 : Int32)).2
theorem eS4_eq : A_pass eS3 (40 : Int32) = ((0 : Int32), eS4) := pr_ext ev4
theorem ev5 : Q_number eS4.1 (nI eS4.2.1.length) (nI eS4.2.2.2.2.2.2.1.length) (0 : Int32) = (40 : Int32) := by decide +kernel
def eF : Nat → Abs
  | 0 => eS4
  | i + 1 => (A_feed (eF i) (nI (65 + i))).2
theorem eF_all : ∀ i : Fin 60, (A_feed (eF i.val) (nI (65 + i.val))).1 = nI (i.val + 1) := by decide +kernel
theorem eF_st {i : Nat} (hi : i < 60) : A_feed (eF i) (nI (65 + i)) = (nI (i + 1), eF (i + 1)) := pr_ext (eF_all ⟨i, hi⟩)
theorem e_i2c : ∀ i : Fin 60, (((65 : Int32) + nI i.val).toUInt32 % 65536).toInt32 = nI (65 + i.val) := by decide +kernel
def eF60 : Abs := eF 60
theorem ev6 : (A_feed eF60 (nI 116)).1 = (-1001 : Int32) := by decide +kernel
def eS5 : Abs := (A_feed eF60 (nI 116)).2
theorem eS5_eq : A_feed eF60 (nI 116) = ((-1001 : Int32), eS5) := pr_ext ev6
theorem ev7 : Q_number eS5.1 (nI eS5.2.1.length) (nI eS5.2.2.2.2.2.2.1.length) (17 : Int32) = (60 : Int32) := by decide +kernel
theorem ev8 : rdW (fun i => eS5.2.2.2.2.2.2.1.getD i 0) 10 0 0 = (none, 0) := by decide +kernel
def eS6 : Abs := (A_readBad eS5).2
theorem eS6_eq : A_readBad eS5 = ((-1001 : Int32), eS6) := rfl
theorem ev9 : Q_faultPosition eS6.2.2.2.2.2.1 = (0 : Int32) := by decide +kernel
theorem ev10 : Q_number eS6.1 (nI eS6.2.1.length) (nI eS6.2.2.2.2.2.2.1.length) (17 : Int32) = (0 : Int32) := by decide +kernel
def eT : Nat → Abs
  | 0 => eS6
  | i + 1 => (A_tour (eT i) 4).2
theorem eT_all : ∀ i : Fin 6, (A_tour (eT i.val) 4).1 = nI i.val := by decide +kernel
theorem eT_st {i : Nat} (hi : i < 6) : A_tour (eT i) 4 = (nI i, eT (i + 1)) := pr_ext (eT_all ⟨i, hi⟩)
def eT6 : Abs := eT 6
theorem ev11 : (A_tour eT6 (0 : Int32)).1 = (-1002 : Int32) := by decide +kernel
def eS7 : Abs := (A_tour eT6 (0 : Int32)).2
theorem eS7_eq : A_tour eT6 (0 : Int32) = ((-1002 : Int32), eS7) := pr_ext ev11
theorem ev12 : isQ eS7 (1 : Int32) (6 : Int32) = 1 := by decide +kernel
theorem ev13 : (A_start eS7 (5 : Int32)).1 = (-1002 : Int32) := by decide +kernel
def eS8 : Abs := (A_start eS7 (5 : Int32)).2
theorem eS8_eq : A_start eS7 (5 : Int32) = ((-1002 : Int32), eS8) := pr_ext ev13
theorem ev14 : isQ eS8 (3 : Int32) (5 : Int32) = 1 := by decide +kernel
theorem ev15 : Q_endsIn eS8.1 (0 : Int32) = (-1002 : Int32) := by decide +kernel
theorem ev16 : Q_faultOf eS8.1 (0 : Int32) = (-1002 : Int32) := by decide +kernel
def eD : Nat → Abs
  | 0 => eS8
  | i + 1 => (A_dear (eD i) (nI i) 1).2
theorem eD_all : ∀ i : Fin 5, (A_dear (eD i.val) (nI i.val) 1).1 = 2 := by decide +kernel
theorem eD_st {i : Nat} (hi : i < 5) : A_dear (eD i) (nI i) 1 = (2, eD (i + 1)) := pr_ext (eD_all ⟨i, hi⟩)
def eD5 : Abs := eD 5
def eQ : Nat → Abs
  | 0 => eD5
  | n + 1 => (A_step (eQ n) (nI (n / 8)) 0 (nI (n / 8)) (nI (n % 8)) 1).2
theorem eQ_all : ∀ n : Fin 40, (A_step (eQ n.val) (nI (n.val / 8)) 0 (nI (n.val / 8)) (nI (n.val % 8)) 1).1 = nI (n.val % 8 + 1) := by decide +kernel
theorem eQ_st {t i : Nat} (ht : t < 5) (hi : i < 8) : A_step (eQ (8 * t + i)) (nI t) 0 (nI t) (nI i) 1 = (nI (i + 1), eQ (8 * t + (i + 1))) := by
  have h := eQ_all ⟨8 * t + i, by omega⟩
  dsimp only at h
  have e : eQ (8 * t + (i + 1)) = (A_step (eQ (8 * t + i)) (nI ((8 * t + i) / 8)) 0 (nI ((8 * t + i) / 8)) (nI ((8 * t + i) % 8)) 1).2 := rfl
  rw [show (8 * t + i) / 8 = t by omega, show (8 * t + i) % 8 = i by omega] at h e
  rw [e]
  exact pr_ext h
def eP (t : Nat) : Abs := eQ (8 * t)
/-- six tours, five of them with eight steps, dearness 1 -/
def eTS (i : Nat) : Int32 :=
  if i < 14 then (if i = 0 then 40 else if i = 1 then 6 else if i = 7 then 100 else 0)
  else if i < 68 then (if (i - 14) % 9 = 1 then 4 else if (i - 14) % 9 = 2 then (if (i - 14) / 9 < 5 then 8 else 0) else 0)
  else if i < 308 then (if (i - 68) / 40 < 5 then (if (i - 68) % 5 = 1 then nI ((i - 68) / 40) else if (i - 68) % 5 = 2 then nI ((i - 68) % 40 / 5) else if (i - 68) % 5 = 3 then 1 else 0) else 0)
  else if i < 328 then (if (i - 308) % 4 = 0 then 1 else if (i - 308) % 4 = 1 then 1 else 0)
  else if i < 428 then 1 else if i < 528 then 4 else if i < 628 then 12 else 0
theorem eTS_all : ∀ i : Fin 628, (eP 5).1 i.val = eTS i.val := by decide +kernel
def eN0 : Abs := (eTS, (eP 5).2)
theorem ev17 : (A_step eN0 (0 : Int32) (1 : Int32) (0 : Int32) (0 : Int32) (1 : Int32)).1 = (-1003 : Int32) := by decide +kernel
def eS9 : Abs := (A_step eN0 (0 : Int32) (1 : Int32) (0 : Int32) (0 : Int32) (1 : Int32)).2
theorem eS9_eq : A_step eN0 (0 : Int32) (1 : Int32) (0 : Int32) (0 : Int32) (1 : Int32) = ((-1003 : Int32), eS9) := pr_ext ev17
theorem ev18 : isQ eS9 (1 : Int32) (8 : Int32) = 1 := by decide +kernel
theorem ev19 : (A_step eS9 (0 : Int32) (0 : Int32) (0 : Int32) (7 : Int32) (1 : Int32)).1 = (-1003 : Int32) := by decide +kernel
def eS10 : Abs := (A_step eS9 (0 : Int32) (0 : Int32) (0 : Int32) (7 : Int32) (1 : Int32)).2
theorem eS10_eq : A_step eS9 (0 : Int32) (0 : Int32) (0 : Int32) (7 : Int32) (1 : Int32) = ((-1003 : Int32), eS10) := pr_ext ev19
theorem ev20 : isQ eS10 (5 : Int32) (7 : Int32) = 1 := by decide +kernel
theorem ev21 : Q_costs eS10.1 (4 : Int32) = (48 : Int32) := by decide +kernel
theorem ev22 : Q_number eS10.1 (nI eS10.2.1.length) (nI eS10.2.2.2.2.2.2.1.length) (16 : Int32) = (8 : Int32) := by decide +kernel
theorem ev23 : (A_start eS10 (0 : Int32)).1 = (1 : Int32) := by decide +kernel
def eS11 : Abs := (A_start eS10 (0 : Int32)).2
theorem eS11_eq : A_start eS10 (0 : Int32) = ((1 : Int32), eS11) := pr_ext ev23
theorem ev24 : Q_endsIn eS11.1 (0 : Int32) = (8 : Int32) := by decide +kernel
theorem ev25 : (A_pass eS11 (8 : Int32)).1 = (1 : Int32) := by decide +kernel
def eS12 : Abs := (A_pass eS11 (8 : Int32)).2
theorem eS12_eq : A_pass eS11 (8 : Int32) = ((1 : Int32), eS12) := pr_ext ev25
theorem ev26 : Q_number eS12.1 (nI eS12.2.1.length) (nI eS12.2.2.2.2.2.2.1.length) (7 : Int32) = (132 : Int32) := by decide +kernel
theorem ev27 : (A_start eS12 (1 : Int32)).1 = (1 : Int32) := by decide +kernel
def eS13 : Abs := (A_start eS12 (1 : Int32)).2
theorem eS13_eq : A_start eS12 (1 : Int32) = ((1 : Int32), eS13) := pr_ext ev27
theorem ev28 : (A_start eS13 (2 : Int32)).1 = (2 : Int32) := by decide +kernel
def eS14 : Abs := (A_start eS13 (2 : Int32)).2
theorem eS14_eq : A_start eS13 (2 : Int32) = ((2 : Int32), eS14) := pr_ext ev28
theorem ev29 : Q_endsIn eS14.1 (1 : Int32) = (8 : Int32) := by decide +kernel
theorem ev30 : Q_endsIn eS14.1 (2 : Int32) = (8 : Int32) := by decide +kernel
theorem ev31 : (A_pass eS14 (8 : Int32)).1 = (2 : Int32) := by decide +kernel
def eS15 : Abs := (A_pass eS14 (8 : Int32)).2
theorem eS15_eq : A_pass eS14 (8 : Int32) = ((2 : Int32), eS15) := pr_ext ev31
theorem ev32 : Q_number eS15.1 (nI eS15.2.1.length) (nI eS15.2.2.2.2.2.2.1.length) (7 : Int32) = (196 : Int32) := by decide +kernel
theorem ev33 : Q_number eS15.1 (nI eS15.2.1.length) (nI eS15.2.2.2.2.2.2.1.length) (10 : Int32) = (240 : Int32) := by decide +kernel
theorem ev34 : Q_number eS15.1 (nI eS15.2.1.length) (nI eS15.2.2.2.2.2.2.1.length) (8 : Int32) = (144 : Int32) := by decide +kernel
theorem ev35 : Q_number eS15.1 (nI eS15.2.1.length) (nI eS15.2.2.2.2.2.2.1.length) (15 : Int32) = (24 : Int32) := by decide +kernel
theorem ev36 : Q_left eS15.1 (0 : Int32) (2 : Int32) (7 : Int32) = (0 : Int32) := by decide +kernel
theorem ev37 : (A_undo eS15).1 = (7 : Int32) := by decide +kernel
def eS16 : Abs := (A_undo eS15).2
theorem eS16_eq : A_undo eS15 = ((7 : Int32), eS16) := pr_ext ev37
theorem ev38 : Q_number eS16.1 (nI eS16.2.1.length) (nI eS16.2.2.2.2.2.2.1.length) (7 : Int32) = (132 : Int32) := by decide +kernel
theorem ev39 : Q_tourOf eS16.1 (2 : Int32) (3 : Int32) = (0 : Int32) := by decide +kernel
theorem ev40 : (A_undo eS16).1 = (6 : Int32) := by decide +kernel
def eS17 : Abs := (A_undo eS16).2
theorem eS17_eq : A_undo eS16 = ((6 : Int32), eS17) := pr_ext ev40
theorem ev41 : Q_tourOf eS17.1 (2 : Int32) (0 : Int32) = (0 : Int32) := by decide +kernel
theorem ev42 : (A_undo eS17).1 = (5 : Int32) := by decide +kernel
def eS18 : Abs := (A_undo eS17).2
theorem eS18_eq : A_undo eS17 = ((5 : Int32), eS18) := pr_ext ev42
theorem ev43 : (A_undo eS18).1 = (4 : Int32) := by decide +kernel
def eS19 : Abs := (A_undo eS18).2
theorem eS19_eq : A_undo eS18 = ((4 : Int32), eS19) := pr_ext ev43
theorem ev44 : Q_number eS19.1 (nI eS19.2.1.length) (nI eS19.2.2.2.2.2.2.1.length) (7 : Int32) = (100 : Int32) := by decide +kernel
theorem ev45 : (A_restore eS19).1 = (0 : Int32) := by decide +kernel
def eS20 : Abs := (A_restore eS19).2
theorem eS20_eq : A_restore eS19 = ((0 : Int32), eS20) := pr_ext ev45
theorem ev46 : Q_number eS20.1 (nI eS20.2.1.length) (nI eS20.2.2.2.2.2.2.1.length) (1 : Int32) = (0 : Int32) := by decide +kernel
theorem ev47 : Q_townOf eS20.1 (0 : Int32) (1 : Int32) = (2 : Int32) := by decide +kernel
theorem ev48 : Q_number eS20.1 (nI eS20.2.1.length) (nI eS20.2.2.2.2.2.2.1.length) (0 : Int32) = (0 : Int32) := by decide +kernel
theorem ev49 : (A_undo eS20).1 = (-1001 : Int32) := by decide +kernel
def eS21 : Abs := (A_undo eS20).2
theorem eS21_eq : A_undo eS20 = ((-1001 : Int32), eS21) := pr_ext ev49
end TSefacts
