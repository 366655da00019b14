/-! BOOKS: the places by numbers; what every change keeps. -/
section TSbooks
/-- not by rfl: simp then proves the step by congruence, and the kernel doesn't unfold what stands around it -/
theorem letp_n {α β : Type} (x : α) (f : α → β) : letp x f = f x := by
  have h : letp x f = f x := rfl
  exact h
theorem ofTour_nI (t w : Nat) : F_X6_ofTour (nI t) (nI w) = nI (14 + t * 9 + w) := by
  show (nI 14 + (nI t * nI 9)) + nI w = _
  rw [pk_mul, nI_add, nI_add]
theorem ofStep_nI (t s w : Nat) : F_X6_ofStep (nI t) (nI s) (nI w) = nI (68 + (t * 8 + s) * 5 + w) := by
  show (nI 68 + (((nI t * nI 8) + nI s) * nI 5)) + nI w = _
  rw [pk_mul, nI_add, pk_mul, nI_add, nI_add]
theorem ofTown_nI (t w : Nat) : F_X6_ofTown (nI t) (nI w) = nI (308 + t * 4 + w) := by
  show (nI 308 + (nI t * nI 4)) + nI w = _
  rw [pk_mul, nI_add, nI_add]
theorem ofLeft_nI (k w d : Nat) : F_X6_ofLeft (nI k) (nI w) (nI d) = nI (328 + (k * 5 + w) * 20 + d) := by
  show (nI 328 + (((nI k * nI 5) + nI w) * nI 20)) + nI d = _
  rw [pk_mul, nI_add, pk_mul, nI_add, nI_add]
theorem get_nI {f : Nat → Int32} {i : Nat} (h : i < 628) : F_X0_get f (nI i) = f i := by
  unfold F_X0_get
  rw [if_neg (nI_pos (by omega)), if_neg (show ¬ (628 : Int32) ≤ nI i from nI_ge h (by decide)), nI_clamp (by omega)]
theorem set_nI {f : Nat → Int32} {i : Nat} (h : i < 628) (v : Int32) : F_X0_set f (nI i) v = upd f i v := by
  unfold F_X0_set
  rw [if_neg (nI_pos (by omega)), if_neg (show ¬ (628 : Int32) ≤ nI i from nI_ge h (by decide)), nI_clamp (by omega)]
theorem add_nI {f : Nat → Int32} {i : Nat} (h : i < 628) (v : Int32) : F_X0_add f (nI i) v = upd f i (f i + v) := by
  unfold F_X0_add
  rw [if_neg (nI_pos (by omega)), if_neg (show ¬ (628 : Int32) ≤ nI i from nI_ge h (by decide)), nI_clamp (by omega)]
theorem upd_eq {f : Nat → Int32} {i : Nat} {v : Int32} : upd f i v i = v := by simp [upd]
theorem upd_ne {f : Nat → Int32} {i j : Nat} {v : Int32} (h : j ≠ i) : upd f i v j = f j := by simp [upd, h]
theorem gT_0 {f : Nat → Int32} {t : Nat} (h : t < 6) : F_X0_get f (F_X6_ofTour (nI t) (0 : Int32)) = f (14 + t * 9) := (congrArg (F_X0_get f) (ofTour_nI t 0)).trans (get_nI (by omega))
theorem sT_0 {f : Nat → Int32} {t : Nat} {v : Int32} (h : t < 6) : F_X0_set f (F_X6_ofTour (nI t) (0 : Int32)) v = upd f (14 + t * 9) v := (congrArg (fun z => F_X0_set f z v) (ofTour_nI t 0)).trans (set_nI (by omega) v)
theorem aT_0 {f : Nat → Int32} {t : Nat} {v : Int32} (h : t < 6) : F_X0_add f (F_X6_ofTour (nI t) (0 : Int32)) v = upd f (14 + t * 9) (f (14 + t * 9) + v) := (congrArg (fun z => F_X0_add f z v) (ofTour_nI t 0)).trans (add_nI (by omega) v)
theorem gT_1 {f : Nat → Int32} {t : Nat} (h : t < 6) : F_X0_get f (F_X6_ofTour (nI t) (1 : Int32)) = f (14 + t * 9 + 1) := (congrArg (F_X0_get f) (ofTour_nI t 1)).trans (get_nI (by omega))
theorem sT_1 {f : Nat → Int32} {t : Nat} {v : Int32} (h : t < 6) : F_X0_set f (F_X6_ofTour (nI t) (1 : Int32)) v = upd f (14 + t * 9 + 1) v := (congrArg (fun z => F_X0_set f z v) (ofTour_nI t 1)).trans (set_nI (by omega) v)
theorem aT_1 {f : Nat → Int32} {t : Nat} {v : Int32} (h : t < 6) : F_X0_add f (F_X6_ofTour (nI t) (1 : Int32)) v = upd f (14 + t * 9 + 1) (f (14 + t * 9 + 1) + v) := (congrArg (fun z => F_X0_add f z v) (ofTour_nI t 1)).trans (add_nI (by omega) v)
theorem gT_2 {f : Nat → Int32} {t : Nat} (h : t < 6) : F_X0_get f (F_X6_ofTour (nI t) (2 : Int32)) = f (14 + t * 9 + 2) := (congrArg (F_X0_get f) (ofTour_nI t 2)).trans (get_nI (by omega))
theorem sT_2 {f : Nat → Int32} {t : Nat} {v : Int32} (h : t < 6) : F_X0_set f (F_X6_ofTour (nI t) (2 : Int32)) v = upd f (14 + t * 9 + 2) v := (congrArg (fun z => F_X0_set f z v) (ofTour_nI t 2)).trans (set_nI (by omega) v)
theorem aT_2 {f : Nat → Int32} {t : Nat} {v : Int32} (h : t < 6) : F_X0_add f (F_X6_ofTour (nI t) (2 : Int32)) v = upd f (14 + t * 9 + 2) (f (14 + t * 9 + 2) + v) := (congrArg (fun z => F_X0_add f z v) (ofTour_nI t 2)).trans (add_nI (by omega) v)
theorem gT_3 {f : Nat → Int32} {t : Nat} (h : t < 6) : F_X0_get f (F_X6_ofTour (nI t) (3 : Int32)) = f (14 + t * 9 + 3) := (congrArg (F_X0_get f) (ofTour_nI t 3)).trans (get_nI (by omega))
theorem sT_3 {f : Nat → Int32} {t : Nat} {v : Int32} (h : t < 6) : F_X0_set f (F_X6_ofTour (nI t) (3 : Int32)) v = upd f (14 + t * 9 + 3) v := (congrArg (fun z => F_X0_set f z v) (ofTour_nI t 3)).trans (set_nI (by omega) v)
theorem aT_3 {f : Nat → Int32} {t : Nat} {v : Int32} (h : t < 6) : F_X0_add f (F_X6_ofTour (nI t) (3 : Int32)) v = upd f (14 + t * 9 + 3) (f (14 + t * 9 + 3) + v) := (congrArg (fun z => F_X0_add f z v) (ofTour_nI t 3)).trans (add_nI (by omega) v)
theorem gT_4 {f : Nat → Int32} {t : Nat} (h : t < 6) : F_X0_get f (F_X6_ofTour (nI t) (4 : Int32)) = f (14 + t * 9 + 4) := (congrArg (F_X0_get f) (ofTour_nI t 4)).trans (get_nI (by omega))
theorem sT_4 {f : Nat → Int32} {t : Nat} {v : Int32} (h : t < 6) : F_X0_set f (F_X6_ofTour (nI t) (4 : Int32)) v = upd f (14 + t * 9 + 4) v := (congrArg (fun z => F_X0_set f z v) (ofTour_nI t 4)).trans (set_nI (by omega) v)
theorem aT_4 {f : Nat → Int32} {t : Nat} {v : Int32} (h : t < 6) : F_X0_add f (F_X6_ofTour (nI t) (4 : Int32)) v = upd f (14 + t * 9 + 4) (f (14 + t * 9 + 4) + v) := (congrArg (fun z => F_X0_add f z v) (ofTour_nI t 4)).trans (add_nI (by omega) v)
theorem gT_5 {f : Nat → Int32} {t : Nat} (h : t < 6) : F_X0_get f (F_X6_ofTour (nI t) (5 : Int32)) = f (14 + t * 9 + 5) := (congrArg (F_X0_get f) (ofTour_nI t 5)).trans (get_nI (by omega))
theorem sT_5 {f : Nat → Int32} {t : Nat} {v : Int32} (h : t < 6) : F_X0_set f (F_X6_ofTour (nI t) (5 : Int32)) v = upd f (14 + t * 9 + 5) v := (congrArg (fun z => F_X0_set f z v) (ofTour_nI t 5)).trans (set_nI (by omega) v)
theorem aT_5 {f : Nat → Int32} {t : Nat} {v : Int32} (h : t < 6) : F_X0_add f (F_X6_ofTour (nI t) (5 : Int32)) v = upd f (14 + t * 9 + 5) (f (14 + t * 9 + 5) + v) := (congrArg (fun z => F_X0_add f z v) (ofTour_nI t 5)).trans (add_nI (by omega) v)
theorem gT_6 {f : Nat → Int32} {t : Nat} (h : t < 6) : F_X0_get f (F_X6_ofTour (nI t) (6 : Int32)) = f (14 + t * 9 + 6) := (congrArg (F_X0_get f) (ofTour_nI t 6)).trans (get_nI (by omega))
theorem sT_6 {f : Nat → Int32} {t : Nat} {v : Int32} (h : t < 6) : F_X0_set f (F_X6_ofTour (nI t) (6 : Int32)) v = upd f (14 + t * 9 + 6) v := (congrArg (fun z => F_X0_set f z v) (ofTour_nI t 6)).trans (set_nI (by omega) v)
theorem aT_6 {f : Nat → Int32} {t : Nat} {v : Int32} (h : t < 6) : F_X0_add f (F_X6_ofTour (nI t) (6 : Int32)) v = upd f (14 + t * 9 + 6) (f (14 + t * 9 + 6) + v) := (congrArg (fun z => F_X0_add f z v) (ofTour_nI t 6)).trans (add_nI (by omega) v)
theorem gT_7 {f : Nat → Int32} {t : Nat} (h : t < 6) : F_X0_get f (F_X6_ofTour (nI t) (7 : Int32)) = f (14 + t * 9 + 7) := (congrArg (F_X0_get f) (ofTour_nI t 7)).trans (get_nI (by omega))
theorem sT_7 {f : Nat → Int32} {t : Nat} {v : Int32} (h : t < 6) : F_X0_set f (F_X6_ofTour (nI t) (7 : Int32)) v = upd f (14 + t * 9 + 7) v := (congrArg (fun z => F_X0_set f z v) (ofTour_nI t 7)).trans (set_nI (by omega) v)
theorem aT_7 {f : Nat → Int32} {t : Nat} {v : Int32} (h : t < 6) : F_X0_add f (F_X6_ofTour (nI t) (7 : Int32)) v = upd f (14 + t * 9 + 7) (f (14 + t * 9 + 7) + v) := (congrArg (fun z => F_X0_add f z v) (ofTour_nI t 7)).trans (add_nI (by omega) v)
theorem gT_8 {f : Nat → Int32} {t : Nat} (h : t < 6) : F_X0_get f (F_X6_ofTour (nI t) (8 : Int32)) = f (14 + t * 9 + 8) := (congrArg (F_X0_get f) (ofTour_nI t 8)).trans (get_nI (by omega))
theorem sT_8 {f : Nat → Int32} {t : Nat} {v : Int32} (h : t < 6) : F_X0_set f (F_X6_ofTour (nI t) (8 : Int32)) v = upd f (14 + t * 9 + 8) v := (congrArg (fun z => F_X0_set f z v) (ofTour_nI t 8)).trans (set_nI (by omega) v)
theorem aT_8 {f : Nat → Int32} {t : Nat} {v : Int32} (h : t < 6) : F_X0_add f (F_X6_ofTour (nI t) (8 : Int32)) v = upd f (14 + t * 9 + 8) (f (14 + t * 9 + 8) + v) := (congrArg (fun z => F_X0_add f z v) (ofTour_nI t 8)).trans (add_nI (by omega) v)
theorem iS_0 (t s : Nat) : F_X6_ofStep (nI t) (nI s) (0 : Int32) = nI (68 + (t * 8 + s) * 5) := ofStep_nI t s 0
theorem iS_1 (t s : Nat) : F_X6_ofStep (nI t) (nI s) (1 : Int32) = nI (68 + (t * 8 + s) * 5 + 1) := ofStep_nI t s 1
theorem iS_2 (t s : Nat) : F_X6_ofStep (nI t) (nI s) (2 : Int32) = nI (68 + (t * 8 + s) * 5 + 2) := ofStep_nI t s 2
theorem iS_3 (t s : Nat) : F_X6_ofStep (nI t) (nI s) (3 : Int32) = nI (68 + (t * 8 + s) * 5 + 3) := ofStep_nI t s 3
theorem iS_4 (t s : Nat) : F_X6_ofStep (nI t) (nI s) (4 : Int32) = nI (68 + (t * 8 + s) * 5 + 4) := ofStep_nI t s 4
theorem iW_0 (w : Nat) : F_X6_ofTown (nI w) (0 : Int32) = nI (308 + w * 4) := ofTown_nI w 0
theorem iW_1 (w : Nat) : F_X6_ofTown (nI w) (1 : Int32) = nI (308 + w * 4 + 1) := ofTown_nI w 1
theorem iW_2 (w : Nat) : F_X6_ofTown (nI w) (2 : Int32) = nI (308 + w * 4 + 2) := ofTown_nI w 2
theorem iW_3 (w : Nat) : F_X6_ofTown (nI w) (3 : Int32) = nI (308 + w * 4 + 3) := ofTown_nI w 3
theorem gN_0 {f : Nat → Int32} : F_X0_get f (0 : Int32) = f 0 := get_nI (i := 0) (by decide)
theorem aN_0 {f : Nat → Int32} {v : Int32} : F_X0_add f (0 : Int32) v = upd f 0 (f 0 + v) := add_nI (i := 0) (by decide) v
theorem sN_0 {f : Nat → Int32} {v : Int32} : F_X0_set f (0 : Int32) v = upd f 0 v := set_nI (i := 0) (by decide) v
theorem gN_1 {f : Nat → Int32} : F_X0_get f (1 : Int32) = f 1 := get_nI (i := 1) (by decide)
theorem aN_1 {f : Nat → Int32} {v : Int32} : F_X0_add f (1 : Int32) v = upd f 1 (f 1 + v) := add_nI (i := 1) (by decide) v
theorem sN_1 {f : Nat → Int32} {v : Int32} : F_X0_set f (1 : Int32) v = upd f 1 v := set_nI (i := 1) (by decide) v
theorem gN_7 {f : Nat → Int32} : F_X0_get f (7 : Int32) = f 7 := get_nI (i := 7) (by decide)
theorem aN_7 {f : Nat → Int32} {v : Int32} : F_X0_add f (7 : Int32) v = upd f 7 (f 7 + v) := add_nI (i := 7) (by decide) v
theorem sN_7 {f : Nat → Int32} {v : Int32} : F_X0_set f (7 : Int32) v = upd f 7 v := set_nI (i := 7) (by decide) v
theorem gN_8 {f : Nat → Int32} : F_X0_get f (8 : Int32) = f 8 := get_nI (i := 8) (by decide)
theorem aN_8 {f : Nat → Int32} {v : Int32} : F_X0_add f (8 : Int32) v = upd f 8 (f 8 + v) := add_nI (i := 8) (by decide) v
theorem sN_8 {f : Nat → Int32} {v : Int32} : F_X0_set f (8 : Int32) v = upd f 8 v := set_nI (i := 8) (by decide) v
theorem gN_9 {f : Nat → Int32} : F_X0_get f (9 : Int32) = f 9 := get_nI (i := 9) (by decide)
theorem aN_9 {f : Nat → Int32} {v : Int32} : F_X0_add f (9 : Int32) v = upd f 9 (f 9 + v) := add_nI (i := 9) (by decide) v
theorem sN_9 {f : Nat → Int32} {v : Int32} : F_X0_set f (9 : Int32) v = upd f 9 v := set_nI (i := 9) (by decide) v
theorem gN_10 {f : Nat → Int32} : F_X0_get f (10 : Int32) = f 10 := get_nI (i := 10) (by decide)
theorem aN_10 {f : Nat → Int32} {v : Int32} : F_X0_add f (10 : Int32) v = upd f 10 (f 10 + v) := add_nI (i := 10) (by decide) v
theorem sN_10 {f : Nat → Int32} {v : Int32} : F_X0_set f (10 : Int32) v = upd f 10 v := set_nI (i := 10) (by decide) v
theorem gN_11 {f : Nat → Int32} : F_X0_get f (11 : Int32) = f 11 := get_nI (i := 11) (by decide)
theorem aN_11 {f : Nat → Int32} {v : Int32} : F_X0_add f (11 : Int32) v = upd f 11 (f 11 + v) := add_nI (i := 11) (by decide) v
theorem sN_11 {f : Nat → Int32} {v : Int32} : F_X0_set f (11 : Int32) v = upd f 11 v := set_nI (i := 11) (by decide) v
theorem gN_12 {f : Nat → Int32} : F_X0_get f (12 : Int32) = f 12 := get_nI (i := 12) (by decide)
theorem aN_12 {f : Nat → Int32} {v : Int32} : F_X0_add f (12 : Int32) v = upd f 12 (f 12 + v) := add_nI (i := 12) (by decide) v
theorem sN_12 {f : Nat → Int32} {v : Int32} : F_X0_set f (12 : Int32) v = upd f 12 v := set_nI (i := 12) (by decide) v
theorem gN_13 {f : Nat → Int32} : F_X0_get f (13 : Int32) = f 13 := get_nI (i := 13) (by decide)
theorem aN_13 {f : Nat → Int32} {v : Int32} : F_X0_add f (13 : Int32) v = upd f 13 (f 13 + v) := add_nI (i := 13) (by decide) v
theorem sN_13 {f : Nat → Int32} {v : Int32} : F_X0_set f (13 : Int32) v = upd f 13 v := set_nI (i := 13) (by decide) v
/-- the books' take, where the rest is the same -/
theorem take_at {f g : Nat → Int32} {i : Nat} (h : i < 628) : F_X0_take f g i = g i := by
  show (if 0 ≤ i ∧ i < 0 + 628 then g (0 + (i - 0)) else f i) = g i
  rw [if_pos (by omega)]
  congr 1
  omega
theorem take_same {f g : Nat → Int32} (h : ∀ i, 628 ≤ i → f i = g i) : F_X0_take f g = g := by
  funext i
  rcases Nat.lt_or_ge i 628 with q | q
  · exact take_at q
  · show (if 0 ≤ i ∧ i < 0 + 628 then g (0 + (i - 0)) else f i) = g i
    rw [if_neg (by omega)]
    exact h i q
/-- a number of at most m -/
def NB (x : Int32) (m : Nat) : Prop := ∃ n : Nat, n ≤ m ∧ x = nI n
/-- a tour's condition, its booked steps, its steps -/
def CB (c b s : Int32) : Prop := ∃ c' b' s' : Nat, c = nI c' ∧ b = nI b' ∧ s = nI s' ∧ c' ≤ 4 ∧ s' ≤ 8 ∧ b' ≤ s' ∧ (c' = 0 → b' = 0) ∧ (c' = 1 → b' < s') ∧ (c' = 2 → 0 < b')
def BN (f : Nat → Int32) : Prop := ∃ n : Nat, n ≤ 6 ∧ f 1 = nI n ∧ ∀ t, n ≤ t → t < 6 → f (14 + t * 9) = nI 0 ∧ f (14 + t * 9 + 2) = nI 0
def BT (f : Nat → Int32) : Prop := ∀ t, t < 6 → CB (f (14 + t * 9)) (f (14 + t * 9 + 3)) (f (14 + t * 9 + 2))
def BS (f : Nat → Int32) : Prop := ∀ t s, t < 6 → s < 8 → NB (f (68 + (t * 8 + s) * 5)) 2 ∧ NB (f (68 + (t * 8 + s) * 5 + 1)) 4 ∧ NB (f (68 + (t * 8 + s) * 5 + 2)) 19 ∧ NB (f (68 + (t * 8 + s) * 5 + 3)) 12
def BW (f : Nat → Int32) : Prop := ∀ w, w < 5 → NB (f (308 + w * 4)) 1 ∧ ∃ d : Nat, 1 ≤ d ∧ d ≤ 5 ∧ f (308 + w * 4 + 1) = nI d
def sumN : Nat → (Nat → Int32) → Int32
  | 0, _ => 0
  | n + 1, g => sumN n g + g n
/-- what the booked step j % 8 of tour j / 8 takes of a place -/
def bterm (f : Nat → Int32) (k w d : Nat) (j : Nat) : Int32 :=
  if j % 8 < (f (14 + (j / 8) * 9 + 3)).toNatClampNeg ∧ f (68 + j * 5) = nI k ∧ f (68 + j * 5 + 1) = nI w ∧ f (68 + j * 5 + 2) = nI d then f (68 + j * 5 + 3) else 0
def BL (f : Nat → Int32) : Prop := ∀ k w d, k < 3 → w < 5 → d < 20 → f (328 + (k * 5 + w) * 20 + d) + sumN 48 (bterm f k w d) = F_X6_mostOf (nI k)
def BK (f : Nat → Int32) : Prop := BN f ∧ BT f ∧ BS f ∧ BW f ∧ BL f
/-- the places that these read -/
def Rel (i : Nat) : Prop := i = 1 ∨ (∃ t, t < 6 ∧ (i = 14 + t * 9 ∨ i = 14 + t * 9 + 2 ∨ i = 14 + t * 9 + 3)) ∨ (∃ j, j < 48 ∧ (i = 68 + j * 5 ∨ i = 68 + j * 5 + 1 ∨ i = 68 + j * 5 + 2 ∨ i = 68 + j * 5 + 3)) ∨ (∃ w, w < 5 ∧ (i = 308 + w * 4 ∨ i = 308 + w * 4 + 1)) ∨ (328 ≤ i ∧ i < 628)
theorem rel_1 : Rel 1 := Or.inl rfl
theorem rel_T {t : Nat} (h : t < 6) : Rel (14 + t * 9) := Or.inr (Or.inl ⟨t, h, Or.inl rfl⟩)
theorem rel_T2 {t : Nat} (h : t < 6) : Rel (14 + t * 9 + 2) := Or.inr (Or.inl ⟨t, h, Or.inr (Or.inl rfl)⟩)
theorem rel_T3 {t : Nat} (h : t < 6) : Rel (14 + t * 9 + 3) := Or.inr (Or.inl ⟨t, h, Or.inr (Or.inr rfl)⟩)
theorem rel_S {j : Nat} (h : j < 48) : Rel (68 + j * 5) ∧ Rel (68 + j * 5 + 1) ∧ Rel (68 + j * 5 + 2) ∧ Rel (68 + j * 5 + 3) := ⟨Or.inr (Or.inr (Or.inl ⟨j, h, Or.inl rfl⟩)), Or.inr (Or.inr (Or.inl ⟨j, h, Or.inr (Or.inl rfl)⟩)), Or.inr (Or.inr (Or.inl ⟨j, h, Or.inr (Or.inr (Or.inl rfl))⟩)), Or.inr (Or.inr (Or.inl ⟨j, h, Or.inr (Or.inr (Or.inr rfl))⟩))⟩
theorem rel_W {w : Nat} (h : w < 5) : Rel (308 + w * 4) ∧ Rel (308 + w * 4 + 1) := ⟨Or.inr (Or.inr (Or.inr (Or.inl ⟨w, h, Or.inl rfl⟩))), Or.inr (Or.inr (Or.inr (Or.inl ⟨w, h, Or.inr rfl⟩)))⟩
theorem rel_L {k w d : Nat} (hk : k < 3) (hw : w < 5) (hd : d < 20) : Rel (328 + (k * 5 + w) * 20 + d) := Or.inr (Or.inr (Or.inr (Or.inr ⟨by omega, by omega⟩)))
/-- f' is f at the places that count, but for those in E -/
def Same (f f' : Nat → Int32) (E : Nat → Prop) : Prop := ∀ i, Rel i → ¬ E i → f' i = f i
theorem sumN_congr : ∀ (n : Nat) {g g' : Nat → Int32}, (∀ j, j < n → g j = g' j) → sumN n g = sumN n g'
  | 0, _, _, _ => rfl
  | n + 1, g, g', h => by
    show sumN n g + g n = sumN n g' + g' n
    rw [sumN_congr n (fun j hj => h j (by omega)), h n (by omega)]
theorem sumN_one : ∀ (n i : Nat) {g g' : Nat → Int32} (x : Int32), i < n → g' i = g i + x → (∀ j, j < n → j ≠ i → g' j = g j) → sumN n g' = sumN n g + x
  | 0, _, _, _, _, h, _, _ => absurd h (Nat.not_lt_zero _)
  | n + 1, i, g, g', x, h, h1, h2 => by
    show sumN n g' + g' n = sumN n g + g n + x
    by_cases e : i = n
    · subst e
      rw [sumN_congr i (g := g') (g' := g) (fun j hj => h2 j (by omega) (by omega)), h1, Int32.add_assoc]
    · rw [sumN_one n i x (by omega) h1 (fun j hj hn => h2 j (by omega) hn), h2 n (by omega) (fun z => e z.symm), Int32.add_assoc, Int32.add_comm x, ← Int32.add_assoc]
theorem bterm_congr {f f' : Nat → Int32} {k w d j : Nat} (hj : j < 48) (h3 : f' (14 + (j / 8) * 9 + 3) = f (14 + (j / 8) * 9 + 3)) (hs : ∀ v, v < 4 → f' (68 + j * 5 + v) = f (68 + j * 5 + v)) : bterm f' k w d j = bterm f k w d j := by
  unfold bterm
  rw [h3, show f' (68 + j * 5) = f (68 + j * 5) from hs 0 (by omega), hs 1 (by omega), hs 2 (by omega), hs 3 (by omega)]
/-- books that are the same where it counts -/
theorem BK_same {f f' : Nat → Int32} (hS : Same f f' (fun _ => False)) (h : BK f) : BK f' := by
  have e : ∀ i, Rel i → f' i = f i := fun i hi => hS i hi (fun z => z)
  obtain ⟨⟨n, hn, h1, h2⟩, hT, hs, hW, hL⟩ := h
  refine ⟨⟨n, hn, by rw [e _ rel_1]; exact h1, fun t ht h6 => ?_⟩, fun t ht => ?_, fun t s ht hs8 => ?_, fun w hw => ?_, fun k w d hk hw hd => ?_⟩
  · rw [e _ (rel_T h6), e _ (rel_T2 h6)]; exact h2 t ht h6
  · rw [e _ (rel_T ht), e _ (rel_T2 ht), e _ (rel_T3 ht)]; exact hT t ht
  · obtain ⟨a, b, c, d⟩ := rel_S (j := t * 8 + s) (by omega)
    rw [e _ a, e _ b, e _ c, e _ d]; exact hs t s ht hs8
  · obtain ⟨a, b⟩ := rel_W hw
    rw [e _ a, e _ b]; exact hW w hw
  · rw [e _ (rel_L hk hw hd), sumN_congr 48 (g := bterm f' k w d) (g' := bterm f k w d) (fun j hj => bterm_congr hj (e _ (rel_T3 (by omega))) (fun v hv => ?_))]
    · exact hL k w d hk hw hd
    · obtain ⟨a, b, c, d⟩ := rel_S hj
      match v, hv with
      | 0, _ => exact e _ a
      | 1, _ => exact e _ b
      | 2, _ => exact e _ c
      | 3, _ => exact e _ d
/-- a tour's condition alone is another -/
theorem BK_cond {f f' : Nat → Int32} {t : Nat} (ht : t < 6) (hS : Same f f' (fun i => i = 14 + t * 9)) (h : BK f) (hc : CB (f' (14 + t * 9)) (f (14 + t * 9 + 3)) (f (14 + t * 9 + 2))) (h0 : ¬ f (14 + t * 9 + 2) = nI 0) : BK f' := by
  have e : ∀ i, Rel i → i ≠ 14 + t * 9 → f' i = f i := fun i hi hn => hS i hi hn
  obtain ⟨⟨n, hn, h1, h2⟩, hT, hs, hW, hL⟩ := h
  refine ⟨⟨n, hn, by rw [e _ rel_1 (by omega)]; exact h1, fun t' ht' h6 => ?_⟩, fun t' ht' => ?_, fun t' s ht' hs8 => ?_, fun w hw => ?_, fun k w d hk hw hd => ?_⟩
  · by_cases q : t' = t
    · subst q; exact absurd (h2 t' ht' h6).2 h0
    · rw [e _ (rel_T h6) (by omega), e _ (rel_T2 h6) (by omega)]; exact h2 t' ht' h6
  · by_cases q : t' = t
    · subst q; rw [e _ (rel_T2 ht') (by omega), e _ (rel_T3 ht') (by omega)]; exact hc
    · rw [e _ (rel_T ht') (by omega), e _ (rel_T2 ht') (by omega), e _ (rel_T3 ht') (by omega)]; exact hT t' ht'
  · obtain ⟨a, b, c, d⟩ := rel_S (j := t' * 8 + s) (by omega)
    rw [e _ a (by omega), e _ b (by omega), e _ c (by omega), e _ d (by omega)]; exact hs t' s ht' hs8
  · obtain ⟨a, b⟩ := rel_W hw
    rw [e _ a (by omega), e _ b (by omega)]; exact hW w hw
  · rw [e _ (rel_L hk hw hd) (by omega), sumN_congr 48 (g := bterm f' k w d) (g' := bterm f k w d) (fun j hj => bterm_congr hj (e _ (rel_T3 (by omega)) (by omega)) (fun v hv => ?_))]
    · exact hL k w d hk hw hd
    · obtain ⟨a, b, c, d⟩ := rel_S hj
      match v, hv with
      | 0, _ => exact e _ a (by omega)
      | 1, _ => exact e _ b (by omega)
      | 2, _ => exact e _ c (by omega)
      | 3, _ => exact e _ d (by omega)
/-- a step more or less is booked -/
theorem BK_book {f f' : Nat → Int32} {t b b' j kd tw dy : Nat} {x : Int32} (ht : t < 6) (hj : j < 8) (hkd : kd < 3) (htw : tw < 5) (hdy : dy < 20)
    (hS : Same f f' (fun i => i = 14 + t * 9 ∨ i = 14 + t * 9 + 3 ∨ i = 328 + (kd * 5 + tw) * 20 + dy)) (h : BK f) (hc : CB (f' (14 + t * 9)) (f' (14 + t * 9 + 3)) (f (14 + t * 9 + 2))) (h0 : ¬ f (14 + t * 9 + 2) = nI 0)
    (hb : f (14 + t * 9 + 3) = nI b) (hb' : f' (14 + t * 9 + 3) = nI b') (hb8 : b ≤ 8) (hb8' : b' ≤ 8) (hk0 : f (68 + (t * 8 + j) * 5) = nI kd) (hk1 : f (68 + (t * 8 + j) * 5 + 1) = nI tw) (hk2 : f (68 + (t * 8 + j) * 5 + 2) = nI dy)
    (hx : (b = j ∧ b' = j + 1 ∧ f' (328 + (kd * 5 + tw) * 20 + dy) + x = f (328 + (kd * 5 + tw) * 20 + dy) ∧ f (68 + (t * 8 + j) * 5 + 3) = x) ∨ (b = j + 1 ∧ b' = j ∧ f' (328 + (kd * 5 + tw) * 20 + dy) = f (328 + (kd * 5 + tw) * 20 + dy) + x ∧ f (68 + (t * 8 + j) * 5 + 3) = x)) : BK f' := by
  have e : ∀ i, Rel i → i ≠ 14 + t * 9 → i ≠ 14 + t * 9 + 3 → i ≠ 328 + (kd * 5 + tw) * 20 + dy → f' i = f i := fun i hi h1 h2 h3 => hS i hi (fun z => by rcases z with z | z | z <;> omega)
  obtain ⟨⟨n, hn, h1, h2⟩, hT, hs, hW, hL⟩ := h
  have eS : ∀ i v, i < 48 → v < 4 → f' (68 + i * 5 + v) = f (68 + i * 5 + v) := fun i v hi hv => by
    obtain ⟨a, b, c, d⟩ := rel_S hi
    match v, hv with
    | 0, _ => exact e _ a (by omega) (by omega) (by omega)
    | 1, _ => exact e _ b (by omega) (by omega) (by omega)
    | 2, _ => exact e _ c (by omega) (by omega) (by omega)
    | 3, _ => exact e _ d (by omega) (by omega) (by omega)
  refine ⟨⟨n, hn, by rw [e _ rel_1 (by omega) (by omega) (by omega)]; exact h1, fun t' ht' h6 => ?_⟩, fun t' ht' => ?_, fun t' s ht' hs8 => ?_, fun w hw => ?_, fun k w d hk hw hd => ?_⟩
  · by_cases q : t' = t
    · subst q; exact absurd (h2 t' ht' h6).2 h0
    · rw [e _ (rel_T h6) (by omega) (by omega) (by omega), e _ (rel_T2 h6) (by omega) (by omega) (by omega)]; exact h2 t' ht' h6
  · by_cases q : t' = t
    · subst q; rw [e _ (rel_T2 ht') (by omega) (by omega) (by omega)]; exact hc
    · rw [e _ (rel_T ht') (by omega) (by omega) (by omega), e _ (rel_T2 ht') (by omega) (by omega) (by omega), e _ (rel_T3 ht') (by omega) (by omega) (by omega)]; exact hT t' ht'
  · have z0 := eS (t' * 8 + s) 0 (by omega) (by omega)
    rw [show f' (68 + (t' * 8 + s) * 5) = f (68 + (t' * 8 + s) * 5) from z0, eS _ 1 (by omega) (by omega), eS _ 2 (by omega) (by omega), eS _ 3 (by omega) (by omega)]; exact hs t' s ht' hs8
  · obtain ⟨a, b⟩ := rel_W hw
    rw [e _ a (by omega) (by omega) (by omega), e _ b (by omega) (by omega) (by omega)]; exact hW w hw
  · have others : ∀ i, i < 48 → i ≠ t * 8 + j → bterm f' k w d i = bterm f k w d i := by
      intro i hi hne
      by_cases q : i / 8 = t
      · unfold bterm
        rw [show f' (68 + i * 5) = f (68 + i * 5) from eS i 0 hi (by omega), eS i 1 hi (by omega), eS i 2 hi (by omega), eS i 3 hi (by omega), q, hb, hb', nI_clamp (by omega), nI_clamp (by omega)]
        have hm : (i % 8 < b') ↔ (i % 8 < b) := by
          rcases hx with ⟨p1, p2, -⟩ | ⟨p1, p2, -⟩ <;> constructor <;> intro z <;> omega
        simp only [hm]
      · exact bterm_congr hi (e _ (rel_T3 (by omega)) (by omega) (by omega) (by omega)) (fun v hv => eS i v hi hv)
    have me : ∀ g : Nat → Int32, ∀ b9 : Nat, b9 ≤ 8 → g (14 + t * 9 + 3) = nI b9 → (∀ v, v < 4 → g (68 + (t * 8 + j) * 5 + v) = f (68 + (t * 8 + j) * 5 + v)) → bterm g k w d (t * 8 + j) = if j < b9 ∧ nI kd = nI k ∧ nI tw = nI w ∧ nI dy = nI d then f (68 + (t * 8 + j) * 5 + 3) else 0 := by
      intro g b9 h9 hg hv
      unfold bterm
      rw [show (t * 8 + j) / 8 = t by omega, show (t * 8 + j) % 8 = j by omega, hg, nI_clamp (by omega), show g (68 + (t * 8 + j) * 5) = f (68 + (t * 8 + j) * 5) from hv 0 (by omega), hv 1 (by omega), hv 2 (by omega), hv 3 (by omega), hk0, hk1, hk2]
    have m0 := me f b hb8 hb (fun _ _ => rfl)
    have m1 := me f' b' hb8' hb' (fun v hv => eS _ v (by omega) hv)
    have hi48 : t * 8 + j < 48 := by omega
    by_cases q : kd = k ∧ tw = w ∧ dy = d
    · obtain ⟨rfl, rfl, rfl⟩ := q
      have hLk := hL kd tw dy hk hw hd
      rcases hx with ⟨p1, p2, p3, p4⟩ | ⟨p1, p2, p3, p4⟩
      · rw [if_neg (fun z => by omega)] at m0
        rw [if_pos ⟨by omega, rfl, rfl, rfl⟩, p4] at m1
        rw [sumN_one 48 (t * 8 + j) (g := bterm f kd tw dy) x hi48 (by rw [m0, m1, Int32.zero_add]) (fun i hi hne => others i hi hne), ← hLk, ← p3, Int32.add_assoc, Int32.add_comm x]
      · rw [if_pos ⟨by omega, rfl, rfl, rfl⟩, p4] at m0
        rw [if_neg (fun z => by omega)] at m1
        have hs := sumN_one 48 (t * 8 + j) (g := bterm f' kd tw dy) (g' := bterm f kd tw dy) x hi48 (by rw [m0, m1, Int32.zero_add]) (fun i hi hne => (others i hi hne).symm)
        rw [p3, ← hLk, hs, Int32.add_assoc, Int32.add_comm x]
    · have hne : ¬ (nI kd = nI k ∧ nI tw = nI w ∧ nI dy = nI d) := fun z => q ⟨(nI_eq (by omega) (by omega)).mp z.1, (nI_eq (by omega) (by omega)).mp z.2.1, (nI_eq (by omega) (by omega)).mp z.2.2⟩
      rw [if_neg (fun z => hne z.2)] at m0 m1
      have hl : 328 + (k * 5 + w) * 20 + d ≠ 328 + (kd * 5 + tw) * 20 + dy := by
        intro z
        apply q
        omega
      rw [e _ (rel_L hk hw hd) (by omega) (by omega) hl, sumN_congr 48 (g := bterm f' k w d) (g' := bterm f k w d) (fun i hi => ?_)]
      · exact hL k w d hk hw hd
      · by_cases z : i = t * 8 + j
        · rw [z, m0, m1]
        · exact others i hi z
end TSbooks
