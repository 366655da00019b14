/-! SMALL ROWS that the laid contracts name. -/
section TSsmall
def ChOK (f : Nat → Int32) : Prop := ∀ j : Nat, narrow .char (.int (f j)) = .int (f j)
theorem ChOK.nar {f : Nat → Int32} (h : ChOK f) (j : Nat) : narrow .char (.int (f j)) = .int (f j) := h j
theorem vp_of2 {n : Nat} {i : Int32} (h0 : ¬ i < 0) (h1 : i < Int32.ofNat n) (hn : n < 2 ^ 31) : vp_in i n := vp_of hn h0 (Int32.not_le.mpr h1)
theorem SB_len {j : Nat} (hj : j < 34) : (SB j).length < 2 ^ 31 := by
  have h : ∀ i : Fin 34, (SB i.val).length < 2 ^ 31 := by decide +kernel
  exact h ⟨j, hj⟩
theorem i32_succ {i b : Int32} (h : i < b) : (i + 1).toInt = i.toInt + 1 := by
  have h1 := Int32.lt_iff_toInt_lt.mp h
  have h2 := Int32.toInt_lt b
  have h3 := Int32.le_toInt i
  rw [Int32.toInt_add, show (1 : Int32).toInt = 1 from rfl]
  refine Int.bmod_eq_of_le ?_ ?_ <;> omega
theorem nn_step {i b : Int32} (hc : ¬ b ≤ i) (hi : ¬ i < 0) : ¬ (i + 1) < 0 := by
  have h := i32_succ (Int32.not_le.mp hc)
  rw [Int32.lt_iff_toInt_lt] at hi ⊢
  rw [h]
  have : (0 : Int32).toInt = 0 := rfl
  omega
theorem i32_s60 {i : Int32} (hi : 0 ≤ i.toInt ∧ i.toInt < 60) : (i + 1).toInt = i.toInt + 1 := by
  rw [Int32.toInt_add, show (1 : Int32).toInt = 1 from rfl]
  refine Int.bmod_eq_of_le ?_ ?_ <;> omega
theorem nn_stepD {i : Int32} (hc : ¬ (60 : Int32) ≤ i + 1) (hi : 0 ≤ i.toInt ∧ i.toInt < 60) : 0 ≤ (i + 1).toInt ∧ (i + 1).toInt < 60 := by
  have h := i32_s60 hi
  rw [Int32.le_iff_toInt_le, show (60 : Int32).toInt = 60 from rfl] at hc
  omega
theorem lp_stepD {i : Int32} {n : Nat} (hi : 0 ≤ i.toInt ∧ i.toInt < 60) (hc : ¬ (60 : Int32) ≤ i + 1) (hm : ((60 : Int32).toInt - i.toInt).toNat < n + 1) : ((60 : Int32).toInt - (i + 1).toInt).toNat < n := by
  have h := i32_s60 hi
  rw [show (60 : Int32).toInt = 60 from rfl] at hm ⊢
  omega
end TSsmall
section
/-- a value by a name -/
def letp {α β : Type} (x : α) (f : α → β) : β := f x
theorem letp_eq {α β : Type} (x : α) (f : α → β) : letp x f = f x := rfl
end
section
theorem GE.rcv {D : va_G} {k : tyK} {A : Nat → Prop} {s : State} {H : Heap} {locs : List Loc} (hE : GE D k A s) {j : Nat} (hj : j < 34) (hS : va_S A s.heap H locs) : ∃ cell : Cell, H[kS k j]? = some cell ∧ cell.vm.isStatics = false ∧ s.vm.findClass "java/lang/String" = some cell.cls := vk_recv (adK := fun _ => kS k j) (i := 0) (GE.sx hE hj) (by decide) hS
end
