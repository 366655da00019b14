/-! THE TEXTS OF CHANGES. -/
section TSchg4
/-- "tour x;hours y" -/
def txA (x y : Nat) : List Int32 := SB 26 ++ [nI (48 + x)] ++ SB 27 ++ [nI (48 + y)]
/-- "shut x;back y;hours 1" -/
def txB (x y : Nat) : List Int32 := SB 28 ++ [nI (48 + x)] ++ SB 29 ++ [nI (48 + y)] ++ SB 30
theorem txA_all : ∀ x : Fin 6, ∀ y : Fin 4, ((∀ j, j < (SB 17).length → (txA x.val y.val).getD (0 + j) 0 = (SB 17).getD j 0) ∧ (txA x.val y.val).getD (0 + (SB 17).length) 0 = nI (48 + x.val) ∧ (txA x.val y.val).getD (0 + (SB 17).length + 1) 0 = 59) ∧ ((∀ j, j < (SB 25).length → (txA x.val y.val).getD (0 + (SB 17).length + 2 + j) 0 = (SB 25).getD j 0) ∧ (txA x.val y.val).getD (0 + (SB 17).length + 2 + (SB 25).length) 0 = nI (48 + y.val) ∧ (txA x.val y.val).length = 0 + (SB 17).length + 2 + (SB 25).length + 1 ∧ (txA x.val y.val).getD (txA x.val y.val).length 0 = 0) := by decide +kernel
theorem TXA {x y : Nat} (hx : x < 6) (hy : y < 4) : TX (txA x y).length (fun i => (txA x y).getD i 0) 0 [(0, x), (8, y)] := by
  obtain ⟨⟨a1, a2, a3⟩, b1, b2, b3, b4⟩ := txA_all ⟨x, hx⟩ ⟨y, hy⟩
  exact ⟨Or.inl rfl, by omega, a1, a2, a3, Or.inr (Or.inr (Or.inr rfl)), by omega, b1, b2, b3, b4⟩
theorem txB_all : ∀ x : Fin 6, ∀ y : Fin 7, ((∀ j, j < (SB 23).length → (txB x.val y.val).getD (0 + j) 0 = (SB 23).getD j 0) ∧ (txB x.val y.val).getD (0 + (SB 23).length) 0 = nI (48 + x.val) ∧ (txB x.val y.val).getD (0 + (SB 23).length + 1) 0 = 59) ∧ ((∀ j, j < (SB 22).length → (txB x.val y.val).getD (0 + (SB 23).length + 2 + j) 0 = (SB 22).getD j 0) ∧ (txB x.val y.val).getD (0 + (SB 23).length + 2 + (SB 22).length) 0 = nI (48 + y.val) ∧ (txB x.val y.val).getD (0 + (SB 23).length + 2 + (SB 22).length + 1) 0 = 59) ∧ ((∀ j, j < (SB 25).length → (txB x.val y.val).getD (0 + (SB 23).length + 2 + (SB 22).length + 2 + j) 0 = (SB 25).getD j 0) ∧ (txB x.val y.val).getD (0 + (SB 23).length + 2 + (SB 22).length + 2 + (SB 25).length) 0 = nI (48 + 1) ∧ (txB x.val y.val).length = 0 + (SB 23).length + 2 + (SB 22).length + 2 + (SB 25).length + 1 ∧ (txB x.val y.val).getD (txB x.val y.val).length 0 = 0) := by decide +kernel
theorem TXB {x y : Nat} (hx : x < 6) (hy : y < 7) : TX (txB x y).length (fun i => (txB x y).getD i 0) 0 [(6, x), (5, y), (8, 1)] := by
  obtain ⟨⟨a1, a2, a3⟩, ⟨b1, b2, b3⟩, c1, c2, c3, c4⟩ := txB_all ⟨x, hx⟩ ⟨y, hy⟩
  exact ⟨Or.inr (Or.inr (Or.inl rfl)), by omega, a1, a2, a3, Or.inr (Or.inl rfl), by omega, b1, b2, b3, Or.inr (Or.inr (Or.inr rfl)), by omega, c1, c2, c3, c4⟩
theorem tx_lens : ∀ x : Fin 6, ∀ y : Fin 7, (txA x.val y.val).length = 14 ∧ (txB x.val y.val).length = 21 := by decide +kernel
end TSchg4
