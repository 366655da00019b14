/-! THE FRESH OBJECT. -/
section TSini3
theorem Rep_of (f f2 f3 f4 : Nat → Int32) (g : Nat → Nat → Int32) (q : Nat) : Rep (0, -1, f, f2, f3, f4, 0, 0, 0, 0, g, 0, 0, -1, 0, 0, 0, 0, 0, (fun _ => 0), 0, [], q, 16, (fun _ => 0)) (f, [], none, 0, 0, -1, [], []) :=
  ⟨⟨rfl, rfl, rfl, rfl⟩, ⟨rfl, SBok_new⟩, ⟨rfl, Nat.zero_le _, fun i hi => absurd hi (Nat.not_lt_zero i), fun _ => (by decide : narrow .char (.int 0) = .int 0)⟩, Or.inl ⟨rfl, rfl⟩, 0, by omega, rfl, rfl, Nat.zero_le _, fun j hj => absurd hj (Nat.not_lt_zero j)⟩
theorem Rep_0 (q : Nat) : Rep (TSt0 q) a00 := by
  unfold TSt0 a00
  exact Rep_of _ _ _ _ _ q
end TSini3
