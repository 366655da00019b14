/-! THE BOOKS AT THE BEGINNING. -/
section TSini
def f0 (i : Nat) : Int32 := if i = 7 then 100 else if i < 308 then 0 else if i < 328 then (if i % 4 = 0 then 1 else if i % 4 = 1 then 2 else 0) else if i < 428 then 1 else if i < 528 then 4 else 12
theorem f0_a : ∀ i : Fin 628, F_X0_init (fun _ => 0) i.val = f0 i.val := by decide +kernel
section TSini2
theorem F0_at {i : Nat} (h : i < 628) : F_X0_init (fun _ => 0) i = f0 i := f0_a ⟨i, h⟩
theorem BL_0 : ∀ k : Fin 3, ∀ w : Fin 5, ∀ d : Fin 20, f0 (328 + (k.val * 5 + w.val) * 20 + d.val) = F_X6_mostOf (nI k.val) := by decide +kernel
theorem sum_0 : ∀ (n : Nat) {g : Nat → Int32}, (∀ j, j < n → g j = 0) → sumN n g = 0
  | 0, _, _ => rfl
  | n + 1, g, h => by
    show sumN n g + g n = 0
    rw [sum_0 n (fun j hj => h j (by omega)), h n (by omega)]
    rfl
set_option maxRecDepth 100000 in
theorem BK_0 : BK (F_X0_init (fun _ => 0)) := by
  have hz : ∀ i, i < 308 → i ≠ 7 → F_X0_init (fun _ => 0) i = nI 0 := fun i hi h7 => by
    rw [F0_at (by omega)]
    unfold f0
    rw [if_neg h7, if_pos hi]
    rfl
  have ht : ∀ w : Fin 5, f0 (308 + w.val * 4) = nI 1 ∧ f0 (308 + w.val * 4 + 1) = nI 2 := by decide +kernel
  refine ⟨⟨0, by omega, hz 1 (by omega) (by omega), fun t _ ht => ⟨hz _ (by omega) (by omega), hz _ (by omega) (by omega)⟩⟩, fun t ht => ⟨0, 0, 0, hz _ (by omega) (by omega), hz _ (by omega) (by omega), hz _ (by omega) (by omega), by omega, by omega, by omega, fun _ => rfl, fun z => absurd z (by omega), fun z => absurd z (by omega)⟩, fun t s ht hs => ⟨⟨0, by omega, hz _ (by omega) (by omega)⟩, ⟨0, by omega, hz _ (by omega) (by omega)⟩, ⟨0, by omega, hz _ (by omega) (by omega)⟩, ⟨0, by omega, hz _ (by omega) (by omega)⟩⟩, fun w hw => ?_, fun k w d hk hw hd => ?_⟩
  · obtain ⟨g1, g2⟩ := ht ⟨w, hw⟩
    exact ⟨⟨1, by omega, (F0_at (by omega)).trans g1⟩, 2, by omega, by omega, (F0_at (by omega)).trans g2⟩
  · rw [F0_at (by omega), BL_0 ⟨k, hk⟩ ⟨w, hw⟩ ⟨d, hd⟩, sum_0 48 (fun j hj => by
      unfold bterm
      rw [hz (14 + j / 8 * 9 + 3) (by omega) (by omega), if_neg]
      rw [nI_clamp (by omega)]
      omega), Int32.add_zero]
/-- the fresh object abstractly -/
def a00 : Abs := (F_X0_init (fun _ => 0), [], none, 0, 0, -1, [], [])
theorem MI_of {f : Nat → Int32} (hB : BK f) (h1 : f 1 = nI 0) (h2 : f 324 = nI 1) : MI 0 (f, [], none, 0, 0, -1, [], []) :=
  ⟨⟨⟨hB, fun _ h => absurd h List.not_mem_nil, fun _ h => nomatch h⟩, Nat.zero_le 91, rfl⟩, h1, h2, fun z => absurd z (by omega), fun z => absurd z (by omega)⟩
theorem F0_1 : F_X0_init (fun _ => 0) 1 = nI 0 := (F0_at (i := 1) (by omega)).trans (by decide)
theorem F0_324 : F_X0_init (fun _ => 0) 324 = nI 1 := (F0_at (i := 324) (by omega)).trans (by decide)
theorem MI_0 : MI 0 a00 := by
  unfold a00
  exact MI_of BK_0 F0_1 F0_324
end TSini2
end TSini
