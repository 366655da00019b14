/-! NEW OBJECTS OF THE LAW; THE HISTORY OF REMEMBERED BOOKS. -/
section TSnew
theorem in_law_X6 : ∀ w ∈ wsX60, w ∈ wsL_law := fun _ h => (List.mem_append_left _ (List.mem_append_left _ (List.mem_append_left _ (List.mem_append_left _ (List.mem_append_left _ (List.mem_append_left _ (List.mem_append_left _ (List.mem_append_left _ (List.mem_append_left _ (List.mem_append_left _ (List.mem_append_left _ (List.mem_append_left _ (List.mem_append_left _ (List.mem_append_left _ (List.mem_append_left _ (List.mem_append_left _ (List.mem_append_left _ (List.mem_append_left _ (List.mem_append_left _ (List.mem_append_right _ h))))))))))))))))))))
set_option maxRecDepth 100000 in
set_option maxHeartbeats 4000000 in
theorem lw_new {p : Program} {l : Launch} {e : Env} {s : State} {m : MethodId} {args : Array Value} {below : List Frame} {meth : Method} {c : Code} {D : va_G} {k : tyK} {A : Nat → Prop} {Q : State → Prop} (hx : p.tables.exec = Jvm.exec) (hb : c.code = cL_law) (hml : c.maxLocals = 11) (hts : ∀ w ∈ wsL_law, w.before args s = true) (hown : s.vm.findClass RL = some m.cls) (hA : ∀ q : Nat, s.heap.size ≤ q → A q) (hE : GE D k A s) (hlst : l.stackTraces = false) {H : Heap} {locs : List Loc} {ls : Array Slot} {lv : List (Nat × Value)} {cells slots pc : Nat} (hS : va_S A s.heap H locs) (hl : lv_has ls 11 lv) (hc : cells + 1 + 36 ≤ 600258) (hs0 : slots + 11 + 8300 ≤ 7294185) (d0 : decode cL_law pc = .ok (.new 8, 3)) (d3 : decode cL_law (pc + 3) = .ok (.dup, 1)) (d4 : decode cL_law (pc + 4) = .ok (.invokespecial 257, 3))
    (kk : ∀ (ad : Nat → Nat) (σ : TSt) (H : Heap) (locs : List Loc), Rep σ a00 → va_P D vwCl (WT k ad σ ++ ([] : va_W)) H → va_D A (WT k ad σ ++ ([] : va_W)) → va_S A s.heap H locs → W p l e room_1 s m args below meth c H locs (cells + 37) (slots + 8311) Q (F0 m (pc + 7) ls [.ref (ad 0)])) : W p l e room_1 s m args below meth c H locs cells slots Q (F0 m pc ls []) := by
  have hP : va_P D vwCl [] H := fun j q h => by simp at h
  have hD : va_D A [] := ⟨fun i j p q h => by simp at h, fun j q h => by simp at h⟩
  refine va_new (ci := 10) (fs := [(.null : Value), .null, .null, .null, .null, .null, .null, .int (0 : Int32), .null, .null, .int (0 : Int32)]) (C := RX6) (T := TX6) (N := 11) hx hb hts in_law_X6 tyX6 tyX6_ok hown (hts (.classLink RL 8 RX6) (List.mem_append_left _ (List.mem_append_left _ (List.mem_append_left _ (List.mem_append_left _ (List.mem_append_left _ (List.mem_append_left _ (List.mem_append_left _ (List.mem_append_left _ (List.mem_append_left _ (List.mem_append_left _ (List.mem_append_left _ (List.mem_append_left _ (List.mem_append_left _ (List.mem_append_left _ (List.mem_append_left _ (List.mem_append_left _ (List.mem_append_left _ (List.mem_append_left _ (List.mem_append_left _ (List.mem_append_left _ (List.mem_append_left _ (List.mem_of_getElem? (i := 0) (rfl : wsL_law0_r1[0]? = _)))))))))))))))))))))))) (hts (.instantiable RX6 11) (List.mem_append_left _ (List.mem_append_left _ (List.mem_append_left _ (List.mem_append_left _ (List.mem_append_left _ (List.mem_append_left _ (List.mem_append_left _ (List.mem_append_left _ (List.mem_append_left _ (List.mem_append_left _ (List.mem_append_left _ (List.mem_append_left _ (List.mem_append_left _ (List.mem_append_left _ (List.mem_append_left _ (List.mem_append_left _ (List.mem_append_left _ (List.mem_append_left _ (List.mem_append_left _ (List.mem_append_left _ (List.mem_append_left _ (List.mem_of_getElem? (i := 1) (rfl : wsL_law0_r1[1]? = _)))))))))))))))))))))))) (hts (.initialized RX6) (List.mem_append_left _ (List.mem_append_left _ (List.mem_append_left _ (List.mem_append_left _ (List.mem_append_left _ (List.mem_append_left _ (List.mem_append_left _ (List.mem_append_left _ (List.mem_append_left _ (List.mem_append_left _ (List.mem_append_left _ (List.mem_append_left _ (List.mem_append_left _ (List.mem_append_left _ (List.mem_append_left _ (List.mem_append_left _ (List.mem_append_left _ (List.mem_append_left _ (List.mem_append_left _ (List.mem_append_left _ (List.mem_append_left _ (List.mem_of_getElem? (i := 2) (rfl : wsL_law0_r1[2]? = _)))))))))))))))))))))))) hE.1 hP hD hS hA rfl (fun j hj => by rcases (show j = 0 ∨ j = 1 ∨ j = 2 ∨ j = 3 ∨ j = 4 ∨ j = 5 ∨ j = 6 ∨ j = 7 ∨ j = 8 ∨ j = 9 ∨ j = 10 by omega) with rfl | rfl | rfl | rfl | rfl | rfl | rfl | rfl | rfl | rfl | rfl <;> rfl) (by show cells + 1 ≤ 600258; omega) (by show slots + 11 ≤ 7294185; omega) d0 (fun b H hP hD hS => ?_)
  have hP : va_P D vwCl [(b, .inr (10, [(.null : Value), .null, .null, .null, .null, .null, .null, .int (0 : Int32), .null, .null, .int (0 : Int32)]))] H := hP
  have hD : va_D A [(b, .inr (10, [(.null : Value), .null, .null, .null, .null, .null, .null, .int (0 : Int32), .null, .null, .int (0 : Int32)]))] := hD
  refine lv_dup hx hb d3 rfl ?_
  refine fc_cvN (cells' := cells + 1 + 36) (slots' := slots + 11 + 8300) [0] [] (wr := []) (fc_runI (n := 0) (As := []) (rest := [.ref b]) (isC := [0]) (maxL := 1) ⟨hx, hb, hml, hown, hts⟩ (c_X6_init b H.size) gL_law_X6_init (List.mem_append_left _ (List.mem_append_left _ (List.mem_append_left _ (List.mem_append_left _ (List.mem_append_left _ (List.mem_append_left _ (List.mem_append_left _ (List.mem_append_left _ (List.mem_append_left _ (List.mem_append_left _ (List.mem_append_left _ (List.mem_append_left _ (List.mem_append_left _ (List.mem_append_left _ (List.mem_append_left _ (List.mem_append_left _ (List.mem_append_left _ (List.mem_append_left _ (List.mem_append_left _ (List.mem_append_left _ (List.mem_append_left _ (List.mem_of_getElem? (i := 8) (rfl : wsL_law0_r1[8]? = _))))))))))))))))))))))) (List.mem_append_left _ (List.mem_append_left _ (List.mem_append_left _ (List.mem_append_left _ (List.mem_append_left _ (List.mem_append_left _ (List.mem_append_left _ (List.mem_append_left _ (List.mem_append_left _ (List.mem_append_left _ (List.mem_append_left _ (List.mem_append_left _ (List.mem_append_left _ (List.mem_append_left _ (List.mem_append_left _ (List.mem_append_left _ (List.mem_append_left _ (List.mem_append_left _ (List.mem_append_left _ (List.mem_append_left _ (List.mem_append_left _ (List.mem_of_getElem? (i := 9) (rfl : wsL_law0_r1[9]? = _))))))))))))))))))))))) (List.mem_append_left _ (List.mem_append_left _ (List.mem_append_left _ (List.mem_append_left _ (List.mem_append_left _ (List.mem_append_left _ (List.mem_append_left _ (List.mem_append_left _ (List.mem_append_left _ (List.mem_append_left _ (List.mem_append_left _ (List.mem_append_left _ (List.mem_append_left _ (List.mem_append_left _ (List.mem_append_left _ (List.mem_append_left _ (List.mem_append_left _ (List.mem_append_left _ (List.mem_append_left _ (List.mem_append_left _ (List.mem_append_left _ (List.mem_of_getElem? (i := 2) (rfl : wsL_law0_r1[2]? = _))))))))))))))))))))))) rfl rfl (by decide +kernel) rfl ⟨Nat.le_of_ble_eq_true rfl, Nat.le_of_ble_eq_true rfl⟩ ⟨hc, hs0⟩ hE hP hD hS hA rfl rfl hl rfl (Nat.le_of_ble_eq_true rfl) d4) hP hD hS hA rfl rfl (by decide) (by decide) rfl rfl (fun u H9 locs9 hu hP9 hD9 hS9 => ?_)
  obtain ⟨ad, q⟩ := u
  have hu : ad 0 = b := hu
  subst hu
  refine W.widen (by omega) (by omega) (kk ad (TSt0 q) H9 locs9 (Rep_0 q) ?_ ?_ hS9)
  · rw [List.append_nil]; exact hP9
  · rw [List.append_nil]; exact hD9
/-- what the history holds: the books before each effective change, over the first history -/
def HB (B : Nat → Nat → Int32) (H0 : List (Nat → Int32)) : Nat → List (Nat → Int32)
  | 0 => H0
  | n + 1 => push (B n) (HB B H0 n)
theorem HB_congr {B B' : Nat → Nat → Int32} {H0 : List (Nat → Int32)} : ∀ {n : Nat}, (∀ j, j < n → B j = B' j) → HB B H0 n = HB B' H0 n
  | 0, _ => rfl
  | n + 1, h => by
    show push (B n) (HB B H0 n) = push (B' n) (HB B' H0 n)
    rw [h n (by omega), HB_congr (fun j hj => h j (by omega))]
theorem HB_len {B : Nat → Nat → Int32} {H0 : List (Nat → Int32)} (h8 : H0.length ≤ 8) : ∀ n, (HB B H0 n).length ≤ 8 ∧ (n ≤ (HB B H0 n).length ∨ 8 ≤ (HB B H0 n).length)
  | 0 => ⟨h8, Or.inl (Nat.zero_le _)⟩
  | n + 1 => by
    obtain ⟨h1, h2⟩ := HB_len (B := B) h8 n
    show ((B n :: HB B H0 n).take 8).length ≤ 8 ∧ (n + 1 ≤ ((B n :: HB B H0 n).take 8).length ∨ 8 ≤ ((B n :: HB B H0 n).take 8).length)
    rw [List.length_take, List.length_cons]
    omega
theorem HB_get {B : Nat → Nat → Int32} {H0 : List (Nat → Int32)} : ∀ (n j : Nat), j < n → j < 8 → (HB B H0 n)[j]? = some (B (n - 1 - j))
  | 0, j, h, _ => absurd h (Nat.not_lt_zero j)
  | n + 1, 0, _, _ => rfl
  | n + 1, j + 1, h, h8 => by
    show ((B n :: HB B H0 n).take 8)[j + 1]? = _
    rw [List.getElem?_take, if_pos h8, List.getElem?_cons_succ, HB_get n j (by omega) (by omega)]
    congr 2
    omega
theorem drop_c {α : Type} {L : List α} {j : Nat} {b : α} (h : L[j]? = some b) : L.drop j = b :: L.drop (j + 1) := by
  obtain ⟨h1, h2⟩ := List.getElem?_eq_some_iff.mp h
  rw [List.drop_eq_getElem_cons h1, h2]
end TSnew
