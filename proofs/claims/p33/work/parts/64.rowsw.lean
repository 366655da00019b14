/-! ROWS BEHIND CALLS WHERE A StringBuilder OR A FRESH String STANDS BEHIND THE OBJECT. -/
section TSrowsW
theorem i35_C (k : tyK) (ad : Nat → Nat) (σ : TSt) (x : Nat × va_E) : [35].map (fun i => (WT k ad σ ++ [x])[i]?) = [x].map some := by
  obtain ⟨hs, fk, f, f2, f3, f4, jr, jd, nx, kp, g, ln, tp, wd, fi, tw, dy, mn, vl, sg, ml, txt, q, cap, yb⟩ := σ
  rfl
abbrev iM : List Nat := [0, 1, 2, 3, 4, 5, 6, 7, 8, 9, 10, 11, 12, 13, 14, 15, 16, 17, 18, 19, 20, 21, 22, 23, 24, 25, 26, 27, 28, 29, 30, 31, 32, 33, 34, 35, 36]
theorem iM_C (k : tyK) (ad : Nat → Nat) (σ : TSt) (x y : Nat × va_E) : iM.map (fun i => (WT k ad σ ++ [x, y])[i]?) = (WT k ad σ ++ [x, y]).map some := by
  obtain ⟨hs, fk, f, f2, f3, f4, jr, jd, nx, kp, g, ln, tp, wd, fi, tw, dy, mn, vl, sg, ml, txt, q, cap, yb⟩ := σ
  rfl
theorem iM_len (k : tyK) (ad : Nat → Nat) (σ : TSt) (x y : Nat × va_E) : iM.length = (WT k ad σ ++ [x, y]).length := by
  obtain ⟨hs, fk, f, f2, f3, f4, jr, jd, nx, kp, g, ln, tp, wd, fi, tw, dy, mn, vl, sg, ml, txt, q, cap, yb⟩ := σ
  rfl
theorem iM_fs (k : tyK) (ad : Nat → Nat) (σ σ' : TSt) (x y : Nat × va_E) : fs (WT k ad σ ++ [x, y]) iM (WT k ad σ' ++ [x, y]) = WT k ad σ' ++ [x, y] := by
  have h := fs_run (WT k ad σ ++ [x, y]) (WT k ad σ' ++ [x, y]) [] [] ((iM_len k ad σ x y).symm.trans (iM_len k ad σ' x y))
  have e : iM = List.range' ([] : va_W).length (WT k ad σ ++ [x, y]).length := by rw [← iM_len k ad σ x y]; rfl
  rw [← e, List.nil_append, List.nil_append, List.append_nil, List.append_nil] at h
  exact h
theorem iM_nd : va_nd iM = true := by decide
theorem iL_f (k : tyK) (ad : Nat → Nat) (σ : TSt) (wr : va_W) : iL.filterMap (fun i => (WT k ad σ ++ wr)[i]?) = WT k ad σ := by
  obtain ⟨hs, fk, f, f2, f3, f4, jr, jd, nx, kp, g, ln, tp, wd, fi, tw, dy, mn, vl, sg, ml, txt, q, cap, yb⟩ := σ
  rfl
theorem iT_f (k : tyK) (ad : Nat → Nat) (σ : TSt) (x y z w : Nat × va_E) : (iL ++ [37, 38]).filterMap (fun i => (WT k ad σ ++ [x, y, z, w])[i]?) = WT k ad σ ++ [z, w] := by
  obtain ⟨hs, fk, f, f2, f3, f4, jr, jd, nx, kp, g, ln, tp, wd, fi, tw, dy, mn, vl, sg, ml, txt, q, cap, yb⟩ := σ
  rfl
theorem iT_m (k : tyK) (ad : Nat → Nat) (σ : TSt) (x y z w : Nat × va_E) : (iL ++ [37, 38]).map (fun i => (WT k ad σ ++ [x, y, z, w])[i]?) = (WT k ad σ ++ [z, w]).map some := by
  obtain ⟨hs, fk, f, f2, f3, f4, jr, jd, nx, kp, g, ln, tp, wd, fi, tw, dy, mn, vl, sg, ml, txt, q, cap, yb⟩ := σ
  rfl
section
variable {p : Program} {l : Launch} {e : Env} {R : Room} {s : State} {m : MethodId} {args : Array Value} {below : List Frame} {meth : Method} {c : Code} {H : Heap} {locs : List Loc} {cells slots : Nat} {Q : State → Prop} {D : va_G} {k : tyK} {A : Nat → Prop} {pc : Nat} {ls : Array Slot} {rest st0 : List Value} {a0 : Array Value} {mc ms : Nat} {ad : Nat → Nat} {σ : TSt} {sb va cap N : Nat} {ml : Int32} {bt : Nat → Int32}
theorem lc_app {txt : List Int32} {x y : Nat × va_E} {adr : Nat} {post : Nat × Nat × (Nat → Int32) → Prop} (hr : va_Run p l e R s m args below meth c H locs cells slots mc ms (F0 m pc ls st0) rest (va_Qr post (fun u a t => a = adr ∧ va_P D vwCl (sbW k sb ml txt u) t.heap ∧ va_D (va_A [x, y] H.size) (sbW k sb ml txt u)) (va_A [x, y] H.size) a0) (va_A [x, y] H.size)) (hP : va_P D vwCl (WT k ad σ ++ [x, y]) H) (hD : va_D A (WT k ad σ ++ [x, y])) (hS : va_S A s.heap H locs) (hA : ∀ q : Nat, s.heap.size ≤ q → A q) {cells' slots' : Nat} (hcs : cells + mc = cells') (hss : slots + ms = slots')
    (kk : ∀ (va cap : Nat) (bt : Nat → Int32) (H1 : Heap) (locs1 : List Loc), post (va, cap, bt) → va_P D vwCl (WT k ad σ ++ [(sb, .inr (1, [.ref va, .int (0 : Int32), .int ml, .int (nI txt.length)])), (va, .inl (k.2.2.1, cap, .inl bt))]) H1 → va_D A (WT k ad σ ++ [(sb, .inr (1, [.ref va, .int (0 : Int32), .int ml, .int (nI txt.length)])), (va, .inl (k.2.2.1, cap, .inl bt))]) → va_S A s.heap H1 locs1 → W p l e R s m args below meth c H1 locs1 cells' slots' Q (F0 m (pc + 3) ls (.ref adr :: rest))) : W p l e R s m args below meth c H locs cells slots Q (F0 m pc ls st0) :=
  fc_crS (isC := [35, 36]) hr hP hD hS hA (iR_C k ad σ x y) (fun _ => rfl) hcs hss (fun u H1 locs1 hp hP1 hD1 hS1 => by
    obtain ⟨va, cap, bt⟩ := u
    rw [iR_fs] at hP1 hD1
    exact kk va cap bt H1 locs1 hp hP1 hD1 hS1)
theorem lc_ts (hr : va_Run p l e R s m args below meth c H locs cells slots mc ms (F0 m pc ls st0) rest (va_Qr (fun (_ : Nat) => True) (fun u q9 t => va_P D vwCl [(sb, .inr (1, [.ref va, .int (0 : Int32), .int ml, .int (nI N)])), (va, .inl (k.2.2.1, cap, .inl bt)), (q9, .inr (0, [.ref u, .int (0 : Int32), .int (0 : Int32), .int (0 : Int32)])), (u, .inl (k.2.2.1, N, .inl (va_cpy bt (fun _ => 0) 0 0 N)))] t.heap ∧ va_D (va_A [(sb, .inr (1, [.ref va, .int (0 : Int32), .int ml, .int (nI N)])), (va, .inl (k.2.2.1, cap, .inl bt))] H.size) [(sb, .inr (1, [.ref va, .int (0 : Int32), .int ml, .int (nI N)])), (va, .inl (k.2.2.1, cap, .inl bt)), (q9, .inr (0, [.ref u, .int (0 : Int32), .int (0 : Int32), .int (0 : Int32)])), (u, .inl (k.2.2.1, N, .inl (va_cpy bt (fun _ => 0) 0 0 N)))]) (va_A [(sb, .inr (1, [.ref va, .int (0 : Int32), .int ml, .int (nI N)])), (va, .inl (k.2.2.1, cap, .inl bt))] H.size) a0) (va_A [(sb, .inr (1, [.ref va, .int (0 : Int32), .int ml, .int (nI N)])), (va, .inl (k.2.2.1, cap, .inl bt))] H.size)) (hP : va_P D vwCl (WT k ad σ ++ [(sb, .inr (1, [.ref va, .int (0 : Int32), .int ml, .int (nI N)])), (va, .inl (k.2.2.1, cap, .inl bt))]) H) (hD : va_D A (WT k ad σ ++ [(sb, .inr (1, [.ref va, .int (0 : Int32), .int ml, .int (nI N)])), (va, .inl (k.2.2.1, cap, .inl bt))])) (hS : va_S A s.heap H locs) (hA : ∀ q : Nat, s.heap.size ≤ q → A q) {cells' slots' : Nat} (hcs : cells + mc = cells') (hss : slots + ms = slots')
    (kk : ∀ (st u : Nat) (H1 : Heap) (locs1 : List Loc), va_P D vwCl (WT k ad σ ++ sW k st u N (va_cpy bt (fun _ => 0) 0 0 N)) H1 → va_D A (WT k ad σ ++ sW k st u N (va_cpy bt (fun _ => 0) 0 0 N)) → va_S A s.heap H1 locs1 → W p l e R s m args below meth c H1 locs1 cells' slots' Q (F0 m (pc + 3) ls (.ref st :: rest))) : W p l e R s m args below meth c H locs cells slots Q (F0 m pc ls st0) := by
  subst hcs; subst hss
  have hFc := va_free (wc := [(sb, .inr (1, [.ref va, .int (0 : Int32), .int ml, .int (nI N)])), (va, .inl (k.2.2.1, cap, .inl bt))]) hD hS hA [35, 36] (iR_C k ad σ _ _)
  refine va_callr hr hS (fun q _ h => hFc q h) hFc (fun u q t H1 locs1 ht _ _ hB _ hk hS1 => ?_)
  obtain ⟨hP1, hD1⟩ := hB
  rw [ht] at hP1
  obtain ⟨hP2, hD2⟩ := va_join (wr := WT k ad σ) hP hD [35, 36] iL (iR_C k ad σ _ _) (iL_C k ad σ _) iL_nd (by decide) hk hFc hP1 hD1
  exact kk q u H1 locs1 (hP2.sub (iL ++ [37, 38]) (iT_f k ad σ _ _ _ _)) (hD2.sub (iL ++ [37, 38]) (by decide) (iT_m k ad σ _ _ _ _)) hS1
theorem lc_rd {x y : Nat × va_E} {post : Int32 → Abs → Prop} (hr : va_Run p l e R s m args below meth c H locs cells slots mc ms (F0 m pc ls st0) rest (va_Qi (fun r (u : TSt × Abs) => post r u.2 ∧ Rep u.1 u.2) (Bt D (fun u => WT k ad u.1 ++ [x, y]) (va_A (WT k ad σ ++ [x, y]) H.size)) (va_A (WT k ad σ ++ [x, y]) H.size) a0) (va_A (WT k ad σ ++ [x, y]) H.size)) (hP : va_P D vwCl (WT k ad σ ++ [x, y]) H) (hD : va_D A (WT k ad σ ++ [x, y])) (hS : va_S A s.heap H locs) (hA : ∀ q : Nat, s.heap.size ≤ q → A q) {cells' slots' : Nat} (hcs : cells + mc = cells') (hss : slots + ms = slots')
    (kk : ∀ (r : Int32) (σ' : TSt) (a' : Abs) (H1 : Heap) (locs1 : List Loc), post r a' → Rep σ' a' → va_P D vwCl (WT k ad σ' ++ [x, y]) H1 → va_D A (WT k ad σ' ++ [x, y]) → va_S A s.heap H1 locs1 → W p l e R s m args below meth c H1 locs1 cells' slots' Q (F0 m (pc + 3) ls (.int r :: rest))) : W p l e R s m args below meth c H locs cells slots Q (F0 m pc ls st0) :=
  fc_ci (isC := iM) hr hP hD hS hA (iM_C k ad σ x y) (fun u => iM_len k ad u.1 x y) hcs hss (fun r u H1 locs1 hp hP1 hD1 hS1 => by
    rw [iM_fs] at hP1 hD1
    exact kk r u.1 u.2 H1 locs1 hp.1 hp.2 hP1 hD1 hS1)
end
/-- the texts -/
theorem sbD_1 {v : Nat} (h : v < 10) : sbD v = [nI (48 + v)] := if_pos h
theorem tx_ch : ∀ x : Fin 6, ∀ y : Fin 7, ∀ i : Fin 21, ((txA x.val y.val).getD i.val 0 = nI ((txA x.val y.val).getD i.val 0).toNatClampNeg ∧ ((txA x.val y.val).getD i.val 0).toNatClampNeg < 128) ∧ ((txB x.val y.val).getD i.val 0 = nI ((txB x.val y.val).getD i.val 0).toNatClampNeg ∧ ((txB x.val y.val).getD i.val 0).toNatClampNeg < 128) := by decide +kernel
theorem STR_of {L : List Int32} {cap : Nat} {bt : Nat → Int32} (ok : SBok L cap bt) (hc : ∀ i, i < L.length → SBch (L.getD i 0)) : STRok L (va_cpy bt (fun _ => 0) 0 0 L.length) := fun i hi => ⟨by
  show (if 0 ≤ i ∧ i < 0 + L.length then bt (0 + (i - 0)) else 0) = _
  rw [if_pos (by omega), Nat.zero_add, Nat.sub_zero]
  exact ok.2.2.2 i hi, hc i hi⟩
theorem chA {x y : Nat} (hx : x < 6) (hy : y < 7) (i : Nat) (hi : i < (txA x y).length) : SBch ((txA x y).getD i 0) := by
  have hl := (tx_lens ⟨x, hx⟩ ⟨y, hy⟩).1
  dsimp only at hl
  obtain ⟨⟨h1, h2⟩, -⟩ := tx_ch ⟨x, hx⟩ ⟨y, hy⟩ ⟨i, by omega⟩
  exact ⟨_, h2, h1⟩
theorem chB {x y : Nat} (hx : x < 6) (hy : y < 7) (i : Nat) (hi : i < (txB x y).length) : SBch ((txB x y).getD i 0) := by
  have hl := (tx_lens ⟨x, hx⟩ ⟨y, hy⟩).2
  dsimp only at hl
  obtain ⟨-, h1, h2⟩ := tx_ch ⟨x, hx⟩ ⟨y, hy⟩ ⟨i, by omega⟩
  exact ⟨_, h2, h1⟩
theorem cwA {x y : Nat} (hx : x < 6) (hy : y < 4) : ∀ q, q ∈ [((0 : Nat), x), ((8 : Nat), y)] → CW q.1 ∧ q.2 < 10 := by
  intro q hq
  rcases List.mem_cons.mp hq with rfl | hq
  · exact ⟨Or.inl rfl, by show x < 10; omega⟩
  rcases List.mem_cons.mp hq with rfl | hq
  · exact ⟨Or.inr (Or.inr (Or.inr rfl)), by show y < 10; omega⟩
  · cases hq
theorem cwB {x y : Nat} (hx : x < 6) (hy : y < 7) : ∀ q, q ∈ [((6 : Nat), x), ((5 : Nat), y), ((8 : Nat), 1)] → CW q.1 ∧ q.2 < 10 := by
  intro q hq
  rcases List.mem_cons.mp hq with rfl | hq
  · exact ⟨Or.inr (Or.inr (Or.inl rfl)), by show x < 10; omega⟩
  rcases List.mem_cons.mp hq with rfl | hq
  · exact ⟨Or.inr (Or.inl rfl), by show y < 10; omega⟩
  rcases List.mem_cons.mp hq with rfl | hq
  · exact ⟨Or.inr (Or.inr (Or.inr rfl)), by show 1 < 10; omega⟩
  · cases hq
end TSrowsW
