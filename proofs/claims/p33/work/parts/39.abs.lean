/-! THE OBJECT ABSTRACTLY: books, history (newest first), snapshot, reason, detail, fault position, input, line. -/
section TSabs
abbrev Abs : Type := (Nat → Int32) × List (Nat → Int32) × Option (Nat → Int32) × Int32 × Int32 × Int32 × List Int32 × List Int32
/-- the ring holds the history -/
def HRep (nx kp : Int32) (g : Nat → Nat → Int32) (H : List (Nat → Int32)) : Prop := ∃ n : Nat, n < 8 ∧ nx = nI n ∧ kp = nI H.length ∧ H.length ≤ 8 ∧ ∀ j, j < H.length → H[j]? = some (g ((n + 7 - j) % 8))
def Rep : TSt → Abs → Prop
  | (hs, fk, f, f2, f3, f4, jr, jd, nx, kp, g, ln, tp, wd, fi, tw, dy, mn, vl, sg, ml, txt, q, cap, yb), (af, aH, aS, aj, ad, ak, atx, al) =>
    (f = af ∧ jr = aj ∧ jd = ad ∧ fk = ak) ∧ (txt = al ∧ SBok txt cap yb) ∧ (ln = nI atx.length ∧ atx.length ≤ 60 ∧ (∀ i, i < atx.length → sg i = atx.getD i 0) ∧ ChOK sg) ∧ ((aS = none ∧ hs = 0) ∨ (aS = some f4 ∧ hs = 1)) ∧ HRep nx kp g aH
def Good (a : Abs) : Prop := BK a.1 ∧ (∀ b, b ∈ a.2.1 → BK b) ∧ (∀ b, a.2.2.1 = some b → BK b)
theorem HRep.hn {nx kp : Int32} {g : Nat → Nat → Int32} {H : List (Nat → Int32)} (h : HRep nx kp g H) : HN nx := by
  obtain ⟨n, a, b, -⟩ := h
  exact ⟨n, a, b⟩
/-- a change is kept -/
def push (f : Nat → Int32) (H : List (Nat → Int32)) : List (Nat → Int32) := (f :: H).take 8
theorem HRep.push {nx kp : Int32} {g : Nat → Nat → Int32} {H : List (Nat → Int32)} {f : Nat → Int32} (h : HRep nx kp g H) : ∃ g' : Nat → Nat → Int32, HRep (F_X1_keep nx kp g f).1 (F_X1_keep nx kp g f).2.1 g' (push f H) ∧ ∀ i j, j < 628 → (F_X1_keep nx kp g f).2.2 i j = g' i j := by
  obtain ⟨n, h8, rfl, rfl, hl, hH⟩ := h
  refine ⟨fun i => if i = n then f else g i, ⟨(n + 1) % 8, by omega, ?_, ?_, ?_, fun j hj => ?_⟩, fun i j hj => ?_⟩
  · show (if (8 : Int32) ≤ nI n + 1 then (0 : Int32) else nI n + 1) = _
    rw [nI_1]
    by_cases q : n = 7
    · subst q; decide
    · rw [if_neg (show ¬ (8 : Int32) ≤ nI (n + 1) from nI_ge (b := 8) (by omega) (by decide)), Nat.mod_eq_of_lt (by omega)]
  · show (if (8 : Int32) < nI H.length + 1 then (8 : Int32) else nI H.length + 1) = nI ((f :: H).take 8).length
    rw [nI_1, List.length_take, List.length_cons]
    by_cases q : H.length = 8
    · rw [q]; decide
    · rw [if_neg (show ¬ (8 : Int32) < nI (H.length + 1) from nI_nlt (a := 8) (by omega) (by omega)), Nat.min_eq_right (by omega)]
  · show ((f :: H).take 8).length ≤ 8
    rw [List.length_take]; omega
  · have hj' : j < ((f :: H).take 8).length := hj
    rw [List.length_take, List.length_cons] at hj'
    show ((f :: H).take 8)[j]? = _
    rw [List.getElem?_take, if_pos (by omega)]
    match j, hj' with
    | 0, _ =>
      rw [show ((n + 1) % 8 + 7 - 0) % 8 = n by omega]
      simp
    | j + 1, hj' =>
      rw [List.getElem?_cons_succ, hH j (by omega), show ((n + 1) % 8 + 7 - (j + 1)) % 8 = (n + 7 - j) % 8 by omega]
      show some (g ((n + 7 - j) % 8)) = some (if (n + 7 - j) % 8 = n then f else g ((n + 7 - j) % 8))
      rw [if_neg (by omega)]
  · show (if i = (nI n).toNatClampNeg then F_X0_take (g i) f else g i) j = (if i = n then f else g i) j
    rw [nI_clamp (by omega)]
    split
    · exact take_at hj
    · rfl
/-- the latest change is undone -/
theorem HRep.pop {nx kp : Int32} {g : Nat → Nat → Int32} {H : List (Nat → Int32)} {b f : Nat → Int32} (h : HRep nx kp g (b :: H)) : HRep (F_X1_takeBack nx kp g f).1 (F_X1_takeBack nx kp g f).2.1 g H ∧ (∀ j, j < 628 → (F_X1_takeBack nx kp g f).2.2 j = b j) ∧ (F_X1_takeBack nx kp g f).2.1 = nI H.length := by
  obtain ⟨n, h8, rfl, rfl, hl, hH⟩ := h
  rw [List.length_cons] at hl hH
  have hn : (if nI n ≤ (0 : Int32) then (7 : Int32) else nI n - 1) = nI ((n + 7) % 8) := by
    by_cases q : n = 0
    · subst q; decide
    · rw [if_neg (nI_nle (by omega) (by omega))]
      obtain ⟨z, rfl⟩ : ∃ z, n = z + 1 := ⟨n - 1, by omega⟩
      rw [nI_pred]; congr 1; omega
  have hk : (if nI (b :: H).length - 1 < (0 : Int32) then (0 : Int32) else nI (b :: H).length - 1) = nI H.length := by
    rw [List.length_cons, nI_pred, if_neg (nI_pos (by omega))]
  refine ⟨⟨(n + 7) % 8, by omega, hn, hk, by omega, fun j hj => ?_⟩, fun j hj => ?_, hk⟩
  · have := hH (j + 1) (by omega)
    rw [List.getElem?_cons_succ] at this
    rw [this]; congr 2; omega
  · show F_X0_take f (g (if nI n ≤ (0 : Int32) then (7 : Int32) else nI n - 1).toNatClampNeg) j = b j
    rw [hn, nI_clamp (by omega), take_at hj]
    have := hH 0 (by omega)
    rw [show (n + 7 - 0) % 8 = (n + 7) % 8 by omega] at this
    have := Option.some.inj this
    rw [this]
/-- contracts with another world before and behind -/
theorem va_A_adr {W W' : va_W} (h : W.map Prod.fst = W'.map Prod.fst) (sz : Nat) : va_A W sz = va_A W' sz := by
  have key : ∀ (W W' : va_W), W.map Prod.fst = W'.map Prod.fst → ∀ q, va_A W sz q → va_A W' sz q := by
    intro W W' h q hq
    rcases hq with ⟨k, e, hk⟩ | hq
    · have h1 : (W.map Prod.fst)[k]? = some q := by rw [List.getElem?_map, hk]; rfl
      rw [h, List.getElem?_map] at h1
      cases h2 : W'[k]? with
      | none => rw [h2] at h1; cases h1
      | some x => rw [h2] at h1; exact Or.inl ⟨k, x.2, by rw [h2, ← Option.some.inj h1]⟩
    · exact Or.inr hq
  funext q
  exact propext ⟨key W W' h q, key W' W h.symm q⟩
theorem va_D_adr {A : Nat → Prop} {W W' : va_W} (h : W.map Prod.fst = W'.map Prod.fst) (hD : va_D A W) : va_D A W' := by
  have at' : ∀ (i : Nat) (q : Nat × va_E), W'[i]? = some q → ∃ p, W[i]? = some p ∧ p.1 = q.1 := by
    intro i q hq
    have h1 : (W'.map Prod.fst)[i]? = some q.1 := by rw [List.getElem?_map, hq]; rfl
    rw [← h, List.getElem?_map] at h1
    cases h2 : W[i]? with
    | none => rw [h2] at h1; cases h1
    | some x => rw [h2] at h1; exact ⟨x, rfl, Option.some.inj h1⟩
  refine ⟨fun i j p q hp hq e => ?_, fun k q hq => ?_⟩
  · obtain ⟨p', a, b⟩ := at' i p hp
    obtain ⟨q', c, d⟩ := at' j q hq
    exact hD.1 i j p' q' a c (by rw [b, d, e])
  · obtain ⟨p', a, b⟩ := at' k q hq
    exact b ▸ hD.2 k p' a
theorem FCi.conv {S S' : Type} {l : Launch} {y : MethodName} {ws : List Cond} {rm : Room} {D : va_G} {k : tyK} {av : List Value} {W0 W0' : va_W} {post : Int32 → S → Prop} {W1 : S → va_W} {post' : Int32 → S' → Prop} {W1' : S' → va_W} (h : FCi l y ws rm D k av W0' post W1) (ha : W0.map Prod.fst = W0'.map Prod.fst) (hP : ∀ H, va_P D vwCl W0 H → va_P D vwCl W0' H)
    (hQ : ∀ r u, post r u → ∃ u' : S', post' r u' ∧ (∀ H, va_P D vwCl (W1 u) H → va_P D vwCl (W1' u') H) ∧ (W1 u).map Prod.fst = (W1' u').map Prod.fst) : FCi l y ws rm D k av W0 post' W1' := by
  intro sz
  have h1 := h sz
  rw [← va_A_adr ha sz] at h1
  refine MetFree.mono h1 (fun a s hp => ?_) (fun _ _ _ _ _ q => q) (fun a s oc t hp hq => ?_)
  · obtain ⟨h0, h2, h3, h4, h5⟩ := hp
    exact ⟨h0, h2, hP _ h3, by rw [← va_A_adr ha sz]; exact h4, va_D_adr ha h5⟩
  · obtain ⟨⟨⟨r, u, e, hpo, hB⟩, hF⟩, hL⟩ := hq
    obtain ⟨u', q1, q2, q3⟩ := hQ r u hpo
    exact ⟨⟨⟨r, u', e, q1, q2 _ hB.1, va_D_adr q3 hB.2⟩, hF⟩, hL⟩
theorem row_conv {D : va_G} {cl : List vw_C} {a n : Nat} {c : ClassId} {f f' : Nat → Int32} {H : Heap} (e : ∀ j, j < n → f j = f' j) (h : va_at D cl (a, .inl (c, n, .inl f)) H) : va_at D cl (a, .inl (c, n, .inl f')) H := by
  have e2 : vp_cell c (n, .inl f) = vp_cell c (n, .inl f') := by
    rw [vp_cell_i, vp_cell_i]
    exact arrV_ext (fun j hj => by rw [e j hj])
  show H[a]? = some (vp_cell c (n, .inl f'))
  rw [← e2]
  exact h
theorem WT_conv {D : va_G} {k : tyK} {ad : Nat → Nat} {hs : Int32} {fk : Int32} {f : (Nat → Int32)} {f2 : (Nat → Int32)} {f3 : (Nat → Int32)} {f4 : (Nat → Int32)} {jr : Int32} {jd : Int32} {nx : Int32} {kp : Int32} {g : (Nat → Nat → Int32)} {ln : Int32} {tp : Int32} {wd : Int32} {fi : Int32} {tw : Int32} {dy : Int32} {mn : Int32} {vl : Int32} {sg : (Nat → Int32)} {ml : Int32} {txt : List Int32} {q : Nat} {cap : Nat} {yb : (Nat → Int32)} {f' f2' f3' f4' : Nat → Int32} {g' : Nat → Nat → Int32} (hf : ∀ j, j < 628 → f j = f' j) (hf2 : ∀ j, j < 628 → f2 j = f2' j) (hf3 : ∀ j, j < 628 → f3 j = f3' j) (hf4 : ∀ j, j < 628 → f4 j = f4' j) (hg : ∀ i j, j < 628 → g i j = g' i j) : ∀ H, va_P D vwCl (WT k ad (hs, fk, f, f2, f3, f4, jr, jd, nx, kp, g, ln, tp, wd, fi, tw, dy, mn, vl, sg, ml, txt, q, cap, yb)) H → va_P D vwCl (WT k ad (hs, fk, f', f2', f3', f4', jr, jd, nx, kp, g', ln, tp, wd, fi, tw, dy, mn, vl, sg, ml, txt, q, cap, yb)) H := by
  intro H h
  have key : ∀ (j : Nat) (zq : Nat × va_E), (WT k ad (hs, fk, f', f2', f3', f4', jr, jd, nx, kp, g', ln, tp, wd, fi, tw, dy, mn, vl, sg, ml, txt, q, cap, yb))[j]? = some zq → ∃ p, (WT k ad (hs, fk, f, f2, f3, f4, jr, jd, nx, kp, g, ln, tp, wd, fi, tw, dy, mn, vl, sg, ml, txt, q, cap, yb))[j]? = some p ∧ (va_at D vwCl p H → va_at D vwCl zq H) := by
    intro j zq hq
    match j, zq, hq with
    | 0, zq, hq => cases (show some ((ad 0), .inr (10, [.ref (ad 1), .ref (ad 2), .ref (ad 4), .ref (ad 7), .ref (ad 8), .ref (ad 26), .ref (ad 28), .int hs, .ref (ad 30), .ref (ad 32), .int fk])) = some zq from hq); exact ⟨_, rfl, fun h => h⟩
    | 1, zq, hq => cases (show some ((ad 1), .inr (9, [.ref (ad 2)])) = some zq from hq); exact ⟨_, rfl, fun h => h⟩
    | 2, zq, hq => cases (show some ((ad 2), .inr (4, [.ref (ad 3)])) = some zq from hq); exact ⟨_, rfl, fun h => h⟩
    | 3, zq, hq => cases (show some ((ad 3), .inl (k.1, 628, .inl f')) = some zq from hq); exact ⟨((ad 3), .inl (k.1, 628, .inl f)), rfl, fun h => row_conv (hf) h⟩
    | 4, zq, hq => cases (show some ((ad 4), .inr (9, [.ref (ad 5)])) = some zq from hq); exact ⟨_, rfl, fun h => h⟩
    | 5, zq, hq => cases (show some ((ad 5), .inr (4, [.ref (ad 6)])) = some zq from hq); exact ⟨_, rfl, fun h => h⟩
    | 6, zq, hq => cases (show some ((ad 6), .inl (k.1, 628, .inl f2')) = some zq from hq); exact ⟨((ad 6), .inl (k.1, 628, .inl f2)), rfl, fun h => row_conv (hf2) h⟩
    | 7, zq, hq => cases (show some ((ad 7), .inr (6, [.int jr, .int jd])) = some zq from hq); exact ⟨_, rfl, fun h => h⟩
    | 8, zq, hq => cases (show some ((ad 8), .inr (5, [.ref (ad 9), .int nx, .int kp])) = some zq from hq); exact ⟨_, rfl, fun h => h⟩
    | 9, zq, hq => cases (show some ((ad 9), .inl (k.2.2.2.1, 8, .inr (.inr (.inr (.inr (fun i => some (adB ad i))))))) = some zq from hq); exact ⟨_, rfl, fun h => h⟩
    | 10, zq, hq => cases (show some ((adB ad 0), .inr (4, [.ref (adR ad 0)])) = some zq from hq); exact ⟨_, rfl, fun h => h⟩
    | 11, zq, hq => cases (show some ((adR ad 0), .inl (k.1, 628, .inl (g' 0))) = some zq from hq); exact ⟨((adR ad 0), .inl (k.1, 628, .inl (g 0))), rfl, fun h => row_conv (hg 0) h⟩
    | 12, zq, hq => cases (show some ((adB ad 1), .inr (4, [.ref (adR ad 1)])) = some zq from hq); exact ⟨_, rfl, fun h => h⟩
    | 13, zq, hq => cases (show some ((adR ad 1), .inl (k.1, 628, .inl (g' 1))) = some zq from hq); exact ⟨((adR ad 1), .inl (k.1, 628, .inl (g 1))), rfl, fun h => row_conv (hg 1) h⟩
    | 14, zq, hq => cases (show some ((adB ad 2), .inr (4, [.ref (adR ad 2)])) = some zq from hq); exact ⟨_, rfl, fun h => h⟩
    | 15, zq, hq => cases (show some ((adR ad 2), .inl (k.1, 628, .inl (g' 2))) = some zq from hq); exact ⟨((adR ad 2), .inl (k.1, 628, .inl (g 2))), rfl, fun h => row_conv (hg 2) h⟩
    | 16, zq, hq => cases (show some ((adB ad 3), .inr (4, [.ref (adR ad 3)])) = some zq from hq); exact ⟨_, rfl, fun h => h⟩
    | 17, zq, hq => cases (show some ((adR ad 3), .inl (k.1, 628, .inl (g' 3))) = some zq from hq); exact ⟨((adR ad 3), .inl (k.1, 628, .inl (g 3))), rfl, fun h => row_conv (hg 3) h⟩
    | 18, zq, hq => cases (show some ((adB ad 4), .inr (4, [.ref (adR ad 4)])) = some zq from hq); exact ⟨_, rfl, fun h => h⟩
    | 19, zq, hq => cases (show some ((adR ad 4), .inl (k.1, 628, .inl (g' 4))) = some zq from hq); exact ⟨((adR ad 4), .inl (k.1, 628, .inl (g 4))), rfl, fun h => row_conv (hg 4) h⟩
    | 20, zq, hq => cases (show some ((adB ad 5), .inr (4, [.ref (adR ad 5)])) = some zq from hq); exact ⟨_, rfl, fun h => h⟩
    | 21, zq, hq => cases (show some ((adR ad 5), .inl (k.1, 628, .inl (g' 5))) = some zq from hq); exact ⟨((adR ad 5), .inl (k.1, 628, .inl (g 5))), rfl, fun h => row_conv (hg 5) h⟩
    | 22, zq, hq => cases (show some ((adB ad 6), .inr (4, [.ref (adR ad 6)])) = some zq from hq); exact ⟨_, rfl, fun h => h⟩
    | 23, zq, hq => cases (show some ((adR ad 6), .inl (k.1, 628, .inl (g' 6))) = some zq from hq); exact ⟨((adR ad 6), .inl (k.1, 628, .inl (g 6))), rfl, fun h => row_conv (hg 6) h⟩
    | 24, zq, hq => cases (show some ((adB ad 7), .inr (4, [.ref (adR ad 7)])) = some zq from hq); exact ⟨_, rfl, fun h => h⟩
    | 25, zq, hq => cases (show some ((adR ad 7), .inl (k.1, 628, .inl (g' 7))) = some zq from hq); exact ⟨((adR ad 7), .inl (k.1, 628, .inl (g 7))), rfl, fun h => row_conv (hg 7) h⟩
    | 26, zq, hq => cases (show some ((ad 26), .inr (4, [.ref (ad 27)])) = some zq from hq); exact ⟨_, rfl, fun h => h⟩
    | 27, zq, hq => cases (show some ((ad 27), .inl (k.1, 628, .inl f3')) = some zq from hq); exact ⟨((ad 27), .inl (k.1, 628, .inl f3)), rfl, fun h => row_conv (hf3) h⟩
    | 28, zq, hq => cases (show some ((ad 28), .inr (4, [.ref (ad 29)])) = some zq from hq); exact ⟨_, rfl, fun h => h⟩
    | 29, zq, hq => cases (show some ((ad 29), .inl (k.1, 628, .inl f4')) = some zq from hq); exact ⟨((ad 29), .inl (k.1, 628, .inl f4)), rfl, fun h => row_conv (hf4) h⟩
    | 30, zq, hq => cases (show some ((ad 30), .inr (8, [.ref (ad 31), .int ln, .int tp, .int wd, .int fi, .int tw, .int dy, .int mn, .int vl])) = some zq from hq); exact ⟨_, rfl, fun h => h⟩
    | 31, zq, hq => cases (show some ((ad 31), .inl (k.2.1, 60, .inl sg)) = some zq from hq); exact ⟨_, rfl, fun h => h⟩
    | 32, zq, hq => cases (show some ((ad 32), .inr (7, [.ref (ad 33)])) = some zq from hq); exact ⟨_, rfl, fun h => h⟩
    | 33, zq, hq => cases (show some ((ad 33), .inr (1, [.ref q, .int (0 : Int32), .int ml, .int (nI txt.length)])) = some zq from hq); exact ⟨_, rfl, fun h => h⟩
    | 34, zq, hq => cases (show some (q, .inl (k.2.2.1, cap, .inl yb)) = some zq from hq); exact ⟨_, rfl, fun h => h⟩
    | n + 35, zq, hq => exact absurd (show (none : Option (Nat × va_E)) = some zq from hq) (fun z => nomatch z)
  intro j q hq
  obtain ⟨p, h1, h2⟩ := key j q hq
  exact h2 (h j p h1)
/-- a contract of the law's own, in these words -/
def LCi (l : Launch) (y : MethodName) (ws : List Cond) (rm : Room) (D : va_G) (k : tyK) (ad : Nat → Nat) (args : List Value) (a : Abs) (post : Int32 → Abs → Prop) : Prop :=
  ∀ σ, Rep σ a → FCi l y ws rm D k (.ref (ad 0) :: args) (WT k ad σ) (fun r (u : TSt × Abs) => post r u.2 ∧ Rep u.1 u.2) (fun u => WT k ad u.1)
/-- an answer and an object behind a change or a refusal -/
def AMx (a : Abs) (X : Option String) (jr jd : Int32) (x : Int32 × (Nat → Int32)) (tab : List (String × Int32)) : Int32 × Abs := if X = none then (x.1, x.2, push a.1 a.2.1, a.2.2.1, jr, jd, a.2.2.2.2.2) else (xc X 0 tab, a.1, a.2.1, a.2.2.1, jr, jd, a.2.2.2.2.2)
def A_tour (a : Abs) (il : Int32) : Int32 × Abs := AMx a (F_X6_allow (F_X2_planning a.2.2.2.1 a.2.2.2.2.1 a.1 il).1) (F_X2_planning a.2.2.2.1 a.2.2.2.2.1 a.1 il).2.1 (F_X2_planning a.2.2.2.1 a.2.2.2.2.1 a.1 il).2.2 (F_X5_planTour a.1 il) [("java/lang/IllegalArgumentException", (-1001 : Int32)), ("java/lang/UnsupportedOperationException", (-1002 : Int32))]
set_option maxRecDepth 100000 in
set_option maxHeartbeats 2000000 in
theorem LC_tour {l : Launch} {D : va_G} {k : tyK} (hlst : l.stackTraces = false) (ad : Nat → Nat) (a : Abs) (il : Int32) : LCi l yL_tour wsL_tour rm_L_tour D k ad [.int il] a (fun r a' => r = (A_tour a il).1 ∧ a' = (A_tour a il).2) := by
  intro σ hR
  obtain ⟨hs, fk, f, f2, f3, f4, jr, jd, nx, kp, g, ln, tp, wd, fi, tw, dy, mn, vl, sg, ml, txt, q, cap, yb⟩ := σ
  obtain ⟨af, aH, aS, aj, ajd, ak, atx, al⟩ := a
  obtain ⟨⟨rfl, rfl, rfl, rfl⟩, ⟨rfl, hsb⟩, ⟨hln, hl60, hsg, hch⟩, hsn, hH⟩ := hR
  have h := c_L_tour (l := l) (D := D) (k := k) ad hs fk f f2 f3 f4 jr jd nx kp g ln tp wd fi tw dy mn vl sg ml txt q cap yb il hlst hH.hn
  refine FCi.conv h rfl (fun _ h => h) (fun r _ hr => ?_)
  by_cases hX : F_X6_allow (F_X2_planning jr jd f il).1 = none
  · have e : F_X6_tour hs fk f jr jd nx kp g il = (none, (F_X5_planTour f il).1, (F_X5_planTour f il).2, (F_X2_planning jr jd f il).2.1, (F_X2_planning jr jd f il).2.2, (F_X1_keep nx kp g f).1, (F_X1_keep nx kp g f).2.1, (F_X1_keep nx kp g f).2.2) := by
      unfold F_X6_tour
      rw [letp_n, if_pos hX, letp_n, letp_n]
    have eK : K_tour (hs, fk, f, f2, f3, f4, jr, jd, nx, kp, g, ln, tp, wd, fi, tw, dy, mn, vl, sg, ml, txt, q, cap, yb) il = ((F_X5_planTour f il).1, (hs, fk, (F_X5_planTour f il).2, f2, f3, f4, (F_X2_planning jr jd f il).2.1, (F_X2_planning jr jd f il).2.2, (F_X1_keep nx kp g f).1, (F_X1_keep nx kp g f).2.1, (F_X1_keep nx kp g f).2.2, ln, tp, wd, fi, tw, dy, mn, vl, sg, ml, txt, q, cap, yb)) := by
      unfold K_tour
      dsimp only
      rw [e]
      rfl
    have eA : A_tour (f, aH, aS, jr, jd, fk, atx, txt) il = ((F_X5_planTour f il).1, ((F_X5_planTour f il).2, push f aH, aS, (F_X2_planning jr jd f il).2.1, (F_X2_planning jr jd f il).2.2, fk, atx, txt)) := by
      unfold A_tour AMx
      dsimp only
      rw [if_pos hX]
    obtain ⟨g', hg1, hg2⟩ := hH.push (f := f)
    rw [eK] at hr
    refine ⟨((hs, fk, (F_X5_planTour f il).2, f2, f3, f4, (F_X2_planning jr jd f il).2.1, (F_X2_planning jr jd f il).2.2, (F_X1_keep nx kp g f).1, (F_X1_keep nx kp g f).2.1, g', ln, tp, wd, fi, tw, dy, mn, vl, sg, ml, txt, q, cap, yb), (A_tour (f, aH, aS, jr, jd, fk, atx, txt) il).2), ⟨⟨by rw [hr, eA], rfl⟩, ?_⟩, ?_, ?_⟩
    · rw [eA]
      exact ⟨⟨rfl, rfl, rfl, rfl⟩, ⟨rfl, hsb⟩, ⟨hln, hl60, hsg, hch⟩, hsn, hg1⟩
    · rw [eK]
      exact WT_conv (fun _ _ => rfl) (fun _ _ => rfl) (fun _ _ => rfl) (fun _ _ => rfl) hg2
    · rw [eK] <;> rfl
  · have e : F_X6_tour hs fk f jr jd nx kp g il = (F_X6_allow (F_X2_planning jr jd f il).1, 0, f, (F_X2_planning jr jd f il).2.1, (F_X2_planning jr jd f il).2.2, nx, kp, g) := by
      unfold F_X6_tour
      rw [letp_n, if_neg hX]
    have eK : K_tour (hs, fk, f, f2, f3, f4, jr, jd, nx, kp, g, ln, tp, wd, fi, tw, dy, mn, vl, sg, ml, txt, q, cap, yb) il = (xc (F_X6_allow (F_X2_planning jr jd f il).1) 0 [("java/lang/IllegalArgumentException", (-1001 : Int32)), ("java/lang/UnsupportedOperationException", (-1002 : Int32))], (hs, fk, f, f2, f3, f4, (F_X2_planning jr jd f il).2.1, (F_X2_planning jr jd f il).2.2, nx, kp, g, ln, tp, wd, fi, tw, dy, mn, vl, sg, ml, txt, q, cap, yb)) := by
      unfold K_tour
      dsimp only
      rw [e]
    have eA : A_tour (f, aH, aS, jr, jd, fk, atx, txt) il = (xc (F_X6_allow (F_X2_planning jr jd f il).1) 0 [("java/lang/IllegalArgumentException", (-1001 : Int32)), ("java/lang/UnsupportedOperationException", (-1002 : Int32))], (f, aH, aS, (F_X2_planning jr jd f il).2.1, (F_X2_planning jr jd f il).2.2, fk, atx, txt)) := by
      unfold A_tour AMx
      dsimp only
      rw [if_neg hX]
    rw [eK] at hr
    refine ⟨((hs, fk, f, f2, f3, f4, (F_X2_planning jr jd f il).2.1, (F_X2_planning jr jd f il).2.2, nx, kp, g, ln, tp, wd, fi, tw, dy, mn, vl, sg, ml, txt, q, cap, yb), (A_tour (f, aH, aS, jr, jd, fk, atx, txt) il).2), ⟨⟨by rw [hr, eA], rfl⟩, ?_⟩, ?_, ?_⟩
    · rw [eA]
      exact ⟨⟨rfl, rfl, rfl, rfl⟩, ⟨rfl, hsb⟩, ⟨hln, hl60, hsg, hch⟩, hsn, hH⟩
    · rw [eK]; exact fun _ h => h
    · rw [eK] <;> rfl
def A_step (a : Abs) (it : Int32) (ik : Int32) (iw : Int32) (id : Int32) (im : Int32) : Int32 × Abs := AMx a (F_X6_allow (F_X2_giving a.2.2.2.1 a.2.2.2.2.1 a.1 it ik iw id im).1) (F_X2_giving a.2.2.2.1 a.2.2.2.2.1 a.1 it ik iw id im).2.1 (F_X2_giving a.2.2.2.1 a.2.2.2.2.1 a.1 it ik iw id im).2.2 (F_X5_giveStep a.1 it ik iw id im) [("java/lang/IndexOutOfBoundsException", (-1001 : Int32)), ("java/lang/IllegalArgumentException", (-1002 : Int32)), ("java/lang/UnsupportedOperationException", (-1003 : Int32))]
set_option maxRecDepth 100000 in
set_option maxHeartbeats 2000000 in
theorem LC_step {l : Launch} {D : va_G} {k : tyK} (hlst : l.stackTraces = false) (ad : Nat → Nat) (a : Abs) (it : Int32) (ik : Int32) (iw : Int32) (id : Int32) (im : Int32) : LCi l yL_step wsL_step rm_L_step D k ad [.int it, .int ik, .int iw, .int id, .int im] a (fun r a' => r = (A_step a it ik iw id im).1 ∧ a' = (A_step a it ik iw id im).2) := by
  intro σ hR
  obtain ⟨hs, fk, f, f2, f3, f4, jr, jd, nx, kp, g, ln, tp, wd, fi, tw, dy, mn, vl, sg, ml, txt, q, cap, yb⟩ := σ
  obtain ⟨af, aH, aS, aj, ajd, ak, atx, al⟩ := a
  obtain ⟨⟨rfl, rfl, rfl, rfl⟩, ⟨rfl, hsb⟩, ⟨hln, hl60, hsg, hch⟩, hsn, hH⟩ := hR
  have h := c_L_step (l := l) (D := D) (k := k) ad hs fk f f2 f3 f4 jr jd nx kp g ln tp wd fi tw dy mn vl sg ml txt q cap yb it ik iw id im hlst hH.hn
  refine FCi.conv h rfl (fun _ h => h) (fun r _ hr => ?_)
  by_cases hX : F_X6_allow (F_X2_giving jr jd f it ik iw id im).1 = none
  · have e : F_X6_step hs fk f jr jd nx kp g it ik iw id im = (none, (F_X5_giveStep f it ik iw id im).1, (F_X5_giveStep f it ik iw id im).2, (F_X2_giving jr jd f it ik iw id im).2.1, (F_X2_giving jr jd f it ik iw id im).2.2, (F_X1_keep nx kp g f).1, (F_X1_keep nx kp g f).2.1, (F_X1_keep nx kp g f).2.2) := by
      unfold F_X6_step
      rw [letp_n, if_pos hX, letp_n, letp_n]
    have eK : K_step (hs, fk, f, f2, f3, f4, jr, jd, nx, kp, g, ln, tp, wd, fi, tw, dy, mn, vl, sg, ml, txt, q, cap, yb) it ik iw id im = ((F_X5_giveStep f it ik iw id im).1, (hs, fk, (F_X5_giveStep f it ik iw id im).2, f2, f3, f4, (F_X2_giving jr jd f it ik iw id im).2.1, (F_X2_giving jr jd f it ik iw id im).2.2, (F_X1_keep nx kp g f).1, (F_X1_keep nx kp g f).2.1, (F_X1_keep nx kp g f).2.2, ln, tp, wd, fi, tw, dy, mn, vl, sg, ml, txt, q, cap, yb)) := by
      unfold K_step
      dsimp only
      rw [e]
      rfl
    have eA : A_step (f, aH, aS, jr, jd, fk, atx, txt) it ik iw id im = ((F_X5_giveStep f it ik iw id im).1, ((F_X5_giveStep f it ik iw id im).2, push f aH, aS, (F_X2_giving jr jd f it ik iw id im).2.1, (F_X2_giving jr jd f it ik iw id im).2.2, fk, atx, txt)) := by
      unfold A_step AMx
      dsimp only
      rw [if_pos hX]
    obtain ⟨g', hg1, hg2⟩ := hH.push (f := f)
    rw [eK] at hr
    refine ⟨((hs, fk, (F_X5_giveStep f it ik iw id im).2, f2, f3, f4, (F_X2_giving jr jd f it ik iw id im).2.1, (F_X2_giving jr jd f it ik iw id im).2.2, (F_X1_keep nx kp g f).1, (F_X1_keep nx kp g f).2.1, g', ln, tp, wd, fi, tw, dy, mn, vl, sg, ml, txt, q, cap, yb), (A_step (f, aH, aS, jr, jd, fk, atx, txt) it ik iw id im).2), ⟨⟨by rw [hr, eA], rfl⟩, ?_⟩, ?_, ?_⟩
    · rw [eA]
      exact ⟨⟨rfl, rfl, rfl, rfl⟩, ⟨rfl, hsb⟩, ⟨hln, hl60, hsg, hch⟩, hsn, hg1⟩
    · rw [eK]
      exact WT_conv (fun _ _ => rfl) (fun _ _ => rfl) (fun _ _ => rfl) (fun _ _ => rfl) hg2
    · rw [eK] <;> rfl
  · have e : F_X6_step hs fk f jr jd nx kp g it ik iw id im = (F_X6_allow (F_X2_giving jr jd f it ik iw id im).1, 0, f, (F_X2_giving jr jd f it ik iw id im).2.1, (F_X2_giving jr jd f it ik iw id im).2.2, nx, kp, g) := by
      unfold F_X6_step
      rw [letp_n, if_neg hX]
    have eK : K_step (hs, fk, f, f2, f3, f4, jr, jd, nx, kp, g, ln, tp, wd, fi, tw, dy, mn, vl, sg, ml, txt, q, cap, yb) it ik iw id im = (xc (F_X6_allow (F_X2_giving jr jd f it ik iw id im).1) 0 [("java/lang/IndexOutOfBoundsException", (-1001 : Int32)), ("java/lang/IllegalArgumentException", (-1002 : Int32)), ("java/lang/UnsupportedOperationException", (-1003 : Int32))], (hs, fk, f, f2, f3, f4, (F_X2_giving jr jd f it ik iw id im).2.1, (F_X2_giving jr jd f it ik iw id im).2.2, nx, kp, g, ln, tp, wd, fi, tw, dy, mn, vl, sg, ml, txt, q, cap, yb)) := by
      unfold K_step
      dsimp only
      rw [e]
    have eA : A_step (f, aH, aS, jr, jd, fk, atx, txt) it ik iw id im = (xc (F_X6_allow (F_X2_giving jr jd f it ik iw id im).1) 0 [("java/lang/IndexOutOfBoundsException", (-1001 : Int32)), ("java/lang/IllegalArgumentException", (-1002 : Int32)), ("java/lang/UnsupportedOperationException", (-1003 : Int32))], (f, aH, aS, (F_X2_giving jr jd f it ik iw id im).2.1, (F_X2_giving jr jd f it ik iw id im).2.2, fk, atx, txt)) := by
      unfold A_step AMx
      dsimp only
      rw [if_neg hX]
    rw [eK] at hr
    refine ⟨((hs, fk, f, f2, f3, f4, (F_X2_giving jr jd f it ik iw id im).2.1, (F_X2_giving jr jd f it ik iw id im).2.2, nx, kp, g, ln, tp, wd, fi, tw, dy, mn, vl, sg, ml, txt, q, cap, yb), (A_step (f, aH, aS, jr, jd, fk, atx, txt) it ik iw id im).2), ⟨⟨by rw [hr, eA], rfl⟩, ?_⟩, ?_, ?_⟩
    · rw [eA]
      exact ⟨⟨rfl, rfl, rfl, rfl⟩, ⟨rfl, hsb⟩, ⟨hln, hl60, hsg, hch⟩, hsn, hH⟩
    · rw [eK]; exact fun _ h => h
    · rw [eK] <;> rfl
def A_start (a : Abs) (it : Int32) : Int32 × Abs := AMx a (F_X6_allow (F_X2_starting a.2.2.2.1 a.2.2.2.2.1 a.1 it).1) (F_X2_starting a.2.2.2.1 a.2.2.2.2.1 a.1 it).2.1 (F_X2_starting a.2.2.2.1 a.2.2.2.2.1 a.1 it).2.2 (F_X5_startTour a.1 it) [("java/lang/IndexOutOfBoundsException", (-1001 : Int32)), ("java/lang/UnsupportedOperationException", (-1002 : Int32))]
set_option maxRecDepth 100000 in
set_option maxHeartbeats 2000000 in
theorem LC_start {l : Launch} {D : va_G} {k : tyK} (hlst : l.stackTraces = false) (ad : Nat → Nat) (a : Abs) (it : Int32) : LCi l yL_start wsL_start rm_L_start D k ad [.int it] a (fun r a' => r = (A_start a it).1 ∧ a' = (A_start a it).2) := by
  intro σ hR
  obtain ⟨hs, fk, f, f2, f3, f4, jr, jd, nx, kp, g, ln, tp, wd, fi, tw, dy, mn, vl, sg, ml, txt, q, cap, yb⟩ := σ
  obtain ⟨af, aH, aS, aj, ajd, ak, atx, al⟩ := a
  obtain ⟨⟨rfl, rfl, rfl, rfl⟩, ⟨rfl, hsb⟩, ⟨hln, hl60, hsg, hch⟩, hsn, hH⟩ := hR
  have h := c_L_start (l := l) (D := D) (k := k) ad hs fk f f2 f3 f4 jr jd nx kp g ln tp wd fi tw dy mn vl sg ml txt q cap yb it hlst hH.hn
  refine FCi.conv h rfl (fun _ h => h) (fun r _ hr => ?_)
  by_cases hX : F_X6_allow (F_X2_starting jr jd f it).1 = none
  · have e : F_X6_start hs fk f jr jd nx kp g it = (none, (F_X5_startTour f it).1, (F_X5_startTour f it).2, (F_X2_starting jr jd f it).2.1, (F_X2_starting jr jd f it).2.2, (F_X1_keep nx kp g f).1, (F_X1_keep nx kp g f).2.1, (F_X1_keep nx kp g f).2.2) := by
      unfold F_X6_start
      rw [letp_n, if_pos hX, letp_n, letp_n]
    have eK : K_start (hs, fk, f, f2, f3, f4, jr, jd, nx, kp, g, ln, tp, wd, fi, tw, dy, mn, vl, sg, ml, txt, q, cap, yb) it = ((F_X5_startTour f it).1, (hs, fk, (F_X5_startTour f it).2, f2, f3, f4, (F_X2_starting jr jd f it).2.1, (F_X2_starting jr jd f it).2.2, (F_X1_keep nx kp g f).1, (F_X1_keep nx kp g f).2.1, (F_X1_keep nx kp g f).2.2, ln, tp, wd, fi, tw, dy, mn, vl, sg, ml, txt, q, cap, yb)) := by
      unfold K_start
      dsimp only
      rw [e]
      rfl
    have eA : A_start (f, aH, aS, jr, jd, fk, atx, txt) it = ((F_X5_startTour f it).1, ((F_X5_startTour f it).2, push f aH, aS, (F_X2_starting jr jd f it).2.1, (F_X2_starting jr jd f it).2.2, fk, atx, txt)) := by
      unfold A_start AMx
      dsimp only
      rw [if_pos hX]
    obtain ⟨g', hg1, hg2⟩ := hH.push (f := f)
    rw [eK] at hr
    refine ⟨((hs, fk, (F_X5_startTour f it).2, f2, f3, f4, (F_X2_starting jr jd f it).2.1, (F_X2_starting jr jd f it).2.2, (F_X1_keep nx kp g f).1, (F_X1_keep nx kp g f).2.1, g', ln, tp, wd, fi, tw, dy, mn, vl, sg, ml, txt, q, cap, yb), (A_start (f, aH, aS, jr, jd, fk, atx, txt) it).2), ⟨⟨by rw [hr, eA], rfl⟩, ?_⟩, ?_, ?_⟩
    · rw [eA]
      exact ⟨⟨rfl, rfl, rfl, rfl⟩, ⟨rfl, hsb⟩, ⟨hln, hl60, hsg, hch⟩, hsn, hg1⟩
    · rw [eK]
      exact WT_conv (fun _ _ => rfl) (fun _ _ => rfl) (fun _ _ => rfl) (fun _ _ => rfl) hg2
    · rw [eK] <;> rfl
  · have e : F_X6_start hs fk f jr jd nx kp g it = (F_X6_allow (F_X2_starting jr jd f it).1, 0, f, (F_X2_starting jr jd f it).2.1, (F_X2_starting jr jd f it).2.2, nx, kp, g) := by
      unfold F_X6_start
      rw [letp_n, if_neg hX]
    have eK : K_start (hs, fk, f, f2, f3, f4, jr, jd, nx, kp, g, ln, tp, wd, fi, tw, dy, mn, vl, sg, ml, txt, q, cap, yb) it = (xc (F_X6_allow (F_X2_starting jr jd f it).1) 0 [("java/lang/IndexOutOfBoundsException", (-1001 : Int32)), ("java/lang/UnsupportedOperationException", (-1002 : Int32))], (hs, fk, f, f2, f3, f4, (F_X2_starting jr jd f it).2.1, (F_X2_starting jr jd f it).2.2, nx, kp, g, ln, tp, wd, fi, tw, dy, mn, vl, sg, ml, txt, q, cap, yb)) := by
      unfold K_start
      dsimp only
      rw [e]
    have eA : A_start (f, aH, aS, jr, jd, fk, atx, txt) it = (xc (F_X6_allow (F_X2_starting jr jd f it).1) 0 [("java/lang/IndexOutOfBoundsException", (-1001 : Int32)), ("java/lang/UnsupportedOperationException", (-1002 : Int32))], (f, aH, aS, (F_X2_starting jr jd f it).2.1, (F_X2_starting jr jd f it).2.2, fk, atx, txt)) := by
      unfold A_start AMx
      dsimp only
      rw [if_neg hX]
    rw [eK] at hr
    refine ⟨((hs, fk, f, f2, f3, f4, (F_X2_starting jr jd f it).2.1, (F_X2_starting jr jd f it).2.2, nx, kp, g, ln, tp, wd, fi, tw, dy, mn, vl, sg, ml, txt, q, cap, yb), (A_start (f, aH, aS, jr, jd, fk, atx, txt) it).2), ⟨⟨by rw [hr, eA], rfl⟩, ?_⟩, ?_, ?_⟩
    · rw [eA]
      exact ⟨⟨rfl, rfl, rfl, rfl⟩, ⟨rfl, hsb⟩, ⟨hln, hl60, hsg, hch⟩, hsn, hH⟩
    · rw [eK]; exact fun _ h => h
    · rw [eK] <;> rfl
def A_back (a : Abs) (it : Int32) : Int32 × Abs := AMx a (F_X6_allow (F_X2_callingBack a.2.2.2.1 a.2.2.2.2.1 a.1 it).1) (F_X2_callingBack a.2.2.2.1 a.2.2.2.2.1 a.1 it).2.1 (F_X2_callingBack a.2.2.2.1 a.2.2.2.2.1 a.1 it).2.2 (F_X5_callBack a.1 it) [("java/lang/IndexOutOfBoundsException", (-1001 : Int32)), ("java/lang/UnsupportedOperationException", (-1002 : Int32))]
set_option maxRecDepth 100000 in
set_option maxHeartbeats 2000000 in
theorem LC_back {l : Launch} {D : va_G} {k : tyK} (hlst : l.stackTraces = false) (ad : Nat → Nat) (a : Abs) (it : Int32) : LCi l yL_back wsL_back rm_L_back D k ad [.int it] a (fun r a' => r = (A_back a it).1 ∧ a' = (A_back a it).2) := by
  intro σ hR
  obtain ⟨hs, fk, f, f2, f3, f4, jr, jd, nx, kp, g, ln, tp, wd, fi, tw, dy, mn, vl, sg, ml, txt, q, cap, yb⟩ := σ
  obtain ⟨af, aH, aS, aj, ajd, ak, atx, al⟩ := a
  obtain ⟨⟨rfl, rfl, rfl, rfl⟩, ⟨rfl, hsb⟩, ⟨hln, hl60, hsg, hch⟩, hsn, hH⟩ := hR
  have h := c_L_back (l := l) (D := D) (k := k) ad hs fk f f2 f3 f4 jr jd nx kp g ln tp wd fi tw dy mn vl sg ml txt q cap yb it hlst hH.hn
  refine FCi.conv h rfl (fun _ h => h) (fun r _ hr => ?_)
  by_cases hX : F_X6_allow (F_X2_callingBack jr jd f it).1 = none
  · have e : F_X6_back hs fk f jr jd nx kp g it = (none, (F_X5_callBack f it).1, (F_X5_callBack f it).2, (F_X2_callingBack jr jd f it).2.1, (F_X2_callingBack jr jd f it).2.2, (F_X1_keep nx kp g f).1, (F_X1_keep nx kp g f).2.1, (F_X1_keep nx kp g f).2.2) := by
      unfold F_X6_back
      rw [letp_n, if_pos hX, letp_n, letp_n]
    have eK : K_back (hs, fk, f, f2, f3, f4, jr, jd, nx, kp, g, ln, tp, wd, fi, tw, dy, mn, vl, sg, ml, txt, q, cap, yb) it = ((F_X5_callBack f it).1, (hs, fk, (F_X5_callBack f it).2, f2, f3, f4, (F_X2_callingBack jr jd f it).2.1, (F_X2_callingBack jr jd f it).2.2, (F_X1_keep nx kp g f).1, (F_X1_keep nx kp g f).2.1, (F_X1_keep nx kp g f).2.2, ln, tp, wd, fi, tw, dy, mn, vl, sg, ml, txt, q, cap, yb)) := by
      unfold K_back
      dsimp only
      rw [e]
      rfl
    have eA : A_back (f, aH, aS, jr, jd, fk, atx, txt) it = ((F_X5_callBack f it).1, ((F_X5_callBack f it).2, push f aH, aS, (F_X2_callingBack jr jd f it).2.1, (F_X2_callingBack jr jd f it).2.2, fk, atx, txt)) := by
      unfold A_back AMx
      dsimp only
      rw [if_pos hX]
    obtain ⟨g', hg1, hg2⟩ := hH.push (f := f)
    rw [eK] at hr
    refine ⟨((hs, fk, (F_X5_callBack f it).2, f2, f3, f4, (F_X2_callingBack jr jd f it).2.1, (F_X2_callingBack jr jd f it).2.2, (F_X1_keep nx kp g f).1, (F_X1_keep nx kp g f).2.1, g', ln, tp, wd, fi, tw, dy, mn, vl, sg, ml, txt, q, cap, yb), (A_back (f, aH, aS, jr, jd, fk, atx, txt) it).2), ⟨⟨by rw [hr, eA], rfl⟩, ?_⟩, ?_, ?_⟩
    · rw [eA]
      exact ⟨⟨rfl, rfl, rfl, rfl⟩, ⟨rfl, hsb⟩, ⟨hln, hl60, hsg, hch⟩, hsn, hg1⟩
    · rw [eK]
      exact WT_conv (fun _ _ => rfl) (fun _ _ => rfl) (fun _ _ => rfl) (fun _ _ => rfl) hg2
    · rw [eK] <;> rfl
  · have e : F_X6_back hs fk f jr jd nx kp g it = (F_X6_allow (F_X2_callingBack jr jd f it).1, 0, f, (F_X2_callingBack jr jd f it).2.1, (F_X2_callingBack jr jd f it).2.2, nx, kp, g) := by
      unfold F_X6_back
      rw [letp_n, if_neg hX]
    have eK : K_back (hs, fk, f, f2, f3, f4, jr, jd, nx, kp, g, ln, tp, wd, fi, tw, dy, mn, vl, sg, ml, txt, q, cap, yb) it = (xc (F_X6_allow (F_X2_callingBack jr jd f it).1) 0 [("java/lang/IndexOutOfBoundsException", (-1001 : Int32)), ("java/lang/UnsupportedOperationException", (-1002 : Int32))], (hs, fk, f, f2, f3, f4, (F_X2_callingBack jr jd f it).2.1, (F_X2_callingBack jr jd f it).2.2, nx, kp, g, ln, tp, wd, fi, tw, dy, mn, vl, sg, ml, txt, q, cap, yb)) := by
      unfold K_back
      dsimp only
      rw [e]
    have eA : A_back (f, aH, aS, jr, jd, fk, atx, txt) it = (xc (F_X6_allow (F_X2_callingBack jr jd f it).1) 0 [("java/lang/IndexOutOfBoundsException", (-1001 : Int32)), ("java/lang/UnsupportedOperationException", (-1002 : Int32))], (f, aH, aS, (F_X2_callingBack jr jd f it).2.1, (F_X2_callingBack jr jd f it).2.2, fk, atx, txt)) := by
      unfold A_back AMx
      dsimp only
      rw [if_neg hX]
    rw [eK] at hr
    refine ⟨((hs, fk, f, f2, f3, f4, (F_X2_callingBack jr jd f it).2.1, (F_X2_callingBack jr jd f it).2.2, nx, kp, g, ln, tp, wd, fi, tw, dy, mn, vl, sg, ml, txt, q, cap, yb), (A_back (f, aH, aS, jr, jd, fk, atx, txt) it).2), ⟨⟨by rw [hr, eA], rfl⟩, ?_⟩, ?_, ?_⟩
    · rw [eA]
      exact ⟨⟨rfl, rfl, rfl, rfl⟩, ⟨rfl, hsb⟩, ⟨hln, hl60, hsg, hch⟩, hsn, hH⟩
    · rw [eK]; exact fun _ h => h
    · rw [eK] <;> rfl
def A_shut (a : Abs) (iw : Int32) (is : Int32) : Int32 × Abs := AMx a (F_X6_allow (F_X2_shutting a.2.2.2.1 a.2.2.2.2.1 a.1 iw is).1) (F_X2_shutting a.2.2.2.1 a.2.2.2.2.1 a.1 iw is).2.1 (F_X2_shutting a.2.2.2.1 a.2.2.2.2.1 a.1 iw is).2.2 (F_X5_shutTown a.1 iw is) [("java/lang/IndexOutOfBoundsException", (-1001 : Int32)), ("java/lang/UnsupportedOperationException", (-1002 : Int32))]
set_option maxRecDepth 100000 in
set_option maxHeartbeats 2000000 in
theorem LC_shut {l : Launch} {D : va_G} {k : tyK} (hlst : l.stackTraces = false) (ad : Nat → Nat) (a : Abs) (iw : Int32) (is : Int32) : LCi l yL_shut wsL_shut rm_L_shut D k ad [.int iw, .int is] a (fun r a' => r = (A_shut a iw is).1 ∧ a' = (A_shut a iw is).2) := by
  intro σ hR
  obtain ⟨hs, fk, f, f2, f3, f4, jr, jd, nx, kp, g, ln, tp, wd, fi, tw, dy, mn, vl, sg, ml, txt, q, cap, yb⟩ := σ
  obtain ⟨af, aH, aS, aj, ajd, ak, atx, al⟩ := a
  obtain ⟨⟨rfl, rfl, rfl, rfl⟩, ⟨rfl, hsb⟩, ⟨hln, hl60, hsg, hch⟩, hsn, hH⟩ := hR
  have h := c_L_shut (l := l) (D := D) (k := k) ad hs fk f f2 f3 f4 jr jd nx kp g ln tp wd fi tw dy mn vl sg ml txt q cap yb iw is hlst hH.hn
  refine FCi.conv h rfl (fun _ h => h) (fun r _ hr => ?_)
  by_cases hX : F_X6_allow (F_X2_shutting jr jd f iw is).1 = none
  · have e : F_X6_shut hs fk f jr jd nx kp g iw is = (none, (F_X5_shutTown f iw is).1, (F_X5_shutTown f iw is).2, (F_X2_shutting jr jd f iw is).2.1, (F_X2_shutting jr jd f iw is).2.2, (F_X1_keep nx kp g f).1, (F_X1_keep nx kp g f).2.1, (F_X1_keep nx kp g f).2.2) := by
      unfold F_X6_shut
      rw [letp_n, if_pos hX, letp_n, letp_n]
    have eK : K_shut (hs, fk, f, f2, f3, f4, jr, jd, nx, kp, g, ln, tp, wd, fi, tw, dy, mn, vl, sg, ml, txt, q, cap, yb) iw is = ((F_X5_shutTown f iw is).1, (hs, fk, (F_X5_shutTown f iw is).2, f2, f3, f4, (F_X2_shutting jr jd f iw is).2.1, (F_X2_shutting jr jd f iw is).2.2, (F_X1_keep nx kp g f).1, (F_X1_keep nx kp g f).2.1, (F_X1_keep nx kp g f).2.2, ln, tp, wd, fi, tw, dy, mn, vl, sg, ml, txt, q, cap, yb)) := by
      unfold K_shut
      dsimp only
      rw [e]
      rfl
    have eA : A_shut (f, aH, aS, jr, jd, fk, atx, txt) iw is = ((F_X5_shutTown f iw is).1, ((F_X5_shutTown f iw is).2, push f aH, aS, (F_X2_shutting jr jd f iw is).2.1, (F_X2_shutting jr jd f iw is).2.2, fk, atx, txt)) := by
      unfold A_shut AMx
      dsimp only
      rw [if_pos hX]
    obtain ⟨g', hg1, hg2⟩ := hH.push (f := f)
    rw [eK] at hr
    refine ⟨((hs, fk, (F_X5_shutTown f iw is).2, f2, f3, f4, (F_X2_shutting jr jd f iw is).2.1, (F_X2_shutting jr jd f iw is).2.2, (F_X1_keep nx kp g f).1, (F_X1_keep nx kp g f).2.1, g', ln, tp, wd, fi, tw, dy, mn, vl, sg, ml, txt, q, cap, yb), (A_shut (f, aH, aS, jr, jd, fk, atx, txt) iw is).2), ⟨⟨by rw [hr, eA], rfl⟩, ?_⟩, ?_, ?_⟩
    · rw [eA]
      exact ⟨⟨rfl, rfl, rfl, rfl⟩, ⟨rfl, hsb⟩, ⟨hln, hl60, hsg, hch⟩, hsn, hg1⟩
    · rw [eK]
      exact WT_conv (fun _ _ => rfl) (fun _ _ => rfl) (fun _ _ => rfl) (fun _ _ => rfl) hg2
    · rw [eK] <;> rfl
  · have e : F_X6_shut hs fk f jr jd nx kp g iw is = (F_X6_allow (F_X2_shutting jr jd f iw is).1, 0, f, (F_X2_shutting jr jd f iw is).2.1, (F_X2_shutting jr jd f iw is).2.2, nx, kp, g) := by
      unfold F_X6_shut
      rw [letp_n, if_neg hX]
    have eK : K_shut (hs, fk, f, f2, f3, f4, jr, jd, nx, kp, g, ln, tp, wd, fi, tw, dy, mn, vl, sg, ml, txt, q, cap, yb) iw is = (xc (F_X6_allow (F_X2_shutting jr jd f iw is).1) 0 [("java/lang/IndexOutOfBoundsException", (-1001 : Int32)), ("java/lang/UnsupportedOperationException", (-1002 : Int32))], (hs, fk, f, f2, f3, f4, (F_X2_shutting jr jd f iw is).2.1, (F_X2_shutting jr jd f iw is).2.2, nx, kp, g, ln, tp, wd, fi, tw, dy, mn, vl, sg, ml, txt, q, cap, yb)) := by
      unfold K_shut
      dsimp only
      rw [e]
    have eA : A_shut (f, aH, aS, jr, jd, fk, atx, txt) iw is = (xc (F_X6_allow (F_X2_shutting jr jd f iw is).1) 0 [("java/lang/IndexOutOfBoundsException", (-1001 : Int32)), ("java/lang/UnsupportedOperationException", (-1002 : Int32))], (f, aH, aS, (F_X2_shutting jr jd f iw is).2.1, (F_X2_shutting jr jd f iw is).2.2, fk, atx, txt)) := by
      unfold A_shut AMx
      dsimp only
      rw [if_neg hX]
    rw [eK] at hr
    refine ⟨((hs, fk, f, f2, f3, f4, (F_X2_shutting jr jd f iw is).2.1, (F_X2_shutting jr jd f iw is).2.2, nx, kp, g, ln, tp, wd, fi, tw, dy, mn, vl, sg, ml, txt, q, cap, yb), (A_shut (f, aH, aS, jr, jd, fk, atx, txt) iw is).2), ⟨⟨by rw [hr, eA], rfl⟩, ?_⟩, ?_, ?_⟩
    · rw [eA]
      exact ⟨⟨rfl, rfl, rfl, rfl⟩, ⟨rfl, hsb⟩, ⟨hln, hl60, hsg, hch⟩, hsn, hH⟩
    · rw [eK]; exact fun _ h => h
    · rw [eK] <;> rfl
def A_dear (a : Abs) (iw : Int32) (id : Int32) : Int32 × Abs := AMx a (if F_X6_needBelow iw 5 = none then F_X6_needRange id 1 5 else F_X6_needBelow iw 5) a.2.2.2.1 a.2.2.2.2.1 (F_X0_get a.1 (F_X6_ofTown iw 1), F_X0_set a.1 (F_X6_ofTown iw 1) id) [("java/lang/IndexOutOfBoundsException", (-1001 : Int32)), ("java/lang/IllegalArgumentException", (-1002 : Int32))]
set_option maxRecDepth 100000 in
set_option maxHeartbeats 2000000 in
theorem LC_dear {l : Launch} {D : va_G} {k : tyK} (hlst : l.stackTraces = false) (ad : Nat → Nat) (a : Abs) (iw : Int32) (id : Int32) : LCi l yL_dear wsL_dear rm_L_dear D k ad [.int iw, .int id] a (fun r a' => r = (A_dear a iw id).1 ∧ a' = (A_dear a iw id).2) := by
  intro σ hR
  obtain ⟨hs, fk, f, f2, f3, f4, jr, jd, nx, kp, g, ln, tp, wd, fi, tw, dy, mn, vl, sg, ml, txt, q, cap, yb⟩ := σ
  obtain ⟨af, aH, aS, aj, ajd, ak, atx, al⟩ := a
  obtain ⟨⟨rfl, rfl, rfl, rfl⟩, ⟨rfl, hsb⟩, ⟨hln, hl60, hsg, hch⟩, hsn, hH⟩ := hR
  have h := c_L_dear (l := l) (D := D) (k := k) ad hs fk f f2 f3 f4 jr jd nx kp g ln tp wd fi tw dy mn vl sg ml txt q cap yb iw id hlst hH.hn
  refine FCi.conv h rfl (fun _ h => h) (fun r _ hr => ?_)
  by_cases hX : (if F_X6_needBelow iw 5 = none then F_X6_needRange id 1 5 else F_X6_needBelow iw 5) = none
  · have e : F_X6_dear hs fk f nx kp g iw id = (none, (F_X0_get f (F_X6_ofTown iw 1), F_X0_set f (F_X6_ofTown iw 1) id).1, (F_X0_get f (F_X6_ofTown iw 1), F_X0_set f (F_X6_ofTown iw 1) id).2, (F_X1_keep nx kp g f).1, (F_X1_keep nx kp g f).2.1, (F_X1_keep nx kp g f).2.2) := by
      unfold F_X6_dear
      by_cases h1 : F_X6_needBelow iw 5 = none
      · rw [if_pos h1] at hX
        rw [if_pos h1, if_pos hX, letp_n]
      · rw [if_neg h1] at hX; exact absurd hX h1
    have eK : K_dear (hs, fk, f, f2, f3, f4, jr, jd, nx, kp, g, ln, tp, wd, fi, tw, dy, mn, vl, sg, ml, txt, q, cap, yb) iw id = ((F_X0_get f (F_X6_ofTown iw 1), F_X0_set f (F_X6_ofTown iw 1) id).1, (hs, fk, (F_X0_get f (F_X6_ofTown iw 1), F_X0_set f (F_X6_ofTown iw 1) id).2, f2, f3, f4, jr, jd, (F_X1_keep nx kp g f).1, (F_X1_keep nx kp g f).2.1, (F_X1_keep nx kp g f).2.2, ln, tp, wd, fi, tw, dy, mn, vl, sg, ml, txt, q, cap, yb)) := by
      unfold K_dear
      dsimp only
      rw [e]
      rfl
    have eA : A_dear (f, aH, aS, jr, jd, fk, atx, txt) iw id = ((F_X0_get f (F_X6_ofTown iw 1), F_X0_set f (F_X6_ofTown iw 1) id).1, ((F_X0_get f (F_X6_ofTown iw 1), F_X0_set f (F_X6_ofTown iw 1) id).2, push f aH, aS, jr, jd, fk, atx, txt)) := by
      unfold A_dear AMx
      dsimp only
      rw [if_pos hX]
    obtain ⟨g', hg1, hg2⟩ := hH.push (f := f)
    rw [eK] at hr
    refine ⟨((hs, fk, (F_X0_get f (F_X6_ofTown iw 1), F_X0_set f (F_X6_ofTown iw 1) id).2, f2, f3, f4, jr, jd, (F_X1_keep nx kp g f).1, (F_X1_keep nx kp g f).2.1, g', ln, tp, wd, fi, tw, dy, mn, vl, sg, ml, txt, q, cap, yb), (A_dear (f, aH, aS, jr, jd, fk, atx, txt) iw id).2), ⟨⟨by rw [hr, eA], rfl⟩, ?_⟩, ?_, ?_⟩
    · rw [eA]
      exact ⟨⟨rfl, rfl, rfl, rfl⟩, ⟨rfl, hsb⟩, ⟨hln, hl60, hsg, hch⟩, hsn, hg1⟩
    · rw [eK]
      exact WT_conv (fun _ _ => rfl) (fun _ _ => rfl) (fun _ _ => rfl) (fun _ _ => rfl) hg2
    · rw [eK] <;> rfl
  · have e : F_X6_dear hs fk f nx kp g iw id = ((if F_X6_needBelow iw 5 = none then F_X6_needRange id 1 5 else F_X6_needBelow iw 5), 0, f, nx, kp, g) := by
      unfold F_X6_dear
      by_cases h1 : F_X6_needBelow iw 5 = none
      · rw [if_pos h1] at hX ⊢
        rw [if_neg hX, if_pos h1]
      · rw [if_neg h1, if_neg h1]
    have eK : K_dear (hs, fk, f, f2, f3, f4, jr, jd, nx, kp, g, ln, tp, wd, fi, tw, dy, mn, vl, sg, ml, txt, q, cap, yb) iw id = (xc (if F_X6_needBelow iw 5 = none then F_X6_needRange id 1 5 else F_X6_needBelow iw 5) 0 [("java/lang/IndexOutOfBoundsException", (-1001 : Int32)), ("java/lang/IllegalArgumentException", (-1002 : Int32))], (hs, fk, f, f2, f3, f4, jr, jd, nx, kp, g, ln, tp, wd, fi, tw, dy, mn, vl, sg, ml, txt, q, cap, yb)) := by
      unfold K_dear
      dsimp only
      rw [e]
    have eA : A_dear (f, aH, aS, jr, jd, fk, atx, txt) iw id = (xc (if F_X6_needBelow iw 5 = none then F_X6_needRange id 1 5 else F_X6_needBelow iw 5) 0 [("java/lang/IndexOutOfBoundsException", (-1001 : Int32)), ("java/lang/IllegalArgumentException", (-1002 : Int32))], (f, aH, aS, jr, jd, fk, atx, txt)) := by
      unfold A_dear AMx
      dsimp only
      rw [if_neg hX]
    rw [eK] at hr
    refine ⟨((hs, fk, f, f2, f3, f4, jr, jd, nx, kp, g, ln, tp, wd, fi, tw, dy, mn, vl, sg, ml, txt, q, cap, yb), (A_dear (f, aH, aS, jr, jd, fk, atx, txt) iw id).2), ⟨⟨by rw [hr, eA], rfl⟩, ?_⟩, ?_, ?_⟩
    · rw [eA]
      exact ⟨⟨rfl, rfl, rfl, rfl⟩, ⟨rfl, hsb⟩, ⟨hln, hl60, hsg, hch⟩, hsn, hH⟩
    · rw [eK]; exact fun _ h => h
    · rw [eK] <;> rfl
def A_pass (a : Abs) (ih : Int32) : Int32 × Abs := AMx a (F_X6_allow (F_X2_passing a.2.2.2.1 a.2.2.2.2.1 ih)) a.2.2.2.1 a.2.2.2.2.1 (F_X5_passHours a.1 ih) [("java/lang/IllegalArgumentException", (-1001 : Int32))]
set_option maxRecDepth 100000 in
set_option maxHeartbeats 2000000 in
theorem LC_pass {l : Launch} {D : va_G} {k : tyK} (hlst : l.stackTraces = false) (ad : Nat → Nat) (a : Abs) (ih : Int32) : LCi l yL_pass wsL_pass rm_L_pass D k ad [.int ih] a (fun r a' => r = (A_pass a ih).1 ∧ a' = (A_pass a ih).2) := by
  intro σ hR
  obtain ⟨hs, fk, f, f2, f3, f4, jr, jd, nx, kp, g, ln, tp, wd, fi, tw, dy, mn, vl, sg, ml, txt, q, cap, yb⟩ := σ
  obtain ⟨af, aH, aS, aj, ajd, ak, atx, al⟩ := a
  obtain ⟨⟨rfl, rfl, rfl, rfl⟩, ⟨rfl, hsb⟩, ⟨hln, hl60, hsg, hch⟩, hsn, hH⟩ := hR
  have h := c_L_pass (l := l) (D := D) (k := k) ad hs fk f f2 f3 f4 jr jd nx kp g ln tp wd fi tw dy mn vl sg ml txt q cap yb ih hlst hH.hn
  refine FCi.conv h rfl (fun _ h => h) (fun r _ hr => ?_)
  by_cases hX : (F_X6_allow (F_X2_passing jr jd ih)) = none
  · have e : F_X6_pass hs fk f jr jd nx kp g ih = (none, (F_X5_passHours f ih).1, (F_X5_passHours f ih).2, (F_X1_keep nx kp g f).1, (F_X1_keep nx kp g f).2.1, (F_X1_keep nx kp g f).2.2) := by
      unfold F_X6_pass
      rw [if_pos hX, letp_n, letp_n]
    have eK : K_pass (hs, fk, f, f2, f3, f4, jr, jd, nx, kp, g, ln, tp, wd, fi, tw, dy, mn, vl, sg, ml, txt, q, cap, yb) ih = ((F_X5_passHours f ih).1, (hs, fk, (F_X5_passHours f ih).2, f2, f3, f4, jr, jd, (F_X1_keep nx kp g f).1, (F_X1_keep nx kp g f).2.1, (F_X1_keep nx kp g f).2.2, ln, tp, wd, fi, tw, dy, mn, vl, sg, ml, txt, q, cap, yb)) := by
      unfold K_pass
      dsimp only
      rw [e]
      rfl
    have eA : A_pass (f, aH, aS, jr, jd, fk, atx, txt) ih = ((F_X5_passHours f ih).1, ((F_X5_passHours f ih).2, push f aH, aS, jr, jd, fk, atx, txt)) := by
      unfold A_pass AMx
      dsimp only
      rw [if_pos hX]
    obtain ⟨g', hg1, hg2⟩ := hH.push (f := f)
    rw [eK] at hr
    refine ⟨((hs, fk, (F_X5_passHours f ih).2, f2, f3, f4, jr, jd, (F_X1_keep nx kp g f).1, (F_X1_keep nx kp g f).2.1, g', ln, tp, wd, fi, tw, dy, mn, vl, sg, ml, txt, q, cap, yb), (A_pass (f, aH, aS, jr, jd, fk, atx, txt) ih).2), ⟨⟨by rw [hr, eA], rfl⟩, ?_⟩, ?_, ?_⟩
    · rw [eA]
      exact ⟨⟨rfl, rfl, rfl, rfl⟩, ⟨rfl, hsb⟩, ⟨hln, hl60, hsg, hch⟩, hsn, hg1⟩
    · rw [eK]
      exact WT_conv (fun _ _ => rfl) (fun _ _ => rfl) (fun _ _ => rfl) (fun _ _ => rfl) hg2
    · rw [eK] <;> rfl
  · have e : F_X6_pass hs fk f jr jd nx kp g ih = ((F_X6_allow (F_X2_passing jr jd ih)), 0, f, nx, kp, g) := by
      unfold F_X6_pass
      rw [if_neg hX]
    have eK : K_pass (hs, fk, f, f2, f3, f4, jr, jd, nx, kp, g, ln, tp, wd, fi, tw, dy, mn, vl, sg, ml, txt, q, cap, yb) ih = (xc (F_X6_allow (F_X2_passing jr jd ih)) 0 [("java/lang/IllegalArgumentException", (-1001 : Int32))], (hs, fk, f, f2, f3, f4, jr, jd, nx, kp, g, ln, tp, wd, fi, tw, dy, mn, vl, sg, ml, txt, q, cap, yb)) := by
      unfold K_pass
      dsimp only
      rw [e]
    have eA : A_pass (f, aH, aS, jr, jd, fk, atx, txt) ih = (xc (F_X6_allow (F_X2_passing jr jd ih)) 0 [("java/lang/IllegalArgumentException", (-1001 : Int32))], (f, aH, aS, jr, jd, fk, atx, txt)) := by
      unfold A_pass AMx
      dsimp only
      rw [if_neg hX]
    rw [eK] at hr
    refine ⟨((hs, fk, f, f2, f3, f4, jr, jd, nx, kp, g, ln, tp, wd, fi, tw, dy, mn, vl, sg, ml, txt, q, cap, yb), (A_pass (f, aH, aS, jr, jd, fk, atx, txt) ih).2), ⟨⟨by rw [hr, eA], rfl⟩, ?_⟩, ?_, ?_⟩
    · rw [eA]
      exact ⟨⟨rfl, rfl, rfl, rfl⟩, ⟨rfl, hsb⟩, ⟨hln, hl60, hsg, hch⟩, hsn, hH⟩
    · rw [eK]; exact fun _ h => h
    · rw [eK] <;> rfl
def Q_tourOf (f : Nat → Int32) (it : Int32) (iw : Int32) : Int32 := xc (F_X6_tourOf 0 0 f it iw).1 (F_X6_tourOf 0 0 f it iw).2 [("java/lang/IndexOutOfBoundsException", (-1001 : Int32)), ("java/lang/IllegalArgumentException", (-1002 : Int32))]
set_option maxRecDepth 100000 in
set_option maxHeartbeats 2000000 in
theorem LC_tourOf {l : Launch} {D : va_G} {k : tyK} (hlst : l.stackTraces = false) (ad : Nat → Nat) (a : Abs) (it : Int32) (iw : Int32) : LCi l yL_tourOf wsL_tourOf rm_L_tourOf D k ad [.int it, .int iw] a (fun r a' => r = Q_tourOf a.1 it iw ∧ a' = a) := by
  intro σ hR
  obtain ⟨hs, fk, f, f2, f3, f4, jr, jd, nx, kp, g, ln, tp, wd, fi, tw, dy, mn, vl, sg, ml, txt, q, cap, yb⟩ := σ
  obtain ⟨af, aH, aS, aj, ajd, ak, atx, al⟩ := a
  obtain ⟨⟨rfl, rfl, rfl, rfl⟩, ⟨rfl, hsb⟩, ⟨hln, hl60, hsg, hch⟩, hsn, hH⟩ := hR
  have h := c_L_tourOf (l := l) (D := D) (k := k) ad hs fk f f2 f3 f4 jr jd nx kp g ln tp wd fi tw dy mn vl sg ml txt q cap yb it iw hlst
  refine FCi.conv h rfl (fun _ h => h) (fun r _ hr => ?_)
  exact ⟨((hs, fk, f, f2, f3, f4, jr, jd, nx, kp, g, ln, tp, wd, fi, tw, dy, mn, vl, sg, ml, txt, q, cap, yb), (f, aH, aS, jr, jd, fk, atx, txt)), ⟨⟨hr, rfl⟩, ⟨rfl, rfl, rfl, rfl⟩, ⟨rfl, hsb⟩, ⟨hln, hl60, hsg, hch⟩, hsn, hH⟩, fun _ h => h, rfl⟩
def Q_stepOf (f : Nat → Int32) (it : Int32) (is : Int32) (iw : Int32) : Int32 := xc (F_X6_stepOf 0 0 f it is iw).1 (F_X6_stepOf 0 0 f it is iw).2 [("java/lang/IndexOutOfBoundsException", (-1001 : Int32)), ("java/lang/IllegalArgumentException", (-1002 : Int32))]
set_option maxRecDepth 100000 in
set_option maxHeartbeats 2000000 in
theorem LC_stepOf {l : Launch} {D : va_G} {k : tyK} (hlst : l.stackTraces = false) (ad : Nat → Nat) (a : Abs) (it : Int32) (is : Int32) (iw : Int32) : LCi l yL_stepOf wsL_stepOf rm_L_stepOf D k ad [.int it, .int is, .int iw] a (fun r a' => r = Q_stepOf a.1 it is iw ∧ a' = a) := by
  intro σ hR
  obtain ⟨hs, fk, f, f2, f3, f4, jr, jd, nx, kp, g, ln, tp, wd, fi, tw, dy, mn, vl, sg, ml, txt, q, cap, yb⟩ := σ
  obtain ⟨af, aH, aS, aj, ajd, ak, atx, al⟩ := a
  obtain ⟨⟨rfl, rfl, rfl, rfl⟩, ⟨rfl, hsb⟩, ⟨hln, hl60, hsg, hch⟩, hsn, hH⟩ := hR
  have h := c_L_stepOf (l := l) (D := D) (k := k) ad hs fk f f2 f3 f4 jr jd nx kp g ln tp wd fi tw dy mn vl sg ml txt q cap yb it is iw hlst
  refine FCi.conv h rfl (fun _ h => h) (fun r _ hr => ?_)
  exact ⟨((hs, fk, f, f2, f3, f4, jr, jd, nx, kp, g, ln, tp, wd, fi, tw, dy, mn, vl, sg, ml, txt, q, cap, yb), (f, aH, aS, jr, jd, fk, atx, txt)), ⟨⟨hr, rfl⟩, ⟨rfl, rfl, rfl, rfl⟩, ⟨rfl, hsb⟩, ⟨hln, hl60, hsg, hch⟩, hsn, hH⟩, fun _ h => h, rfl⟩
def Q_townOf (f : Nat → Int32) (iw : Int32) (ix : Int32) : Int32 := xc (F_X6_townOf 0 0 f iw ix).1 (F_X6_townOf 0 0 f iw ix).2 [("java/lang/IndexOutOfBoundsException", (-1001 : Int32)), ("java/lang/IllegalArgumentException", (-1002 : Int32))]
set_option maxRecDepth 100000 in
set_option maxHeartbeats 2000000 in
theorem LC_townOf {l : Launch} {D : va_G} {k : tyK} (hlst : l.stackTraces = false) (ad : Nat → Nat) (a : Abs) (iw : Int32) (ix : Int32) : LCi l yL_townOf wsL_townOf rm_L_townOf D k ad [.int iw, .int ix] a (fun r a' => r = Q_townOf a.1 iw ix ∧ a' = a) := by
  intro σ hR
  obtain ⟨hs, fk, f, f2, f3, f4, jr, jd, nx, kp, g, ln, tp, wd, fi, tw, dy, mn, vl, sg, ml, txt, q, cap, yb⟩ := σ
  obtain ⟨af, aH, aS, aj, ajd, ak, atx, al⟩ := a
  obtain ⟨⟨rfl, rfl, rfl, rfl⟩, ⟨rfl, hsb⟩, ⟨hln, hl60, hsg, hch⟩, hsn, hH⟩ := hR
  have h := c_L_townOf (l := l) (D := D) (k := k) ad hs fk f f2 f3 f4 jr jd nx kp g ln tp wd fi tw dy mn vl sg ml txt q cap yb iw ix hlst
  refine FCi.conv h rfl (fun _ h => h) (fun r _ hr => ?_)
  exact ⟨((hs, fk, f, f2, f3, f4, jr, jd, nx, kp, g, ln, tp, wd, fi, tw, dy, mn, vl, sg, ml, txt, q, cap, yb), (f, aH, aS, jr, jd, fk, atx, txt)), ⟨⟨hr, rfl⟩, ⟨rfl, rfl, rfl, rfl⟩, ⟨rfl, hsb⟩, ⟨hln, hl60, hsg, hch⟩, hsn, hH⟩, fun _ h => h, rfl⟩
def Q_left (f : Nat → Int32) (ik : Int32) (iw : Int32) (id : Int32) : Int32 := xc (F_X6_left 0 0 f ik iw id).1 (F_X6_left 0 0 f ik iw id).2 [("java/lang/IndexOutOfBoundsException", (-1001 : Int32))]
set_option maxRecDepth 100000 in
set_option maxHeartbeats 2000000 in
theorem LC_left {l : Launch} {D : va_G} {k : tyK} (hlst : l.stackTraces = false) (ad : Nat → Nat) (a : Abs) (ik : Int32) (iw : Int32) (id : Int32) : LCi l yL_left wsL_left rm_L_left D k ad [.int ik, .int iw, .int id] a (fun r a' => r = Q_left a.1 ik iw id ∧ a' = a) := by
  intro σ hR
  obtain ⟨hs, fk, f, f2, f3, f4, jr, jd, nx, kp, g, ln, tp, wd, fi, tw, dy, mn, vl, sg, ml, txt, q, cap, yb⟩ := σ
  obtain ⟨af, aH, aS, aj, ajd, ak, atx, al⟩ := a
  obtain ⟨⟨rfl, rfl, rfl, rfl⟩, ⟨rfl, hsb⟩, ⟨hln, hl60, hsg, hch⟩, hsn, hH⟩ := hR
  have h := c_L_left (l := l) (D := D) (k := k) ad hs fk f f2 f3 f4 jr jd nx kp g ln tp wd fi tw dy mn vl sg ml txt q cap yb ik iw id hlst
  refine FCi.conv h rfl (fun _ h => h) (fun r _ hr => ?_)
  exact ⟨((hs, fk, f, f2, f3, f4, jr, jd, nx, kp, g, ln, tp, wd, fi, tw, dy, mn, vl, sg, ml, txt, q, cap, yb), (f, aH, aS, jr, jd, fk, atx, txt)), ⟨⟨hr, rfl⟩, ⟨rfl, rfl, rfl, rfl⟩, ⟨rfl, hsb⟩, ⟨hln, hl60, hsg, hch⟩, hsn, hH⟩, fun _ h => h, rfl⟩
def Q_leftAgain (f : Nat → Int32) (ik : Int32) (iw : Int32) (id : Int32) : Int32 := xc (F_X6_leftAgain 0 0 f ik iw id).1 (F_X6_leftAgain 0 0 f ik iw id).2 [("java/lang/IndexOutOfBoundsException", (-1001 : Int32))]
set_option maxRecDepth 100000 in
set_option maxHeartbeats 2000000 in
theorem LC_leftAgain {l : Launch} {D : va_G} {k : tyK} (hlst : l.stackTraces = false) (ad : Nat → Nat) (a : Abs) (ik : Int32) (iw : Int32) (id : Int32) : LCi l yL_leftAgain wsL_leftAgain rm_L_leftAgain D k ad [.int ik, .int iw, .int id] a (fun r a' => r = Q_leftAgain a.1 ik iw id ∧ a' = a) := by
  intro σ hR
  obtain ⟨hs, fk, f, f2, f3, f4, jr, jd, nx, kp, g, ln, tp, wd, fi, tw, dy, mn, vl, sg, ml, txt, q, cap, yb⟩ := σ
  obtain ⟨af, aH, aS, aj, ajd, ak, atx, al⟩ := a
  obtain ⟨⟨rfl, rfl, rfl, rfl⟩, ⟨rfl, hsb⟩, ⟨hln, hl60, hsg, hch⟩, hsn, hH⟩ := hR
  have h := c_L_leftAgain (l := l) (D := D) (k := k) ad hs fk f f2 f3 f4 jr jd nx kp g ln tp wd fi tw dy mn vl sg ml txt q cap yb ik iw id hlst
  refine FCi.conv h rfl (fun _ h => h) (fun r _ hr => ?_)
  exact ⟨((hs, fk, f, f2, f3, f4, jr, jd, nx, kp, g, ln, tp, wd, fi, tw, dy, mn, vl, sg, ml, txt, q, cap, yb), (f, aH, aS, jr, jd, fk, atx, txt)), ⟨⟨hr, rfl⟩, ⟨rfl, rfl, rfl, rfl⟩, ⟨rfl, hsb⟩, ⟨hln, hl60, hsg, hch⟩, hsn, hH⟩, fun _ h => h, rfl⟩
def Q_faultOf (f : Nat → Int32) (it : Int32) : Int32 := xc (F_X6_faultOf 0 0 f it).1 (F_X6_faultOf 0 0 f it).2 [("java/lang/IndexOutOfBoundsException", (-1001 : Int32)), ("java/util/NoSuchElementException", (-1002 : Int32))]
set_option maxRecDepth 100000 in
set_option maxHeartbeats 2000000 in
theorem LC_faultOf {l : Launch} {D : va_G} {k : tyK} (hlst : l.stackTraces = false) (ad : Nat → Nat) (a : Abs) (it : Int32) : LCi l yL_faultOf wsL_faultOf rm_L_faultOf D k ad [.int it] a (fun r a' => r = Q_faultOf a.1 it ∧ a' = a) := by
  intro σ hR
  obtain ⟨hs, fk, f, f2, f3, f4, jr, jd, nx, kp, g, ln, tp, wd, fi, tw, dy, mn, vl, sg, ml, txt, q, cap, yb⟩ := σ
  obtain ⟨af, aH, aS, aj, ajd, ak, atx, al⟩ := a
  obtain ⟨⟨rfl, rfl, rfl, rfl⟩, ⟨rfl, hsb⟩, ⟨hln, hl60, hsg, hch⟩, hsn, hH⟩ := hR
  have h := c_L_faultOf (l := l) (D := D) (k := k) ad hs fk f f2 f3 f4 jr jd nx kp g ln tp wd fi tw dy mn vl sg ml txt q cap yb it hlst
  refine FCi.conv h rfl (fun _ h => h) (fun r _ hr => ?_)
  exact ⟨((hs, fk, f, f2, f3, f4, jr, jd, nx, kp, g, ln, tp, wd, fi, tw, dy, mn, vl, sg, ml, txt, q, cap, yb), (f, aH, aS, jr, jd, fk, atx, txt)), ⟨⟨hr, rfl⟩, ⟨rfl, rfl, rfl, rfl⟩, ⟨rfl, hsb⟩, ⟨hln, hl60, hsg, hch⟩, hsn, hH⟩, fun _ h => h, rfl⟩
def Q_costs (f : Nat → Int32) (it : Int32) : Int32 := xc (F_X6_costs 0 0 f it).1 (F_X6_costs 0 0 f it).2 [("java/lang/IndexOutOfBoundsException", (-1001 : Int32))]
set_option maxRecDepth 100000 in
set_option maxHeartbeats 2000000 in
theorem LC_costs {l : Launch} {D : va_G} {k : tyK} (hlst : l.stackTraces = false) (ad : Nat → Nat) (a : Abs) (it : Int32) : LCi l yL_costs wsL_costs rm_L_costs D k ad [.int it] a (fun r a' => r = Q_costs a.1 it ∧ a' = a) := by
  intro σ hR
  obtain ⟨hs, fk, f, f2, f3, f4, jr, jd, nx, kp, g, ln, tp, wd, fi, tw, dy, mn, vl, sg, ml, txt, q, cap, yb⟩ := σ
  obtain ⟨af, aH, aS, aj, ajd, ak, atx, al⟩ := a
  obtain ⟨⟨rfl, rfl, rfl, rfl⟩, ⟨rfl, hsb⟩, ⟨hln, hl60, hsg, hch⟩, hsn, hH⟩ := hR
  have h := c_L_costs (l := l) (D := D) (k := k) ad hs fk f f2 f3 f4 jr jd nx kp g ln tp wd fi tw dy mn vl sg ml txt q cap yb it hlst
  refine FCi.conv h rfl (fun _ h => h) (fun r _ hr => ?_)
  exact ⟨((hs, fk, f, f2, f3, f4, jr, jd, nx, kp, g, ln, tp, wd, fi, tw, dy, mn, vl, sg, ml, txt, q, cap, yb), (f, aH, aS, jr, jd, fk, atx, txt)), ⟨⟨hr, rfl⟩, ⟨rfl, rfl, rfl, rfl⟩, ⟨rfl, hsb⟩, ⟨hln, hl60, hsg, hch⟩, hsn, hH⟩, fun _ h => h, rfl⟩
def Q_cheapest (f : Nat → Int32) (ik : Int32) (id : Int32) (im : Int32) : Int32 := xc (F_X6_cheapest 0 0 f ik id im).1 (F_X6_cheapest 0 0 f ik id im).2 [("java/lang/IndexOutOfBoundsException", (-1001 : Int32)), ("java/lang/IllegalArgumentException", (-1002 : Int32)), ("java/util/NoSuchElementException", (-1003 : Int32))]
set_option maxRecDepth 100000 in
set_option maxHeartbeats 2000000 in
theorem LC_cheapest {l : Launch} {D : va_G} {k : tyK} (hlst : l.stackTraces = false) (ad : Nat → Nat) (a : Abs) (ik : Int32) (id : Int32) (im : Int32) : LCi l yL_cheapest wsL_cheapest rm_L_cheapest D k ad [.int ik, .int id, .int im] a (fun r a' => r = Q_cheapest a.1 ik id im ∧ a' = a) := by
  intro σ hR
  obtain ⟨hs, fk, f, f2, f3, f4, jr, jd, nx, kp, g, ln, tp, wd, fi, tw, dy, mn, vl, sg, ml, txt, q, cap, yb⟩ := σ
  obtain ⟨af, aH, aS, aj, ajd, ak, atx, al⟩ := a
  obtain ⟨⟨rfl, rfl, rfl, rfl⟩, ⟨rfl, hsb⟩, ⟨hln, hl60, hsg, hch⟩, hsn, hH⟩ := hR
  have h := c_L_cheapest (l := l) (D := D) (k := k) ad hs fk f f2 f3 f4 jr jd nx kp g ln tp wd fi tw dy mn vl sg ml txt q cap yb ik id im hlst
  refine FCi.conv h rfl (fun _ h => h) (fun r _ hr => ?_)
  exact ⟨((hs, fk, f, f2, f3, f4, jr, jd, nx, kp, g, ln, tp, wd, fi, tw, dy, mn, vl, sg, ml, txt, q, cap, yb), (f, aH, aS, jr, jd, fk, atx, txt)), ⟨⟨hr, rfl⟩, ⟨rfl, rfl, rfl, rfl⟩, ⟨rfl, hsb⟩, ⟨hln, hl60, hsg, hch⟩, hsn, hH⟩, fun _ h => h, rfl⟩
def Q_ranked (f : Nat → Int32) (ip : Int32) : Int32 := xc (F_X6_ranked 0 0 f ip).1 (F_X6_ranked 0 0 f ip).2 [("java/util/NoSuchElementException", (-1001 : Int32))]
set_option maxRecDepth 100000 in
set_option maxHeartbeats 2000000 in
theorem LC_ranked {l : Launch} {D : va_G} {k : tyK} (hlst : l.stackTraces = false) (ad : Nat → Nat) (a : Abs) (ip : Int32) : LCi l yL_ranked wsL_ranked rm_L_ranked D k ad [.int ip] a (fun r a' => r = Q_ranked a.1 ip ∧ a' = a) := by
  intro σ hR
  obtain ⟨hs, fk, f, f2, f3, f4, jr, jd, nx, kp, g, ln, tp, wd, fi, tw, dy, mn, vl, sg, ml, txt, q, cap, yb⟩ := σ
  obtain ⟨af, aH, aS, aj, ajd, ak, atx, al⟩ := a
  obtain ⟨⟨rfl, rfl, rfl, rfl⟩, ⟨rfl, hsb⟩, ⟨hln, hl60, hsg, hch⟩, hsn, hH⟩ := hR
  have h := c_L_ranked (l := l) (D := D) (k := k) ad hs fk f f2 f3 f4 jr jd nx kp g ln tp wd fi tw dy mn vl sg ml txt q cap yb ip hlst
  refine FCi.conv h rfl (fun _ h => h) (fun r _ hr => ?_)
  exact ⟨((hs, fk, f, f2, f3, f4, jr, jd, nx, kp, g, ln, tp, wd, fi, tw, dy, mn, vl, sg, ml, txt, q, cap, yb), (f, aH, aS, jr, jd, fk, atx, txt)), ⟨⟨hr, rfl⟩, ⟨rfl, rfl, rfl, rfl⟩, ⟨rfl, hsb⟩, ⟨hln, hl60, hsg, hch⟩, hsn, hH⟩, fun _ h => h, rfl⟩
end TSabs
