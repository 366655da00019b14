/-! THE TEXT: what is read of a text of plain commands. -/
section TStext2
/-- the signs of the input -/
def SG (ln : Int32) (sg : Nat → Int32) (T : Nat → Int32) : Prop := ∀ (tp wd fi tw dy mn vl : Int32) (i : Nat), i < 100000 → F_X4_signAt ln tp wd fi tw dy mn vl sg (nI i) = T i
theorem SG_of {ln : Int32} {sg : Nat → Int32} {tx : List Int32} (h1 : ln = nI tx.length) (h2 : tx.length ≤ 60) (h3 : ∀ i, i < tx.length → sg i = tx.getD i 0) : SG ln sg (fun i => tx.getD i 0) := by
  intro tp wd fi tw dy mn vl i hi
  unfold F_X4_signAt
  rw [if_neg (nI_pos (by omega)), h1]
  by_cases q : tx.length ≤ i
  · rw [if_pos (nI_le q (by omega))]
    simp [q]
  · rw [if_neg (nI_ge (by omega) (by omega)), if_neg (show ¬ (60 : Int32) ≤ nI i from nI_ge (b := 60) (by omega) (by decide)), nI_clamp (by omega)]
    exact h3 i (by omega)
/-- how many letters of a word stand at the beginning -/
def pm : List Int32 → (Nat → Int32) → Nat
  | [], _ => 0
  | c :: w, T => if T 0 = c then pm w (fun i => T (i + 1)) + 1 else 0
theorem pm_agree : ∀ (W : List Int32) (T T' : Nat → Int32), (∀ j, j ≤ pm W T' → j < W.length → T j = T' j) → pm W T = pm W T'
  | [], _, _, _ => rfl
  | c :: w, T, T', h => by
    have h0 := h 0 (Nat.zero_le _) (by simp)
    simp only [pm] at h ⊢
    rw [h0]
    by_cases q : T' 0 = c
    · rw [if_pos q] at h ⊢
      rw [if_pos q, pm_agree w (fun i => T (i + 1)) (fun i => T' (i + 1)) (fun j hj hl => h (j + 1) (by omega) (by simp only [List.length_cons]; omega))]
    · rw [if_neg q, if_neg q]
theorem word_len : ∀ i : Fin 9, F_J0_length_8abf5 (17 + i.val) = nI (SB (17 + i.val)).length := by decide +kernel
theorem word_ch : ∀ i : Fin 9, ∀ x : Fin 7, x.val < (SB (17 + i.val)).length → F_J0_charAt_5068e_k (nI x.val) (17 + i.val) = (SB (17 + i.val)).getD x.val 0 := by decide +kernel
theorem word_l7 : ∀ i : Fin 9, (SB (17 + i.val)).length ≤ 7 := by decide +kernel
theorem word_of : ∀ i : Fin 9, F_X6_wordOf (nI i.val) = 17 + i.val := by decide +kernel
theorem same_loop {ln : Int32} {sg T : Nat → Int32} (hS : SG ln sg T) {i : Nat} (hi : i < 9) (wd fi tw dy mn vl : Int32) (p : Nat) (hp : p < 1000) : ∀ (n x : Nat), x ≤ (SB (17 + i)).length → (SB (17 + i)).length - x < n → FL_X4_sameSigns_2 (17 + i) n ln (nI p) wd fi tw dy mn vl sg (nI x) = nI (x + pm ((SB (17 + i)).drop x) (fun j => T (p + x + j)))
  | 0, _, _, h => absurd h (Nat.not_lt_zero _)
  | n + 1, x, hx, hn => by
    have h7 := word_l7 ⟨i, hi⟩
    have hlen := word_len ⟨i, hi⟩
    dsimp only at h7 hlen
    simp only [FL_X4_sameSigns_2]
    rw [hlen]
    by_cases q : (SB (17 + i)).length ≤ x
    · rw [if_pos (nI_le q (by omega)), List.drop_eq_nil_of_le q]
      show nI (SB (17 + i)).length = nI (x + 0)
      congr 1; omega
    · rw [if_neg (nI_ge (by omega) (by omega)), nI_add, hS _ _ _ _ _ _ _ (p + x) (by omega)]
      have hc := word_ch ⟨i, hi⟩ ⟨x, by omega⟩ (by dsimp only; omega)
      dsimp only at hc
      rw [hc, List.drop_eq_getElem_cons (by omega)]
      have hg : (SB (17 + i)).getD x 0 = (SB (17 + i))[x] := by simp [List.getD, List.getElem?_eq_getElem (show x < (SB (17 + i)).length by omega)]
      rw [hg]
      simp only [pm, Nat.add_zero]
      by_cases z : T (p + x) = (SB (17 + i))[x]
      · rw [if_pos z, if_pos z, nI_1, same_loop hS hi wd fi tw dy mn vl p hp n (x + 1) (by omega) (by omega)]
        congr 1
        have : (fun j => T (p + (x + 1) + j)) = (fun j => T (p + x + (j + 1))) := by funext j; congr 1; omega
        rw [this]; omega
      · rw [if_neg z, if_neg z, Nat.add_zero]
theorem same_eq {ln : Int32} {sg T : Nat → Int32} (hS : SG ln sg T) {i : Nat} (hi : i < 9) (wd fi tw dy mn vl : Int32) {p : Nat} (hp : p < 1000) : F_X4_sameSigns ln (nI p) wd fi tw dy mn vl sg (17 + i) = nI (pm (SB (17 + i)) (fun j => T (p + j))) := by
  have h7 := word_l7 ⟨i, hi⟩
  have hlen := word_len ⟨i, hi⟩
  dsimp only at h7 hlen
  unfold F_X4_sameSigns
  rw [hlen, show ((nI (SB (17 + i)).length).toInt - ((0 : Int32) : Int32).toInt).toNat + 1 = (SB (17 + i)).length + 1 by rw [nI_toInt (by omega), show (0 : Int32).toInt = 0 from rfl]; omega]
  have := same_loop hS hi wd fi tw dy mn vl p hp ((SB (17 + i)).length + 1) 0 (Nat.zero_le _) (by omega)
  rw [show (nI 0) = (0 : Int32) from rfl, Nat.zero_add] at this
  exact this
/-- which word stands there -/
def rdW (T : Nat → Int32) : Nat → Nat → Nat → Option Nat × Nat
  | 0, _, l => (none, l)
  | n + 1, i, l => if 9 ≤ i then (none, l) else if pm (SB (17 + i)) T = (SB (17 + i)).length then (some i, pm (SB (17 + i)) T) else rdW T n (i + 1) (max l (pm (SB (17 + i)) T))
theorem rdW_ge (T : Nat → Int32) : ∀ (n i l z : Nat), (rdW T n i l).1 = some z → i ≤ z
  | 0, _, _, _, h => nomatch h
  | n + 1, i, l, z, h => by
    simp only [rdW] at h
    split at h
    · exact nomatch h
    · split at h
      · exact Nat.le_of_eq (Option.some.inj h)
      · have := rdW_ge T n (i + 1) _ z h
        omega
theorem rdW_agree {T T' : Nat → Int32} {w : Nat} (hw : w ≤ 8) (ha : ∀ i, i ≤ w → ∀ j, j ≤ pm (SB (17 + i)) T' → j < (SB (17 + i)).length → T j = T' j) : ∀ (n i l : Nat), (w = 8 ∨ (rdW T' n i l).1 = some w) → rdW T n i l = rdW T' n i l
  | 0, _, _, _ => rfl
  | n + 1, i, l, h => by
    have hge := rdW_ge T' (n + 1) i l w
    simp only [rdW] at h hge ⊢
    by_cases q : 9 ≤ i
    · rw [if_pos q, if_pos q]
    · rw [if_neg q] at h hge ⊢
      rw [if_neg q]
      have hiw : i ≤ w := by
        rcases h with h | h
        · omega
        · exact hge h
      rw [pm_agree (SB (17 + i)) T T' (ha i hiw)]
      by_cases z : pm (SB (17 + i)) T' = (SB (17 + i)).length
      · rw [if_pos z, if_pos z]
      · rw [if_neg z] at h ⊢
        rw [if_neg z]
        exact rdW_agree hw ha n (i + 1) _ h
theorem pm_le : ∀ (W : List Int32) (T : Nat → Int32), pm W T ≤ W.length
  | [], _ => Nat.le_refl _
  | c :: w, T => by
    simp only [pm]
    split
    · have := pm_le w (fun i => T (i + 1)); simp only [List.length_cons]; omega
    · exact Nat.zero_le _
theorem word_loop {ln : Int32} {sg T : Nat → Int32} (hS : SG ln sg T) (wd fi tw dy mn vl : Int32) (p : Nat) (hp : p < 1000) : ∀ (n i l : Nat), i ≤ 9 → 9 - i < n → l ≤ 7 → FL_X4_readWord_4 n ln (nI p) wd fi tw dy mn vl sg (nI l) (nI i) = (match rdW (fun j => T (p + j)) n i l with | (some z, s) => (1, nI (p + s), nI z) | (none, s) => (0, nI (p + s), wd))
  | 0, _, _, _, h, _ => absurd h (Nat.not_lt_zero _)
  | n + 1, i, l, hi, hn, hl => by
    simp only [FL_X4_readWord_4, rdW]
    by_cases q : 9 ≤ i
    · rw [if_pos (show (9 : Int32) ≤ nI i from nI_le (a := 9) q (by omega)), if_pos q, nI_add]
    · have hi9 : i < 9 := by omega
      have hwo := word_of ⟨i, hi9⟩
      have hlen := word_len ⟨i, hi9⟩
      have h7 := word_l7 ⟨i, hi9⟩
      dsimp only at hwo hlen h7
      have hpm := pm_le (SB (17 + i)) (fun j => T (p + j))
      rw [if_neg (show ¬ (9 : Int32) ≤ nI i from nI_ge (b := 9) (by omega) (by decide)), if_neg q, hwo, same_eq hS hi9 wd fi tw dy mn vl hp, hlen]
      by_cases z : pm (SB (17 + i)) (fun j => T (p + j)) = (SB (17 + i)).length
      · rw [if_pos (by rw [z]), if_pos z, nI_add]
      · rw [if_neg (fun y => z ((nI_eq (by omega) (by omega)).mp y)), if_neg z, nI_1]
        have hmax : (if nI l < nI (pm (SB (17 + i)) (fun j => T (p + j))) then nI (pm (SB (17 + i)) (fun j => T (p + j))) else nI l) = nI (max l (pm (SB (17 + i)) (fun j => T (p + j)))) := by
          by_cases y : l < pm (SB (17 + i)) (fun j => T (p + j))
          · rw [if_pos (nI_lt y (by omega)), Nat.max_eq_right (by omega)]
          · rw [if_neg (nI_nlt (by omega) (by omega)), Nat.max_eq_left (by omega)]
        rw [hmax]
        exact word_loop hS wd fi tw dy mn vl p hp n (i + 1) _ (by omega) (by omega) (by omega)
theorem word_eq {ln : Int32} {sg T : Nat → Int32} (hS : SG ln sg T) (wd fi tw dy mn vl : Int32) {p : Nat} (hp : p < 1000) : F_X4_readWord ln (nI p) wd fi tw dy mn vl sg = (match rdW (fun j => T (p + j)) 10 0 0 with | (some z, s) => (1, nI (p + s), nI z) | (none, s) => (0, nI (p + s), wd)) :=
  word_loop hS wd fi tw dy mn vl p hp 10 0 0 (by omega) (by omega) (by omega)
theorem sign_eq {ln : Int32} {sg T : Nat → Int32} (hS : SG ln sg T) (wd fi tw dy mn vl c : Int32) {p : Nat} (hp : p < 1000) : F_X4_readSign ln (nI p) wd fi tw dy mn vl sg c = if T p = c then (1, nI (p + 1)) else (0, nI p) := by
  unfold F_X4_readSign
  rw [hS _ _ _ _ _ _ _ p (by omega), nI_1]
theorem digit_eq {ln : Int32} {sg T : Nat → Int32} (hS : SG ln sg T) (wd fi tw dy mn vl : Int32) {p v : Nat} (hp : p < 1000) (hv : v < 10) (h : T p = nI (48 + v)) : F_X4_readDigit ln (nI p) wd fi tw dy mn vl sg = (1, nI (p + 1), nI v) := by
  unfold F_X4_readDigit
  rw [hS _ _ _ _ _ _ _ p (by omega), h]
  have hd : F_X4_isDigit (nI (48 + v)) = 1 := by
    unfold F_X4_isDigit
    rw [if_neg (show ¬ nI (48 + v) < (48 : Int32) from nI_nlt (a := 48 + v) (b := 48) (by omega) (by omega)), if_neg (show ¬ (57 : Int32) < nI (48 + v) from nI_nlt (a := 57) (b := 48 + v) (by omega) (by omega))]
  rw [hd, if_neg (by decide), nI_1, show nI (48 + v) - (48 : Int32) = nI v from (pk_sub (a := 48 + v) (b := 48) (by omega)).trans (by congr 1; omega)]
theorem nodigit_eq {ln : Int32} {sg T : Nat → Int32} (hS : SG ln sg T) (wd fi tw dy mn vl : Int32) {p : Nat} (hp : p < 1000) (h : T p = 59 ∨ T p = 0) : F_X4_readDigit ln (nI p) wd fi tw dy mn vl sg = (0, nI p, vl) := by
  unfold F_X4_readDigit
  rw [hS _ _ _ _ _ _ _ p (by omega)]
  have hd : F_X4_isDigit (T p) = 0 := by rcases h with h | h <;> rw [h] <;> decide
  rw [hd, if_pos rfl]
theorem number_eq {ln : Int32} {sg T : Nat → Int32} (hS : SG ln sg T) (wd fi tw dy mn vl : Int32) {p v : Nat} (hp : p < 900) (hv : v < 10) (h : T p = nI (48 + v)) (h2 : T (p + 1) = 59 ∨ T (p + 1) = 0) : F_X4_readNumber ln (nI p) wd fi tw dy mn vl sg = (1, nI (p + 1), nI v) := by
  unfold F_X4_readNumber
  rw [letp_n, digit_eq hS wd fi tw dy mn vl (by omega) hv h]
  dsimp only
  rw [if_neg (by decide), letp_n]
  rw [nodigit_eq hS wd fi tw dy mn (nI v) (by omega) h2, if_pos rfl]
/-- a plain command is read -/
theorem cmd_eq {ln : Int32} {sg T : Nat → Int32} (hS : SG ln sg T) (wd fi tw dy mn vl : Int32) {p w s v : Nat} (hp : p < 800) (hs : s < 10) (hw : w < 9) (hw0 : w = 0 ∨ 4 ≤ w) (hr : rdW (fun j => T (p + j)) 10 0 0 = (some w, s)) (hv : v < 10) (hd : T (p + s) = nI (48 + v)) (h2 : T (p + s + 1) = 59 ∨ T (p + s + 1) = 0) : F_X4_readCommand ln (nI p) wd fi tw dy mn vl sg = (1, nI (p + s + 1), nI w, nI v, tw, dy, mn, nI v) := by
  have n1 : ¬ nI w = 1 := fun z => by have := (nI_eq (b := 1) (by omega) (by decide)).mp z; omega
  have n2 : ¬ nI w = 2 := fun z => by have := (nI_eq (b := 2) (by omega) (by decide)).mp z; omega
  have n3 : ¬ nI w = 3 := fun z => by have := (nI_eq (b := 3) (by omega) (by decide)).mp z; omega
  unfold F_X4_readCommand
  rw [letp_n, word_eq hS wd fi tw dy mn vl (by omega), hr]
  dsimp only
  rw [if_neg (by decide)]
  by_cases h8 : nI w = 8
  · rw [if_pos h8, letp_n, number_eq hS (nI w) fi tw dy mn vl (by omega) hv hd h2]
    dsimp only
    rw [if_neg n1, if_neg n2, if_neg n3, if_neg (by decide)]
  · rw [if_neg h8, letp_n, digit_eq hS (nI w) fi tw dy mn vl (by omega) hv hd]
    dsimp only
    rw [if_neg n1, if_neg n2, if_neg n3, if_neg (by decide)]
/-- the four words of our texts -/
def CW (w : Nat) : Prop := w = 0 ∨ w = 5 ∨ w = 6 ∨ w = 8
theorem cw_rdW : ∀ w : Fin 9, (w.val = 0 ∨ w.val = 5 ∨ w.val = 6 ∨ w.val = 8) → rdW (fun j => (SB (17 + w.val)).getD j 0) 10 0 0 = (some w.val, (SB (17 + w.val)).length) ∧ ∀ i : Fin 9, i.val ≤ w.val → pm (SB (17 + i.val)) (fun j => (SB (17 + w.val)).getD j 0) < (SB (17 + w.val)).length ∨ i.val = w.val := by decide +kernel
theorem cw_at {T : Nat → Int32} {w : Nat} (hw : CW w) (h : ∀ j, j < (SB (17 + w)).length → T j = (SB (17 + w)).getD j 0) : rdW T 10 0 0 = (some w, (SB (17 + w)).length) := by
  have hw9 : w < 9 := by rcases hw with h | h | h | h <;> omega
  obtain ⟨h1, h2⟩ := cw_rdW ⟨w, hw9⟩ hw
  dsimp only at h1 h2
  rw [← h1]
  refine rdW_agree (w := w) (by omega) (fun i hi j hj hl => h j ?_) 10 0 0 (Or.inr (by rw [h1]))
  rcases h2 ⟨i, by omega⟩ hi with q | q
  · dsimp only at q; omega
  · dsimp only at q; subst q; exact hl
/-- no word begins so -/
theorem no_word {T : Nat → Int32} (c : Int32) (h0 : T 0 = c) (hc : rdW (fun j => if j = 0 then c else 0) 10 0 0 = (none, 0) ∧ ∀ i : Fin 9, pm (SB (17 + i.val)) (fun j => if j = 0 then c else 0) = 0) : rdW T 10 0 0 = (none, 0) := by
  rw [← hc.1]
  refine rdW_agree (w := 8) (by omega) (fun i hi j hj hl => ?_) 10 0 0 (Or.inl rfl)
  have := hc.2 ⟨i, by omega⟩
  dsimp only at this
  rw [this] at hj
  obtain rfl : j = 0 := by omega
  exact h0
/-- at p stands the text of these commands, to the end of the input -/
def TX (L : Nat) (T : Nat → Int32) : Nat → List (Nat × Nat) → Prop
  | _, [] => False
  | p, [(w, v)] => CW w ∧ v < 10 ∧ (∀ j, j < (SB (17 + w)).length → T (p + j) = (SB (17 + w)).getD j 0) ∧ T (p + (SB (17 + w)).length) = nI (48 + v) ∧ L = p + (SB (17 + w)).length + 1 ∧ T L = 0
  | p, (w, v) :: c :: cs => CW w ∧ v < 10 ∧ (∀ j, j < (SB (17 + w)).length → T (p + j) = (SB (17 + w)).getD j 0) ∧ T (p + (SB (17 + w)).length) = nI (48 + v) ∧ T (p + (SB (17 + w)).length + 1) = 59 ∧ TX L T (p + (SB (17 + w)).length + 2) (c :: cs)
theorem cw_len {w : Nat} (hw : CW w) : w < 9 ∧ (w = 0 ∨ 4 ≤ w) ∧ (SB (17 + w)).length < 10 := by
  have hw9 : w < 9 := by rcases hw with h | h | h | h <;> omega
  have := word_l7 ⟨w, hw9⟩
  dsimp only at this
  refine ⟨hw9, ?_, by omega⟩
  rcases hw with h | h | h | h <;> omega
theorem fault_none {ln : Int32} {sg T : Nat → Int32} {L : Nat} (hS : SG ln sg T) (hL : ln = nI L) (hL60 : L ≤ 60) : ∀ (cs : List (Nat × Nat)) (n p x : Nat) (wd fi tw dy mn vl : Int32), TX L T p cs → p ≤ 60 → x + cs.length ≤ 60 → cs.length ≤ n → ∃ (a b c d e g h : Int32), FL_X4_findFault_6 n ln (nI p) wd fi tw dy mn vl sg (nI x) = (-1, a, b, c, d, e, g, h)
  | [], _, _, _, _, _, _, _, _, _, h, _, _, _ => absurd h (fun z => z)
  | _ :: _, 0, _, _, _, _, _, _, _, _, _, _, _, h => absurd h (by simp)
  | [(w, v)], n + 1, p, x, wd, fi, tw, dy, mn, vl, h, hp, hx, hn => by
    obtain ⟨hw, hv, hword, hd, hend, h0⟩ := h
    obtain ⟨a1, a2, a3⟩ := cw_len hw
    simp only [List.length_cons, List.length_nil] at hx
    simp only [FL_X4_findFault_6]
    rw [if_neg (show ¬ (60 : Int32) ≤ nI x from nI_ge (b := 60) (by omega) (by decide)), letp_n, cmd_eq hS wd fi tw dy mn vl (by omega) a3 a1 a2 (cw_at hw hword) hv hd (Or.inr (by rw [← hend]; exact h0))]
    dsimp only
    rw [if_neg (by decide), letp_n, sign_eq hS _ _ _ _ _ _ _ (by omega), ← hend, h0, if_neg (show ¬ (0 : Int32) = 59 by decide)]
    dsimp only
    rw [if_pos rfl, hL, if_pos (nI_le (Nat.le_refl _) (by omega))]
    exact ⟨_, _, _, _, _, _, _, rfl⟩
  | (w, v) :: c :: cs, n + 1, p, x, wd, fi, tw, dy, mn, vl, h, hp, hx, hn => by
    obtain ⟨hw, hv, hword, hd, hsem, hrest⟩ := h
    obtain ⟨a1, a2, a3⟩ := cw_len hw
    simp only [List.length_cons] at hx hn
    have hp2 : p + (SB (17 + w)).length + 2 ≤ 60 := by
      cases cs with
      | nil => obtain ⟨w2, v2⟩ := c; have := hrest.2.2.2.2.1; omega
      | cons c2 cs =>
        have key : ∀ (cs : List (Nat × Nat)) (c : Nat × Nat) (q : Nat), TX L T q (c :: cs) → q ≤ L := by
          intro cs
          induction cs with
          | nil => intro c q hq; obtain ⟨w2, v2⟩ := c; have := hq.2.2.2.2.1; omega
          | cons d ds ih => intro c q hq; obtain ⟨w2, v2⟩ := c; have := ih d _ hq.2.2.2.2.2; omega
        have := key _ _ _ hrest
        omega
    simp only [FL_X4_findFault_6]
    rw [if_neg (show ¬ (60 : Int32) ≤ nI x from nI_ge (b := 60) (by omega) (by decide)), letp_n, cmd_eq hS wd fi tw dy mn vl (by omega) a3 a1 a2 (cw_at hw hword) hv hd (Or.inl hsem)]
    dsimp only
    rw [if_neg (by decide), letp_n, sign_eq hS _ _ _ _ _ _ _ (by omega), hsem, if_pos rfl]
    dsimp only
    rw [if_neg (by decide), nI_1]
    exact fault_none hS hL hL60 (c :: cs) n (p + (SB (17 + w)).length + 2) (x + 1) _ _ _ _ _ _ hrest hp2 (by simp only [List.length_cons]; omega) (by simp only [List.length_cons]; omega)
/-- what the judge says of a plain command, what it does -/
def jcmd (f : Nat → Int32) (jr jd : Int32) (w v : Nat) : Int32 × Int32 × Int32 := if w = 0 then F_X2_planning jr jd f (nI v) else if w = 5 then F_X2_callingBack jr jd f (nI v) else if w = 6 then F_X2_shutting jr jd f (nI v) 1 else (F_X2_passing jr jd (nI v), jr, jd)
def ccmd (f : Nat → Int32) (w v : Nat) : Nat → Int32 := if w = 0 then (F_X5_planTour f (nI v)).2 else if w = 5 then (F_X5_callBack f (nI v)).2 else if w = 6 then (F_X5_shutTown f (nI v) 1).2 else (F_X5_passHours f (nI v)).2
theorem judge_eq {w : Nat} (hw : CW w) (hs fk : Int32) (f : Nat → Int32) (jr jd ln tp : Int32) (v : Nat) (tw dy mn vl : Int32) (sg : Nat → Int32) : F_X6_judgeCommand hs fk f jr jd ln tp (nI w) (nI v) tw dy mn vl sg = jcmd f jr jd w v := by
  unfold F_X6_judgeCommand jcmd F_X4_word F_X4_first
  rcases hw with rfl | rfl | rfl | rfl
  · rw [if_pos (show nI 0 = 0 from rfl), if_pos (show (0 : Nat) = 0 from rfl), letp_n]
  · rw [if_neg (show ¬ nI 5 = 0 by decide), if_neg (show ¬ nI 5 = 1 by decide), if_neg (show ¬ nI 5 = 2 by decide), if_neg (show ¬ nI 5 = 3 by decide), if_neg (show ¬ nI 5 = 4 by decide), if_pos (show nI 5 = 5 from rfl), if_neg (show ¬ (5 : Nat) = 0 by decide), if_pos (show (5 : Nat) = 5 from rfl), letp_n]
  · rw [if_neg (show ¬ nI 6 = 0 by decide), if_neg (show ¬ nI 6 = 1 by decide), if_neg (show ¬ nI 6 = 2 by decide), if_neg (show ¬ nI 6 = 3 by decide), if_neg (show ¬ nI 6 = 4 by decide), if_neg (show ¬ nI 6 = 5 by decide), if_pos (show nI 6 = 6 from rfl), if_neg (show ¬ (6 : Nat) = 0 by decide), if_neg (show ¬ (6 : Nat) = 5 by decide), if_pos (show (6 : Nat) = 6 from rfl), letp_n]
  · rw [if_neg (show ¬ nI 8 = 0 by decide), if_neg (show ¬ nI 8 = 1 by decide), if_neg (show ¬ nI 8 = 2 by decide), if_neg (show ¬ nI 8 = 3 by decide), if_neg (show ¬ nI 8 = 4 by decide), if_neg (show ¬ nI 8 = 5 by decide), if_neg (show ¬ nI 8 = 6 by decide), if_neg (show ¬ nI 8 = 7 by decide), if_pos (show nI 8 = 8 from rfl), if_neg (show ¬ (8 : Nat) = 0 by decide), if_neg (show ¬ (8 : Nat) = 5 by decide), if_neg (show ¬ (8 : Nat) = 6 by decide)]
theorem carry_eq {w : Nat} (hw : CW w) (hs fk : Int32) (f : Nat → Int32) (ln tp : Int32) (v : Nat) (tw dy mn vl : Int32) (sg : Nat → Int32) : F_X6_carryOutCommand hs fk f ln tp (nI w) (nI v) tw dy mn vl sg = ccmd f w v := by
  unfold F_X6_carryOutCommand ccmd F_X4_word F_X4_first
  rcases hw with rfl | rfl | rfl | rfl
  · rw [if_pos (show nI 0 = 0 from rfl), if_pos (show (0 : Nat) = 0 from rfl), letp_n]
  · rw [if_neg (show ¬ nI 5 = 0 by decide), if_neg (show ¬ nI 5 = 1 by decide), if_neg (show ¬ nI 5 = 2 by decide), if_neg (show ¬ nI 5 = 3 by decide), if_neg (show ¬ nI 5 = 4 by decide), if_pos (show nI 5 = 5 from rfl), if_neg (show ¬ (5 : Nat) = 0 by decide), if_pos (show (5 : Nat) = 5 from rfl), letp_n]
  · rw [if_neg (show ¬ nI 6 = 0 by decide), if_neg (show ¬ nI 6 = 1 by decide), if_neg (show ¬ nI 6 = 2 by decide), if_neg (show ¬ nI 6 = 3 by decide), if_neg (show ¬ nI 6 = 4 by decide), if_neg (show ¬ nI 6 = 5 by decide), if_pos (show nI 6 = 6 from rfl), if_neg (show ¬ (6 : Nat) = 0 by decide), if_neg (show ¬ (6 : Nat) = 5 by decide), if_pos (show (6 : Nat) = 6 from rfl), letp_n]
  · rw [if_neg (show ¬ nI 8 = 0 by decide), if_neg (show ¬ nI 8 = 1 by decide), if_neg (show ¬ nI 8 = 2 by decide), if_neg (show ¬ nI 8 = 3 by decide), if_neg (show ¬ nI 8 = 4 by decide), if_neg (show ¬ nI 8 = 5 by decide), if_neg (show ¬ nI 8 = 6 by decide), if_neg (show ¬ nI 8 = 7 by decide), if_pos (show nI 8 = 8 from rfl), if_neg (show ¬ (8 : Nat) = 0 by decide), if_neg (show ¬ (8 : Nat) = 5 by decide), if_neg (show ¬ (8 : Nat) = 6 by decide), letp_n]
/-- refused? with the reason and its detail behind it -/
def icmd (f : Nat → Int32) (jr jd : Int32) (w v i : Nat) : Int32 × Int32 × Int32 := if (jcmd f jr jd w v).1 = -1 ∨ (jcmd f jr jd w v).1 = -2 then (1, 20, nI i) else if (jcmd f jr jd w v).1 = 0 then (0, (jcmd f jr jd w v).2) else (1, (jcmd f jr jd w v).2)
theorem refd_eq {w : Nat} (hw : CW w) (hs fk : Int32) (f : Nat → Int32) (jr jd ln tp : Int32) (v i : Nat) (tw dy mn vl : Int32) (sg : Nat → Int32) : F_X6_isCommandRefused hs fk f jr jd ln tp (nI w) (nI v) tw dy mn vl sg (nI i) = icmd f jr jd w v i := by
  unfold F_X6_isCommandRefused icmd
  rw [letp_n, judge_eq hw]
  generalize jcmd f jr jd w v = q
  by_cases h1 : q.1 = -1
  · rw [if_pos h1, if_pos (Or.inl h1), letp_n]
    rfl
  · rw [if_neg h1]
    by_cases h2 : q.1 = -2
    · rw [if_pos h2, if_pos (Or.inr h2), letp_n]
      rfl
    · rw [if_neg h2, if_neg (show ¬ (q.1 = -1 ∨ q.1 = -2) from fun z => z.elim h1 h2)]
/-- the run of a text: done? books, reason, detail -/
def RN : List (Nat × Nat) → Nat → (Nat → Int32) → Int32 → Int32 → Bool × (Nat → Int32) × Int32 × Int32
  | [], _, f, jr, jd => (true, f, jr, jd)
  | (w, v) :: cs, i, f, jr, jd => if (icmd f jr jd w v i).1 = 0 then RN cs (i + 1) (ccmd f w v) (icmd f jr jd w v i).2.1 (icmd f jr jd w v i).2.2 else (false, f, (icmd f jr jd w v i).2.1, (icmd f jr jd w v i).2.2)
theorem run_eq {ln : Int32} {sg T : Nat → Int32} {L : Nat} (hS : SG ln sg T) (hL60 : L ≤ 60) : ∀ (cs : List (Nat × Nat)) (n p i : Nat) (hs fk : Int32) (f : Nat → Int32) (jr jd nx kp : Int32) (g : Nat → Nat → Int32) (f3 : Nat → Int32) (wd fi tw dy mn vl x1 : Int32) (R : Bool × (Nat → Int32) × Int32 × Int32), RN cs i f jr jd = R → TX L T p cs → p ≤ 60 → i + cs.length < 60 → cs.length ≤ n →
    (R.1 = true → ∃ (a b c d e h y : Int32), FL_X6_read_55 n hs fk f jr jd nx kp g f3 ln (nI p) wd fi tw dy mn vl sg x1 (nI i) = (none, nI (i + cs.length), fk, R.2.1, R.2.2.1, R.2.2.2, (F_X1_keep nx kp g f3).1, (F_X1_keep nx kp g f3).2.1, (F_X1_keep nx kp g f3).2.2, f3, 0, a, b, c, d, e, h, y)) ∧
    (R.1 = false → ∃ (a b c d e h y : Int32), FL_X6_read_55 n hs fk f jr jd nx kp g f3 ln (nI p) wd fi tw dy mn vl sg x1 (nI i) = (some "java/lang/UnsupportedOperationException", 0, fk, F_X0_take R.2.1 f3, R.2.2.1, R.2.2.2, nx, kp, g, f3, 0, a, b, c, d, e, h, y))
  | [], _, _, _, _, _, _, _, _, _, _, _, _, _, _, _, _, _, _, _, _, _, h, _, _, _ => absurd h (fun z => z)
  | _ :: _, 0, _, _, _, _, _, _, _, _, _, _, _, _, _, _, _, _, _, _, _, _, _, _, _, h => absurd h (by simp)
  | [(w, v)], n + 1, p, i, hs, fk, f, jr, jd, nx, kp, g, f3, wd, fi, tw, dy, mn, vl, x1, R, hR, h, hp, hi, hn => by
    obtain ⟨hw, hv, hword, hd, hend, h0⟩ := h
    obtain ⟨a1, a2, a3⟩ := cw_len hw
    simp only [List.length_cons, List.length_nil] at hi
    simp only [FL_X6_read_55]
    rw [letp_n, cmd_eq hS wd fi tw dy mn vl (by omega) a3 a1 a2 (cw_at hw hword) hv hd (Or.inr (by rw [← hend]; exact h0)), letp_n]
    dsimp only
    rw [refd_eq hw]
    simp only [RN] at hR
    by_cases q : (icmd f jr jd w v i).1 = 0
    · rw [if_pos q] at hR
      subst hR
      rw [if_pos q, letp_n, carry_eq hw, if_neg (show ¬ (60 : Int32) ≤ nI i + 1 by rw [nI_1]; exact nI_ge (b := 60) (by omega) (by decide)), letp_n, sign_eq hS _ _ _ _ _ _ _ (by omega), ← hend, h0, if_neg (show ¬ (0 : Int32) = 59 by decide)]
      dsimp only
      rw [if_pos rfl, letp_n, letp_n, nI_1]
      exact ⟨fun _ => ⟨_, _, _, _, _, _, _, rfl⟩, fun z => nomatch z⟩
    · rw [if_neg q] at hR
      subst hR
      rw [if_neg q, letp_n]
      exact ⟨fun z => (nomatch z), fun _ => ⟨_, _, _, _, _, _, _, rfl⟩⟩
  | (w, v) :: c :: cs, n + 1, p, i, hs, fk, f, jr, jd, nx, kp, g, f3, wd, fi, tw, dy, mn, vl, x1, R, hR, h, hp, hi, hn => by
    obtain ⟨hw, hv, hword, hd, hsem, hrest⟩ := h
    obtain ⟨a1, a2, a3⟩ := cw_len hw
    simp only [List.length_cons] at hi hn
    have hp2 : p + (SB (17 + w)).length + 2 ≤ 60 := by
      have key : ∀ (cs : List (Nat × Nat)) (c : Nat × Nat) (q : Nat), TX L T q (c :: cs) → q ≤ L := by
        intro cs
        induction cs with
        | nil => intro c q hq; obtain ⟨w2, v2⟩ := c; have := hq.2.2.2.2.1; omega
        | cons d ds ih => intro c q hq; obtain ⟨w2, v2⟩ := c; have := ih d _ hq.2.2.2.2.2; omega
      have := key _ _ _ hrest
      omega
    simp only [FL_X6_read_55]
    rw [letp_n, cmd_eq hS wd fi tw dy mn vl (by omega) a3 a1 a2 (cw_at hw hword) hv hd (Or.inl hsem), letp_n]
    dsimp only
    rw [refd_eq hw]
    have e : RN ((w, v) :: c :: cs) i f jr jd = if (icmd f jr jd w v i).1 = 0 then RN (c :: cs) (i + 1) (ccmd f w v) (icmd f jr jd w v i).2.1 (icmd f jr jd w v i).2.2 else (false, f, (icmd f jr jd w v i).2.1, (icmd f jr jd w v i).2.2) := rfl
    rw [e] at hR
    by_cases q : (icmd f jr jd w v i).1 = 0
    · rw [if_pos q] at hR
      rw [if_pos q, letp_n, carry_eq hw, if_neg (show ¬ (60 : Int32) ≤ nI i + 1 by rw [nI_1]; exact nI_ge (b := 60) (by omega) (by decide)), letp_n, sign_eq hS _ _ _ _ _ _ _ (by omega), hsem, if_pos rfl]
      dsimp only
      rw [if_neg (by decide), nI_1, show i + ((w, v) :: c :: cs).length = i + 1 + (c :: cs).length by simp only [List.length_cons]; omega]
      exact run_eq hS hL60 (c :: cs) n (p + (SB (17 + w)).length + 2) (i + 1) hs fk (ccmd f w v) (icmd f jr jd w v i).2.1 (icmd f jr jd w v i).2.2 nx kp g f3 (nI w) (nI v) tw dy mn (nI v) x1 R hR hrest hp2 (by simp only [List.length_cons]; omega) (by simp only [List.length_cons]; omega)
    · rw [if_neg q] at hR
      subst hR
      rw [if_neg q, letp_n]
      exact ⟨fun z => (nomatch z), fun _ => ⟨_, _, _, _, _, _, _, rfl⟩⟩
end TStext2
