/-! THE GROUND OF ALL CONTRACTS HOLDS AT THE LAW'S ENTRY. -/
section TSstart
/-- the elements of an array, as words -/
def aqe (tm : Term) : Nat → List Int32 → List Cond
  | _, [] => []
  | j, x :: xs => .eq (.elem tm (.int (Int32.ofNat j))) (.int x) :: aqe tm (j + 1) xs
theorem aqe_mem (tm : Term) : ∀ (xs : List Int32) (o j : Nat), j < xs.length → Cond.eq (.elem tm (.int (Int32.ofNat (o + j)))) (.int (xs.getD j 0)) ∈ aqe tm o xs
  | [], _, _, h => absurd h (Nat.not_lt_zero _)
  | x :: xs, o, 0, _ => List.mem_cons_self
  | x :: xs, o, j + 1, h => List.mem_cons_of_mem _ (by
      have := aqe_mem tm xs (o + 1) j (by simpa using h)
      rw [show o + (j + 1) = o + 1 + j by omega, show (x :: xs).getD (j + 1) 0 = xs.getD j 0 from rfl]
      exact this)
def sq (own : String) (k : Nat) (byt : List Int32) : List Cond := .exactly (.string own k) "java/lang/String" :: .eq (.field (.string own k) "java/lang/String" "coder" "B") (.int 0) :: .arrayOf (.field (.string own k) "java/lang/String" "value" "[B") .byte :: .eq (.length (.field (.string own k) "java/lang/String" "value" "[B")) (.int (Int32.ofNat byt.length)) :: aqe (.field (.string own k) "java/lang/String" "value" "[B") 0 byt
def sP (A : Nat → Prop) (s : State) (x : String × Nat × String × List Int32) (q : Nat × Nat) : Prop := vk_R x.1 x.2.1 x.2.2.1 q.1 s ∧ vk_S 1 [x.2.2.2.length] [x.2.2.2] (fun _ => q.1) (fun _ => q.2) A s s.heap
theorem sq_ok {own tx : String} {k : Nat} {byt : List Int32} {A : Nat → Prop} {args : Array Value} {s : State} (hN : byt.length < 2 ^ 31) (h1 : (Cond.stringRef own k tx).before args s = true) (h2 : ∀ w ∈ sq own k byt, w.before args s = true) (hA : ∀ a : Nat, a < s.heap.size → ¬ A a) : ∃ q : Nat × Nat, sP A s (own, k, tx, byt) q := by
  have hz : ∀ i : Nat, i < 1 → i = 0 := fun i hi => by omega
  obtain ⟨adK, adV, h, he⟩ := vk_Sof (N := 1) (tm := fun _ => .string own k) (len := [byt.length]) (byt := [byt]) (A := A) (args := args) (s := s)
    (fun i hi => by rw [hz i hi]; exact hN)
    (fun i hi => h2 _ (by simp [sq])) (fun i hi => h2 _ (by simp [sq])) (fun i hi => h2 _ (by simp [sq]))
    (fun i hi => by rw [hz i hi]; exact h2 _ (by simp [sq]))
    (fun i hi j hj => by
      rw [hz i hi] at hj ⊢
      have hm := aqe_mem (.field (.string own k) "java/lang/String" "value" "[B") byt 0 j hj
      rw [Nat.zero_add] at hm
      exact h2 _ (List.mem_cons_of_mem _ (List.mem_cons_of_mem _ (List.mem_cons_of_mem _ (List.mem_cons_of_mem _ hm)))))
    (fun i j hi hj hij => absurd ((hz i hi).trans (hz j hj).symm) hij) hA
  exact ⟨(adK 0, adV 0), vk_R.of h1 (he 0 (by omega)), fun i hi => by rw [hz i hi]; exact h.1 0 (by omega), fun i j hi hj _ => (hz i hi).trans (hz j hj).symm⟩
/-- a static array of 100 bytes -/
def dq (C n : String) (byt : List Int32) : List Cond := .isRef (.static C n "[B") :: .arrayOf (.static C n "[B") .byte :: .eq (.length (.static C n "[B")) (.int (Int32.ofNat byt.length)) :: aqe (.static C n "[B") 0 byt
theorem dq_ok {C n : String} {byt : List Int32} {f : Nat → Int32} {A : Nat → Prop} {args : Array Value} {s : State} (hN : byt.length = 100) (hf : ∀ j : Nat, j < 100 → byt.getD j 0 = f j) (hl : (Cond.laysStatic C n "[B").before args s = true) (hi : (Cond.initialized C).before args s = true) (h2 : ∀ w ∈ dq C n byt, w.before args s = true) (hA : ∀ a : Nat, a < s.heap.size → ¬ A a) : ∃ t : Nat, va_Z C n "[B" (.ref t) A s s.heap ∧ va_T .byte t 100 (fun j => .int (f j)) A s s.heap := by
  obtain ⟨t, ht, hT⟩ := va_Tof (tm := .static C n "[B") (ty := .byte) (N := 100) (f := fun j => .int (f j)) (A := A) (args := args) (s := s) (by decide) (h2 _ (by simp [dq])) (va_eqt (by rw [← hN]; exact h2 _ (by simp [dq])))
    (fun j hj => va_eqt (by
      rw [← hf j hj]
      have hm := aqe_mem (.static C n "[B") byt 0 j (by omega)
      rw [Nat.zero_add] at hm
      exact h2 _ (List.mem_cons_of_mem _ (List.mem_cons_of_mem _ (List.mem_cons_of_mem _ hm))))) hA
  exact ⟨t, va_Zref hl hi ht hA, hT⟩
theorem dk {l : List Cond} (o n : Nat) {m : List Cond} (h : (l.drop o).take n = m) : ∀ w ∈ m, w ∈ l := fun w hw => List.mem_of_mem_drop (List.mem_of_mem_take (h ▸ hw))
theorem di {l : List Cond} (o : Nat) {w : Cond} (h : (l.drop o)[0]? = some w) : w ∈ l := List.mem_of_mem_drop (List.mem_of_getElem? h)
theorem q1 {w : Cond} (h : w ∈ tables_1_1) : w ∈ lw_tbl := List.mem_append_right _ (List.mem_append_left _ h)
theorem q2 {w : Cond} (h : w ∈ tables_1_2) : w ∈ lw_tbl := List.mem_append_right _ (List.mem_append_right _ (List.mem_append_left _ h))
theorem q3 {w : Cond} (h : w ∈ tables_1_3) : w ∈ lw_tbl := List.mem_append_right _ (List.mem_append_right _ (List.mem_append_right _ (List.mem_append_left _ h)))
theorem q4 {w : Cond} (h : w ∈ tables_1_4) : w ∈ lw_tbl := List.mem_append_right _ (List.mem_append_right _ (List.mem_append_right _ (List.mem_append_right _ (List.mem_append_left _ h))))
theorem q5 {w : Cond} (h : w ∈ tables_1_5) : w ∈ lw_tbl := List.mem_append_right _ (List.mem_append_right _ (List.mem_append_right _ (List.mem_append_right _ (List.mem_append_right _ (List.mem_append_left _ h)))))
theorem q6 {w : Cond} (h : w ∈ tables_1_6) : w ∈ lw_tbl := List.mem_append_right _ (List.mem_append_right _ (List.mem_append_right _ (List.mem_append_right _ (List.mem_append_right _ (List.mem_append_right _ h)))))
theorem qs {w : Cond} (h : w ∈ k2_sels lw_privs) : w ∈ lw_tbl := List.mem_append_left _ h
set_option maxRecDepth 200000 in
theorem nz_0 : ∀ w ∈ sq RX6 159 [116, 104, 101, 32, 116, 111, 117, 114, 32, 110, 101, 105, 116, 104, 101, 114, 32, 114, 117, 110, 115, 32, 110, 111, 114, 32, 103, 111, 101, 115, 32, 98, 97, 99, 107], w ∈ flatC narrow_1 := dk 382 39 (by rfl)
set_option maxRecDepth 200000 in
theorem nz_1 : ∀ w ∈ sq RX6 167 [116, 104, 101, 32, 116, 111, 117, 114, 32, 105, 115, 32, 112, 108, 97, 110, 110, 101, 100], w ∈ flatC narrow_1 := dk 421 23 (by rfl)
set_option maxRecDepth 200000 in
theorem nz_2 : ∀ w ∈ sq RX6 175 [116, 104, 101, 32, 116, 111, 117, 114, 32, 100, 111, 101, 115, 32, 110, 111, 116, 32, 101, 110, 100, 32, 119, 105, 116, 104, 105, 110, 32, 116, 104, 101, 32, 104, 111, 117, 114, 115, 32, 116, 104, 97, 116, 32, 97, 114, 101, 32, 108, 111, 111, 107, 101, 100, 32, 97, 116], w ∈ flatC narrow_1 := dk 444 61 (by rfl)
set_option maxRecDepth 200000 in
theorem nz_3 : ∀ w ∈ sq RX6 183 [116, 104, 101, 114, 101, 32, 105, 115, 32, 110, 111, 32, 115, 117, 99, 104, 32, 116, 111, 119, 110], w ∈ flatC narrow_1 := dk 951 25 (by rfl)
set_option maxRecDepth 200000 in
theorem nz_4 : ∀ w ∈ sq RX6 188 [116, 104, 101, 114, 101, 32, 105, 115, 32, 110, 111, 32, 115, 117, 99, 104, 32, 112, 108, 97, 99, 101], w ∈ flatC narrow_1 := dk 822 26 (by rfl)
set_option maxRecDepth 200000 in
theorem nz_5 : ∀ w ∈ sq RX6 217 [116, 104, 101, 114, 101, 32, 97, 114, 101, 32, 110, 111, 32, 116, 111, 117, 114, 115], w ∈ flatC narrow_1 := dk 777 22 (by rfl)
set_option maxRecDepth 200000 in
theorem nz_6 : ∀ w ∈ sq RX6 220 [116, 104, 101, 114, 101, 32, 119, 101, 114, 101, 32, 110, 111, 32, 116, 114, 105, 101, 115], w ∈ flatC narrow_1 := dk 799 23 (by rfl)
set_option maxRecDepth 200000 in
theorem nz_7 : ∀ w ∈ sq RX6 224 [116, 104, 101, 32, 105, 110, 112, 117, 116, 32, 105, 115, 32, 102, 117, 108, 108], w ∈ flatC narrow_1 := dk 505 21 (by rfl)
set_option maxRecDepth 200000 in
theorem nz_8 : ∀ w ∈ sq RX6 239 [116, 104, 101, 32, 105, 110, 112, 117, 116, 32, 105, 115, 32, 110, 111, 32, 116, 101, 120, 116], w ∈ flatC narrow_1 := dk 611 24 (by rfl)
set_option maxRecDepth 200000 in
theorem nz_9 : ∀ w ∈ sq RX6 254 [97, 32, 99, 111, 109, 109, 97, 110, 100, 32, 105, 115, 32, 114, 101, 102, 117, 115, 101, 100], w ∈ flatC narrow_1 := dk 635 24 (by rfl)
set_option maxRecDepth 200000 in
theorem nz_10 : ∀ w ∈ sq RX6 264 [110, 111, 32, 102, 97, 117, 108, 116, 32, 112, 111, 115, 105, 116, 105, 111, 110, 32, 119, 97, 115, 32, 107, 101, 112, 116], w ∈ flatC narrow_1 := dk 659 30 (by rfl)
set_option maxRecDepth 200000 in
theorem nz_11 : ∀ w ∈ sq RX6 269 [110, 111, 116, 104, 105, 110, 103, 32, 119, 97, 115, 32, 114, 101, 102, 117, 115, 101, 100], w ∈ flatC narrow_1 := dk 754 23 (by rfl)
set_option maxRecDepth 200000 in
theorem nz_12 : ∀ w ∈ sq RX6 274 [116, 104, 101, 114, 101, 32, 105, 115, 32, 110, 111, 32, 99, 104, 97, 110, 103, 101, 32, 116, 104, 97, 116, 32, 99, 97, 110, 32, 98, 101, 32, 117, 110, 100, 111, 110, 101], w ∈ flatC narrow_1 := dk 689 41 (by rfl)
set_option maxRecDepth 200000 in
theorem nz_13 : ∀ w ∈ sq RX6 279 [116, 104, 101, 114, 101, 32, 105, 115, 32, 110, 111, 32, 115, 110, 97, 112, 115, 104, 111, 116], w ∈ flatC narrow_1 := dk 730 24 (by rfl)
set_option maxRecDepth 200000 in
theorem nz_14 : ∀ w ∈ sq RX6 290 [116, 104, 101, 114, 101, 32, 105, 115, 32, 110, 111, 32, 115, 117, 99, 104, 32, 116, 104, 105, 110, 103], w ∈ flatC narrow_1 := dk 309 26 (by rfl)
set_option maxRecDepth 200000 in
theorem nz_15 : ∀ w ∈ sq RX6 297 [116, 104, 101, 32, 110, 117, 109, 98, 101, 114, 32, 105, 115, 32, 111, 117, 116, 32, 111, 102, 32, 114, 97, 110, 103, 101], w ∈ flatC narrow_1 := dk 335 30 (by rfl)
set_option maxRecDepth 200000 in
theorem nz_16 : ∀ w ∈ sq RX6 299 [105, 116, 32, 105, 115, 32, 114, 101, 102, 117, 115, 101, 100], w ∈ flatC narrow_1 := dk 365 17 (by rfl)
set_option maxRecDepth 200000 in
theorem nz_17 : ∀ w ∈ sq RX6 325 [116, 111, 117, 114, 32], w ∈ flatC narrow_1 := dk 526 9 (by rfl)
set_option maxRecDepth 200000 in
theorem nz_18 : ∀ w ∈ sq RX6 327 [104, 97, 108, 108, 32], w ∈ flatC narrow_1 := dk 535 9 (by rfl)
set_option maxRecDepth 200000 in
theorem nz_19 : ∀ w ∈ sq RX6 329 [119, 97, 103, 111, 110, 115, 32], w ∈ flatC narrow_1 := dk 544 11 (by rfl)
set_option maxRecDepth 200000 in
theorem nz_20 : ∀ w ∈ sq RX6 331 [98, 101, 100, 115, 32], w ∈ flatC narrow_1 := dk 555 9 (by rfl)
set_option maxRecDepth 200000 in
theorem nz_21 : ∀ w ∈ sq RX6 333 [115, 116, 97, 114, 116, 32], w ∈ flatC narrow_1 := dk 564 10 (by rfl)
set_option maxRecDepth 200000 in
theorem nz_22 : ∀ w ∈ sq RX6 335 [98, 97, 99, 107, 32], w ∈ flatC narrow_1 := dk 574 9 (by rfl)
set_option maxRecDepth 200000 in
theorem nz_23 : ∀ w ∈ sq RX6 337 [115, 104, 117, 116, 32], w ∈ flatC narrow_1 := dk 583 9 (by rfl)
set_option maxRecDepth 200000 in
theorem nz_24 : ∀ w ∈ sq RX6 339 [111, 112, 101, 110, 32], w ∈ flatC narrow_1 := dk 592 9 (by rfl)
set_option maxRecDepth 200000 in
theorem nz_25 : ∀ w ∈ sq RX6 341 [104, 111, 117, 114, 115, 32], w ∈ flatC narrow_1 := dk 601 10 (by rfl)
set_option maxRecDepth 200000 in
theorem nz_26 : ∀ w ∈ sq RL 216 [116, 111, 117, 114, 32], w ∈ flatC narrow_1 := dk 976 9 (by rfl)
set_option maxRecDepth 200000 in
theorem nz_27 : ∀ w ∈ sq RL 225 [59, 104, 111, 117, 114, 115, 32], w ∈ flatC narrow_1 := dk 986 11 (by rfl)
set_option maxRecDepth 200000 in
theorem nz_28 : ∀ w ∈ sq RL 231 [115, 104, 117, 116, 32], w ∈ flatC narrow_1 := dk 997 9 (by rfl)
set_option maxRecDepth 200000 in
theorem nz_29 : ∀ w ∈ sq RL 233 [59, 98, 97, 99, 107, 32], w ∈ flatC narrow_1 := dk 1007 10 (by rfl)
set_option maxRecDepth 200000 in
theorem nz_30 : ∀ w ∈ sq RL 235 [59, 104, 111, 117, 114, 115, 32, 49], w ∈ flatC narrow_1 := dk 1017 12 (by rfl)
set_option maxRecDepth 200000 in
theorem nz_31 : ∀ w ∈ sq RL 249 [113], w ∈ flatC narrow_1 := dk 1029 5 (by rfl)
set_option maxRecDepth 200000 in
theorem nz_32 : ∀ w ∈ sq RL 253 [104, 111, 117, 114, 115, 32, 49, 59, 104, 111, 117, 114, 115, 32, 48], w ∈ flatC narrow_1 := dk 1034 19 (by rfl)
set_option maxRecDepth 200000 in
theorem nz_33 : ∀ w ∈ sq RL 255 [115, 104, 117, 116, 32, 52, 59, 104, 111, 117, 114, 115, 32, 57, 59, 115, 104, 117, 116, 32, 52], w ∈ flatC narrow_1 := dk 1053 25 (by rfl)
theorem st_c {P : String × Nat × String × List Int32 → Prop} {l : List (String × Nat × String × List Int32)} {c : String × Nat × String × List Int32} (h : P c) (hl : ∀ w, w ∈ l → P w) : ∀ w, w ∈ c :: l → P w := fun w hw => (List.mem_cons.mp hw).elim (fun e => e ▸ h) (hl w)
theorem str_all {args : Array Value} {s : State} {A : Nat → Prop} (hts : ∀ w ∈ lw_tbl, w.before args s = true) (hn : ∀ w ∈ flatC narrow_1, w.before args s = true) (hA : ∀ a : Nat, a < s.heap.size → ¬ A a) : ∀ x, x ∈ STR → ∃ q : Nat × Nat, sP A s x q :=
  (st_c (sq_ok (by decide) (hts _ (q3 (List.mem_of_getElem? (i := 109) rfl))) (fun w hw => hn w (nz_0 w hw)) hA)
  (st_c (sq_ok (by decide) (hts _ (q3 (List.mem_of_getElem? (i := 124) rfl))) (fun w hw => hn w (nz_1 w hw)) hA)
  (st_c (sq_ok (by decide) (hts _ (q3 (List.mem_of_getElem? (i := 130) rfl))) (fun w hw => hn w (nz_2 w hw)) hA)
  (st_c (sq_ok (by decide) (hts _ (q6 (List.mem_of_getElem? (i := 110) rfl))) (fun w hw => hn w (nz_3 w hw)) hA)
  (st_c (sq_ok (by decide) (hts _ (q5 (List.mem_of_getElem? (i := 31) rfl))) (fun w hw => hn w (nz_4 w hw)) hA)
  (st_c (sq_ok (by decide) (hts _ (q4 (List.mem_of_getElem? (i := 217) rfl))) (fun w hw => hn w (nz_5 w hw)) hA)
  (st_c (sq_ok (by decide) (hts _ (q4 (List.mem_of_getElem? (i := 237) rfl))) (fun w hw => hn w (nz_6 w hw)) hA)
  (st_c (sq_ok (by decide) (hts _ (q3 (List.mem_of_getElem? (i := 183) rfl))) (fun w hw => hn w (nz_7 w hw)) hA)
  (st_c (sq_ok (by decide) (hts _ (q4 (List.mem_of_getElem? (i := 73) rfl))) (fun w hw => hn w (nz_8 w hw)) hA)
  (st_c (sq_ok (by decide) (hts _ (q4 (List.mem_of_getElem? (i := 118) rfl))) (fun w hw => hn w (nz_9 w hw)) hA)
  (st_c (sq_ok (by decide) (hts _ (q4 (List.mem_of_getElem? (i := 140) rfl))) (fun w hw => hn w (nz_10 w hw)) hA)
  (st_c (sq_ok (by decide) (hts _ (q4 (List.mem_of_getElem? (i := 180) rfl))) (fun w hw => hn w (nz_11 w hw)) hA)
  (st_c (sq_ok (by decide) (hts _ (q4 (List.mem_of_getElem? (i := 148) rfl))) (fun w hw => hn w (nz_12 w hw)) hA)
  (st_c (sq_ok (by decide) (hts _ (q4 (List.mem_of_getElem? (i := 161) rfl))) (fun w hw => hn w (nz_13 w hw)) hA)
  (st_c (sq_ok (by decide) (hts _ (q2 (List.mem_of_getElem? (i := 70) rfl))) (fun w hw => hn w (nz_14 w hw)) hA)
  (st_c (sq_ok (by decide) (hts _ (q2 (List.mem_of_getElem? (i := 105) rfl))) (fun w hw => hn w (nz_15 w hw)) hA)
  (st_c (sq_ok (by decide) (hts _ (q2 (List.mem_of_getElem? (i := 121) rfl))) (fun w hw => hn w (nz_16 w hw)) hA)
  (st_c (sq_ok (by decide) (hts _ (q3 (List.mem_of_getElem? (i := 221) rfl))) (fun w hw => hn w (nz_17 w hw)) hA)
  (st_c (sq_ok (by decide) (hts _ (q3 (List.mem_of_getElem? (i := 222) rfl))) (fun w hw => hn w (nz_18 w hw)) hA)
  (st_c (sq_ok (by decide) (hts _ (q3 (List.mem_of_getElem? (i := 223) rfl))) (fun w hw => hn w (nz_19 w hw)) hA)
  (st_c (sq_ok (by decide) (hts _ (q3 (List.mem_of_getElem? (i := 224) rfl))) (fun w hw => hn w (nz_20 w hw)) hA)
  (st_c (sq_ok (by decide) (hts _ (q3 (List.mem_of_getElem? (i := 225) rfl))) (fun w hw => hn w (nz_21 w hw)) hA)
  (st_c (sq_ok (by decide) (hts _ (q3 (List.mem_of_getElem? (i := 226) rfl))) (fun w hw => hn w (nz_22 w hw)) hA)
  (st_c (sq_ok (by decide) (hts _ (q3 (List.mem_of_getElem? (i := 227) rfl))) (fun w hw => hn w (nz_23 w hw)) hA)
  (st_c (sq_ok (by decide) (hts _ (q3 (List.mem_of_getElem? (i := 228) rfl))) (fun w hw => hn w (nz_24 w hw)) hA)
  (st_c (sq_ok (by decide) (hts _ (q3 (List.mem_of_getElem? (i := 229) rfl))) (fun w hw => hn w (nz_25 w hw)) hA)
  (st_c (sq_ok (by decide) (hts _ (q6 (List.mem_of_getElem? (i := 134) rfl))) (fun w hw => hn w (nz_26 w hw)) hA)
  (st_c (sq_ok (by decide) (hts _ (q6 (List.mem_of_getElem? (i := 137) rfl))) (fun w hw => hn w (nz_27 w hw)) hA)
  (st_c (sq_ok (by decide) (hts _ (q6 (List.mem_of_getElem? (i := 139) rfl))) (fun w hw => hn w (nz_28 w hw)) hA)
  (st_c (sq_ok (by decide) (hts _ (q6 (List.mem_of_getElem? (i := 140) rfl))) (fun w hw => hn w (nz_29 w hw)) hA)
  (st_c (sq_ok (by decide) (hts _ (q6 (List.mem_of_getElem? (i := 141) rfl))) (fun w hw => hn w (nz_30 w hw)) hA)
  (st_c (sq_ok (by decide) (hts _ (q6 (List.mem_of_getElem? (i := 150) rfl))) (fun w hw => hn w (nz_31 w hw)) hA)
  (st_c (sq_ok (by decide) (hts _ (q6 (List.mem_of_getElem? (i := 151) rfl))) (fun w hw => hn w (nz_32 w hw)) hA)
  (st_c (sq_ok (by decide) (hts _ (q6 (List.mem_of_getElem? (i := 152) rfl))) (fun w hw => hn w (nz_33 w hw)) hA)
  (fun _ h => nomatch h)))))))))))))))))))))))))))))))))))
theorem str_k {args : Array Value} {s : State} {A : Nat → Prop} (hts : ∀ w ∈ lw_tbl, w.before args s = true) (hn : ∀ w ∈ flatC narrow_1, w.before args s = true) (hA : ∀ a : Nat, a < s.heap.size → ¬ A a) : ∃ f : Nat → Nat × Nat, ∀ (i : Nat) (x : String × Nat × String × List Int32), STR[i]? = some x → sP A s x (f i) := by
  have h0 : ∀ i : Nat, ∃ q : Nat × Nat, ∀ x, STR[i]? = some x → sP A s x q := fun i => by
    cases hi : STR[i]? with
    | none => exact ⟨(0, 0), fun x h => by cases h⟩
    | some y =>
      obtain ⟨q, hq⟩ := str_all hts hn hA y (List.mem_of_getElem? hi)
      exact ⟨q, fun x h => by cases h; exact hq⟩
  exact Classical.axiomOfChoice h0
set_option maxRecDepth 200000 in
theorem nz_DigitOnes : ∀ w ∈ dq "java/lang/Integer" "DigitOnes" [48, 49, 50, 51, 52, 53, 54, 55, 56, 57, 48, 49, 50, 51, 52, 53, 54, 55, 56, 57, 48, 49, 50, 51, 52, 53, 54, 55, 56, 57, 48, 49, 50, 51, 52, 53, 54, 55, 56, 57, 48, 49, 50, 51, 52, 53, 54, 55, 56, 57, 48, 49, 50, 51, 52, 53, 54, 55, 56, 57, 48, 49, 50, 51, 52, 53, 54, 55, 56, 57, 48, 49, 50, 51, 52, 53, 54, 55, 56, 57, 48, 49, 50, 51, 52, 53, 54, 55, 56, 57, 48, 49, 50, 51, 52, 53, 54, 55, 56, 57], w ∈ flatC narrow_1 := dk 9 103 (by rfl)
theorem dg_DigitOnes {args : Array Value} {s : State} {A : Nat → Prop} (hts : ∀ w ∈ lw_tbl, w.before args s = true) (hn : ∀ w ∈ flatC narrow_1, w.before args s = true) (hA : ∀ a : Nat, a < s.heap.size → ¬ A a) : ∃ t : Nat, va_Z "java/lang/Integer" "DigitOnes" "[B" (.ref t) A s s.heap ∧ va_T .byte t 100 (fun j => .int (dgO j)) A s s.heap := dq_ok (byt := [48, 49, 50, 51, 52, 53, 54, 55, 56, 57, 48, 49, 50, 51, 52, 53, 54, 55, 56, 57, 48, 49, 50, 51, 52, 53, 54, 55, 56, 57, 48, 49, 50, 51, 52, 53, 54, 55, 56, 57, 48, 49, 50, 51, 52, 53, 54, 55, 56, 57, 48, 49, 50, 51, 52, 53, 54, 55, 56, 57, 48, 49, 50, 51, 52, 53, 54, 55, 56, 57, 48, 49, 50, 51, 52, 53, 54, 55, 56, 57, 48, 49, 50, 51, 52, 53, 54, 55, 56, 57, 48, 49, 50, 51, 52, 53, 54, 55, 56, 57]) rfl (by decide +kernel) (hts _ (q5 (List.mem_of_getElem? (i := 167) rfl))) (hts _ (q1 (List.mem_of_getElem? (i := 32) rfl))) (fun w hw => hn w (nz_DigitOnes w hw)) hA
set_option maxRecDepth 200000 in
theorem nz_DigitTens : ∀ w ∈ dq "java/lang/Integer" "DigitTens" [48, 48, 48, 48, 48, 48, 48, 48, 48, 48, 49, 49, 49, 49, 49, 49, 49, 49, 49, 49, 50, 50, 50, 50, 50, 50, 50, 50, 50, 50, 51, 51, 51, 51, 51, 51, 51, 51, 51, 51, 52, 52, 52, 52, 52, 52, 52, 52, 52, 52, 53, 53, 53, 53, 53, 53, 53, 53, 53, 53, 54, 54, 54, 54, 54, 54, 54, 54, 54, 54, 55, 55, 55, 55, 55, 55, 55, 55, 55, 55, 56, 56, 56, 56, 56, 56, 56, 56, 56, 56, 57, 57, 57, 57, 57, 57, 57, 57, 57, 57], w ∈ flatC narrow_1 := dk 112 103 (by rfl)
theorem dg_DigitTens {args : Array Value} {s : State} {A : Nat → Prop} (hts : ∀ w ∈ lw_tbl, w.before args s = true) (hn : ∀ w ∈ flatC narrow_1, w.before args s = true) (hA : ∀ a : Nat, a < s.heap.size → ¬ A a) : ∃ t : Nat, va_Z "java/lang/Integer" "DigitTens" "[B" (.ref t) A s s.heap ∧ va_T .byte t 100 (fun j => .int (dgT j)) A s s.heap := dq_ok (byt := [48, 48, 48, 48, 48, 48, 48, 48, 48, 48, 49, 49, 49, 49, 49, 49, 49, 49, 49, 49, 50, 50, 50, 50, 50, 50, 50, 50, 50, 50, 51, 51, 51, 51, 51, 51, 51, 51, 51, 51, 52, 52, 52, 52, 52, 52, 52, 52, 52, 52, 53, 53, 53, 53, 53, 53, 53, 53, 53, 53, 54, 54, 54, 54, 54, 54, 54, 54, 54, 54, 55, 55, 55, 55, 55, 55, 55, 55, 55, 55, 56, 56, 56, 56, 56, 56, 56, 56, 56, 56, 57, 57, 57, 57, 57, 57, 57, 57, 57, 57]) rfl (by decide +kernel) (hts _ (q5 (List.mem_of_getElem? (i := 169) rfl))) (hts _ (q1 (List.mem_of_getElem? (i := 32) rfl))) (fun w hw => hn w (nz_DigitTens w hw)) hA
theorem nw_c {P : Cond → Prop} {l : List Cond} {c : Cond} (h : P c) (hl : ∀ w, w ∈ l → P w) : ∀ w, w ∈ c :: l → P w := fun w hw => (List.mem_cons.mp hw).elim (fun e => e ▸ h) (hl w)
theorem nw_all {args : Array Value} {s : State} (hts : ∀ w ∈ lw_tbl, w.before args s = true) : NW s := (nw_c (va_Nw.of rfl (hts _ (q1 (List.mem_of_getElem? (i := 72) rfl)))) (nw_c (va_Nw.of rfl (hts _ (q1 (List.mem_of_getElem? (i := 43) rfl)))) (nw_c (va_Nw.of rfl (hts _ (q1 (List.mem_of_getElem? (i := 78) rfl)))) (nw_c (va_Nw.of rfl (hts _ (q1 (List.mem_of_getElem? (i := 112) rfl)))) (nw_c (va_Nw.of rfl (hts _ (q1 (List.mem_of_getElem? (i := 147) rfl)))) (nw_c (va_Nw.of rfl (hts _ (q1 (List.mem_of_getElem? (i := 57) rfl)))) (nw_c (va_Nw.of rfl (hts _ (q1 (List.mem_of_getElem? (i := 60) rfl)))) (nw_c (va_Nw.of rfl (hts _ (q1 (List.mem_of_getElem? (i := 63) rfl)))) (nw_c (va_Nw.of rfl (hts _ (q2 (List.mem_of_getElem? (i := 132) rfl)))) (nw_c (va_Nw.of rfl (hts _ (q2 (List.mem_of_getElem? (i := 13) rfl)))) (nw_c (va_Nw.of rfl (hts _ (q2 (List.mem_of_getElem? (i := 187) rfl)))) (nw_c (va_Nw.of rfl (hts _ (q2 (List.mem_of_getElem? (i := 188) rfl)))) (nw_c (va_Nw.of rfl (hts _ (q2 (List.mem_of_getElem? (i := 189) rfl)))) (nw_c (va_Nw.of rfl (hts _ (q2 (List.mem_of_getElem? (i := 190) rfl)))) (nw_c (va_Nw.of rfl (hts _ (q4 (List.mem_of_getElem? (i := 100) rfl)))) (nw_c (va_Nw.of rfl (hts _ (q6 (List.mem_of_getElem? (i := 75) rfl)))) (nw_c (va_Nw.of rfl (hts _ (q6 (List.mem_of_getElem? (i := 33) rfl)))) (nw_c (va_Nw.of rfl (hts _ (q6 (List.mem_of_getElem? (i := 55) rfl)))) (nw_c (va_Nw.of rfl (hts _ (q3 (List.mem_of_getElem? (i := 194) rfl)))) (nw_c (va_Nw.of rfl (hts _ (q3 (List.mem_of_getElem? (i := 218) rfl)))) (nw_c (va_Nw.of rfl (hts _ (q6 (List.mem_of_getElem? (i := 98) rfl)))) (nw_c (va_Nw.of rfl (hts _ (q2 (List.mem_of_getElem? (i := 144) rfl)))) (nw_c (va_Nw.of rfl (hts _ (q2 (List.mem_of_getElem? (i := 201) rfl)))) (nw_c (va_Nw.of rfl (hts _ (q3 (List.mem_of_getElem? (i := 43) rfl)))) (nw_c (va_Nw.of rfl (hts _ (q3 (List.mem_of_getElem? (i := 44) rfl)))) (nw_c (va_Nw.of rfl (hts _ (q3 (List.mem_of_getElem? (i := 49) rfl)))) (nw_c (va_Nw.of rfl (hts _ (q6 (List.mem_of_getElem? (i := 97) rfl)))) (nw_c (va_Nw.of rfl (hts _ (q2 (List.mem_of_getElem? (i := 26) rfl)))) (nw_c (va_Nw.of rfl (hts _ (q2 (List.mem_of_getElem? (i := 98) rfl)))) (nw_c (va_Nw.of rfl (hts _ (q2 (List.mem_of_getElem? (i := 114) rfl)))) (nw_c (va_Nw.of rfl (hts _ (q3 (List.mem_of_getElem? (i := 102) rfl)))) (nw_c (va_Nw.of rfl (hts _ (q3 (List.mem_of_getElem? (i := 176) rfl)))) (nw_c (va_Nw.of rfl (hts _ (q4 (List.mem_of_getElem? (i := 210) rfl)))) (nw_c (va_Nw.of rfl (hts _ (q2 (List.mem_of_getElem? (i := 28) rfl)))) (nw_c (va_Nw.of rfl (hts _ (q2 (List.mem_of_getElem? (i := 30) rfl)))) (nw_c (va_Nw.of rfl (hts _ (q2 (List.mem_of_getElem? (i := 32) rfl)))) (nw_c (va_Nw.of rfl (hts _ (q2 (List.mem_of_getElem? (i := 3) rfl)))) (nw_c (va_Nw.of rfl (hts _ (q2 (List.mem_of_getElem? (i := 4) rfl)))) (nw_c (va_Nw.of rfl (hts _ (q2 (List.mem_of_getElem? (i := 155) rfl)))) (nw_c (va_Nw.of rfl (hts _ (q3 (List.mem_of_getElem? (i := 94) rfl)))) (nw_c (va_Nw.of rfl (hts _ (q4 (List.mem_of_getElem? (i := 198) rfl)))) (nw_c (va_Nw.of rfl (hts _ (q3 (List.mem_of_getElem? (i := 169) rfl)))) (fun _ h => nomatch h)))))))))))))))))))))))))))))))))))))))))))
theorem ku_0 : ∀ w ∈ u_ws RJ0 TJ0 4, w ∈ lw_tbl := (fa_c (q2 (List.mem_of_getElem? (i := 172) rfl)) (fa_c (q2 (List.mem_of_getElem? (i := 174) rfl)) (fa_c (q5 (List.mem_of_getElem? (i := 233) rfl)) (fa_c (q5 (List.mem_of_getElem? (i := 235) rfl)) (fun _ h => nomatch h)))))
theorem ku_1 : ∀ w ∈ u_ws RJ4 TJ4 4, w ∈ lw_tbl := (fa_c (q1 (List.mem_of_getElem? (i := 174) rfl)) (fa_c (q1 (List.mem_of_getElem? (i := 176) rfl)) (fa_c (q1 (List.mem_of_getElem? (i := 178) rfl)) (fa_c (q1 (List.mem_of_getElem? (i := 180) rfl)) (fun _ h => nomatch h)))))
theorem ku_2 : ∀ w ∈ u_ws RJx00060 TJx00060 6, w ∈ lw_tbl := (fa_c (q2 (List.mem_of_getElem? (i := 160) rfl)) (fa_c (q2 (List.mem_of_getElem? (i := 161) rfl)) (fa_c (q2 (List.mem_of_getElem? (i := 162) rfl)) (fa_c (q2 (List.mem_of_getElem? (i := 163) rfl)) (fa_c (q2 (List.mem_of_getElem? (i := 164) rfl)) (fa_c (q2 (List.mem_of_getElem? (i := 165) rfl)) (fun _ h => nomatch h)))))))
theorem ku_3 : ∀ w ∈ u_ws RJx7c733 TJx7c733 6, w ∈ lw_tbl := (fa_c (q5 (List.mem_of_getElem? (i := 239) rfl)) (fa_c (q6 (List.mem_of_getElem? (i := 0) rfl)) (fa_c (q6 (List.mem_of_getElem? (i := 1) rfl)) (fa_c (q6 (List.mem_of_getElem? (i := 2) rfl)) (fa_c (q6 (List.mem_of_getElem? (i := 3) rfl)) (fa_c (q6 (List.mem_of_getElem? (i := 4) rfl)) (fun _ h => nomatch h)))))))
theorem ku_4 : ∀ w ∈ u_ws RX0 TX0 1, w ∈ lw_tbl := (fa_c (q1 (List.mem_of_getElem? (i := 67) rfl)) (fun _ h => nomatch h))
theorem ku_5 : ∀ w ∈ u_ws RX1 TX1 3, w ∈ lw_tbl := (fa_c (q1 (List.mem_of_getElem? (i := 101) rfl)) (fa_c (q1 (List.mem_of_getElem? (i := 103) rfl)) (fa_c (q1 (List.mem_of_getElem? (i := 105) rfl)) (fun _ h => nomatch h))))
theorem ku_6 : ∀ w ∈ u_ws RX2 TX2 2, w ∈ lw_tbl := (fa_c (q1 (List.mem_of_getElem? (i := 84) rfl)) (fa_c (q1 (List.mem_of_getElem? (i := 86) rfl)) (fun _ h => nomatch h)))
theorem ku_7 : ∀ w ∈ u_ws RX3 TX3 1, w ∈ lw_tbl := (fa_c (q1 (List.mem_of_getElem? (i := 185) rfl)) (fun _ h => nomatch h))
theorem ku_8 : ∀ w ∈ u_ws RX4 TX4 9, w ∈ lw_tbl := (fa_c (q1 (List.mem_of_getElem? (i := 125) rfl)) (fa_c (q1 (List.mem_of_getElem? (i := 127) rfl)) (fa_c (q1 (List.mem_of_getElem? (i := 129) rfl)) (fa_c (q1 (List.mem_of_getElem? (i := 131) rfl)) (fa_c (q1 (List.mem_of_getElem? (i := 133) rfl)) (fa_c (q1 (List.mem_of_getElem? (i := 135) rfl)) (fa_c (q1 (List.mem_of_getElem? (i := 137) rfl)) (fa_c (q1 (List.mem_of_getElem? (i := 139) rfl)) (fa_c (q1 (List.mem_of_getElem? (i := 141) rfl)) (fun _ h => nomatch h))))))))))
theorem ku_9 : ∀ w ∈ u_ws RX5 TX5 1, w ∈ lw_tbl := (fa_c (q1 (List.mem_of_getElem? (i := 73) rfl)) (fun _ h => nomatch h))
theorem ku_10 : ∀ w ∈ u_ws RX6 TX6 11, w ∈ lw_tbl := (fa_c (q1 (List.mem_of_getElem? (i := 199) rfl)) (fa_c (q1 (List.mem_of_getElem? (i := 201) rfl)) (fa_c (q1 (List.mem_of_getElem? (i := 203) rfl)) (fa_c (q1 (List.mem_of_getElem? (i := 205) rfl)) (fa_c (q1 (List.mem_of_getElem? (i := 207) rfl)) (fa_c (q1 (List.mem_of_getElem? (i := 209) rfl)) (fa_c (q1 (List.mem_of_getElem? (i := 211) rfl)) (fa_c (q1 (List.mem_of_getElem? (i := 213) rfl)) (fa_c (q1 (List.mem_of_getElem? (i := 215) rfl)) (fa_c (q1 (List.mem_of_getElem? (i := 217) rfl)) (fa_c (q1 (List.mem_of_getElem? (i := 219) rfl)) (fun _ h => nomatch h))))))))))))
theorem cl_c {P : vw_C → Prop} {l : List vw_C} {c : vw_C} (h : P c) (hl : ∀ w, w ∈ l → P w) : ∀ w, w ∈ c :: l → P w := fun w hw => (List.mem_cons.mp hw).elim (fun e => e ▸ h) (hl w)
theorem cl_all {args : Array Value} {s : State} (hts : ∀ w ∈ lw_tbl, w.before args s = true) : ∀ r : vw_C, r ∈ vwCl → ∃ (cC : ClassId) (iS : Nat → Nat), u_Kn s r.1 r.2.1 r.2.2 cC iS :=
  (cl_c (u_known (n := 4) hts ku_0 (hts _ (q2 (List.mem_of_getElem? (i := 171) rfl))))
  (cl_c (u_known (n := 4) hts ku_1 (hts _ (q1 (List.mem_of_getElem? (i := 152) rfl))))
  (cl_c (u_known (n := 6) hts ku_2 (hts _ (q2 (List.mem_of_getElem? (i := 156) rfl))))
  (cl_c (u_known (n := 6) hts ku_3 (hts _ (q5 (List.mem_of_getElem? (i := 51) rfl))))
  (cl_c (u_known (n := 1) hts ku_4 (hts _ (q1 (List.mem_of_getElem? (i := 48) rfl))))
  (cl_c (u_known (n := 3) hts ku_5 (hts _ (q1 (List.mem_of_getElem? (i := 90) rfl))))
  (cl_c (u_known (n := 2) hts ku_6 (hts _ (q1 (List.mem_of_getElem? (i := 77) rfl))))
  (cl_c (u_known (n := 1) hts ku_7 (hts _ (q1 (List.mem_of_getElem? (i := 146) rfl))))
  (cl_c (u_known (n := 9) hts ku_8 (hts _ (q1 (List.mem_of_getElem? (i := 111) rfl))))
  (cl_c (u_known (n := 1) hts ku_9 (hts _ (q1 (List.mem_of_getElem? (i := 42) rfl))))
  (cl_c (u_known (n := 11) hts ku_10 (hts _ (q1 (List.mem_of_getElem? (i := 34) rfl))))
  (fun _ h => nomatch h))))))))))))
theorem cl_k {args : Array Value} {s : State} (hts : ∀ w ∈ lw_tbl, w.before args s = true) : ∃ D : va_G, ∀ (c : Nat) (q : vw_C), vwCl[c]? = some q → u_Kn s q.1 q.2.1 q.2.2 (D.1 c) (D.2 c) := by
  have h0 : ∀ i : Nat, ∃ q : ClassId × (Nat → Nat), ∀ r : vw_C, vwCl[i]? = some r → u_Kn s r.1 r.2.1 r.2.2 q.1 q.2 := fun i => by
    cases hi : vwCl[i]? with
    | none => exact ⟨(0, fun _ => 0), fun x h => by cases h⟩
    | some y =>
      obtain ⟨cC, iS, hq⟩ := cl_all hts y (List.mem_of_getElem? hi)
      exact ⟨(cC, iS), fun x h => by cases h; exact hq⟩
  obtain ⟨f, hf⟩ := Classical.axiomOfChoice h0
  exact ⟨(fun c => (f c).1, fun c => (f c).2), hf⟩
theorem ac_prim {args : Array Value} {s : State} {ty : FieldType} (hp : ∀ C, ty ≠ .object C) (h : (Cond.arrayClass ty).before args s = true) : ∃ c : ClassId, ArrOfT s c ty ∧ va_RA s c ty := by
  obtain ⟨c, k, comp, h1, h2, h3⟩ := Cond.arrayClass_spec h
  refine ⟨c, fun n z => ⟨fun k h => (by cases h), k, h2, comp, h3⟩, ?_⟩
  cases ty <;> first | exact h1 | exact absurd rfl (hp _)
theorem ac_obj {args : Array Value} {s : State} {C : String} (h : (Cond.arrayOver (.object C)).before args s = true) : ∃ c : ClassId, ArrOfT s c (.object C) ∧ va_RA s c (.object C) := by
  obtain ⟨comp, c, k, h1, -, h3, h4, h5⟩ := Cond.arrayOver_spec h
  exact ⟨c, fun n z => ⟨fun k h => (by cases h), k, h3, comp, h4⟩, k, comp, h3, h4, h1, h5⟩
theorem nc_c {P : String × String → Prop} {l : List (String × String)} {c : String × String} (h : P c) (hl : ∀ w, w ∈ l → P w) : ∀ w, w ∈ c :: l → P w := fun w hw => (List.mem_cons.mp hw).elim (fun e => e ▸ h) (hl w)
set_option maxRecDepth 200000 in
theorem nc_all {args : Array Value} {s : State} (hn : ∀ w ∈ flatC narrow_1, w.before args s = true) : ∀ q, q ∈ ncW → va_Nc q.1 q.2 s := (nc_c (va_Nc.of (hn _ (di 225 (by rfl)))) (nc_c (va_Nc.of (hn _ (di 256 (by rfl)))) (nc_c (va_Nc.of (hn _ (di 257 (by rfl)))) (nc_c (va_Nc.of (hn _ (di 258 (by rfl)))) (nc_c (va_Nc.of (hn _ (di 226 (by rfl)))) (fun _ h => nomatch h))))))
set_option maxRecDepth 200000 in
/-- the ground of all contracts, at the law's entry -/
theorem ge_start {args : Array Value} {s : State} {A : Nat → Prop} {b L : Nat} {xs : Nat → Int32} (hts : ∀ w ∈ lw_tbl, w.before args s = true) (hn : ∀ w ∈ flatC narrow_1, w.before args s = true) (hA : ∀ a : Nat, a < s.heap.size → ¬ A a) (hX : va_X b L xs s s.heap) : ∃ (D : va_G) (k : tyK), GE D k A s ∧ kB k = b ∧ kL k = L ∧ kX k = xs := by
  obtain ⟨D, hD⟩ := cl_k hts
  obtain ⟨f, hf⟩ := str_k hts hn hA
  obtain ⟨tO, hO⟩ := dg_DigitOnes hts hn hA
  obtain ⟨tT, hT⟩ := dg_DigitTens hts hn hA
  obtain ⟨cI, hI⟩ := ac_prim (ty := .int) (fun C h => by cases h) (hts _ (q1 (List.mem_of_getElem? (i := 70) rfl)))
  obtain ⟨cC, hC⟩ := ac_prim (ty := .char) (fun C h => by cases h) (hts _ (q1 (List.mem_of_getElem? (i := 144) rfl)))
  obtain ⟨cB, hB⟩ := ac_prim (ty := .byte) (fun C h => by cases h) (hts _ (q1 (List.mem_of_getElem? (i := 183) rfl)))
  obtain ⟨cQ, hQ⟩ := ac_obj (C := "TheatreSaga$Books") (hts _ (q1 (List.mem_of_getElem? (i := 96) rfl)))
  obtain ⟨scr, x1, x2, x3, x4, x5⟩ := hX
  have hb : b < s.heap.size := (Array.getElem?_eq_some_iff.mp x1).1
  refine ⟨D, (cI, cC, cB, cQ, (fun i => (f i).1), (fun i => (f i).2), tO, tT, b, L, xs), ⟨⟨hD, ?_⟩, nw_all hts, fun i x hx => hf i x hx, ?_, ?_, hO, hT, ?_, ?_, nc_all hn, ?_, ?_⟩, rfl, rfl, rfl⟩
  · intro k q hk
    match k, hk with
    | 0, hk => cases hk; exact hI
    | 1, hk => cases hk; exact hC
    | 2, hk => cases hk; exact hB
    | 3, hk => cases hk; exact hQ
    | k + 4, hk => cases hk
  · exact vx_Zqof (hts _ (q2 (List.mem_of_getElem? (i := 51) rfl))) (hts _ (q1 (List.mem_of_getElem? (i := 12) rfl))) (hn _ (di 3 (by rfl))) hA
  · exact vx_Zqof (hts _ (q2 (List.mem_of_getElem? (i := 53) rfl))) (hts _ (q1 (List.mem_of_getElem? (i := 12) rfl))) (hn _ (di 4 (by rfl))) hA
  · exact va_Zof (hts _ (q1 (List.mem_of_getElem? (i := 161) rfl))) (hts _ (q1 (List.mem_of_getElem? (i := 10) rfl))) (va_eqt (hn _ (di 2 (by rfl)))) hA
  · exact va_Zqof (hts _ (q4 (List.mem_of_getElem? (i := 22) rfl))) (hts _ (q1 (List.mem_of_getElem? (i := 22) rfl))) (hn _ (di 5 (by rfl))) hA
  · exact va_AO.of (hts _ (q1 (List.mem_of_getElem? (i := 96) rfl)))
  · exact ⟨scr, x1, x2, x3, by rw [x4]; exact Nat.le_refl _, (congrArg (fun z => Nat.toInt32 z) x4 : _), x5, hA b hb⟩
end TSstart
