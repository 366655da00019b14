section
/-! line: what may throw and leaves free parts. -/
section TSlineS
variable {p : Program} {l : Launch} {e : Env} {R : Room} {s : State} {m : MethodId} {args : Array Value} {below : List Frame} {meth : Method} {c : Code} {H : Heap} {locs : List Loc} {cells slots : Nat} {Q : State → Prop} {D : va_G} {k : tyK} {A : Nat → Prop} {cc : ByteArray} {pc : Nat} {ls : Array Slot} {rest st0 : List Value} {a : Array Value} {mc ms : Nat} {ws wc : va_W}
def XBS {S : Type} (D : va_G) (X : Option String) (post : S → Prop) (W1 : S → va_W) (A : Nat → Prop) : String → State → State → Prop := vx_X post (fun E u t => X = some E ∧ va_P D vwCl (W1 u) t.heap ∧ va_D A (W1 u)) A
def FOiS {S : Type} (l : Launch) (y : MethodName) (ws : List Cond) (rm : Room) (D : va_G) (k : tyK) (av : List Value) (W0 : va_W) (X : Option String) (r0 : Int32) (post : S → Prop) (W1 : S → va_W) : Prop :=
  ∀ sz : Nat, vx_Met l y ws rm (va_Pc av (PcW D k W0 sz)) (va_Qi (fun r (u : S) => X = none ∧ r = r0 ∧ post u) (Bt D W1 (va_A W0 sz)) (va_A W0 sz)) (XBS D X post W1 (va_A W0 sz)) rm.cells rm.slots (va_A W0 sz)
theorem fo_iretS {S : Type} {post : S → Prop} {W1 : S → va_W} {X : Option String} {r0 v : Int32} {XC : String → State → State → Prop} {ty : FieldType} (hx : p.tables.exec = Jvm.exec) (hb : c.code = cc) (hr : meth.sig.returnType = some ty) (hn : narrow ty (.int v) = .int v) (hl : meth.locks = false) (hS : va_S A s.heap H locs) (u : S) (hpost : post u) (hX : X = none) (hv : v = r0) (hP : va_P D vwCl (W1 u) H) (hD : va_D A (W1 u)) (h1 : cells ≤ mc) (h2 : slots ≤ ms) (hdg : decode cc pc = .ok (.ireturn, 1)) :
    W p l e R s m args below meth c H locs cells slots (vx_MQ below (va_Qi (fun r (u : S) => X = none ∧ r = r0 ∧ post u) (Bt D W1 A) A) XC args s mc ms A) (F0 m pc ls [.int v]) :=
  vx_ret (fc_iret hx hb hr hn hl hS u ⟨hX, hv, hpost⟩ hP hD h1 h2 hdg)
theorem fo_XBS {S : Type} {post : S → Prop} {W1 : S → va_W} {X : Option String} {E : String} {t : State} (hS : va_S A s.heap H locs) (u : S) (hpost : post u) (hX : X = some E) (hP : va_P D vwCl (W1 u) H) (hD : va_D A (W1 u)) (h1 : H.size ≤ t.heap.size) (h2 : ∀ q : Nat, q < H.size → t.heap[q]? = H[q]?) : XBS D X post W1 A E s t :=
  ⟨u, hpost, ⟨hX, hP.kept (fun j q hj => h2 q.1 (hP j q hj).lt), hD⟩, Nat.le_trans hS.1 h1, fun q hq hA => (h2 q (Nat.lt_of_lt_of_le hq hS.1)).trans (hS.2.1 q hq hA)⟩
theorem fo_outS {S : Type} {post : S → Prop} {W1 : S → va_W} {X : Option String} {Qc : Array Value → State → Outcome → State → Prop} {E : String} {ce : Cell} {q : Addr} (hout : ∀ x ∈ c.exceptionTable.toList, False) (hlocks : meth.locks = false) (hcell : H[q]? = some ce) (hv : ce.vm = .none) (hcl : s.vm.findClass E = some ce.cls) (hS : va_S A s.heap H locs) (u : S) (hpost : post u) (hX : X = some E) (hP : va_P D vwCl (W1 u) H) (hD : va_D A (W1 u)) (hc : cells ≤ mc) (hs : slots ≤ ms) :
    vx_W p l e R s m args below meth c H locs cells slots (vx_MQ below Qc (XBS D X post W1 A) args s mc ms A) (F0 m pc ls rest) q :=
  vx_out (fun x hx => (hout x hx).elim) hlocks hcell hv hcl (fun t ht _ => fo_XBS hS u hpost hX hP hD (by rw [ht]; exact Nat.le_refl _) (fun q _ => by rw [ht])) hS.2.2 hc hs
end TSlineS
/-- how many steps -/
def nSt (f : Nat → Int32) (it : Int32) : Nat := (F_X0_get f (F_X6_ofTour it (2 : Int32))).toNatClampNeg
/-- a tour whose line can be written -/
def LineOK (f : Nat → Int32) (it : Int32) : Prop := SBn it ∧ nSt f it ≤ 8 ∧ F_X0_get f (F_X6_ofTour it (2 : Int32)) = nI (nSt f it) ∧ ∀ j, j < nSt f it → SBn (F_X0_get f (F_X6_ofStep it (nI j) (1 : Int32))) ∧ SBn (F_X0_get f (F_X6_ofStep it (nI j) (2 : Int32))) ∧ SBn (F_X0_get f (F_X6_ofStep it (nI j) (3 : Int32)))

abbrev rm_X6_line : Room := { frames := 8, cells := 67, slots := 9378, locals := 214 }
theorem in_X6_line_X6 : ∀ w ∈ wsX60, w ∈ wsX6_line := by decide +kernel
theorem lk_X6_line_20 : (Cond.fieldLink RX6 20 "TheatreSaga" "books" "LTheatreSaga$Books;") ∈ wsX6_line := by decide +kernel
theorem lk_X6_line_61 : (Cond.fieldLink RX6 61 "TheatreSaga" "latestLine" "LTheatreSaga$Line;") ∈ wsX6_line := by decide +kernel
def F_X6_line (hs : Int32) (fk : Int32) (f : (Nat → Int32)) (ml : Int32) (txt : (List Int32)) (it : Int32) : Option String × Int32 × Int32 × (List Int32) := (if (F_X6_needTour hs fk f it) = none then (none, (nI (F_X3_write (mlZ ml txt) f it (nSt f it)).length), (mlZ ml txt), (F_X3_write (mlZ ml txt) f it (nSt f it))) else ((F_X6_needTour hs fk f it), (0 : Int32), ml, txt))
set_option maxHeartbeats 4000000 in
set_option maxRecDepth 100000 in
theorem c_X6_line {l : Launch} {D : va_G} {k : tyK} (o t b t2 j h bt sn x ll r sb va : Nat) (cap : Nat) (yb : (Nat → Int32)) (hs : Int32) (fk : Int32) (f : (Nat → Int32)) (ml : Int32) (txt : (List Int32)) (it : Int32) (hlst : l.stackTraces = false) (ok : SBok txt cap yb) (hw : (F_X6_needTour hs fk f it) = none → LineOK f it) : FOiS l yX6_line wsX6_line rm_X6_line D k [.ref o, .int it] [(o, .inr (10, [.ref t, .ref b, .ref t2, .ref j, .ref h, .ref bt, .ref sn, .int hs, .ref x, .ref ll, .int fk])), (b, .inr (4, [.ref r])), (r, .inl (k.1, 628, .inl f)), (ll, .inr (7, [.ref sb])), (sb, .inr (1, [.ref va, .int (0 : Int32), .int ml, .int (nI txt.length)])), (va, .inl (k.2.2.1, cap, .inl yb))] (F_X6_line hs fk f ml txt it).1 (F_X6_line hs fk f ml txt it).2.1 (fun (u : Nat × Nat × (Nat → Int32)) => SBok (F_X6_line hs fk f ml txt it).2.2.2 u.2.1 u.2.2) (fun u => [(o, .inr (10, [.ref t, .ref b, .ref t2, .ref j, .ref h, .ref bt, .ref sn, .int hs, .ref x, .ref ll, .int fk])), (b, .inr (4, [.ref r])), (r, .inl (k.1, 628, .inl f)), (ll, .inr (7, [.ref sb])), (sb, .inr (1, [.ref u.1, .int (0 : Int32), .int (F_X6_line hs fk f ml txt it).2.2.1, .int (nI (F_X6_line hs fk f ml txt it).2.2.2.length)])), (u.1, .inl (k.2.2.1, u.2.1, .inl u.2.2))]) := by
  refine fo_start (cc := cX6_line) (maxL := 2) (ret := (some .int)) (own := RX6) (Qc := fun A => va_Qi (fun r (u : Nat × Nat × (Nat → Int32)) => (F_X6_line hs fk f ml txt it).1 = none ∧ r = (F_X6_line hs fk f ml txt it).2.1 ∧ SBok (F_X6_line hs fk f ml txt it).2.2.2 u.2.1 u.2.2) (Bt D (fun u => [(o, .inr (10, [.ref t, .ref b, .ref t2, .ref j, .ref h, .ref bt, .ref sn, .int hs, .ref x, .ref ll, .int fk])), (b, .inr (4, [.ref r])), (r, .inl (k.1, 628, .inl f)), (ll, .inr (7, [.ref sb])), (sb, .inr (1, [.ref u.1, .int (0 : Int32), .int (F_X6_line hs fk f ml txt it).2.2.1, .int (nI (F_X6_line hs fk f ml txt it).2.2.2.length)])), (u.1, .inl (k.2.2.1, u.2.1, .inl u.2.2))]) A) A) (XC := fun A => XBS D (F_X6_line hs fk f ml txt it).1 (fun (u : Nat × Nat × (Nat → Int32)) => SBok (F_X6_line hs fk f ml txt it).2.2.2 u.2.1 u.2.2) (fun u => [(o, .inr (10, [.ref t, .ref b, .ref t2, .ref j, .ref h, .ref bt, .ref sn, .int hs, .ref x, .ref ll, .int fk])), (b, .inr (4, [.ref r])), (r, .inl (k.1, 628, .inl f)), (ll, .inr (7, [.ref sb])), (sb, .inr (1, [.ref u.1, .int (0 : Int32), .int (F_X6_line hs fk f ml txt it).2.2.1, .int (nI (F_X6_line hs fk f ml txt it).2.2.2.length)])), (u.1, .inl (k.2.2.1, u.2.1, .inl u.2.2))]) A) (by decide) rfl rfl (Nat.le_of_ble_eq_true rfl) ?_
  intro p e s m below meth c A H hx hb hml hr hts hown hlk hout hA hP hE hD hS ls hl
  obtain ⟨RES, hF⟩ : ∃ z, (F_X6_line hs fk f ml txt it) = z := ⟨_, rfl⟩
  rw [hF]
  unfold F_X6_line at hF
  have hl : lv_has ls 2 [(0, .ref o), (1, .int it)] := hl
  obtain ⟨locs, hlocs⟩ : ∃ z : List Loc, z = [] := ⟨_, rfl⟩
  rw [← hlocs] at hS ⊢
  refine lv_aload_n hx hb dX6_line_0 rfl (lv_at hl 0 rfl) ?_
  refine lv_iload_n hx hb dX6_line_1 rfl (lv_at hl 1 rfl) ?_
  refine fo_cv (isC := [0, 1, 2]) (cells' := 1) (slots' := 6) (fo_runV (n := 1) (As := [.int it]) (rest := []) (isC := [0, 1, 2]) (maxL := 2) ⟨hx, hb, hml, hown, hts⟩ (c_X6_needTour o t b t2 j h bt sn x ll r hs fk f it hlst H.size) gX6_line_X6_needTour rfl (by decide +kernel) rfl ⟨Nat.le_of_ble_eq_true rfl, Nat.le_of_ble_eq_true rfl⟩ ⟨Nat.le_of_ble_eq_true rfl, Nat.le_of_ble_eq_true rfl⟩ hE hP hD hS hA rfl rfl (va_recv hE.1 hP (ci := 10) (q0 := 0) rfl rfl) hl rfl (Nat.le_of_ble_eq_true rfl) dX6_line_2) hP hD hS hA rfl rfl rfl rfl (fun E ce q9 H locs x_2 hP hD hS g1 g2 g3 => ?_) (fun H locs x_2 hP hD hS => ?_)
  · rw [if_neg (by rw [x_2]; exact fun z => nomatch z)] at hF
    dsimp only [fs, List.set] at hP hD
    have hP : va_P D vwCl [(o, .inr (10, [.ref t, .ref b, .ref t2, .ref j, .ref h, .ref bt, .ref sn, .int hs, .ref x, .ref ll, .int fk])), (b, .inr (4, [.ref r])), (r, .inl (k.1, 628, .inl f)), (ll, .inr (7, [.ref sb])), (sb, .inr (1, [.ref va, .int (0 : Int32), .int ml, .int (nI txt.length)])), (va, .inl (k.2.2.1, cap, .inl yb))] H := hP
    have hD : va_D A [(o, .inr (10, [.ref t, .ref b, .ref t2, .ref j, .ref h, .ref bt, .ref sn, .int hs, .ref x, .ref ll, .int fk])), (b, .inr (4, [.ref r])), (r, .inl (k.1, 628, .inl f)), (ll, .inr (7, [.ref sb])), (sb, .inr (1, [.ref va, .int (0 : Int32), .int ml, .int (nI txt.length)])), (va, .inl (k.2.2.1, cap, .inl yb))] := hD
    subst hF
    exact fo_outS hout hlk g1 g2 g3 hS (va, cap, yb) ok x_2 hP hD (by decide) (by decide)
  rw [if_pos x_2] at hF
  dsimp only [fs, List.set] at hP hD
  have hP : va_P D vwCl [(o, .inr (10, [.ref t, .ref b, .ref t2, .ref j, .ref h, .ref bt, .ref sn, .int hs, .ref x, .ref ll, .int fk])), (b, .inr (4, [.ref r])), (r, .inl (k.1, 628, .inl f)), (ll, .inr (7, [.ref sb])), (sb, .inr (1, [.ref va, .int (0 : Int32), .int ml, .int (nI txt.length)])), (va, .inl (k.2.2.1, cap, .inl yb))] H := hP
  have hD : va_D A [(o, .inr (10, [.ref t, .ref b, .ref t2, .ref j, .ref h, .ref bt, .ref sn, .int hs, .ref x, .ref ll, .int fk])), (b, .inr (4, [.ref r])), (r, .inl (k.1, 628, .inl f)), (ll, .inr (7, [.ref sb])), (sb, .inr (1, [.ref va, .int (0 : Int32), .int ml, .int (nI txt.length)])), (va, .inl (k.2.2.1, cap, .inl yb))] := hD
  refine lv_aload_n hx hb dX6_line_5 rfl (lv_at hl 0 rfl) ?_
  refine va_get (D := D) (ci := 10) (v := .ref ll) (C := RX6) (T := TX6) (N := 11) hx hb hts in_X6_line_X6 hown hE.1 hP 0 rfl rfl 9 (by decide) (hts _ lk_X6_line_61) (fun _ h9 => h9) rfl dX6_line_6 ?_
  refine lv_aload_n hx hb dX6_line_9 rfl (lv_at hl 0 rfl) ?_
  refine va_get (D := D) (ci := 10) (v := .ref b) (C := RX6) (T := TX6) (N := 11) hx hb hts in_X6_line_X6 hown hE.1 hP 0 rfl rfl 1 (by decide) (hts _ lk_X6_line_20) (fun _ h9 => h9) rfl dX6_line_10 ?_
  refine lv_iload_n hx hb dX6_line_13 rfl (lv_at hl 1 rfl) ?_
  obtain ⟨hit, hS8, hSv, hn⟩ := hw x_2
  refine fc_cv (isC := [3, 4, 5, 1, 2]) (cells' := 67) (slots' := 9378) (fc_runV (n := 2) (As := [.ref b, .int it]) (rest := []) (isC := [3, 4, 5, 1, 2]) (maxL := 5) ⟨hx, hb, hml, hown, hts⟩ (c_X3_write ll sb va b r cap yb ml txt f it ok hit (nSt f it) hS8 hSv hn H.size) gX6_line_X3_write rfl (by decide +kernel) rfl ⟨Nat.le_of_ble_eq_true rfl, Nat.le_of_ble_eq_true rfl⟩ ⟨Nat.le_of_ble_eq_true rfl, Nat.le_of_ble_eq_true rfl⟩ hE hP hD hS hA rfl rfl (va_recv hE.1 hP (ci := 7) (q0 := 3) rfl rfl) hl rfl (Nat.le_of_ble_eq_true rfl) dX6_line_14) hP hD hS hA rfl (fun _ => rfl) rfl rfl (fun u_9 H locs ok_9 hP hD hS => ?_)
  obtain ⟨va_9, cap_9, bt_9⟩ := u_9
  replace ok_9 : SBok (F_X3_write (mlZ ml txt) f it (nSt f it)) cap_9 bt_9 := ok_9
  dsimp only [fs, List.set] at hP hD
  have hP : va_P D vwCl [(o, .inr (10, [.ref t, .ref b, .ref t2, .ref j, .ref h, .ref bt, .ref sn, .int hs, .ref x, .ref ll, .int fk])), (b, .inr (4, [.ref r])), (r, .inl (k.1, 628, .inl f)), (ll, .inr (7, [.ref sb])), (sb, .inr (1, [.ref va_9, .int (0 : Int32), .int (mlZ ml txt), .int (nI (F_X3_write (mlZ ml txt) f it (nSt f it)).length)])), (va_9, .inl (k.2.2.1, cap_9, .inl bt_9))] H := hP
  have hD : va_D A [(o, .inr (10, [.ref t, .ref b, .ref t2, .ref j, .ref h, .ref bt, .ref sn, .int hs, .ref x, .ref ll, .int fk])), (b, .inr (4, [.ref r])), (r, .inl (k.1, 628, .inl f)), (ll, .inr (7, [.ref sb])), (sb, .inr (1, [.ref va_9, .int (0 : Int32), .int (mlZ ml txt), .int (nI (F_X3_write (mlZ ml txt) f it (nSt f it)).length)])), (va_9, .inl (k.2.2.1, cap_9, .inl bt_9))] := hD
  refine lv_aload_n hx hb dX6_line_17 rfl (lv_at hl 0 rfl) ?_
  refine va_get (D := D) (ci := 10) (v := .ref ll) (C := RX6) (T := TX6) (N := 11) hx hb hts in_X6_line_X6 hown hE.1 hP 0 rfl rfl 9 (by decide) (hts _ lk_X6_line_61) (fun _ h9 => h9) rfl dX6_line_18 ?_
  refine fc_ci (isC := [3, 4, 5]) (cells' := 67) (slots' := 9378) (fc_runV (n := 0) (As := []) (rest := []) (isC := [3, 4, 5]) (maxL := 1) ⟨hx, hb, hml, hown, hts⟩ (c_X3_length ll sb va_9 cap_9 (mlZ ml txt) (nI (F_X3_write (mlZ ml txt) f it (nSt f it)).length) bt_9 H.size) gX6_line_X3_length rfl (by decide +kernel) rfl ⟨Nat.le_of_ble_eq_true rfl, Nat.le_of_ble_eq_true rfl⟩ ⟨Nat.le_of_ble_eq_true rfl, Nat.le_of_ble_eq_true rfl⟩ hE hP hD hS hA rfl rfl (va_recv hE.1 hP (ci := 7) (q0 := 3) rfl rfl) hl rfl (Nat.le_of_ble_eq_true rfl) dX6_line_21) hP hD hS hA rfl (fun _ => rfl) rfl rfl (fun r_3 _ H locs hr_3 hP hD hS => ?_)
  obtain rfl : (nI (F_X3_write (mlZ ml txt) f it (nSt f it)).length) = r_3 := hr_3.symm
  dsimp only [fs, List.set] at hP hD
  have hP : va_P D vwCl [(o, .inr (10, [.ref t, .ref b, .ref t2, .ref j, .ref h, .ref bt, .ref sn, .int hs, .ref x, .ref ll, .int fk])), (b, .inr (4, [.ref r])), (r, .inl (k.1, 628, .inl f)), (ll, .inr (7, [.ref sb])), (sb, .inr (1, [.ref va_9, .int (0 : Int32), .int (mlZ ml txt), .int (nI (F_X3_write (mlZ ml txt) f it (nSt f it)).length)])), (va_9, .inl (k.2.2.1, cap_9, .inl bt_9))] H := hP
  have hD : va_D A [(o, .inr (10, [.ref t, .ref b, .ref t2, .ref j, .ref h, .ref bt, .ref sn, .int hs, .ref x, .ref ll, .int fk])), (b, .inr (4, [.ref r])), (r, .inl (k.1, 628, .inl f)), (ll, .inr (7, [.ref sb])), (sb, .inr (1, [.ref va_9, .int (0 : Int32), .int (mlZ ml txt), .int (nI (F_X3_write (mlZ ml txt) f it (nSt f it)).length)])), (va_9, .inl (k.2.2.1, cap_9, .inl bt_9))] := hD
  subst hF
  exact fo_iretS hx hb hr rfl hlk hS (va_9, cap_9, bt_9) ok_9 rfl rfl hP hD (by decide) (by decide) dX6_line_24
end
