section
def lnStep (ml : Int32) (f : Nat → Int32) (it bk : Int32) (txt : List Int32) (j : Nat) : List Int32 := if (nI j) = (bk - (1 : Int32)) then ((F_X3_writeStep ml txt f it (nI j)) ++ [(124 : Int32)]) else (F_X3_writeStep ml txt f it (nI j))
def lnLoop (ml : Int32) (f : Nat → Int32) (it bk : Int32) : Nat → Nat → List Int32 → List Int32
  | 0, _, t => t
  | n + 1, j, t => lnLoop ml f it bk n (j + 1) (lnStep ml f it bk t j)
/-- the letters of a tour of S steps -/
def F_X3_write (ml : Int32) (f : Nat → Int32) (it : Int32) (S : Nat) : List Int32 := lnLoop ml f it (F_X0_get f (F_X6_ofTour it (3 : Int32))) S 0 (([] ++ sbI it) ++ [F_X3_conditionSign (F_X0_get f (F_X6_ofTour it (0 : Int32)))])
abbrev rm_X3_write : Room := { frames := 7, cells := 66, slots := 9372, locals := 190 }
theorem in_X3_write_X3 : ∀ w ∈ wsX30, w ∈ wsX3_write := by decide +kernel
theorem lk_X3_write_12 : (Cond.fieldLink RX3 12 "TheatreSaga$Line" "signs" "Ljava/lang/StringBuilder;") ∈ wsX3_write := by decide +kernel
set_option maxHeartbeats 4000000 in
set_option maxRecDepth 100000 in
theorem lp_X3_write {p : Program} {l : Launch} {e : Env} {s : State} {m : MethodId} {args : Array Value} {below : List Frame} {meth : Method} {c : Code} {D : va_G} {k : tyK} {A : Nat → Prop} (hx : p.tables.exec = Jvm.exec) (hb : c.code = cX3_write) (hml : c.maxLocals = 5) (hr : meth.sig.returnType = none) (hts : ∀ w ∈ wsX3_write, w.before args s = true) (hown : s.vm.findClass RX3 = some m.cls) (hlk : meth.locks = false) (hA : ∀ q : Nat, s.heap.size ≤ q → A q) (hE : GE D k A s) (ln sb b r : Nat) (ml : Int32) (f : Nat → Int32) (it bk : Int32) (S : Nat) (hS8 : S ≤ 8) (hSv : F_X0_get f (F_X6_ofTour it (2 : Int32)) = nI S) (hn : ∀ j, j < S → SBn (F_X0_get f (F_X6_ofStep it (nI j) (1 : Int32))) ∧ SBn (F_X0_get f (F_X6_ofStep it (nI j) (2 : Int32))) ∧ SBn (F_X0_get f (F_X6_ofStep it (nI j) (3 : Int32)))) :
    ∀ (n j : Nat), n + j = S → ∀ (va cap : Nat) (bt : Nat → Int32) (txt : List Int32), SBok txt cap bt → txt.length ≤ 3 + 11 * j → ∀ (RES : List Int32), lnLoop ml f it bk n j txt = RES → ∀ (H : Heap) (locs : List Loc), va_P D vwCl [(ln, .inr (7, [.ref sb])), (sb, .inr (1, [.ref va, .int (0 : Int32), .int ml, .int (nI txt.length)])), (va, .inl (k.2.2.1, cap, .inl bt)), (b, .inr (4, [.ref r])), (r, .inl (k.1, 628, .inl f))] H → va_D A [(ln, .inr (7, [.ref sb])), (sb, .inr (1, [.ref va, .int (0 : Int32), .int ml, .int (nI txt.length)])), (va, .inl (k.2.2.1, cap, .inl bt)), (b, .inr (4, [.ref r])), (r, .inl (k.1, 628, .inl f))] → va_S A s.heap H locs → ∀ ls : Array Slot, lv_has ls 5 [(4, .int (nI j)), (3, .int bk), (0, .ref ln), (1, .ref b), (2, .int it)] → W p l e rm_X3_write s m args below meth c H locs (2 + 8 * j) (284 + 1136 * j) (MQ below (va_Qv (fun (u : Nat × Nat × (Nat → Int32)) => SBok RES u.2.1 u.2.2) (Bt D (fun u => [(ln, .inr (7, [.ref sb])), (sb, .inr (1, [.ref u.1, .int (0 : Int32), .int ml, .int (nI RES.length)])), (u.1, .inl (k.2.2.1, u.2.1, .inl u.2.2)), (b, .inr (4, [.ref r])), (r, .inl (k.1, 628, .inl f))]) A) A) args s rm_X3_write.cells rm_X3_write.slots A) (F0 m 50 ls []) := by
  intro n
  induction n with
  | zero =>
    intro j hj va cap bt txt ok hlen RES hF H locs hP hD hS ls hl
    replace hF : txt = RES := hF
    have hc : (F_X0_get f (F_X6_ofTour it (2 : Int32))) ≤ (nI j) := by rw [hSv]; exact nI_le (by omega) (by omega)
    refine lv_iload hx hb dX3_write_50 (lv_at hl 0 rfl) ?_
    refine lv_aload_n hx hb dX3_write_52 rfl (lv_at hl 3 rfl) ?_
    refine lv_iload_n hx hb dX3_write_53 rfl (lv_at hl 4 rfl) ?_
    refine lv_iconst (v := 2) hx hb dX3_write_54 (by decide) ?_
    refine fc_ci (isC := []) (cells' := (2 + 8 * j + 0)) (slots' := (284 + 1136 * j + 0)) (fc_runSN (n := 2) (As := [.int it, .int (2 : Int32)]) (rest := [.ref b, .int (nI j)]) (isC := []) (maxL := 2) ⟨hx, hb, hml, hown, hts⟩ (c_X6_ofTour it (2 : Int32) H.size) gX3_write_X6_ofTour_n38 (by decide +kernel) (by decide +kernel) (by decide +kernel) rfl (by decide +kernel) rfl ⟨Nat.le_of_ble_eq_true rfl, Nat.le_of_ble_eq_true rfl⟩ ⟨(show (2 + 8 * j + 0) ≤ 66 by omega), (show (284 + 1136 * j + 0) ≤ 9372 by omega)⟩ hE hP hD hS hA rfl rfl hl rfl (Nat.le_of_ble_eq_true rfl) dX3_write_55) hP hD hS hA rfl (fun _ => rfl) rfl rfl (fun r_8 _ H locs hr_8 hP hD hS => ?_)
    obtain rfl : (F_X6_ofTour it (2 : Int32)) = r_8 := hr_8.symm
    dsimp only [fs, List.set] at hP hD
    have hP : va_P D vwCl [(ln, .inr (7, [.ref sb])), (sb, .inr (1, [.ref va, .int (0 : Int32), .int ml, .int (nI txt.length)])), (va, .inl (k.2.2.1, cap, .inl bt)), (b, .inr (4, [.ref r])), (r, .inl (k.1, 628, .inl f))] H := hP
    have hD : va_D A [(ln, .inr (7, [.ref sb])), (sb, .inr (1, [.ref va, .int (0 : Int32), .int ml, .int (nI txt.length)])), (va, .inl (k.2.2.1, cap, .inl bt)), (b, .inr (4, [.ref r])), (r, .inl (k.1, 628, .inl f))] := hD
    refine fc_ci (isC := [3, 4]) (cells' := (2 + 8 * j + 0)) (slots' := (284 + 1136 * j + 0)) (fc_runV (n := 1) (As := [.int (F_X6_ofTour it (2 : Int32))]) (rest := [.int (nI j)]) (isC := [3, 4]) (maxL := 2) ⟨hx, hb, hml, hown, hts⟩ (c_X0_get b r f (F_X6_ofTour it (2 : Int32)) H.size) gX3_write_X0_get rfl (by decide +kernel) rfl ⟨Nat.le_of_ble_eq_true rfl, Nat.le_of_ble_eq_true rfl⟩ ⟨(show (2 + 8 * j + 0) ≤ 66 by omega), (show (284 + 1136 * j + 0) ≤ 9372 by omega)⟩ hE hP hD hS hA rfl rfl (va_recv hE.1 hP (ci := 4) (q0 := 3) rfl rfl) hl rfl (Nat.le_of_ble_eq_true rfl) dX3_write_58) hP hD hS hA rfl (fun _ => rfl) rfl rfl (fun r_9 _ H locs hr_9 hP hD hS => ?_)
    obtain rfl : (F_X0_get f (F_X6_ofTour it (2 : Int32))) = r_9 := hr_9.symm
    dsimp only [fs, List.set] at hP hD
    have hP : va_P D vwCl [(ln, .inr (7, [.ref sb])), (sb, .inr (1, [.ref va, .int (0 : Int32), .int ml, .int (nI txt.length)])), (va, .inl (k.2.2.1, cap, .inl bt)), (b, .inr (4, [.ref r])), (r, .inl (k.1, 628, .inl f))] H := hP
    have hD : va_D A [(ln, .inr (7, [.ref sb])), (sb, .inr (1, [.ref va, .int (0 : Int32), .int ml, .int (nI txt.length)])), (va, .inl (k.2.2.1, cap, .inl bt)), (b, .inr (4, [.ref r])), (r, .inl (k.1, 628, .inl f))] := hD
    refine lv_icmp_ge (tgt := 96) hx hb dX3_write_61 (by decide) (fun c_10 => ?_) (fun c_10 => absurd hc c_10)
    subst hF
    exact fc_vret hx hb hr hlk hS (va, cap, bt) ok hP hD (show 2 + 8 * j ≤ 66 by omega) (show 284 + 1136 * j ≤ 9372 by omega) dX3_write_96
  | succ n ih =>
    intro j hj va cap bt txt ok hlen RES hF H locs hP hD hS ls hl
    have hjS : j < S := by omega
    replace hF : lnLoop ml f it bk n (j + 1) (if (nI j) = (bk - (1 : Int32)) then ((F_X3_writeStep ml txt f it (nI j)) ++ [(124 : Int32)]) else (F_X3_writeStep ml txt f it (nI j))) = RES := hF
    have hc : ¬ (F_X0_get f (F_X6_ofTour it (2 : Int32))) ≤ (nI j) := by rw [hSv]; exact nI_ge (by omega) (by omega)
    refine lv_iload hx hb dX3_write_50 (lv_at hl 0 rfl) ?_
    refine lv_aload_n hx hb dX3_write_52 rfl (lv_at hl 3 rfl) ?_
    refine lv_iload_n hx hb dX3_write_53 rfl (lv_at hl 4 rfl) ?_
    refine lv_iconst (v := 2) hx hb dX3_write_54 (by decide) ?_
    refine fc_ci (isC := []) (cells' := (2 + 8 * j + 0)) (slots' := (284 + 1136 * j + 0)) (fc_runSN (n := 2) (As := [.int it, .int (2 : Int32)]) (rest := [.ref b, .int (nI j)]) (isC := []) (maxL := 2) ⟨hx, hb, hml, hown, hts⟩ (c_X6_ofTour it (2 : Int32) H.size) gX3_write_X6_ofTour_n38 (by decide +kernel) (by decide +kernel) (by decide +kernel) rfl (by decide +kernel) rfl ⟨Nat.le_of_ble_eq_true rfl, Nat.le_of_ble_eq_true rfl⟩ ⟨(show (2 + 8 * j + 0) ≤ 66 by omega), (show (284 + 1136 * j + 0) ≤ 9372 by omega)⟩ hE hP hD hS hA rfl rfl hl rfl (Nat.le_of_ble_eq_true rfl) dX3_write_55) hP hD hS hA rfl (fun _ => rfl) rfl rfl (fun r_11 _ H locs hr_11 hP hD hS => ?_)
    obtain rfl : (F_X6_ofTour it (2 : Int32)) = r_11 := hr_11.symm
    dsimp only [fs, List.set] at hP hD
    have hP : va_P D vwCl [(ln, .inr (7, [.ref sb])), (sb, .inr (1, [.ref va, .int (0 : Int32), .int ml, .int (nI txt.length)])), (va, .inl (k.2.2.1, cap, .inl bt)), (b, .inr (4, [.ref r])), (r, .inl (k.1, 628, .inl f))] H := hP
    have hD : va_D A [(ln, .inr (7, [.ref sb])), (sb, .inr (1, [.ref va, .int (0 : Int32), .int ml, .int (nI txt.length)])), (va, .inl (k.2.2.1, cap, .inl bt)), (b, .inr (4, [.ref r])), (r, .inl (k.1, 628, .inl f))] := hD
    refine fc_ci (isC := [3, 4]) (cells' := (2 + 8 * j + 0)) (slots' := (284 + 1136 * j + 0)) (fc_runV (n := 1) (As := [.int (F_X6_ofTour it (2 : Int32))]) (rest := [.int (nI j)]) (isC := [3, 4]) (maxL := 2) ⟨hx, hb, hml, hown, hts⟩ (c_X0_get b r f (F_X6_ofTour it (2 : Int32)) H.size) gX3_write_X0_get rfl (by decide +kernel) rfl ⟨Nat.le_of_ble_eq_true rfl, Nat.le_of_ble_eq_true rfl⟩ ⟨(show (2 + 8 * j + 0) ≤ 66 by omega), (show (284 + 1136 * j + 0) ≤ 9372 by omega)⟩ hE hP hD hS hA rfl rfl (va_recv hE.1 hP (ci := 4) (q0 := 3) rfl rfl) hl rfl (Nat.le_of_ble_eq_true rfl) dX3_write_58) hP hD hS hA rfl (fun _ => rfl) rfl rfl (fun r_12 _ H locs hr_12 hP hD hS => ?_)
    obtain rfl : (F_X0_get f (F_X6_ofTour it (2 : Int32))) = r_12 := hr_12.symm
    dsimp only [fs, List.set] at hP hD
    have hP : va_P D vwCl [(ln, .inr (7, [.ref sb])), (sb, .inr (1, [.ref va, .int (0 : Int32), .int ml, .int (nI txt.length)])), (va, .inl (k.2.2.1, cap, .inl bt)), (b, .inr (4, [.ref r])), (r, .inl (k.1, 628, .inl f))] H := hP
    have hD : va_D A [(ln, .inr (7, [.ref sb])), (sb, .inr (1, [.ref va, .int (0 : Int32), .int ml, .int (nI txt.length)])), (va, .inl (k.2.2.1, cap, .inl bt)), (b, .inr (4, [.ref r])), (r, .inl (k.1, 628, .inl f))] := hD
    refine lv_icmp_ge (tgt := 96) hx hb dX3_write_61 (by decide) (fun c_13 => absurd c_13 hc) (fun c_13 => ?_)
    refine lv_aload_n hx hb dX3_write_64 rfl (lv_at hl 2 rfl) ?_
    refine lv_aload_n hx hb dX3_write_65 rfl (lv_at hl 3 rfl) ?_
    refine lv_iload_n hx hb dX3_write_66 rfl (lv_at hl 4 rfl) ?_
    refine lv_iload hx hb dX3_write_67 (lv_at hl 0 rfl) ?_
    refine fc_cv (isC := [0, 1, 2, 3, 4]) (cells' := (2 + 8 * j + 7)) (slots' := (284 + 1136 * j + 994)) (fc_runV (n := 3) (As := [.ref b, .int it, .int (nI j)]) (rest := []) (isC := [0, 1, 2, 3, 4]) (maxL := 5) ⟨hx, hb, hml, hown, hts⟩ (c_X3_writeStep ln sb va b r cap bt ml txt f it (nI j) ok (by omega) (hn j hjS).1 (hn j hjS).2.1 (hn j hjS).2.2 H.size) gX3_write_X3_writeStep rfl (by decide +kernel) rfl ⟨Nat.le_of_ble_eq_true rfl, Nat.le_of_ble_eq_true rfl⟩ ⟨(show (2 + 8 * j + 7) ≤ 66 by omega), (show (284 + 1136 * j + 994) ≤ 9372 by omega)⟩ hE hP hD hS hA rfl rfl (va_recv hE.1 hP (ci := 7) (q0 := 0) rfl rfl) hl rfl (Nat.le_of_ble_eq_true rfl) dX3_write_69) hP hD hS hA rfl (fun _ => rfl) rfl rfl (fun u_14 H locs ok_14 hP hD hS => ?_)
    obtain ⟨va_14, cap_14, bt_14⟩ := u_14
    replace ok_14 : SBok (F_X3_writeStep ml txt f it (nI j)) cap_14 bt_14 := ok_14
    dsimp only [fs, List.set] at hP hD
    have hP : va_P D vwCl [(ln, .inr (7, [.ref sb])), (sb, .inr (1, [.ref va_14, .int (0 : Int32), .int ml, .int (nI (F_X3_writeStep ml txt f it (nI j)).length)])), (va_14, .inl (k.2.2.1, cap_14, .inl bt_14)), (b, .inr (4, [.ref r])), (r, .inl (k.1, 628, .inl f))] H := hP
    have hD : va_D A [(ln, .inr (7, [.ref sb])), (sb, .inr (1, [.ref va_14, .int (0 : Int32), .int ml, .int (nI (F_X3_writeStep ml txt f it (nI j)).length)])), (va_14, .inl (k.2.2.1, cap_14, .inl bt_14)), (b, .inr (4, [.ref r])), (r, .inl (k.1, 628, .inl f))] := hD
    refine lv_iload hx hb dX3_write_72 (lv_at hl 0 rfl) ?_
    refine lv_iload_n hx hb dX3_write_74 rfl (lv_at hl 1 rfl) ?_
    refine lv_iconst (v := 1) hx hb dX3_write_75 (by decide) ?_
    refine lv_isub hx hb dX3_write_76 ?_
    refine lv_icmp_ne (tgt := 90) hx hb dX3_write_77 (by decide) (fun c_15 => ?_) (fun c_15 => ?_)
    · rw [if_neg c_15] at hF
      refine lv_iinc (v := ((nI j) + (1 : Int32))) (lv' := [(4, .int ((nI j) + (1 : Int32))), (3, .int bk), (0, .ref ln), (1, .ref b), (2, .int it)]) hx hb dX3_write_90 hl (k := 0) rfl rfl (by decide) rfl (fun ls hl => ?_)
      refine lv_goto (tgt := 50) hx hb dX3_write_93 (by decide) ?_
      have ej : (nI j) + (1 : Int32) = nI (j + 1) := nI_add j 1
      rw [ej] at hl
      refine W.widen (k := 2 + 8 * (j + 1)) (n := 284 + 1136 * (j + 1)) (by omega) (by omega) ?_
      exact ih (j + 1) (by omega) va_14 cap_14 bt_14 (F_X3_writeStep ml txt f it (nI j)) ok_14 (by have hw9 := len_X3_writeStep ml txt f it (nI j); omega) RES hF H locs hP hD hS ls hl
    · rw [if_pos c_15] at hF
      refine lv_aload_n hx hb dX3_write_80 rfl (lv_at hl 2 rfl) ?_
      refine va_get (D := D) (ci := 7) (v := .ref sb) (C := RX3) (T := TX3) (N := 1) hx hb hts in_X3_write_X3 hown hE.1 hP 0 rfl rfl 0 (by decide) (hts _ lk_X3_write_12) (fun _ h9 => h9) rfl dX3_write_81 ?_
      refine lv_bipush (v := 124) hx hb dX3_write_84 (by decide) ?_
      refine fc_crS (isC := [1, 2]) (cells' := (2 + 8 * j + 8)) (slots' := (284 + 1136 * j + 1136)) (fc_runV (n := 1) (As := [.int (124 : Int32)]) (rest := []) (isC := [1, 2]) (maxL := 2) ⟨hx, hb, hml, hown, hts⟩ (cT_J4_append_C sb va_14 cap_14 ml (F_X3_writeStep ml txt f it (nI j)) bt_14 (124 : Int32) ok_14 ⟨124, by decide, by decide⟩ (by have hw9 := len_X3_writeStep ml txt f it (nI j); omega) H.size) gX3_write_J4_append_cf468 rfl (by decide +kernel) rfl ⟨Nat.le_of_ble_eq_true rfl, Nat.le_of_ble_eq_true rfl⟩ ⟨(show (2 + 8 * j + 8) ≤ 66 by omega), (show (284 + 1136 * j + 1136) ≤ 9372 by omega)⟩ hE hP hD hS hA rfl rfl (va_recv hE.1 hP (ci := 1) (q0 := 1) rfl rfl) hl rfl (Nat.le_of_ble_eq_true rfl) dX3_write_86) hP hD hS hA rfl (fun _ => rfl) rfl rfl (fun u_16 H locs ok_16 hP hD hS => ?_)
      obtain ⟨va_16, cap_16, bt_16⟩ := u_16
      replace ok_16 : SBok ((F_X3_writeStep ml txt f it (nI j)) ++ [(124 : Int32)]) cap_16 bt_16 := ok_16
      dsimp only [fs, List.set] at hP hD
      have hP : va_P D vwCl [(ln, .inr (7, [.ref sb])), (sb, .inr (1, [.ref va_16, .int (0 : Int32), .int ml, .int (nI ((F_X3_writeStep ml txt f it (nI j)) ++ [(124 : Int32)]).length)])), (va_16, .inl (k.2.2.1, cap_16, .inl bt_16)), (b, .inr (4, [.ref r])), (r, .inl (k.1, 628, .inl f))] H := hP
      have hD : va_D A [(ln, .inr (7, [.ref sb])), (sb, .inr (1, [.ref va_16, .int (0 : Int32), .int ml, .int (nI ((F_X3_writeStep ml txt f it (nI j)) ++ [(124 : Int32)]).length)])), (va_16, .inl (k.2.2.1, cap_16, .inl bt_16)), (b, .inr (4, [.ref r])), (r, .inl (k.1, 628, .inl f))] := hD
      refine lv_pop hx hb dX3_write_89 rfl ?_
      refine lv_iinc (v := ((nI j) + (1 : Int32))) (lv' := [(4, .int ((nI j) + (1 : Int32))), (3, .int bk), (0, .ref ln), (1, .ref b), (2, .int it)]) hx hb dX3_write_90 hl (k := 0) rfl rfl (by decide) rfl (fun ls hl => ?_)
      refine lv_goto (tgt := 50) hx hb dX3_write_93 (by decide) ?_
      have ej : (nI j) + (1 : Int32) = nI (j + 1) := nI_add j 1
      rw [ej] at hl
      refine W.widen (k := 2 + 8 * (j + 1)) (n := 284 + 1136 * (j + 1)) (by omega) (by omega) ?_
      exact ih (j + 1) (by omega) va_16 cap_16 bt_16 ((F_X3_writeStep ml txt f it (nI j)) ++ [(124 : Int32)]) ok_16 (by have hw9 := len_X3_writeStep ml txt f it (nI j); simp only [List.length_append, List.length_cons, List.length_nil]; omega) RES hF H locs hP hD hS ls hl

set_option maxHeartbeats 4000000 in
set_option maxRecDepth 100000 in
theorem c_X3_write {l : Launch} {D : va_G} {k : tyK} (ln sb va b r cap : Nat) (bt : Nat → Int32) (ml : Int32) (txt : List Int32) (f : Nat → Int32) (it : Int32) (ok : SBok txt cap bt) (hit : SBn it) (S : Nat) (hS8 : S ≤ 8) (hSv : F_X0_get f (F_X6_ofTour it (2 : Int32)) = nI S) (hn : ∀ j, j < S → SBn (F_X0_get f (F_X6_ofStep it (nI j) (1 : Int32))) ∧ SBn (F_X0_get f (F_X6_ofStep it (nI j) (2 : Int32))) ∧ SBn (F_X0_get f (F_X6_ofStep it (nI j) (3 : Int32)))) : FCv l yX3_write wsX3_write rm_X3_write D k [.ref ln, .ref b, .int it] [(ln, .inr (7, [.ref sb])), (sb, .inr (1, [.ref va, .int (0 : Int32), .int ml, .int (nI txt.length)])), (va, .inl (k.2.2.1, cap, .inl bt)), (b, .inr (4, [.ref r])), (r, .inl (k.1, 628, .inl f))] (fun (u : Nat × Nat × (Nat → Int32)) => SBok (F_X3_write (mlZ ml txt) f it S) u.2.1 u.2.2) (fun u => [(ln, .inr (7, [.ref sb])), (sb, .inr (1, [.ref u.1, .int (0 : Int32), .int (mlZ ml txt), .int (nI (F_X3_write (mlZ ml txt) f it S).length)])), (u.1, .inl (k.2.2.1, u.2.1, .inl u.2.2)), (b, .inr (4, [.ref r])), (r, .inl (k.1, 628, .inl f))]) := by
  refine fc_start (cc := cX3_write) (maxL := 5) (ret := none) (own := RX3) (Qc := fun A => va_Qv (fun (u : Nat × Nat × (Nat → Int32)) => SBok (F_X3_write (mlZ ml txt) f it S) u.2.1 u.2.2) (Bt D (fun u => [(ln, .inr (7, [.ref sb])), (sb, .inr (1, [.ref u.1, .int (0 : Int32), .int (mlZ ml txt), .int (nI (F_X3_write (mlZ ml txt) f it S).length)])), (u.1, .inl (k.2.2.1, u.2.1, .inl u.2.2)), (b, .inr (4, [.ref r])), (r, .inl (k.1, 628, .inl f))]) A) A) (by decide) rfl rfl (Nat.le_of_ble_eq_true rfl) ?_
  intro p e s m below meth c A H hx hb hml hr hts hown hlk hname hA hP hE hD hS ls hl
  have hl : lv_has ls 5 [(0, .ref ln), (1, .ref b), (2, .int it)] := hl
  obtain ⟨locs, hlocs⟩ : ∃ z : List Loc, z = [] := ⟨_, rfl⟩
  rw [← hlocs] at hS ⊢
  refine lv_aload_n hx hb dX3_write_0 rfl (lv_at hl 0 rfl) ?_
  refine va_get (D := D) (ci := 7) (v := .ref sb) (C := RX3) (T := TX3) (N := 1) hx hb hts in_X3_write_X3 hown hE.1 hP 0 rfl rfl 0 (by decide) (hts _ lk_X3_write_12) (fun _ h9 => h9) rfl dX3_write_1 ?_
  refine lv_iconst (v := 0) hx hb dX3_write_4 (by decide) ?_
  refine fc_cv (isC := [1, 2]) (cells' := 0) (slots' := 0) (fc_runV (n := 1) (As := [.int (0 : Int32)]) (rest := []) (isC := [1, 2]) (maxL := 2) ⟨hx, hb, hml, hown, hts⟩ (cT_J4_setLength0 sb va cap ml txt bt ok H.size) gX3_write_J4_setLength_d00df rfl (by decide +kernel) rfl ⟨Nat.le_of_ble_eq_true rfl, Nat.le_of_ble_eq_true rfl⟩ ⟨Nat.le_of_ble_eq_true rfl, Nat.le_of_ble_eq_true rfl⟩ hE hP hD hS hA rfl rfl (va_recv hE.1 hP (ci := 1) (q0 := 1) rfl rfl) hl rfl (Nat.le_of_ble_eq_true rfl) dX3_write_5) hP hD hS hA rfl (fun _ => rfl) rfl rfl (fun _ H locs _ hP hD hS => ?_)
  have ok_0 := ok.nil
  dsimp only [fs, List.set] at hP hD
  have hP : va_P D vwCl [(ln, .inr (7, [.ref sb])), (sb, .inr (1, [.ref va, .int (0 : Int32), .int (mlZ ml txt), .int (nI ([] : List Int32).length)])), (va, .inl (k.2.2.1, cap, .inl bt)), (b, .inr (4, [.ref r])), (r, .inl (k.1, 628, .inl f))] H := hP
  have hD : va_D A [(ln, .inr (7, [.ref sb])), (sb, .inr (1, [.ref va, .int (0 : Int32), .int (mlZ ml txt), .int (nI ([] : List Int32).length)])), (va, .inl (k.2.2.1, cap, .inl bt)), (b, .inr (4, [.ref r])), (r, .inl (k.1, 628, .inl f))] := hD
  refine lv_aload_n hx hb dX3_write_8 rfl (lv_at hl 0 rfl) ?_
  refine va_get (D := D) (ci := 7) (v := .ref sb) (C := RX3) (T := TX3) (N := 1) hx hb hts in_X3_write_X3 hown hE.1 hP 0 rfl rfl 0 (by decide) (hts _ lk_X3_write_12) (fun _ h9 => h9) rfl dX3_write_9 ?_
  refine lv_iload_n hx hb dX3_write_12 rfl (lv_at hl 2 rfl) ?_
  refine fc_crS (isC := [1, 2]) (cells' := 1) (slots' := 142) (fc_runV (n := 1) (As := [.int it]) (rest := []) (isC := [1, 2]) (maxL := 2) ⟨hx, hb, hml, hown, hts⟩ (cT_J4_append_N sb va cap (mlZ ml txt) ([] : List Int32) bt it ok_0 hit (by decide) H.size) gX3_write_J4_append_bf812 rfl (by decide +kernel) rfl ⟨Nat.le_of_ble_eq_true rfl, Nat.le_of_ble_eq_true rfl⟩ ⟨Nat.le_of_ble_eq_true rfl, Nat.le_of_ble_eq_true rfl⟩ hE hP hD hS hA rfl rfl (va_recv hE.1 hP (ci := 1) (q0 := 1) rfl rfl) hl rfl (Nat.le_of_ble_eq_true rfl) dX3_write_13) hP hD hS hA rfl (fun _ => rfl) rfl rfl (fun u_1 H locs ok_1 hP hD hS => ?_)
  obtain ⟨va_1, cap_1, bt_1⟩ := u_1
  replace ok_1 : SBok (([] : List Int32) ++ (sbI it)) cap_1 bt_1 := ok_1
  dsimp only [fs, List.set] at hP hD
  have hP : va_P D vwCl [(ln, .inr (7, [.ref sb])), (sb, .inr (1, [.ref va_1, .int (0 : Int32), .int (mlZ ml txt), .int (nI (([] : List Int32) ++ (sbI it)).length)])), (va_1, .inl (k.2.2.1, cap_1, .inl bt_1)), (b, .inr (4, [.ref r])), (r, .inl (k.1, 628, .inl f))] H := hP
  have hD : va_D A [(ln, .inr (7, [.ref sb])), (sb, .inr (1, [.ref va_1, .int (0 : Int32), .int (mlZ ml txt), .int (nI (([] : List Int32) ++ (sbI it)).length)])), (va_1, .inl (k.2.2.1, cap_1, .inl bt_1)), (b, .inr (4, [.ref r])), (r, .inl (k.1, 628, .inl f))] := hD
  refine lv_pop hx hb dX3_write_16 rfl ?_
  refine lv_aload_n hx hb dX3_write_17 rfl (lv_at hl 0 rfl) ?_
  refine va_get (D := D) (ci := 7) (v := .ref sb) (C := RX3) (T := TX3) (N := 1) hx hb hts in_X3_write_X3 hown hE.1 hP 0 rfl rfl 0 (by decide) (hts _ lk_X3_write_12) (fun _ h9 => h9) rfl dX3_write_18 ?_
  refine lv_aload_n hx hb dX3_write_21 rfl (lv_at hl 1 rfl) ?_
  refine lv_iload_n hx hb dX3_write_22 rfl (lv_at hl 2 rfl) ?_
  refine lv_iconst (v := 0) hx hb dX3_write_23 (by decide) ?_
  refine fc_ci (isC := []) (cells' := 1) (slots' := 142) (fc_runSN (n := 2) (As := [.int it, .int (0 : Int32)]) (rest := [.ref b, .ref sb]) (isC := []) (maxL := 2) ⟨hx, hb, hml, hown, hts⟩ (c_X6_ofTour it (0 : Int32) H.size) gX3_write_X6_ofTour_n38 (by decide +kernel) (by decide +kernel) (by decide +kernel) rfl (by decide +kernel) rfl ⟨Nat.le_of_ble_eq_true rfl, Nat.le_of_ble_eq_true rfl⟩ ⟨Nat.le_of_ble_eq_true rfl, Nat.le_of_ble_eq_true rfl⟩ hE hP hD hS hA rfl rfl hl rfl (Nat.le_of_ble_eq_true rfl) dX3_write_24) hP hD hS hA rfl (fun _ => rfl) rfl rfl (fun r_2 _ H locs hr_2 hP hD hS => ?_)
  obtain rfl : (F_X6_ofTour it (0 : Int32)) = r_2 := hr_2.symm
  dsimp only [fs, List.set] at hP hD
  have hP : va_P D vwCl [(ln, .inr (7, [.ref sb])), (sb, .inr (1, [.ref va_1, .int (0 : Int32), .int (mlZ ml txt), .int (nI (([] : List Int32) ++ (sbI it)).length)])), (va_1, .inl (k.2.2.1, cap_1, .inl bt_1)), (b, .inr (4, [.ref r])), (r, .inl (k.1, 628, .inl f))] H := hP
  have hD : va_D A [(ln, .inr (7, [.ref sb])), (sb, .inr (1, [.ref va_1, .int (0 : Int32), .int (mlZ ml txt), .int (nI (([] : List Int32) ++ (sbI it)).length)])), (va_1, .inl (k.2.2.1, cap_1, .inl bt_1)), (b, .inr (4, [.ref r])), (r, .inl (k.1, 628, .inl f))] := hD
  refine fc_ci (isC := [3, 4]) (cells' := 1) (slots' := 142) (fc_runV (n := 1) (As := [.int (F_X6_ofTour it (0 : Int32))]) (rest := [.ref sb]) (isC := [3, 4]) (maxL := 2) ⟨hx, hb, hml, hown, hts⟩ (c_X0_get b r f (F_X6_ofTour it (0 : Int32)) H.size) gX3_write_X0_get rfl (by decide +kernel) rfl ⟨Nat.le_of_ble_eq_true rfl, Nat.le_of_ble_eq_true rfl⟩ ⟨Nat.le_of_ble_eq_true rfl, Nat.le_of_ble_eq_true rfl⟩ hE hP hD hS hA rfl rfl (va_recv hE.1 hP (ci := 4) (q0 := 3) rfl rfl) hl rfl (Nat.le_of_ble_eq_true rfl) dX3_write_27) hP hD hS hA rfl (fun _ => rfl) rfl rfl (fun r_3 _ H locs hr_3 hP hD hS => ?_)
  obtain rfl : (F_X0_get f (F_X6_ofTour it (0 : Int32))) = r_3 := hr_3.symm
  dsimp only [fs, List.set] at hP hD
  have hP : va_P D vwCl [(ln, .inr (7, [.ref sb])), (sb, .inr (1, [.ref va_1, .int (0 : Int32), .int (mlZ ml txt), .int (nI (([] : List Int32) ++ (sbI it)).length)])), (va_1, .inl (k.2.2.1, cap_1, .inl bt_1)), (b, .inr (4, [.ref r])), (r, .inl (k.1, 628, .inl f))] H := hP
  have hD : va_D A [(ln, .inr (7, [.ref sb])), (sb, .inr (1, [.ref va_1, .int (0 : Int32), .int (mlZ ml txt), .int (nI (([] : List Int32) ++ (sbI it)).length)])), (va_1, .inl (k.2.2.1, cap_1, .inl bt_1)), (b, .inr (4, [.ref r])), (r, .inl (k.1, 628, .inl f))] := hD
  refine fc_ci (isC := []) (cells' := 1) (slots' := 142) (fc_runS (n := 1) (As := [.int (F_X0_get f (F_X6_ofTour it (0 : Int32)))]) (rest := [.ref sb]) (isC := []) (maxL := 1) ⟨hx, hb, hml, hown, hts⟩ (c_X3_conditionSign (F_X0_get f (F_X6_ofTour it (0 : Int32))) H.size) gX3_write_X3_conditionSign rfl (by decide +kernel) rfl ⟨Nat.le_of_ble_eq_true rfl, Nat.le_of_ble_eq_true rfl⟩ ⟨Nat.le_of_ble_eq_true rfl, Nat.le_of_ble_eq_true rfl⟩ hE hP hD hS hA rfl rfl hl rfl (Nat.le_of_ble_eq_true rfl) dX3_write_30) hP hD hS hA rfl (fun _ => rfl) rfl rfl (fun r_4 _ H locs hr_4 hP hD hS => ?_)
  obtain rfl : (F_X3_conditionSign (F_X0_get f (F_X6_ofTour it (0 : Int32)))) = r_4 := hr_4.symm
  dsimp only [fs, List.set] at hP hD
  have hP : va_P D vwCl [(ln, .inr (7, [.ref sb])), (sb, .inr (1, [.ref va_1, .int (0 : Int32), .int (mlZ ml txt), .int (nI (([] : List Int32) ++ (sbI it)).length)])), (va_1, .inl (k.2.2.1, cap_1, .inl bt_1)), (b, .inr (4, [.ref r])), (r, .inl (k.1, 628, .inl f))] H := hP
  have hD : va_D A [(ln, .inr (7, [.ref sb])), (sb, .inr (1, [.ref va_1, .int (0 : Int32), .int (mlZ ml txt), .int (nI (([] : List Int32) ++ (sbI it)).length)])), (va_1, .inl (k.2.2.1, cap_1, .inl bt_1)), (b, .inr (4, [.ref r])), (r, .inl (k.1, 628, .inl f))] := hD
  refine fc_crS (isC := [1, 2]) (cells' := 2) (slots' := 284) (fc_runV (n := 1) (As := [.int (F_X3_conditionSign (F_X0_get f (F_X6_ofTour it (0 : Int32))))]) (rest := []) (isC := [1, 2]) (maxL := 2) ⟨hx, hb, hml, hown, hts⟩ (cT_J4_append_C sb va_1 cap_1 (mlZ ml txt) (([] : List Int32) ++ (sbI it)) bt_1 (F_X3_conditionSign (F_X0_get f (F_X6_ofTour it (0 : Int32)))) ok_1 (ch_X3_conditionSign _) (by have i0 := @sbI_len it; simp only [List.length_append, List.length_cons, List.length_nil]; omega) H.size) gX3_write_J4_append_cf468 rfl (by decide +kernel) rfl ⟨Nat.le_of_ble_eq_true rfl, Nat.le_of_ble_eq_true rfl⟩ ⟨Nat.le_of_ble_eq_true rfl, Nat.le_of_ble_eq_true rfl⟩ hE hP hD hS hA rfl rfl (va_recv hE.1 hP (ci := 1) (q0 := 1) rfl rfl) hl rfl (Nat.le_of_ble_eq_true rfl) dX3_write_33) hP hD hS hA rfl (fun _ => rfl) rfl rfl (fun u_5 H locs ok_5 hP hD hS => ?_)
  obtain ⟨va_5, cap_5, bt_5⟩ := u_5
  replace ok_5 : SBok ((([] : List Int32) ++ (sbI it)) ++ [(F_X3_conditionSign (F_X0_get f (F_X6_ofTour it (0 : Int32))))]) cap_5 bt_5 := ok_5
  dsimp only [fs, List.set] at hP hD
  have hP : va_P D vwCl [(ln, .inr (7, [.ref sb])), (sb, .inr (1, [.ref va_5, .int (0 : Int32), .int (mlZ ml txt), .int (nI ((([] : List Int32) ++ (sbI it)) ++ [(F_X3_conditionSign (F_X0_get f (F_X6_ofTour it (0 : Int32))))]).length)])), (va_5, .inl (k.2.2.1, cap_5, .inl bt_5)), (b, .inr (4, [.ref r])), (r, .inl (k.1, 628, .inl f))] H := hP
  have hD : va_D A [(ln, .inr (7, [.ref sb])), (sb, .inr (1, [.ref va_5, .int (0 : Int32), .int (mlZ ml txt), .int (nI ((([] : List Int32) ++ (sbI it)) ++ [(F_X3_conditionSign (F_X0_get f (F_X6_ofTour it (0 : Int32))))]).length)])), (va_5, .inl (k.2.2.1, cap_5, .inl bt_5)), (b, .inr (4, [.ref r])), (r, .inl (k.1, 628, .inl f))] := hD
  refine lv_pop hx hb dX3_write_36 rfl ?_
  refine lv_aload_n hx hb dX3_write_37 rfl (lv_at hl 1 rfl) ?_
  refine lv_iload_n hx hb dX3_write_38 rfl (lv_at hl 2 rfl) ?_
  refine lv_iconst (v := 3) hx hb dX3_write_39 (by decide) ?_
  refine fc_ci (isC := []) (cells' := 2) (slots' := 284) (fc_runSN (n := 2) (As := [.int it, .int (3 : Int32)]) (rest := [.ref b]) (isC := []) (maxL := 2) ⟨hx, hb, hml, hown, hts⟩ (c_X6_ofTour it (3 : Int32) H.size) gX3_write_X6_ofTour_n38 (by decide +kernel) (by decide +kernel) (by decide +kernel) rfl (by decide +kernel) rfl ⟨Nat.le_of_ble_eq_true rfl, Nat.le_of_ble_eq_true rfl⟩ ⟨Nat.le_of_ble_eq_true rfl, Nat.le_of_ble_eq_true rfl⟩ hE hP hD hS hA rfl rfl hl rfl (Nat.le_of_ble_eq_true rfl) dX3_write_40) hP hD hS hA rfl (fun _ => rfl) rfl rfl (fun r_6 _ H locs hr_6 hP hD hS => ?_)
  obtain rfl : (F_X6_ofTour it (3 : Int32)) = r_6 := hr_6.symm
  dsimp only [fs, List.set] at hP hD
  have hP : va_P D vwCl [(ln, .inr (7, [.ref sb])), (sb, .inr (1, [.ref va_5, .int (0 : Int32), .int (mlZ ml txt), .int (nI ((([] : List Int32) ++ (sbI it)) ++ [(F_X3_conditionSign (F_X0_get f (F_X6_ofTour it (0 : Int32))))]).length)])), (va_5, .inl (k.2.2.1, cap_5, .inl bt_5)), (b, .inr (4, [.ref r])), (r, .inl (k.1, 628, .inl f))] H := hP
  have hD : va_D A [(ln, .inr (7, [.ref sb])), (sb, .inr (1, [.ref va_5, .int (0 : Int32), .int (mlZ ml txt), .int (nI ((([] : List Int32) ++ (sbI it)) ++ [(F_X3_conditionSign (F_X0_get f (F_X6_ofTour it (0 : Int32))))]).length)])), (va_5, .inl (k.2.2.1, cap_5, .inl bt_5)), (b, .inr (4, [.ref r])), (r, .inl (k.1, 628, .inl f))] := hD
  refine fc_ci (isC := [3, 4]) (cells' := 2) (slots' := 284) (fc_runV (n := 1) (As := [.int (F_X6_ofTour it (3 : Int32))]) (rest := []) (isC := [3, 4]) (maxL := 2) ⟨hx, hb, hml, hown, hts⟩ (c_X0_get b r f (F_X6_ofTour it (3 : Int32)) H.size) gX3_write_X0_get rfl (by decide +kernel) rfl ⟨Nat.le_of_ble_eq_true rfl, Nat.le_of_ble_eq_true rfl⟩ ⟨Nat.le_of_ble_eq_true rfl, Nat.le_of_ble_eq_true rfl⟩ hE hP hD hS hA rfl rfl (va_recv hE.1 hP (ci := 4) (q0 := 3) rfl rfl) hl rfl (Nat.le_of_ble_eq_true rfl) dX3_write_43) hP hD hS hA rfl (fun _ => rfl) rfl rfl (fun r_7 _ H locs hr_7 hP hD hS => ?_)
  obtain rfl : (F_X0_get f (F_X6_ofTour it (3 : Int32))) = r_7 := hr_7.symm
  dsimp only [fs, List.set] at hP hD
  have hP : va_P D vwCl [(ln, .inr (7, [.ref sb])), (sb, .inr (1, [.ref va_5, .int (0 : Int32), .int (mlZ ml txt), .int (nI ((([] : List Int32) ++ (sbI it)) ++ [(F_X3_conditionSign (F_X0_get f (F_X6_ofTour it (0 : Int32))))]).length)])), (va_5, .inl (k.2.2.1, cap_5, .inl bt_5)), (b, .inr (4, [.ref r])), (r, .inl (k.1, 628, .inl f))] H := hP
  have hD : va_D A [(ln, .inr (7, [.ref sb])), (sb, .inr (1, [.ref va_5, .int (0 : Int32), .int (mlZ ml txt), .int (nI ((([] : List Int32) ++ (sbI it)) ++ [(F_X3_conditionSign (F_X0_get f (F_X6_ofTour it (0 : Int32))))]).length)])), (va_5, .inl (k.2.2.1, cap_5, .inl bt_5)), (b, .inr (4, [.ref r])), (r, .inl (k.1, 628, .inl f))] := hD
  refine lv_istore_n (lv' := [(3, .int (F_X0_get f (F_X6_ofTour it (3 : Int32)))), (0, .ref ln), (1, .ref b), (2, .int it)]) hx hb dX3_write_46 rfl hl (by decide) rfl (fun ls hl => ?_)
  refine lv_iconst (v := 0) hx hb dX3_write_47 (by decide) ?_
  refine lv_istore (lv' := [(4, .int (0 : Int32)), (3, .int (F_X0_get f (F_X6_ofTour it (3 : Int32)))), (0, .ref ln), (1, .ref b), (2, .int it)]) hx hb dX3_write_48 hl (by decide) rfl (fun ls hl => ?_)
  exact lp_X3_write hx hb hml hr hts hown hlk hA hE ln sb b r (mlZ ml txt) f it (F_X0_get f (F_X6_ofTour it (3 : Int32))) S hS8 hSv hn S 0 (Nat.add_zero S) va_5 cap_5 bt_5 ((([] : List Int32) ++ (sbI it)) ++ [(F_X3_conditionSign (F_X0_get f (F_X6_ofTour it (0 : Int32))))]) ok_5 (by have i0 := @sbI_len it; simp only [List.length_append, List.length_cons, List.length_nil]; omega) _ rfl H locs hP hD hS ls hl
end
