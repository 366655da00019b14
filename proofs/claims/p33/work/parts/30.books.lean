section
abbrev rm_X0_init : Room := { frames := 1, cells := 1, slots := 628, locals := 22 }
def FL_X0_init_50 : Nat → (Nat → Int32) → Int32 → Int32 → Int32 × (Nat → Int32)
  | 0, f, x1, x2 => (x2, f)
  | n + 1, f, x1, x2 => (if (20 : Int32) ≤ x2 then (x2, f) else (letp (F_X0_set (F_X0_set f (F_X6_ofLeft (0 : Int32) x1 x2) (F_X6_mostOf (0 : Int32))) (F_X6_ofLeft (1 : Int32) x1 x2) (F_X6_mostOf (1 : Int32))) (fun (p_9 : (Nat → Int32)) => (FL_X0_init_50 n (F_X0_set p_9 (F_X6_ofLeft (2 : Int32) x1 x2) (F_X6_mostOf (2 : Int32))) x1 (x2 + (1 : Int32))))))
def FL_X0_init_23 : Nat → (Nat → Int32) → Int32 → Int32 × (Nat → Int32)
  | 0, f, x1 => (x1, f)
  | n + 1, f, x1 => (if (5 : Int32) ≤ x1 then (x1, f) else (FL_X0_init_23 n ((FL_X0_init_50 (21) (F_X0_set (F_X0_set f (F_X6_ofTown x1 (0 : Int32)) (1 : Int32)) (F_X6_ofTown x1 (1 : Int32)) (2 : Int32)) x1 (0 : Int32)).2) (x1 + (1 : Int32))))
def F_X0_init (f : (Nat → Int32))  : (Nat → Int32) := (FL_X0_init_23 (6) (F_X0_set f (7 : Int32) (100 : Int32)) (0 : Int32)).2
set_option maxHeartbeats 4000000 in
set_option maxRecDepth 100000 in
theorem lp_X0_init_50 {p : Program} {l : Launch} {e : Env} {s : State} {m : MethodId} {args : Array Value} {below : List Frame} {meth : Method} {c : Code} {D : va_G} {k : tyK} {A : Nat → Prop} {Q : State → Prop} (hx : p.tables.exec = Jvm.exec) (hb : c.code = cX0_init) (hml : c.maxLocals = 3) (hr : meth.sig.returnType = none) (hts : ∀ w ∈ wsX0_init, w.before args s = true) (hown : s.vm.findClass RX0 = some m.cls) (hlk : meth.locks = false) (hA : ∀ q : Nat, s.heap.size ≤ q → A q) (hE : GE D k A s) (b r : Nat) :
    ∀ (n : Nat) (f : (Nat → Int32)) (x1 : Int32) (x2 : Int32) (RES : Int32 × (Nat → Int32)), FL_X0_init_50 n f x1 x2 = RES → ((20 : Int32).toInt - (x2 : Int32).toInt).toNat < n → (∀ (H : Heap) (locs : List Loc), va_P D vwCl [(b, .inr (4, [.ref r])), (r, .inl (k.1, 628, .inl RES.2))] H → va_D A [(b, .inr (4, [.ref r])), (r, .inl (k.1, 628, .inl RES.2))] → va_S A s.heap H locs → ∀ ls : Array Slot, lv_has ls 3 [(0, .ref b), (1, .int x1), (2, .int RES.1)] → W p l e rm_X0_init s m args below meth c H locs 1 628 Q (F0 m 104 ls [])) → ∀ (H : Heap) (locs : List Loc), va_P D vwCl [(b, .inr (4, [.ref r])), (r, .inl (k.1, 628, .inl f))] H → va_D A [(b, .inr (4, [.ref r])), (r, .inl (k.1, 628, .inl f))] → va_S A s.heap H locs → ∀ ls : Array Slot, lv_has ls 3 [(0, .ref b), (1, .int x1), (2, .int x2)] → W p l e rm_X0_init s m args below meth c H locs 1 628 Q (F0 m 50 ls []) := by
  intro n
  induction n with
  | zero =>
    intro f x1 x2 RES hF hm K H locs hP hD hS ls hl
    exact absurd hm (Nat.not_lt_zero _)
  | succ n ih =>
    intro f x1 x2 RES hF hm K H locs hP hD hS ls hl
    rw [FL_X0_init_50] at hF
    refine lv_iload_n hx hb dX0_init_50 rfl (lv_at hl 2 rfl) ?_
    refine lv_bipush (v := 20) hx hb dX0_init_51 (by decide) ?_
    refine lv_icmp_ge (tgt := 104) hx hb dX0_init_53 (by decide) (fun c_4 => ?_) (fun c_4 => ?_)
    · rw [if_pos c_4] at hF
      subst hF
      exact K H locs hP hD hS ls (lv_sub hl [0, 1, 2] rfl)
    · rw [if_neg c_4] at hF
      refine lv_aload_n hx hb dX0_init_56 rfl (lv_at hl 0 rfl) ?_
      refine lv_iconst (v := 0) hx hb dX0_init_57 (by decide) ?_
      refine lv_iload_n hx hb dX0_init_58 rfl (lv_at hl 1 rfl) ?_
      refine lv_iload_n hx hb dX0_init_59 rfl (lv_at hl 2 rfl) ?_
      refine fc_ci (isC := []) (cells' := 1) (slots' := 628) (fc_runSN (n := 3) (As := [.int (0 : Int32), .int x1, .int x2]) (rest := [.ref b]) (isC := []) (maxL := 3) ⟨hx, hb, hml, hown, hts⟩ (c_X6_ofLeft (0 : Int32) x1 x2 H.size) gX0_init_X6_ofLeft_n23 (by decide +kernel) (by decide +kernel) (by decide +kernel) rfl (by decide +kernel) rfl ⟨Nat.le_of_ble_eq_true rfl, Nat.le_of_ble_eq_true rfl⟩ ⟨Nat.le_of_ble_eq_true rfl, Nat.le_of_ble_eq_true rfl⟩ hE hP hD hS hA rfl rfl hl rfl (Nat.le_of_ble_eq_true rfl) dX0_init_60) hP hD hS hA rfl (fun _ => rfl) rfl rfl (fun r_5 _ H locs hr_5 hP hD hS => ?_)
      obtain rfl : (F_X6_ofLeft (0 : Int32) x1 x2) = r_5 := hr_5.symm
      dsimp only [fs, List.set] at hP hD
      have hP : va_P D vwCl [(b, .inr (4, [.ref r])), (r, .inl (k.1, 628, .inl f))] H := hP
      have hD : va_D A [(b, .inr (4, [.ref r])), (r, .inl (k.1, 628, .inl f))] := hD
      refine lv_iconst (v := 0) hx hb dX0_init_63 (by decide) ?_
      refine fc_ci (isC := []) (cells' := 1) (slots' := 628) (fc_runSN (n := 1) (As := [.int (0 : Int32)]) (rest := [.int (F_X6_ofLeft (0 : Int32) x1 x2), .ref b]) (isC := []) (maxL := 1) ⟨hx, hb, hml, hown, hts⟩ (c_X6_mostOf (0 : Int32) H.size) gX0_init_X6_mostOf_n27 (by decide +kernel) (by decide +kernel) (by decide +kernel) rfl (by decide +kernel) rfl ⟨Nat.le_of_ble_eq_true rfl, Nat.le_of_ble_eq_true rfl⟩ ⟨Nat.le_of_ble_eq_true rfl, Nat.le_of_ble_eq_true rfl⟩ hE hP hD hS hA rfl rfl hl rfl (Nat.le_of_ble_eq_true rfl) dX0_init_64) hP hD hS hA rfl (fun _ => rfl) rfl rfl (fun r_6 _ H locs hr_6 hP hD hS => ?_)
      obtain rfl : (F_X6_mostOf (0 : Int32)) = r_6 := hr_6.symm
      dsimp only [fs, List.set] at hP hD
      have hP : va_P D vwCl [(b, .inr (4, [.ref r])), (r, .inl (k.1, 628, .inl f))] H := hP
      have hD : va_D A [(b, .inr (4, [.ref r])), (r, .inl (k.1, 628, .inl f))] := hD
      refine fc_cv (isC := [0, 1]) (cells' := 1) (slots' := 628) (fc_runV (n := 2) (As := [.int (F_X6_ofLeft (0 : Int32) x1 x2), .int (F_X6_mostOf (0 : Int32))]) (rest := []) (isC := [0, 1]) (maxL := 3) ⟨hx, hb, hml, hown, hts⟩ (c_X0_set b r f (F_X6_ofLeft (0 : Int32) x1 x2) (F_X6_mostOf (0 : Int32)) H.size) gX0_init_X0_set rfl (by decide +kernel) rfl ⟨Nat.le_of_ble_eq_true rfl, Nat.le_of_ble_eq_true rfl⟩ ⟨Nat.le_of_ble_eq_true rfl, Nat.le_of_ble_eq_true rfl⟩ hE hP hD hS hA rfl rfl (va_recv hE.1 hP (ci := 4) (q0 := 0) rfl rfl) hl rfl (Nat.le_of_ble_eq_true rfl) dX0_init_67) hP hD hS hA rfl (fun _ => rfl) rfl rfl (fun _ H locs _ hP hD hS => ?_)
      dsimp only [fs, List.set] at hP hD
      have hP : va_P D vwCl [(b, .inr (4, [.ref r])), (r, .inl (k.1, 628, .inl (F_X0_set f (F_X6_ofLeft (0 : Int32) x1 x2) (F_X6_mostOf (0 : Int32)))))] H := hP
      have hD : va_D A [(b, .inr (4, [.ref r])), (r, .inl (k.1, 628, .inl (F_X0_set f (F_X6_ofLeft (0 : Int32) x1 x2) (F_X6_mostOf (0 : Int32)))))] := hD
      refine lv_aload_n hx hb dX0_init_70 rfl (lv_at hl 0 rfl) ?_
      refine lv_iconst (v := 1) hx hb dX0_init_71 (by decide) ?_
      refine lv_iload_n hx hb dX0_init_72 rfl (lv_at hl 1 rfl) ?_
      refine lv_iload_n hx hb dX0_init_73 rfl (lv_at hl 2 rfl) ?_
      refine fc_ci (isC := []) (cells' := 1) (slots' := 628) (fc_runSN (n := 3) (As := [.int (1 : Int32), .int x1, .int x2]) (rest := [.ref b]) (isC := []) (maxL := 3) ⟨hx, hb, hml, hown, hts⟩ (c_X6_ofLeft (1 : Int32) x1 x2 H.size) gX0_init_X6_ofLeft_n23 (by decide +kernel) (by decide +kernel) (by decide +kernel) rfl (by decide +kernel) rfl ⟨Nat.le_of_ble_eq_true rfl, Nat.le_of_ble_eq_true rfl⟩ ⟨Nat.le_of_ble_eq_true rfl, Nat.le_of_ble_eq_true rfl⟩ hE hP hD hS hA rfl rfl hl rfl (Nat.le_of_ble_eq_true rfl) dX0_init_74) hP hD hS hA rfl (fun _ => rfl) rfl rfl (fun r_7 _ H locs hr_7 hP hD hS => ?_)
      obtain rfl : (F_X6_ofLeft (1 : Int32) x1 x2) = r_7 := hr_7.symm
      dsimp only [fs, List.set] at hP hD
      have hP : va_P D vwCl [(b, .inr (4, [.ref r])), (r, .inl (k.1, 628, .inl (F_X0_set f (F_X6_ofLeft (0 : Int32) x1 x2) (F_X6_mostOf (0 : Int32)))))] H := hP
      have hD : va_D A [(b, .inr (4, [.ref r])), (r, .inl (k.1, 628, .inl (F_X0_set f (F_X6_ofLeft (0 : Int32) x1 x2) (F_X6_mostOf (0 : Int32)))))] := hD
      refine lv_iconst (v := 1) hx hb dX0_init_77 (by decide) ?_
      refine fc_ci (isC := []) (cells' := 1) (slots' := 628) (fc_runSN (n := 1) (As := [.int (1 : Int32)]) (rest := [.int (F_X6_ofLeft (1 : Int32) x1 x2), .ref b]) (isC := []) (maxL := 1) ⟨hx, hb, hml, hown, hts⟩ (c_X6_mostOf (1 : Int32) H.size) gX0_init_X6_mostOf_n27 (by decide +kernel) (by decide +kernel) (by decide +kernel) rfl (by decide +kernel) rfl ⟨Nat.le_of_ble_eq_true rfl, Nat.le_of_ble_eq_true rfl⟩ ⟨Nat.le_of_ble_eq_true rfl, Nat.le_of_ble_eq_true rfl⟩ hE hP hD hS hA rfl rfl hl rfl (Nat.le_of_ble_eq_true rfl) dX0_init_78) hP hD hS hA rfl (fun _ => rfl) rfl rfl (fun r_8 _ H locs hr_8 hP hD hS => ?_)
      obtain rfl : (F_X6_mostOf (1 : Int32)) = r_8 := hr_8.symm
      dsimp only [fs, List.set] at hP hD
      have hP : va_P D vwCl [(b, .inr (4, [.ref r])), (r, .inl (k.1, 628, .inl (F_X0_set f (F_X6_ofLeft (0 : Int32) x1 x2) (F_X6_mostOf (0 : Int32)))))] H := hP
      have hD : va_D A [(b, .inr (4, [.ref r])), (r, .inl (k.1, 628, .inl (F_X0_set f (F_X6_ofLeft (0 : Int32) x1 x2) (F_X6_mostOf (0 : Int32)))))] := hD
      generalize hp_9 : (F_X0_set (F_X0_set f (F_X6_ofLeft (0 : Int32) x1 x2) (F_X6_mostOf (0 : Int32))) (F_X6_ofLeft (1 : Int32) x1 x2) (F_X6_mostOf (1 : Int32))) = p_9 at hF
      rw [letp_eq] at hF
      refine fc_cv (isC := [0, 1]) (cells' := 1) (slots' := 628) (fc_runV (n := 2) (As := [.int (F_X6_ofLeft (1 : Int32) x1 x2), .int (F_X6_mostOf (1 : Int32))]) (rest := []) (isC := [0, 1]) (maxL := 3) ⟨hx, hb, hml, hown, hts⟩ (c_X0_set b r (F_X0_set f (F_X6_ofLeft (0 : Int32) x1 x2) (F_X6_mostOf (0 : Int32))) (F_X6_ofLeft (1 : Int32) x1 x2) (F_X6_mostOf (1 : Int32)) H.size) gX0_init_X0_set rfl (by decide +kernel) rfl ⟨Nat.le_of_ble_eq_true rfl, Nat.le_of_ble_eq_true rfl⟩ ⟨Nat.le_of_ble_eq_true rfl, Nat.le_of_ble_eq_true rfl⟩ hE hP hD hS hA rfl rfl (va_recv hE.1 hP (ci := 4) (q0 := 0) rfl rfl) hl rfl (Nat.le_of_ble_eq_true rfl) dX0_init_81) hP hD hS hA rfl (fun _ => rfl) rfl rfl (fun _ H locs _ hP hD hS => ?_)
      rw [hp_9] at hP hD
      dsimp only [fs, List.set] at hP hD
      have hP : va_P D vwCl [(b, .inr (4, [.ref r])), (r, .inl (k.1, 628, .inl p_9))] H := hP
      have hD : va_D A [(b, .inr (4, [.ref r])), (r, .inl (k.1, 628, .inl p_9))] := hD
      refine lv_aload_n hx hb dX0_init_84 rfl (lv_at hl 0 rfl) ?_
      refine lv_iconst (v := 2) hx hb dX0_init_85 (by decide) ?_
      refine lv_iload_n hx hb dX0_init_86 rfl (lv_at hl 1 rfl) ?_
      refine lv_iload_n hx hb dX0_init_87 rfl (lv_at hl 2 rfl) ?_
      refine fc_ci (isC := []) (cells' := 1) (slots' := 628) (fc_runSN (n := 3) (As := [.int (2 : Int32), .int x1, .int x2]) (rest := [.ref b]) (isC := []) (maxL := 3) ⟨hx, hb, hml, hown, hts⟩ (c_X6_ofLeft (2 : Int32) x1 x2 H.size) gX0_init_X6_ofLeft_n23 (by decide +kernel) (by decide +kernel) (by decide +kernel) rfl (by decide +kernel) rfl ⟨Nat.le_of_ble_eq_true rfl, Nat.le_of_ble_eq_true rfl⟩ ⟨Nat.le_of_ble_eq_true rfl, Nat.le_of_ble_eq_true rfl⟩ hE hP hD hS hA rfl rfl hl rfl (Nat.le_of_ble_eq_true rfl) dX0_init_88) hP hD hS hA rfl (fun _ => rfl) rfl rfl (fun r_10 _ H locs hr_10 hP hD hS => ?_)
      obtain rfl : (F_X6_ofLeft (2 : Int32) x1 x2) = r_10 := hr_10.symm
      dsimp only [fs, List.set] at hP hD
      have hP : va_P D vwCl [(b, .inr (4, [.ref r])), (r, .inl (k.1, 628, .inl p_9))] H := hP
      have hD : va_D A [(b, .inr (4, [.ref r])), (r, .inl (k.1, 628, .inl p_9))] := hD
      refine lv_iconst (v := 2) hx hb dX0_init_91 (by decide) ?_
      refine fc_ci (isC := []) (cells' := 1) (slots' := 628) (fc_runSN (n := 1) (As := [.int (2 : Int32)]) (rest := [.int (F_X6_ofLeft (2 : Int32) x1 x2), .ref b]) (isC := []) (maxL := 1) ⟨hx, hb, hml, hown, hts⟩ (c_X6_mostOf (2 : Int32) H.size) gX0_init_X6_mostOf_n27 (by decide +kernel) (by decide +kernel) (by decide +kernel) rfl (by decide +kernel) rfl ⟨Nat.le_of_ble_eq_true rfl, Nat.le_of_ble_eq_true rfl⟩ ⟨Nat.le_of_ble_eq_true rfl, Nat.le_of_ble_eq_true rfl⟩ hE hP hD hS hA rfl rfl hl rfl (Nat.le_of_ble_eq_true rfl) dX0_init_92) hP hD hS hA rfl (fun _ => rfl) rfl rfl (fun r_11 _ H locs hr_11 hP hD hS => ?_)
      obtain rfl : (F_X6_mostOf (2 : Int32)) = r_11 := hr_11.symm
      dsimp only [fs, List.set] at hP hD
      have hP : va_P D vwCl [(b, .inr (4, [.ref r])), (r, .inl (k.1, 628, .inl p_9))] H := hP
      have hD : va_D A [(b, .inr (4, [.ref r])), (r, .inl (k.1, 628, .inl p_9))] := hD
      refine fc_cv (isC := [0, 1]) (cells' := 1) (slots' := 628) (fc_runV (n := 2) (As := [.int (F_X6_ofLeft (2 : Int32) x1 x2), .int (F_X6_mostOf (2 : Int32))]) (rest := []) (isC := [0, 1]) (maxL := 3) ⟨hx, hb, hml, hown, hts⟩ (c_X0_set b r p_9 (F_X6_ofLeft (2 : Int32) x1 x2) (F_X6_mostOf (2 : Int32)) H.size) gX0_init_X0_set rfl (by decide +kernel) rfl ⟨Nat.le_of_ble_eq_true rfl, Nat.le_of_ble_eq_true rfl⟩ ⟨Nat.le_of_ble_eq_true rfl, Nat.le_of_ble_eq_true rfl⟩ hE hP hD hS hA rfl rfl (va_recv hE.1 hP (ci := 4) (q0 := 0) rfl rfl) hl rfl (Nat.le_of_ble_eq_true rfl) dX0_init_95) hP hD hS hA rfl (fun _ => rfl) rfl rfl (fun _ H locs _ hP hD hS => ?_)
      dsimp only [fs, List.set] at hP hD
      have hP : va_P D vwCl [(b, .inr (4, [.ref r])), (r, .inl (k.1, 628, .inl (F_X0_set p_9 (F_X6_ofLeft (2 : Int32) x1 x2) (F_X6_mostOf (2 : Int32)))))] H := hP
      have hD : va_D A [(b, .inr (4, [.ref r])), (r, .inl (k.1, 628, .inl (F_X0_set p_9 (F_X6_ofLeft (2 : Int32) x1 x2) (F_X6_mostOf (2 : Int32)))))] := hD
      refine lv_iinc (v := (x2 + (1 : Int32))) (lv' := [(2, .int (x2 + (1 : Int32))), (0, .ref b), (1, .int x1)]) hx hb dX0_init_98 hl (k := 2) rfl rfl (by decide) rfl (fun ls hl => ?_)
      refine lv_goto (tgt := 50) hx hb dX0_init_101 (by decide) ?_
      exact ih (F_X0_set p_9 (F_X6_ofLeft (2 : Int32) x1 x2) (F_X6_mostOf (2 : Int32))) x1 (x2 + (1 : Int32)) RES hF (lp_step c_4 hm) K H locs hP hD hS ls (lv_sub hl [1, 2, 0] rfl)
set_option maxHeartbeats 4000000 in
set_option maxRecDepth 100000 in
theorem lp_X0_init_23 {p : Program} {l : Launch} {e : Env} {s : State} {m : MethodId} {args : Array Value} {below : List Frame} {meth : Method} {c : Code} {D : va_G} {k : tyK} {A : Nat → Prop} {Q : State → Prop} (hx : p.tables.exec = Jvm.exec) (hb : c.code = cX0_init) (hml : c.maxLocals = 3) (hr : meth.sig.returnType = none) (hts : ∀ w ∈ wsX0_init, w.before args s = true) (hown : s.vm.findClass RX0 = some m.cls) (hlk : meth.locks = false) (hA : ∀ q : Nat, s.heap.size ≤ q → A q) (hE : GE D k A s) (b r : Nat) :
    ∀ (n : Nat) (f : (Nat → Int32)) (x1 : Int32) (RES : Int32 × (Nat → Int32)), FL_X0_init_23 n f x1 = RES → ((5 : Int32).toInt - (x1 : Int32).toInt).toNat < n → (∀ (H : Heap) (locs : List Loc), va_P D vwCl [(b, .inr (4, [.ref r])), (r, .inl (k.1, 628, .inl RES.2))] H → va_D A [(b, .inr (4, [.ref r])), (r, .inl (k.1, 628, .inl RES.2))] → va_S A s.heap H locs → ∀ ls : Array Slot, lv_has ls 3 [(0, .ref b), (1, .int RES.1)] → W p l e rm_X0_init s m args below meth c H locs 1 628 Q (F0 m 110 ls [])) → ∀ (H : Heap) (locs : List Loc), va_P D vwCl [(b, .inr (4, [.ref r])), (r, .inl (k.1, 628, .inl f))] H → va_D A [(b, .inr (4, [.ref r])), (r, .inl (k.1, 628, .inl f))] → va_S A s.heap H locs → ∀ ls : Array Slot, lv_has ls 3 [(0, .ref b), (1, .int x1)] → W p l e rm_X0_init s m args below meth c H locs 1 628 Q (F0 m 23 ls []) := by
  intro n
  induction n with
  | zero =>
    intro f x1 RES hF hm K H locs hP hD hS ls hl
    exact absurd hm (Nat.not_lt_zero _)
  | succ n ih =>
    intro f x1 RES hF hm K H locs hP hD hS ls hl
    rw [FL_X0_init_23] at hF
    refine lv_iload_n hx hb dX0_init_23 rfl (lv_at hl 1 rfl) ?_
    refine lv_iconst (v := 5) hx hb dX0_init_24 (by decide) ?_
    refine lv_icmp_ge (tgt := 110) hx hb dX0_init_25 (by decide) (fun c_1 => ?_) (fun c_1 => ?_)
    · rw [if_pos c_1] at hF
      subst hF
      exact K H locs hP hD hS ls (lv_sub hl [0, 1] rfl)
    · rw [if_neg c_1] at hF
      refine lv_aload_n hx hb dX0_init_28 rfl (lv_at hl 0 rfl) ?_
      refine lv_iload_n hx hb dX0_init_29 rfl (lv_at hl 1 rfl) ?_
      refine lv_iconst (v := 0) hx hb dX0_init_30 (by decide) ?_
      refine fc_ci (isC := []) (cells' := 1) (slots' := 628) (fc_runSN (n := 2) (As := [.int x1, .int (0 : Int32)]) (rest := [.ref b]) (isC := []) (maxL := 2) ⟨hx, hb, hml, hown, hts⟩ (c_X6_ofTown x1 (0 : Int32) H.size) gX0_init_X6_ofTown_n19 (by decide +kernel) (by decide +kernel) (by decide +kernel) rfl (by decide +kernel) rfl ⟨Nat.le_of_ble_eq_true rfl, Nat.le_of_ble_eq_true rfl⟩ ⟨Nat.le_of_ble_eq_true rfl, Nat.le_of_ble_eq_true rfl⟩ hE hP hD hS hA rfl rfl hl rfl (Nat.le_of_ble_eq_true rfl) dX0_init_31) hP hD hS hA rfl (fun _ => rfl) rfl rfl (fun r_2 _ H locs hr_2 hP hD hS => ?_)
      obtain rfl : (F_X6_ofTown x1 (0 : Int32)) = r_2 := hr_2.symm
      dsimp only [fs, List.set] at hP hD
      have hP : va_P D vwCl [(b, .inr (4, [.ref r])), (r, .inl (k.1, 628, .inl f))] H := hP
      have hD : va_D A [(b, .inr (4, [.ref r])), (r, .inl (k.1, 628, .inl f))] := hD
      refine lv_iconst (v := 1) hx hb dX0_init_34 (by decide) ?_
      refine fc_cv (isC := [0, 1]) (cells' := 1) (slots' := 628) (fc_runV (n := 2) (As := [.int (F_X6_ofTown x1 (0 : Int32)), .int (1 : Int32)]) (rest := []) (isC := [0, 1]) (maxL := 3) ⟨hx, hb, hml, hown, hts⟩ (c_X0_set b r f (F_X6_ofTown x1 (0 : Int32)) (1 : Int32) H.size) gX0_init_X0_set rfl (by decide +kernel) rfl ⟨Nat.le_of_ble_eq_true rfl, Nat.le_of_ble_eq_true rfl⟩ ⟨Nat.le_of_ble_eq_true rfl, Nat.le_of_ble_eq_true rfl⟩ hE hP hD hS hA rfl rfl (va_recv hE.1 hP (ci := 4) (q0 := 0) rfl rfl) hl rfl (Nat.le_of_ble_eq_true rfl) dX0_init_35) hP hD hS hA rfl (fun _ => rfl) rfl rfl (fun _ H locs _ hP hD hS => ?_)
      dsimp only [fs, List.set] at hP hD
      have hP : va_P D vwCl [(b, .inr (4, [.ref r])), (r, .inl (k.1, 628, .inl (F_X0_set f (F_X6_ofTown x1 (0 : Int32)) (1 : Int32))))] H := hP
      have hD : va_D A [(b, .inr (4, [.ref r])), (r, .inl (k.1, 628, .inl (F_X0_set f (F_X6_ofTown x1 (0 : Int32)) (1 : Int32))))] := hD
      refine lv_aload_n hx hb dX0_init_38 rfl (lv_at hl 0 rfl) ?_
      refine lv_iload_n hx hb dX0_init_39 rfl (lv_at hl 1 rfl) ?_
      refine lv_iconst (v := 1) hx hb dX0_init_40 (by decide) ?_
      refine fc_ci (isC := []) (cells' := 1) (slots' := 628) (fc_runSN (n := 2) (As := [.int x1, .int (1 : Int32)]) (rest := [.ref b]) (isC := []) (maxL := 2) ⟨hx, hb, hml, hown, hts⟩ (c_X6_ofTown x1 (1 : Int32) H.size) gX0_init_X6_ofTown_n19 (by decide +kernel) (by decide +kernel) (by decide +kernel) rfl (by decide +kernel) rfl ⟨Nat.le_of_ble_eq_true rfl, Nat.le_of_ble_eq_true rfl⟩ ⟨Nat.le_of_ble_eq_true rfl, Nat.le_of_ble_eq_true rfl⟩ hE hP hD hS hA rfl rfl hl rfl (Nat.le_of_ble_eq_true rfl) dX0_init_41) hP hD hS hA rfl (fun _ => rfl) rfl rfl (fun r_3 _ H locs hr_3 hP hD hS => ?_)
      obtain rfl : (F_X6_ofTown x1 (1 : Int32)) = r_3 := hr_3.symm
      dsimp only [fs, List.set] at hP hD
      have hP : va_P D vwCl [(b, .inr (4, [.ref r])), (r, .inl (k.1, 628, .inl (F_X0_set f (F_X6_ofTown x1 (0 : Int32)) (1 : Int32))))] H := hP
      have hD : va_D A [(b, .inr (4, [.ref r])), (r, .inl (k.1, 628, .inl (F_X0_set f (F_X6_ofTown x1 (0 : Int32)) (1 : Int32))))] := hD
      refine lv_iconst (v := 2) hx hb dX0_init_44 (by decide) ?_
      refine fc_cv (isC := [0, 1]) (cells' := 1) (slots' := 628) (fc_runV (n := 2) (As := [.int (F_X6_ofTown x1 (1 : Int32)), .int (2 : Int32)]) (rest := []) (isC := [0, 1]) (maxL := 3) ⟨hx, hb, hml, hown, hts⟩ (c_X0_set b r (F_X0_set f (F_X6_ofTown x1 (0 : Int32)) (1 : Int32)) (F_X6_ofTown x1 (1 : Int32)) (2 : Int32) H.size) gX0_init_X0_set rfl (by decide +kernel) rfl ⟨Nat.le_of_ble_eq_true rfl, Nat.le_of_ble_eq_true rfl⟩ ⟨Nat.le_of_ble_eq_true rfl, Nat.le_of_ble_eq_true rfl⟩ hE hP hD hS hA rfl rfl (va_recv hE.1 hP (ci := 4) (q0 := 0) rfl rfl) hl rfl (Nat.le_of_ble_eq_true rfl) dX0_init_45) hP hD hS hA rfl (fun _ => rfl) rfl rfl (fun _ H locs _ hP hD hS => ?_)
      dsimp only [fs, List.set] at hP hD
      have hP : va_P D vwCl [(b, .inr (4, [.ref r])), (r, .inl (k.1, 628, .inl (F_X0_set (F_X0_set f (F_X6_ofTown x1 (0 : Int32)) (1 : Int32)) (F_X6_ofTown x1 (1 : Int32)) (2 : Int32))))] H := hP
      have hD : va_D A [(b, .inr (4, [.ref r])), (r, .inl (k.1, 628, .inl (F_X0_set (F_X0_set f (F_X6_ofTown x1 (0 : Int32)) (1 : Int32)) (F_X6_ofTown x1 (1 : Int32)) (2 : Int32))))] := hD
      refine lv_iconst (v := 0) hx hb dX0_init_48 (by decide) ?_
      refine lv_istore_n (lv' := [(2, .int (0 : Int32)), (0, .ref b), (1, .int x1)]) hx hb dX0_init_49 rfl hl (by decide) rfl (fun ls hl => ?_)
      refine lp_X0_init_50 hx hb hml hr hts hown hlk hA hE b r (21) (F_X0_set (F_X0_set f (F_X6_ofTown x1 (0 : Int32)) (1 : Int32)) (F_X6_ofTown x1 (1 : Int32)) (2 : Int32)) x1 (0 : Int32) _ rfl (by decide) (fun H locs hP hD hS ls hl => ?_) H locs hP hD hS ls (lv_sub hl [1, 2, 0] rfl)
      have hl : lv_has ls 3 [(0, .ref b), (1, .int x1), (2, .int (FL_X0_init_50 (21) (F_X0_set (F_X0_set f (F_X6_ofTown x1 (0 : Int32)) (1 : Int32)) (F_X6_ofTown x1 (1 : Int32)) (2 : Int32)) x1 (0 : Int32)).1)] := hl
      have hP : va_P D vwCl [(b, .inr (4, [.ref r])), (r, .inl (k.1, 628, .inl (FL_X0_init_50 (21) (F_X0_set (F_X0_set f (F_X6_ofTown x1 (0 : Int32)) (1 : Int32)) (F_X6_ofTown x1 (1 : Int32)) (2 : Int32)) x1 (0 : Int32)).2))] H := hP
      have hD : va_D A [(b, .inr (4, [.ref r])), (r, .inl (k.1, 628, .inl (FL_X0_init_50 (21) (F_X0_set (F_X0_set f (F_X6_ofTown x1 (0 : Int32)) (1 : Int32)) (F_X6_ofTown x1 (1 : Int32)) (2 : Int32)) x1 (0 : Int32)).2))] := hD
      refine lv_iinc (v := (x1 + (1 : Int32))) (lv' := [(1, .int (x1 + (1 : Int32))), (0, .ref b), (2, .int (FL_X0_init_50 (21) (F_X0_set (F_X0_set f (F_X6_ofTown x1 (0 : Int32)) (1 : Int32)) (F_X6_ofTown x1 (1 : Int32)) (2 : Int32)) x1 (0 : Int32)).1)]) hx hb dX0_init_104 hl (k := 1) rfl rfl (by decide) rfl (fun ls hl => ?_)
      refine lv_goto (tgt := 23) hx hb dX0_init_107 (by decide) ?_
      exact ih ((FL_X0_init_50 (21) (F_X0_set (F_X0_set f (F_X6_ofTown x1 (0 : Int32)) (1 : Int32)) (F_X6_ofTown x1 (1 : Int32)) (2 : Int32)) x1 (0 : Int32)).2) (x1 + (1 : Int32)) RES hF (lp_step c_1 hm) K H locs hP hD hS ls (lv_sub hl [1, 0] rfl)
theorem in_X0_init_X0 : ∀ w ∈ wsX00, w ∈ wsX0_init := by decide +kernel
set_option maxHeartbeats 4000000 in
set_option maxRecDepth 100000 in
theorem c_X0_init {l : Launch} {D : va_G} {k : tyK} (b : Nat) : FCv l yX0_init wsX0_init rm_X0_init D k [.ref b] [(b, .inr (4, [.null]))] (fun (_ : Nat) => True) (fun u => [(b, .inr (4, [.ref u])), (u, .inl (k.1, 628, .inl (F_X0_init (fun _ => 0))))]) := by
  refine fc_start (cc := cX0_init) (maxL := 3) (ret := none) (own := RX0) (Qc := fun A => va_Qv (fun (_ : Nat) => True) (Bt D (fun u => [(b, .inr (4, [.ref u])), (u, .inl (k.1, 628, .inl (F_X0_init (fun _ => 0))))]) A) A) (by decide) rfl rfl (Nat.le_of_ble_eq_true rfl) ?_
  intro p e s m below meth c A H hx hb hml hr hts hown hlk hname hA hP hE hD hS ls hl
  have hl : lv_has ls 3 [(0, .ref b)] := hl
  refine lv_aload_n hx hb dX0_init_0 rfl (lv_at hl 0 rfl) ?_
  refine W.objInit hx hb hown (hts (.methodLink RX0 3 objectInit) (by decide +kernel)) (hts (.instanceMethod objectInit) (by decide +kernel)) (hts (.code objectInit ⟨#[0xb1]⟩ 1 none) (by decide +kernel)) rfl (by rw [hml]; exact hl.1) rfl dX0_init_1 (Nat.le_of_ble_eq_true rfl) (Nat.le_of_ble_eq_true rfl) ?_
  refine lv_aload_n hx hb dX0_init_4 rfl (lv_at hl 0 rfl) ?_
  refine lv_sipush (v := 628) hx hb dX0_init_5 (by decide) ?_
  refine va_newa (atype := .int) (a0 := (628, .inl (fun _ => 0))) hx hb (hts (.arrayClass .int) (by decide +kernel)) rfl hE.1 hP hD hS hA (fun _ => rfl) (by decide) (by decide) (by decide) (by decide) (by decide) dX0_init_8 (fun r cA H hK hP hD hS => ?_)
  have e9 : cA = k.1 := Option.some.inj ((hK.2 4 _ rfl).2.symm.trans (hK.2 0 _ rfl).2)
  subst e9
  have hP : va_P D vwCl [(b, .inr (4, [.null])), (r, .inl (k.1, 628, .inl (fun _ => 0)))] H := hP
  have hD : va_D A [(b, .inr (4, [.null])), (r, .inl (k.1, 628, .inl (fun _ => 0)))] := hD
  obtain ⟨locs, hlocs⟩ : ∃ z : List Loc, z = [] := ⟨_, rfl⟩
  rw [← hlocs] at hS ⊢
  refine va_putF (D := D) (ci := 4) (v := .ref r) (ty := (.array .int)) (C := RX0) (T := TX0) (N := 1) hx hb hts in_X0_init_X0 tyX0 tyX0_ok nmX0 hown hE.1 hP hD hS 0 rfl rfl 0 (by decide) (hts (.fieldLink RX0 9 "TheatreSaga$Books" "cells" "[I") (by decide +kernel)) (fun _ h9 => h9) rfl (hname.trans rfl) rfl (by decide +kernel) rfl rfl (Nat.le_of_ble_eq_true rfl) dX0_init_10 (fun H locs hP hD hS => ?_)
  obtain ⟨f, hf⟩ : ∃ z : Nat → Int32, z = (fun _ => 0) := ⟨_, rfl⟩
  rw [← hf] at hP hD ⊢
  have hP : va_P D vwCl [(b, .inr (4, [.ref r])), (r, .inl (k.1, 628, .inl f))] H := hP
  have hD : va_D A [(b, .inr (4, [.ref r])), (r, .inl (k.1, 628, .inl f))] := hD
  obtain ⟨RES, hF⟩ : ∃ z, (F_X0_init f) = z := ⟨_, rfl⟩
  rw [hF]
  unfold F_X0_init at hF
  refine lv_aload_n hx hb dX0_init_13 rfl (lv_at hl 0 rfl) ?_
  refine lv_bipush (v := 7) hx hb dX0_init_14 (by decide) ?_
  refine lv_bipush (v := 100) hx hb dX0_init_16 (by decide) ?_
  refine fc_cv (isC := [0, 1]) (cells' := 1) (slots' := 628) (fc_runV (n := 2) (As := [.int (7 : Int32), .int (100 : Int32)]) (rest := []) (isC := [0, 1]) (maxL := 3) ⟨hx, hb, hml, hown, hts⟩ (c_X0_set b r f (7 : Int32) (100 : Int32) H.size) gX0_init_X0_set rfl (by decide +kernel) rfl ⟨Nat.le_of_ble_eq_true rfl, Nat.le_of_ble_eq_true rfl⟩ ⟨Nat.le_of_ble_eq_true rfl, Nat.le_of_ble_eq_true rfl⟩ hE hP hD hS hA rfl rfl (va_recv hE.1 hP (ci := 4) (q0 := 0) rfl rfl) hl rfl (Nat.le_of_ble_eq_true rfl) dX0_init_18) hP hD hS hA rfl (fun _ => rfl) rfl rfl (fun _ H locs _ hP hD hS => ?_)
  dsimp only [fs, List.set] at hP hD
  have hP : va_P D vwCl [(b, .inr (4, [.ref r])), (r, .inl (k.1, 628, .inl (F_X0_set f (7 : Int32) (100 : Int32))))] H := hP
  have hD : va_D A [(b, .inr (4, [.ref r])), (r, .inl (k.1, 628, .inl (F_X0_set f (7 : Int32) (100 : Int32))))] := hD
  refine lv_iconst (v := 0) hx hb dX0_init_21 (by decide) ?_
  refine lv_istore_n (lv' := [(1, .int (0 : Int32)), (0, .ref b)]) hx hb dX0_init_22 rfl hl (by decide) rfl (fun ls hl => ?_)
  refine lp_X0_init_23 hx hb hml hr hts hown hlk hA hE b r (6) (F_X0_set f (7 : Int32) (100 : Int32)) (0 : Int32) _ rfl (by decide) (fun H locs hP hD hS ls hl => ?_) H locs hP hD hS ls (lv_sub hl [1, 0] rfl)
  have hl : lv_has ls 3 [(0, .ref b), (1, .int (FL_X0_init_23 (6) (F_X0_set f (7 : Int32) (100 : Int32)) (0 : Int32)).1)] := hl
  have hP : va_P D vwCl [(b, .inr (4, [.ref r])), (r, .inl (k.1, 628, .inl (FL_X0_init_23 (6) (F_X0_set f (7 : Int32) (100 : Int32)) (0 : Int32)).2))] H := hP
  have hD : va_D A [(b, .inr (4, [.ref r])), (r, .inl (k.1, 628, .inl (FL_X0_init_23 (6) (F_X0_set f (7 : Int32) (100 : Int32)) (0 : Int32)).2))] := hD
  subst hF
  exact fc_vret hx hb hr hlk hS r trivial hP hD (by decide) (by decide) dX0_init_110
end
