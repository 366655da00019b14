section
abbrev rm_X4_length : Room := { frames := 0, cells := 0, slots := 0, locals := 0 }
theorem in_X4_length_X4 : ∀ w ∈ wsX40, w ∈ wsX4_length := by decide +kernel
theorem lk_X4_length_15 : (Cond.fieldLink RX4 15 "TheatreSaga$Text" "length" "I") ∈ wsX4_length := by decide +kernel
def F_X4_length (ln : Int32) (tp : Int32) (wd : Int32) (fi : Int32) (tw : Int32) (dy : Int32) (mn : Int32) (vl : Int32) (sg : (Nat → Int32))  : Int32 := ln
set_option maxHeartbeats 4000000 in
set_option maxRecDepth 100000 in
theorem c_X4_length {l : Launch} {D : va_G} {k : tyK} (x s0 : Nat) (ln : Int32) (tp : Int32) (wd : Int32) (fi : Int32) (tw : Int32) (dy : Int32) (mn : Int32) (vl : Int32) (sg : (Nat → Int32))  : FCi l yX4_length wsX4_length rm_X4_length D k [.ref x] [(x, .inr (8, [.ref s0, .int ln, .int tp, .int wd, .int fi, .int tw, .int dy, .int mn, .int vl])), (s0, .inl (k.2.1, 60, .inl sg))] (fun r (_ : Unit) => r = (F_X4_length ln tp wd fi tw dy mn vl sg)) (fun _ => [(x, .inr (8, [.ref s0, .int ln, .int tp, .int wd, .int fi, .int tw, .int dy, .int mn, .int vl])), (s0, .inl (k.2.1, 60, .inl sg))]) := by
  refine fc_start (cc := cX4_length) (maxL := 1) (ret := (some .int)) (own := RX4) (Qc := fun A => va_Qi (fun r (_ : Unit) => r = (F_X4_length ln tp wd fi tw dy mn vl sg)) (Bt D (fun _ => [(x, .inr (8, [.ref s0, .int ln, .int tp, .int wd, .int fi, .int tw, .int dy, .int mn, .int vl])), (s0, .inl (k.2.1, 60, .inl sg))]) A) A) (by decide) rfl rfl (Nat.le_of_ble_eq_true rfl) ?_
  intro p e s m below meth c A H hx hb hml hr hts hown hlk hname hA hP hE hD hS ls hl
  obtain ⟨RES, hF⟩ : ∃ z, (F_X4_length ln tp wd fi tw dy mn vl sg) = z := ⟨_, rfl⟩
  rw [hF]
  unfold F_X4_length at hF
  have hl : lv_has ls 1 [(0, .ref x)] := hl
  obtain ⟨locs, hlocs⟩ : ∃ z : List Loc, z = [] := ⟨_, rfl⟩
  rw [← hlocs] at hS ⊢
  refine lv_aload_n hx hb dX4_length_0 rfl (lv_at hl 0 rfl) ?_
  refine va_get (D := D) (ci := 8) (v := .int ln) (C := RX4) (T := TX4) (N := 9) hx hb hts in_X4_length_X4 hown hE.1 hP 0 rfl rfl 1 (by decide) (hts _ lk_X4_length_15) (fun _ h9 => h9) rfl dX4_length_1 ?_
  subst hF
  exact fc_iret hx hb hr rfl hlk hS () rfl hP hD (by decide) (by decide) dX4_length_4

abbrev rm_X4_word : Room := { frames := 0, cells := 0, slots := 0, locals := 0 }
theorem in_X4_word_X4 : ∀ w ∈ wsX40, w ∈ wsX4_word := by decide +kernel
theorem lk_X4_word_22 : (Cond.fieldLink RX4 22 "TheatreSaga$Text" "word" "I") ∈ wsX4_word := by decide +kernel
def F_X4_word (ln : Int32) (tp : Int32) (wd : Int32) (fi : Int32) (tw : Int32) (dy : Int32) (mn : Int32) (vl : Int32) (sg : (Nat → Int32))  : Int32 := wd
set_option maxHeartbeats 4000000 in
set_option maxRecDepth 100000 in
theorem c_X4_word {l : Launch} {D : va_G} {k : tyK} (x s0 : Nat) (ln : Int32) (tp : Int32) (wd : Int32) (fi : Int32) (tw : Int32) (dy : Int32) (mn : Int32) (vl : Int32) (sg : (Nat → Int32))  : FCi l yX4_word wsX4_word rm_X4_word D k [.ref x] [(x, .inr (8, [.ref s0, .int ln, .int tp, .int wd, .int fi, .int tw, .int dy, .int mn, .int vl])), (s0, .inl (k.2.1, 60, .inl sg))] (fun r (_ : Unit) => r = (F_X4_word ln tp wd fi tw dy mn vl sg)) (fun _ => [(x, .inr (8, [.ref s0, .int ln, .int tp, .int wd, .int fi, .int tw, .int dy, .int mn, .int vl])), (s0, .inl (k.2.1, 60, .inl sg))]) := by
  refine fc_start (cc := cX4_word) (maxL := 1) (ret := (some .int)) (own := RX4) (Qc := fun A => va_Qi (fun r (_ : Unit) => r = (F_X4_word ln tp wd fi tw dy mn vl sg)) (Bt D (fun _ => [(x, .inr (8, [.ref s0, .int ln, .int tp, .int wd, .int fi, .int tw, .int dy, .int mn, .int vl])), (s0, .inl (k.2.1, 60, .inl sg))]) A) A) (by decide) rfl rfl (Nat.le_of_ble_eq_true rfl) ?_
  intro p e s m below meth c A H hx hb hml hr hts hown hlk hname hA hP hE hD hS ls hl
  obtain ⟨RES, hF⟩ : ∃ z, (F_X4_word ln tp wd fi tw dy mn vl sg) = z := ⟨_, rfl⟩
  rw [hF]
  unfold F_X4_word at hF
  have hl : lv_has ls 1 [(0, .ref x)] := hl
  obtain ⟨locs, hlocs⟩ : ∃ z : List Loc, z = [] := ⟨_, rfl⟩
  rw [← hlocs] at hS ⊢
  refine lv_aload_n hx hb dX4_word_0 rfl (lv_at hl 0 rfl) ?_
  refine va_get (D := D) (ci := 8) (v := .int wd) (C := RX4) (T := TX4) (N := 9) hx hb hts in_X4_word_X4 hown hE.1 hP 0 rfl rfl 3 (by decide) (hts _ lk_X4_word_22) (fun _ h9 => h9) rfl dX4_word_1 ?_
  subst hF
  exact fc_iret hx hb hr rfl hlk hS () rfl hP hD (by decide) (by decide) dX4_word_4

abbrev rm_X4_first : Room := { frames := 0, cells := 0, slots := 0, locals := 0 }
theorem in_X4_first_X4 : ∀ w ∈ wsX40, w ∈ wsX4_first := by decide +kernel
theorem lk_X4_first_25 : (Cond.fieldLink RX4 25 "TheatreSaga$Text" "first" "I") ∈ wsX4_first := by decide +kernel
def F_X4_first (ln : Int32) (tp : Int32) (wd : Int32) (fi : Int32) (tw : Int32) (dy : Int32) (mn : Int32) (vl : Int32) (sg : (Nat → Int32))  : Int32 := fi
set_option maxHeartbeats 4000000 in
set_option maxRecDepth 100000 in
theorem c_X4_first {l : Launch} {D : va_G} {k : tyK} (x s0 : Nat) (ln : Int32) (tp : Int32) (wd : Int32) (fi : Int32) (tw : Int32) (dy : Int32) (mn : Int32) (vl : Int32) (sg : (Nat → Int32))  : FCi l yX4_first wsX4_first rm_X4_first D k [.ref x] [(x, .inr (8, [.ref s0, .int ln, .int tp, .int wd, .int fi, .int tw, .int dy, .int mn, .int vl])), (s0, .inl (k.2.1, 60, .inl sg))] (fun r (_ : Unit) => r = (F_X4_first ln tp wd fi tw dy mn vl sg)) (fun _ => [(x, .inr (8, [.ref s0, .int ln, .int tp, .int wd, .int fi, .int tw, .int dy, .int mn, .int vl])), (s0, .inl (k.2.1, 60, .inl sg))]) := by
  refine fc_start (cc := cX4_first) (maxL := 1) (ret := (some .int)) (own := RX4) (Qc := fun A => va_Qi (fun r (_ : Unit) => r = (F_X4_first ln tp wd fi tw dy mn vl sg)) (Bt D (fun _ => [(x, .inr (8, [.ref s0, .int ln, .int tp, .int wd, .int fi, .int tw, .int dy, .int mn, .int vl])), (s0, .inl (k.2.1, 60, .inl sg))]) A) A) (by decide) rfl rfl (Nat.le_of_ble_eq_true rfl) ?_
  intro p e s m below meth c A H hx hb hml hr hts hown hlk hname hA hP hE hD hS ls hl
  obtain ⟨RES, hF⟩ : ∃ z, (F_X4_first ln tp wd fi tw dy mn vl sg) = z := ⟨_, rfl⟩
  rw [hF]
  unfold F_X4_first at hF
  have hl : lv_has ls 1 [(0, .ref x)] := hl
  obtain ⟨locs, hlocs⟩ : ∃ z : List Loc, z = [] := ⟨_, rfl⟩
  rw [← hlocs] at hS ⊢
  refine lv_aload_n hx hb dX4_first_0 rfl (lv_at hl 0 rfl) ?_
  refine va_get (D := D) (ci := 8) (v := .int fi) (C := RX4) (T := TX4) (N := 9) hx hb hts in_X4_first_X4 hown hE.1 hP 0 rfl rfl 4 (by decide) (hts _ lk_X4_first_25) (fun _ h9 => h9) rfl dX4_first_1 ?_
  subst hF
  exact fc_iret hx hb hr rfl hlk hS () rfl hP hD (by decide) (by decide) dX4_first_4

abbrev rm_X4_kind : Room := { frames := 0, cells := 0, slots := 0, locals := 0 }
theorem in_X4_kind_X4 : ∀ w ∈ wsX40, w ∈ wsX4_kind := by decide +kernel
theorem lk_X4_kind_22 : (Cond.fieldLink RX4 22 "TheatreSaga$Text" "word" "I") ∈ wsX4_kind := by decide +kernel
def F_X4_kind (ln : Int32) (tp : Int32) (wd : Int32) (fi : Int32) (tw : Int32) (dy : Int32) (mn : Int32) (vl : Int32) (sg : (Nat → Int32))  : Int32 := (wd - (1 : Int32))
set_option maxHeartbeats 4000000 in
set_option maxRecDepth 100000 in
theorem c_X4_kind {l : Launch} {D : va_G} {k : tyK} (x s0 : Nat) (ln : Int32) (tp : Int32) (wd : Int32) (fi : Int32) (tw : Int32) (dy : Int32) (mn : Int32) (vl : Int32) (sg : (Nat → Int32))  : FCi l yX4_kind wsX4_kind rm_X4_kind D k [.ref x] [(x, .inr (8, [.ref s0, .int ln, .int tp, .int wd, .int fi, .int tw, .int dy, .int mn, .int vl])), (s0, .inl (k.2.1, 60, .inl sg))] (fun r (_ : Unit) => r = (F_X4_kind ln tp wd fi tw dy mn vl sg)) (fun _ => [(x, .inr (8, [.ref s0, .int ln, .int tp, .int wd, .int fi, .int tw, .int dy, .int mn, .int vl])), (s0, .inl (k.2.1, 60, .inl sg))]) := by
  refine fc_start (cc := cX4_kind) (maxL := 1) (ret := (some .int)) (own := RX4) (Qc := fun A => va_Qi (fun r (_ : Unit) => r = (F_X4_kind ln tp wd fi tw dy mn vl sg)) (Bt D (fun _ => [(x, .inr (8, [.ref s0, .int ln, .int tp, .int wd, .int fi, .int tw, .int dy, .int mn, .int vl])), (s0, .inl (k.2.1, 60, .inl sg))]) A) A) (by decide) rfl rfl (Nat.le_of_ble_eq_true rfl) ?_
  intro p e s m below meth c A H hx hb hml hr hts hown hlk hname hA hP hE hD hS ls hl
  obtain ⟨RES, hF⟩ : ∃ z, (F_X4_kind ln tp wd fi tw dy mn vl sg) = z := ⟨_, rfl⟩
  rw [hF]
  unfold F_X4_kind at hF
  have hl : lv_has ls 1 [(0, .ref x)] := hl
  obtain ⟨locs, hlocs⟩ : ∃ z : List Loc, z = [] := ⟨_, rfl⟩
  rw [← hlocs] at hS ⊢
  refine lv_aload_n hx hb dX4_kind_0 rfl (lv_at hl 0 rfl) ?_
  refine va_get (D := D) (ci := 8) (v := .int wd) (C := RX4) (T := TX4) (N := 9) hx hb hts in_X4_kind_X4 hown hE.1 hP 0 rfl rfl 3 (by decide) (hts _ lk_X4_kind_22) (fun _ h9 => h9) rfl dX4_kind_1 ?_
  refine lv_iconst (v := 1) hx hb dX4_kind_4 (by decide) ?_
  refine lv_isub hx hb dX4_kind_5 ?_
  subst hF
  exact fc_iret hx hb hr rfl hlk hS () rfl hP hD (by decide) (by decide) dX4_kind_6

abbrev rm_X4_town : Room := { frames := 0, cells := 0, slots := 0, locals := 0 }
theorem in_X4_town_X4 : ∀ w ∈ wsX40, w ∈ wsX4_town := by decide +kernel
theorem lk_X4_town_28 : (Cond.fieldLink RX4 28 "TheatreSaga$Text" "town" "I") ∈ wsX4_town := by decide +kernel
def F_X4_town (ln : Int32) (tp : Int32) (wd : Int32) (fi : Int32) (tw : Int32) (dy : Int32) (mn : Int32) (vl : Int32) (sg : (Nat → Int32))  : Int32 := tw
set_option maxHeartbeats 4000000 in
set_option maxRecDepth 100000 in
theorem c_X4_town {l : Launch} {D : va_G} {k : tyK} (x s0 : Nat) (ln : Int32) (tp : Int32) (wd : Int32) (fi : Int32) (tw : Int32) (dy : Int32) (mn : Int32) (vl : Int32) (sg : (Nat → Int32))  : FCi l yX4_town wsX4_town rm_X4_town D k [.ref x] [(x, .inr (8, [.ref s0, .int ln, .int tp, .int wd, .int fi, .int tw, .int dy, .int mn, .int vl])), (s0, .inl (k.2.1, 60, .inl sg))] (fun r (_ : Unit) => r = (F_X4_town ln tp wd fi tw dy mn vl sg)) (fun _ => [(x, .inr (8, [.ref s0, .int ln, .int tp, .int wd, .int fi, .int tw, .int dy, .int mn, .int vl])), (s0, .inl (k.2.1, 60, .inl sg))]) := by
  refine fc_start (cc := cX4_town) (maxL := 1) (ret := (some .int)) (own := RX4) (Qc := fun A => va_Qi (fun r (_ : Unit) => r = (F_X4_town ln tp wd fi tw dy mn vl sg)) (Bt D (fun _ => [(x, .inr (8, [.ref s0, .int ln, .int tp, .int wd, .int fi, .int tw, .int dy, .int mn, .int vl])), (s0, .inl (k.2.1, 60, .inl sg))]) A) A) (by decide) rfl rfl (Nat.le_of_ble_eq_true rfl) ?_
  intro p e s m below meth c A H hx hb hml hr hts hown hlk hname hA hP hE hD hS ls hl
  obtain ⟨RES, hF⟩ : ∃ z, (F_X4_town ln tp wd fi tw dy mn vl sg) = z := ⟨_, rfl⟩
  rw [hF]
  unfold F_X4_town at hF
  have hl : lv_has ls 1 [(0, .ref x)] := hl
  obtain ⟨locs, hlocs⟩ : ∃ z : List Loc, z = [] := ⟨_, rfl⟩
  rw [← hlocs] at hS ⊢
  refine lv_aload_n hx hb dX4_town_0 rfl (lv_at hl 0 rfl) ?_
  refine va_get (D := D) (ci := 8) (v := .int tw) (C := RX4) (T := TX4) (N := 9) hx hb hts in_X4_town_X4 hown hE.1 hP 0 rfl rfl 5 (by decide) (hts _ lk_X4_town_28) (fun _ h9 => h9) rfl dX4_town_1 ?_
  subst hF
  exact fc_iret hx hb hr rfl hlk hS () rfl hP hD (by decide) (by decide) dX4_town_4

abbrev rm_X4_day : Room := { frames := 0, cells := 0, slots := 0, locals := 0 }
theorem in_X4_day_X4 : ∀ w ∈ wsX40, w ∈ wsX4_day := by decide +kernel
theorem lk_X4_day_31 : (Cond.fieldLink RX4 31 "TheatreSaga$Text" "day" "I") ∈ wsX4_day := by decide +kernel
def F_X4_day (ln : Int32) (tp : Int32) (wd : Int32) (fi : Int32) (tw : Int32) (dy : Int32) (mn : Int32) (vl : Int32) (sg : (Nat → Int32))  : Int32 := dy
set_option maxHeartbeats 4000000 in
set_option maxRecDepth 100000 in
theorem c_X4_day {l : Launch} {D : va_G} {k : tyK} (x s0 : Nat) (ln : Int32) (tp : Int32) (wd : Int32) (fi : Int32) (tw : Int32) (dy : Int32) (mn : Int32) (vl : Int32) (sg : (Nat → Int32))  : FCi l yX4_day wsX4_day rm_X4_day D k [.ref x] [(x, .inr (8, [.ref s0, .int ln, .int tp, .int wd, .int fi, .int tw, .int dy, .int mn, .int vl])), (s0, .inl (k.2.1, 60, .inl sg))] (fun r (_ : Unit) => r = (F_X4_day ln tp wd fi tw dy mn vl sg)) (fun _ => [(x, .inr (8, [.ref s0, .int ln, .int tp, .int wd, .int fi, .int tw, .int dy, .int mn, .int vl])), (s0, .inl (k.2.1, 60, .inl sg))]) := by
  refine fc_start (cc := cX4_day) (maxL := 1) (ret := (some .int)) (own := RX4) (Qc := fun A => va_Qi (fun r (_ : Unit) => r = (F_X4_day ln tp wd fi tw dy mn vl sg)) (Bt D (fun _ => [(x, .inr (8, [.ref s0, .int ln, .int tp, .int wd, .int fi, .int tw, .int dy, .int mn, .int vl])), (s0, .inl (k.2.1, 60, .inl sg))]) A) A) (by decide) rfl rfl (Nat.le_of_ble_eq_true rfl) ?_
  intro p e s m below meth c A H hx hb hml hr hts hown hlk hname hA hP hE hD hS ls hl
  obtain ⟨RES, hF⟩ : ∃ z, (F_X4_day ln tp wd fi tw dy mn vl sg) = z := ⟨_, rfl⟩
  rw [hF]
  unfold F_X4_day at hF
  have hl : lv_has ls 1 [(0, .ref x)] := hl
  obtain ⟨locs, hlocs⟩ : ∃ z : List Loc, z = [] := ⟨_, rfl⟩
  rw [← hlocs] at hS ⊢
  refine lv_aload_n hx hb dX4_day_0 rfl (lv_at hl 0 rfl) ?_
  refine va_get (D := D) (ci := 8) (v := .int dy) (C := RX4) (T := TX4) (N := 9) hx hb hts in_X4_day_X4 hown hE.1 hP 0 rfl rfl 6 (by decide) (hts _ lk_X4_day_31) (fun _ h9 => h9) rfl dX4_day_1 ?_
  subst hF
  exact fc_iret hx hb hr rfl hlk hS () rfl hP hD (by decide) (by decide) dX4_day_4

abbrev rm_X4_many : Room := { frames := 0, cells := 0, slots := 0, locals := 0 }
theorem in_X4_many_X4 : ∀ w ∈ wsX40, w ∈ wsX4_many := by decide +kernel
theorem lk_X4_many_34 : (Cond.fieldLink RX4 34 "TheatreSaga$Text" "many" "I") ∈ wsX4_many := by decide +kernel
def F_X4_many (ln : Int32) (tp : Int32) (wd : Int32) (fi : Int32) (tw : Int32) (dy : Int32) (mn : Int32) (vl : Int32) (sg : (Nat → Int32))  : Int32 := mn
set_option maxHeartbeats 4000000 in
set_option maxRecDepth 100000 in
theorem c_X4_many {l : Launch} {D : va_G} {k : tyK} (x s0 : Nat) (ln : Int32) (tp : Int32) (wd : Int32) (fi : Int32) (tw : Int32) (dy : Int32) (mn : Int32) (vl : Int32) (sg : (Nat → Int32))  : FCi l yX4_many wsX4_many rm_X4_many D k [.ref x] [(x, .inr (8, [.ref s0, .int ln, .int tp, .int wd, .int fi, .int tw, .int dy, .int mn, .int vl])), (s0, .inl (k.2.1, 60, .inl sg))] (fun r (_ : Unit) => r = (F_X4_many ln tp wd fi tw dy mn vl sg)) (fun _ => [(x, .inr (8, [.ref s0, .int ln, .int tp, .int wd, .int fi, .int tw, .int dy, .int mn, .int vl])), (s0, .inl (k.2.1, 60, .inl sg))]) := by
  refine fc_start (cc := cX4_many) (maxL := 1) (ret := (some .int)) (own := RX4) (Qc := fun A => va_Qi (fun r (_ : Unit) => r = (F_X4_many ln tp wd fi tw dy mn vl sg)) (Bt D (fun _ => [(x, .inr (8, [.ref s0, .int ln, .int tp, .int wd, .int fi, .int tw, .int dy, .int mn, .int vl])), (s0, .inl (k.2.1, 60, .inl sg))]) A) A) (by decide) rfl rfl (Nat.le_of_ble_eq_true rfl) ?_
  intro p e s m below meth c A H hx hb hml hr hts hown hlk hname hA hP hE hD hS ls hl
  obtain ⟨RES, hF⟩ : ∃ z, (F_X4_many ln tp wd fi tw dy mn vl sg) = z := ⟨_, rfl⟩
  rw [hF]
  unfold F_X4_many at hF
  have hl : lv_has ls 1 [(0, .ref x)] := hl
  obtain ⟨locs, hlocs⟩ : ∃ z : List Loc, z = [] := ⟨_, rfl⟩
  rw [← hlocs] at hS ⊢
  refine lv_aload_n hx hb dX4_many_0 rfl (lv_at hl 0 rfl) ?_
  refine va_get (D := D) (ci := 8) (v := .int mn) (C := RX4) (T := TX4) (N := 9) hx hb hts in_X4_many_X4 hown hE.1 hP 0 rfl rfl 7 (by decide) (hts _ lk_X4_many_34) (fun _ h9 => h9) rfl dX4_many_1 ?_
  subst hF
  exact fc_iret hx hb hr rfl hlk hS () rfl hP hD (by decide) (by decide) dX4_many_4

abbrev rm_X4_clear : Room := { frames := 0, cells := 0, slots := 0, locals := 0 }
theorem in_X4_clear_X4 : ∀ w ∈ wsX40, w ∈ wsX4_clear := by decide +kernel
theorem lk_X4_clear_15 : (Cond.fieldLink RX4 15 "TheatreSaga$Text" "length" "I") ∈ wsX4_clear := by decide +kernel
def F_X4_clear (ln : Int32) (tp : Int32) (wd : Int32) (fi : Int32) (tw : Int32) (dy : Int32) (mn : Int32) (vl : Int32) (sg : (Nat → Int32))  : Int32 := (0 : Int32)
set_option maxHeartbeats 4000000 in
set_option maxRecDepth 100000 in
theorem c_X4_clear {l : Launch} {D : va_G} {k : tyK} (x s0 : Nat) (ln : Int32) (tp : Int32) (wd : Int32) (fi : Int32) (tw : Int32) (dy : Int32) (mn : Int32) (vl : Int32) (sg : (Nat → Int32))  : FCv l yX4_clear wsX4_clear rm_X4_clear D k [.ref x] [(x, .inr (8, [.ref s0, .int ln, .int tp, .int wd, .int fi, .int tw, .int dy, .int mn, .int vl])), (s0, .inl (k.2.1, 60, .inl sg))] (fun (_ : Unit) => True) (fun _ => [(x, .inr (8, [.ref s0, .int (F_X4_clear ln tp wd fi tw dy mn vl sg), .int tp, .int wd, .int fi, .int tw, .int dy, .int mn, .int vl])), (s0, .inl (k.2.1, 60, .inl sg))]) := by
  refine fc_start (cc := cX4_clear) (maxL := 1) (ret := none) (own := RX4) (Qc := fun A => va_Qv (fun (_ : Unit) => True) (Bt D (fun _ => [(x, .inr (8, [.ref s0, .int (F_X4_clear ln tp wd fi tw dy mn vl sg), .int tp, .int wd, .int fi, .int tw, .int dy, .int mn, .int vl])), (s0, .inl (k.2.1, 60, .inl sg))]) A) A) (by decide) rfl rfl (Nat.le_of_ble_eq_true rfl) ?_
  intro p e s m below meth c A H hx hb hml hr hts hown hlk hname hA hP hE hD hS ls hl
  obtain ⟨RES, hF⟩ : ∃ z, (F_X4_clear ln tp wd fi tw dy mn vl sg) = z := ⟨_, rfl⟩
  rw [hF]
  unfold F_X4_clear at hF
  have hl : lv_has ls 1 [(0, .ref x)] := hl
  obtain ⟨locs, hlocs⟩ : ∃ z : List Loc, z = [] := ⟨_, rfl⟩
  rw [← hlocs] at hS ⊢
  refine lv_aload_n hx hb dX4_clear_0 rfl (lv_at hl 0 rfl) ?_
  refine lv_iconst (v := 0) hx hb dX4_clear_1 (by decide) ?_
  refine va_put (D := D) (ci := 8) (v := .int (0 : Int32)) (ty := .int) (C := RX4) (T := TX4) (N := 9) hx hb hts in_X4_clear_X4 tyX4 tyX4_ok nmX4 hown hE.1 hP hD hS 0 rfl rfl 1 (by decide) (hts _ lk_X4_clear_15) (fun _ h9 => h9) rfl (by decide +kernel) rfl rfl (Nat.le_of_ble_eq_true rfl) dX4_clear_2 (fun H locs hP hD hS => ?_)
  have hP : va_P D vwCl [(x, .inr (8, [.ref s0, .int (0 : Int32), .int tp, .int wd, .int fi, .int tw, .int dy, .int mn, .int vl])), (s0, .inl (k.2.1, 60, .inl sg))] H := hP
  have hD : va_D A [(x, .inr (8, [.ref s0, .int (0 : Int32), .int tp, .int wd, .int fi, .int tw, .int dy, .int mn, .int vl])), (s0, .inl (k.2.1, 60, .inl sg))] := hD
  subst hF
  exact fc_vret hx hb hr hlk hS () trivial hP hD (by decide) (by decide) dX4_clear_5

abbrev rm_X4_rewind : Room := { frames := 0, cells := 0, slots := 0, locals := 0 }
theorem in_X4_rewind_X4 : ∀ w ∈ wsX40, w ∈ wsX4_rewind := by decide +kernel
theorem lk_X4_rewind_19 : (Cond.fieldLink RX4 19 "TheatreSaga$Text" "at" "I") ∈ wsX4_rewind := by decide +kernel
def F_X4_rewind (ln : Int32) (tp : Int32) (wd : Int32) (fi : Int32) (tw : Int32) (dy : Int32) (mn : Int32) (vl : Int32) (sg : (Nat → Int32))  : Int32 := (0 : Int32)
set_option maxHeartbeats 4000000 in
set_option maxRecDepth 100000 in
theorem c_X4_rewind {l : Launch} {D : va_G} {k : tyK} (x s0 : Nat) (ln : Int32) (tp : Int32) (wd : Int32) (fi : Int32) (tw : Int32) (dy : Int32) (mn : Int32) (vl : Int32) (sg : (Nat → Int32))  : FCv l yX4_rewind wsX4_rewind rm_X4_rewind D k [.ref x] [(x, .inr (8, [.ref s0, .int ln, .int tp, .int wd, .int fi, .int tw, .int dy, .int mn, .int vl])), (s0, .inl (k.2.1, 60, .inl sg))] (fun (_ : Unit) => True) (fun _ => [(x, .inr (8, [.ref s0, .int ln, .int (F_X4_rewind ln tp wd fi tw dy mn vl sg), .int wd, .int fi, .int tw, .int dy, .int mn, .int vl])), (s0, .inl (k.2.1, 60, .inl sg))]) := by
  refine fc_start (cc := cX4_rewind) (maxL := 1) (ret := none) (own := RX4) (Qc := fun A => va_Qv (fun (_ : Unit) => True) (Bt D (fun _ => [(x, .inr (8, [.ref s0, .int ln, .int (F_X4_rewind ln tp wd fi tw dy mn vl sg), .int wd, .int fi, .int tw, .int dy, .int mn, .int vl])), (s0, .inl (k.2.1, 60, .inl sg))]) A) A) (by decide) rfl rfl (Nat.le_of_ble_eq_true rfl) ?_
  intro p e s m below meth c A H hx hb hml hr hts hown hlk hname hA hP hE hD hS ls hl
  obtain ⟨RES, hF⟩ : ∃ z, (F_X4_rewind ln tp wd fi tw dy mn vl sg) = z := ⟨_, rfl⟩
  rw [hF]
  unfold F_X4_rewind at hF
  have hl : lv_has ls 1 [(0, .ref x)] := hl
  obtain ⟨locs, hlocs⟩ : ∃ z : List Loc, z = [] := ⟨_, rfl⟩
  rw [← hlocs] at hS ⊢
  refine lv_aload_n hx hb dX4_rewind_0 rfl (lv_at hl 0 rfl) ?_
  refine lv_iconst (v := 0) hx hb dX4_rewind_1 (by decide) ?_
  refine va_put (D := D) (ci := 8) (v := .int (0 : Int32)) (ty := .int) (C := RX4) (T := TX4) (N := 9) hx hb hts in_X4_rewind_X4 tyX4 tyX4_ok nmX4 hown hE.1 hP hD hS 0 rfl rfl 2 (by decide) (hts _ lk_X4_rewind_19) (fun _ h9 => h9) rfl (by decide +kernel) rfl rfl (Nat.le_of_ble_eq_true rfl) dX4_rewind_2 (fun H locs hP hD hS => ?_)
  have hP : va_P D vwCl [(x, .inr (8, [.ref s0, .int ln, .int (0 : Int32), .int wd, .int fi, .int tw, .int dy, .int mn, .int vl])), (s0, .inl (k.2.1, 60, .inl sg))] H := hP
  have hD : va_D A [(x, .inr (8, [.ref s0, .int ln, .int (0 : Int32), .int wd, .int fi, .int tw, .int dy, .int mn, .int vl])), (s0, .inl (k.2.1, 60, .inl sg))] := hD
  subst hF
  exact fc_vret hx hb hr hlk hS () trivial hP hD (by decide) (by decide) dX4_rewind_5

abbrev rm_X4_append : Room := { frames := 1, cells := 0, slots := 0, locals := 21 }
theorem in_X4_append_X4 : ∀ w ∈ wsX40, w ∈ wsX4_append := by decide +kernel
theorem lk_X4_append_9 : (Cond.fieldLink RX4 9 "TheatreSaga$Text" "signs" "[C") ∈ wsX4_append := by decide +kernel
theorem lk_X4_append_15 : (Cond.fieldLink RX4 15 "TheatreSaga$Text" "length" "I") ∈ wsX4_append := by decide +kernel
def F_X4_append (ln : Int32) (tp : Int32) (wd : Int32) (fi : Int32) (tw : Int32) (dy : Int32) (mn : Int32) (vl : Int32) (sg : (Nat → Int32)) (ic : Int32) : Int32 × (Nat → Int32) := (if (F_X6_isBelow ln (60 : Int32)) = (0 : Int32) then (ln, sg) else ((ln + (1 : Int32)), (upd sg (ln).toNatClampNeg (vp_nar .char ic))))
set_option maxHeartbeats 4000000 in
set_option maxRecDepth 100000 in
theorem c_X4_append {l : Launch} {D : va_G} {k : tyK} (x s0 : Nat) (ln : Int32) (tp : Int32) (wd : Int32) (fi : Int32) (tw : Int32) (dy : Int32) (mn : Int32) (vl : Int32) (sg : (Nat → Int32)) (ic : Int32) : FCv l yX4_append wsX4_append rm_X4_append D k [.ref x, .int ic] [(x, .inr (8, [.ref s0, .int ln, .int tp, .int wd, .int fi, .int tw, .int dy, .int mn, .int vl])), (s0, .inl (k.2.1, 60, .inl sg))] (fun (_ : Unit) => True) (fun _ => [(x, .inr (8, [.ref s0, .int (F_X4_append ln tp wd fi tw dy mn vl sg ic).1, .int tp, .int wd, .int fi, .int tw, .int dy, .int mn, .int vl])), (s0, .inl (k.2.1, 60, .inl (F_X4_append ln tp wd fi tw dy mn vl sg ic).2))]) := by
  refine fc_start (cc := cX4_append) (maxL := 2) (ret := none) (own := RX4) (Qc := fun A => va_Qv (fun (_ : Unit) => True) (Bt D (fun _ => [(x, .inr (8, [.ref s0, .int (F_X4_append ln tp wd fi tw dy mn vl sg ic).1, .int tp, .int wd, .int fi, .int tw, .int dy, .int mn, .int vl])), (s0, .inl (k.2.1, 60, .inl (F_X4_append ln tp wd fi tw dy mn vl sg ic).2))]) A) A) (by decide) rfl rfl (Nat.le_of_ble_eq_true rfl) ?_
  intro p e s m below meth c A H hx hb hml hr hts hown hlk hname hA hP hE hD hS ls hl
  obtain ⟨RES, hF⟩ : ∃ z, (F_X4_append ln tp wd fi tw dy mn vl sg ic) = z := ⟨_, rfl⟩
  rw [hF]
  unfold F_X4_append at hF
  have hl : lv_has ls 2 [(0, .ref x), (1, .int ic)] := hl
  obtain ⟨locs, hlocs⟩ : ∃ z : List Loc, z = [] := ⟨_, rfl⟩
  rw [← hlocs] at hS ⊢
  refine lv_aload_n hx hb dX4_append_0 rfl (lv_at hl 0 rfl) ?_
  refine va_get (D := D) (ci := 8) (v := .int ln) (C := RX4) (T := TX4) (N := 9) hx hb hts in_X4_append_X4 hown hE.1 hP 0 rfl rfl 1 (by decide) (hts _ lk_X4_append_15) (fun _ h9 => h9) rfl dX4_append_1 ?_
  refine lv_aload_n hx hb dX4_append_4 rfl (lv_at hl 0 rfl) ?_
  refine va_get (D := D) (ci := 8) (v := .ref s0) (C := RX4) (T := TX4) (N := 9) hx hb hts in_X4_append_X4 hown hE.1 hP 0 rfl rfl 0 (by decide) (hts _ lk_X4_append_9) (fun _ h9 => h9) rfl dX4_append_5 ?_
  refine va_alen (v := (60 : Int32)) hx hb hE.1 hP 1 1 rfl rfl rfl dX4_append_8 ?_
  refine fc_ci (isC := []) (cells' := 0) (slots' := 0) (fc_runSN (n := 2) (As := [.int ln, .int (60 : Int32)]) (rest := []) (isC := []) (maxL := 2) ⟨hx, hb, hml, hown, hts⟩ (c_X6_isBelow ln (60 : Int32) H.size) gX4_append_X6_isBelow_n40 (by decide +kernel) (by decide +kernel) (by decide +kernel) rfl (by decide +kernel) rfl ⟨Nat.le_of_ble_eq_true rfl, Nat.le_of_ble_eq_true rfl⟩ ⟨Nat.le_of_ble_eq_true rfl, Nat.le_of_ble_eq_true rfl⟩ hE hP hD hS hA rfl rfl hl rfl (Nat.le_of_ble_eq_true rfl) dX4_append_9) hP hD hS hA rfl (fun _ => rfl) rfl rfl (fun r_1 _ H locs hr_1 hP hD hS => ?_)
  obtain rfl : (F_X6_isBelow ln (60 : Int32)) = r_1 := hr_1.symm
  dsimp only [fs, List.set] at hP hD
  have hP : va_P D vwCl [(x, .inr (8, [.ref s0, .int ln, .int tp, .int wd, .int fi, .int tw, .int dy, .int mn, .int vl])), (s0, .inl (k.2.1, 60, .inl sg))] H := hP
  have hD : va_D A [(x, .inr (8, [.ref s0, .int ln, .int tp, .int wd, .int fi, .int tw, .int dy, .int mn, .int vl])), (s0, .inl (k.2.1, 60, .inl sg))] := hD
  refine lv_if_eq (tgt := 35) hx hb dX4_append_12 (by decide) (fun c_2 => ?_) (fun c_2 => ?_)
  · rw [if_pos c_2] at hF
    subst hF
    exact fc_vret hx hb hr hlk hS () trivial hP hD (by decide) (by decide) dX4_append_35
  · rw [if_neg c_2] at hF
    refine lv_aload_n hx hb dX4_append_15 rfl (lv_at hl 0 rfl) ?_
    refine va_get (D := D) (ci := 8) (v := .ref s0) (C := RX4) (T := TX4) (N := 9) hx hb hts in_X4_append_X4 hown hE.1 hP 0 rfl rfl 0 (by decide) (hts _ lk_X4_append_9) (fun _ h9 => h9) rfl dX4_append_16 ?_
    refine lv_aload_n hx hb dX4_append_19 rfl (lv_at hl 0 rfl) ?_
    refine va_get (D := D) (ci := 8) (v := .int ln) (C := RX4) (T := TX4) (N := 9) hx hb hts in_X4_append_X4 hown hE.1 hP 0 rfl rfl 1 (by decide) (hts _ lk_X4_append_15) (fun _ h9 => h9) rfl dX4_append_20 ?_
    refine lv_iload_n hx hb dX4_append_23 rfl (lv_at hl 1 rfl) ?_
    refine va_cast hx hb hE.1 hP hD hS 1 1 rfl rfl (vp_of3 (by assumption)) dX4_append_24 (fun H locs hP hD hS => ?_)
    have hP : va_P D vwCl [(x, .inr (8, [.ref s0, .int ln, .int tp, .int wd, .int fi, .int tw, .int dy, .int mn, .int vl])), (s0, .inl (k.2.1, 60, .inl (upd sg (ln).toNatClampNeg (vp_nar .char ic))))] H := hP
    have hD : va_D A [(x, .inr (8, [.ref s0, .int ln, .int tp, .int wd, .int fi, .int tw, .int dy, .int mn, .int vl])), (s0, .inl (k.2.1, 60, .inl (upd sg (ln).toNatClampNeg (vp_nar .char ic))))] := hD
    refine lv_aload_n hx hb dX4_append_25 rfl (lv_at hl 0 rfl) ?_
    refine lv_dup hx hb dX4_append_26 rfl ?_
    refine va_get (D := D) (ci := 8) (v := .int ln) (C := RX4) (T := TX4) (N := 9) hx hb hts in_X4_append_X4 hown hE.1 hP 0 rfl rfl 1 (by decide) (hts _ lk_X4_append_15) (fun _ h9 => h9) rfl dX4_append_27 ?_
    refine lv_iconst (v := 1) hx hb dX4_append_30 (by decide) ?_
    refine lv_iadd hx hb dX4_append_31 ?_
    refine va_put (D := D) (ci := 8) (v := .int (ln + (1 : Int32))) (ty := .int) (C := RX4) (T := TX4) (N := 9) hx hb hts in_X4_append_X4 tyX4 tyX4_ok nmX4 hown hE.1 hP hD hS 0 rfl rfl 1 (by decide) (hts _ lk_X4_append_15) (fun _ h9 => h9) rfl (by decide +kernel) rfl rfl (Nat.le_of_ble_eq_true rfl) dX4_append_32 (fun H locs hP hD hS => ?_)
    have hP : va_P D vwCl [(x, .inr (8, [.ref s0, .int (ln + (1 : Int32)), .int tp, .int wd, .int fi, .int tw, .int dy, .int mn, .int vl])), (s0, .inl (k.2.1, 60, .inl (upd sg (ln).toNatClampNeg (vp_nar .char ic))))] H := hP
    have hD : va_D A [(x, .inr (8, [.ref s0, .int (ln + (1 : Int32)), .int tp, .int wd, .int fi, .int tw, .int dy, .int mn, .int vl])), (s0, .inl (k.2.1, 60, .inl (upd sg (ln).toNatClampNeg (vp_nar .char ic))))] := hD
    subst hF
    exact fc_vret hx hb hr hlk hS () trivial hP hD (by decide) (by decide) dX4_append_35

abbrev rm_X4_signAt : Room := { frames := 0, cells := 0, slots := 0, locals := 0 }
theorem in_X4_signAt_X4 : ∀ w ∈ wsX40, w ∈ wsX4_signAt := by decide +kernel
theorem lk_X4_signAt_9 : (Cond.fieldLink RX4 9 "TheatreSaga$Text" "signs" "[C") ∈ wsX4_signAt := by decide +kernel
theorem lk_X4_signAt_15 : (Cond.fieldLink RX4 15 "TheatreSaga$Text" "length" "I") ∈ wsX4_signAt := by decide +kernel
def F_X4_signAt (ln : Int32) (tp : Int32) (wd : Int32) (fi : Int32) (tw : Int32) (dy : Int32) (mn : Int32) (vl : Int32) (sg : (Nat → Int32)) (ii : Int32) : Int32 := (if ii < (0 : Int32) then (0 : Int32) else (if ln ≤ ii then (0 : Int32) else (if (60 : Int32) ≤ ii then (0 : Int32) else (sg (ii).toNatClampNeg))))
set_option maxHeartbeats 4000000 in
set_option maxRecDepth 100000 in
theorem c_X4_signAt {l : Launch} {D : va_G} {k : tyK} (x s0 : Nat) (ln : Int32) (tp : Int32) (wd : Int32) (fi : Int32) (tw : Int32) (dy : Int32) (mn : Int32) (vl : Int32) (sg : (Nat → Int32)) (ii : Int32) (hC : ChOK sg) : FCi l yX4_signAt wsX4_signAt rm_X4_signAt D k [.ref x, .int ii] [(x, .inr (8, [.ref s0, .int ln, .int tp, .int wd, .int fi, .int tw, .int dy, .int mn, .int vl])), (s0, .inl (k.2.1, 60, .inl sg))] (fun r (_ : Unit) => r = (F_X4_signAt ln tp wd fi tw dy mn vl sg ii)) (fun _ => [(x, .inr (8, [.ref s0, .int ln, .int tp, .int wd, .int fi, .int tw, .int dy, .int mn, .int vl])), (s0, .inl (k.2.1, 60, .inl sg))]) := by
  refine fc_start (cc := cX4_signAt) (maxL := 2) (ret := (some .char)) (own := RX4) (Qc := fun A => va_Qi (fun r (_ : Unit) => r = (F_X4_signAt ln tp wd fi tw dy mn vl sg ii)) (Bt D (fun _ => [(x, .inr (8, [.ref s0, .int ln, .int tp, .int wd, .int fi, .int tw, .int dy, .int mn, .int vl])), (s0, .inl (k.2.1, 60, .inl sg))]) A) A) (by decide) rfl rfl (Nat.le_of_ble_eq_true rfl) ?_
  intro p e s m below meth c A H hx hb hml hr hts hown hlk hname hA hP hE hD hS ls hl
  obtain ⟨RES, hF⟩ : ∃ z, (F_X4_signAt ln tp wd fi tw dy mn vl sg ii) = z := ⟨_, rfl⟩
  rw [hF]
  unfold F_X4_signAt at hF
  have hl : lv_has ls 2 [(0, .ref x), (1, .int ii)] := hl
  obtain ⟨locs, hlocs⟩ : ∃ z : List Loc, z = [] := ⟨_, rfl⟩
  rw [← hlocs] at hS ⊢
  refine lv_iload_n hx hb dX4_signAt_0 rfl (lv_at hl 1 rfl) ?_
  refine lv_if_lt (tgt := 30) hx hb dX4_signAt_1 (by decide) (fun c_1 => ?_) (fun c_1 => ?_)
  · rw [if_pos c_1] at hF
    refine lv_iconst (v := 0) hx hb dX4_signAt_30 (by decide) ?_
    subst hF
    exact fc_iret hx hb hr rfl hlk hS () rfl hP hD (by decide) (by decide) dX4_signAt_31
  · rw [if_neg c_1] at hF
    refine lv_iload_n hx hb dX4_signAt_4 rfl (lv_at hl 1 rfl) ?_
    refine lv_aload_n hx hb dX4_signAt_5 rfl (lv_at hl 0 rfl) ?_
    refine va_get (D := D) (ci := 8) (v := .int ln) (C := RX4) (T := TX4) (N := 9) hx hb hts in_X4_signAt_X4 hown hE.1 hP 0 rfl rfl 1 (by decide) (hts _ lk_X4_signAt_15) (fun _ h9 => h9) rfl dX4_signAt_6 ?_
    refine lv_icmp_ge (tgt := 30) hx hb dX4_signAt_9 (by decide) (fun c_2 => ?_) (fun c_2 => ?_)
    · rw [if_pos c_2] at hF
      refine lv_iconst (v := 0) hx hb dX4_signAt_30 (by decide) ?_
      subst hF
      exact fc_iret hx hb hr rfl hlk hS () rfl hP hD (by decide) (by decide) dX4_signAt_31
    · rw [if_neg c_2] at hF
      refine lv_iload_n hx hb dX4_signAt_12 rfl (lv_at hl 1 rfl) ?_
      refine lv_aload_n hx hb dX4_signAt_13 rfl (lv_at hl 0 rfl) ?_
      refine va_get (D := D) (ci := 8) (v := .ref s0) (C := RX4) (T := TX4) (N := 9) hx hb hts in_X4_signAt_X4 hown hE.1 hP 0 rfl rfl 0 (by decide) (hts _ lk_X4_signAt_9) (fun _ h9 => h9) rfl dX4_signAt_14 ?_
      refine va_alen (v := (60 : Int32)) hx hb hE.1 hP 1 1 rfl rfl rfl dX4_signAt_17 ?_
      refine lv_icmp_ge (tgt := 30) hx hb dX4_signAt_18 (by decide) (fun c_3 => ?_) (fun c_3 => ?_)
      · rw [if_pos c_3] at hF
        refine lv_iconst (v := 0) hx hb dX4_signAt_30 (by decide) ?_
        subst hF
        exact fc_iret hx hb hr rfl hlk hS () rfl hP hD (by decide) (by decide) dX4_signAt_31
      · rw [if_neg c_3] at hF
        refine lv_aload_n hx hb dX4_signAt_21 rfl (lv_at hl 0 rfl) ?_
        refine va_get (D := D) (ci := 8) (v := .ref s0) (C := RX4) (T := TX4) (N := 9) hx hb hts in_X4_signAt_X4 hown hE.1 hP 0 rfl rfl 0 (by decide) (hts _ lk_X4_signAt_9) (fun _ h9 => h9) rfl dX4_signAt_22 ?_
        refine lv_iload_n hx hb dX4_signAt_25 rfl (lv_at hl 1 rfl) ?_
        refine va_cald hx hb hE.1 hP 1 1 rfl rfl (vp_of (by decide) c_1 c_3) dX4_signAt_26 ?_
        refine lv_goto (tgt := 31) hx hb dX4_signAt_27 (by decide) ?_
        subst hF
        exact fc_iret hx hb hr (hC.nar _) hlk hS () rfl hP hD (by decide) (by decide) dX4_signAt_31

abbrev rm_X4_isDigit : Room := { frames := 0, cells := 0, slots := 0, locals := 0 }
def F_X4_isDigit  (ic : Int32) : Int32 := (if ic < (48 : Int32) then (0 : Int32) else (if (57 : Int32) < ic then (0 : Int32) else (1 : Int32)))
set_option maxHeartbeats 4000000 in
set_option maxRecDepth 100000 in
theorem c_X4_isDigit {l : Launch} {D : va_G} {k : tyK}  (ic : Int32) : FCi l yX4_isDigit wsX4_isDigit rm_X4_isDigit D k [.int ic] [] (fun r (_ : Unit) => r = (F_X4_isDigit ic)) (fun _ => []) := by
  refine fc_start (cc := cX4_isDigit) (maxL := 1) (ret := (some .boolean)) (own := RX4) (Qc := fun A => va_Qi (fun r (_ : Unit) => r = (F_X4_isDigit ic)) (Bt D (fun _ => []) A) A) (by decide) rfl rfl (Nat.le_of_ble_eq_true rfl) ?_
  intro p e s m below meth c A H hx hb hml hr hts hown hlk hname hA hP hE hD hS ls hl
  obtain ⟨RES, hF⟩ : ∃ z, (F_X4_isDigit ic) = z := ⟨_, rfl⟩
  rw [hF]
  unfold F_X4_isDigit at hF
  have hl : lv_has ls 1 [(0, .int ic)] := hl
  obtain ⟨locs, hlocs⟩ : ∃ z : List Loc, z = [] := ⟨_, rfl⟩
  rw [← hlocs] at hS ⊢
  refine lv_iload_n hx hb dX4_isDigit_0 rfl (lv_at hl 0 rfl) ?_
  refine lv_bipush (v := 48) hx hb dX4_isDigit_1 (by decide) ?_
  refine lv_icmp_lt (tgt := 16) hx hb dX4_isDigit_3 (by decide) (fun c_1 => ?_) (fun c_1 => ?_)
  · rw [if_pos c_1] at hF
    refine lv_iconst (v := 0) hx hb dX4_isDigit_16 (by decide) ?_
    subst hF
    exact fc_iret hx hb hr rfl hlk hS () rfl hP hD (by decide) (by decide) dX4_isDigit_17
  · rw [if_neg c_1] at hF
    refine lv_iload_n hx hb dX4_isDigit_6 rfl (lv_at hl 0 rfl) ?_
    refine lv_bipush (v := 57) hx hb dX4_isDigit_7 (by decide) ?_
    refine lv_icmp_gt (tgt := 16) hx hb dX4_isDigit_9 (by decide) (fun c_2 => ?_) (fun c_2 => ?_)
    · rw [if_pos c_2] at hF
      refine lv_iconst (v := 0) hx hb dX4_isDigit_16 (by decide) ?_
      subst hF
      exact fc_iret hx hb hr rfl hlk hS () rfl hP hD (by decide) (by decide) dX4_isDigit_17
    · rw [if_neg c_2] at hF
      refine lv_iconst (v := 1) hx hb dX4_isDigit_12 (by decide) ?_
      refine lv_goto (tgt := 17) hx hb dX4_isDigit_13 (by decide) ?_
      subst hF
      exact fc_iret hx hb hr rfl hlk hS () rfl hP hD (by decide) (by decide) dX4_isDigit_17

abbrev rm_X4_readSign : Room := { frames := 1, cells := 0, slots := 0, locals := 21 }
theorem in_X4_readSign_X4 : ∀ w ∈ wsX40, w ∈ wsX4_readSign := by decide +kernel
theorem lk_X4_readSign_19 : (Cond.fieldLink RX4 19 "TheatreSaga$Text" "at" "I") ∈ wsX4_readSign := by decide +kernel
def F_X4_readSign (ln : Int32) (tp : Int32) (wd : Int32) (fi : Int32) (tw : Int32) (dy : Int32) (mn : Int32) (vl : Int32) (sg : (Nat → Int32)) (ic : Int32) : Int32 × Int32 := (if (F_X4_signAt ln tp wd fi tw dy mn vl sg tp) = ic then ((1 : Int32), (tp + (1 : Int32))) else ((0 : Int32), tp))
set_option maxHeartbeats 4000000 in
set_option maxRecDepth 100000 in
theorem c_X4_readSign {l : Launch} {D : va_G} {k : tyK} (x s0 : Nat) (ln : Int32) (tp : Int32) (wd : Int32) (fi : Int32) (tw : Int32) (dy : Int32) (mn : Int32) (vl : Int32) (sg : (Nat → Int32)) (ic : Int32) (hC : ChOK sg) : FCi l yX4_readSign wsX4_readSign rm_X4_readSign D k [.ref x, .int ic] [(x, .inr (8, [.ref s0, .int ln, .int tp, .int wd, .int fi, .int tw, .int dy, .int mn, .int vl])), (s0, .inl (k.2.1, 60, .inl sg))] (fun r (_ : Unit) => r = (F_X4_readSign ln tp wd fi tw dy mn vl sg ic).1) (fun _ => [(x, .inr (8, [.ref s0, .int ln, .int (F_X4_readSign ln tp wd fi tw dy mn vl sg ic).2, .int wd, .int fi, .int tw, .int dy, .int mn, .int vl])), (s0, .inl (k.2.1, 60, .inl sg))]) := by
  refine fc_start (cc := cX4_readSign) (maxL := 2) (ret := (some .boolean)) (own := RX4) (Qc := fun A => va_Qi (fun r (_ : Unit) => r = (F_X4_readSign ln tp wd fi tw dy mn vl sg ic).1) (Bt D (fun _ => [(x, .inr (8, [.ref s0, .int ln, .int (F_X4_readSign ln tp wd fi tw dy mn vl sg ic).2, .int wd, .int fi, .int tw, .int dy, .int mn, .int vl])), (s0, .inl (k.2.1, 60, .inl sg))]) A) A) (by decide) rfl rfl (Nat.le_of_ble_eq_true rfl) ?_
  intro p e s m below meth c A H hx hb hml hr hts hown hlk hname hA hP hE hD hS ls hl
  obtain ⟨RES, hF⟩ : ∃ z, (F_X4_readSign ln tp wd fi tw dy mn vl sg ic) = z := ⟨_, rfl⟩
  rw [hF]
  unfold F_X4_readSign at hF
  have hl : lv_has ls 2 [(0, .ref x), (1, .int ic)] := hl
  obtain ⟨locs, hlocs⟩ : ∃ z : List Loc, z = [] := ⟨_, rfl⟩
  rw [← hlocs] at hS ⊢
  refine lv_aload_n hx hb dX4_readSign_0 rfl (lv_at hl 0 rfl) ?_
  refine lv_aload_n hx hb dX4_readSign_1 rfl (lv_at hl 0 rfl) ?_
  refine va_get (D := D) (ci := 8) (v := .int tp) (C := RX4) (T := TX4) (N := 9) hx hb hts in_X4_readSign_X4 hown hE.1 hP 0 rfl rfl 2 (by decide) (hts _ lk_X4_readSign_19) (fun _ h9 => h9) rfl dX4_readSign_2 ?_
  refine fc_ci (isC := [0, 1]) (cells' := 0) (slots' := 0) (fc_runV (n := 1) (As := [.int tp]) (rest := []) (isC := [0, 1]) (maxL := 2) ⟨hx, hb, hml, hown, hts⟩ (c_X4_signAt x s0 ln tp wd fi tw dy mn vl sg tp hC H.size) gX4_readSign_X4_signAt rfl (by decide +kernel) rfl ⟨Nat.le_of_ble_eq_true rfl, Nat.le_of_ble_eq_true rfl⟩ ⟨Nat.le_of_ble_eq_true rfl, Nat.le_of_ble_eq_true rfl⟩ hE hP hD hS hA rfl rfl (va_recv hE.1 hP (ci := 8) (q0 := 0) rfl rfl) hl rfl (Nat.le_of_ble_eq_true rfl) dX4_readSign_5) hP hD hS hA rfl (fun _ => rfl) rfl rfl (fun r_1 _ H locs hr_1 hP hD hS => ?_)
  obtain rfl : (F_X4_signAt ln tp wd fi tw dy mn vl sg tp) = r_1 := hr_1.symm
  dsimp only [fs, List.set] at hP hD
  have hP : va_P D vwCl [(x, .inr (8, [.ref s0, .int ln, .int tp, .int wd, .int fi, .int tw, .int dy, .int mn, .int vl])), (s0, .inl (k.2.1, 60, .inl sg))] H := hP
  have hD : va_D A [(x, .inr (8, [.ref s0, .int ln, .int tp, .int wd, .int fi, .int tw, .int dy, .int mn, .int vl])), (s0, .inl (k.2.1, 60, .inl sg))] := hD
  refine lv_iload_n hx hb dX4_readSign_8 rfl (lv_at hl 1 rfl) ?_
  refine lv_icmp_eq (tgt := 14) hx hb dX4_readSign_9 (by decide) (fun c_2 => ?_) (fun c_2 => ?_)
  · rw [if_pos c_2] at hF
    refine lv_aload_n hx hb dX4_readSign_14 rfl (lv_at hl 0 rfl) ?_
    refine lv_dup hx hb dX4_readSign_15 rfl ?_
    refine va_get (D := D) (ci := 8) (v := .int tp) (C := RX4) (T := TX4) (N := 9) hx hb hts in_X4_readSign_X4 hown hE.1 hP 0 rfl rfl 2 (by decide) (hts _ lk_X4_readSign_19) (fun _ h9 => h9) rfl dX4_readSign_16 ?_
    refine lv_iconst (v := 1) hx hb dX4_readSign_19 (by decide) ?_
    refine lv_iadd hx hb dX4_readSign_20 ?_
    refine va_put (D := D) (ci := 8) (v := .int (tp + (1 : Int32))) (ty := .int) (C := RX4) (T := TX4) (N := 9) hx hb hts in_X4_readSign_X4 tyX4 tyX4_ok nmX4 hown hE.1 hP hD hS 0 rfl rfl 2 (by decide) (hts _ lk_X4_readSign_19) (fun _ h9 => h9) rfl (by decide +kernel) rfl rfl (Nat.le_of_ble_eq_true rfl) dX4_readSign_21 (fun H locs hP hD hS => ?_)
    have hP : va_P D vwCl [(x, .inr (8, [.ref s0, .int ln, .int (tp + (1 : Int32)), .int wd, .int fi, .int tw, .int dy, .int mn, .int vl])), (s0, .inl (k.2.1, 60, .inl sg))] H := hP
    have hD : va_D A [(x, .inr (8, [.ref s0, .int ln, .int (tp + (1 : Int32)), .int wd, .int fi, .int tw, .int dy, .int mn, .int vl])), (s0, .inl (k.2.1, 60, .inl sg))] := hD
    refine lv_iconst (v := 1) hx hb dX4_readSign_24 (by decide) ?_
    subst hF
    exact fc_iret hx hb hr rfl hlk hS () rfl hP hD (by decide) (by decide) dX4_readSign_25
  · rw [if_neg c_2] at hF
    refine lv_iconst (v := 0) hx hb dX4_readSign_12 (by decide) ?_
    subst hF
    exact fc_iret hx hb hr rfl hlk hS () rfl hP hD (by decide) (by decide) dX4_readSign_13

abbrev rm_X4_readDigit : Room := { frames := 1, cells := 0, slots := 0, locals := 21 }
theorem in_X4_readDigit_X4 : ∀ w ∈ wsX40, w ∈ wsX4_readDigit := by decide +kernel
theorem lk_X4_readDigit_19 : (Cond.fieldLink RX4 19 "TheatreSaga$Text" "at" "I") ∈ wsX4_readDigit := by decide +kernel
theorem lk_X4_readDigit_37 : (Cond.fieldLink RX4 37 "TheatreSaga$Text" "value" "I") ∈ wsX4_readDigit := by decide +kernel
def F_X4_readDigit (ln : Int32) (tp : Int32) (wd : Int32) (fi : Int32) (tw : Int32) (dy : Int32) (mn : Int32) (vl : Int32) (sg : (Nat → Int32))  : Int32 × Int32 × Int32 := (if (F_X4_isDigit (F_X4_signAt ln tp wd fi tw dy mn vl sg tp)) = (0 : Int32) then ((0 : Int32), tp, vl) else ((1 : Int32), (tp + (1 : Int32)), ((F_X4_signAt ln tp wd fi tw dy mn vl sg tp) - (48 : Int32))))
set_option maxHeartbeats 4000000 in
set_option maxRecDepth 100000 in
theorem c_X4_readDigit {l : Launch} {D : va_G} {k : tyK} (x s0 : Nat) (ln : Int32) (tp : Int32) (wd : Int32) (fi : Int32) (tw : Int32) (dy : Int32) (mn : Int32) (vl : Int32) (sg : (Nat → Int32))  (hC : ChOK sg) : FCi l yX4_readDigit wsX4_readDigit rm_X4_readDigit D k [.ref x] [(x, .inr (8, [.ref s0, .int ln, .int tp, .int wd, .int fi, .int tw, .int dy, .int mn, .int vl])), (s0, .inl (k.2.1, 60, .inl sg))] (fun r (_ : Unit) => r = (F_X4_readDigit ln tp wd fi tw dy mn vl sg).1) (fun _ => [(x, .inr (8, [.ref s0, .int ln, .int (F_X4_readDigit ln tp wd fi tw dy mn vl sg).2.1, .int wd, .int fi, .int tw, .int dy, .int mn, .int (F_X4_readDigit ln tp wd fi tw dy mn vl sg).2.2])), (s0, .inl (k.2.1, 60, .inl sg))]) := by
  refine fc_start (cc := cX4_readDigit) (maxL := 1) (ret := (some .boolean)) (own := RX4) (Qc := fun A => va_Qi (fun r (_ : Unit) => r = (F_X4_readDigit ln tp wd fi tw dy mn vl sg).1) (Bt D (fun _ => [(x, .inr (8, [.ref s0, .int ln, .int (F_X4_readDigit ln tp wd fi tw dy mn vl sg).2.1, .int wd, .int fi, .int tw, .int dy, .int mn, .int (F_X4_readDigit ln tp wd fi tw dy mn vl sg).2.2])), (s0, .inl (k.2.1, 60, .inl sg))]) A) A) (by decide) rfl rfl (Nat.le_of_ble_eq_true rfl) ?_
  intro p e s m below meth c A H hx hb hml hr hts hown hlk hname hA hP hE hD hS ls hl
  obtain ⟨RES, hF⟩ : ∃ z, (F_X4_readDigit ln tp wd fi tw dy mn vl sg) = z := ⟨_, rfl⟩
  rw [hF]
  unfold F_X4_readDigit at hF
  have hl : lv_has ls 1 [(0, .ref x)] := hl
  obtain ⟨locs, hlocs⟩ : ∃ z : List Loc, z = [] := ⟨_, rfl⟩
  rw [← hlocs] at hS ⊢
  refine lv_aload_n hx hb dX4_readDigit_0 rfl (lv_at hl 0 rfl) ?_
  refine lv_aload_n hx hb dX4_readDigit_1 rfl (lv_at hl 0 rfl) ?_
  refine va_get (D := D) (ci := 8) (v := .int tp) (C := RX4) (T := TX4) (N := 9) hx hb hts in_X4_readDigit_X4 hown hE.1 hP 0 rfl rfl 2 (by decide) (hts _ lk_X4_readDigit_19) (fun _ h9 => h9) rfl dX4_readDigit_2 ?_
  refine fc_ci (isC := [0, 1]) (cells' := 0) (slots' := 0) (fc_runV (n := 1) (As := [.int tp]) (rest := []) (isC := [0, 1]) (maxL := 2) ⟨hx, hb, hml, hown, hts⟩ (c_X4_signAt x s0 ln tp wd fi tw dy mn vl sg tp hC H.size) gX4_readDigit_X4_signAt rfl (by decide +kernel) rfl ⟨Nat.le_of_ble_eq_true rfl, Nat.le_of_ble_eq_true rfl⟩ ⟨Nat.le_of_ble_eq_true rfl, Nat.le_of_ble_eq_true rfl⟩ hE hP hD hS hA rfl rfl (va_recv hE.1 hP (ci := 8) (q0 := 0) rfl rfl) hl rfl (Nat.le_of_ble_eq_true rfl) dX4_readDigit_5) hP hD hS hA rfl (fun _ => rfl) rfl rfl (fun r_1 _ H locs hr_1 hP hD hS => ?_)
  obtain rfl : (F_X4_signAt ln tp wd fi tw dy mn vl sg tp) = r_1 := hr_1.symm
  dsimp only [fs, List.set] at hP hD
  have hP : va_P D vwCl [(x, .inr (8, [.ref s0, .int ln, .int tp, .int wd, .int fi, .int tw, .int dy, .int mn, .int vl])), (s0, .inl (k.2.1, 60, .inl sg))] H := hP
  have hD : va_D A [(x, .inr (8, [.ref s0, .int ln, .int tp, .int wd, .int fi, .int tw, .int dy, .int mn, .int vl])), (s0, .inl (k.2.1, 60, .inl sg))] := hD
  refine fc_ci (isC := []) (cells' := 0) (slots' := 0) (fc_runS (n := 1) (As := [.int (F_X4_signAt ln tp wd fi tw dy mn vl sg tp)]) (rest := []) (isC := []) (maxL := 1) ⟨hx, hb, hml, hown, hts⟩ (c_X4_isDigit (F_X4_signAt ln tp wd fi tw dy mn vl sg tp) H.size) gX4_readDigit_X4_isDigit rfl (by decide +kernel) rfl ⟨Nat.le_of_ble_eq_true rfl, Nat.le_of_ble_eq_true rfl⟩ ⟨Nat.le_of_ble_eq_true rfl, Nat.le_of_ble_eq_true rfl⟩ hE hP hD hS hA rfl rfl hl rfl (Nat.le_of_ble_eq_true rfl) dX4_readDigit_8) hP hD hS hA rfl (fun _ => rfl) rfl rfl (fun r_2 _ H locs hr_2 hP hD hS => ?_)
  obtain rfl : (F_X4_isDigit (F_X4_signAt ln tp wd fi tw dy mn vl sg tp)) = r_2 := hr_2.symm
  dsimp only [fs, List.set] at hP hD
  have hP : va_P D vwCl [(x, .inr (8, [.ref s0, .int ln, .int tp, .int wd, .int fi, .int tw, .int dy, .int mn, .int vl])), (s0, .inl (k.2.1, 60, .inl sg))] H := hP
  have hD : va_D A [(x, .inr (8, [.ref s0, .int ln, .int tp, .int wd, .int fi, .int tw, .int dy, .int mn, .int vl])), (s0, .inl (k.2.1, 60, .inl sg))] := hD
  refine lv_if_ne (tgt := 16) hx hb dX4_readDigit_11 (by decide) (fun c_3 => ?_) (fun c_3 => ?_)
  · rw [if_neg c_3] at hF
    refine lv_aload_n hx hb dX4_readDigit_16 rfl (lv_at hl 0 rfl) ?_
    refine lv_aload_n hx hb dX4_readDigit_17 rfl (lv_at hl 0 rfl) ?_
    refine lv_aload_n hx hb dX4_readDigit_18 rfl (lv_at hl 0 rfl) ?_
    refine va_get (D := D) (ci := 8) (v := .int tp) (C := RX4) (T := TX4) (N := 9) hx hb hts in_X4_readDigit_X4 hown hE.1 hP 0 rfl rfl 2 (by decide) (hts _ lk_X4_readDigit_19) (fun _ h9 => h9) rfl dX4_readDigit_19 ?_
    refine fc_ci (isC := [0, 1]) (cells' := 0) (slots' := 0) (fc_runV (n := 1) (As := [.int tp]) (rest := [.ref x]) (isC := [0, 1]) (maxL := 2) ⟨hx, hb, hml, hown, hts⟩ (c_X4_signAt x s0 ln tp wd fi tw dy mn vl sg tp hC H.size) gX4_readDigit_X4_signAt rfl (by decide +kernel) rfl ⟨Nat.le_of_ble_eq_true rfl, Nat.le_of_ble_eq_true rfl⟩ ⟨Nat.le_of_ble_eq_true rfl, Nat.le_of_ble_eq_true rfl⟩ hE hP hD hS hA rfl rfl (va_recv hE.1 hP (ci := 8) (q0 := 0) rfl rfl) hl rfl (Nat.le_of_ble_eq_true rfl) dX4_readDigit_22) hP hD hS hA rfl (fun _ => rfl) rfl rfl (fun r_4 _ H locs hr_4 hP hD hS => ?_)
    obtain rfl : (F_X4_signAt ln tp wd fi tw dy mn vl sg tp) = r_4 := hr_4.symm
    dsimp only [fs, List.set] at hP hD
    have hP : va_P D vwCl [(x, .inr (8, [.ref s0, .int ln, .int tp, .int wd, .int fi, .int tw, .int dy, .int mn, .int vl])), (s0, .inl (k.2.1, 60, .inl sg))] H := hP
    have hD : va_D A [(x, .inr (8, [.ref s0, .int ln, .int tp, .int wd, .int fi, .int tw, .int dy, .int mn, .int vl])), (s0, .inl (k.2.1, 60, .inl sg))] := hD
    refine lv_bipush (v := 48) hx hb dX4_readDigit_25 (by decide) ?_
    refine lv_isub hx hb dX4_readDigit_27 ?_
    refine va_put (D := D) (ci := 8) (v := .int ((F_X4_signAt ln tp wd fi tw dy mn vl sg tp) - (48 : Int32))) (ty := .int) (C := RX4) (T := TX4) (N := 9) hx hb hts in_X4_readDigit_X4 tyX4 tyX4_ok nmX4 hown hE.1 hP hD hS 0 rfl rfl 8 (by decide) (hts _ lk_X4_readDigit_37) (fun _ h9 => h9) rfl (by decide +kernel) rfl rfl (Nat.le_of_ble_eq_true rfl) dX4_readDigit_28 (fun H locs hP hD hS => ?_)
    have hP : va_P D vwCl [(x, .inr (8, [.ref s0, .int ln, .int tp, .int wd, .int fi, .int tw, .int dy, .int mn, .int ((F_X4_signAt ln tp wd fi tw dy mn vl sg tp) - (48 : Int32))])), (s0, .inl (k.2.1, 60, .inl sg))] H := hP
    have hD : va_D A [(x, .inr (8, [.ref s0, .int ln, .int tp, .int wd, .int fi, .int tw, .int dy, .int mn, .int ((F_X4_signAt ln tp wd fi tw dy mn vl sg tp) - (48 : Int32))])), (s0, .inl (k.2.1, 60, .inl sg))] := hD
    refine lv_aload_n hx hb dX4_readDigit_31 rfl (lv_at hl 0 rfl) ?_
    refine lv_dup hx hb dX4_readDigit_32 rfl ?_
    refine va_get (D := D) (ci := 8) (v := .int tp) (C := RX4) (T := TX4) (N := 9) hx hb hts in_X4_readDigit_X4 hown hE.1 hP 0 rfl rfl 2 (by decide) (hts _ lk_X4_readDigit_19) (fun _ h9 => h9) rfl dX4_readDigit_33 ?_
    refine lv_iconst (v := 1) hx hb dX4_readDigit_36 (by decide) ?_
    refine lv_iadd hx hb dX4_readDigit_37 ?_
    refine va_put (D := D) (ci := 8) (v := .int (tp + (1 : Int32))) (ty := .int) (C := RX4) (T := TX4) (N := 9) hx hb hts in_X4_readDigit_X4 tyX4 tyX4_ok nmX4 hown hE.1 hP hD hS 0 rfl rfl 2 (by decide) (hts _ lk_X4_readDigit_19) (fun _ h9 => h9) rfl (by decide +kernel) rfl rfl (Nat.le_of_ble_eq_true rfl) dX4_readDigit_38 (fun H locs hP hD hS => ?_)
    have hP : va_P D vwCl [(x, .inr (8, [.ref s0, .int ln, .int (tp + (1 : Int32)), .int wd, .int fi, .int tw, .int dy, .int mn, .int ((F_X4_signAt ln tp wd fi tw dy mn vl sg tp) - (48 : Int32))])), (s0, .inl (k.2.1, 60, .inl sg))] H := hP
    have hD : va_D A [(x, .inr (8, [.ref s0, .int ln, .int (tp + (1 : Int32)), .int wd, .int fi, .int tw, .int dy, .int mn, .int ((F_X4_signAt ln tp wd fi tw dy mn vl sg tp) - (48 : Int32))])), (s0, .inl (k.2.1, 60, .inl sg))] := hD
    refine lv_iconst (v := 1) hx hb dX4_readDigit_41 (by decide) ?_
    subst hF
    exact fc_iret hx hb hr rfl hlk hS () rfl hP hD (by decide) (by decide) dX4_readDigit_42
  · rw [if_pos c_3] at hF
    refine lv_iconst (v := 0) hx hb dX4_readDigit_14 (by decide) ?_
    subst hF
    exact fc_iret hx hb hr rfl hlk hS () rfl hP hD (by decide) (by decide) dX4_readDigit_15

abbrev rm_X4_readNumber : Room := { frames := 2, cells := 0, slots := 0, locals := 41 }
theorem in_X4_readNumber_X4 : ∀ w ∈ wsX40, w ∈ wsX4_readNumber := by decide +kernel
theorem lk_X4_readNumber_37 : (Cond.fieldLink RX4 37 "TheatreSaga$Text" "value" "I") ∈ wsX4_readNumber := by decide +kernel
def F_X4_readNumber (ln : Int32) (tp : Int32) (wd : Int32) (fi : Int32) (tw : Int32) (dy : Int32) (mn : Int32) (vl : Int32) (sg : (Nat → Int32))  : Int32 × Int32 × Int32 := (letp (F_X4_readDigit ln tp wd fi tw dy mn vl sg) (fun (p_1 : Int32 × Int32 × Int32) => (if p_1.1 = (0 : Int32) then ((0 : Int32), p_1.2.1, p_1.2.2) else (letp (F_X4_readDigit ln p_1.2.1 wd fi tw dy mn p_1.2.2 sg) (fun (p_4 : Int32 × Int32 × Int32) => (if p_4.1 = (0 : Int32) then ((1 : Int32), p_4.2.1, p_4.2.2) else ((1 : Int32), p_4.2.1, (p_4.2.2 + (p_1.2.2 * (10 : Int32))))))))))
set_option maxHeartbeats 4000000 in
set_option maxRecDepth 100000 in
theorem c_X4_readNumber {l : Launch} {D : va_G} {k : tyK} (x s0 : Nat) (ln : Int32) (tp : Int32) (wd : Int32) (fi : Int32) (tw : Int32) (dy : Int32) (mn : Int32) (vl : Int32) (sg : (Nat → Int32))  (hC : ChOK sg) : FCi l yX4_readNumber wsX4_readNumber rm_X4_readNumber D k [.ref x] [(x, .inr (8, [.ref s0, .int ln, .int tp, .int wd, .int fi, .int tw, .int dy, .int mn, .int vl])), (s0, .inl (k.2.1, 60, .inl sg))] (fun r (_ : Unit) => r = (F_X4_readNumber ln tp wd fi tw dy mn vl sg).1) (fun _ => [(x, .inr (8, [.ref s0, .int ln, .int (F_X4_readNumber ln tp wd fi tw dy mn vl sg).2.1, .int wd, .int fi, .int tw, .int dy, .int mn, .int (F_X4_readNumber ln tp wd fi tw dy mn vl sg).2.2])), (s0, .inl (k.2.1, 60, .inl sg))]) := by
  refine fc_start (cc := cX4_readNumber) (maxL := 2) (ret := (some .boolean)) (own := RX4) (Qc := fun A => va_Qi (fun r (_ : Unit) => r = (F_X4_readNumber ln tp wd fi tw dy mn vl sg).1) (Bt D (fun _ => [(x, .inr (8, [.ref s0, .int ln, .int (F_X4_readNumber ln tp wd fi tw dy mn vl sg).2.1, .int wd, .int fi, .int tw, .int dy, .int mn, .int (F_X4_readNumber ln tp wd fi tw dy mn vl sg).2.2])), (s0, .inl (k.2.1, 60, .inl sg))]) A) A) (by decide) rfl rfl (Nat.le_of_ble_eq_true rfl) ?_
  intro p e s m below meth c A H hx hb hml hr hts hown hlk hname hA hP hE hD hS ls hl
  obtain ⟨RES, hF⟩ : ∃ z, (F_X4_readNumber ln tp wd fi tw dy mn vl sg) = z := ⟨_, rfl⟩
  rw [hF]
  unfold F_X4_readNumber at hF
  have hl : lv_has ls 2 [(0, .ref x)] := hl
  obtain ⟨locs, hlocs⟩ : ∃ z : List Loc, z = [] := ⟨_, rfl⟩
  rw [← hlocs] at hS ⊢
  refine lv_aload_n hx hb dX4_readNumber_0 rfl (lv_at hl 0 rfl) ?_
  generalize hp_1 : (F_X4_readDigit ln tp wd fi tw dy mn vl sg) = p_1 at hF
  rw [letp_eq] at hF
  refine fc_ci (isC := [0, 1]) (cells' := 0) (slots' := 0) (fc_runV (n := 0) (As := []) (rest := []) (isC := [0, 1]) (maxL := 1) ⟨hx, hb, hml, hown, hts⟩ (c_X4_readDigit x s0 ln tp wd fi tw dy mn vl sg hC H.size) gX4_readNumber_X4_readDigit rfl (by decide +kernel) rfl ⟨Nat.le_of_ble_eq_true rfl, Nat.le_of_ble_eq_true rfl⟩ ⟨Nat.le_of_ble_eq_true rfl, Nat.le_of_ble_eq_true rfl⟩ hE hP hD hS hA rfl rfl (va_recv hE.1 hP (ci := 8) (q0 := 0) rfl rfl) hl rfl (Nat.le_of_ble_eq_true rfl) dX4_readNumber_1) hP hD hS hA rfl (fun _ => rfl) rfl rfl (fun r_2 _ H locs hr_2 hP hD hS => ?_)
  rw [hp_1] at hr_2 hP hD
  obtain rfl : p_1.1 = r_2 := hr_2.symm
  dsimp only [fs, List.set] at hP hD
  have hP : va_P D vwCl [(x, .inr (8, [.ref s0, .int ln, .int p_1.2.1, .int wd, .int fi, .int tw, .int dy, .int mn, .int p_1.2.2])), (s0, .inl (k.2.1, 60, .inl sg))] H := hP
  have hD : va_D A [(x, .inr (8, [.ref s0, .int ln, .int p_1.2.1, .int wd, .int fi, .int tw, .int dy, .int mn, .int p_1.2.2])), (s0, .inl (k.2.1, 60, .inl sg))] := hD
  refine lv_if_ne (tgt := 9) hx hb dX4_readNumber_4 (by decide) (fun c_3 => ?_) (fun c_3 => ?_)
  · rw [if_neg c_3] at hF
    refine lv_aload_n hx hb dX4_readNumber_9 rfl (lv_at hl 0 rfl) ?_
    refine va_get (D := D) (ci := 8) (v := .int p_1.2.2) (C := RX4) (T := TX4) (N := 9) hx hb hts in_X4_readNumber_X4 hown hE.1 hP 0 rfl rfl 8 (by decide) (hts _ lk_X4_readNumber_37) (fun _ h9 => h9) rfl dX4_readNumber_10 ?_
    refine lv_istore_n (lv' := [(1, .int p_1.2.2), (0, .ref x)]) hx hb dX4_readNumber_13 rfl hl (by decide) rfl (fun ls hl => ?_)
    refine lv_aload_n hx hb dX4_readNumber_14 rfl (lv_at hl 1 rfl) ?_
    generalize hp_4 : (F_X4_readDigit ln p_1.2.1 wd fi tw dy mn p_1.2.2 sg) = p_4 at hF
    rw [letp_eq] at hF
    refine fc_ci (isC := [0, 1]) (cells' := 0) (slots' := 0) (fc_runV (n := 0) (As := []) (rest := []) (isC := [0, 1]) (maxL := 1) ⟨hx, hb, hml, hown, hts⟩ (c_X4_readDigit x s0 ln p_1.2.1 wd fi tw dy mn p_1.2.2 sg hC H.size) gX4_readNumber_X4_readDigit rfl (by decide +kernel) rfl ⟨Nat.le_of_ble_eq_true rfl, Nat.le_of_ble_eq_true rfl⟩ ⟨Nat.le_of_ble_eq_true rfl, Nat.le_of_ble_eq_true rfl⟩ hE hP hD hS hA rfl rfl (va_recv hE.1 hP (ci := 8) (q0 := 0) rfl rfl) hl rfl (Nat.le_of_ble_eq_true rfl) dX4_readNumber_15) hP hD hS hA rfl (fun _ => rfl) rfl rfl (fun r_5 _ H locs hr_5 hP hD hS => ?_)
    rw [hp_4] at hr_5 hP hD
    obtain rfl : p_4.1 = r_5 := hr_5.symm
    dsimp only [fs, List.set] at hP hD
    have hP : va_P D vwCl [(x, .inr (8, [.ref s0, .int ln, .int p_4.2.1, .int wd, .int fi, .int tw, .int dy, .int mn, .int p_4.2.2])), (s0, .inl (k.2.1, 60, .inl sg))] H := hP
    have hD : va_D A [(x, .inr (8, [.ref s0, .int ln, .int p_4.2.1, .int wd, .int fi, .int tw, .int dy, .int mn, .int p_4.2.2])), (s0, .inl (k.2.1, 60, .inl sg))] := hD
    refine lv_if_eq (tgt := 34) hx hb dX4_readNumber_18 (by decide) (fun c_6 => ?_) (fun c_6 => ?_)
    · rw [if_pos c_6] at hF
      refine lv_iconst (v := 1) hx hb dX4_readNumber_34 (by decide) ?_
      subst hF
      exact fc_iret hx hb hr rfl hlk hS () rfl hP hD (by decide) (by decide) dX4_readNumber_35
    · rw [if_neg c_6] at hF
      refine lv_aload_n hx hb dX4_readNumber_21 rfl (lv_at hl 1 rfl) ?_
      refine lv_dup hx hb dX4_readNumber_22 rfl ?_
      refine va_get (D := D) (ci := 8) (v := .int p_4.2.2) (C := RX4) (T := TX4) (N := 9) hx hb hts in_X4_readNumber_X4 hown hE.1 hP 0 rfl rfl 8 (by decide) (hts _ lk_X4_readNumber_37) (fun _ h9 => h9) rfl dX4_readNumber_23 ?_
      refine lv_iload_n hx hb dX4_readNumber_26 rfl (lv_at hl 0 rfl) ?_
      refine lv_bipush (v := 10) hx hb dX4_readNumber_27 (by decide) ?_
      refine lv_imul hx hb dX4_readNumber_29 ?_
      refine lv_iadd hx hb dX4_readNumber_30 ?_
      refine va_put (D := D) (ci := 8) (v := .int (p_4.2.2 + (p_1.2.2 * (10 : Int32)))) (ty := .int) (C := RX4) (T := TX4) (N := 9) hx hb hts in_X4_readNumber_X4 tyX4 tyX4_ok nmX4 hown hE.1 hP hD hS 0 rfl rfl 8 (by decide) (hts _ lk_X4_readNumber_37) (fun _ h9 => h9) rfl (by decide +kernel) rfl rfl (Nat.le_of_ble_eq_true rfl) dX4_readNumber_31 (fun H locs hP hD hS => ?_)
      have hP : va_P D vwCl [(x, .inr (8, [.ref s0, .int ln, .int p_4.2.1, .int wd, .int fi, .int tw, .int dy, .int mn, .int (p_4.2.2 + (p_1.2.2 * (10 : Int32)))])), (s0, .inl (k.2.1, 60, .inl sg))] H := hP
      have hD : va_D A [(x, .inr (8, [.ref s0, .int ln, .int p_4.2.1, .int wd, .int fi, .int tw, .int dy, .int mn, .int (p_4.2.2 + (p_1.2.2 * (10 : Int32)))])), (s0, .inl (k.2.1, 60, .inl sg))] := hD
      refine lv_iconst (v := 1) hx hb dX4_readNumber_34 (by decide) ?_
      subst hF
      exact fc_iret hx hb hr rfl hlk hS () rfl hP hD (by decide) (by decide) dX4_readNumber_35
  · rw [if_pos c_3] at hF
    refine lv_iconst (v := 0) hx hb dX4_readNumber_7 (by decide) ?_
    subst hF
    exact fc_iret hx hb hr rfl hlk hS () rfl hP hD (by decide) (by decide) dX4_readNumber_8

abbrev rm_X4_readPlace : Room := { frames := 3, cells := 0, slots := 0, locals := 62 }
theorem in_X4_readPlace_X4 : ∀ w ∈ wsX40, w ∈ wsX4_readPlace := by decide +kernel
theorem lk_X4_readPlace_28 : (Cond.fieldLink RX4 28 "TheatreSaga$Text" "town" "I") ∈ wsX4_readPlace := by decide +kernel
theorem lk_X4_readPlace_31 : (Cond.fieldLink RX4 31 "TheatreSaga$Text" "day" "I") ∈ wsX4_readPlace := by decide +kernel
theorem lk_X4_readPlace_37 : (Cond.fieldLink RX4 37 "TheatreSaga$Text" "value" "I") ∈ wsX4_readPlace := by decide +kernel
def F_X4_readPlace (ln : Int32) (tp : Int32) (wd : Int32) (fi : Int32) (tw : Int32) (dy : Int32) (mn : Int32) (vl : Int32) (sg : (Nat → Int32))  : Int32 × Int32 × Int32 × Int32 × Int32 := (letp (F_X4_readDigit ln tp wd fi tw dy mn vl sg) (fun (p_1 : Int32 × Int32 × Int32) => (if p_1.1 = (0 : Int32) then ((0 : Int32), p_1.2.1, p_1.2.2, p_1.2.2, p_1.2.2) else (letp (F_X4_readSign ln p_1.2.1 wd fi p_1.2.2 dy mn p_1.2.2 sg (47 : Int32)) (fun (p_4 : Int32 × Int32) => (if p_4.1 = (0 : Int32) then ((0 : Int32), p_4.2, p_1.2.2, p_1.2.2, p_1.2.2) else (letp (F_X4_readNumber ln p_4.2 wd fi p_1.2.2 dy mn p_1.2.2 sg) (fun (p_7 : Int32 × Int32 × Int32) => (if p_7.1 = (0 : Int32) then ((0 : Int32), p_7.2.1, p_1.2.2, p_7.2.2, p_7.2.2) else ((1 : Int32), p_7.2.1, p_1.2.2, p_7.2.2, p_7.2.2))))))))))
set_option maxHeartbeats 4000000 in
set_option maxRecDepth 100000 in
theorem c_X4_readPlace {l : Launch} {D : va_G} {k : tyK} (x s0 : Nat) (ln : Int32) (tp : Int32) (wd : Int32) (fi : Int32) (tw : Int32) (dy : Int32) (mn : Int32) (vl : Int32) (sg : (Nat → Int32))  (hC : ChOK sg) : FCi l yX4_readPlace wsX4_readPlace rm_X4_readPlace D k [.ref x] [(x, .inr (8, [.ref s0, .int ln, .int tp, .int wd, .int fi, .int tw, .int dy, .int mn, .int vl])), (s0, .inl (k.2.1, 60, .inl sg))] (fun r (_ : Unit) => r = (F_X4_readPlace ln tp wd fi tw dy mn vl sg).1) (fun _ => [(x, .inr (8, [.ref s0, .int ln, .int (F_X4_readPlace ln tp wd fi tw dy mn vl sg).2.1, .int wd, .int fi, .int (F_X4_readPlace ln tp wd fi tw dy mn vl sg).2.2.1, .int (F_X4_readPlace ln tp wd fi tw dy mn vl sg).2.2.2.1, .int mn, .int (F_X4_readPlace ln tp wd fi tw dy mn vl sg).2.2.2.2])), (s0, .inl (k.2.1, 60, .inl sg))]) := by
  refine fc_start (cc := cX4_readPlace) (maxL := 3) (ret := (some .boolean)) (own := RX4) (Qc := fun A => va_Qi (fun r (_ : Unit) => r = (F_X4_readPlace ln tp wd fi tw dy mn vl sg).1) (Bt D (fun _ => [(x, .inr (8, [.ref s0, .int ln, .int (F_X4_readPlace ln tp wd fi tw dy mn vl sg).2.1, .int wd, .int fi, .int (F_X4_readPlace ln tp wd fi tw dy mn vl sg).2.2.1, .int (F_X4_readPlace ln tp wd fi tw dy mn vl sg).2.2.2.1, .int mn, .int (F_X4_readPlace ln tp wd fi tw dy mn vl sg).2.2.2.2])), (s0, .inl (k.2.1, 60, .inl sg))]) A) A) (by decide) rfl rfl (Nat.le_of_ble_eq_true rfl) ?_
  intro p e s m below meth c A H hx hb hml hr hts hown hlk hname hA hP hE hD hS ls hl
  obtain ⟨RES, hF⟩ : ∃ z, (F_X4_readPlace ln tp wd fi tw dy mn vl sg) = z := ⟨_, rfl⟩
  rw [hF]
  unfold F_X4_readPlace at hF
  have hl : lv_has ls 3 [(0, .ref x)] := hl
  obtain ⟨locs, hlocs⟩ : ∃ z : List Loc, z = [] := ⟨_, rfl⟩
  rw [← hlocs] at hS ⊢
  refine lv_aload_n hx hb dX4_readPlace_0 rfl (lv_at hl 0 rfl) ?_
  generalize hp_1 : (F_X4_readDigit ln tp wd fi tw dy mn vl sg) = p_1 at hF
  rw [letp_eq] at hF
  refine fc_ci (isC := [0, 1]) (cells' := 0) (slots' := 0) (fc_runV (n := 0) (As := []) (rest := []) (isC := [0, 1]) (maxL := 1) ⟨hx, hb, hml, hown, hts⟩ (c_X4_readDigit x s0 ln tp wd fi tw dy mn vl sg hC H.size) gX4_readPlace_X4_readDigit rfl (by decide +kernel) rfl ⟨Nat.le_of_ble_eq_true rfl, Nat.le_of_ble_eq_true rfl⟩ ⟨Nat.le_of_ble_eq_true rfl, Nat.le_of_ble_eq_true rfl⟩ hE hP hD hS hA rfl rfl (va_recv hE.1 hP (ci := 8) (q0 := 0) rfl rfl) hl rfl (Nat.le_of_ble_eq_true rfl) dX4_readPlace_1) hP hD hS hA rfl (fun _ => rfl) rfl rfl (fun r_2 _ H locs hr_2 hP hD hS => ?_)
  rw [hp_1] at hr_2 hP hD
  obtain rfl : p_1.1 = r_2 := hr_2.symm
  dsimp only [fs, List.set] at hP hD
  have hP : va_P D vwCl [(x, .inr (8, [.ref s0, .int ln, .int p_1.2.1, .int wd, .int fi, .int tw, .int dy, .int mn, .int p_1.2.2])), (s0, .inl (k.2.1, 60, .inl sg))] H := hP
  have hD : va_D A [(x, .inr (8, [.ref s0, .int ln, .int p_1.2.1, .int wd, .int fi, .int tw, .int dy, .int mn, .int p_1.2.2])), (s0, .inl (k.2.1, 60, .inl sg))] := hD
  refine lv_istore_n (lv' := [(1, .int p_1.1), (0, .ref x)]) hx hb dX4_readPlace_4 rfl hl (by decide) rfl (fun ls hl => ?_)
  refine lv_aload_n hx hb dX4_readPlace_5 rfl (lv_at hl 1 rfl) ?_
  refine lv_aload_n hx hb dX4_readPlace_6 rfl (lv_at hl 1 rfl) ?_
  refine va_get (D := D) (ci := 8) (v := .int p_1.2.2) (C := RX4) (T := TX4) (N := 9) hx hb hts in_X4_readPlace_X4 hown hE.1 hP 0 rfl rfl 8 (by decide) (hts _ lk_X4_readPlace_37) (fun _ h9 => h9) rfl dX4_readPlace_7 ?_
  refine va_put (D := D) (ci := 8) (v := .int p_1.2.2) (ty := .int) (C := RX4) (T := TX4) (N := 9) hx hb hts in_X4_readPlace_X4 tyX4 tyX4_ok nmX4 hown hE.1 hP hD hS 0 rfl rfl 5 (by decide) (hts _ lk_X4_readPlace_28) (fun _ h9 => h9) rfl (by decide +kernel) rfl rfl (Nat.le_of_ble_eq_true rfl) dX4_readPlace_10 (fun H locs hP hD hS => ?_)
  have hP : va_P D vwCl [(x, .inr (8, [.ref s0, .int ln, .int p_1.2.1, .int wd, .int fi, .int p_1.2.2, .int dy, .int mn, .int p_1.2.2])), (s0, .inl (k.2.1, 60, .inl sg))] H := hP
  have hD : va_D A [(x, .inr (8, [.ref s0, .int ln, .int p_1.2.1, .int wd, .int fi, .int p_1.2.2, .int dy, .int mn, .int p_1.2.2])), (s0, .inl (k.2.1, 60, .inl sg))] := hD
  refine lv_iload_n hx hb dX4_readPlace_13 rfl (lv_at hl 0 rfl) ?_
  refine lv_if_eq (tgt := 37) hx hb dX4_readPlace_14 (by decide) (fun c_3 => ?_) (fun c_3 => ?_)
  · rw [if_pos c_3] at hF
    refine lv_iconst (v := 0) hx hb dX4_readPlace_37 (by decide) ?_
    refine lv_istore_n (lv' := [(2, .int (0 : Int32)), (1, .int p_1.1), (0, .ref x)]) hx hb dX4_readPlace_38 rfl hl (by decide) rfl (fun ls hl => ?_)
    refine lv_aload_n hx hb dX4_readPlace_39 rfl (lv_at hl 2 rfl) ?_
    refine lv_aload_n hx hb dX4_readPlace_40 rfl (lv_at hl 2 rfl) ?_
    refine va_get (D := D) (ci := 8) (v := .int p_1.2.2) (C := RX4) (T := TX4) (N := 9) hx hb hts in_X4_readPlace_X4 hown hE.1 hP 0 rfl rfl 8 (by decide) (hts _ lk_X4_readPlace_37) (fun _ h9 => h9) rfl dX4_readPlace_41 ?_
    refine va_put (D := D) (ci := 8) (v := .int p_1.2.2) (ty := .int) (C := RX4) (T := TX4) (N := 9) hx hb hts in_X4_readPlace_X4 tyX4 tyX4_ok nmX4 hown hE.1 hP hD hS 0 rfl rfl 6 (by decide) (hts _ lk_X4_readPlace_31) (fun _ h9 => h9) rfl (by decide +kernel) rfl rfl (Nat.le_of_ble_eq_true rfl) dX4_readPlace_44 (fun H locs hP hD hS => ?_)
    have hP : va_P D vwCl [(x, .inr (8, [.ref s0, .int ln, .int p_1.2.1, .int wd, .int fi, .int p_1.2.2, .int p_1.2.2, .int mn, .int p_1.2.2])), (s0, .inl (k.2.1, 60, .inl sg))] H := hP
    have hD : va_D A [(x, .inr (8, [.ref s0, .int ln, .int p_1.2.1, .int wd, .int fi, .int p_1.2.2, .int p_1.2.2, .int mn, .int p_1.2.2])), (s0, .inl (k.2.1, 60, .inl sg))] := hD
    refine lv_iload_n hx hb dX4_readPlace_47 rfl (lv_at hl 0 rfl) ?_
    subst hF
    exact fc_iret hx hb hr rfl hlk hS () rfl hP hD (by decide) (by decide) dX4_readPlace_48
  · rw [if_neg c_3] at hF
    refine lv_aload_n hx hb dX4_readPlace_17 rfl (lv_at hl 1 rfl) ?_
    refine lv_bipush (v := 47) hx hb dX4_readPlace_18 (by decide) ?_
    generalize hp_4 : (F_X4_readSign ln p_1.2.1 wd fi p_1.2.2 dy mn p_1.2.2 sg (47 : Int32)) = p_4 at hF
    rw [letp_eq] at hF
    refine fc_ci (isC := [0, 1]) (cells' := 0) (slots' := 0) (fc_runV (n := 1) (As := [.int (47 : Int32)]) (rest := []) (isC := [0, 1]) (maxL := 2) ⟨hx, hb, hml, hown, hts⟩ (c_X4_readSign x s0 ln p_1.2.1 wd fi p_1.2.2 dy mn p_1.2.2 sg (47 : Int32) hC H.size) gX4_readPlace_X4_readSign rfl (by decide +kernel) rfl ⟨Nat.le_of_ble_eq_true rfl, Nat.le_of_ble_eq_true rfl⟩ ⟨Nat.le_of_ble_eq_true rfl, Nat.le_of_ble_eq_true rfl⟩ hE hP hD hS hA rfl rfl (va_recv hE.1 hP (ci := 8) (q0 := 0) rfl rfl) hl rfl (Nat.le_of_ble_eq_true rfl) dX4_readPlace_20) hP hD hS hA rfl (fun _ => rfl) rfl rfl (fun r_5 _ H locs hr_5 hP hD hS => ?_)
    rw [hp_4] at hr_5 hP hD
    obtain rfl : p_4.1 = r_5 := hr_5.symm
    dsimp only [fs, List.set] at hP hD
    have hP : va_P D vwCl [(x, .inr (8, [.ref s0, .int ln, .int p_4.2, .int wd, .int fi, .int p_1.2.2, .int dy, .int mn, .int p_1.2.2])), (s0, .inl (k.2.1, 60, .inl sg))] H := hP
    have hD : va_D A [(x, .inr (8, [.ref s0, .int ln, .int p_4.2, .int wd, .int fi, .int p_1.2.2, .int dy, .int mn, .int p_1.2.2])), (s0, .inl (k.2.1, 60, .inl sg))] := hD
    refine lv_if_eq (tgt := 37) hx hb dX4_readPlace_23 (by decide) (fun c_6 => ?_) (fun c_6 => ?_)
    · rw [if_pos c_6] at hF
      refine lv_iconst (v := 0) hx hb dX4_readPlace_37 (by decide) ?_
      refine lv_istore_n (lv' := [(2, .int (0 : Int32)), (1, .int p_1.1), (0, .ref x)]) hx hb dX4_readPlace_38 rfl hl (by decide) rfl (fun ls hl => ?_)
      refine lv_aload_n hx hb dX4_readPlace_39 rfl (lv_at hl 2 rfl) ?_
      refine lv_aload_n hx hb dX4_readPlace_40 rfl (lv_at hl 2 rfl) ?_
      refine va_get (D := D) (ci := 8) (v := .int p_1.2.2) (C := RX4) (T := TX4) (N := 9) hx hb hts in_X4_readPlace_X4 hown hE.1 hP 0 rfl rfl 8 (by decide) (hts _ lk_X4_readPlace_37) (fun _ h9 => h9) rfl dX4_readPlace_41 ?_
      refine va_put (D := D) (ci := 8) (v := .int p_1.2.2) (ty := .int) (C := RX4) (T := TX4) (N := 9) hx hb hts in_X4_readPlace_X4 tyX4 tyX4_ok nmX4 hown hE.1 hP hD hS 0 rfl rfl 6 (by decide) (hts _ lk_X4_readPlace_31) (fun _ h9 => h9) rfl (by decide +kernel) rfl rfl (Nat.le_of_ble_eq_true rfl) dX4_readPlace_44 (fun H locs hP hD hS => ?_)
      have hP : va_P D vwCl [(x, .inr (8, [.ref s0, .int ln, .int p_4.2, .int wd, .int fi, .int p_1.2.2, .int p_1.2.2, .int mn, .int p_1.2.2])), (s0, .inl (k.2.1, 60, .inl sg))] H := hP
      have hD : va_D A [(x, .inr (8, [.ref s0, .int ln, .int p_4.2, .int wd, .int fi, .int p_1.2.2, .int p_1.2.2, .int mn, .int p_1.2.2])), (s0, .inl (k.2.1, 60, .inl sg))] := hD
      refine lv_iload_n hx hb dX4_readPlace_47 rfl (lv_at hl 0 rfl) ?_
      subst hF
      exact fc_iret hx hb hr rfl hlk hS () rfl hP hD (by decide) (by decide) dX4_readPlace_48
    · rw [if_neg c_6] at hF
      refine lv_aload_n hx hb dX4_readPlace_26 rfl (lv_at hl 1 rfl) ?_
      generalize hp_7 : (F_X4_readNumber ln p_4.2 wd fi p_1.2.2 dy mn p_1.2.2 sg) = p_7 at hF
      rw [letp_eq] at hF
      refine fc_ci (isC := [0, 1]) (cells' := 0) (slots' := 0) (fc_runV (n := 0) (As := []) (rest := []) (isC := [0, 1]) (maxL := 2) ⟨hx, hb, hml, hown, hts⟩ (c_X4_readNumber x s0 ln p_4.2 wd fi p_1.2.2 dy mn p_1.2.2 sg hC H.size) gX4_readPlace_X4_readNumber rfl (by decide +kernel) rfl ⟨Nat.le_of_ble_eq_true rfl, Nat.le_of_ble_eq_true rfl⟩ ⟨Nat.le_of_ble_eq_true rfl, Nat.le_of_ble_eq_true rfl⟩ hE hP hD hS hA rfl rfl (va_recv hE.1 hP (ci := 8) (q0 := 0) rfl rfl) hl rfl (Nat.le_of_ble_eq_true rfl) dX4_readPlace_27) hP hD hS hA rfl (fun _ => rfl) rfl rfl (fun r_8 _ H locs hr_8 hP hD hS => ?_)
      rw [hp_7] at hr_8 hP hD
      obtain rfl : p_7.1 = r_8 := hr_8.symm
      dsimp only [fs, List.set] at hP hD
      have hP : va_P D vwCl [(x, .inr (8, [.ref s0, .int ln, .int p_7.2.1, .int wd, .int fi, .int p_1.2.2, .int dy, .int mn, .int p_7.2.2])), (s0, .inl (k.2.1, 60, .inl sg))] H := hP
      have hD : va_D A [(x, .inr (8, [.ref s0, .int ln, .int p_7.2.1, .int wd, .int fi, .int p_1.2.2, .int dy, .int mn, .int p_7.2.2])), (s0, .inl (k.2.1, 60, .inl sg))] := hD
      refine lv_if_eq (tgt := 37) hx hb dX4_readPlace_30 (by decide) (fun c_9 => ?_) (fun c_9 => ?_)
      · rw [if_pos c_9] at hF
        refine lv_iconst (v := 0) hx hb dX4_readPlace_37 (by decide) ?_
        refine lv_istore_n (lv' := [(2, .int (0 : Int32)), (1, .int p_1.1), (0, .ref x)]) hx hb dX4_readPlace_38 rfl hl (by decide) rfl (fun ls hl => ?_)
        refine lv_aload_n hx hb dX4_readPlace_39 rfl (lv_at hl 2 rfl) ?_
        refine lv_aload_n hx hb dX4_readPlace_40 rfl (lv_at hl 2 rfl) ?_
        refine va_get (D := D) (ci := 8) (v := .int p_7.2.2) (C := RX4) (T := TX4) (N := 9) hx hb hts in_X4_readPlace_X4 hown hE.1 hP 0 rfl rfl 8 (by decide) (hts _ lk_X4_readPlace_37) (fun _ h9 => h9) rfl dX4_readPlace_41 ?_
        refine va_put (D := D) (ci := 8) (v := .int p_7.2.2) (ty := .int) (C := RX4) (T := TX4) (N := 9) hx hb hts in_X4_readPlace_X4 tyX4 tyX4_ok nmX4 hown hE.1 hP hD hS 0 rfl rfl 6 (by decide) (hts _ lk_X4_readPlace_31) (fun _ h9 => h9) rfl (by decide +kernel) rfl rfl (Nat.le_of_ble_eq_true rfl) dX4_readPlace_44 (fun H locs hP hD hS => ?_)
        have hP : va_P D vwCl [(x, .inr (8, [.ref s0, .int ln, .int p_7.2.1, .int wd, .int fi, .int p_1.2.2, .int p_7.2.2, .int mn, .int p_7.2.2])), (s0, .inl (k.2.1, 60, .inl sg))] H := hP
        have hD : va_D A [(x, .inr (8, [.ref s0, .int ln, .int p_7.2.1, .int wd, .int fi, .int p_1.2.2, .int p_7.2.2, .int mn, .int p_7.2.2])), (s0, .inl (k.2.1, 60, .inl sg))] := hD
        refine lv_iload_n hx hb dX4_readPlace_47 rfl (lv_at hl 0 rfl) ?_
        subst hF
        exact fc_iret hx hb hr rfl hlk hS () rfl hP hD (by decide) (by decide) dX4_readPlace_48
      · rw [if_neg c_9] at hF
        refine lv_iconst (v := 1) hx hb dX4_readPlace_33 (by decide) ?_
        refine lv_goto (tgt := 38) hx hb dX4_readPlace_34 (by decide) ?_
        refine lv_istore_n (lv' := [(2, .int (1 : Int32)), (1, .int p_1.1), (0, .ref x)]) hx hb dX4_readPlace_38 rfl hl (by decide) rfl (fun ls hl => ?_)
        refine lv_aload_n hx hb dX4_readPlace_39 rfl (lv_at hl 2 rfl) ?_
        refine lv_aload_n hx hb dX4_readPlace_40 rfl (lv_at hl 2 rfl) ?_
        refine va_get (D := D) (ci := 8) (v := .int p_7.2.2) (C := RX4) (T := TX4) (N := 9) hx hb hts in_X4_readPlace_X4 hown hE.1 hP 0 rfl rfl 8 (by decide) (hts _ lk_X4_readPlace_37) (fun _ h9 => h9) rfl dX4_readPlace_41 ?_
        refine va_put (D := D) (ci := 8) (v := .int p_7.2.2) (ty := .int) (C := RX4) (T := TX4) (N := 9) hx hb hts in_X4_readPlace_X4 tyX4 tyX4_ok nmX4 hown hE.1 hP hD hS 0 rfl rfl 6 (by decide) (hts _ lk_X4_readPlace_31) (fun _ h9 => h9) rfl (by decide +kernel) rfl rfl (Nat.le_of_ble_eq_true rfl) dX4_readPlace_44 (fun H locs hP hD hS => ?_)
        have hP : va_P D vwCl [(x, .inr (8, [.ref s0, .int ln, .int p_7.2.1, .int wd, .int fi, .int p_1.2.2, .int p_7.2.2, .int mn, .int p_7.2.2])), (s0, .inl (k.2.1, 60, .inl sg))] H := hP
        have hD : va_D A [(x, .inr (8, [.ref s0, .int ln, .int p_7.2.1, .int wd, .int fi, .int p_1.2.2, .int p_7.2.2, .int mn, .int p_7.2.2])), (s0, .inl (k.2.1, 60, .inl sg))] := hD
        refine lv_iload_n hx hb dX4_readPlace_47 rfl (lv_at hl 0 rfl) ?_
        subst hF
        exact fc_iret hx hb hr rfl hlk hS () rfl hP hD (by decide) (by decide) dX4_readPlace_48

abbrev rm_X4_readMany : Room := { frames := 3, cells := 0, slots := 0, locals := 62 }
theorem in_X4_readMany_X4 : ∀ w ∈ wsX40, w ∈ wsX4_readMany := by decide +kernel
theorem lk_X4_readMany_22 : (Cond.fieldLink RX4 22 "TheatreSaga$Text" "word" "I") ∈ wsX4_readMany := by decide +kernel
theorem lk_X4_readMany_34 : (Cond.fieldLink RX4 34 "TheatreSaga$Text" "many" "I") ∈ wsX4_readMany := by decide +kernel
theorem lk_X4_readMany_37 : (Cond.fieldLink RX4 37 "TheatreSaga$Text" "value" "I") ∈ wsX4_readMany := by decide +kernel
def F_X4_readMany (ln : Int32) (tp : Int32) (wd : Int32) (fi : Int32) (tw : Int32) (dy : Int32) (mn : Int32) (vl : Int32) (sg : (Nat → Int32))  : Int32 × Int32 × Int32 × Int32 := (if wd = (1 : Int32) then ((1 : Int32), tp, (1 : Int32), vl) else (letp (F_X4_readSign ln tp wd fi tw dy mn vl sg (120 : Int32)) (fun (p_2 : Int32 × Int32) => (if p_2.1 = (0 : Int32) then ((0 : Int32), p_2.2, vl, vl) else (if wd = (3 : Int32) then (letp (F_X4_readNumber ln p_2.2 wd fi tw dy mn vl sg) (fun (p_9 : Int32 × Int32 × Int32) => (if p_9.1 = (0 : Int32) then ((0 : Int32), p_9.2.1, p_9.2.2, p_9.2.2) else ((1 : Int32), p_9.2.1, p_9.2.2, p_9.2.2)))) else (letp (F_X4_readDigit ln p_2.2 wd fi tw dy mn vl sg) (fun (p_6 : Int32 × Int32 × Int32) => (if p_6.1 = (0 : Int32) then ((0 : Int32), p_6.2.1, p_6.2.2, p_6.2.2) else ((1 : Int32), p_6.2.1, p_6.2.2, p_6.2.2)))))))))
set_option maxHeartbeats 4000000 in
set_option maxRecDepth 100000 in
theorem c_X4_readMany {l : Launch} {D : va_G} {k : tyK} (x s0 : Nat) (ln : Int32) (tp : Int32) (wd : Int32) (fi : Int32) (tw : Int32) (dy : Int32) (mn : Int32) (vl : Int32) (sg : (Nat → Int32))  (hC : ChOK sg) : FCi l yX4_readMany wsX4_readMany rm_X4_readMany D k [.ref x] [(x, .inr (8, [.ref s0, .int ln, .int tp, .int wd, .int fi, .int tw, .int dy, .int mn, .int vl])), (s0, .inl (k.2.1, 60, .inl sg))] (fun r (_ : Unit) => r = (F_X4_readMany ln tp wd fi tw dy mn vl sg).1) (fun _ => [(x, .inr (8, [.ref s0, .int ln, .int (F_X4_readMany ln tp wd fi tw dy mn vl sg).2.1, .int wd, .int fi, .int tw, .int dy, .int (F_X4_readMany ln tp wd fi tw dy mn vl sg).2.2.1, .int (F_X4_readMany ln tp wd fi tw dy mn vl sg).2.2.2])), (s0, .inl (k.2.1, 60, .inl sg))]) := by
  refine fc_start (cc := cX4_readMany) (maxL := 2) (ret := (some .boolean)) (own := RX4) (Qc := fun A => va_Qi (fun r (_ : Unit) => r = (F_X4_readMany ln tp wd fi tw dy mn vl sg).1) (Bt D (fun _ => [(x, .inr (8, [.ref s0, .int ln, .int (F_X4_readMany ln tp wd fi tw dy mn vl sg).2.1, .int wd, .int fi, .int tw, .int dy, .int (F_X4_readMany ln tp wd fi tw dy mn vl sg).2.2.1, .int (F_X4_readMany ln tp wd fi tw dy mn vl sg).2.2.2])), (s0, .inl (k.2.1, 60, .inl sg))]) A) A) (by decide) rfl rfl (Nat.le_of_ble_eq_true rfl) ?_
  intro p e s m below meth c A H hx hb hml hr hts hown hlk hname hA hP hE hD hS ls hl
  obtain ⟨RES, hF⟩ : ∃ z, (F_X4_readMany ln tp wd fi tw dy mn vl sg) = z := ⟨_, rfl⟩
  rw [hF]
  unfold F_X4_readMany at hF
  have hl : lv_has ls 2 [(0, .ref x)] := hl
  obtain ⟨locs, hlocs⟩ : ∃ z : List Loc, z = [] := ⟨_, rfl⟩
  rw [← hlocs] at hS ⊢
  refine lv_aload_n hx hb dX4_readMany_0 rfl (lv_at hl 0 rfl) ?_
  refine va_get (D := D) (ci := 8) (v := .int wd) (C := RX4) (T := TX4) (N := 9) hx hb hts in_X4_readMany_X4 hown hE.1 hP 0 rfl rfl 3 (by decide) (hts _ lk_X4_readMany_22) (fun _ h9 => h9) rfl dX4_readMany_1 ?_
  refine lv_iconst (v := 1) hx hb dX4_readMany_4 (by decide) ?_
  refine lv_icmp_ne (tgt := 15) hx hb dX4_readMany_5 (by decide) (fun c_1 => ?_) (fun c_1 => ?_)
  · rw [if_neg c_1] at hF
    refine lv_aload_n hx hb dX4_readMany_15 rfl (lv_at hl 0 rfl) ?_
    refine lv_bipush (v := 120) hx hb dX4_readMany_16 (by decide) ?_
    generalize hp_2 : (F_X4_readSign ln tp wd fi tw dy mn vl sg (120 : Int32)) = p_2 at hF
    rw [letp_eq] at hF
    refine fc_ci (isC := [0, 1]) (cells' := 0) (slots' := 0) (fc_runV (n := 1) (As := [.int (120 : Int32)]) (rest := []) (isC := [0, 1]) (maxL := 2) ⟨hx, hb, hml, hown, hts⟩ (c_X4_readSign x s0 ln tp wd fi tw dy mn vl sg (120 : Int32) hC H.size) gX4_readMany_X4_readSign rfl (by decide +kernel) rfl ⟨Nat.le_of_ble_eq_true rfl, Nat.le_of_ble_eq_true rfl⟩ ⟨Nat.le_of_ble_eq_true rfl, Nat.le_of_ble_eq_true rfl⟩ hE hP hD hS hA rfl rfl (va_recv hE.1 hP (ci := 8) (q0 := 0) rfl rfl) hl rfl (Nat.le_of_ble_eq_true rfl) dX4_readMany_18) hP hD hS hA rfl (fun _ => rfl) rfl rfl (fun r_3 _ H locs hr_3 hP hD hS => ?_)
    rw [hp_2] at hr_3 hP hD
    obtain rfl : p_2.1 = r_3 := hr_3.symm
    dsimp only [fs, List.set] at hP hD
    have hP : va_P D vwCl [(x, .inr (8, [.ref s0, .int ln, .int p_2.2, .int wd, .int fi, .int tw, .int dy, .int mn, .int vl])), (s0, .inl (k.2.1, 60, .inl sg))] H := hP
    have hD : va_D A [(x, .inr (8, [.ref s0, .int ln, .int p_2.2, .int wd, .int fi, .int tw, .int dy, .int mn, .int vl])), (s0, .inl (k.2.1, 60, .inl sg))] := hD
    refine lv_if_eq (tgt := 53) hx hb dX4_readMany_21 (by decide) (fun c_4 => ?_) (fun c_4 => ?_)
    · rw [if_pos c_4] at hF
      refine lv_iconst (v := 0) hx hb dX4_readMany_53 (by decide) ?_
      refine lv_istore_n (lv' := [(1, .int (0 : Int32)), (0, .ref x)]) hx hb dX4_readMany_54 rfl hl (by decide) rfl (fun ls hl => ?_)
      refine lv_aload_n hx hb dX4_readMany_55 rfl (lv_at hl 1 rfl) ?_
      refine lv_aload_n hx hb dX4_readMany_56 rfl (lv_at hl 1 rfl) ?_
      refine va_get (D := D) (ci := 8) (v := .int vl) (C := RX4) (T := TX4) (N := 9) hx hb hts in_X4_readMany_X4 hown hE.1 hP 0 rfl rfl 8 (by decide) (hts _ lk_X4_readMany_37) (fun _ h9 => h9) rfl dX4_readMany_57 ?_
      refine va_put (D := D) (ci := 8) (v := .int vl) (ty := .int) (C := RX4) (T := TX4) (N := 9) hx hb hts in_X4_readMany_X4 tyX4 tyX4_ok nmX4 hown hE.1 hP hD hS 0 rfl rfl 7 (by decide) (hts _ lk_X4_readMany_34) (fun _ h9 => h9) rfl (by decide +kernel) rfl rfl (Nat.le_of_ble_eq_true rfl) dX4_readMany_60 (fun H locs hP hD hS => ?_)
      have hP : va_P D vwCl [(x, .inr (8, [.ref s0, .int ln, .int p_2.2, .int wd, .int fi, .int tw, .int dy, .int vl, .int vl])), (s0, .inl (k.2.1, 60, .inl sg))] H := hP
      have hD : va_D A [(x, .inr (8, [.ref s0, .int ln, .int p_2.2, .int wd, .int fi, .int tw, .int dy, .int vl, .int vl])), (s0, .inl (k.2.1, 60, .inl sg))] := hD
      refine lv_iload_n hx hb dX4_readMany_63 rfl (lv_at hl 0 rfl) ?_
      subst hF
      exact fc_iret hx hb hr rfl hlk hS () rfl hP hD (by decide) (by decide) dX4_readMany_64
    · rw [if_neg c_4] at hF
      refine lv_aload_n hx hb dX4_readMany_24 rfl (lv_at hl 0 rfl) ?_
      refine va_get (D := D) (ci := 8) (v := .int wd) (C := RX4) (T := TX4) (N := 9) hx hb hts in_X4_readMany_X4 hown hE.1 hP 0 rfl rfl 3 (by decide) (hts _ lk_X4_readMany_22) (fun _ h9 => h9) rfl dX4_readMany_25 ?_
      refine lv_iconst (v := 3) hx hb dX4_readMany_28 (by decide) ?_
      refine lv_icmp_ne (tgt := 42) hx hb dX4_readMany_29 (by decide) (fun c_5 => ?_) (fun c_5 => ?_)
      · rw [if_neg c_5] at hF
        refine lv_aload_n hx hb dX4_readMany_42 rfl (lv_at hl 0 rfl) ?_
        generalize hp_6 : (F_X4_readDigit ln p_2.2 wd fi tw dy mn vl sg) = p_6 at hF
        rw [letp_eq] at hF
        refine fc_ci (isC := [0, 1]) (cells' := 0) (slots' := 0) (fc_runV (n := 0) (As := []) (rest := []) (isC := [0, 1]) (maxL := 1) ⟨hx, hb, hml, hown, hts⟩ (c_X4_readDigit x s0 ln p_2.2 wd fi tw dy mn vl sg hC H.size) gX4_readMany_X4_readDigit rfl (by decide +kernel) rfl ⟨Nat.le_of_ble_eq_true rfl, Nat.le_of_ble_eq_true rfl⟩ ⟨Nat.le_of_ble_eq_true rfl, Nat.le_of_ble_eq_true rfl⟩ hE hP hD hS hA rfl rfl (va_recv hE.1 hP (ci := 8) (q0 := 0) rfl rfl) hl rfl (Nat.le_of_ble_eq_true rfl) dX4_readMany_43) hP hD hS hA rfl (fun _ => rfl) rfl rfl (fun r_7 _ H locs hr_7 hP hD hS => ?_)
        rw [hp_6] at hr_7 hP hD
        obtain rfl : p_6.1 = r_7 := hr_7.symm
        dsimp only [fs, List.set] at hP hD
        have hP : va_P D vwCl [(x, .inr (8, [.ref s0, .int ln, .int p_6.2.1, .int wd, .int fi, .int tw, .int dy, .int mn, .int p_6.2.2])), (s0, .inl (k.2.1, 60, .inl sg))] H := hP
        have hD : va_D A [(x, .inr (8, [.ref s0, .int ln, .int p_6.2.1, .int wd, .int fi, .int tw, .int dy, .int mn, .int p_6.2.2])), (s0, .inl (k.2.1, 60, .inl sg))] := hD
        refine lv_if_eq (tgt := 53) hx hb dX4_readMany_46 (by decide) (fun c_8 => ?_) (fun c_8 => ?_)
        · rw [if_pos c_8] at hF
          refine lv_iconst (v := 0) hx hb dX4_readMany_53 (by decide) ?_
          refine lv_istore_n (lv' := [(1, .int (0 : Int32)), (0, .ref x)]) hx hb dX4_readMany_54 rfl hl (by decide) rfl (fun ls hl => ?_)
          refine lv_aload_n hx hb dX4_readMany_55 rfl (lv_at hl 1 rfl) ?_
          refine lv_aload_n hx hb dX4_readMany_56 rfl (lv_at hl 1 rfl) ?_
          refine va_get (D := D) (ci := 8) (v := .int p_6.2.2) (C := RX4) (T := TX4) (N := 9) hx hb hts in_X4_readMany_X4 hown hE.1 hP 0 rfl rfl 8 (by decide) (hts _ lk_X4_readMany_37) (fun _ h9 => h9) rfl dX4_readMany_57 ?_
          refine va_put (D := D) (ci := 8) (v := .int p_6.2.2) (ty := .int) (C := RX4) (T := TX4) (N := 9) hx hb hts in_X4_readMany_X4 tyX4 tyX4_ok nmX4 hown hE.1 hP hD hS 0 rfl rfl 7 (by decide) (hts _ lk_X4_readMany_34) (fun _ h9 => h9) rfl (by decide +kernel) rfl rfl (Nat.le_of_ble_eq_true rfl) dX4_readMany_60 (fun H locs hP hD hS => ?_)
          have hP : va_P D vwCl [(x, .inr (8, [.ref s0, .int ln, .int p_6.2.1, .int wd, .int fi, .int tw, .int dy, .int p_6.2.2, .int p_6.2.2])), (s0, .inl (k.2.1, 60, .inl sg))] H := hP
          have hD : va_D A [(x, .inr (8, [.ref s0, .int ln, .int p_6.2.1, .int wd, .int fi, .int tw, .int dy, .int p_6.2.2, .int p_6.2.2])), (s0, .inl (k.2.1, 60, .inl sg))] := hD
          refine lv_iload_n hx hb dX4_readMany_63 rfl (lv_at hl 0 rfl) ?_
          subst hF
          exact fc_iret hx hb hr rfl hlk hS () rfl hP hD (by decide) (by decide) dX4_readMany_64
        · rw [if_neg c_8] at hF
          refine lv_iconst (v := 1) hx hb dX4_readMany_49 (by decide) ?_
          refine lv_goto (tgt := 54) hx hb dX4_readMany_50 (by decide) ?_
          refine lv_istore_n (lv' := [(1, .int (1 : Int32)), (0, .ref x)]) hx hb dX4_readMany_54 rfl hl (by decide) rfl (fun ls hl => ?_)
          refine lv_aload_n hx hb dX4_readMany_55 rfl (lv_at hl 1 rfl) ?_
          refine lv_aload_n hx hb dX4_readMany_56 rfl (lv_at hl 1 rfl) ?_
          refine va_get (D := D) (ci := 8) (v := .int p_6.2.2) (C := RX4) (T := TX4) (N := 9) hx hb hts in_X4_readMany_X4 hown hE.1 hP 0 rfl rfl 8 (by decide) (hts _ lk_X4_readMany_37) (fun _ h9 => h9) rfl dX4_readMany_57 ?_
          refine va_put (D := D) (ci := 8) (v := .int p_6.2.2) (ty := .int) (C := RX4) (T := TX4) (N := 9) hx hb hts in_X4_readMany_X4 tyX4 tyX4_ok nmX4 hown hE.1 hP hD hS 0 rfl rfl 7 (by decide) (hts _ lk_X4_readMany_34) (fun _ h9 => h9) rfl (by decide +kernel) rfl rfl (Nat.le_of_ble_eq_true rfl) dX4_readMany_60 (fun H locs hP hD hS => ?_)
          have hP : va_P D vwCl [(x, .inr (8, [.ref s0, .int ln, .int p_6.2.1, .int wd, .int fi, .int tw, .int dy, .int p_6.2.2, .int p_6.2.2])), (s0, .inl (k.2.1, 60, .inl sg))] H := hP
          have hD : va_D A [(x, .inr (8, [.ref s0, .int ln, .int p_6.2.1, .int wd, .int fi, .int tw, .int dy, .int p_6.2.2, .int p_6.2.2])), (s0, .inl (k.2.1, 60, .inl sg))] := hD
          refine lv_iload_n hx hb dX4_readMany_63 rfl (lv_at hl 0 rfl) ?_
          subst hF
          exact fc_iret hx hb hr rfl hlk hS () rfl hP hD (by decide) (by decide) dX4_readMany_64
      · rw [if_pos c_5] at hF
        refine lv_aload_n hx hb dX4_readMany_32 rfl (lv_at hl 0 rfl) ?_
        generalize hp_9 : (F_X4_readNumber ln p_2.2 wd fi tw dy mn vl sg) = p_9 at hF
        rw [letp_eq] at hF
        refine fc_ci (isC := [0, 1]) (cells' := 0) (slots' := 0) (fc_runV (n := 0) (As := []) (rest := []) (isC := [0, 1]) (maxL := 2) ⟨hx, hb, hml, hown, hts⟩ (c_X4_readNumber x s0 ln p_2.2 wd fi tw dy mn vl sg hC H.size) gX4_readMany_X4_readNumber rfl (by decide +kernel) rfl ⟨Nat.le_of_ble_eq_true rfl, Nat.le_of_ble_eq_true rfl⟩ ⟨Nat.le_of_ble_eq_true rfl, Nat.le_of_ble_eq_true rfl⟩ hE hP hD hS hA rfl rfl (va_recv hE.1 hP (ci := 8) (q0 := 0) rfl rfl) hl rfl (Nat.le_of_ble_eq_true rfl) dX4_readMany_33) hP hD hS hA rfl (fun _ => rfl) rfl rfl (fun r_10 _ H locs hr_10 hP hD hS => ?_)
        rw [hp_9] at hr_10 hP hD
        obtain rfl : p_9.1 = r_10 := hr_10.symm
        dsimp only [fs, List.set] at hP hD
        have hP : va_P D vwCl [(x, .inr (8, [.ref s0, .int ln, .int p_9.2.1, .int wd, .int fi, .int tw, .int dy, .int mn, .int p_9.2.2])), (s0, .inl (k.2.1, 60, .inl sg))] H := hP
        have hD : va_D A [(x, .inr (8, [.ref s0, .int ln, .int p_9.2.1, .int wd, .int fi, .int tw, .int dy, .int mn, .int p_9.2.2])), (s0, .inl (k.2.1, 60, .inl sg))] := hD
        refine lv_if_eq (tgt := 53) hx hb dX4_readMany_36 (by decide) (fun c_11 => ?_) (fun c_11 => ?_)
        · rw [if_pos c_11] at hF
          refine lv_iconst (v := 0) hx hb dX4_readMany_53 (by decide) ?_
          refine lv_istore_n (lv' := [(1, .int (0 : Int32)), (0, .ref x)]) hx hb dX4_readMany_54 rfl hl (by decide) rfl (fun ls hl => ?_)
          refine lv_aload_n hx hb dX4_readMany_55 rfl (lv_at hl 1 rfl) ?_
          refine lv_aload_n hx hb dX4_readMany_56 rfl (lv_at hl 1 rfl) ?_
          refine va_get (D := D) (ci := 8) (v := .int p_9.2.2) (C := RX4) (T := TX4) (N := 9) hx hb hts in_X4_readMany_X4 hown hE.1 hP 0 rfl rfl 8 (by decide) (hts _ lk_X4_readMany_37) (fun _ h9 => h9) rfl dX4_readMany_57 ?_
          refine va_put (D := D) (ci := 8) (v := .int p_9.2.2) (ty := .int) (C := RX4) (T := TX4) (N := 9) hx hb hts in_X4_readMany_X4 tyX4 tyX4_ok nmX4 hown hE.1 hP hD hS 0 rfl rfl 7 (by decide) (hts _ lk_X4_readMany_34) (fun _ h9 => h9) rfl (by decide +kernel) rfl rfl (Nat.le_of_ble_eq_true rfl) dX4_readMany_60 (fun H locs hP hD hS => ?_)
          have hP : va_P D vwCl [(x, .inr (8, [.ref s0, .int ln, .int p_9.2.1, .int wd, .int fi, .int tw, .int dy, .int p_9.2.2, .int p_9.2.2])), (s0, .inl (k.2.1, 60, .inl sg))] H := hP
          have hD : va_D A [(x, .inr (8, [.ref s0, .int ln, .int p_9.2.1, .int wd, .int fi, .int tw, .int dy, .int p_9.2.2, .int p_9.2.2])), (s0, .inl (k.2.1, 60, .inl sg))] := hD
          refine lv_iload_n hx hb dX4_readMany_63 rfl (lv_at hl 0 rfl) ?_
          subst hF
          exact fc_iret hx hb hr rfl hlk hS () rfl hP hD (by decide) (by decide) dX4_readMany_64
        · rw [if_neg c_11] at hF
          refine lv_goto (tgt := 49) hx hb dX4_readMany_39 (by decide) ?_
          refine lv_iconst (v := 1) hx hb dX4_readMany_49 (by decide) ?_
          refine lv_goto (tgt := 54) hx hb dX4_readMany_50 (by decide) ?_
          refine lv_istore_n (lv' := [(1, .int (1 : Int32)), (0, .ref x)]) hx hb dX4_readMany_54 rfl hl (by decide) rfl (fun ls hl => ?_)
          refine lv_aload_n hx hb dX4_readMany_55 rfl (lv_at hl 1 rfl) ?_
          refine lv_aload_n hx hb dX4_readMany_56 rfl (lv_at hl 1 rfl) ?_
          refine va_get (D := D) (ci := 8) (v := .int p_9.2.2) (C := RX4) (T := TX4) (N := 9) hx hb hts in_X4_readMany_X4 hown hE.1 hP 0 rfl rfl 8 (by decide) (hts _ lk_X4_readMany_37) (fun _ h9 => h9) rfl dX4_readMany_57 ?_
          refine va_put (D := D) (ci := 8) (v := .int p_9.2.2) (ty := .int) (C := RX4) (T := TX4) (N := 9) hx hb hts in_X4_readMany_X4 tyX4 tyX4_ok nmX4 hown hE.1 hP hD hS 0 rfl rfl 7 (by decide) (hts _ lk_X4_readMany_34) (fun _ h9 => h9) rfl (by decide +kernel) rfl rfl (Nat.le_of_ble_eq_true rfl) dX4_readMany_60 (fun H locs hP hD hS => ?_)
          have hP : va_P D vwCl [(x, .inr (8, [.ref s0, .int ln, .int p_9.2.1, .int wd, .int fi, .int tw, .int dy, .int p_9.2.2, .int p_9.2.2])), (s0, .inl (k.2.1, 60, .inl sg))] H := hP
          have hD : va_D A [(x, .inr (8, [.ref s0, .int ln, .int p_9.2.1, .int wd, .int fi, .int tw, .int dy, .int p_9.2.2, .int p_9.2.2])), (s0, .inl (k.2.1, 60, .inl sg))] := hD
          refine lv_iload_n hx hb dX4_readMany_63 rfl (lv_at hl 0 rfl) ?_
          subst hF
          exact fc_iret hx hb hr rfl hlk hS () rfl hP hD (by decide) (by decide) dX4_readMany_64
  · rw [if_pos c_1] at hF
    refine lv_aload_n hx hb dX4_readMany_8 rfl (lv_at hl 0 rfl) ?_
    refine lv_iconst (v := 1) hx hb dX4_readMany_9 (by decide) ?_
    refine va_put (D := D) (ci := 8) (v := .int (1 : Int32)) (ty := .int) (C := RX4) (T := TX4) (N := 9) hx hb hts in_X4_readMany_X4 tyX4 tyX4_ok nmX4 hown hE.1 hP hD hS 0 rfl rfl 7 (by decide) (hts _ lk_X4_readMany_34) (fun _ h9 => h9) rfl (by decide +kernel) rfl rfl (Nat.le_of_ble_eq_true rfl) dX4_readMany_10 (fun H locs hP hD hS => ?_)
    have hP : va_P D vwCl [(x, .inr (8, [.ref s0, .int ln, .int tp, .int wd, .int fi, .int tw, .int dy, .int (1 : Int32), .int vl])), (s0, .inl (k.2.1, 60, .inl sg))] H := hP
    have hD : va_D A [(x, .inr (8, [.ref s0, .int ln, .int tp, .int wd, .int fi, .int tw, .int dy, .int (1 : Int32), .int vl])), (s0, .inl (k.2.1, 60, .inl sg))] := hD
    refine lv_iconst (v := 1) hx hb dX4_readMany_13 (by decide) ?_
    subst hF
    exact fc_iret hx hb hr rfl hlk hS () rfl hP hD (by decide) (by decide) dX4_readMany_14

abbrev rm_X4_sameSigns : Room := { frames := 4, cells := 0, slots := 0, locals := 85 }
theorem in_X4_sameSigns_X4 : ∀ w ∈ wsX40, w ∈ wsX4_sameSigns := by decide +kernel
theorem lk_X4_sameSigns_19 : (Cond.fieldLink RX4 19 "TheatreSaga$Text" "at" "I") ∈ wsX4_sameSigns := by decide +kernel
def FL_X4_sameSigns_2 (sj : Nat) : Nat → Int32 → Int32 → Int32 → Int32 → Int32 → Int32 → Int32 → Int32 → (Nat → Int32) → Int32 → Int32
  | 0, ln, tp, wd, fi, tw, dy, mn, vl, sg, x2 => 0
  | n + 1, ln, tp, wd, fi, tw, dy, mn, vl, sg, x2 => (if (F_J0_length_8abf5 sj) ≤ x2 then (F_J0_length_8abf5 sj) else (if (F_X4_signAt ln tp wd fi tw dy mn vl sg (tp + x2)) = (F_J0_charAt_5068e_k x2 sj) then (FL_X4_sameSigns_2 sj n ln tp wd fi tw dy mn vl sg (x2 + (1 : Int32))) else x2))
def F_X4_sameSigns (ln : Int32) (tp : Int32) (wd : Int32) (fi : Int32) (tw : Int32) (dy : Int32) (mn : Int32) (vl : Int32) (sg : (Nat → Int32)) (sj : Nat) : Int32 := (FL_X4_sameSigns_2 sj (((F_J0_length_8abf5 sj).toInt - ((0 : Int32) : Int32).toInt).toNat + 1) ln tp wd fi tw dy mn vl sg (0 : Int32))
set_option maxHeartbeats 4000000 in
set_option maxRecDepth 100000 in
theorem lp_X4_sameSigns_2 {p : Program} {l : Launch} {e : Env} {s : State} {m : MethodId} {args : Array Value} {below : List Frame} {meth : Method} {c : Code} {D : va_G} {k : tyK} {A : Nat → Prop} (hx : p.tables.exec = Jvm.exec) (hb : c.code = cX4_sameSigns) (hml : c.maxLocals = 3) (hr : meth.sig.returnType = (some .int)) (hts : ∀ w ∈ wsX4_sameSigns, w.before args s = true) (hown : s.vm.findClass RX4 = some m.cls) (hlk : meth.locks = false) (hA : ∀ q : Nat, s.heap.size ≤ q → A q) (hE : GE D k A s) (x s0 : Nat) (sj : Nat) (hj_sj : sj < 34) :
    ∀ (n : Nat) (ln : Int32) (tp : Int32) (wd : Int32) (fi : Int32) (tw : Int32) (dy : Int32) (mn : Int32) (vl : Int32) (sg : (Nat → Int32)) (x2 : Int32) (RES : Int32), FL_X4_sameSigns_2 sj n ln tp wd fi tw dy mn vl sg x2 = RES → (((F_J0_length_8abf5 sj) : Int32).toInt - (x2 : Int32).toInt).toNat < n → ChOK sg → ¬ x2 < 0 → ∀ (H : Heap) (locs : List Loc), va_P D vwCl [(x, .inr (8, [.ref s0, .int ln, .int tp, .int wd, .int fi, .int tw, .int dy, .int mn, .int vl])), (s0, .inl (k.2.1, 60, .inl sg))] H → va_D A [(x, .inr (8, [.ref s0, .int ln, .int tp, .int wd, .int fi, .int tw, .int dy, .int mn, .int vl])), (s0, .inl (k.2.1, 60, .inl sg))] → va_S A s.heap H locs → ∀ ls : Array Slot, lv_has ls 3 [(0, .ref x), (1, .ref (kS k sj)), (2, .int x2)] → W p l e rm_X4_sameSigns s m args below meth c H locs 0 0 (MQ below (va_Qi (fun r (_ : Unit) => r = RES) (Bt D (fun _ => [(x, .inr (8, [.ref s0, .int ln, .int tp, .int wd, .int fi, .int tw, .int dy, .int mn, .int vl])), (s0, .inl (k.2.1, 60, .inl sg))]) A) A) args s rm_X4_sameSigns.cells rm_X4_sameSigns.slots A) (F0 m 2 ls []) := by
  intro n
  induction n with
  | zero =>
    intro ln tp wd fi tw dy mn vl sg x2 RES hF hm hC hi H locs hP hD hS ls hl
    exact absurd hm (Nat.not_lt_zero _)
  | succ n ih =>
    intro ln tp wd fi tw dy mn vl sg x2 RES hF hm hC hi H locs hP hD hS ls hl
    rw [FL_X4_sameSigns_2] at hF
    refine lv_iload_n hx hb dX4_sameSigns_2 rfl (lv_at hl 2 rfl) ?_
    refine lv_aload_n hx hb dX4_sameSigns_3 rfl (lv_at hl 1 rfl) ?_
    refine fc_ci (isC := []) (cells' := 0) (slots' := 0) (fc_runV (n := 0) (As := []) (rest := [.int x2]) (isC := []) (maxL := 1) ⟨hx, hb, hml, hown, hts⟩ (c_J0_length_8abf5 sj hj_sj H.size) gX4_sameSigns_J0_length_8abf5 rfl (by decide +kernel) rfl ⟨Nat.le_of_ble_eq_true rfl, Nat.le_of_ble_eq_true rfl⟩ ⟨Nat.le_of_ble_eq_true rfl, Nat.le_of_ble_eq_true rfl⟩ hE hP hD hS hA rfl rfl (GE.rcv hE hj_sj hS) hl rfl (Nat.le_of_ble_eq_true rfl) dX4_sameSigns_4) hP hD hS hA rfl (fun _ => rfl) rfl rfl (fun r_1 _ H locs hr_1 hP hD hS => ?_)
    obtain rfl : (F_J0_length_8abf5 sj) = r_1 := hr_1.symm
    dsimp only [fs, List.set] at hP hD
    have hP : va_P D vwCl [(x, .inr (8, [.ref s0, .int ln, .int tp, .int wd, .int fi, .int tw, .int dy, .int mn, .int vl])), (s0, .inl (k.2.1, 60, .inl sg))] H := hP
    have hD : va_D A [(x, .inr (8, [.ref s0, .int ln, .int tp, .int wd, .int fi, .int tw, .int dy, .int mn, .int vl])), (s0, .inl (k.2.1, 60, .inl sg))] := hD
    refine lv_icmp_ge (tgt := 36) hx hb dX4_sameSigns_7 (by decide) (fun c_2 => ?_) (fun c_2 => ?_)
    · rw [if_pos c_2] at hF
      refine lv_aload_n hx hb dX4_sameSigns_36 rfl (lv_at hl 1 rfl) ?_
      refine fc_ci (isC := []) (cells' := 0) (slots' := 0) (fc_runV (n := 0) (As := []) (rest := []) (isC := []) (maxL := 1) ⟨hx, hb, hml, hown, hts⟩ (c_J0_length_8abf5 sj hj_sj H.size) gX4_sameSigns_J0_length_8abf5 rfl (by decide +kernel) rfl ⟨Nat.le_of_ble_eq_true rfl, Nat.le_of_ble_eq_true rfl⟩ ⟨Nat.le_of_ble_eq_true rfl, Nat.le_of_ble_eq_true rfl⟩ hE hP hD hS hA rfl rfl (GE.rcv hE hj_sj hS) hl rfl (Nat.le_of_ble_eq_true rfl) dX4_sameSigns_37) hP hD hS hA rfl (fun _ => rfl) rfl rfl (fun r_3 _ H locs hr_3 hP hD hS => ?_)
      obtain rfl : (F_J0_length_8abf5 sj) = r_3 := hr_3.symm
      dsimp only [fs, List.set] at hP hD
      have hP : va_P D vwCl [(x, .inr (8, [.ref s0, .int ln, .int tp, .int wd, .int fi, .int tw, .int dy, .int mn, .int vl])), (s0, .inl (k.2.1, 60, .inl sg))] H := hP
      have hD : va_D A [(x, .inr (8, [.ref s0, .int ln, .int tp, .int wd, .int fi, .int tw, .int dy, .int mn, .int vl])), (s0, .inl (k.2.1, 60, .inl sg))] := hD
      subst hF
      exact fc_iret hx hb hr rfl hlk hS () rfl hP hD (by decide) (by decide) dX4_sameSigns_40
    · rw [if_neg c_2] at hF
      refine lv_aload_n hx hb dX4_sameSigns_10 rfl (lv_at hl 0 rfl) ?_
      refine lv_aload_n hx hb dX4_sameSigns_11 rfl (lv_at hl 0 rfl) ?_
      refine va_get (D := D) (ci := 8) (v := .int tp) (C := RX4) (T := TX4) (N := 9) hx hb hts in_X4_sameSigns_X4 hown hE.1 hP 0 rfl rfl 2 (by decide) (hts _ lk_X4_sameSigns_19) (fun _ h9 => h9) rfl dX4_sameSigns_12 ?_
      refine lv_iload_n hx hb dX4_sameSigns_15 rfl (lv_at hl 2 rfl) ?_
      refine lv_iadd hx hb dX4_sameSigns_16 ?_
      refine fc_ci (isC := [0, 1]) (cells' := 0) (slots' := 0) (fc_runV (n := 1) (As := [.int (tp + x2)]) (rest := []) (isC := [0, 1]) (maxL := 2) ⟨hx, hb, hml, hown, hts⟩ (c_X4_signAt x s0 ln tp wd fi tw dy mn vl sg (tp + x2) hC H.size) gX4_sameSigns_X4_signAt rfl (by decide +kernel) rfl ⟨Nat.le_of_ble_eq_true rfl, Nat.le_of_ble_eq_true rfl⟩ ⟨Nat.le_of_ble_eq_true rfl, Nat.le_of_ble_eq_true rfl⟩ hE hP hD hS hA rfl rfl (va_recv hE.1 hP (ci := 8) (q0 := 0) rfl rfl) hl rfl (Nat.le_of_ble_eq_true rfl) dX4_sameSigns_17) hP hD hS hA rfl (fun _ => rfl) rfl rfl (fun r_4 _ H locs hr_4 hP hD hS => ?_)
      obtain rfl : (F_X4_signAt ln tp wd fi tw dy mn vl sg (tp + x2)) = r_4 := hr_4.symm
      dsimp only [fs, List.set] at hP hD
      have hP : va_P D vwCl [(x, .inr (8, [.ref s0, .int ln, .int tp, .int wd, .int fi, .int tw, .int dy, .int mn, .int vl])), (s0, .inl (k.2.1, 60, .inl sg))] H := hP
      have hD : va_D A [(x, .inr (8, [.ref s0, .int ln, .int tp, .int wd, .int fi, .int tw, .int dy, .int mn, .int vl])), (s0, .inl (k.2.1, 60, .inl sg))] := hD
      refine lv_aload_n hx hb dX4_sameSigns_20 rfl (lv_at hl 1 rfl) ?_
      refine lv_iload_n hx hb dX4_sameSigns_21 rfl (lv_at hl 2 rfl) ?_
      refine fc_ci (isC := []) (cells' := 0) (slots' := 0) (fc_runV (n := 1) (As := [.int x2]) (rest := [.int (F_X4_signAt ln tp wd fi tw dy mn vl sg (tp + x2))]) (isC := []) (maxL := 2) ⟨hx, hb, hml, hown, hts⟩ (c_J0_charAt_5068e_k x2 sj hj_sj hi (sl_lt hj_sj c_2) H.size) gX4_sameSigns_J0_charAt_5068e rfl (by decide +kernel) rfl ⟨Nat.le_of_ble_eq_true rfl, Nat.le_of_ble_eq_true rfl⟩ ⟨Nat.le_of_ble_eq_true rfl, Nat.le_of_ble_eq_true rfl⟩ hE hP hD hS hA rfl rfl (GE.rcv hE hj_sj hS) hl rfl (Nat.le_of_ble_eq_true rfl) dX4_sameSigns_22) hP hD hS hA rfl (fun _ => rfl) rfl rfl (fun r_5 _ H locs hr_5 hP hD hS => ?_)
      obtain rfl : (F_J0_charAt_5068e_k x2 sj) = r_5 := hr_5.symm
      dsimp only [fs, List.set] at hP hD
      have hP : va_P D vwCl [(x, .inr (8, [.ref s0, .int ln, .int tp, .int wd, .int fi, .int tw, .int dy, .int mn, .int vl])), (s0, .inl (k.2.1, 60, .inl sg))] H := hP
      have hD : va_D A [(x, .inr (8, [.ref s0, .int ln, .int tp, .int wd, .int fi, .int tw, .int dy, .int mn, .int vl])), (s0, .inl (k.2.1, 60, .inl sg))] := hD
      refine lv_icmp_eq (tgt := 30) hx hb dX4_sameSigns_25 (by decide) (fun c_6 => ?_) (fun c_6 => ?_)
      · rw [if_pos c_6] at hF
        refine lv_iinc (v := (x2 + (1 : Int32))) (lv' := [(2, .int (x2 + (1 : Int32))), (0, .ref x), (1, .ref (kS k sj))]) hx hb dX4_sameSigns_30 hl (k := 2) rfl rfl (by decide) rfl (fun ls hl => ?_)
        refine lv_goto (tgt := 2) hx hb dX4_sameSigns_33 (by decide) ?_
        exact ih ln tp wd fi tw dy mn vl sg (x2 + (1 : Int32)) RES hF (lp_step c_2 hm) hC (nn_step c_2 hi) H locs hP hD hS ls (lv_sub hl [1, 2, 0] rfl)
      · rw [if_neg c_6] at hF
        refine lv_iload_n hx hb dX4_sameSigns_28 rfl (lv_at hl 2 rfl) ?_
        subst hF
        exact fc_iret hx hb hr rfl hlk hS () rfl hP hD (by decide) (by decide) dX4_sameSigns_29
set_option maxHeartbeats 4000000 in
set_option maxRecDepth 100000 in
theorem c_X4_sameSigns {l : Launch} {D : va_G} {k : tyK} (x s0 : Nat) (ln : Int32) (tp : Int32) (wd : Int32) (fi : Int32) (tw : Int32) (dy : Int32) (mn : Int32) (vl : Int32) (sg : (Nat → Int32)) (sj : Nat) (hC : ChOK sg) (hj_sj : sj < 34) : FCi l yX4_sameSigns wsX4_sameSigns rm_X4_sameSigns D k [.ref x, .ref (kS k sj)] [(x, .inr (8, [.ref s0, .int ln, .int tp, .int wd, .int fi, .int tw, .int dy, .int mn, .int vl])), (s0, .inl (k.2.1, 60, .inl sg))] (fun r (_ : Unit) => r = (F_X4_sameSigns ln tp wd fi tw dy mn vl sg sj)) (fun _ => [(x, .inr (8, [.ref s0, .int ln, .int tp, .int wd, .int fi, .int tw, .int dy, .int mn, .int vl])), (s0, .inl (k.2.1, 60, .inl sg))]) := by
  refine fc_start (cc := cX4_sameSigns) (maxL := 3) (ret := (some .int)) (own := RX4) (Qc := fun A => va_Qi (fun r (_ : Unit) => r = (F_X4_sameSigns ln tp wd fi tw dy mn vl sg sj)) (Bt D (fun _ => [(x, .inr (8, [.ref s0, .int ln, .int tp, .int wd, .int fi, .int tw, .int dy, .int mn, .int vl])), (s0, .inl (k.2.1, 60, .inl sg))]) A) A) (by decide) rfl rfl (Nat.le_of_ble_eq_true rfl) ?_
  intro p e s m below meth c A H hx hb hml hr hts hown hlk hname hA hP hE hD hS ls hl
  obtain ⟨RES, hF⟩ : ∃ z, (F_X4_sameSigns ln tp wd fi tw dy mn vl sg sj) = z := ⟨_, rfl⟩
  rw [hF]
  unfold F_X4_sameSigns at hF
  have hl : lv_has ls 3 [(0, .ref x), (1, .ref (kS k sj))] := hl
  obtain ⟨locs, hlocs⟩ : ∃ z : List Loc, z = [] := ⟨_, rfl⟩
  rw [← hlocs] at hS ⊢
  refine lv_iconst (v := 0) hx hb dX4_sameSigns_0 (by decide) ?_
  refine lv_istore_n (lv' := [(2, .int (0 : Int32)), (0, .ref x), (1, .ref (kS k sj))]) hx hb dX4_sameSigns_1 rfl hl (by decide) rfl (fun ls hl => ?_)
  exact lp_X4_sameSigns_2 hx hb hml hr hts hown hlk hA hE x s0 sj hj_sj (((F_J0_length_8abf5 sj).toInt - ((0 : Int32) : Int32).toInt).toNat + 1) ln tp wd fi tw dy mn vl sg (0 : Int32) RES hF (Nat.lt_succ_self _) hC (by decide) H locs hP hD hS ls (lv_sub hl [1, 2, 0] rfl)

abbrev rm_X4_readWord : Room := { frames := 5, cells := 0, slots := 0, locals := 107 }
theorem in_X4_readWord_X4 : ∀ w ∈ wsX40, w ∈ wsX4_readWord := by decide +kernel
theorem lk_X4_readWord_19 : (Cond.fieldLink RX4 19 "TheatreSaga$Text" "at" "I") ∈ wsX4_readWord := by decide +kernel
theorem lk_X4_readWord_22 : (Cond.fieldLink RX4 22 "TheatreSaga$Text" "word" "I") ∈ wsX4_readWord := by decide +kernel
def FL_X4_readWord_4 : Nat → Int32 → Int32 → Int32 → Int32 → Int32 → Int32 → Int32 → Int32 → (Nat → Int32) → Int32 → Int32 → Int32 × Int32 × Int32
  | 0, ln, tp, wd, fi, tw, dy, mn, vl, sg, x1, x2 => (0, tp, wd)
  | n + 1, ln, tp, wd, fi, tw, dy, mn, vl, sg, x1, x2 => (if (9 : Int32) ≤ x2 then ((0 : Int32), (tp + x1), wd) else (if (F_X4_sameSigns ln tp wd fi tw dy mn vl sg (F_X6_wordOf x2)) = (F_J0_length_8abf5 (F_X6_wordOf x2)) then ((1 : Int32), (tp + (F_X4_sameSigns ln tp wd fi tw dy mn vl sg (F_X6_wordOf x2))), x2) else (FL_X4_readWord_4 n ln tp wd fi tw dy mn vl sg (if x1 < (F_X4_sameSigns ln tp wd fi tw dy mn vl sg (F_X6_wordOf x2)) then (F_X4_sameSigns ln tp wd fi tw dy mn vl sg (F_X6_wordOf x2)) else x1) (x2 + (1 : Int32)))))
def F_X4_readWord (ln : Int32) (tp : Int32) (wd : Int32) (fi : Int32) (tw : Int32) (dy : Int32) (mn : Int32) (vl : Int32) (sg : (Nat → Int32))  : Int32 × Int32 × Int32 := (FL_X4_readWord_4 (10) ln tp wd fi tw dy mn vl sg (0 : Int32) (0 : Int32))
set_option maxHeartbeats 4000000 in
set_option maxRecDepth 100000 in
theorem lp_X4_readWord_4 {p : Program} {l : Launch} {e : Env} {s : State} {m : MethodId} {args : Array Value} {below : List Frame} {meth : Method} {c : Code} {D : va_G} {k : tyK} {A : Nat → Prop} (hx : p.tables.exec = Jvm.exec) (hb : c.code = cX4_readWord) (hml : c.maxLocals = 4) (hr : meth.sig.returnType = (some .boolean)) (hts : ∀ w ∈ wsX4_readWord, w.before args s = true) (hown : s.vm.findClass RX4 = some m.cls) (hlk : meth.locks = false) (hA : ∀ q : Nat, s.heap.size ≤ q → A q) (hE : GE D k A s) (x s0 : Nat) :
    ∀ (n : Nat) (ln : Int32) (tp : Int32) (wd : Int32) (fi : Int32) (tw : Int32) (dy : Int32) (mn : Int32) (vl : Int32) (sg : (Nat → Int32)) (x1 : Int32) (x2 : Int32) (RES : Int32 × Int32 × Int32), FL_X4_readWord_4 n ln tp wd fi tw dy mn vl sg x1 x2 = RES → ((9 : Int32).toInt - (x2 : Int32).toInt).toNat < n → ChOK sg → ∀ (H : Heap) (locs : List Loc), va_P D vwCl [(x, .inr (8, [.ref s0, .int ln, .int tp, .int wd, .int fi, .int tw, .int dy, .int mn, .int vl])), (s0, .inl (k.2.1, 60, .inl sg))] H → va_D A [(x, .inr (8, [.ref s0, .int ln, .int tp, .int wd, .int fi, .int tw, .int dy, .int mn, .int vl])), (s0, .inl (k.2.1, 60, .inl sg))] → va_S A s.heap H locs → ∀ ls : Array Slot, lv_has ls 4 [(0, .ref x), (1, .int x1), (2, .int x2)] → W p l e rm_X4_readWord s m args below meth c H locs 0 0 (MQ below (va_Qi (fun r (_ : Unit) => r = RES.1) (Bt D (fun _ => [(x, .inr (8, [.ref s0, .int ln, .int RES.2.1, .int RES.2.2, .int fi, .int tw, .int dy, .int mn, .int vl])), (s0, .inl (k.2.1, 60, .inl sg))]) A) A) args s rm_X4_readWord.cells rm_X4_readWord.slots A) (F0 m 4 ls []) := by
  intro n
  induction n with
  | zero =>
    intro ln tp wd fi tw dy mn vl sg x1 x2 RES hF hm hC H locs hP hD hS ls hl
    exact absurd hm (Nat.not_lt_zero _)
  | succ n ih =>
    intro ln tp wd fi tw dy mn vl sg x1 x2 RES hF hm hC H locs hP hD hS ls hl
    rw [FL_X4_readWord_4] at hF
    refine lv_iload_n hx hb dX4_readWord_4 rfl (lv_at hl 2 rfl) ?_
    refine lv_bipush (v := 9) hx hb dX4_readWord_5 (by decide) ?_
    refine lv_icmp_ge (tgt := 59) hx hb dX4_readWord_7 (by decide) (fun c_1 => ?_) (fun c_1 => ?_)
    · rw [if_pos c_1] at hF
      refine lv_aload_n hx hb dX4_readWord_59 rfl (lv_at hl 0 rfl) ?_
      refine lv_dup hx hb dX4_readWord_60 rfl ?_
      refine va_get (D := D) (ci := 8) (v := .int tp) (C := RX4) (T := TX4) (N := 9) hx hb hts in_X4_readWord_X4 hown hE.1 hP 0 rfl rfl 2 (by decide) (hts _ lk_X4_readWord_19) (fun _ h9 => h9) rfl dX4_readWord_61 ?_
      refine lv_iload_n hx hb dX4_readWord_64 rfl (lv_at hl 1 rfl) ?_
      refine lv_iadd hx hb dX4_readWord_65 ?_
      refine va_put (D := D) (ci := 8) (v := .int (tp + x1)) (ty := .int) (C := RX4) (T := TX4) (N := 9) hx hb hts in_X4_readWord_X4 tyX4 tyX4_ok nmX4 hown hE.1 hP hD hS 0 rfl rfl 2 (by decide) (hts _ lk_X4_readWord_19) (fun _ h9 => h9) rfl (by decide +kernel) rfl rfl (Nat.le_of_ble_eq_true rfl) dX4_readWord_66 (fun H locs hP hD hS => ?_)
      have hP : va_P D vwCl [(x, .inr (8, [.ref s0, .int ln, .int (tp + x1), .int wd, .int fi, .int tw, .int dy, .int mn, .int vl])), (s0, .inl (k.2.1, 60, .inl sg))] H := hP
      have hD : va_D A [(x, .inr (8, [.ref s0, .int ln, .int (tp + x1), .int wd, .int fi, .int tw, .int dy, .int mn, .int vl])), (s0, .inl (k.2.1, 60, .inl sg))] := hD
      refine lv_iconst (v := 0) hx hb dX4_readWord_69 (by decide) ?_
      subst hF
      exact fc_iret hx hb hr rfl hlk hS () rfl hP hD (by decide) (by decide) dX4_readWord_70
    · rw [if_neg c_1] at hF
      refine lv_aload_n hx hb dX4_readWord_10 rfl (lv_at hl 0 rfl) ?_
      refine lv_iload_n hx hb dX4_readWord_11 rfl (lv_at hl 2 rfl) ?_
      refine fc_cr (isC := []) (cells' := 0) (slots' := 0) (fc_runSN (n := 1) (As := [.int x2]) (rest := [.ref x]) (isC := []) (maxL := 1) ⟨hx, hb, hml, hown, hts⟩ (c_X6_wordOf x2 H.size) gX4_readWord_X6_wordOf_n74 (by decide +kernel) (by decide +kernel) (by decide +kernel) rfl (by decide +kernel) rfl ⟨Nat.le_of_ble_eq_true rfl, Nat.le_of_ble_eq_true rfl⟩ ⟨Nat.le_of_ble_eq_true rfl, Nat.le_of_ble_eq_true rfl⟩ hE hP hD hS hA rfl rfl hl rfl (Nat.le_of_ble_eq_true rfl) dX4_readWord_12) hP hD hS hA rfl rfl rfl rfl (fun H locs hP hD hS => ?_)
      dsimp only [fs, List.set] at hP hD
      have hP : va_P D vwCl [(x, .inr (8, [.ref s0, .int ln, .int tp, .int wd, .int fi, .int tw, .int dy, .int mn, .int vl])), (s0, .inl (k.2.1, 60, .inl sg))] H := hP
      have hD : va_D A [(x, .inr (8, [.ref s0, .int ln, .int tp, .int wd, .int fi, .int tw, .int dy, .int mn, .int vl])), (s0, .inl (k.2.1, 60, .inl sg))] := hD
      refine fc_ci (isC := [0, 1]) (cells' := 0) (slots' := 0) (fc_runV (n := 1) (As := [.ref (kS k (F_X6_wordOf x2))]) (rest := []) (isC := [0, 1]) (maxL := 3) ⟨hx, hb, hml, hown, hts⟩ (c_X4_sameSigns x s0 ln tp wd fi tw dy mn vl sg (F_X6_wordOf x2) hC (wordOf_lt _) H.size) gX4_readWord_X4_sameSigns rfl (by decide +kernel) rfl ⟨Nat.le_of_ble_eq_true rfl, Nat.le_of_ble_eq_true rfl⟩ ⟨Nat.le_of_ble_eq_true rfl, Nat.le_of_ble_eq_true rfl⟩ hE hP hD hS hA rfl rfl (va_recv hE.1 hP (ci := 8) (q0 := 0) rfl rfl) hl rfl (Nat.le_of_ble_eq_true rfl) dX4_readWord_15) hP hD hS hA rfl (fun _ => rfl) rfl rfl (fun r_2 _ H locs hr_2 hP hD hS => ?_)
      obtain rfl : (F_X4_sameSigns ln tp wd fi tw dy mn vl sg (F_X6_wordOf x2)) = r_2 := hr_2.symm
      dsimp only [fs, List.set] at hP hD
      have hP : va_P D vwCl [(x, .inr (8, [.ref s0, .int ln, .int tp, .int wd, .int fi, .int tw, .int dy, .int mn, .int vl])), (s0, .inl (k.2.1, 60, .inl sg))] H := hP
      have hD : va_D A [(x, .inr (8, [.ref s0, .int ln, .int tp, .int wd, .int fi, .int tw, .int dy, .int mn, .int vl])), (s0, .inl (k.2.1, 60, .inl sg))] := hD
      refine lv_istore_n (lv' := [(3, .int (F_X4_sameSigns ln tp wd fi tw dy mn vl sg (F_X6_wordOf x2))), (0, .ref x), (1, .int x1), (2, .int x2)]) hx hb dX4_readWord_18 rfl hl (by decide) rfl (fun ls hl => ?_)
      refine lv_iload_n hx hb dX4_readWord_19 rfl (lv_at hl 0 rfl) ?_
      refine lv_iload_n hx hb dX4_readWord_20 rfl (lv_at hl 3 rfl) ?_
      refine fc_cr (isC := []) (cells' := 0) (slots' := 0) (fc_runSN (n := 1) (As := [.int x2]) (rest := [.int (F_X4_sameSigns ln tp wd fi tw dy mn vl sg (F_X6_wordOf x2))]) (isC := []) (maxL := 1) ⟨hx, hb, hml, hown, hts⟩ (c_X6_wordOf x2 H.size) gX4_readWord_X6_wordOf_n74 (by decide +kernel) (by decide +kernel) (by decide +kernel) rfl (by decide +kernel) rfl ⟨Nat.le_of_ble_eq_true rfl, Nat.le_of_ble_eq_true rfl⟩ ⟨Nat.le_of_ble_eq_true rfl, Nat.le_of_ble_eq_true rfl⟩ hE hP hD hS hA rfl rfl hl rfl (Nat.le_of_ble_eq_true rfl) dX4_readWord_21) hP hD hS hA rfl rfl rfl rfl (fun H locs hP hD hS => ?_)
      dsimp only [fs, List.set] at hP hD
      have hP : va_P D vwCl [(x, .inr (8, [.ref s0, .int ln, .int tp, .int wd, .int fi, .int tw, .int dy, .int mn, .int vl])), (s0, .inl (k.2.1, 60, .inl sg))] H := hP
      have hD : va_D A [(x, .inr (8, [.ref s0, .int ln, .int tp, .int wd, .int fi, .int tw, .int dy, .int mn, .int vl])), (s0, .inl (k.2.1, 60, .inl sg))] := hD
      refine fc_ci (isC := []) (cells' := 0) (slots' := 0) (fc_runV (n := 0) (As := []) (rest := [.int (F_X4_sameSigns ln tp wd fi tw dy mn vl sg (F_X6_wordOf x2))]) (isC := []) (maxL := 1) ⟨hx, hb, hml, hown, hts⟩ (c_J0_length_8abf5 (F_X6_wordOf x2) (wordOf_lt _) H.size) gX4_readWord_J0_length_8abf5 rfl (by decide +kernel) rfl ⟨Nat.le_of_ble_eq_true rfl, Nat.le_of_ble_eq_true rfl⟩ ⟨Nat.le_of_ble_eq_true rfl, Nat.le_of_ble_eq_true rfl⟩ hE hP hD hS hA rfl rfl (GE.rcv hE (wordOf_lt _) hS) hl rfl (Nat.le_of_ble_eq_true rfl) dX4_readWord_24) hP hD hS hA rfl (fun _ => rfl) rfl rfl (fun r_3 _ H locs hr_3 hP hD hS => ?_)
      obtain rfl : (F_J0_length_8abf5 (F_X6_wordOf x2)) = r_3 := hr_3.symm
      dsimp only [fs, List.set] at hP hD
      have hP : va_P D vwCl [(x, .inr (8, [.ref s0, .int ln, .int tp, .int wd, .int fi, .int tw, .int dy, .int mn, .int vl])), (s0, .inl (k.2.1, 60, .inl sg))] H := hP
      have hD : va_D A [(x, .inr (8, [.ref s0, .int ln, .int tp, .int wd, .int fi, .int tw, .int dy, .int mn, .int vl])), (s0, .inl (k.2.1, 60, .inl sg))] := hD
      refine lv_icmp_ne (tgt := 47) hx hb dX4_readWord_27 (by decide) (fun c_4 => ?_) (fun c_4 => ?_)
      · rw [if_neg c_4] at hF
        refine lv_iload_n hx hb dX4_readWord_47 rfl (lv_at hl 2 rfl) ?_
        refine lv_iload_n hx hb dX4_readWord_48 rfl (lv_at hl 0 rfl) ?_
        refine va_mmax hx hb (hml.trans hl.1.symm) hown (hts (.methodLink RX4 87 Lib.Math.max.name) (by decide +kernel)) (hts (.static Lib.Math.max.name) (by decide +kernel)) (hts (.initialized "java/lang/Math") (by decide +kernel)) (hts (.code Lib.Math.max.name Lib.Math.max.code 2 (some .int)) (by decide +kernel)) (by decide) (Nat.le_of_ble_eq_true rfl) (Nat.zero_le _) (Nat.zero_le _) dX4_readWord_49 ?_
        refine lv_istore_n (lv' := [(1, .int (if x1 < (F_X4_sameSigns ln tp wd fi tw dy mn vl sg (F_X6_wordOf x2)) then (F_X4_sameSigns ln tp wd fi tw dy mn vl sg (F_X6_wordOf x2)) else x1)), (3, .int (F_X4_sameSigns ln tp wd fi tw dy mn vl sg (F_X6_wordOf x2))), (0, .ref x), (2, .int x2)]) hx hb dX4_readWord_52 rfl hl (by decide) rfl (fun ls hl => ?_)
        refine lv_iinc (v := (x2 + (1 : Int32))) (lv' := [(2, .int (x2 + (1 : Int32))), (1, .int (if x1 < (F_X4_sameSigns ln tp wd fi tw dy mn vl sg (F_X6_wordOf x2)) then (F_X4_sameSigns ln tp wd fi tw dy mn vl sg (F_X6_wordOf x2)) else x1)), (3, .int (F_X4_sameSigns ln tp wd fi tw dy mn vl sg (F_X6_wordOf x2))), (0, .ref x)]) hx hb dX4_readWord_53 hl (k := 3) rfl rfl (by decide) rfl (fun ls hl => ?_)
        refine lv_goto (tgt := 4) hx hb dX4_readWord_56 (by decide) ?_
        exact ih ln tp wd fi tw dy mn vl sg (if x1 < (F_X4_sameSigns ln tp wd fi tw dy mn vl sg (F_X6_wordOf x2)) then (F_X4_sameSigns ln tp wd fi tw dy mn vl sg (F_X6_wordOf x2)) else x1) (x2 + (1 : Int32)) RES hF (lp_step c_1 hm) hC H locs hP hD hS ls (lv_sub hl [3, 1, 0] rfl)
      · rw [if_pos c_4] at hF
        refine lv_aload_n hx hb dX4_readWord_30 rfl (lv_at hl 1 rfl) ?_
        refine lv_iload_n hx hb dX4_readWord_31 rfl (lv_at hl 3 rfl) ?_
        refine va_put (D := D) (ci := 8) (v := .int x2) (ty := .int) (C := RX4) (T := TX4) (N := 9) hx hb hts in_X4_readWord_X4 tyX4 tyX4_ok nmX4 hown hE.1 hP hD hS 0 rfl rfl 3 (by decide) (hts _ lk_X4_readWord_22) (fun _ h9 => h9) rfl (by decide +kernel) rfl rfl (Nat.le_of_ble_eq_true rfl) dX4_readWord_32 (fun H locs hP hD hS => ?_)
        have hP : va_P D vwCl [(x, .inr (8, [.ref s0, .int ln, .int tp, .int x2, .int fi, .int tw, .int dy, .int mn, .int vl])), (s0, .inl (k.2.1, 60, .inl sg))] H := hP
        have hD : va_D A [(x, .inr (8, [.ref s0, .int ln, .int tp, .int x2, .int fi, .int tw, .int dy, .int mn, .int vl])), (s0, .inl (k.2.1, 60, .inl sg))] := hD
        refine lv_aload_n hx hb dX4_readWord_35 rfl (lv_at hl 1 rfl) ?_
        refine lv_dup hx hb dX4_readWord_36 rfl ?_
        refine va_get (D := D) (ci := 8) (v := .int tp) (C := RX4) (T := TX4) (N := 9) hx hb hts in_X4_readWord_X4 hown hE.1 hP 0 rfl rfl 2 (by decide) (hts _ lk_X4_readWord_19) (fun _ h9 => h9) rfl dX4_readWord_37 ?_
        refine lv_iload_n hx hb dX4_readWord_40 rfl (lv_at hl 0 rfl) ?_
        refine lv_iadd hx hb dX4_readWord_41 ?_
        refine va_put (D := D) (ci := 8) (v := .int (tp + (F_X4_sameSigns ln tp wd fi tw dy mn vl sg (F_X6_wordOf x2)))) (ty := .int) (C := RX4) (T := TX4) (N := 9) hx hb hts in_X4_readWord_X4 tyX4 tyX4_ok nmX4 hown hE.1 hP hD hS 0 rfl rfl 2 (by decide) (hts _ lk_X4_readWord_19) (fun _ h9 => h9) rfl (by decide +kernel) rfl rfl (Nat.le_of_ble_eq_true rfl) dX4_readWord_42 (fun H locs hP hD hS => ?_)
        have hP : va_P D vwCl [(x, .inr (8, [.ref s0, .int ln, .int (tp + (F_X4_sameSigns ln tp wd fi tw dy mn vl sg (F_X6_wordOf x2))), .int x2, .int fi, .int tw, .int dy, .int mn, .int vl])), (s0, .inl (k.2.1, 60, .inl sg))] H := hP
        have hD : va_D A [(x, .inr (8, [.ref s0, .int ln, .int (tp + (F_X4_sameSigns ln tp wd fi tw dy mn vl sg (F_X6_wordOf x2))), .int x2, .int fi, .int tw, .int dy, .int mn, .int vl])), (s0, .inl (k.2.1, 60, .inl sg))] := hD
        refine lv_iconst (v := 1) hx hb dX4_readWord_45 (by decide) ?_
        subst hF
        exact fc_iret hx hb hr rfl hlk hS () rfl hP hD (by decide) (by decide) dX4_readWord_46
set_option maxHeartbeats 4000000 in
set_option maxRecDepth 100000 in
theorem c_X4_readWord {l : Launch} {D : va_G} {k : tyK} (x s0 : Nat) (ln : Int32) (tp : Int32) (wd : Int32) (fi : Int32) (tw : Int32) (dy : Int32) (mn : Int32) (vl : Int32) (sg : (Nat → Int32))  (hC : ChOK sg) : FCi l yX4_readWord wsX4_readWord rm_X4_readWord D k [.ref x] [(x, .inr (8, [.ref s0, .int ln, .int tp, .int wd, .int fi, .int tw, .int dy, .int mn, .int vl])), (s0, .inl (k.2.1, 60, .inl sg))] (fun r (_ : Unit) => r = (F_X4_readWord ln tp wd fi tw dy mn vl sg).1) (fun _ => [(x, .inr (8, [.ref s0, .int ln, .int (F_X4_readWord ln tp wd fi tw dy mn vl sg).2.1, .int (F_X4_readWord ln tp wd fi tw dy mn vl sg).2.2, .int fi, .int tw, .int dy, .int mn, .int vl])), (s0, .inl (k.2.1, 60, .inl sg))]) := by
  refine fc_start (cc := cX4_readWord) (maxL := 4) (ret := (some .boolean)) (own := RX4) (Qc := fun A => va_Qi (fun r (_ : Unit) => r = (F_X4_readWord ln tp wd fi tw dy mn vl sg).1) (Bt D (fun _ => [(x, .inr (8, [.ref s0, .int ln, .int (F_X4_readWord ln tp wd fi tw dy mn vl sg).2.1, .int (F_X4_readWord ln tp wd fi tw dy mn vl sg).2.2, .int fi, .int tw, .int dy, .int mn, .int vl])), (s0, .inl (k.2.1, 60, .inl sg))]) A) A) (by decide) rfl rfl (Nat.le_of_ble_eq_true rfl) ?_
  intro p e s m below meth c A H hx hb hml hr hts hown hlk hname hA hP hE hD hS ls hl
  obtain ⟨RES, hF⟩ : ∃ z, (F_X4_readWord ln tp wd fi tw dy mn vl sg) = z := ⟨_, rfl⟩
  rw [hF]
  unfold F_X4_readWord at hF
  have hl : lv_has ls 4 [(0, .ref x)] := hl
  obtain ⟨locs, hlocs⟩ : ∃ z : List Loc, z = [] := ⟨_, rfl⟩
  rw [← hlocs] at hS ⊢
  refine lv_iconst (v := 0) hx hb dX4_readWord_0 (by decide) ?_
  refine lv_istore_n (lv' := [(1, .int (0 : Int32)), (0, .ref x)]) hx hb dX4_readWord_1 rfl hl (by decide) rfl (fun ls hl => ?_)
  refine lv_iconst (v := 0) hx hb dX4_readWord_2 (by decide) ?_
  refine lv_istore_n (lv' := [(2, .int (0 : Int32)), (1, .int (0 : Int32)), (0, .ref x)]) hx hb dX4_readWord_3 rfl hl (by decide) rfl (fun ls hl => ?_)
  exact lp_X4_readWord_4 hx hb hml hr hts hown hlk hA hE x s0 (10) ln tp wd fi tw dy mn vl sg (0 : Int32) (0 : Int32) RES hF (by decide) hC H locs hP hD hS ls (lv_sub hl [2, 1, 0] rfl)

abbrev rm_X4_readCommand : Room := { frames := 6, cells := 0, slots := 0, locals := 130 }
theorem in_X4_readCommand_X4 : ∀ w ∈ wsX40, w ∈ wsX4_readCommand := by decide +kernel
theorem lk_X4_readCommand_22 : (Cond.fieldLink RX4 22 "TheatreSaga$Text" "word" "I") ∈ wsX4_readCommand := by decide +kernel
theorem lk_X4_readCommand_25 : (Cond.fieldLink RX4 25 "TheatreSaga$Text" "first" "I") ∈ wsX4_readCommand := by decide +kernel
theorem lk_X4_readCommand_37 : (Cond.fieldLink RX4 37 "TheatreSaga$Text" "value" "I") ∈ wsX4_readCommand := by decide +kernel
def F_X4_readCommand (ln : Int32) (tp : Int32) (wd : Int32) (fi : Int32) (tw : Int32) (dy : Int32) (mn : Int32) (vl : Int32) (sg : (Nat → Int32))  : Int32 × Int32 × Int32 × Int32 × Int32 × Int32 × Int32 × Int32 := (letp (F_X4_readWord ln tp wd fi tw dy mn vl sg) (fun (p_1 : Int32 × Int32 × Int32) => (if p_1.1 = (0 : Int32) then ((0 : Int32), p_1.2.1, p_1.2.2, fi, tw, dy, mn, vl) else (if p_1.2.2 = (8 : Int32) then (letp (F_X4_readNumber ln p_1.2.1 p_1.2.2 fi tw dy mn vl sg) (fun (p_45 : Int32 × Int32 × Int32) => (if p_1.2.2 = (1 : Int32) then (if p_45.1 = (0 : Int32) then ((0 : Int32), p_45.2.1, p_1.2.2, p_45.2.2, tw, dy, mn, p_45.2.2) else (letp (F_X4_readSign ln p_45.2.1 p_1.2.2 p_45.2.2 tw dy mn p_45.2.2 sg (32 : Int32)) (fun (p_50 : Int32 × Int32) => (if p_50.1 = (0 : Int32) then ((0 : Int32), p_50.2, p_1.2.2, p_45.2.2, tw, dy, mn, p_45.2.2) else (letp (F_X4_readPlace ln p_50.2 p_1.2.2 p_45.2.2 tw dy mn p_45.2.2 sg) (fun (p_53 : Int32 × Int32 × Int32 × Int32 × Int32) => (if p_53.1 = (0 : Int32) then ((0 : Int32), p_53.2.1, p_1.2.2, p_45.2.2, p_53.2.2.1, p_53.2.2.2.1, mn, p_53.2.2.2.2) else (letp (F_X4_readMany ln p_53.2.1 p_1.2.2 p_45.2.2 p_53.2.2.1 p_53.2.2.2.1 mn p_53.2.2.2.2 sg) (fun (p_56 : Int32 × Int32 × Int32 × Int32) => (if p_56.1 = (0 : Int32) then ((0 : Int32), p_56.2.1, p_1.2.2, p_45.2.2, p_53.2.2.1, p_53.2.2.2.1, p_56.2.2.1, p_56.2.2.2) else ((1 : Int32), p_56.2.1, p_1.2.2, p_45.2.2, p_53.2.2.1, p_53.2.2.2.1, p_56.2.2.1, p_56.2.2.2))))))))))) else (if p_1.2.2 = (2 : Int32) then (if p_45.1 = (0 : Int32) then ((0 : Int32), p_45.2.1, p_1.2.2, p_45.2.2, tw, dy, mn, p_45.2.2) else (letp (F_X4_readSign ln p_45.2.1 p_1.2.2 p_45.2.2 tw dy mn p_45.2.2 sg (32 : Int32)) (fun (p_62 : Int32 × Int32) => (if p_62.1 = (0 : Int32) then ((0 : Int32), p_62.2, p_1.2.2, p_45.2.2, tw, dy, mn, p_45.2.2) else (letp (F_X4_readPlace ln p_62.2 p_1.2.2 p_45.2.2 tw dy mn p_45.2.2 sg) (fun (p_65 : Int32 × Int32 × Int32 × Int32 × Int32) => (if p_65.1 = (0 : Int32) then ((0 : Int32), p_65.2.1, p_1.2.2, p_45.2.2, p_65.2.2.1, p_65.2.2.2.1, mn, p_65.2.2.2.2) else (letp (F_X4_readMany ln p_65.2.1 p_1.2.2 p_45.2.2 p_65.2.2.1 p_65.2.2.2.1 mn p_65.2.2.2.2 sg) (fun (p_68 : Int32 × Int32 × Int32 × Int32) => (if p_68.1 = (0 : Int32) then ((0 : Int32), p_68.2.1, p_1.2.2, p_45.2.2, p_65.2.2.1, p_65.2.2.2.1, p_68.2.2.1, p_68.2.2.2) else ((1 : Int32), p_68.2.1, p_1.2.2, p_45.2.2, p_65.2.2.1, p_65.2.2.2.1, p_68.2.2.1, p_68.2.2.2))))))))))) else (if p_1.2.2 = (3 : Int32) then (if p_45.1 = (0 : Int32) then ((0 : Int32), p_45.2.1, p_1.2.2, p_45.2.2, tw, dy, mn, p_45.2.2) else (letp (F_X4_readSign ln p_45.2.1 p_1.2.2 p_45.2.2 tw dy mn p_45.2.2 sg (32 : Int32)) (fun (p_76 : Int32 × Int32) => (if p_76.1 = (0 : Int32) then ((0 : Int32), p_76.2, p_1.2.2, p_45.2.2, tw, dy, mn, p_45.2.2) else (letp (F_X4_readPlace ln p_76.2 p_1.2.2 p_45.2.2 tw dy mn p_45.2.2 sg) (fun (p_79 : Int32 × Int32 × Int32 × Int32 × Int32) => (if p_79.1 = (0 : Int32) then ((0 : Int32), p_79.2.1, p_1.2.2, p_45.2.2, p_79.2.2.1, p_79.2.2.2.1, mn, p_79.2.2.2.2) else (letp (F_X4_readMany ln p_79.2.1 p_1.2.2 p_45.2.2 p_79.2.2.1 p_79.2.2.2.1 mn p_79.2.2.2.2 sg) (fun (p_82 : Int32 × Int32 × Int32 × Int32) => (if p_82.1 = (0 : Int32) then ((0 : Int32), p_82.2.1, p_1.2.2, p_45.2.2, p_79.2.2.1, p_79.2.2.2.1, p_82.2.2.1, p_82.2.2.2) else ((1 : Int32), p_82.2.1, p_1.2.2, p_45.2.2, p_79.2.2.1, p_79.2.2.2.1, p_82.2.2.1, p_82.2.2.2))))))))))) else (if p_45.1 = (0 : Int32) then ((0 : Int32), p_45.2.1, p_1.2.2, p_45.2.2, tw, dy, mn, p_45.2.2) else ((1 : Int32), p_45.2.1, p_1.2.2, p_45.2.2, tw, dy, mn, p_45.2.2))))))) else (letp (F_X4_readDigit ln p_1.2.1 p_1.2.2 fi tw dy mn vl sg) (fun (p_5 : Int32 × Int32 × Int32) => (if p_1.2.2 = (1 : Int32) then (if p_5.1 = (0 : Int32) then ((0 : Int32), p_5.2.1, p_1.2.2, p_5.2.2, tw, dy, mn, p_5.2.2) else (letp (F_X4_readSign ln p_5.2.1 p_1.2.2 p_5.2.2 tw dy mn p_5.2.2 sg (32 : Int32)) (fun (p_10 : Int32 × Int32) => (if p_10.1 = (0 : Int32) then ((0 : Int32), p_10.2, p_1.2.2, p_5.2.2, tw, dy, mn, p_5.2.2) else (letp (F_X4_readPlace ln p_10.2 p_1.2.2 p_5.2.2 tw dy mn p_5.2.2 sg) (fun (p_13 : Int32 × Int32 × Int32 × Int32 × Int32) => (if p_13.1 = (0 : Int32) then ((0 : Int32), p_13.2.1, p_1.2.2, p_5.2.2, p_13.2.2.1, p_13.2.2.2.1, mn, p_13.2.2.2.2) else (letp (F_X4_readMany ln p_13.2.1 p_1.2.2 p_5.2.2 p_13.2.2.1 p_13.2.2.2.1 mn p_13.2.2.2.2 sg) (fun (p_16 : Int32 × Int32 × Int32 × Int32) => (if p_16.1 = (0 : Int32) then ((0 : Int32), p_16.2.1, p_1.2.2, p_5.2.2, p_13.2.2.1, p_13.2.2.2.1, p_16.2.2.1, p_16.2.2.2) else ((1 : Int32), p_16.2.1, p_1.2.2, p_5.2.2, p_13.2.2.1, p_13.2.2.2.1, p_16.2.2.1, p_16.2.2.2))))))))))) else (if p_1.2.2 = (2 : Int32) then (if p_5.1 = (0 : Int32) then ((0 : Int32), p_5.2.1, p_1.2.2, p_5.2.2, tw, dy, mn, p_5.2.2) else (letp (F_X4_readSign ln p_5.2.1 p_1.2.2 p_5.2.2 tw dy mn p_5.2.2 sg (32 : Int32)) (fun (p_22 : Int32 × Int32) => (if p_22.1 = (0 : Int32) then ((0 : Int32), p_22.2, p_1.2.2, p_5.2.2, tw, dy, mn, p_5.2.2) else (letp (F_X4_readPlace ln p_22.2 p_1.2.2 p_5.2.2 tw dy mn p_5.2.2 sg) (fun (p_25 : Int32 × Int32 × Int32 × Int32 × Int32) => (if p_25.1 = (0 : Int32) then ((0 : Int32), p_25.2.1, p_1.2.2, p_5.2.2, p_25.2.2.1, p_25.2.2.2.1, mn, p_25.2.2.2.2) else (letp (F_X4_readMany ln p_25.2.1 p_1.2.2 p_5.2.2 p_25.2.2.1 p_25.2.2.2.1 mn p_25.2.2.2.2 sg) (fun (p_28 : Int32 × Int32 × Int32 × Int32) => (if p_28.1 = (0 : Int32) then ((0 : Int32), p_28.2.1, p_1.2.2, p_5.2.2, p_25.2.2.1, p_25.2.2.2.1, p_28.2.2.1, p_28.2.2.2) else ((1 : Int32), p_28.2.1, p_1.2.2, p_5.2.2, p_25.2.2.1, p_25.2.2.2.1, p_28.2.2.1, p_28.2.2.2))))))))))) else (if p_1.2.2 = (3 : Int32) then (if p_5.1 = (0 : Int32) then ((0 : Int32), p_5.2.1, p_1.2.2, p_5.2.2, tw, dy, mn, p_5.2.2) else (letp (F_X4_readSign ln p_5.2.1 p_1.2.2 p_5.2.2 tw dy mn p_5.2.2 sg (32 : Int32)) (fun (p_36 : Int32 × Int32) => (if p_36.1 = (0 : Int32) then ((0 : Int32), p_36.2, p_1.2.2, p_5.2.2, tw, dy, mn, p_5.2.2) else (letp (F_X4_readPlace ln p_36.2 p_1.2.2 p_5.2.2 tw dy mn p_5.2.2 sg) (fun (p_39 : Int32 × Int32 × Int32 × Int32 × Int32) => (if p_39.1 = (0 : Int32) then ((0 : Int32), p_39.2.1, p_1.2.2, p_5.2.2, p_39.2.2.1, p_39.2.2.2.1, mn, p_39.2.2.2.2) else (letp (F_X4_readMany ln p_39.2.1 p_1.2.2 p_5.2.2 p_39.2.2.1 p_39.2.2.2.1 mn p_39.2.2.2.2 sg) (fun (p_42 : Int32 × Int32 × Int32 × Int32) => (if p_42.1 = (0 : Int32) then ((0 : Int32), p_42.2.1, p_1.2.2, p_5.2.2, p_39.2.2.1, p_39.2.2.2.1, p_42.2.2.1, p_42.2.2.2) else ((1 : Int32), p_42.2.1, p_1.2.2, p_5.2.2, p_39.2.2.1, p_39.2.2.2.1, p_42.2.2.1, p_42.2.2.2))))))))))) else (if p_5.1 = (0 : Int32) then ((0 : Int32), p_5.2.1, p_1.2.2, p_5.2.2, tw, dy, mn, p_5.2.2) else ((1 : Int32), p_5.2.1, p_1.2.2, p_5.2.2, tw, dy, mn, p_5.2.2)))))))))))
set_option maxHeartbeats 4000000 in
set_option maxRecDepth 100000 in
theorem c_X4_readCommand {l : Launch} {D : va_G} {k : tyK} (x s0 : Nat) (ln : Int32) (tp : Int32) (wd : Int32) (fi : Int32) (tw : Int32) (dy : Int32) (mn : Int32) (vl : Int32) (sg : (Nat → Int32))  (hC : ChOK sg) : FCi l yX4_readCommand wsX4_readCommand rm_X4_readCommand D k [.ref x] [(x, .inr (8, [.ref s0, .int ln, .int tp, .int wd, .int fi, .int tw, .int dy, .int mn, .int vl])), (s0, .inl (k.2.1, 60, .inl sg))] (fun r (_ : Unit) => r = (F_X4_readCommand ln tp wd fi tw dy mn vl sg).1) (fun _ => [(x, .inr (8, [.ref s0, .int ln, .int (F_X4_readCommand ln tp wd fi tw dy mn vl sg).2.1, .int (F_X4_readCommand ln tp wd fi tw dy mn vl sg).2.2.1, .int (F_X4_readCommand ln tp wd fi tw dy mn vl sg).2.2.2.1, .int (F_X4_readCommand ln tp wd fi tw dy mn vl sg).2.2.2.2.1, .int (F_X4_readCommand ln tp wd fi tw dy mn vl sg).2.2.2.2.2.1, .int (F_X4_readCommand ln tp wd fi tw dy mn vl sg).2.2.2.2.2.2.1, .int (F_X4_readCommand ln tp wd fi tw dy mn vl sg).2.2.2.2.2.2.2])), (s0, .inl (k.2.1, 60, .inl sg))]) := by
  refine fc_start (cc := cX4_readCommand) (maxL := 3) (ret := (some .boolean)) (own := RX4) (Qc := fun A => va_Qi (fun r (_ : Unit) => r = (F_X4_readCommand ln tp wd fi tw dy mn vl sg).1) (Bt D (fun _ => [(x, .inr (8, [.ref s0, .int ln, .int (F_X4_readCommand ln tp wd fi tw dy mn vl sg).2.1, .int (F_X4_readCommand ln tp wd fi tw dy mn vl sg).2.2.1, .int (F_X4_readCommand ln tp wd fi tw dy mn vl sg).2.2.2.1, .int (F_X4_readCommand ln tp wd fi tw dy mn vl sg).2.2.2.2.1, .int (F_X4_readCommand ln tp wd fi tw dy mn vl sg).2.2.2.2.2.1, .int (F_X4_readCommand ln tp wd fi tw dy mn vl sg).2.2.2.2.2.2.1, .int (F_X4_readCommand ln tp wd fi tw dy mn vl sg).2.2.2.2.2.2.2])), (s0, .inl (k.2.1, 60, .inl sg))]) A) A) (by decide) rfl rfl (Nat.le_of_ble_eq_true rfl) ?_
  intro p e s m below meth c A H hx hb hml hr hts hown hlk hname hA hP hE hD hS ls hl
  obtain ⟨RES, hF⟩ : ∃ z, (F_X4_readCommand ln tp wd fi tw dy mn vl sg) = z := ⟨_, rfl⟩
  rw [hF]
  unfold F_X4_readCommand at hF
  have hl : lv_has ls 3 [(0, .ref x)] := hl
  obtain ⟨locs, hlocs⟩ : ∃ z : List Loc, z = [] := ⟨_, rfl⟩
  rw [← hlocs] at hS ⊢
  refine lv_aload_n hx hb dX4_readCommand_0 rfl (lv_at hl 0 rfl) ?_
  generalize hp_1 : (F_X4_readWord ln tp wd fi tw dy mn vl sg) = p_1 at hF
  rw [letp_eq] at hF
  refine fc_ci (isC := [0, 1]) (cells' := 0) (slots' := 0) (fc_runV (n := 0) (As := []) (rest := []) (isC := [0, 1]) (maxL := 4) ⟨hx, hb, hml, hown, hts⟩ (c_X4_readWord x s0 ln tp wd fi tw dy mn vl sg hC H.size) gX4_readCommand_X4_readWord rfl (by decide +kernel) rfl ⟨Nat.le_of_ble_eq_true rfl, Nat.le_of_ble_eq_true rfl⟩ ⟨Nat.le_of_ble_eq_true rfl, Nat.le_of_ble_eq_true rfl⟩ hE hP hD hS hA rfl rfl (va_recv hE.1 hP (ci := 8) (q0 := 0) rfl rfl) hl rfl (Nat.le_of_ble_eq_true rfl) dX4_readCommand_1) hP hD hS hA rfl (fun _ => rfl) rfl rfl (fun r_2 _ H locs hr_2 hP hD hS => ?_)
  rw [hp_1] at hr_2 hP hD
  obtain rfl : p_1.1 = r_2 := hr_2.symm
  dsimp only [fs, List.set] at hP hD
  have hP : va_P D vwCl [(x, .inr (8, [.ref s0, .int ln, .int p_1.2.1, .int p_1.2.2, .int fi, .int tw, .int dy, .int mn, .int vl])), (s0, .inl (k.2.1, 60, .inl sg))] H := hP
  have hD : va_D A [(x, .inr (8, [.ref s0, .int ln, .int p_1.2.1, .int p_1.2.2, .int fi, .int tw, .int dy, .int mn, .int vl])), (s0, .inl (k.2.1, 60, .inl sg))] := hD
  refine lv_if_ne (tgt := 9) hx hb dX4_readCommand_4 (by decide) (fun c_3 => ?_) (fun c_3 => ?_)
  · rw [if_neg c_3] at hF
    refine lv_aload_n hx hb dX4_readCommand_9 rfl (lv_at hl 0 rfl) ?_
    refine va_get (D := D) (ci := 8) (v := .int p_1.2.2) (C := RX4) (T := TX4) (N := 9) hx hb hts in_X4_readCommand_X4 hown hE.1 hP 0 rfl rfl 3 (by decide) (hts _ lk_X4_readCommand_22) (fun _ h9 => h9) rfl dX4_readCommand_10 ?_
    refine lv_bipush (v := 8) hx hb dX4_readCommand_13 (by decide) ?_
    refine lv_icmp_ne (tgt := 25) hx hb dX4_readCommand_15 (by decide) (fun c_4 => ?_) (fun c_4 => ?_)
    · rw [if_neg c_4] at hF
      refine lv_aload_n hx hb dX4_readCommand_25 rfl (lv_at hl 0 rfl) ?_
      generalize hp_5 : (F_X4_readDigit ln p_1.2.1 p_1.2.2 fi tw dy mn vl sg) = p_5 at hF
      rw [letp_eq] at hF
      refine fc_ci (isC := [0, 1]) (cells' := 0) (slots' := 0) (fc_runV (n := 0) (As := []) (rest := []) (isC := [0, 1]) (maxL := 1) ⟨hx, hb, hml, hown, hts⟩ (c_X4_readDigit x s0 ln p_1.2.1 p_1.2.2 fi tw dy mn vl sg hC H.size) gX4_readCommand_X4_readDigit rfl (by decide +kernel) rfl ⟨Nat.le_of_ble_eq_true rfl, Nat.le_of_ble_eq_true rfl⟩ ⟨Nat.le_of_ble_eq_true rfl, Nat.le_of_ble_eq_true rfl⟩ hE hP hD hS hA rfl rfl (va_recv hE.1 hP (ci := 8) (q0 := 0) rfl rfl) hl rfl (Nat.le_of_ble_eq_true rfl) dX4_readCommand_26) hP hD hS hA rfl (fun _ => rfl) rfl rfl (fun r_6 _ H locs hr_6 hP hD hS => ?_)
      rw [hp_5] at hr_6 hP hD
      obtain rfl : p_5.1 = r_6 := hr_6.symm
      dsimp only [fs, List.set] at hP hD
      have hP : va_P D vwCl [(x, .inr (8, [.ref s0, .int ln, .int p_5.2.1, .int p_1.2.2, .int fi, .int tw, .int dy, .int mn, .int p_5.2.2])), (s0, .inl (k.2.1, 60, .inl sg))] H := hP
      have hD : va_D A [(x, .inr (8, [.ref s0, .int ln, .int p_5.2.1, .int p_1.2.2, .int fi, .int tw, .int dy, .int mn, .int p_5.2.2])), (s0, .inl (k.2.1, 60, .inl sg))] := hD
      refine lv_istore_n (lv' := [(1, .int p_5.1), (0, .ref x)]) hx hb dX4_readCommand_29 rfl hl (by decide) rfl (fun ls hl => ?_)
      refine lv_aload_n hx hb dX4_readCommand_30 rfl (lv_at hl 1 rfl) ?_
      refine lv_aload_n hx hb dX4_readCommand_31 rfl (lv_at hl 1 rfl) ?_
      refine va_get (D := D) (ci := 8) (v := .int p_5.2.2) (C := RX4) (T := TX4) (N := 9) hx hb hts in_X4_readCommand_X4 hown hE.1 hP 0 rfl rfl 8 (by decide) (hts _ lk_X4_readCommand_37) (fun _ h9 => h9) rfl dX4_readCommand_32 ?_
      refine va_put (D := D) (ci := 8) (v := .int p_5.2.2) (ty := .int) (C := RX4) (T := TX4) (N := 9) hx hb hts in_X4_readCommand_X4 tyX4 tyX4_ok nmX4 hown hE.1 hP hD hS 0 rfl rfl 4 (by decide) (hts _ lk_X4_readCommand_25) (fun _ h9 => h9) rfl (by decide +kernel) rfl rfl (Nat.le_of_ble_eq_true rfl) dX4_readCommand_35 (fun H locs hP hD hS => ?_)
      have hP : va_P D vwCl [(x, .inr (8, [.ref s0, .int ln, .int p_5.2.1, .int p_1.2.2, .int p_5.2.2, .int tw, .int dy, .int mn, .int p_5.2.2])), (s0, .inl (k.2.1, 60, .inl sg))] H := hP
      have hD : va_D A [(x, .inr (8, [.ref s0, .int ln, .int p_5.2.1, .int p_1.2.2, .int p_5.2.2, .int tw, .int dy, .int mn, .int p_5.2.2])), (s0, .inl (k.2.1, 60, .inl sg))] := hD
      refine lv_aload_n hx hb dX4_readCommand_38 rfl (lv_at hl 1 rfl) ?_
      refine va_get (D := D) (ci := 8) (v := .int p_1.2.2) (C := RX4) (T := TX4) (N := 9) hx hb hts in_X4_readCommand_X4 hown hE.1 hP 0 rfl rfl 3 (by decide) (hts _ lk_X4_readCommand_22) (fun _ h9 => h9) rfl dX4_readCommand_39 ?_
      refine lv_iconst (v := 1) hx hb dX4_readCommand_42 (by decide) ?_
      refine lv_icmp_eq (tgt := 62) hx hb dX4_readCommand_43 (by decide) (fun c_7 => ?_) (fun c_7 => ?_)
      · rw [if_pos c_7] at hF
        refine lv_iconst (v := 1) hx hb dX4_readCommand_62 (by decide) ?_
        refine lv_goto (tgt := 67) hx hb dX4_readCommand_63 (by decide) ?_
        refine lv_istore_n (lv' := [(2, .int (1 : Int32)), (1, .int p_5.1), (0, .ref x)]) hx hb dX4_readCommand_67 rfl hl (by decide) rfl (fun ls hl => ?_)
        refine lv_iload_n hx hb dX4_readCommand_68 rfl (lv_at hl 1 rfl) ?_
        refine lv_if_eq (tgt := 103) hx hb dX4_readCommand_69 (by decide) (fun c_8 => ?_) (fun c_8 => ?_)
        · rw [if_pos c_8] at hF
          refine lv_iconst (v := 0) hx hb dX4_readCommand_103 (by decide) ?_
          subst hF
          exact fc_iret hx hb hr rfl hlk hS () rfl hP hD (by decide) (by decide) dX4_readCommand_104
        · rw [if_neg c_8] at hF
          refine lv_iload_n hx hb dX4_readCommand_72 rfl (lv_at hl 0 rfl) ?_
          refine lv_if_eq (tgt := 99) hx hb dX4_readCommand_73 (by decide) (fun c_9 => absurd c_9 (by decide)) (fun c_9 => ?_)
          refine lv_aload_n hx hb dX4_readCommand_76 rfl (lv_at hl 2 rfl) ?_
          refine lv_bipush (v := 32) hx hb dX4_readCommand_77 (by decide) ?_
          generalize hp_10 : (F_X4_readSign ln p_5.2.1 p_1.2.2 p_5.2.2 tw dy mn p_5.2.2 sg (32 : Int32)) = p_10 at hF
          rw [letp_eq] at hF
          refine fc_ci (isC := [0, 1]) (cells' := 0) (slots' := 0) (fc_runV (n := 1) (As := [.int (32 : Int32)]) (rest := []) (isC := [0, 1]) (maxL := 2) ⟨hx, hb, hml, hown, hts⟩ (c_X4_readSign x s0 ln p_5.2.1 p_1.2.2 p_5.2.2 tw dy mn p_5.2.2 sg (32 : Int32) hC H.size) gX4_readCommand_X4_readSign rfl (by decide +kernel) rfl ⟨Nat.le_of_ble_eq_true rfl, Nat.le_of_ble_eq_true rfl⟩ ⟨Nat.le_of_ble_eq_true rfl, Nat.le_of_ble_eq_true rfl⟩ hE hP hD hS hA rfl rfl (va_recv hE.1 hP (ci := 8) (q0 := 0) rfl rfl) hl rfl (Nat.le_of_ble_eq_true rfl) dX4_readCommand_79) hP hD hS hA rfl (fun _ => rfl) rfl rfl (fun r_11 _ H locs hr_11 hP hD hS => ?_)
          rw [hp_10] at hr_11 hP hD
          obtain rfl : p_10.1 = r_11 := hr_11.symm
          dsimp only [fs, List.set] at hP hD
          have hP : va_P D vwCl [(x, .inr (8, [.ref s0, .int ln, .int p_10.2, .int p_1.2.2, .int p_5.2.2, .int tw, .int dy, .int mn, .int p_5.2.2])), (s0, .inl (k.2.1, 60, .inl sg))] H := hP
          have hD : va_D A [(x, .inr (8, [.ref s0, .int ln, .int p_10.2, .int p_1.2.2, .int p_5.2.2, .int tw, .int dy, .int mn, .int p_5.2.2])), (s0, .inl (k.2.1, 60, .inl sg))] := hD
          refine lv_if_eq (tgt := 103) hx hb dX4_readCommand_82 (by decide) (fun c_12 => ?_) (fun c_12 => ?_)
          · rw [if_pos c_12] at hF
            refine lv_iconst (v := 0) hx hb dX4_readCommand_103 (by decide) ?_
            subst hF
            exact fc_iret hx hb hr rfl hlk hS () rfl hP hD (by decide) (by decide) dX4_readCommand_104
          · rw [if_neg c_12] at hF
            refine lv_aload_n hx hb dX4_readCommand_85 rfl (lv_at hl 2 rfl) ?_
            generalize hp_13 : (F_X4_readPlace ln p_10.2 p_1.2.2 p_5.2.2 tw dy mn p_5.2.2 sg) = p_13 at hF
            rw [letp_eq] at hF
            refine fc_ci (isC := [0, 1]) (cells' := 0) (slots' := 0) (fc_runV (n := 0) (As := []) (rest := []) (isC := [0, 1]) (maxL := 3) ⟨hx, hb, hml, hown, hts⟩ (c_X4_readPlace x s0 ln p_10.2 p_1.2.2 p_5.2.2 tw dy mn p_5.2.2 sg hC H.size) gX4_readCommand_X4_readPlace rfl (by decide +kernel) rfl ⟨Nat.le_of_ble_eq_true rfl, Nat.le_of_ble_eq_true rfl⟩ ⟨Nat.le_of_ble_eq_true rfl, Nat.le_of_ble_eq_true rfl⟩ hE hP hD hS hA rfl rfl (va_recv hE.1 hP (ci := 8) (q0 := 0) rfl rfl) hl rfl (Nat.le_of_ble_eq_true rfl) dX4_readCommand_86) hP hD hS hA rfl (fun _ => rfl) rfl rfl (fun r_14 _ H locs hr_14 hP hD hS => ?_)
            rw [hp_13] at hr_14 hP hD
            obtain rfl : p_13.1 = r_14 := hr_14.symm
            dsimp only [fs, List.set] at hP hD
            have hP : va_P D vwCl [(x, .inr (8, [.ref s0, .int ln, .int p_13.2.1, .int p_1.2.2, .int p_5.2.2, .int p_13.2.2.1, .int p_13.2.2.2.1, .int mn, .int p_13.2.2.2.2])), (s0, .inl (k.2.1, 60, .inl sg))] H := hP
            have hD : va_D A [(x, .inr (8, [.ref s0, .int ln, .int p_13.2.1, .int p_1.2.2, .int p_5.2.2, .int p_13.2.2.1, .int p_13.2.2.2.1, .int mn, .int p_13.2.2.2.2])), (s0, .inl (k.2.1, 60, .inl sg))] := hD
            refine lv_if_eq (tgt := 103) hx hb dX4_readCommand_89 (by decide) (fun c_15 => ?_) (fun c_15 => ?_)
            · rw [if_pos c_15] at hF
              refine lv_iconst (v := 0) hx hb dX4_readCommand_103 (by decide) ?_
              subst hF
              exact fc_iret hx hb hr rfl hlk hS () rfl hP hD (by decide) (by decide) dX4_readCommand_104
            · rw [if_neg c_15] at hF
              refine lv_aload_n hx hb dX4_readCommand_92 rfl (lv_at hl 2 rfl) ?_
              generalize hp_16 : (F_X4_readMany ln p_13.2.1 p_1.2.2 p_5.2.2 p_13.2.2.1 p_13.2.2.2.1 mn p_13.2.2.2.2 sg) = p_16 at hF
              rw [letp_eq] at hF
              refine fc_ci (isC := [0, 1]) (cells' := 0) (slots' := 0) (fc_runV (n := 0) (As := []) (rest := []) (isC := [0, 1]) (maxL := 2) ⟨hx, hb, hml, hown, hts⟩ (c_X4_readMany x s0 ln p_13.2.1 p_1.2.2 p_5.2.2 p_13.2.2.1 p_13.2.2.2.1 mn p_13.2.2.2.2 sg hC H.size) gX4_readCommand_X4_readMany rfl (by decide +kernel) rfl ⟨Nat.le_of_ble_eq_true rfl, Nat.le_of_ble_eq_true rfl⟩ ⟨Nat.le_of_ble_eq_true rfl, Nat.le_of_ble_eq_true rfl⟩ hE hP hD hS hA rfl rfl (va_recv hE.1 hP (ci := 8) (q0 := 0) rfl rfl) hl rfl (Nat.le_of_ble_eq_true rfl) dX4_readCommand_93) hP hD hS hA rfl (fun _ => rfl) rfl rfl (fun r_17 _ H locs hr_17 hP hD hS => ?_)
              rw [hp_16] at hr_17 hP hD
              obtain rfl : p_16.1 = r_17 := hr_17.symm
              dsimp only [fs, List.set] at hP hD
              have hP : va_P D vwCl [(x, .inr (8, [.ref s0, .int ln, .int p_16.2.1, .int p_1.2.2, .int p_5.2.2, .int p_13.2.2.1, .int p_13.2.2.2.1, .int p_16.2.2.1, .int p_16.2.2.2])), (s0, .inl (k.2.1, 60, .inl sg))] H := hP
              have hD : va_D A [(x, .inr (8, [.ref s0, .int ln, .int p_16.2.1, .int p_1.2.2, .int p_5.2.2, .int p_13.2.2.1, .int p_13.2.2.2.1, .int p_16.2.2.1, .int p_16.2.2.2])), (s0, .inl (k.2.1, 60, .inl sg))] := hD
              refine lv_if_eq (tgt := 103) hx hb dX4_readCommand_96 (by decide) (fun c_18 => ?_) (fun c_18 => ?_)
              · rw [if_pos c_18] at hF
                refine lv_iconst (v := 0) hx hb dX4_readCommand_103 (by decide) ?_
                subst hF
                exact fc_iret hx hb hr rfl hlk hS () rfl hP hD (by decide) (by decide) dX4_readCommand_104
              · rw [if_neg c_18] at hF
                refine lv_iconst (v := 1) hx hb dX4_readCommand_99 (by decide) ?_
                refine lv_goto (tgt := 104) hx hb dX4_readCommand_100 (by decide) ?_
                subst hF
                exact fc_iret hx hb hr rfl hlk hS () rfl hP hD (by decide) (by decide) dX4_readCommand_104
      · rw [if_neg c_7] at hF
        refine lv_aload_n hx hb dX4_readCommand_46 rfl (lv_at hl 1 rfl) ?_
        refine va_get (D := D) (ci := 8) (v := .int p_1.2.2) (C := RX4) (T := TX4) (N := 9) hx hb hts in_X4_readCommand_X4 hown hE.1 hP 0 rfl rfl 3 (by decide) (hts _ lk_X4_readCommand_22) (fun _ h9 => h9) rfl dX4_readCommand_47 ?_
        refine lv_iconst (v := 2) hx hb dX4_readCommand_50 (by decide) ?_
        refine lv_icmp_eq (tgt := 62) hx hb dX4_readCommand_51 (by decide) (fun c_19 => ?_) (fun c_19 => ?_)
        · rw [if_pos c_19] at hF
          refine lv_iconst (v := 1) hx hb dX4_readCommand_62 (by decide) ?_
          refine lv_goto (tgt := 67) hx hb dX4_readCommand_63 (by decide) ?_
          refine lv_istore_n (lv' := [(2, .int (1 : Int32)), (1, .int p_5.1), (0, .ref x)]) hx hb dX4_readCommand_67 rfl hl (by decide) rfl (fun ls hl => ?_)
          refine lv_iload_n hx hb dX4_readCommand_68 rfl (lv_at hl 1 rfl) ?_
          refine lv_if_eq (tgt := 103) hx hb dX4_readCommand_69 (by decide) (fun c_20 => ?_) (fun c_20 => ?_)
          · rw [if_pos c_20] at hF
            refine lv_iconst (v := 0) hx hb dX4_readCommand_103 (by decide) ?_
            subst hF
            exact fc_iret hx hb hr rfl hlk hS () rfl hP hD (by decide) (by decide) dX4_readCommand_104
          · rw [if_neg c_20] at hF
            refine lv_iload_n hx hb dX4_readCommand_72 rfl (lv_at hl 0 rfl) ?_
            refine lv_if_eq (tgt := 99) hx hb dX4_readCommand_73 (by decide) (fun c_21 => absurd c_21 (by decide)) (fun c_21 => ?_)
            refine lv_aload_n hx hb dX4_readCommand_76 rfl (lv_at hl 2 rfl) ?_
            refine lv_bipush (v := 32) hx hb dX4_readCommand_77 (by decide) ?_
            generalize hp_22 : (F_X4_readSign ln p_5.2.1 p_1.2.2 p_5.2.2 tw dy mn p_5.2.2 sg (32 : Int32)) = p_22 at hF
            rw [letp_eq] at hF
            refine fc_ci (isC := [0, 1]) (cells' := 0) (slots' := 0) (fc_runV (n := 1) (As := [.int (32 : Int32)]) (rest := []) (isC := [0, 1]) (maxL := 2) ⟨hx, hb, hml, hown, hts⟩ (c_X4_readSign x s0 ln p_5.2.1 p_1.2.2 p_5.2.2 tw dy mn p_5.2.2 sg (32 : Int32) hC H.size) gX4_readCommand_X4_readSign rfl (by decide +kernel) rfl ⟨Nat.le_of_ble_eq_true rfl, Nat.le_of_ble_eq_true rfl⟩ ⟨Nat.le_of_ble_eq_true rfl, Nat.le_of_ble_eq_true rfl⟩ hE hP hD hS hA rfl rfl (va_recv hE.1 hP (ci := 8) (q0 := 0) rfl rfl) hl rfl (Nat.le_of_ble_eq_true rfl) dX4_readCommand_79) hP hD hS hA rfl (fun _ => rfl) rfl rfl (fun r_23 _ H locs hr_23 hP hD hS => ?_)
            rw [hp_22] at hr_23 hP hD
            obtain rfl : p_22.1 = r_23 := hr_23.symm
            dsimp only [fs, List.set] at hP hD
            have hP : va_P D vwCl [(x, .inr (8, [.ref s0, .int ln, .int p_22.2, .int p_1.2.2, .int p_5.2.2, .int tw, .int dy, .int mn, .int p_5.2.2])), (s0, .inl (k.2.1, 60, .inl sg))] H := hP
            have hD : va_D A [(x, .inr (8, [.ref s0, .int ln, .int p_22.2, .int p_1.2.2, .int p_5.2.2, .int tw, .int dy, .int mn, .int p_5.2.2])), (s0, .inl (k.2.1, 60, .inl sg))] := hD
            refine lv_if_eq (tgt := 103) hx hb dX4_readCommand_82 (by decide) (fun c_24 => ?_) (fun c_24 => ?_)
            · rw [if_pos c_24] at hF
              refine lv_iconst (v := 0) hx hb dX4_readCommand_103 (by decide) ?_
              subst hF
              exact fc_iret hx hb hr rfl hlk hS () rfl hP hD (by decide) (by decide) dX4_readCommand_104
            · rw [if_neg c_24] at hF
              refine lv_aload_n hx hb dX4_readCommand_85 rfl (lv_at hl 2 rfl) ?_
              generalize hp_25 : (F_X4_readPlace ln p_22.2 p_1.2.2 p_5.2.2 tw dy mn p_5.2.2 sg) = p_25 at hF
              rw [letp_eq] at hF
              refine fc_ci (isC := [0, 1]) (cells' := 0) (slots' := 0) (fc_runV (n := 0) (As := []) (rest := []) (isC := [0, 1]) (maxL := 3) ⟨hx, hb, hml, hown, hts⟩ (c_X4_readPlace x s0 ln p_22.2 p_1.2.2 p_5.2.2 tw dy mn p_5.2.2 sg hC H.size) gX4_readCommand_X4_readPlace rfl (by decide +kernel) rfl ⟨Nat.le_of_ble_eq_true rfl, Nat.le_of_ble_eq_true rfl⟩ ⟨Nat.le_of_ble_eq_true rfl, Nat.le_of_ble_eq_true rfl⟩ hE hP hD hS hA rfl rfl (va_recv hE.1 hP (ci := 8) (q0 := 0) rfl rfl) hl rfl (Nat.le_of_ble_eq_true rfl) dX4_readCommand_86) hP hD hS hA rfl (fun _ => rfl) rfl rfl (fun r_26 _ H locs hr_26 hP hD hS => ?_)
              rw [hp_25] at hr_26 hP hD
              obtain rfl : p_25.1 = r_26 := hr_26.symm
              dsimp only [fs, List.set] at hP hD
              have hP : va_P D vwCl [(x, .inr (8, [.ref s0, .int ln, .int p_25.2.1, .int p_1.2.2, .int p_5.2.2, .int p_25.2.2.1, .int p_25.2.2.2.1, .int mn, .int p_25.2.2.2.2])), (s0, .inl (k.2.1, 60, .inl sg))] H := hP
              have hD : va_D A [(x, .inr (8, [.ref s0, .int ln, .int p_25.2.1, .int p_1.2.2, .int p_5.2.2, .int p_25.2.2.1, .int p_25.2.2.2.1, .int mn, .int p_25.2.2.2.2])), (s0, .inl (k.2.1, 60, .inl sg))] := hD
              refine lv_if_eq (tgt := 103) hx hb dX4_readCommand_89 (by decide) (fun c_27 => ?_) (fun c_27 => ?_)
              · rw [if_pos c_27] at hF
                refine lv_iconst (v := 0) hx hb dX4_readCommand_103 (by decide) ?_
                subst hF
                exact fc_iret hx hb hr rfl hlk hS () rfl hP hD (by decide) (by decide) dX4_readCommand_104
              · rw [if_neg c_27] at hF
                refine lv_aload_n hx hb dX4_readCommand_92 rfl (lv_at hl 2 rfl) ?_
                generalize hp_28 : (F_X4_readMany ln p_25.2.1 p_1.2.2 p_5.2.2 p_25.2.2.1 p_25.2.2.2.1 mn p_25.2.2.2.2 sg) = p_28 at hF
                rw [letp_eq] at hF
                refine fc_ci (isC := [0, 1]) (cells' := 0) (slots' := 0) (fc_runV (n := 0) (As := []) (rest := []) (isC := [0, 1]) (maxL := 2) ⟨hx, hb, hml, hown, hts⟩ (c_X4_readMany x s0 ln p_25.2.1 p_1.2.2 p_5.2.2 p_25.2.2.1 p_25.2.2.2.1 mn p_25.2.2.2.2 sg hC H.size) gX4_readCommand_X4_readMany rfl (by decide +kernel) rfl ⟨Nat.le_of_ble_eq_true rfl, Nat.le_of_ble_eq_true rfl⟩ ⟨Nat.le_of_ble_eq_true rfl, Nat.le_of_ble_eq_true rfl⟩ hE hP hD hS hA rfl rfl (va_recv hE.1 hP (ci := 8) (q0 := 0) rfl rfl) hl rfl (Nat.le_of_ble_eq_true rfl) dX4_readCommand_93) hP hD hS hA rfl (fun _ => rfl) rfl rfl (fun r_29 _ H locs hr_29 hP hD hS => ?_)
                rw [hp_28] at hr_29 hP hD
                obtain rfl : p_28.1 = r_29 := hr_29.symm
                dsimp only [fs, List.set] at hP hD
                have hP : va_P D vwCl [(x, .inr (8, [.ref s0, .int ln, .int p_28.2.1, .int p_1.2.2, .int p_5.2.2, .int p_25.2.2.1, .int p_25.2.2.2.1, .int p_28.2.2.1, .int p_28.2.2.2])), (s0, .inl (k.2.1, 60, .inl sg))] H := hP
                have hD : va_D A [(x, .inr (8, [.ref s0, .int ln, .int p_28.2.1, .int p_1.2.2, .int p_5.2.2, .int p_25.2.2.1, .int p_25.2.2.2.1, .int p_28.2.2.1, .int p_28.2.2.2])), (s0, .inl (k.2.1, 60, .inl sg))] := hD
                refine lv_if_eq (tgt := 103) hx hb dX4_readCommand_96 (by decide) (fun c_30 => ?_) (fun c_30 => ?_)
                · rw [if_pos c_30] at hF
                  refine lv_iconst (v := 0) hx hb dX4_readCommand_103 (by decide) ?_
                  subst hF
                  exact fc_iret hx hb hr rfl hlk hS () rfl hP hD (by decide) (by decide) dX4_readCommand_104
                · rw [if_neg c_30] at hF
                  refine lv_iconst (v := 1) hx hb dX4_readCommand_99 (by decide) ?_
                  refine lv_goto (tgt := 104) hx hb dX4_readCommand_100 (by decide) ?_
                  subst hF
                  exact fc_iret hx hb hr rfl hlk hS () rfl hP hD (by decide) (by decide) dX4_readCommand_104
        · rw [if_neg c_19] at hF
          refine lv_aload_n hx hb dX4_readCommand_54 rfl (lv_at hl 1 rfl) ?_
          refine va_get (D := D) (ci := 8) (v := .int p_1.2.2) (C := RX4) (T := TX4) (N := 9) hx hb hts in_X4_readCommand_X4 hown hE.1 hP 0 rfl rfl 3 (by decide) (hts _ lk_X4_readCommand_22) (fun _ h9 => h9) rfl dX4_readCommand_55 ?_
          refine lv_iconst (v := 3) hx hb dX4_readCommand_58 (by decide) ?_
          refine lv_icmp_ne (tgt := 66) hx hb dX4_readCommand_59 (by decide) (fun c_31 => ?_) (fun c_31 => ?_)
          · rw [if_neg c_31] at hF
            refine lv_iconst (v := 0) hx hb dX4_readCommand_66 (by decide) ?_
            refine lv_istore_n (lv' := [(2, .int (0 : Int32)), (1, .int p_5.1), (0, .ref x)]) hx hb dX4_readCommand_67 rfl hl (by decide) rfl (fun ls hl => ?_)
            refine lv_iload_n hx hb dX4_readCommand_68 rfl (lv_at hl 1 rfl) ?_
            refine lv_if_eq (tgt := 103) hx hb dX4_readCommand_69 (by decide) (fun c_32 => ?_) (fun c_32 => ?_)
            · rw [if_pos c_32] at hF
              refine lv_iconst (v := 0) hx hb dX4_readCommand_103 (by decide) ?_
              subst hF
              exact fc_iret hx hb hr rfl hlk hS () rfl hP hD (by decide) (by decide) dX4_readCommand_104
            · rw [if_neg c_32] at hF
              refine lv_iload_n hx hb dX4_readCommand_72 rfl (lv_at hl 0 rfl) ?_
              refine lv_if_eq (tgt := 99) hx hb dX4_readCommand_73 (by decide) (fun c_33 => ?_) (fun c_33 => absurd c_33 (by decide))
              refine lv_iconst (v := 1) hx hb dX4_readCommand_99 (by decide) ?_
              refine lv_goto (tgt := 104) hx hb dX4_readCommand_100 (by decide) ?_
              subst hF
              exact fc_iret hx hb hr rfl hlk hS () rfl hP hD (by decide) (by decide) dX4_readCommand_104
          · rw [if_pos c_31] at hF
            refine lv_iconst (v := 1) hx hb dX4_readCommand_62 (by decide) ?_
            refine lv_goto (tgt := 67) hx hb dX4_readCommand_63 (by decide) ?_
            refine lv_istore_n (lv' := [(2, .int (1 : Int32)), (1, .int p_5.1), (0, .ref x)]) hx hb dX4_readCommand_67 rfl hl (by decide) rfl (fun ls hl => ?_)
            refine lv_iload_n hx hb dX4_readCommand_68 rfl (lv_at hl 1 rfl) ?_
            refine lv_if_eq (tgt := 103) hx hb dX4_readCommand_69 (by decide) (fun c_34 => ?_) (fun c_34 => ?_)
            · rw [if_pos c_34] at hF
              refine lv_iconst (v := 0) hx hb dX4_readCommand_103 (by decide) ?_
              subst hF
              exact fc_iret hx hb hr rfl hlk hS () rfl hP hD (by decide) (by decide) dX4_readCommand_104
            · rw [if_neg c_34] at hF
              refine lv_iload_n hx hb dX4_readCommand_72 rfl (lv_at hl 0 rfl) ?_
              refine lv_if_eq (tgt := 99) hx hb dX4_readCommand_73 (by decide) (fun c_35 => absurd c_35 (by decide)) (fun c_35 => ?_)
              refine lv_aload_n hx hb dX4_readCommand_76 rfl (lv_at hl 2 rfl) ?_
              refine lv_bipush (v := 32) hx hb dX4_readCommand_77 (by decide) ?_
              generalize hp_36 : (F_X4_readSign ln p_5.2.1 p_1.2.2 p_5.2.2 tw dy mn p_5.2.2 sg (32 : Int32)) = p_36 at hF
              rw [letp_eq] at hF
              refine fc_ci (isC := [0, 1]) (cells' := 0) (slots' := 0) (fc_runV (n := 1) (As := [.int (32 : Int32)]) (rest := []) (isC := [0, 1]) (maxL := 2) ⟨hx, hb, hml, hown, hts⟩ (c_X4_readSign x s0 ln p_5.2.1 p_1.2.2 p_5.2.2 tw dy mn p_5.2.2 sg (32 : Int32) hC H.size) gX4_readCommand_X4_readSign rfl (by decide +kernel) rfl ⟨Nat.le_of_ble_eq_true rfl, Nat.le_of_ble_eq_true rfl⟩ ⟨Nat.le_of_ble_eq_true rfl, Nat.le_of_ble_eq_true rfl⟩ hE hP hD hS hA rfl rfl (va_recv hE.1 hP (ci := 8) (q0 := 0) rfl rfl) hl rfl (Nat.le_of_ble_eq_true rfl) dX4_readCommand_79) hP hD hS hA rfl (fun _ => rfl) rfl rfl (fun r_37 _ H locs hr_37 hP hD hS => ?_)
              rw [hp_36] at hr_37 hP hD
              obtain rfl : p_36.1 = r_37 := hr_37.symm
              dsimp only [fs, List.set] at hP hD
              have hP : va_P D vwCl [(x, .inr (8, [.ref s0, .int ln, .int p_36.2, .int p_1.2.2, .int p_5.2.2, .int tw, .int dy, .int mn, .int p_5.2.2])), (s0, .inl (k.2.1, 60, .inl sg))] H := hP
              have hD : va_D A [(x, .inr (8, [.ref s0, .int ln, .int p_36.2, .int p_1.2.2, .int p_5.2.2, .int tw, .int dy, .int mn, .int p_5.2.2])), (s0, .inl (k.2.1, 60, .inl sg))] := hD
              refine lv_if_eq (tgt := 103) hx hb dX4_readCommand_82 (by decide) (fun c_38 => ?_) (fun c_38 => ?_)
              · rw [if_pos c_38] at hF
                refine lv_iconst (v := 0) hx hb dX4_readCommand_103 (by decide) ?_
                subst hF
                exact fc_iret hx hb hr rfl hlk hS () rfl hP hD (by decide) (by decide) dX4_readCommand_104
              · rw [if_neg c_38] at hF
                refine lv_aload_n hx hb dX4_readCommand_85 rfl (lv_at hl 2 rfl) ?_
                generalize hp_39 : (F_X4_readPlace ln p_36.2 p_1.2.2 p_5.2.2 tw dy mn p_5.2.2 sg) = p_39 at hF
                rw [letp_eq] at hF
                refine fc_ci (isC := [0, 1]) (cells' := 0) (slots' := 0) (fc_runV (n := 0) (As := []) (rest := []) (isC := [0, 1]) (maxL := 3) ⟨hx, hb, hml, hown, hts⟩ (c_X4_readPlace x s0 ln p_36.2 p_1.2.2 p_5.2.2 tw dy mn p_5.2.2 sg hC H.size) gX4_readCommand_X4_readPlace rfl (by decide +kernel) rfl ⟨Nat.le_of_ble_eq_true rfl, Nat.le_of_ble_eq_true rfl⟩ ⟨Nat.le_of_ble_eq_true rfl, Nat.le_of_ble_eq_true rfl⟩ hE hP hD hS hA rfl rfl (va_recv hE.1 hP (ci := 8) (q0 := 0) rfl rfl) hl rfl (Nat.le_of_ble_eq_true rfl) dX4_readCommand_86) hP hD hS hA rfl (fun _ => rfl) rfl rfl (fun r_40 _ H locs hr_40 hP hD hS => ?_)
                rw [hp_39] at hr_40 hP hD
                obtain rfl : p_39.1 = r_40 := hr_40.symm
                dsimp only [fs, List.set] at hP hD
                have hP : va_P D vwCl [(x, .inr (8, [.ref s0, .int ln, .int p_39.2.1, .int p_1.2.2, .int p_5.2.2, .int p_39.2.2.1, .int p_39.2.2.2.1, .int mn, .int p_39.2.2.2.2])), (s0, .inl (k.2.1, 60, .inl sg))] H := hP
                have hD : va_D A [(x, .inr (8, [.ref s0, .int ln, .int p_39.2.1, .int p_1.2.2, .int p_5.2.2, .int p_39.2.2.1, .int p_39.2.2.2.1, .int mn, .int p_39.2.2.2.2])), (s0, .inl (k.2.1, 60, .inl sg))] := hD
                refine lv_if_eq (tgt := 103) hx hb dX4_readCommand_89 (by decide) (fun c_41 => ?_) (fun c_41 => ?_)
                · rw [if_pos c_41] at hF
                  refine lv_iconst (v := 0) hx hb dX4_readCommand_103 (by decide) ?_
                  subst hF
                  exact fc_iret hx hb hr rfl hlk hS () rfl hP hD (by decide) (by decide) dX4_readCommand_104
                · rw [if_neg c_41] at hF
                  refine lv_aload_n hx hb dX4_readCommand_92 rfl (lv_at hl 2 rfl) ?_
                  generalize hp_42 : (F_X4_readMany ln p_39.2.1 p_1.2.2 p_5.2.2 p_39.2.2.1 p_39.2.2.2.1 mn p_39.2.2.2.2 sg) = p_42 at hF
                  rw [letp_eq] at hF
                  refine fc_ci (isC := [0, 1]) (cells' := 0) (slots' := 0) (fc_runV (n := 0) (As := []) (rest := []) (isC := [0, 1]) (maxL := 2) ⟨hx, hb, hml, hown, hts⟩ (c_X4_readMany x s0 ln p_39.2.1 p_1.2.2 p_5.2.2 p_39.2.2.1 p_39.2.2.2.1 mn p_39.2.2.2.2 sg hC H.size) gX4_readCommand_X4_readMany rfl (by decide +kernel) rfl ⟨Nat.le_of_ble_eq_true rfl, Nat.le_of_ble_eq_true rfl⟩ ⟨Nat.le_of_ble_eq_true rfl, Nat.le_of_ble_eq_true rfl⟩ hE hP hD hS hA rfl rfl (va_recv hE.1 hP (ci := 8) (q0 := 0) rfl rfl) hl rfl (Nat.le_of_ble_eq_true rfl) dX4_readCommand_93) hP hD hS hA rfl (fun _ => rfl) rfl rfl (fun r_43 _ H locs hr_43 hP hD hS => ?_)
                  rw [hp_42] at hr_43 hP hD
                  obtain rfl : p_42.1 = r_43 := hr_43.symm
                  dsimp only [fs, List.set] at hP hD
                  have hP : va_P D vwCl [(x, .inr (8, [.ref s0, .int ln, .int p_42.2.1, .int p_1.2.2, .int p_5.2.2, .int p_39.2.2.1, .int p_39.2.2.2.1, .int p_42.2.2.1, .int p_42.2.2.2])), (s0, .inl (k.2.1, 60, .inl sg))] H := hP
                  have hD : va_D A [(x, .inr (8, [.ref s0, .int ln, .int p_42.2.1, .int p_1.2.2, .int p_5.2.2, .int p_39.2.2.1, .int p_39.2.2.2.1, .int p_42.2.2.1, .int p_42.2.2.2])), (s0, .inl (k.2.1, 60, .inl sg))] := hD
                  refine lv_if_eq (tgt := 103) hx hb dX4_readCommand_96 (by decide) (fun c_44 => ?_) (fun c_44 => ?_)
                  · rw [if_pos c_44] at hF
                    refine lv_iconst (v := 0) hx hb dX4_readCommand_103 (by decide) ?_
                    subst hF
                    exact fc_iret hx hb hr rfl hlk hS () rfl hP hD (by decide) (by decide) dX4_readCommand_104
                  · rw [if_neg c_44] at hF
                    refine lv_iconst (v := 1) hx hb dX4_readCommand_99 (by decide) ?_
                    refine lv_goto (tgt := 104) hx hb dX4_readCommand_100 (by decide) ?_
                    subst hF
                    exact fc_iret hx hb hr rfl hlk hS () rfl hP hD (by decide) (by decide) dX4_readCommand_104
    · rw [if_pos c_4] at hF
      refine lv_aload_n hx hb dX4_readCommand_18 rfl (lv_at hl 0 rfl) ?_
      generalize hp_45 : (F_X4_readNumber ln p_1.2.1 p_1.2.2 fi tw dy mn vl sg) = p_45 at hF
      rw [letp_eq] at hF
      refine fc_ci (isC := [0, 1]) (cells' := 0) (slots' := 0) (fc_runV (n := 0) (As := []) (rest := []) (isC := [0, 1]) (maxL := 2) ⟨hx, hb, hml, hown, hts⟩ (c_X4_readNumber x s0 ln p_1.2.1 p_1.2.2 fi tw dy mn vl sg hC H.size) gX4_readCommand_X4_readNumber rfl (by decide +kernel) rfl ⟨Nat.le_of_ble_eq_true rfl, Nat.le_of_ble_eq_true rfl⟩ ⟨Nat.le_of_ble_eq_true rfl, Nat.le_of_ble_eq_true rfl⟩ hE hP hD hS hA rfl rfl (va_recv hE.1 hP (ci := 8) (q0 := 0) rfl rfl) hl rfl (Nat.le_of_ble_eq_true rfl) dX4_readCommand_19) hP hD hS hA rfl (fun _ => rfl) rfl rfl (fun r_46 _ H locs hr_46 hP hD hS => ?_)
      rw [hp_45] at hr_46 hP hD
      obtain rfl : p_45.1 = r_46 := hr_46.symm
      dsimp only [fs, List.set] at hP hD
      have hP : va_P D vwCl [(x, .inr (8, [.ref s0, .int ln, .int p_45.2.1, .int p_1.2.2, .int fi, .int tw, .int dy, .int mn, .int p_45.2.2])), (s0, .inl (k.2.1, 60, .inl sg))] H := hP
      have hD : va_D A [(x, .inr (8, [.ref s0, .int ln, .int p_45.2.1, .int p_1.2.2, .int fi, .int tw, .int dy, .int mn, .int p_45.2.2])), (s0, .inl (k.2.1, 60, .inl sg))] := hD
      refine lv_goto (tgt := 29) hx hb dX4_readCommand_22 (by decide) ?_
      refine lv_istore_n (lv' := [(1, .int p_45.1), (0, .ref x)]) hx hb dX4_readCommand_29 rfl hl (by decide) rfl (fun ls hl => ?_)
      refine lv_aload_n hx hb dX4_readCommand_30 rfl (lv_at hl 1 rfl) ?_
      refine lv_aload_n hx hb dX4_readCommand_31 rfl (lv_at hl 1 rfl) ?_
      refine va_get (D := D) (ci := 8) (v := .int p_45.2.2) (C := RX4) (T := TX4) (N := 9) hx hb hts in_X4_readCommand_X4 hown hE.1 hP 0 rfl rfl 8 (by decide) (hts _ lk_X4_readCommand_37) (fun _ h9 => h9) rfl dX4_readCommand_32 ?_
      refine va_put (D := D) (ci := 8) (v := .int p_45.2.2) (ty := .int) (C := RX4) (T := TX4) (N := 9) hx hb hts in_X4_readCommand_X4 tyX4 tyX4_ok nmX4 hown hE.1 hP hD hS 0 rfl rfl 4 (by decide) (hts _ lk_X4_readCommand_25) (fun _ h9 => h9) rfl (by decide +kernel) rfl rfl (Nat.le_of_ble_eq_true rfl) dX4_readCommand_35 (fun H locs hP hD hS => ?_)
      have hP : va_P D vwCl [(x, .inr (8, [.ref s0, .int ln, .int p_45.2.1, .int p_1.2.2, .int p_45.2.2, .int tw, .int dy, .int mn, .int p_45.2.2])), (s0, .inl (k.2.1, 60, .inl sg))] H := hP
      have hD : va_D A [(x, .inr (8, [.ref s0, .int ln, .int p_45.2.1, .int p_1.2.2, .int p_45.2.2, .int tw, .int dy, .int mn, .int p_45.2.2])), (s0, .inl (k.2.1, 60, .inl sg))] := hD
      refine lv_aload_n hx hb dX4_readCommand_38 rfl (lv_at hl 1 rfl) ?_
      refine va_get (D := D) (ci := 8) (v := .int p_1.2.2) (C := RX4) (T := TX4) (N := 9) hx hb hts in_X4_readCommand_X4 hown hE.1 hP 0 rfl rfl 3 (by decide) (hts _ lk_X4_readCommand_22) (fun _ h9 => h9) rfl dX4_readCommand_39 ?_
      refine lv_iconst (v := 1) hx hb dX4_readCommand_42 (by decide) ?_
      refine lv_icmp_eq (tgt := 62) hx hb dX4_readCommand_43 (by decide) (fun c_47 => ?_) (fun c_47 => ?_)
      · rw [if_pos c_47] at hF
        refine lv_iconst (v := 1) hx hb dX4_readCommand_62 (by decide) ?_
        refine lv_goto (tgt := 67) hx hb dX4_readCommand_63 (by decide) ?_
        refine lv_istore_n (lv' := [(2, .int (1 : Int32)), (1, .int p_45.1), (0, .ref x)]) hx hb dX4_readCommand_67 rfl hl (by decide) rfl (fun ls hl => ?_)
        refine lv_iload_n hx hb dX4_readCommand_68 rfl (lv_at hl 1 rfl) ?_
        refine lv_if_eq (tgt := 103) hx hb dX4_readCommand_69 (by decide) (fun c_48 => ?_) (fun c_48 => ?_)
        · rw [if_pos c_48] at hF
          refine lv_iconst (v := 0) hx hb dX4_readCommand_103 (by decide) ?_
          subst hF
          exact fc_iret hx hb hr rfl hlk hS () rfl hP hD (by decide) (by decide) dX4_readCommand_104
        · rw [if_neg c_48] at hF
          refine lv_iload_n hx hb dX4_readCommand_72 rfl (lv_at hl 0 rfl) ?_
          refine lv_if_eq (tgt := 99) hx hb dX4_readCommand_73 (by decide) (fun c_49 => absurd c_49 (by decide)) (fun c_49 => ?_)
          refine lv_aload_n hx hb dX4_readCommand_76 rfl (lv_at hl 2 rfl) ?_
          refine lv_bipush (v := 32) hx hb dX4_readCommand_77 (by decide) ?_
          generalize hp_50 : (F_X4_readSign ln p_45.2.1 p_1.2.2 p_45.2.2 tw dy mn p_45.2.2 sg (32 : Int32)) = p_50 at hF
          rw [letp_eq] at hF
          refine fc_ci (isC := [0, 1]) (cells' := 0) (slots' := 0) (fc_runV (n := 1) (As := [.int (32 : Int32)]) (rest := []) (isC := [0, 1]) (maxL := 2) ⟨hx, hb, hml, hown, hts⟩ (c_X4_readSign x s0 ln p_45.2.1 p_1.2.2 p_45.2.2 tw dy mn p_45.2.2 sg (32 : Int32) hC H.size) gX4_readCommand_X4_readSign rfl (by decide +kernel) rfl ⟨Nat.le_of_ble_eq_true rfl, Nat.le_of_ble_eq_true rfl⟩ ⟨Nat.le_of_ble_eq_true rfl, Nat.le_of_ble_eq_true rfl⟩ hE hP hD hS hA rfl rfl (va_recv hE.1 hP (ci := 8) (q0 := 0) rfl rfl) hl rfl (Nat.le_of_ble_eq_true rfl) dX4_readCommand_79) hP hD hS hA rfl (fun _ => rfl) rfl rfl (fun r_51 _ H locs hr_51 hP hD hS => ?_)
          rw [hp_50] at hr_51 hP hD
          obtain rfl : p_50.1 = r_51 := hr_51.symm
          dsimp only [fs, List.set] at hP hD
          have hP : va_P D vwCl [(x, .inr (8, [.ref s0, .int ln, .int p_50.2, .int p_1.2.2, .int p_45.2.2, .int tw, .int dy, .int mn, .int p_45.2.2])), (s0, .inl (k.2.1, 60, .inl sg))] H := hP
          have hD : va_D A [(x, .inr (8, [.ref s0, .int ln, .int p_50.2, .int p_1.2.2, .int p_45.2.2, .int tw, .int dy, .int mn, .int p_45.2.2])), (s0, .inl (k.2.1, 60, .inl sg))] := hD
          refine lv_if_eq (tgt := 103) hx hb dX4_readCommand_82 (by decide) (fun c_52 => ?_) (fun c_52 => ?_)
          · rw [if_pos c_52] at hF
            refine lv_iconst (v := 0) hx hb dX4_readCommand_103 (by decide) ?_
            subst hF
            exact fc_iret hx hb hr rfl hlk hS () rfl hP hD (by decide) (by decide) dX4_readCommand_104
          · rw [if_neg c_52] at hF
            refine lv_aload_n hx hb dX4_readCommand_85 rfl (lv_at hl 2 rfl) ?_
            generalize hp_53 : (F_X4_readPlace ln p_50.2 p_1.2.2 p_45.2.2 tw dy mn p_45.2.2 sg) = p_53 at hF
            rw [letp_eq] at hF
            refine fc_ci (isC := [0, 1]) (cells' := 0) (slots' := 0) (fc_runV (n := 0) (As := []) (rest := []) (isC := [0, 1]) (maxL := 3) ⟨hx, hb, hml, hown, hts⟩ (c_X4_readPlace x s0 ln p_50.2 p_1.2.2 p_45.2.2 tw dy mn p_45.2.2 sg hC H.size) gX4_readCommand_X4_readPlace rfl (by decide +kernel) rfl ⟨Nat.le_of_ble_eq_true rfl, Nat.le_of_ble_eq_true rfl⟩ ⟨Nat.le_of_ble_eq_true rfl, Nat.le_of_ble_eq_true rfl⟩ hE hP hD hS hA rfl rfl (va_recv hE.1 hP (ci := 8) (q0 := 0) rfl rfl) hl rfl (Nat.le_of_ble_eq_true rfl) dX4_readCommand_86) hP hD hS hA rfl (fun _ => rfl) rfl rfl (fun r_54 _ H locs hr_54 hP hD hS => ?_)
            rw [hp_53] at hr_54 hP hD
            obtain rfl : p_53.1 = r_54 := hr_54.symm
            dsimp only [fs, List.set] at hP hD
            have hP : va_P D vwCl [(x, .inr (8, [.ref s0, .int ln, .int p_53.2.1, .int p_1.2.2, .int p_45.2.2, .int p_53.2.2.1, .int p_53.2.2.2.1, .int mn, .int p_53.2.2.2.2])), (s0, .inl (k.2.1, 60, .inl sg))] H := hP
            have hD : va_D A [(x, .inr (8, [.ref s0, .int ln, .int p_53.2.1, .int p_1.2.2, .int p_45.2.2, .int p_53.2.2.1, .int p_53.2.2.2.1, .int mn, .int p_53.2.2.2.2])), (s0, .inl (k.2.1, 60, .inl sg))] := hD
            refine lv_if_eq (tgt := 103) hx hb dX4_readCommand_89 (by decide) (fun c_55 => ?_) (fun c_55 => ?_)
            · rw [if_pos c_55] at hF
              refine lv_iconst (v := 0) hx hb dX4_readCommand_103 (by decide) ?_
              subst hF
              exact fc_iret hx hb hr rfl hlk hS () rfl hP hD (by decide) (by decide) dX4_readCommand_104
            · rw [if_neg c_55] at hF
              refine lv_aload_n hx hb dX4_readCommand_92 rfl (lv_at hl 2 rfl) ?_
              generalize hp_56 : (F_X4_readMany ln p_53.2.1 p_1.2.2 p_45.2.2 p_53.2.2.1 p_53.2.2.2.1 mn p_53.2.2.2.2 sg) = p_56 at hF
              rw [letp_eq] at hF
              refine fc_ci (isC := [0, 1]) (cells' := 0) (slots' := 0) (fc_runV (n := 0) (As := []) (rest := []) (isC := [0, 1]) (maxL := 2) ⟨hx, hb, hml, hown, hts⟩ (c_X4_readMany x s0 ln p_53.2.1 p_1.2.2 p_45.2.2 p_53.2.2.1 p_53.2.2.2.1 mn p_53.2.2.2.2 sg hC H.size) gX4_readCommand_X4_readMany rfl (by decide +kernel) rfl ⟨Nat.le_of_ble_eq_true rfl, Nat.le_of_ble_eq_true rfl⟩ ⟨Nat.le_of_ble_eq_true rfl, Nat.le_of_ble_eq_true rfl⟩ hE hP hD hS hA rfl rfl (va_recv hE.1 hP (ci := 8) (q0 := 0) rfl rfl) hl rfl (Nat.le_of_ble_eq_true rfl) dX4_readCommand_93) hP hD hS hA rfl (fun _ => rfl) rfl rfl (fun r_57 _ H locs hr_57 hP hD hS => ?_)
              rw [hp_56] at hr_57 hP hD
              obtain rfl : p_56.1 = r_57 := hr_57.symm
              dsimp only [fs, List.set] at hP hD
              have hP : va_P D vwCl [(x, .inr (8, [.ref s0, .int ln, .int p_56.2.1, .int p_1.2.2, .int p_45.2.2, .int p_53.2.2.1, .int p_53.2.2.2.1, .int p_56.2.2.1, .int p_56.2.2.2])), (s0, .inl (k.2.1, 60, .inl sg))] H := hP
              have hD : va_D A [(x, .inr (8, [.ref s0, .int ln, .int p_56.2.1, .int p_1.2.2, .int p_45.2.2, .int p_53.2.2.1, .int p_53.2.2.2.1, .int p_56.2.2.1, .int p_56.2.2.2])), (s0, .inl (k.2.1, 60, .inl sg))] := hD
              refine lv_if_eq (tgt := 103) hx hb dX4_readCommand_96 (by decide) (fun c_58 => ?_) (fun c_58 => ?_)
              · rw [if_pos c_58] at hF
                refine lv_iconst (v := 0) hx hb dX4_readCommand_103 (by decide) ?_
                subst hF
                exact fc_iret hx hb hr rfl hlk hS () rfl hP hD (by decide) (by decide) dX4_readCommand_104
              · rw [if_neg c_58] at hF
                refine lv_iconst (v := 1) hx hb dX4_readCommand_99 (by decide) ?_
                refine lv_goto (tgt := 104) hx hb dX4_readCommand_100 (by decide) ?_
                subst hF
                exact fc_iret hx hb hr rfl hlk hS () rfl hP hD (by decide) (by decide) dX4_readCommand_104
      · rw [if_neg c_47] at hF
        refine lv_aload_n hx hb dX4_readCommand_46 rfl (lv_at hl 1 rfl) ?_
        refine va_get (D := D) (ci := 8) (v := .int p_1.2.2) (C := RX4) (T := TX4) (N := 9) hx hb hts in_X4_readCommand_X4 hown hE.1 hP 0 rfl rfl 3 (by decide) (hts _ lk_X4_readCommand_22) (fun _ h9 => h9) rfl dX4_readCommand_47 ?_
        refine lv_iconst (v := 2) hx hb dX4_readCommand_50 (by decide) ?_
        refine lv_icmp_eq (tgt := 62) hx hb dX4_readCommand_51 (by decide) (fun c_59 => ?_) (fun c_59 => ?_)
        · rw [if_pos c_59] at hF
          refine lv_iconst (v := 1) hx hb dX4_readCommand_62 (by decide) ?_
          refine lv_goto (tgt := 67) hx hb dX4_readCommand_63 (by decide) ?_
          refine lv_istore_n (lv' := [(2, .int (1 : Int32)), (1, .int p_45.1), (0, .ref x)]) hx hb dX4_readCommand_67 rfl hl (by decide) rfl (fun ls hl => ?_)
          refine lv_iload_n hx hb dX4_readCommand_68 rfl (lv_at hl 1 rfl) ?_
          refine lv_if_eq (tgt := 103) hx hb dX4_readCommand_69 (by decide) (fun c_60 => ?_) (fun c_60 => ?_)
          · rw [if_pos c_60] at hF
            refine lv_iconst (v := 0) hx hb dX4_readCommand_103 (by decide) ?_
            subst hF
            exact fc_iret hx hb hr rfl hlk hS () rfl hP hD (by decide) (by decide) dX4_readCommand_104
          · rw [if_neg c_60] at hF
            refine lv_iload_n hx hb dX4_readCommand_72 rfl (lv_at hl 0 rfl) ?_
            refine lv_if_eq (tgt := 99) hx hb dX4_readCommand_73 (by decide) (fun c_61 => absurd c_61 (by decide)) (fun c_61 => ?_)
            refine lv_aload_n hx hb dX4_readCommand_76 rfl (lv_at hl 2 rfl) ?_
            refine lv_bipush (v := 32) hx hb dX4_readCommand_77 (by decide) ?_
            generalize hp_62 : (F_X4_readSign ln p_45.2.1 p_1.2.2 p_45.2.2 tw dy mn p_45.2.2 sg (32 : Int32)) = p_62 at hF
            rw [letp_eq] at hF
            refine fc_ci (isC := [0, 1]) (cells' := 0) (slots' := 0) (fc_runV (n := 1) (As := [.int (32 : Int32)]) (rest := []) (isC := [0, 1]) (maxL := 2) ⟨hx, hb, hml, hown, hts⟩ (c_X4_readSign x s0 ln p_45.2.1 p_1.2.2 p_45.2.2 tw dy mn p_45.2.2 sg (32 : Int32) hC H.size) gX4_readCommand_X4_readSign rfl (by decide +kernel) rfl ⟨Nat.le_of_ble_eq_true rfl, Nat.le_of_ble_eq_true rfl⟩ ⟨Nat.le_of_ble_eq_true rfl, Nat.le_of_ble_eq_true rfl⟩ hE hP hD hS hA rfl rfl (va_recv hE.1 hP (ci := 8) (q0 := 0) rfl rfl) hl rfl (Nat.le_of_ble_eq_true rfl) dX4_readCommand_79) hP hD hS hA rfl (fun _ => rfl) rfl rfl (fun r_63 _ H locs hr_63 hP hD hS => ?_)
            rw [hp_62] at hr_63 hP hD
            obtain rfl : p_62.1 = r_63 := hr_63.symm
            dsimp only [fs, List.set] at hP hD
            have hP : va_P D vwCl [(x, .inr (8, [.ref s0, .int ln, .int p_62.2, .int p_1.2.2, .int p_45.2.2, .int tw, .int dy, .int mn, .int p_45.2.2])), (s0, .inl (k.2.1, 60, .inl sg))] H := hP
            have hD : va_D A [(x, .inr (8, [.ref s0, .int ln, .int p_62.2, .int p_1.2.2, .int p_45.2.2, .int tw, .int dy, .int mn, .int p_45.2.2])), (s0, .inl (k.2.1, 60, .inl sg))] := hD
            refine lv_if_eq (tgt := 103) hx hb dX4_readCommand_82 (by decide) (fun c_64 => ?_) (fun c_64 => ?_)
            · rw [if_pos c_64] at hF
              refine lv_iconst (v := 0) hx hb dX4_readCommand_103 (by decide) ?_
              subst hF
              exact fc_iret hx hb hr rfl hlk hS () rfl hP hD (by decide) (by decide) dX4_readCommand_104
            · rw [if_neg c_64] at hF
              refine lv_aload_n hx hb dX4_readCommand_85 rfl (lv_at hl 2 rfl) ?_
              generalize hp_65 : (F_X4_readPlace ln p_62.2 p_1.2.2 p_45.2.2 tw dy mn p_45.2.2 sg) = p_65 at hF
              rw [letp_eq] at hF
              refine fc_ci (isC := [0, 1]) (cells' := 0) (slots' := 0) (fc_runV (n := 0) (As := []) (rest := []) (isC := [0, 1]) (maxL := 3) ⟨hx, hb, hml, hown, hts⟩ (c_X4_readPlace x s0 ln p_62.2 p_1.2.2 p_45.2.2 tw dy mn p_45.2.2 sg hC H.size) gX4_readCommand_X4_readPlace rfl (by decide +kernel) rfl ⟨Nat.le_of_ble_eq_true rfl, Nat.le_of_ble_eq_true rfl⟩ ⟨Nat.le_of_ble_eq_true rfl, Nat.le_of_ble_eq_true rfl⟩ hE hP hD hS hA rfl rfl (va_recv hE.1 hP (ci := 8) (q0 := 0) rfl rfl) hl rfl (Nat.le_of_ble_eq_true rfl) dX4_readCommand_86) hP hD hS hA rfl (fun _ => rfl) rfl rfl (fun r_66 _ H locs hr_66 hP hD hS => ?_)
              rw [hp_65] at hr_66 hP hD
              obtain rfl : p_65.1 = r_66 := hr_66.symm
              dsimp only [fs, List.set] at hP hD
              have hP : va_P D vwCl [(x, .inr (8, [.ref s0, .int ln, .int p_65.2.1, .int p_1.2.2, .int p_45.2.2, .int p_65.2.2.1, .int p_65.2.2.2.1, .int mn, .int p_65.2.2.2.2])), (s0, .inl (k.2.1, 60, .inl sg))] H := hP
              have hD : va_D A [(x, .inr (8, [.ref s0, .int ln, .int p_65.2.1, .int p_1.2.2, .int p_45.2.2, .int p_65.2.2.1, .int p_65.2.2.2.1, .int mn, .int p_65.2.2.2.2])), (s0, .inl (k.2.1, 60, .inl sg))] := hD
              refine lv_if_eq (tgt := 103) hx hb dX4_readCommand_89 (by decide) (fun c_67 => ?_) (fun c_67 => ?_)
              · rw [if_pos c_67] at hF
                refine lv_iconst (v := 0) hx hb dX4_readCommand_103 (by decide) ?_
                subst hF
                exact fc_iret hx hb hr rfl hlk hS () rfl hP hD (by decide) (by decide) dX4_readCommand_104
              · rw [if_neg c_67] at hF
                refine lv_aload_n hx hb dX4_readCommand_92 rfl (lv_at hl 2 rfl) ?_
                generalize hp_68 : (F_X4_readMany ln p_65.2.1 p_1.2.2 p_45.2.2 p_65.2.2.1 p_65.2.2.2.1 mn p_65.2.2.2.2 sg) = p_68 at hF
                rw [letp_eq] at hF
                refine fc_ci (isC := [0, 1]) (cells' := 0) (slots' := 0) (fc_runV (n := 0) (As := []) (rest := []) (isC := [0, 1]) (maxL := 2) ⟨hx, hb, hml, hown, hts⟩ (c_X4_readMany x s0 ln p_65.2.1 p_1.2.2 p_45.2.2 p_65.2.2.1 p_65.2.2.2.1 mn p_65.2.2.2.2 sg hC H.size) gX4_readCommand_X4_readMany rfl (by decide +kernel) rfl ⟨Nat.le_of_ble_eq_true rfl, Nat.le_of_ble_eq_true rfl⟩ ⟨Nat.le_of_ble_eq_true rfl, Nat.le_of_ble_eq_true rfl⟩ hE hP hD hS hA rfl rfl (va_recv hE.1 hP (ci := 8) (q0 := 0) rfl rfl) hl rfl (Nat.le_of_ble_eq_true rfl) dX4_readCommand_93) hP hD hS hA rfl (fun _ => rfl) rfl rfl (fun r_69 _ H locs hr_69 hP hD hS => ?_)
                rw [hp_68] at hr_69 hP hD
                obtain rfl : p_68.1 = r_69 := hr_69.symm
                dsimp only [fs, List.set] at hP hD
                have hP : va_P D vwCl [(x, .inr (8, [.ref s0, .int ln, .int p_68.2.1, .int p_1.2.2, .int p_45.2.2, .int p_65.2.2.1, .int p_65.2.2.2.1, .int p_68.2.2.1, .int p_68.2.2.2])), (s0, .inl (k.2.1, 60, .inl sg))] H := hP
                have hD : va_D A [(x, .inr (8, [.ref s0, .int ln, .int p_68.2.1, .int p_1.2.2, .int p_45.2.2, .int p_65.2.2.1, .int p_65.2.2.2.1, .int p_68.2.2.1, .int p_68.2.2.2])), (s0, .inl (k.2.1, 60, .inl sg))] := hD
                refine lv_if_eq (tgt := 103) hx hb dX4_readCommand_96 (by decide) (fun c_70 => ?_) (fun c_70 => ?_)
                · rw [if_pos c_70] at hF
                  refine lv_iconst (v := 0) hx hb dX4_readCommand_103 (by decide) ?_
                  subst hF
                  exact fc_iret hx hb hr rfl hlk hS () rfl hP hD (by decide) (by decide) dX4_readCommand_104
                · rw [if_neg c_70] at hF
                  refine lv_iconst (v := 1) hx hb dX4_readCommand_99 (by decide) ?_
                  refine lv_goto (tgt := 104) hx hb dX4_readCommand_100 (by decide) ?_
                  subst hF
                  exact fc_iret hx hb hr rfl hlk hS () rfl hP hD (by decide) (by decide) dX4_readCommand_104
        · rw [if_neg c_59] at hF
          refine lv_aload_n hx hb dX4_readCommand_54 rfl (lv_at hl 1 rfl) ?_
          refine va_get (D := D) (ci := 8) (v := .int p_1.2.2) (C := RX4) (T := TX4) (N := 9) hx hb hts in_X4_readCommand_X4 hown hE.1 hP 0 rfl rfl 3 (by decide) (hts _ lk_X4_readCommand_22) (fun _ h9 => h9) rfl dX4_readCommand_55 ?_
          refine lv_iconst (v := 3) hx hb dX4_readCommand_58 (by decide) ?_
          refine lv_icmp_ne (tgt := 66) hx hb dX4_readCommand_59 (by decide) (fun c_71 => ?_) (fun c_71 => ?_)
          · rw [if_neg c_71] at hF
            refine lv_iconst (v := 0) hx hb dX4_readCommand_66 (by decide) ?_
            refine lv_istore_n (lv' := [(2, .int (0 : Int32)), (1, .int p_45.1), (0, .ref x)]) hx hb dX4_readCommand_67 rfl hl (by decide) rfl (fun ls hl => ?_)
            refine lv_iload_n hx hb dX4_readCommand_68 rfl (lv_at hl 1 rfl) ?_
            refine lv_if_eq (tgt := 103) hx hb dX4_readCommand_69 (by decide) (fun c_72 => ?_) (fun c_72 => ?_)
            · rw [if_pos c_72] at hF
              refine lv_iconst (v := 0) hx hb dX4_readCommand_103 (by decide) ?_
              subst hF
              exact fc_iret hx hb hr rfl hlk hS () rfl hP hD (by decide) (by decide) dX4_readCommand_104
            · rw [if_neg c_72] at hF
              refine lv_iload_n hx hb dX4_readCommand_72 rfl (lv_at hl 0 rfl) ?_
              refine lv_if_eq (tgt := 99) hx hb dX4_readCommand_73 (by decide) (fun c_73 => ?_) (fun c_73 => absurd c_73 (by decide))
              refine lv_iconst (v := 1) hx hb dX4_readCommand_99 (by decide) ?_
              refine lv_goto (tgt := 104) hx hb dX4_readCommand_100 (by decide) ?_
              subst hF
              exact fc_iret hx hb hr rfl hlk hS () rfl hP hD (by decide) (by decide) dX4_readCommand_104
          · rw [if_pos c_71] at hF
            refine lv_iconst (v := 1) hx hb dX4_readCommand_62 (by decide) ?_
            refine lv_goto (tgt := 67) hx hb dX4_readCommand_63 (by decide) ?_
            refine lv_istore_n (lv' := [(2, .int (1 : Int32)), (1, .int p_45.1), (0, .ref x)]) hx hb dX4_readCommand_67 rfl hl (by decide) rfl (fun ls hl => ?_)
            refine lv_iload_n hx hb dX4_readCommand_68 rfl (lv_at hl 1 rfl) ?_
            refine lv_if_eq (tgt := 103) hx hb dX4_readCommand_69 (by decide) (fun c_74 => ?_) (fun c_74 => ?_)
            · rw [if_pos c_74] at hF
              refine lv_iconst (v := 0) hx hb dX4_readCommand_103 (by decide) ?_
              subst hF
              exact fc_iret hx hb hr rfl hlk hS () rfl hP hD (by decide) (by decide) dX4_readCommand_104
            · rw [if_neg c_74] at hF
              refine lv_iload_n hx hb dX4_readCommand_72 rfl (lv_at hl 0 rfl) ?_
              refine lv_if_eq (tgt := 99) hx hb dX4_readCommand_73 (by decide) (fun c_75 => absurd c_75 (by decide)) (fun c_75 => ?_)
              refine lv_aload_n hx hb dX4_readCommand_76 rfl (lv_at hl 2 rfl) ?_
              refine lv_bipush (v := 32) hx hb dX4_readCommand_77 (by decide) ?_
              generalize hp_76 : (F_X4_readSign ln p_45.2.1 p_1.2.2 p_45.2.2 tw dy mn p_45.2.2 sg (32 : Int32)) = p_76 at hF
              rw [letp_eq] at hF
              refine fc_ci (isC := [0, 1]) (cells' := 0) (slots' := 0) (fc_runV (n := 1) (As := [.int (32 : Int32)]) (rest := []) (isC := [0, 1]) (maxL := 2) ⟨hx, hb, hml, hown, hts⟩ (c_X4_readSign x s0 ln p_45.2.1 p_1.2.2 p_45.2.2 tw dy mn p_45.2.2 sg (32 : Int32) hC H.size) gX4_readCommand_X4_readSign rfl (by decide +kernel) rfl ⟨Nat.le_of_ble_eq_true rfl, Nat.le_of_ble_eq_true rfl⟩ ⟨Nat.le_of_ble_eq_true rfl, Nat.le_of_ble_eq_true rfl⟩ hE hP hD hS hA rfl rfl (va_recv hE.1 hP (ci := 8) (q0 := 0) rfl rfl) hl rfl (Nat.le_of_ble_eq_true rfl) dX4_readCommand_79) hP hD hS hA rfl (fun _ => rfl) rfl rfl (fun r_77 _ H locs hr_77 hP hD hS => ?_)
              rw [hp_76] at hr_77 hP hD
              obtain rfl : p_76.1 = r_77 := hr_77.symm
              dsimp only [fs, List.set] at hP hD
              have hP : va_P D vwCl [(x, .inr (8, [.ref s0, .int ln, .int p_76.2, .int p_1.2.2, .int p_45.2.2, .int tw, .int dy, .int mn, .int p_45.2.2])), (s0, .inl (k.2.1, 60, .inl sg))] H := hP
              have hD : va_D A [(x, .inr (8, [.ref s0, .int ln, .int p_76.2, .int p_1.2.2, .int p_45.2.2, .int tw, .int dy, .int mn, .int p_45.2.2])), (s0, .inl (k.2.1, 60, .inl sg))] := hD
              refine lv_if_eq (tgt := 103) hx hb dX4_readCommand_82 (by decide) (fun c_78 => ?_) (fun c_78 => ?_)
              · rw [if_pos c_78] at hF
                refine lv_iconst (v := 0) hx hb dX4_readCommand_103 (by decide) ?_
                subst hF
                exact fc_iret hx hb hr rfl hlk hS () rfl hP hD (by decide) (by decide) dX4_readCommand_104
              · rw [if_neg c_78] at hF
                refine lv_aload_n hx hb dX4_readCommand_85 rfl (lv_at hl 2 rfl) ?_
                generalize hp_79 : (F_X4_readPlace ln p_76.2 p_1.2.2 p_45.2.2 tw dy mn p_45.2.2 sg) = p_79 at hF
                rw [letp_eq] at hF
                refine fc_ci (isC := [0, 1]) (cells' := 0) (slots' := 0) (fc_runV (n := 0) (As := []) (rest := []) (isC := [0, 1]) (maxL := 3) ⟨hx, hb, hml, hown, hts⟩ (c_X4_readPlace x s0 ln p_76.2 p_1.2.2 p_45.2.2 tw dy mn p_45.2.2 sg hC H.size) gX4_readCommand_X4_readPlace rfl (by decide +kernel) rfl ⟨Nat.le_of_ble_eq_true rfl, Nat.le_of_ble_eq_true rfl⟩ ⟨Nat.le_of_ble_eq_true rfl, Nat.le_of_ble_eq_true rfl⟩ hE hP hD hS hA rfl rfl (va_recv hE.1 hP (ci := 8) (q0 := 0) rfl rfl) hl rfl (Nat.le_of_ble_eq_true rfl) dX4_readCommand_86) hP hD hS hA rfl (fun _ => rfl) rfl rfl (fun r_80 _ H locs hr_80 hP hD hS => ?_)
                rw [hp_79] at hr_80 hP hD
                obtain rfl : p_79.1 = r_80 := hr_80.symm
                dsimp only [fs, List.set] at hP hD
                have hP : va_P D vwCl [(x, .inr (8, [.ref s0, .int ln, .int p_79.2.1, .int p_1.2.2, .int p_45.2.2, .int p_79.2.2.1, .int p_79.2.2.2.1, .int mn, .int p_79.2.2.2.2])), (s0, .inl (k.2.1, 60, .inl sg))] H := hP
                have hD : va_D A [(x, .inr (8, [.ref s0, .int ln, .int p_79.2.1, .int p_1.2.2, .int p_45.2.2, .int p_79.2.2.1, .int p_79.2.2.2.1, .int mn, .int p_79.2.2.2.2])), (s0, .inl (k.2.1, 60, .inl sg))] := hD
                refine lv_if_eq (tgt := 103) hx hb dX4_readCommand_89 (by decide) (fun c_81 => ?_) (fun c_81 => ?_)
                · rw [if_pos c_81] at hF
                  refine lv_iconst (v := 0) hx hb dX4_readCommand_103 (by decide) ?_
                  subst hF
                  exact fc_iret hx hb hr rfl hlk hS () rfl hP hD (by decide) (by decide) dX4_readCommand_104
                · rw [if_neg c_81] at hF
                  refine lv_aload_n hx hb dX4_readCommand_92 rfl (lv_at hl 2 rfl) ?_
                  generalize hp_82 : (F_X4_readMany ln p_79.2.1 p_1.2.2 p_45.2.2 p_79.2.2.1 p_79.2.2.2.1 mn p_79.2.2.2.2 sg) = p_82 at hF
                  rw [letp_eq] at hF
                  refine fc_ci (isC := [0, 1]) (cells' := 0) (slots' := 0) (fc_runV (n := 0) (As := []) (rest := []) (isC := [0, 1]) (maxL := 2) ⟨hx, hb, hml, hown, hts⟩ (c_X4_readMany x s0 ln p_79.2.1 p_1.2.2 p_45.2.2 p_79.2.2.1 p_79.2.2.2.1 mn p_79.2.2.2.2 sg hC H.size) gX4_readCommand_X4_readMany rfl (by decide +kernel) rfl ⟨Nat.le_of_ble_eq_true rfl, Nat.le_of_ble_eq_true rfl⟩ ⟨Nat.le_of_ble_eq_true rfl, Nat.le_of_ble_eq_true rfl⟩ hE hP hD hS hA rfl rfl (va_recv hE.1 hP (ci := 8) (q0 := 0) rfl rfl) hl rfl (Nat.le_of_ble_eq_true rfl) dX4_readCommand_93) hP hD hS hA rfl (fun _ => rfl) rfl rfl (fun r_83 _ H locs hr_83 hP hD hS => ?_)
                  rw [hp_82] at hr_83 hP hD
                  obtain rfl : p_82.1 = r_83 := hr_83.symm
                  dsimp only [fs, List.set] at hP hD
                  have hP : va_P D vwCl [(x, .inr (8, [.ref s0, .int ln, .int p_82.2.1, .int p_1.2.2, .int p_45.2.2, .int p_79.2.2.1, .int p_79.2.2.2.1, .int p_82.2.2.1, .int p_82.2.2.2])), (s0, .inl (k.2.1, 60, .inl sg))] H := hP
                  have hD : va_D A [(x, .inr (8, [.ref s0, .int ln, .int p_82.2.1, .int p_1.2.2, .int p_45.2.2, .int p_79.2.2.1, .int p_79.2.2.2.1, .int p_82.2.2.1, .int p_82.2.2.2])), (s0, .inl (k.2.1, 60, .inl sg))] := hD
                  refine lv_if_eq (tgt := 103) hx hb dX4_readCommand_96 (by decide) (fun c_84 => ?_) (fun c_84 => ?_)
                  · rw [if_pos c_84] at hF
                    refine lv_iconst (v := 0) hx hb dX4_readCommand_103 (by decide) ?_
                    subst hF
                    exact fc_iret hx hb hr rfl hlk hS () rfl hP hD (by decide) (by decide) dX4_readCommand_104
                  · rw [if_neg c_84] at hF
                    refine lv_iconst (v := 1) hx hb dX4_readCommand_99 (by decide) ?_
                    refine lv_goto (tgt := 104) hx hb dX4_readCommand_100 (by decide) ?_
                    subst hF
                    exact fc_iret hx hb hr rfl hlk hS () rfl hP hD (by decide) (by decide) dX4_readCommand_104
  · rw [if_pos c_3] at hF
    refine lv_iconst (v := 0) hx hb dX4_readCommand_7 (by decide) ?_
    subst hF
    exact fc_iret hx hb hr rfl hlk hS () rfl hP hD (by decide) (by decide) dX4_readCommand_8

abbrev rm_X4_findFault : Room := { frames := 7, cells := 0, slots := 0, locals := 152 }
theorem in_X4_findFault_X4 : ∀ w ∈ wsX40, w ∈ wsX4_findFault := by decide +kernel
theorem lk_X4_findFault_15 : (Cond.fieldLink RX4 15 "TheatreSaga$Text" "length" "I") ∈ wsX4_findFault := by decide +kernel
theorem lk_X4_findFault_19 : (Cond.fieldLink RX4 19 "TheatreSaga$Text" "at" "I") ∈ wsX4_findFault := by decide +kernel
def FL_X4_findFault_6 : Nat → Int32 → Int32 → Int32 → Int32 → Int32 → Int32 → Int32 → Int32 → (Nat → Int32) → Int32 → Int32 × Int32 × Int32 × Int32 × Int32 × Int32 × Int32 × Int32
  | 0, ln, tp, wd, fi, tw, dy, mn, vl, sg, x1 => (0, tp, wd, fi, tw, dy, mn, vl)
  | n + 1, ln, tp, wd, fi, tw, dy, mn, vl, sg, x1 => (if (60 : Int32) ≤ x1 then (tp, tp, wd, fi, tw, dy, mn, vl) else (letp (F_X4_readCommand ln tp wd fi tw dy mn vl sg) (fun (p_2 : Int32 × Int32 × Int32 × Int32 × Int32 × Int32 × Int32 × Int32) => (if p_2.1 = (0 : Int32) then (p_2.2.1, p_2.2.1, p_2.2.2.1, p_2.2.2.2.1, p_2.2.2.2.2.1, p_2.2.2.2.2.2.1, p_2.2.2.2.2.2.2.1, p_2.2.2.2.2.2.2.2) else (letp (F_X4_readSign ln p_2.2.1 p_2.2.2.1 p_2.2.2.2.1 p_2.2.2.2.2.1 p_2.2.2.2.2.2.1 p_2.2.2.2.2.2.2.1 p_2.2.2.2.2.2.2.2 sg (59 : Int32)) (fun (p_5 : Int32 × Int32) => (if p_5.1 = (0 : Int32) then (if ln ≤ p_5.2 then ((-1 : Int32), p_5.2, p_2.2.2.1, p_2.2.2.2.1, p_2.2.2.2.2.1, p_2.2.2.2.2.2.1, p_2.2.2.2.2.2.2.1, p_2.2.2.2.2.2.2.2) else (p_5.2, p_5.2, p_2.2.2.1, p_2.2.2.2.1, p_2.2.2.2.2.1, p_2.2.2.2.2.2.1, p_2.2.2.2.2.2.2.1, p_2.2.2.2.2.2.2.2)) else (FL_X4_findFault_6 n ln p_5.2 p_2.2.2.1 p_2.2.2.2.1 p_2.2.2.2.2.1 p_2.2.2.2.2.2.1 p_2.2.2.2.2.2.2.1 p_2.2.2.2.2.2.2.2 sg (x1 + (1 : Int32))))))))))
def F_X4_findFault (ln : Int32) (tp : Int32) (wd : Int32) (fi : Int32) (tw : Int32) (dy : Int32) (mn : Int32) (vl : Int32) (sg : (Nat → Int32))  : Int32 × Int32 × Int32 × Int32 × Int32 × Int32 × Int32 × Int32 := (FL_X4_findFault_6 (61) ln (F_X4_rewind ln tp wd fi tw dy mn vl sg) wd fi tw dy mn vl sg (0 : Int32))
set_option maxHeartbeats 4000000 in
set_option maxRecDepth 100000 in
theorem lp_X4_findFault_6 {p : Program} {l : Launch} {e : Env} {s : State} {m : MethodId} {args : Array Value} {below : List Frame} {meth : Method} {c : Code} {D : va_G} {k : tyK} {A : Nat → Prop} (hx : p.tables.exec = Jvm.exec) (hb : c.code = cX4_findFault) (hml : c.maxLocals = 2) (hr : meth.sig.returnType = (some .int)) (hts : ∀ w ∈ wsX4_findFault, w.before args s = true) (hown : s.vm.findClass RX4 = some m.cls) (hlk : meth.locks = false) (hA : ∀ q : Nat, s.heap.size ≤ q → A q) (hE : GE D k A s) (x s0 : Nat) :
    ∀ (n : Nat) (ln : Int32) (tp : Int32) (wd : Int32) (fi : Int32) (tw : Int32) (dy : Int32) (mn : Int32) (vl : Int32) (sg : (Nat → Int32)) (x1 : Int32) (RES : Int32 × Int32 × Int32 × Int32 × Int32 × Int32 × Int32 × Int32), FL_X4_findFault_6 n ln tp wd fi tw dy mn vl sg x1 = RES → ((60 : Int32).toInt - (x1 : Int32).toInt).toNat < n → ChOK sg → ∀ (H : Heap) (locs : List Loc), va_P D vwCl [(x, .inr (8, [.ref s0, .int ln, .int tp, .int wd, .int fi, .int tw, .int dy, .int mn, .int vl])), (s0, .inl (k.2.1, 60, .inl sg))] H → va_D A [(x, .inr (8, [.ref s0, .int ln, .int tp, .int wd, .int fi, .int tw, .int dy, .int mn, .int vl])), (s0, .inl (k.2.1, 60, .inl sg))] → va_S A s.heap H locs → ∀ ls : Array Slot, lv_has ls 2 [(0, .ref x), (1, .int x1)] → W p l e rm_X4_findFault s m args below meth c H locs 0 0 (MQ below (va_Qi (fun r (_ : Unit) => r = RES.1) (Bt D (fun _ => [(x, .inr (8, [.ref s0, .int ln, .int RES.2.1, .int RES.2.2.1, .int RES.2.2.2.1, .int RES.2.2.2.2.1, .int RES.2.2.2.2.2.1, .int RES.2.2.2.2.2.2.1, .int RES.2.2.2.2.2.2.2])), (s0, .inl (k.2.1, 60, .inl sg))]) A) A) args s rm_X4_findFault.cells rm_X4_findFault.slots A) (F0 m 6 ls []) := by
  intro n
  induction n with
  | zero =>
    intro ln tp wd fi tw dy mn vl sg x1 RES hF hm hC H locs hP hD hS ls hl
    exact absurd hm (Nat.not_lt_zero _)
  | succ n ih =>
    intro ln tp wd fi tw dy mn vl sg x1 RES hF hm hC H locs hP hD hS ls hl
    rw [FL_X4_findFault_6] at hF
    refine lv_iload_n hx hb dX4_findFault_6 rfl (lv_at hl 1 rfl) ?_
    refine lv_bipush (v := 60) hx hb dX4_findFault_7 (by decide) ?_
    refine lv_icmp_ge (tgt := 59) hx hb dX4_findFault_9 (by decide) (fun c_1 => ?_) (fun c_1 => ?_)
    · rw [if_pos c_1] at hF
      refine lv_aload_n hx hb dX4_findFault_59 rfl (lv_at hl 0 rfl) ?_
      refine va_get (D := D) (ci := 8) (v := .int tp) (C := RX4) (T := TX4) (N := 9) hx hb hts in_X4_findFault_X4 hown hE.1 hP 0 rfl rfl 2 (by decide) (hts _ lk_X4_findFault_19) (fun _ h9 => h9) rfl dX4_findFault_60 ?_
      subst hF
      exact fc_iret hx hb hr rfl hlk hS () rfl hP hD (by decide) (by decide) dX4_findFault_63
    · rw [if_neg c_1] at hF
      refine lv_aload_n hx hb dX4_findFault_12 rfl (lv_at hl 0 rfl) ?_
      generalize hp_2 : (F_X4_readCommand ln tp wd fi tw dy mn vl sg) = p_2 at hF
      rw [letp_eq] at hF
      refine fc_ci (isC := [0, 1]) (cells' := 0) (slots' := 0) (fc_runV (n := 0) (As := []) (rest := []) (isC := [0, 1]) (maxL := 3) ⟨hx, hb, hml, hown, hts⟩ (c_X4_readCommand x s0 ln tp wd fi tw dy mn vl sg hC H.size) gX4_findFault_X4_readCommand rfl (by decide +kernel) rfl ⟨Nat.le_of_ble_eq_true rfl, Nat.le_of_ble_eq_true rfl⟩ ⟨Nat.le_of_ble_eq_true rfl, Nat.le_of_ble_eq_true rfl⟩ hE hP hD hS hA rfl rfl (va_recv hE.1 hP (ci := 8) (q0 := 0) rfl rfl) hl rfl (Nat.le_of_ble_eq_true rfl) dX4_findFault_13) hP hD hS hA rfl (fun _ => rfl) rfl rfl (fun r_3 _ H locs hr_3 hP hD hS => ?_)
      rw [hp_2] at hr_3 hP hD
      obtain rfl : p_2.1 = r_3 := hr_3.symm
      dsimp only [fs, List.set] at hP hD
      have hP : va_P D vwCl [(x, .inr (8, [.ref s0, .int ln, .int p_2.2.1, .int p_2.2.2.1, .int p_2.2.2.2.1, .int p_2.2.2.2.2.1, .int p_2.2.2.2.2.2.1, .int p_2.2.2.2.2.2.2.1, .int p_2.2.2.2.2.2.2.2])), (s0, .inl (k.2.1, 60, .inl sg))] H := hP
      have hD : va_D A [(x, .inr (8, [.ref s0, .int ln, .int p_2.2.1, .int p_2.2.2.1, .int p_2.2.2.2.1, .int p_2.2.2.2.2.1, .int p_2.2.2.2.2.2.1, .int p_2.2.2.2.2.2.2.1, .int p_2.2.2.2.2.2.2.2])), (s0, .inl (k.2.1, 60, .inl sg))] := hD
      refine lv_if_ne (tgt := 24) hx hb dX4_findFault_16 (by decide) (fun c_4 => ?_) (fun c_4 => ?_)
      · rw [if_neg c_4] at hF
        refine lv_aload_n hx hb dX4_findFault_24 rfl (lv_at hl 0 rfl) ?_
        refine lv_bipush (v := 59) hx hb dX4_findFault_25 (by decide) ?_
        generalize hp_5 : (F_X4_readSign ln p_2.2.1 p_2.2.2.1 p_2.2.2.2.1 p_2.2.2.2.2.1 p_2.2.2.2.2.2.1 p_2.2.2.2.2.2.2.1 p_2.2.2.2.2.2.2.2 sg (59 : Int32)) = p_5 at hF
        rw [letp_eq] at hF
        refine fc_ci (isC := [0, 1]) (cells' := 0) (slots' := 0) (fc_runV (n := 1) (As := [.int (59 : Int32)]) (rest := []) (isC := [0, 1]) (maxL := 2) ⟨hx, hb, hml, hown, hts⟩ (c_X4_readSign x s0 ln p_2.2.1 p_2.2.2.1 p_2.2.2.2.1 p_2.2.2.2.2.1 p_2.2.2.2.2.2.1 p_2.2.2.2.2.2.2.1 p_2.2.2.2.2.2.2.2 sg (59 : Int32) hC H.size) gX4_findFault_X4_readSign rfl (by decide +kernel) rfl ⟨Nat.le_of_ble_eq_true rfl, Nat.le_of_ble_eq_true rfl⟩ ⟨Nat.le_of_ble_eq_true rfl, Nat.le_of_ble_eq_true rfl⟩ hE hP hD hS hA rfl rfl (va_recv hE.1 hP (ci := 8) (q0 := 0) rfl rfl) hl rfl (Nat.le_of_ble_eq_true rfl) dX4_findFault_27) hP hD hS hA rfl (fun _ => rfl) rfl rfl (fun r_6 _ H locs hr_6 hP hD hS => ?_)
        rw [hp_5] at hr_6 hP hD
        obtain rfl : p_5.1 = r_6 := hr_6.symm
        dsimp only [fs, List.set] at hP hD
        have hP : va_P D vwCl [(x, .inr (8, [.ref s0, .int ln, .int p_5.2, .int p_2.2.2.1, .int p_2.2.2.2.1, .int p_2.2.2.2.2.1, .int p_2.2.2.2.2.2.1, .int p_2.2.2.2.2.2.2.1, .int p_2.2.2.2.2.2.2.2])), (s0, .inl (k.2.1, 60, .inl sg))] H := hP
        have hD : va_D A [(x, .inr (8, [.ref s0, .int ln, .int p_5.2, .int p_2.2.2.1, .int p_2.2.2.2.1, .int p_2.2.2.2.2.1, .int p_2.2.2.2.2.2.1, .int p_2.2.2.2.2.2.2.1, .int p_2.2.2.2.2.2.2.2])), (s0, .inl (k.2.1, 60, .inl sg))] := hD
        refine lv_if_ne (tgt := 53) hx hb dX4_findFault_30 (by decide) (fun c_7 => ?_) (fun c_7 => ?_)
        · rw [if_neg c_7] at hF
          refine lv_iinc (v := (x1 + (1 : Int32))) (lv' := [(1, .int (x1 + (1 : Int32))), (0, .ref x)]) hx hb dX4_findFault_53 hl (k := 1) rfl rfl (by decide) rfl (fun ls hl => ?_)
          refine lv_goto (tgt := 6) hx hb dX4_findFault_56 (by decide) ?_
          exact ih ln p_5.2 p_2.2.2.1 p_2.2.2.2.1 p_2.2.2.2.2.1 p_2.2.2.2.2.2.1 p_2.2.2.2.2.2.2.1 p_2.2.2.2.2.2.2.2 sg (x1 + (1 : Int32)) RES hF (lp_step c_1 hm) hC H locs hP hD hS ls (lv_sub hl [1, 0] rfl)
        · rw [if_pos c_7] at hF
          refine lv_aload_n hx hb dX4_findFault_33 rfl (lv_at hl 0 rfl) ?_
          refine va_get (D := D) (ci := 8) (v := .int p_5.2) (C := RX4) (T := TX4) (N := 9) hx hb hts in_X4_findFault_X4 hown hE.1 hP 0 rfl rfl 2 (by decide) (hts _ lk_X4_findFault_19) (fun _ h9 => h9) rfl dX4_findFault_34 ?_
          refine lv_aload_n hx hb dX4_findFault_37 rfl (lv_at hl 0 rfl) ?_
          refine va_get (D := D) (ci := 8) (v := .int ln) (C := RX4) (T := TX4) (N := 9) hx hb hts in_X4_findFault_X4 hown hE.1 hP 0 rfl rfl 1 (by decide) (hts _ lk_X4_findFault_15) (fun _ h9 => h9) rfl dX4_findFault_38 ?_
          refine lv_icmp_ge (tgt := 51) hx hb dX4_findFault_41 (by decide) (fun c_8 => ?_) (fun c_8 => ?_)
          · rw [if_pos c_8] at hF
            refine lv_iconst (v := -1) hx hb dX4_findFault_51 (by decide) ?_
            subst hF
            exact fc_iret hx hb hr rfl hlk hS () rfl hP hD (by decide) (by decide) dX4_findFault_52
          · rw [if_neg c_8] at hF
            refine lv_aload_n hx hb dX4_findFault_44 rfl (lv_at hl 0 rfl) ?_
            refine va_get (D := D) (ci := 8) (v := .int p_5.2) (C := RX4) (T := TX4) (N := 9) hx hb hts in_X4_findFault_X4 hown hE.1 hP 0 rfl rfl 2 (by decide) (hts _ lk_X4_findFault_19) (fun _ h9 => h9) rfl dX4_findFault_45 ?_
            refine lv_goto (tgt := 52) hx hb dX4_findFault_48 (by decide) ?_
            subst hF
            exact fc_iret hx hb hr rfl hlk hS () rfl hP hD (by decide) (by decide) dX4_findFault_52
      · rw [if_pos c_4] at hF
        refine lv_aload_n hx hb dX4_findFault_19 rfl (lv_at hl 0 rfl) ?_
        refine va_get (D := D) (ci := 8) (v := .int p_2.2.1) (C := RX4) (T := TX4) (N := 9) hx hb hts in_X4_findFault_X4 hown hE.1 hP 0 rfl rfl 2 (by decide) (hts _ lk_X4_findFault_19) (fun _ h9 => h9) rfl dX4_findFault_20 ?_
        subst hF
        exact fc_iret hx hb hr rfl hlk hS () rfl hP hD (by decide) (by decide) dX4_findFault_23
set_option maxHeartbeats 4000000 in
set_option maxRecDepth 100000 in
theorem c_X4_findFault {l : Launch} {D : va_G} {k : tyK} (x s0 : Nat) (ln : Int32) (tp : Int32) (wd : Int32) (fi : Int32) (tw : Int32) (dy : Int32) (mn : Int32) (vl : Int32) (sg : (Nat → Int32))  (hC : ChOK sg) : FCi l yX4_findFault wsX4_findFault rm_X4_findFault D k [.ref x] [(x, .inr (8, [.ref s0, .int ln, .int tp, .int wd, .int fi, .int tw, .int dy, .int mn, .int vl])), (s0, .inl (k.2.1, 60, .inl sg))] (fun r (_ : Unit) => r = (F_X4_findFault ln tp wd fi tw dy mn vl sg).1) (fun _ => [(x, .inr (8, [.ref s0, .int ln, .int (F_X4_findFault ln tp wd fi tw dy mn vl sg).2.1, .int (F_X4_findFault ln tp wd fi tw dy mn vl sg).2.2.1, .int (F_X4_findFault ln tp wd fi tw dy mn vl sg).2.2.2.1, .int (F_X4_findFault ln tp wd fi tw dy mn vl sg).2.2.2.2.1, .int (F_X4_findFault ln tp wd fi tw dy mn vl sg).2.2.2.2.2.1, .int (F_X4_findFault ln tp wd fi tw dy mn vl sg).2.2.2.2.2.2.1, .int (F_X4_findFault ln tp wd fi tw dy mn vl sg).2.2.2.2.2.2.2])), (s0, .inl (k.2.1, 60, .inl sg))]) := by
  refine fc_start (cc := cX4_findFault) (maxL := 2) (ret := (some .int)) (own := RX4) (Qc := fun A => va_Qi (fun r (_ : Unit) => r = (F_X4_findFault ln tp wd fi tw dy mn vl sg).1) (Bt D (fun _ => [(x, .inr (8, [.ref s0, .int ln, .int (F_X4_findFault ln tp wd fi tw dy mn vl sg).2.1, .int (F_X4_findFault ln tp wd fi tw dy mn vl sg).2.2.1, .int (F_X4_findFault ln tp wd fi tw dy mn vl sg).2.2.2.1, .int (F_X4_findFault ln tp wd fi tw dy mn vl sg).2.2.2.2.1, .int (F_X4_findFault ln tp wd fi tw dy mn vl sg).2.2.2.2.2.1, .int (F_X4_findFault ln tp wd fi tw dy mn vl sg).2.2.2.2.2.2.1, .int (F_X4_findFault ln tp wd fi tw dy mn vl sg).2.2.2.2.2.2.2])), (s0, .inl (k.2.1, 60, .inl sg))]) A) A) (by decide) rfl rfl (Nat.le_of_ble_eq_true rfl) ?_
  intro p e s m below meth c A H hx hb hml hr hts hown hlk hname hA hP hE hD hS ls hl
  obtain ⟨RES, hF⟩ : ∃ z, (F_X4_findFault ln tp wd fi tw dy mn vl sg) = z := ⟨_, rfl⟩
  rw [hF]
  unfold F_X4_findFault at hF
  have hl : lv_has ls 2 [(0, .ref x)] := hl
  obtain ⟨locs, hlocs⟩ : ∃ z : List Loc, z = [] := ⟨_, rfl⟩
  rw [← hlocs] at hS ⊢
  refine lv_aload_n hx hb dX4_findFault_0 rfl (lv_at hl 0 rfl) ?_
  refine fc_cv (isC := [0, 1]) (cells' := 0) (slots' := 0) (fc_runV (n := 0) (As := []) (rest := []) (isC := [0, 1]) (maxL := 1) ⟨hx, hb, hml, hown, hts⟩ (c_X4_rewind x s0 ln tp wd fi tw dy mn vl sg H.size) gX4_findFault_X4_rewind rfl (by decide +kernel) rfl ⟨Nat.le_of_ble_eq_true rfl, Nat.le_of_ble_eq_true rfl⟩ ⟨Nat.le_of_ble_eq_true rfl, Nat.le_of_ble_eq_true rfl⟩ hE hP hD hS hA rfl rfl (va_recv hE.1 hP (ci := 8) (q0 := 0) rfl rfl) hl rfl (Nat.le_of_ble_eq_true rfl) dX4_findFault_1) hP hD hS hA rfl (fun _ => rfl) rfl rfl (fun _ H locs _ hP hD hS => ?_)
  dsimp only [fs, List.set] at hP hD
  have hP : va_P D vwCl [(x, .inr (8, [.ref s0, .int ln, .int (F_X4_rewind ln tp wd fi tw dy mn vl sg), .int wd, .int fi, .int tw, .int dy, .int mn, .int vl])), (s0, .inl (k.2.1, 60, .inl sg))] H := hP
  have hD : va_D A [(x, .inr (8, [.ref s0, .int ln, .int (F_X4_rewind ln tp wd fi tw dy mn vl sg), .int wd, .int fi, .int tw, .int dy, .int mn, .int vl])), (s0, .inl (k.2.1, 60, .inl sg))] := hD
  refine lv_iconst (v := 0) hx hb dX4_findFault_4 (by decide) ?_
  refine lv_istore_n (lv' := [(1, .int (0 : Int32)), (0, .ref x)]) hx hb dX4_findFault_5 rfl hl (by decide) rfl (fun ls hl => ?_)
  exact lp_X4_findFault_6 hx hb hml hr hts hown hlk hA hE x s0 (61) ln (F_X4_rewind ln tp wd fi tw dy mn vl sg) wd fi tw dy mn vl sg (0 : Int32) RES hF (by decide) hC H locs hP hD hS ls (lv_sub hl [1, 0] rfl)
end
