section TSline2
def mlZ (ml : Int32) (txt : List Int32) : Int32 := if nI txt.length ≤ (0 : Int32) then ml else (1 : Int32)
theorem F_setLength0 (ml : Int32) (txt : List Int32) (bt : Nat → Int32) : F_J4_setLength_d00df ml (nI txt.length) bt (0 : Int32) = (mlZ ml txt, (0 : Int32)) := by
  unfold F_J4_setLength_d00df F_J5_setLength_d00df mlZ
  rw [letp_eq]
  split <;> rfl
theorem cT_J4_setLength0 {l : Launch} {D : va_G} {k : tyK} (sb va : Nat) (cap : Nat) (ml : Int32) (txt : List Int32) (bt : (Nat → Int32)) (ok : SBok txt cap bt) : FCv l yJ4_setLength_d00df wsJ4_setLength_d00df rm_J4_setLength_d00df D k [.ref sb, .int (0 : Int32)] [(sb, .inr (1, [.ref va, .int (0 : Int32), .int ml, .int (nI txt.length)])), (va, .inl (k.2.2.1, cap, .inl bt))] (fun (_ : Unit) => True) (fun _ => [(sb, .inr (1, [.ref va, .int (0 : Int32), .int (mlZ ml txt), .int (nI ([] : List Int32).length)])), (va, .inl (k.2.2.1, cap, .inl bt))]) := by
  have h142 := ok.lt.1
  have hl := ok.2.1
  have h := c_J4_setLength_d00df (l := l) (D := D) (k := k) sb va cap ml (nI txt.length) bt (0 : Int32) (by rw [sb_shr0, Int32.le_iff_toInt_le]; show (nI 0 - nI cap).toInt ≤ 0; rw [pk_sub_toInt (by decide) (by omega)]; omega) (Int32.le_refl 0) (nI_pos' (by omega))
  rw [F_setLength0] at h
  exact h
theorem len_X3_writeStep (ml : Int32) (txt : List Int32) (f : Nat → Int32) (it is : Int32) : (F_X3_writeStep ml txt f it is).length ≤ txt.length + 10 := by
  unfold F_X3_writeStep
  have i1 := @sbI_len (F_X0_get f (F_X6_ofStep it is (1 : Int32)))
  have i2 := @sbI_len (F_X0_get f (F_X6_ofStep it is (2 : Int32)))
  have i3 := @sbI_len (F_X0_get f (F_X6_ofStep it is (3 : Int32)))
  split <;> (simp only [List.length_append, List.length_cons, List.length_nil]; omega)
end TSline2
