section
section
variable {g : RO} {Q : Ot → Hw → Prop} {w0 w : Hw}
def bOK (N : Nat) (f : Nat → Int32) : Prop := ∀ j, j < N → fits .byte (.int (f j)) = true
theorem i8_rng (v : Int32) : fits .byte (.int v.toInt8.toInt32) = true := by
  have h1 := Int8.le_toInt v.toInt8
  have h2 := Int8.toInt_lt v.toInt8
  have e0 := Int8.toInt_toInt32 v.toInt8
  have a : (-128 : Int32) ≤ v.toInt8.toInt32 := Int32.le_iff_toInt_le.mpr (by have e : (-128 : Int32).toInt = -128 := by decide
                                                                              omega)
  have b : v.toInt8.toInt32 ≤ (127 : Int32) := Int32.le_iff_toInt_le.mpr (by have e : (127 : Int32).toInt = 127 := rfl
                                                                             omega)
  simp only [fits, Bool.and_eq_true, decide_eq_true_eq]
  exact ⟨a, b⟩
theorem bOK_up {N : Nat} {f : Nat → Int32} (h : bOK N f) (j : Nat) (v : Int32) : bOK N (upd f j (vp_nar .byte v)) := fun i hi => by
  unfold upd
  split
  · rw [vp_nar_byte]
    exact i8_rng v
  · exact h i hi
theorem bOK_0 (N : Nat) : bOK N (fun _ => 0) := fun _ _ => rfl
theorem bOK_cpy {N0 N1 sp dp n : Nat} {f0 f1 : Nat → Int32} (h0 : bOK N0 f0) (h1 : bOK N1 f1) (h : sp + n ≤ N0) : bOK N1 (va_cpy f0 f1 sp dp n) := fun i hi => by
  unfold va_cpy
  split
  · exact h0 _ (by omega)
  · exact h1 i hi
theorem upw2 {w : Hw} {a : Nat} {o o' : Ob} : upw (upw w a o) a o' = upw w a o' := by
  funext q
  unfold upw
  split <;> rfl
theorem vpiN {a : Int32} {N : Nat} (h0 : (0 : Int) ≤ a.toInt) (h1 : a.toInt < (N : Int)) : vp_in a N := by
  rintro (h | h)
  · have := i32_lt h
    have e : (0 : Int32).toInt = 0 := rfl
    omega
  · have e1 : a.toNatClampNeg = a.toInt.toNat := rfl
    omega
theorem i32_neg {a : Int32} (h : ¬ a < 0) : (-a).toInt = -a.toInt := by
  have h1 := i32_0 h
  have h2 := i32_bd a
  rw [Int32.toInt_neg]
  exact Int.bmod_eq_of_le (by omega) (by omega)
theorem nn {a : Int32} : - -a = a := Int32.neg_neg
/-- where the digits lie; that a text is of bytes -/
def DG (g : RO) (w : Hw) : Prop := g.1 1 = .int 1 ∧ (∃ (a : Nat) (f : Nat → Int32), g.1 2 = .ref a ∧ g.2 a = some (.inl (2, 100, .inl f)) ∧ w a = none) ∧ ∃ (a : Nat) (f : Nat → Int32), g.1 3 = .ref a ∧ g.2 a = some (.inl (2, 100, .inl f)) ∧ w a = none
theorem rd_r {g : RO} {w : Hw} {a : Nat} {o : Ob} (h : g.2 a = some o) (k : w a = none) : rd g w a = some o := by
  unfold rd; rw [k]; exact h
theorem DG.ext {g : RO} {w w' : Hw} (h : DG g w) (k : ext g w w') : DG g w' := by
  obtain ⟨h1, ⟨a, f, h2, h3, h4⟩, ⟨b, f', h5, h6, h7⟩⟩ := h
  exact ⟨h1, ⟨a, f, h2, h3, k.2 a _ h3 h4⟩, ⟨b, f', h5, h6, k.2 b _ h6 h7⟩⟩
theorem ss1 {a : Int32} (k0 : ¬ a < 0) (k1 : a < 10) : (-10 < -a) = True := eq_true (i32_of_lt (by
  rw [i32_neg k0]
  have e : (-10 : Int32).toInt = -10 := by decide
  have e2 : (10 : Int32).toInt = 10 := rfl
  have := i32_lt k1
  omega))
theorem ss2 {a : Int32} (k0 : ¬ a < 0) (k1 : a < 10) : (-100 < -a) = True := eq_true (i32_of_lt (by
  rw [i32_neg k0]
  have e : (-100 : Int32).toInt = -100 := by decide
  have e2 : (10 : Int32).toInt = 10 := rfl
  have := i32_lt k1
  omega))
theorem ss3 {a : Int32} (k0 : ¬ a < 0) (k1 : a < 10) : (-a < -9) = False := eq_false (i32_of_nlt (by
  rw [i32_neg k0]
  have e : (-9 : Int32).toInt = -9 := by decide
  have e2 : (10 : Int32).toInt = 10 := rfl
  have := i32_lt k1
  omega))
theorem s10 : ((1 : Int32) < 10) = True := eq_true (by decide)
theorem a10 : (1 : Int32) + 0 = 1 := rfl
set_option maxHeartbeats 4000000 in
theorem sJ6_stringSize_0f7a4 {a : Int32} (k0 : ¬ a < 0) (k1 : a < 10) (hQ : Q (.inl (some (.int 1))) w) : WP (MJ6_stringSize_0f7a4 g) Q (0, [some (.int a), none, none, none], [], w, 0, 0) := by
  have e0 : (a < 0) = False := eq_false k0
  simp only [eJ6_stringSize_0f7a4_0, eJ6_stringSize_0f7a4_2, eJ6_stringSize_0f7a4_6, eJ6_stringSize_0f7a4_8, eJ6_stringSize_0f7a4_11, e0, if_false, nl_int]
  with_reducible rw [eJ6_stringSize_0f7a4_16]
  simp only [eJ6_stringSize_0f7a4_17, eJ6_stringSize_0f7a4_22, eJ6_stringSize_0f7a4_27, eJ6_stringSize_0f7a4_31, eJ6_stringSize_0f7a4_42, ss1 k0 k1, s10, a10, if_true, ite_le, nl_int]
  with_reducible refine And.intro ?_ ?_
  omega
  with_reducible refine And.intro ?_ ?_
  omega
  with_reducible assumption
set_option maxHeartbeats 4000000 in
theorem sJ6_getChars_ba4f3 {a i : Int32} {d N : Nat} {f : Nat → Int32} (hd : w d = some (.inl (2, N, .inl f))) (hf : bOK N f) (hD : DG g w) (k0 : ¬ a < 0) (k1 : a < 10) (i0 : 0 < i.toInt) (i1 : i.toInt ≤ (N : Int)) (hQ : ∀ (f' : Nat → Int32) (v : Int32), bOK N f' → Q (.inl (some (.int v))) (upw w d (.inl (2, N, .inl f')))) : WP (MJ6_getChars_ba4f3 g) Q (0, [some (.int a), some (.int i), some (.ref d), none, none, none, none], [], w, 0, 0) := by
  have e0 : (a < 0) = False := eq_false k0
  obtain ⟨hc, ⟨a1, f1, g1, g2, g3⟩, ⟨a2, f2, g4, g5, g6⟩⟩ := hD
  have r1 := rd_r g2 g3
  have r2 := rd_r g5 g6
  have rdd := rd_e (g := g) hd
  have iv : vp_in (i + -1) N := by
    have bi := i32_bd i
    have e : (-1 : Int32).toInt = -1 := by decide
    have s : (i + -1).toInt = i.toInt - 1 := by
      rw [i32_add (by omega) (by omega), e]
      omega
    exact vpiN (by omega) (by omega)
  have av : vp_in a 100 := vpi k0 (Int32.lt_of_lt_of_le k1 (by decide) : a < 100) (by decide)
  simp only [eJ6_getChars_ba4f3_0, eJ6_getChars_ba4f3_7, eJ6_getChars_ba4f3_11, eJ6_getChars_ba4f3_12, eJ6_getChars_ba4f3_19, e0, if_true, if_false, ite_le, nl_int, nl_none]
  with_reducible rw [eJ6_getChars_ba4f3_22]
  simp only [eJ6_getChars_ba4f3_23, eJ6_getChars_ba4f3_28, eJ6_getChars_ba4f3_32, eJ6_getChars_ba4f3_41, eJ6_getChars_ba4f3_52, eJ6_getChars_ba4f3_55, eJ6_getChars_ba4f3_56, eJ6_getChars_ba4f3_65, eJ6_getChars_ba4f3_68, eJ6_getChars_ba4f3_69, eJ6_getChars_ba4f3_72, eJ6_getChars_ba4f3_83, eJ6_getChars_ba4f3_84, eJ6_getChars_ba4f3_85, eJ6_getChars_ba4f3_91, eJ6_getChars_ba4f3_102, eJ6_getChars_ba4f3_103, eJ6_getChars_ba4f3_104, eJ6_getChars_ba4f3_109, eJ6_getChars_ba4f3_118, ss2 k0 k1, ss3 k0 k1, nn, g1, g4, r1, hd, bty_2, if_true, if_false, ite_le, gb_s2, nl_int, nl_ref, nl_none, upw_s]
  with_reducible refine And.intro ?_ ?_
  with_reducible assumption
  with_reducible refine And.intro ?_ ?_
  with_reducible assumption
  with_reducible refine And.intro ?_ ?_
  omega
  with_reducible refine And.intro ?_ ?_
  omega
  with_reducible exact hQ _ _ (bOK_up hf _ _)
end
end
