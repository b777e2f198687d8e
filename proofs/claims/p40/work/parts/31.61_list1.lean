section
section
variable {g : RO} {Q : Ot → Hw → Prop} {w0 w : Hw}
theorem upw2q {w : Hw} {a : Nat} {o o' : Ob} : upw (upw w a o) a o' = upw w a o' := by
  funext q
  unfold upw
  split <;> rfl
theorem cap0 : (Int32.ofNat 0 : Int32) = 0 := rfl
theorem cap10 : (Int32.ofNat 10 : Int32) = 10 := rfl
theorem cap15 : (Int32.ofNat 15 : Int32) = 15 := rfl
theorem z00 : ((0 : Int32) < 0) = False := eq_false (by decide)
theorem z101 : ((10 : Int32) < 0 + 1) = False := eq_false (by decide)
theorem n100 : ((10 : Int32) < 0) = False := eq_false (by decide)
theorem n150 : ((15 : Int32) < 0) = False := eq_false (by decide)
theorem z010 : ((0 : Int32) < 10) = True := eq_true (by decide)
theorem z015 : ((0 : Int32) < 15) = True := eq_true (by decide)
theorem c1110 : (10 : Int32) + 1 - 10 = 1 := by decide
theorem z15 : ((1 : Int32) < 5) = True := eq_true (by decide)
theorem c105 : (10 : Int32) + 5 = 15 := by decide
theorem zbig : ((2147483639 : Int32) < 15) = False := eq_false (by decide)
theorem z1510 : ((15 : Int32) < 10) = False := eq_false (by decide)
theorem i10n : (10 : Int32).toNatClampNeg = 10 := rfl
theorem i15n : (15 : Int32).toNatClampNeg = 15 := rfl
theorem i0n : (0 : Int32).toNatClampNeg = 0 := rfl
theorem sh10 : (10 : Int32) >>> ((1 : Int32) &&& 31) = 5 := by decide
theorem ac_t {p : Nat} : (ACond.eq = ACond.eq ↔ p = p) = True := eq_true ⟨fun _ => rfl, fun _ => rfl⟩
theorem ac_n {p : Nat} : (ACond.ne = ACond.eq ↔ p = p) = False := eq_false fun h => by have := h.mpr rfl; cases this
theorem acT : (ACond.eq = ACond.eq ↔ True) = True := eq_true ⟨fun _ => trivial, fun _ => rfl⟩
theorem acF : (ACond.ne = ACond.eq ↔ True) = False := eq_false fun h => by have := h.mpr trivial; cases this
theorem i32_eq {a b : Int32} (h : a.toInt = b.toInt) : a = b := Int32.toInt_inj.mp h
set_option maxHeartbeats 4000000 in
theorem sJx4a65c_grow0 {L D : Nat} {mc n : Int32} {h : Nat → Option Nat} (hE : EG g w) (hS : SG g) (hL : w L = some (.inr (3, [.int mc, .ref D, .int n]))) (hD : g.1 0 = .ref D ∧ w D = none ∧ g.2 D = some (.inl (5, 0, qc h))) (hn : n = 0) (hQ : ∀ q, rd g w q = none → Q (.inl (some (.ref q))) (upw (upw w q (.inl (5, 10, qc fun _ => none))) L (.inr (3, [.int mc, .ref q, .int n])))) : WP (MJx4a65c_grow_d5877 g) Q (0, [some (.ref L)], [], w, 0, 0) := by
  subst hn
  obtain ⟨d1, d2, d3⟩ := hD
  have rL : rd g w L = some (.inr (3, [.int mc, .ref D, .int 0])) := rd_e hL
  have rD : rd g w D = some (.inl (5, 0, qc h)) := by unfold rd; rw [d2]; exact d3
  simp only [eJx4a65c_grow_d5877_0, eJx4a65c_grow_d5877_0N, eJx4a65c_grow_d5877_1, eJx4a65c_grow_d5877_1N, eJx4a65c_grow_d5877_2, eJx4a65c_grow_d5877_5, eJx4a65c_grow_d5877_10, eJx4a65c_grow_92f84_0, eJx4a65c_grow_92f84_0N, eJx4a65c_grow_92f84_1, eJx4a65c_grow_92f84_4, eJx4a65c_grow_92f84_5, eJx4a65c_grow_92f84_10, eJx4a65c_grow_92f84_10N, eJx4a65c_grow_92f84_11, eJx4a65c_grow_92f84_14, eJx4a65c_grow_92f84_17, eJx4a65c_grow_92f84_20, eJx4a65c_grow_92f84_30, eJx4a65c_grow_92f84_31, eJx4a65c_grow_92f84_31N, eJx4a65c_grow_92f84_32, eJx4a65c_grow_92f84_32N, eJx4a65c_grow_92f84_33, eJx4a65c_grow_92f84_36, eJx4a65c_grow_92f84_37R, eJx4a65c_grow_92f84_37N, eJx4a65c_grow_92f84_40IR, eJx4a65c_grow_92f84_40RR, eJx4a65c_grow_92f84_41, eJx4a65c_grow_92f84_44, eJx4a65c_grow_92f84_45, eJx4a65c_grow_92f84_45N, eJx4a65c_grow_92f84_46, eJx4a65c_grow_92f84_52, eJx4a65c_grow_92f84_55IR, eJx4a65c_grow_92f84_55RR, eJx4a65c_grow_92f84_56, eJx4a65c_grow_92f84_59, ite_le, n45, n54, true_or, or_true, false_or, or_false, false_and, and_false, kx_l, kx_r, go_s, gl_s, gi_s, gb_s2, gb_s3, gq_s, wt_nil, wt_int, wt_long, wt_ref, wt_null, nl_int, nl_long, nl_ref, nl_null, nl_none, rf_n, rf_s, rf_st, tl_s, tl_n, g0, gS, ex1, nb_b, nb_0, nb_1, nf_i, nf_l, nf_ra, nf_ro, nf_na, nf_no, nf_b0, nf_z0, t45_4, t45_5, true_and, and_true, List.set_cons_zero, List.set_cons_succ, List.length_cons, List.length_nil, rd_s, upw_s, ne_eq, not_false_eq_true, Nat.zero_add, Nat.add_zero, if_true, if_false, hL, rL, rD, d1, exal2, al56, cap0, ac_t, i10n, i0n, z00, z101, n100]
  repeat' first | with_reducible refine And.intro ?_ ?_ | omega
  intro q hq
  have hqL : L ≠ q := fun e => by
    have h2 := rd_none hq
    rw [← e, hL] at h2
    cases h2
  simp only [eJx4a65c_grow_d5877_0, eJx4a65c_grow_d5877_0N, eJx4a65c_grow_d5877_1, eJx4a65c_grow_d5877_1N, eJx4a65c_grow_d5877_2, eJx4a65c_grow_d5877_5, eJx4a65c_grow_d5877_10, eJx4a65c_grow_92f84_0, eJx4a65c_grow_92f84_0N, eJx4a65c_grow_92f84_1, eJx4a65c_grow_92f84_4, eJx4a65c_grow_92f84_5, eJx4a65c_grow_92f84_10, eJx4a65c_grow_92f84_10N, eJx4a65c_grow_92f84_11, eJx4a65c_grow_92f84_14, eJx4a65c_grow_92f84_17, eJx4a65c_grow_92f84_20, eJx4a65c_grow_92f84_30, eJx4a65c_grow_92f84_31, eJx4a65c_grow_92f84_31N, eJx4a65c_grow_92f84_32, eJx4a65c_grow_92f84_32N, eJx4a65c_grow_92f84_33, eJx4a65c_grow_92f84_36, eJx4a65c_grow_92f84_37R, eJx4a65c_grow_92f84_37N, eJx4a65c_grow_92f84_40IR, eJx4a65c_grow_92f84_40RR, eJx4a65c_grow_92f84_41, eJx4a65c_grow_92f84_44, eJx4a65c_grow_92f84_45, eJx4a65c_grow_92f84_45N, eJx4a65c_grow_92f84_46, eJx4a65c_grow_92f84_52, eJx4a65c_grow_92f84_55IR, eJx4a65c_grow_92f84_55RR, eJx4a65c_grow_92f84_56, eJx4a65c_grow_92f84_59, ite_le, n45, n54, true_or, or_true, false_or, or_false, false_and, and_false, kx_l, kx_r, go_s, gl_s, gi_s, gb_s2, gb_s3, gq_s, wt_nil, wt_int, wt_long, wt_ref, wt_null, nl_int, nl_long, nl_ref, nl_null, nl_none, rf_n, rf_s, rf_st, tl_s, tl_n, g0, gS, ex1, nb_b, nb_0, nb_1, nf_i, nf_l, nf_ra, nf_ro, nf_na, nf_no, nf_b0, nf_z0, t45_4, t45_5, true_and, and_true, List.set_cons_zero, List.set_cons_succ, List.length_cons, List.length_nil, rd_s, upw_s, ne_eq, not_false_eq_true, Nat.zero_add, Nat.add_zero, if_true, if_false, hL, rL, hqL, upw_n, tyJx4a65c, nf_ra, rd_n]
  repeat' first | with_reducible refine And.intro ?_ ?_ | omega
  all_goals first | exact trivial | exact hQ q hq
set_option maxHeartbeats 4000000 in
theorem sJx4a65c_grow10 {L D : Nat} {mc n : Int32} {h : Nat → Option Nat} (hE : EG g w) (hS : SG g) (hL : w L = some (.inr (3, [.int mc, .ref D, .int n]))) (hD : w D = some (.inl (5, 10, qc h))) (hh : ∀ i b, h i = some b → isRow w b) (hn : n = 10) (hQ : ∀ q, rd g w q = none → Q (.inl (some (.ref q))) (upw (upw w q (.inl (5, 15, qc (va_cpy h (fun _ => none) 0 0 10)))) L (.inr (3, [.int mc, .ref q, .int n])))) : WP (MJx4a65c_grow_d5877 g) Q (0, [some (.ref L)], [], w, 0, 0) := by
  subst hn
  obtain ⟨⟨e, e1, e2, e3⟩, mi, hmi⟩ := hE
  obtain ⟨hs1, hs2, hs3⟩ := hS
  have rL : rd g w L = some (.inr (3, [.int mc, .ref D, .int 10])) := rd_e hL
  have rD : rd g w D = some (.inl (5, 10, qc h)) := rd_e hD
  simp only [eJx4a65c_grow_d5877_0, eJx4a65c_grow_d5877_0N, eJx4a65c_grow_d5877_1, eJx4a65c_grow_d5877_1N, eJx4a65c_grow_d5877_2, eJx4a65c_grow_d5877_5, eJx4a65c_grow_d5877_10, eJx4a65c_grow_92f84_0, eJx4a65c_grow_92f84_0N, eJx4a65c_grow_92f84_1, eJx4a65c_grow_92f84_4, eJx4a65c_grow_92f84_5, eJx4a65c_grow_92f84_10, eJx4a65c_grow_92f84_10N, eJx4a65c_grow_92f84_11, eJx4a65c_grow_92f84_14, eJx4a65c_grow_92f84_17, eJx4a65c_grow_92f84_20, eJx4a65c_grow_92f84_30, eJx4a65c_grow_92f84_31, eJx4a65c_grow_92f84_31N, eJx4a65c_grow_92f84_32, eJx4a65c_grow_92f84_32N, eJx4a65c_grow_92f84_33, eJx4a65c_grow_92f84_36, eJx4a65c_grow_92f84_37R, eJx4a65c_grow_92f84_37N, eJx4a65c_grow_92f84_40IR, eJx4a65c_grow_92f84_40RR, eJx4a65c_grow_92f84_41, eJx4a65c_grow_92f84_44, eJx4a65c_grow_92f84_45, eJx4a65c_grow_92f84_45N, eJx4a65c_grow_92f84_46, eJx4a65c_grow_92f84_52, eJx4a65c_grow_92f84_55IR, eJx4a65c_grow_92f84_55RR, eJx4a65c_grow_92f84_56, eJx4a65c_grow_92f84_59, eJ8_newLength_cabcc_0, eJ8_newLength_cabcc_6, eJ8_newLength_cabcc_13, eJ8_newLength_cabcc_16, eJ8_newLength_cabcc_19, eJ8_newLength_cabcc_21, eJ8_newLength_cabcc_26, eJ7_copyOf_1904c_0, eJ7_copyOf_1904c_0N, eJ7_copyOf_1904c_1, eJ7_copyOf_1904c_2, eJ7_copyOf_1904c_2N, eJ7_copyOf_1904c_3, eJ7_copyOf_1904c_6RR, eJ7_copyOf_1904c_6NR, eJ7_copyOf_1904c_6RN, eJ7_copyOf_1904c_6NN, eJ7_copyOf_1904c_9, eJ7_copyOf_6403c_0, eJ7_copyOf_6403c_0N, eJ7_copyOf_6403c_1, eJ7_copyOf_6403c_3, eJ7_copyOf_6403c_6, eJ7_copyOf_6403c_10, eJ7_copyOf_6403c_13, eJ7_copyOf_6403c_13N, eJ7_copyOf_6403c_17, eJ7_copyOf_6403c_24, eJ7_copyOf_6403c_24N, eJ7_copyOf_6403c_25, eJ7_copyOf_6403c_25N, eJ7_copyOf_6403c_26, eJ7_copyOf_6403c_27, eJ7_copyOf_6403c_27N, eJ7_copyOf_6403c_28, eJ7_copyOf_6403c_29, eJ7_copyOf_6403c_29N, eJ7_copyOf_6403c_30, eJ7_copyOf_6403c_31, eJ7_copyOf_6403c_35O, eJ7_copyOf_6403c_35B, eJ7_copyOf_6403c_38, eJ7_copyOf_6403c_38N, eJ7_copyOf_6403c_39, ite_le, n45, n54, true_or, or_true, false_or, or_false, false_and, and_false, kx_l, kx_r, go_s, gl_s, gi_s, gb_s2, gb_s3, gq_s, wt_nil, wt_int, wt_long, wt_ref, wt_null, nl_int, nl_long, nl_ref, nl_null, nl_none, rf_n, rf_s, rf_st, tl_s, tl_n, g0, gS, ex1, nb_b, nb_0, nb_1, nf_i, nf_l, nf_ra, nf_ro, nf_na, nf_no, nf_b0, nf_z0, t45_4, t45_5, true_and, and_true, List.set_cons_zero, List.set_cons_succ, List.length_cons, List.length_nil, rd_s, upw_s, ne_eq, not_false_eq_true, Nat.zero_add, Nat.add_zero, if_true, if_false, hL, rL, rD, exal2, al56, cap10, sh10, hs2, hmi, ac_t, ac_n, acT, acF, i15n, i10n, i0n, z010, z015, c1110, z15, c105, zbig, n150, n100, eJ7_copyOf_1904c_3 hD]
  repeat' first | with_reducible refine And.intro ?_ ?_ | omega
  intro q hq
  have hqn := rd_none hq
  have hqL : L ≠ q := fun e => by
    rw [← e, hL] at hqn
    cases hqn
  have hqD : D ≠ q := fun e => by
    rw [← e, hD] at hqn
    cases hqn
  have hD2 : upw w q (.inl (5, 15, qc fun _ => none)) D = some (.inl (5, 10, qc h)) := by rw [upw_n hqD]; exact hD
  simp only [eJx4a65c_grow_d5877_0, eJx4a65c_grow_d5877_0N, eJx4a65c_grow_d5877_1, eJx4a65c_grow_d5877_1N, eJx4a65c_grow_d5877_2, eJx4a65c_grow_d5877_5, eJx4a65c_grow_d5877_10, eJx4a65c_grow_92f84_0, eJx4a65c_grow_92f84_0N, eJx4a65c_grow_92f84_1, eJx4a65c_grow_92f84_4, eJx4a65c_grow_92f84_5, eJx4a65c_grow_92f84_10, eJx4a65c_grow_92f84_10N, eJx4a65c_grow_92f84_11, eJx4a65c_grow_92f84_14, eJx4a65c_grow_92f84_17, eJx4a65c_grow_92f84_20, eJx4a65c_grow_92f84_30, eJx4a65c_grow_92f84_31, eJx4a65c_grow_92f84_31N, eJx4a65c_grow_92f84_32, eJx4a65c_grow_92f84_32N, eJx4a65c_grow_92f84_33, eJx4a65c_grow_92f84_36, eJx4a65c_grow_92f84_37R, eJx4a65c_grow_92f84_37N, eJx4a65c_grow_92f84_40IR, eJx4a65c_grow_92f84_40RR, eJx4a65c_grow_92f84_41, eJx4a65c_grow_92f84_44, eJx4a65c_grow_92f84_45, eJx4a65c_grow_92f84_45N, eJx4a65c_grow_92f84_46, eJx4a65c_grow_92f84_52, eJx4a65c_grow_92f84_55IR, eJx4a65c_grow_92f84_55RR, eJx4a65c_grow_92f84_56, eJx4a65c_grow_92f84_59, eJ8_newLength_cabcc_0, eJ8_newLength_cabcc_6, eJ8_newLength_cabcc_13, eJ8_newLength_cabcc_16, eJ8_newLength_cabcc_19, eJ8_newLength_cabcc_21, eJ8_newLength_cabcc_26, eJ7_copyOf_1904c_0, eJ7_copyOf_1904c_0N, eJ7_copyOf_1904c_1, eJ7_copyOf_1904c_2, eJ7_copyOf_1904c_2N, eJ7_copyOf_1904c_3, eJ7_copyOf_1904c_6RR, eJ7_copyOf_1904c_6NR, eJ7_copyOf_1904c_6RN, eJ7_copyOf_1904c_6NN, eJ7_copyOf_1904c_9, eJ7_copyOf_6403c_0, eJ7_copyOf_6403c_0N, eJ7_copyOf_6403c_1, eJ7_copyOf_6403c_3, eJ7_copyOf_6403c_6, eJ7_copyOf_6403c_10, eJ7_copyOf_6403c_13, eJ7_copyOf_6403c_13N, eJ7_copyOf_6403c_17, eJ7_copyOf_6403c_24, eJ7_copyOf_6403c_24N, eJ7_copyOf_6403c_25, eJ7_copyOf_6403c_25N, eJ7_copyOf_6403c_26, eJ7_copyOf_6403c_27, eJ7_copyOf_6403c_27N, eJ7_copyOf_6403c_28, eJ7_copyOf_6403c_29, eJ7_copyOf_6403c_29N, eJ7_copyOf_6403c_30, eJ7_copyOf_6403c_31, eJ7_copyOf_6403c_35O, eJ7_copyOf_6403c_35B, eJ7_copyOf_6403c_38, eJ7_copyOf_6403c_38N, eJ7_copyOf_6403c_39, ite_le, n45, n54, true_or, or_true, false_or, or_false, false_and, and_false, kx_l, kx_r, go_s, gl_s, gi_s, gb_s2, gb_s3, gq_s, wt_nil, wt_int, wt_long, wt_ref, wt_null, nl_int, nl_long, nl_ref, nl_null, nl_none, rf_n, rf_s, rf_st, tl_s, tl_n, g0, gS, ex1, nb_b, nb_0, nb_1, nf_i, nf_l, nf_ra, nf_ro, nf_na, nf_no, nf_b0, nf_z0, t45_4, t45_5, true_and, and_true, List.set_cons_zero, List.set_cons_succ, List.length_cons, List.length_nil, rd_s, upw_s, ne_eq, not_false_eq_true, Nat.zero_add, Nat.add_zero, if_true, if_false, hL, rL, rD, hqL, hqD, upw_n, rd_n, exal2, al56, cap10, cap15, i15n, i10n, i0n, z1510, n100, n150, z00, tyJx4a65c, nf_ra, upw2q, eJ7_copyOf_6403c_35O hD2 (upw_s _ _ _)]
  repeat' first | with_reducible refine And.intro ?_ ?_ | omega
  · intro j y hj hy
    exact gl_Roww ((hh _ _ hy).ext (g := g) (ext_up2 ext.rf hq)) fun _ => trivial
  · repeat' first | exact trivial | exact hQ q hq | with_reducible refine And.intro ?_ ?_ | omega
end
end
