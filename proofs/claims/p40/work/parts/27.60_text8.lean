section
section
variable {g : RO} {Q : Ot → Hw → Prop} {w0 w : Hw}
theorem mn {c : Int32} {N : Nat} (hN : N ≤ 1000) (h0 : 0 ≤ c.toInt) (h1 : c.toInt ≤ (N : Int)) : (if c < Int32.ofNat N then c else Int32.ofNat N) = c := by
  split
  · rfl
  · next h =>
    have h := i32_nlt h
    have e := ofN (N := N) (by omega)
    exact Int32.toInt_inj.mp (by omega)
set_option maxHeartbeats 4000000 in
theorem sJ7_copyOfRange_39247 {a N : Nat} {c : Int32} {f : Nat → Int32} (hd : w a = some (.inl (2, N, .inl f))) (hf : bOK N f) (hN : N ≤ 1000) (h0 : 0 ≤ c.toInt) (h1 : c.toInt ≤ (N : Int)) (h2 : c.toInt ≤ 90) (hQ : ∀ (q M : Nat) (f' : Nat → Int32), rd g w q = none → Q (.inl (some (.ref q))) (upw w q (.inl (2, M, .inl f')))) : WP (MJ7_copyOfRange_39247 g) Q (0, [some (.ref a), some (.int 0), some (.int c)], [], w, 0, 0) := by
  have rdd := rd_e (g := g) hd
  have e := ofN (N := N) (by omega)
  have z0 : (0 : Int32).toInt = 0 := rfl
  have c0 : (c < 0) = False := eq_false (i32_of_nlt (by omega))
  have cc : ((0 : Int32) ≤ c) = True := eq_true (Int32.le_iff_toInt_le.mpr (by omega))
  have ev : c.toNatClampNeg = c.toInt.toNat := rfl
  have c4 : c.toNatClampNeg ≤ 40000 := by omega
  have c9 : c.toNatClampNeg ≤ 90 := by omega
  have zn : (0 : Int32).toNatClampNeg = 0 := rfl
  have z00 : ((0 : Int32) < 0) = False := eq_false (by decide)
  have m := mn hN h0 h1
  simp only [eJ7_copyOfRange_39247_0, eJ7_copyOfRange_39247_4, eJ7_copyOfRange_39247_5, eJ7_copyOfRange_39247_5N, eJ7_copyOfRange_39247_6, eJ7_copyOfRange_39247_7, ite_le, n45, n54, true_or, or_true, false_or, or_false, false_and, and_false, kx_l, kx_r, go_s, gl_s, gi_s, gb_s2, gb_s3, gq_s, wt_nil, wt_int, wt_long, wt_ref, wt_null, nl_int, nl_long, nl_ref, nl_null, nl_none, rf_n, rf_s, rf_st, tl_s, tl_n, g0, gS, ex1, nb_b, nb_0, nb_1, nf_i, nf_l, nf_ra, nf_ro, nf_na, nf_no, nf_b0, nf_z0, t45_4, t45_5, true_and, and_true, List.set_cons_zero, List.set_cons_succ, List.length_cons, List.length_nil, rd_s, upw_s, ne_eq, not_false_eq_true, Nat.zero_add, Nat.add_zero, if_true, if_false, eq_self, rdd, exal, al26, zr0]
  split
  · next h =>
    have hNN : N ≤ 90 := by
      rw [h, e] at h2
      omega
    simp only [eJ7_copyOfRange_39247_17, eJ7_copyOfRange_39247_17N, eJ7_copyOfRange_39247_18, ite_le, n45, n54, true_or, or_true, false_or, or_false, false_and, and_false, kx_l, kx_r, go_s, gl_s, gi_s, gb_s2, gb_s3, gq_s, wt_nil, wt_int, wt_long, wt_ref, wt_null, nl_int, nl_long, nl_ref, nl_null, nl_none, rf_n, rf_s, rf_st, tl_s, tl_n, g0, gS, ex1, nb_b, nb_0, nb_1, nf_i, nf_l, nf_ra, nf_ro, nf_na, nf_no, nf_b0, nf_z0, t45_4, t45_5, true_and, and_true, List.set_cons_zero, List.set_cons_succ, List.length_cons, List.length_nil, rd_s, upw_s, ne_eq, not_false_eq_true, Nat.zero_add, Nat.add_zero, if_true, if_false, eq_self, eJ7_copyOfRange_39247_18 hd]
    repeat' first | with_reducible refine And.intro ?_ ?_ | omega
    · exact hf
    · intro q hq
      simp only [eJ7_copyOfRange_39247_21N, eJ7_copyOfRange_39247_21R, eJ7_copyOfRange_39247_24, ite_le, n45, n54, true_or, or_true, false_or, or_false, false_and, and_false, kx_l, kx_r, go_s, gl_s, gi_s, gb_s2, gb_s3, gq_s, wt_nil, wt_int, wt_long, wt_ref, wt_null, nl_int, nl_long, nl_ref, nl_null, nl_none, rf_n, rf_s, rf_st, tl_s, tl_n, g0, gS, ex1, nb_b, nb_0, nb_1, nf_i, nf_l, nf_ra, nf_ro, nf_na, nf_no, nf_b0, nf_z0, t45_4, t45_5, true_and, and_true, List.set_cons_zero, List.set_cons_succ, List.length_cons, List.length_nil, rd_s, upw_s, ne_eq, not_false_eq_true, Nat.zero_add, Nat.add_zero, if_true, if_false, eq_self]
      repeat' first | with_reducible refine And.intro ?_ ?_ | omega
      all_goals first | exact ⟨_, rfl⟩ | exact hQ _ _ _ hq
  · simp only [eJ7_copyOfRange_39247_5N, eJ7_copyOfRange_39247_10, eJ7_copyOfRange_39247_10N, eJ7_copyOfRange_39247_11, eJ7_copyOfRange_39247_13R, eJ7_copyOfRange_39247_13N, eJ7_copyOfRange_39247_16, eJ7_copyOfRange_39247_17N, eJ7_copyOfRange_39247_21N, eJ7_copyOfRange_39247_21R, eJ7_copyOfRangeByte_39247_0, eJ7_copyOfRangeByte_39247_5, eJ7_copyOfRangeByte_39247_12, eJ7_copyOfRangeByte_39247_12N, eJ7_copyOfRangeByte_39247_14, eJ7_copyOfRangeByte_39247_14N, eJ7_copyOfRangeByte_39247_15, eJ7_copyOfRangeByte_39247_16, eJ7_copyOfRangeByte_39247_16N, eJ7_copyOfRangeByte_39247_18, eJ7_copyOfRangeByte_39247_19, eJ7_copyOfRangeByte_39247_19N, eJ7_copyOfRangeByte_39247_20, eJ7_copyOfRangeByte_39247_21, eJ7_copyOfRangeByte_39247_27O, eJ7_copyOfRangeByte_39247_27B, eJ7_copyOfRangeByte_39247_30, eJ7_copyOfRangeByte_39247_30N, eJ7_copyOfRangeByte_39247_32, eJ7_checkLength_df160_0, eJ7_checkLength_df160_8, eJ7_checkLength_df160_8R, eJ7_checkLength_df160_9, eJ7_checkLength_df160_12, eJ7_checkLength_df160_12R, eJ7_checkLength_df160_16, eJ7_checkLength_df160_26, eJ7_checkLength_df160_37, ite_le, n45, n54, true_or, or_true, false_or, or_false, false_and, and_false, kx_l, kx_r, go_s, gl_s, gi_s, gb_s2, gb_s3, gq_s, wt_nil, wt_int, wt_long, wt_ref, wt_null, nl_int, nl_long, nl_ref, nl_null, nl_none, rf_n, rf_s, rf_st, tl_s, tl_n, g0, gS, ex1, nb_b, nb_0, nb_1, nf_i, nf_l, nf_ra, nf_ro, nf_na, nf_no, nf_b0, nf_z0, t45_4, t45_5, true_and, and_true, List.set_cons_zero, List.set_cons_succ, List.length_cons, List.length_nil, rd_s, upw_s, ne_eq, not_false_eq_true, Nat.zero_add, Nat.add_zero, if_true, if_false, eq_self, sub0, cc, c0, c4, c9]
    repeat' first | with_reducible refine And.intro ?_ ?_ | omega
    intro q hq
    have hne : a ≠ q := fun h => by
      subst h
      rw [rdd] at hq
      cases hq
    have ra : rd g (upw w q (.inl (2, c.toNatClampNeg, .inl fun _ => 0))) a = some (.inl (2, N, .inl f)) := by rw [rd_n hne]; exact rdd
    simp only [eJ7_copyOfRange_39247_5N, eJ7_copyOfRange_39247_10, eJ7_copyOfRange_39247_10N, eJ7_copyOfRange_39247_11, eJ7_copyOfRange_39247_13R, eJ7_copyOfRange_39247_13N, eJ7_copyOfRange_39247_16, eJ7_copyOfRange_39247_17N, eJ7_copyOfRange_39247_21N, eJ7_copyOfRange_39247_21R, eJ7_copyOfRangeByte_39247_0, eJ7_copyOfRangeByte_39247_5, eJ7_copyOfRangeByte_39247_12, eJ7_copyOfRangeByte_39247_12N, eJ7_copyOfRangeByte_39247_14, eJ7_copyOfRangeByte_39247_14N, eJ7_copyOfRangeByte_39247_15, eJ7_copyOfRangeByte_39247_16, eJ7_copyOfRangeByte_39247_16N, eJ7_copyOfRangeByte_39247_18, eJ7_copyOfRangeByte_39247_19, eJ7_copyOfRangeByte_39247_19N, eJ7_copyOfRangeByte_39247_20, eJ7_copyOfRangeByte_39247_21, eJ7_copyOfRangeByte_39247_27O, eJ7_copyOfRangeByte_39247_27B, eJ7_copyOfRangeByte_39247_30, eJ7_copyOfRangeByte_39247_30N, eJ7_copyOfRangeByte_39247_32, ite_le, n45, n54, true_or, or_true, false_or, or_false, false_and, and_false, kx_l, kx_r, go_s, gl_s, gi_s, gb_s2, gb_s3, gq_s, wt_nil, wt_int, wt_long, wt_ref, wt_null, nl_int, nl_long, nl_ref, nl_null, nl_none, rf_n, rf_s, rf_st, tl_s, tl_n, g0, gS, ex1, nb_b, nb_0, nb_1, nf_i, nf_l, nf_ra, nf_ro, nf_na, nf_no, nf_b0, nf_z0, t45_4, t45_5, true_and, and_true, List.set_cons_zero, List.set_cons_succ, List.length_cons, List.length_nil, rd_s, upw_s, ne_eq, not_false_eq_true, Nat.zero_add, Nat.add_zero, if_true, if_false, eq_self, sub0, exal, al26, ra, m, c0, z00, zn, upw2, eJ7_copyOfRangeByte_39247_27B ra (upw_s _ _ _)]
    repeat' first | with_reducible refine And.intro ?_ ?_ | omega
    · intro j hj
      exact hf j (by omega)
    · exact hQ _ _ _ hq
set_option maxHeartbeats 4000000 in
theorem sJ4_toString_0e30d {b d N : Nat} {c : Int32} (hS : SG g) (hT : TS g w0 b d N c w) (hN : N ≤ 1000) (hc : c.toInt ≤ 90) (hQ : ∀ q w', ext g w0 w' → Q (.inl (some (.ref q))) w') : WP (MJ4_toString_0e30d g) Q (0, [some (.ref b)], [], w, 0, 0) := by
  obtain ⟨ml, f, hb, hd, hf, hc0, hc1, rb, rdd, n1, n2⟩ := hT.opn g
  simp only [eJ4_toString_0e30d_0, ite_le, n45, n54, true_or, or_true, false_or, or_false, false_and, and_false, kx_l, kx_r, go_s, gl_s, gi_s, gb_s2, gb_s3, gq_s, wt_nil, wt_int, wt_long, wt_ref, wt_null, nl_int, nl_long, nl_ref, nl_null, nl_none, rf_n, rf_s, rf_st, tl_s, tl_n, g0, gS, ex1, nb_b, nb_0, nb_1, nf_i, nf_l, nf_ra, nf_ro, nf_na, nf_no, nf_b0, nf_z0, t45_4, t45_5, true_and, and_true, List.set_cons_zero, List.set_cons_succ, List.length_cons, List.length_nil, rd_s, upw_s, ne_eq, not_false_eq_true, Nat.zero_add, Nat.add_zero, if_true, if_false, eq_self]
  repeat' first | with_reducible refine And.intro ?_ ?_ | omega
  intro q hq
  have hqn := rd_none hq
  have hqb : b ≠ q := fun e => by
    rw [← e, hb] at hqn
    cases hqn
  have hqd : d ≠ q := fun e => by
    rw [← e, hd] at hqn
    cases hqn
  have hw0 : w0 q = none := by
    cases hz : w0 q with
    | none => rfl
    | some o =>
      have := hT.1.1 q o hz
      rw [hqn] at this
      cases this
  simp only [eJ4_toString_0e30d_0, eJ4_toString_0e30d_3, eJ4_toString_0e30d_3R, eJ4_toString_0e30d_4, eJ4_toString_0e30d_4N, eJ4_toString_0e30d_5R, eJ4_toString_0e30d_5N, eJ4_toString_0e30d_8, eJ4_toString_0e30d_8N, eJ0_init_81219_0, eJ0_init_81219_0N, eJ0_init_81219_1, eJ0_init_81219_1N, eJ0_init_81219_2, eJ0_init_81219_3RR, eJ0_init_81219_3NR, eJ0_init_81219_3RN, eJ0_init_81219_3NN, eJ0_init_81219_6, eJ0_init_db425_0, eJ0_init_db425_0N, eJ0_init_db425_1, eJ0_init_db425_4, eJ0_init_db425_4N, eJ0_init_db425_5, eJ0_init_db425_8, eJ0_init_db425_8N, eJ0_init_db425_9, eJ0_init_db425_9N, eJ0_init_db425_10, eJ0_init_db425_13, eJ0_init_db425_15, eJ0_init_db425_15N, eJ0_init_db425_16, eJ0_init_db425_19, eJ0_init_db425_22, eJ0_init_db425_22N, eJ0_init_db425_23, eJ0_init_db425_27, eJ0_init_db425_27N, eJ0_init_db425_28, eJ0_init_db425_28N, eJ0_init_db425_29, eJ0_init_db425_32R, eJ0_init_db425_32N, eJ0_init_db425_35, eJ0_init_db425_38, eJ0_init_db425_41, eJ0_init_db425_44, eJ0_init_db425_47, eJ0_init_db425_47N, eJ0_init_db425_48, eJ0_init_db425_51, eJ0_init_db425_54, eJ0_init_db425_54N, eJ0_init_db425_55, eJ0_init_db425_55N, eJ0_init_db425_56, eJ0_init_db425_62, eJ0_init_db425_65, eJ0_init_db425_65N, eJ0_init_db425_66, eJ0_init_db425_66N, eJ0_init_db425_67, eJ0_init_db425_70, eJ0_init_db425_75, eJ0_init_db425_78, eJ0_init_db425_79, eJ0_init_db425_79N, eJ0_init_db425_80, eJ0_init_db425_84, eJ0_init_db425_84N, eJ0_init_db425_85, eJ0_init_db425_85N, eJ0_init_db425_86, eJ0_init_db425_91R, eJ0_init_db425_91N, eJ0_init_db425_94, eJ0_init_db425_97, eJ5_getValue_6d5f1_0, eJ5_getValue_6d5f1_0N, eJ5_getValue_6d5f1_1, eJ5_getValue_6d5f1_4, eJ5_length_8abf5_0, eJ5_length_8abf5_0N, eJ5_length_8abf5_1, eJ5_length_8abf5_4, eJ4_length_8abf5_0, eJ4_length_8abf5_0N, eJ4_length_8abf5_1, eJ4_length_8abf5_4, eJ5_isLatin1_aae02_0, eJ5_isLatin1_aae02_3, eJ5_isLatin1_aae02_6, eJ5_isLatin1_aae02_6N, eJ5_isLatin1_aae02_7, eJ5_isLatin1_aae02_10, eJ5_isLatin1_aae02_13, eJ5_isLatin1_aae02_17, eJ5_isLatin1_aae02_18, ite_le, n45, n54, true_or, or_true, false_or, or_false, false_and, and_false, kx_l, kx_r, go_s, gl_s, gi_s, gb_s2, gb_s3, gq_s, wt_nil, wt_int, wt_long, wt_ref, wt_null, nl_int, nl_long, nl_ref, nl_null, nl_none, rf_n, rf_s, rf_st, tl_s, tl_n, g0, gS, ex1, nb_b, nb_0, nb_1, nf_i, nf_l, nf_ra, nf_ro, nf_na, nf_no, nf_b0, nf_z0, t45_4, t45_5, true_and, and_true, List.set_cons_zero, List.set_cons_succ, List.length_cons, List.length_nil, rd_s, upw_s, ne_eq, not_false_eq_true, Nat.zero_add, Nat.add_zero, if_true, if_false, eq_self, hS.1, zz1, rb, hb, hqb, upw_n, rd_n, upw2, rdd]
  repeat' first | with_reducible refine And.intro ?_ ?_ | omega
  refine sJ7_copyOfRange_39247 (a := d) (N := N) (f := f) (by rw [upw_n hqd]; exact hd) hf hN hc0 hc1 hc (fun q2 M f' hq2 => ?_)
  have hq2n := rd_none hq2
  have hqq : q ≠ q2 := fun e => by
    rw [← e, upw_s] at hq2n
    cases hq2n
  have hw2 : w0 q2 = none := by
    cases hz : w0 q2 with
    | none => rfl
    | some o =>
      have := hT.1.1 q2 o hz
      rw [upw_n hqq.symm, this] at hq2n
      cases hq2n
  simp only [eJ4_toString_0e30d_0, eJ4_toString_0e30d_3, eJ4_toString_0e30d_3R, eJ4_toString_0e30d_4, eJ4_toString_0e30d_4N, eJ4_toString_0e30d_5R, eJ4_toString_0e30d_5N, eJ4_toString_0e30d_8, eJ4_toString_0e30d_8N, eJ0_init_81219_0, eJ0_init_81219_0N, eJ0_init_81219_1, eJ0_init_81219_1N, eJ0_init_81219_2, eJ0_init_81219_3RR, eJ0_init_81219_3NR, eJ0_init_81219_3RN, eJ0_init_81219_3NN, eJ0_init_81219_6, eJ0_init_db425_0, eJ0_init_db425_0N, eJ0_init_db425_1, eJ0_init_db425_4, eJ0_init_db425_4N, eJ0_init_db425_5, eJ0_init_db425_8, eJ0_init_db425_8N, eJ0_init_db425_9, eJ0_init_db425_9N, eJ0_init_db425_10, eJ0_init_db425_13, eJ0_init_db425_15, eJ0_init_db425_15N, eJ0_init_db425_16, eJ0_init_db425_19, eJ0_init_db425_22, eJ0_init_db425_22N, eJ0_init_db425_23, eJ0_init_db425_27, eJ0_init_db425_27N, eJ0_init_db425_28, eJ0_init_db425_28N, eJ0_init_db425_29, eJ0_init_db425_32R, eJ0_init_db425_32N, eJ0_init_db425_35, eJ0_init_db425_38, eJ0_init_db425_41, eJ0_init_db425_44, eJ0_init_db425_47, eJ0_init_db425_47N, eJ0_init_db425_48, eJ0_init_db425_51, eJ0_init_db425_54, eJ0_init_db425_54N, eJ0_init_db425_55, eJ0_init_db425_55N, eJ0_init_db425_56, eJ0_init_db425_62, eJ0_init_db425_65, eJ0_init_db425_65N, eJ0_init_db425_66, eJ0_init_db425_66N, eJ0_init_db425_67, eJ0_init_db425_70, eJ0_init_db425_75, eJ0_init_db425_78, eJ0_init_db425_79, eJ0_init_db425_79N, eJ0_init_db425_80, eJ0_init_db425_84, eJ0_init_db425_84N, eJ0_init_db425_85, eJ0_init_db425_85N, eJ0_init_db425_86, eJ0_init_db425_91R, eJ0_init_db425_91N, eJ0_init_db425_94, eJ0_init_db425_97, ite_le, n45, n54, true_or, or_true, false_or, or_false, false_and, and_false, kx_l, kx_r, go_s, gl_s, gi_s, gb_s2, gb_s3, gq_s, wt_nil, wt_int, wt_long, wt_ref, wt_null, nl_int, nl_long, nl_ref, nl_null, nl_none, rf_n, rf_s, rf_st, tl_s, tl_n, g0, gS, ex1, nb_b, nb_0, nb_1, nf_i, nf_l, nf_ra, nf_ro, nf_na, nf_no, nf_b0, nf_z0, t45_4, t45_5, true_and, and_true, List.set_cons_zero, List.set_cons_succ, List.length_cons, List.length_nil, rd_s, upw_s, ne_eq, not_false_eq_true, Nat.zero_add, Nat.add_zero, if_true, if_false, eq_self, hqq, upw_n, upw2, tyJ0]
  repeat' first | with_reducible refine And.intro ?_ ?_ | omega
  all_goals first | exact trivial | exact hQ q _ (((hT.1.own hw0 (rd_ro hq)).own hw2 (rd_ro hq2)).own hw0 (rd_ro hq))
end
end
