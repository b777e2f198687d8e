section
variable {g : RO} {Q : Ot → Hw → Prop} {w0 w : Hw} {y nM : Nat} {kd th : Int32} {s : AS}
/-! MODEL, FUNCTIONAL, 6: makers -/
set_option maxHeartbeats 4000000 in
theorem fX3_two {a0 a1 a2 : Int32} (hM : MS g w0 y nM kd th s w) (hX : ¬ (okC a0 ∧ okN a1 ∧ okN a2) → ∀ w', MS g w0 y nM kd 1 s w' → Q (.inl (some (.int 0))) w') (hT : okC a0 → okN a1 → okN a2 → oP (s.1 a1.toNatClampNeg) (s.1 a1.toNatClampNeg) (s.1 a2.toNatClampNeg) (s.1 a2.toNatClampNeg) → ∀ w', MS g w0 y nM kd 0 (sMk s a0.toNatClampNeg (s.1 a1.toNatClampNeg, s.1 a1.toNatClampNeg, s.1 a2.toNatClampNeg, s.1 a2.toNatClampNeg)) w' → Q (.inl (some (.int 1))) w') (hF : okC a0 → okN a1 → okN a2 → ¬ oP (s.1 a1.toNatClampNeg) (s.1 a1.toNatClampNeg) (s.1 a2.toNatClampNeg) (s.1 a2.toNatClampNeg) → ∀ w', MS g w0 y nM kd 0 (sRf s) w' → Q (.inl (some (.int (-9)))) w') : WP (MX3_two g) Q (0, [some (.ref y), some (.int a0), some (.int a1), some (.int a2)], [], w, 0, 0) := by
  repeat' first
    | with_reducible assumption
    | with_reducible refine And.intro ?_ ?_
    | with_reducible exact vpi6 (by assumption) (by assumption)
    | with_reducible exact vpi8 (by assumption) (by assumption)
    | with_reducible exact trivial
    | with_reducible exact absurd (by assumption) n10'
    | with_reducible exact n00x (by assumption)
    | with_reducible exact hX (fun h => absurd h.1 (by assumption)) _ (by assumption)
    | with_reducible exact hX (fun h => absurd h.2.1 (by assumption)) _ (by assumption)
    | with_reducible exact hX (fun h => absurd h.2.2 (by assumption)) _ (by assumption)
    | with_reducible exact hT (by assumption) (by assumption) (by assumption) hyes _ h3
    | with_reducible exact hF (by assumption) (by assumption) (by assumption) hno _ h3
    | with_reducible refine fX3_isNoNumber (fun _ => ?_) (fun _ => ?_)
    | with_reducible refine fX3_isNoCard (fun _ => ?_) (fun _ => ?_)
    | with_reducible refine fX3_start (by assumption) (by decide) (fun _ w1 h1 => ?_) (fun _ w1 h1 => ?_)
    | with_reducible refine go_S (by assumption) (fun _ _ hY => ?_)
    | with_reducible refine gl_S (by assumption) ?_
    | with_reducible exact vpi8k (by assumption)
    | with_reducible exact vpi6k (by assumption)
    | with_reducible exact vpi4k (by assumption)
    | with_reducible refine fX3_make (by assumption) (by assumption) (fun hyes w3 h3 => ?_) (fun hno w3 h3 => ?_)
    | simp only [eX3_two_0, eX3_two_0N, eX3_two_1, eX3_two_2, eX3_two_5, eX3_two_8, eX3_two_9, eX3_two_12, eX3_two_15, eX3_two_16, eX3_two_19, eX3_two_22, eX3_two_23, eX3_two_26, eX3_two_27, eX3_two_28, eX3_two_31, eX3_two_34, eX3_two_35, eX3_two_38, eX3_two_38N, eX3_two_39, eX3_two_40, eX3_two_40N, eX3_two_41, eX3_two_44, eX3_two_45, eX3_two_46, eX3_two_46N, eX3_two_47, eX3_two_50, eX3_two_51, eX3_two_52, eX3_two_52N, eX3_two_53, eX3_two_56, eX3_two_57, eX3_two_58, eX3_two_58N, eX3_two_59, eX3_two_62, eX3_two_63, eX3_two_64, eX3_two_67, lgp, lgn, lgz, i10, i00, if_true, if_false, eq_self, not_true, not_false_eq_true, m10, n4e, upw2q, rv0, rv1, rv2, rv3, lmi, lmx, ite_le, n45, n54, true_or, or_true, false_or, or_false, false_and, and_false, kx_l, kx_r, go_s, gl_s, gi_s, gb_s2, gb_s3, gq_s, wt_nil, wt_int, wt_long, wt_ref, wt_null, nl_int, nl_long, nl_ref, nl_null, nl_none, rf_n, rf_s, rf_st, tl_s, tl_n, g0, gS, ex1, nb_b, nb_0, nb_1, nf_i, nf_l, nf_ra, nf_ro, nf_na, nf_no, nf_b0, nf_z0, t45_4, t45_5, true_and, and_true, List.set_cons_zero, List.set_cons_succ, List.length_cons, List.length_nil, rd_s, upw_s, ne_eq, not_false_eq_true, Nat.zero_add, Nat.add_zero]
    | with_reducible refine itx (fun _ => ?_) (fun _ => ?_)
    | split
    | with_reducible intro _
    | omega
set_option maxHeartbeats 4000000 in
theorem fX3_three {a0 a1 a2 a3 : Int32} (hM : MS g w0 y nM kd th s w) (hX : ¬ (okC a0 ∧ okN a1 ∧ okN a2 ∧ okN a3) → ∀ w', MS g w0 y nM kd 1 s w' → Q (.inl (some (.int 0))) w') (hT : okC a0 → okN a1 → okN a2 → okN a3 → oP (s.1 a1.toNatClampNeg) (s.1 a1.toNatClampNeg) (s.1 a2.toNatClampNeg) (s.1 a3.toNatClampNeg) → ∀ w', MS g w0 y nM kd 0 (sMk s a0.toNatClampNeg (s.1 a1.toNatClampNeg, s.1 a1.toNatClampNeg, s.1 a2.toNatClampNeg, s.1 a3.toNatClampNeg)) w' → Q (.inl (some (.int 1))) w') (hF : okC a0 → okN a1 → okN a2 → okN a3 → ¬ oP (s.1 a1.toNatClampNeg) (s.1 a1.toNatClampNeg) (s.1 a2.toNatClampNeg) (s.1 a3.toNatClampNeg) → ∀ w', MS g w0 y nM kd 0 (sRf s) w' → Q (.inl (some (.int (-9)))) w') : WP (MX3_three g) Q (0, [some (.ref y), some (.int a0), some (.int a1), some (.int a2), some (.int a3)], [], w, 0, 0) := by
  repeat' first
    | with_reducible assumption
    | with_reducible refine And.intro ?_ ?_
    | with_reducible exact vpi6 (by assumption) (by assumption)
    | with_reducible exact vpi8 (by assumption) (by assumption)
    | with_reducible exact trivial
    | with_reducible exact absurd (by assumption) n10'
    | with_reducible exact n00x (by assumption)
    | with_reducible exact hX (fun h => absurd h.1 (by assumption)) _ (by assumption)
    | with_reducible exact hX (fun h => absurd h.2.1 (by assumption)) _ (by assumption)
    | with_reducible exact hX (fun h => absurd h.2.2.1 (by assumption)) _ (by assumption)
    | with_reducible exact hX (fun h => absurd h.2.2.2 (by assumption)) _ (by assumption)
    | with_reducible exact hT (by assumption) (by assumption) (by assumption) (by assumption) hyes _ h3
    | with_reducible exact hF (by assumption) (by assumption) (by assumption) (by assumption) hno _ h3
    | with_reducible refine fX3_isNoNumber (fun _ => ?_) (fun _ => ?_)
    | with_reducible refine fX3_isNoCard (fun _ => ?_) (fun _ => ?_)
    | with_reducible refine fX3_start (by assumption) (by decide) (fun _ w1 h1 => ?_) (fun _ w1 h1 => ?_)
    | with_reducible refine go_S (by assumption) (fun _ _ hY => ?_)
    | with_reducible refine gl_S (by assumption) ?_
    | with_reducible exact vpi8k (by assumption)
    | with_reducible exact vpi6k (by assumption)
    | with_reducible exact vpi4k (by assumption)
    | with_reducible refine fX3_make (by assumption) (by assumption) (fun hyes w3 h3 => ?_) (fun hno w3 h3 => ?_)
    | simp only [eX3_three_0, eX3_three_0N, eX3_three_1, eX3_three_2, eX3_three_5, eX3_three_8, eX3_three_9, eX3_three_12, eX3_three_15, eX3_three_16, eX3_three_19, eX3_three_22, eX3_three_24, eX3_three_27, eX3_three_30, eX3_three_31, eX3_three_34, eX3_three_35, eX3_three_36, eX3_three_39, eX3_three_42, eX3_three_43, eX3_three_46, eX3_three_46N, eX3_three_47, eX3_three_48, eX3_three_48N, eX3_three_49, eX3_three_52, eX3_three_53, eX3_three_54, eX3_three_54N, eX3_three_55, eX3_three_58, eX3_three_59, eX3_three_60, eX3_three_60N, eX3_three_61, eX3_three_64, eX3_three_65, eX3_three_66, eX3_three_66N, eX3_three_67, eX3_three_70, eX3_three_72, eX3_three_73, eX3_three_76, lgp, lgn, lgz, i10, i00, if_true, if_false, eq_self, not_true, not_false_eq_true, m10, n4e, upw2q, rv0, rv1, rv2, rv3, lmi, lmx, ite_le, n45, n54, true_or, or_true, false_or, or_false, false_and, and_false, kx_l, kx_r, go_s, gl_s, gi_s, gb_s2, gb_s3, gq_s, wt_nil, wt_int, wt_long, wt_ref, wt_null, nl_int, nl_long, nl_ref, nl_null, nl_none, rf_n, rf_s, rf_st, tl_s, tl_n, g0, gS, ex1, nb_b, nb_0, nb_1, nf_i, nf_l, nf_ra, nf_ro, nf_na, nf_no, nf_b0, nf_z0, t45_4, t45_5, true_and, and_true, List.set_cons_zero, List.set_cons_succ, List.length_cons, List.length_nil, rd_s, upw_s, ne_eq, not_false_eq_true, Nat.zero_add, Nat.add_zero]
    | with_reducible refine itx (fun _ => ?_) (fun _ => ?_)
    | split
    | with_reducible intro _
    | omega
set_option maxHeartbeats 4000000 in
theorem fX3_four {a0 a1 a2 a3 a4 : Int32} (hM : MS g w0 y nM kd th s w) (hX : ¬ (okC a0 ∧ okN a1 ∧ okN a2 ∧ okN a3 ∧ okN a4) → ∀ w', MS g w0 y nM kd 1 s w' → Q (.inl (some (.int 0))) w') (hT : okC a0 → okN a1 → okN a2 → okN a3 → okN a4 → oP (s.1 a1.toNatClampNeg) (s.1 a2.toNatClampNeg) (s.1 a3.toNatClampNeg) (s.1 a4.toNatClampNeg) → ∀ w', MS g w0 y nM kd 0 (sMk s a0.toNatClampNeg (s.1 a1.toNatClampNeg, s.1 a2.toNatClampNeg, s.1 a3.toNatClampNeg, s.1 a4.toNatClampNeg)) w' → Q (.inl (some (.int 1))) w') (hF : okC a0 → okN a1 → okN a2 → okN a3 → okN a4 → ¬ oP (s.1 a1.toNatClampNeg) (s.1 a2.toNatClampNeg) (s.1 a3.toNatClampNeg) (s.1 a4.toNatClampNeg) → ∀ w', MS g w0 y nM kd 0 (sRf s) w' → Q (.inl (some (.int (-9)))) w') : WP (MX3_four g) Q (0, [some (.ref y), some (.int a0), some (.int a1), some (.int a2), some (.int a3), some (.int a4)], [], w, 0, 0) := by
  repeat' first
    | with_reducible assumption
    | with_reducible refine And.intro ?_ ?_
    | with_reducible exact vpi6 (by assumption) (by assumption)
    | with_reducible exact vpi8 (by assumption) (by assumption)
    | with_reducible exact trivial
    | with_reducible exact absurd (by assumption) n10'
    | with_reducible exact n00x (by assumption)
    | with_reducible exact hX (fun h => absurd h.1 (by assumption)) _ (by assumption)
    | with_reducible exact hX (fun h => absurd h.2.1 (by assumption)) _ (by assumption)
    | with_reducible exact hX (fun h => absurd h.2.2.1 (by assumption)) _ (by assumption)
    | with_reducible exact hX (fun h => absurd h.2.2.2.1 (by assumption)) _ (by assumption)
    | with_reducible exact hX (fun h => absurd h.2.2.2.2 (by assumption)) _ (by assumption)
    | with_reducible exact hT (by assumption) (by assumption) (by assumption) (by assumption) (by assumption) hyes _ h3
    | with_reducible exact hF (by assumption) (by assumption) (by assumption) (by assumption) (by assumption) hno _ h3
    | with_reducible refine fX3_isNoNumber (fun _ => ?_) (fun _ => ?_)
    | with_reducible refine fX3_isNoCard (fun _ => ?_) (fun _ => ?_)
    | with_reducible refine fX3_start (by assumption) (by decide) (fun _ w1 h1 => ?_) (fun _ w1 h1 => ?_)
    | with_reducible refine go_S (by assumption) (fun _ _ hY => ?_)
    | with_reducible refine gl_S (by assumption) ?_
    | with_reducible exact vpi8k (by assumption)
    | with_reducible exact vpi6k (by assumption)
    | with_reducible exact vpi4k (by assumption)
    | with_reducible refine fX3_make (by assumption) (by assumption) (fun hyes w3 h3 => ?_) (fun hno w3 h3 => ?_)
    | simp only [eX3_four_0, eX3_four_0N, eX3_four_1, eX3_four_2, eX3_four_5, eX3_four_8, eX3_four_9, eX3_four_12, eX3_four_15, eX3_four_16, eX3_four_19, eX3_four_22, eX3_four_24, eX3_four_27, eX3_four_30, eX3_four_32, eX3_four_35, eX3_four_38, eX3_four_39, eX3_four_42, eX3_four_43, eX3_four_44, eX3_four_47, eX3_four_50, eX3_four_51, eX3_four_54, eX3_four_54N, eX3_four_55, eX3_four_56, eX3_four_56N, eX3_four_57, eX3_four_60, eX3_four_61, eX3_four_62, eX3_four_62N, eX3_four_63, eX3_four_66, eX3_four_67, eX3_four_68, eX3_four_68N, eX3_four_69, eX3_four_72, eX3_four_74, eX3_four_75, eX3_four_75N, eX3_four_76, eX3_four_79, eX3_four_81, eX3_four_82, eX3_four_85, lgp, lgn, lgz, i10, i00, if_true, if_false, eq_self, not_true, not_false_eq_true, m10, n4e, upw2q, rv0, rv1, rv2, rv3, lmi, lmx, ite_le, n45, n54, true_or, or_true, false_or, or_false, false_and, and_false, kx_l, kx_r, go_s, gl_s, gi_s, gb_s2, gb_s3, gq_s, wt_nil, wt_int, wt_long, wt_ref, wt_null, nl_int, nl_long, nl_ref, nl_null, nl_none, rf_n, rf_s, rf_st, tl_s, tl_n, g0, gS, ex1, nb_b, nb_0, nb_1, nf_i, nf_l, nf_ra, nf_ro, nf_na, nf_no, nf_b0, nf_z0, t45_4, t45_5, true_and, and_true, List.set_cons_zero, List.set_cons_succ, List.length_cons, List.length_nil, rd_s, upw_s, ne_eq, not_false_eq_true, Nat.zero_add, Nat.add_zero]
    | with_reducible refine itx (fun _ => ?_) (fun _ => ?_)
    | split
    | with_reducible intro _
    | omega
set_option maxHeartbeats 4000000 in
theorem fX3_twoSmall {a0 a1 a2 : Int32} (hM : MS g w0 y nM kd th s w) (hX : ¬ (okC a0) → ∀ w', MS g w0 y nM kd 1 s w' → Q (.inl (some (.int 0))) w') (hT : okC a0 → oP (a1.toInt64) (a1.toInt64) (a2.toInt64) (a2.toInt64) → ∀ w', MS g w0 y nM kd 0 (sMk s a0.toNatClampNeg (a1.toInt64, a1.toInt64, a2.toInt64, a2.toInt64)) w' → Q (.inl (some (.int 1))) w') (hF : okC a0 → ¬ oP (a1.toInt64) (a1.toInt64) (a2.toInt64) (a2.toInt64) → ∀ w', MS g w0 y nM kd 0 (sRf s) w' → Q (.inl (some (.int (-9)))) w') : WP (MX3_twoSmall g) Q (0, [some (.ref y), some (.int a0), some (.int a1), some (.int a2)], [], w, 0, 0) := by
  repeat' first
    | with_reducible assumption
    | with_reducible refine And.intro ?_ ?_
    | with_reducible exact vpi6 (by assumption) (by assumption)
    | with_reducible exact vpi8 (by assumption) (by assumption)
    | with_reducible exact trivial
    | with_reducible exact absurd (by assumption) n10'
    | with_reducible exact n00x (by assumption)
    | with_reducible exact hX (fun h => absurd h (by assumption)) _ (by assumption)
    | with_reducible exact hT (by assumption) hyes _ h3
    | with_reducible exact hF (by assumption) hno _ h3
    | with_reducible refine fX3_isNoNumber (fun _ => ?_) (fun _ => ?_)
    | with_reducible refine fX3_isNoCard (fun _ => ?_) (fun _ => ?_)
    | with_reducible refine fX3_start (by assumption) (by decide) (fun _ w1 h1 => ?_) (fun _ w1 h1 => ?_)
    | with_reducible refine go_S (by assumption) (fun _ _ hY => ?_)
    | with_reducible refine gl_S (by assumption) ?_
    | with_reducible exact vpi8k (by assumption)
    | with_reducible exact vpi6k (by assumption)
    | with_reducible exact vpi4k (by assumption)
    | with_reducible refine fX3_make (by assumption) (by assumption) (fun hyes w3 h3 => ?_) (fun hno w3 h3 => ?_)
    | simp only [eX3_twoSmall_0, eX3_twoSmall_0N, eX3_twoSmall_1, eX3_twoSmall_2, eX3_twoSmall_5, eX3_twoSmall_6, eX3_twoSmall_9, eX3_twoSmall_12, eX3_twoSmall_13, eX3_twoSmall_16, eX3_twoSmall_16N, eX3_twoSmall_17, eX3_twoSmall_18, eX3_twoSmall_19, eX3_twoSmall_20, eX3_twoSmall_21, eX3_twoSmall_22, eX3_twoSmall_23, eX3_twoSmall_24, eX3_twoSmall_25, eX3_twoSmall_26, eX3_twoSmall_29, lgp, lgn, lgz, i10, i00, if_true, if_false, eq_self, not_true, not_false_eq_true, m10, n4e, upw2q, rv0, rv1, rv2, rv3, lmi, lmx, ite_le, n45, n54, true_or, or_true, false_or, or_false, false_and, and_false, kx_l, kx_r, go_s, gl_s, gi_s, gb_s2, gb_s3, gq_s, wt_nil, wt_int, wt_long, wt_ref, wt_null, nl_int, nl_long, nl_ref, nl_null, nl_none, rf_n, rf_s, rf_st, tl_s, tl_n, g0, gS, ex1, nb_b, nb_0, nb_1, nf_i, nf_l, nf_ra, nf_ro, nf_na, nf_no, nf_b0, nf_z0, t45_4, t45_5, true_and, and_true, List.set_cons_zero, List.set_cons_succ, List.length_cons, List.length_nil, rd_s, upw_s, ne_eq, not_false_eq_true, Nat.zero_add, Nat.add_zero]
    | with_reducible refine itx (fun _ => ?_) (fun _ => ?_)
    | split
    | with_reducible intro _
    | omega
set_option maxHeartbeats 4000000 in
theorem fX3_threeSmall {a0 a1 a2 a3 : Int32} (hM : MS g w0 y nM kd th s w) (hX : ¬ (okC a0) → ∀ w', MS g w0 y nM kd 1 s w' → Q (.inl (some (.int 0))) w') (hT : okC a0 → oP (a1.toInt64) (a1.toInt64) (a2.toInt64) (a3.toInt64) → ∀ w', MS g w0 y nM kd 0 (sMk s a0.toNatClampNeg (a1.toInt64, a1.toInt64, a2.toInt64, a3.toInt64)) w' → Q (.inl (some (.int 1))) w') (hF : okC a0 → ¬ oP (a1.toInt64) (a1.toInt64) (a2.toInt64) (a3.toInt64) → ∀ w', MS g w0 y nM kd 0 (sRf s) w' → Q (.inl (some (.int (-9)))) w') : WP (MX3_threeSmall g) Q (0, [some (.ref y), some (.int a0), some (.int a1), some (.int a2), some (.int a3)], [], w, 0, 0) := by
  repeat' first
    | with_reducible assumption
    | with_reducible refine And.intro ?_ ?_
    | with_reducible exact vpi6 (by assumption) (by assumption)
    | with_reducible exact vpi8 (by assumption) (by assumption)
    | with_reducible exact trivial
    | with_reducible exact absurd (by assumption) n10'
    | with_reducible exact n00x (by assumption)
    | with_reducible exact hX (fun h => absurd h (by assumption)) _ (by assumption)
    | with_reducible exact hT (by assumption) hyes _ h3
    | with_reducible exact hF (by assumption) hno _ h3
    | with_reducible refine fX3_isNoNumber (fun _ => ?_) (fun _ => ?_)
    | with_reducible refine fX3_isNoCard (fun _ => ?_) (fun _ => ?_)
    | with_reducible refine fX3_start (by assumption) (by decide) (fun _ w1 h1 => ?_) (fun _ w1 h1 => ?_)
    | with_reducible refine go_S (by assumption) (fun _ _ hY => ?_)
    | with_reducible refine gl_S (by assumption) ?_
    | with_reducible exact vpi8k (by assumption)
    | with_reducible exact vpi6k (by assumption)
    | with_reducible exact vpi4k (by assumption)
    | with_reducible refine fX3_make (by assumption) (by assumption) (fun hyes w3 h3 => ?_) (fun hno w3 h3 => ?_)
    | simp only [eX3_threeSmall_0, eX3_threeSmall_0N, eX3_threeSmall_1, eX3_threeSmall_2, eX3_threeSmall_5, eX3_threeSmall_6, eX3_threeSmall_9, eX3_threeSmall_12, eX3_threeSmall_13, eX3_threeSmall_16, eX3_threeSmall_16N, eX3_threeSmall_17, eX3_threeSmall_18, eX3_threeSmall_19, eX3_threeSmall_20, eX3_threeSmall_21, eX3_threeSmall_22, eX3_threeSmall_23, eX3_threeSmall_24, eX3_threeSmall_26, eX3_threeSmall_27, eX3_threeSmall_30, lgp, lgn, lgz, i10, i00, if_true, if_false, eq_self, not_true, not_false_eq_true, m10, n4e, upw2q, rv0, rv1, rv2, rv3, lmi, lmx, ite_le, n45, n54, true_or, or_true, false_or, or_false, false_and, and_false, kx_l, kx_r, go_s, gl_s, gi_s, gb_s2, gb_s3, gq_s, wt_nil, wt_int, wt_long, wt_ref, wt_null, nl_int, nl_long, nl_ref, nl_null, nl_none, rf_n, rf_s, rf_st, tl_s, tl_n, g0, gS, ex1, nb_b, nb_0, nb_1, nf_i, nf_l, nf_ra, nf_ro, nf_na, nf_no, nf_b0, nf_z0, t45_4, t45_5, true_and, and_true, List.set_cons_zero, List.set_cons_succ, List.length_cons, List.length_nil, rd_s, upw_s, ne_eq, not_false_eq_true, Nat.zero_add, Nat.add_zero]
    | with_reducible refine itx (fun _ => ?_) (fun _ => ?_)
    | split
    | with_reducible intro _
    | omega
set_option maxHeartbeats 4000000 in
theorem fX3_fourSmall {a0 a1 a2 a3 a4 : Int32} (hM : MS g w0 y nM kd th s w) (hX : ¬ (okC a0) → ∀ w', MS g w0 y nM kd 1 s w' → Q (.inl (some (.int 0))) w') (hT : okC a0 → oP (a1.toInt64) (a2.toInt64) (a3.toInt64) (a4.toInt64) → ∀ w', MS g w0 y nM kd 0 (sMk s a0.toNatClampNeg (a1.toInt64, a2.toInt64, a3.toInt64, a4.toInt64)) w' → Q (.inl (some (.int 1))) w') (hF : okC a0 → ¬ oP (a1.toInt64) (a2.toInt64) (a3.toInt64) (a4.toInt64) → ∀ w', MS g w0 y nM kd 0 (sRf s) w' → Q (.inl (some (.int (-9)))) w') : WP (MX3_fourSmall g) Q (0, [some (.ref y), some (.int a0), some (.int a1), some (.int a2), some (.int a3), some (.int a4)], [], w, 0, 0) := by
  repeat' first
    | with_reducible assumption
    | with_reducible refine And.intro ?_ ?_
    | with_reducible exact vpi6 (by assumption) (by assumption)
    | with_reducible exact vpi8 (by assumption) (by assumption)
    | with_reducible exact trivial
    | with_reducible exact absurd (by assumption) n10'
    | with_reducible exact n00x (by assumption)
    | with_reducible exact hX (fun h => absurd h (by assumption)) _ (by assumption)
    | with_reducible exact hT (by assumption) hyes _ h3
    | with_reducible exact hF (by assumption) hno _ h3
    | with_reducible refine fX3_isNoNumber (fun _ => ?_) (fun _ => ?_)
    | with_reducible refine fX3_isNoCard (fun _ => ?_) (fun _ => ?_)
    | with_reducible refine fX3_start (by assumption) (by decide) (fun _ w1 h1 => ?_) (fun _ w1 h1 => ?_)
    | with_reducible refine go_S (by assumption) (fun _ _ hY => ?_)
    | with_reducible refine gl_S (by assumption) ?_
    | with_reducible exact vpi8k (by assumption)
    | with_reducible exact vpi6k (by assumption)
    | with_reducible exact vpi4k (by assumption)
    | with_reducible refine fX3_make (by assumption) (by assumption) (fun hyes w3 h3 => ?_) (fun hno w3 h3 => ?_)
    | simp only [eX3_fourSmall_0, eX3_fourSmall_0N, eX3_fourSmall_1, eX3_fourSmall_2, eX3_fourSmall_5, eX3_fourSmall_6, eX3_fourSmall_9, eX3_fourSmall_12, eX3_fourSmall_13, eX3_fourSmall_16, eX3_fourSmall_16N, eX3_fourSmall_17, eX3_fourSmall_18, eX3_fourSmall_19, eX3_fourSmall_20, eX3_fourSmall_21, eX3_fourSmall_22, eX3_fourSmall_24, eX3_fourSmall_25, eX3_fourSmall_27, eX3_fourSmall_28, eX3_fourSmall_31, lgp, lgn, lgz, i10, i00, if_true, if_false, eq_self, not_true, not_false_eq_true, m10, n4e, upw2q, rv0, rv1, rv2, rv3, lmi, lmx, ite_le, n45, n54, true_or, or_true, false_or, or_false, false_and, and_false, kx_l, kx_r, go_s, gl_s, gi_s, gb_s2, gb_s3, gq_s, wt_nil, wt_int, wt_long, wt_ref, wt_null, nl_int, nl_long, nl_ref, nl_null, nl_none, rf_n, rf_s, rf_st, tl_s, tl_n, g0, gS, ex1, nb_b, nb_0, nb_1, nf_i, nf_l, nf_ra, nf_ro, nf_na, nf_no, nf_b0, nf_z0, t45_4, t45_5, true_and, and_true, List.set_cons_zero, List.set_cons_succ, List.length_cons, List.length_nil, rd_s, upw_s, ne_eq, not_false_eq_true, Nat.zero_add, Nat.add_zero]
    | with_reducible refine itx (fun _ => ?_) (fun _ => ?_)
    | split
    | with_reducible intro _
    | omega
end
