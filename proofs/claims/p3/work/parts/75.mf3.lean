section
variable {g : RO} {Q : Ot → Hw → Prop} {w0 w : Hw} {y nM : Nat} {kd th : Int32} {s : AS}
/-! MODEL, FUNCTIONAL, 4: numbers -/
theorem frE {a : Int32} (h : okW a 3) : vp_updL (vp_updL (vp_updL (vp_updL (fun _ => 0) (0 : Int32).toNatClampNeg (-9223372036854775808)) (1 : Int32).toNatClampNeg 9223372036854775807) (2 : Int32).toNatClampNeg (-2147483648)) (3 : Int32).toNatClampNeg 2147483647 a.toNatClampNeg = frV a := rvE (r := (-9223372036854775808, 9223372036854775807, -2147483648, 2147483647)) h.1 h.2
set_option maxHeartbeats 4000000 in
theorem fX3_set {a0 a1 a2 : Int32} (hM : MS g w0 y nM kd th s w) (hX : ¬ (okN a0) → ∀ w', MS g w0 y nM kd 1 s w' → Q (.inl (some (.int 0))) w') (hQ : okN a0 → ∀ w', MS g w0 y nM kd 0 (sN s (vp_updL s.1 a0.toNatClampNeg (stV a1 a2))) w' → Q (.inl (some (.int (hiV (s.1 a0.toNatClampNeg))))) w') : WP (MX3_set g) Q (0, [some (.ref y), some (.int a0), some (.int a1), some (.int a2), none], [], w, 0, 0) := by
  repeat' first
    | with_reducible assumption
    | with_reducible refine And.intro ?_ ?_
    | with_reducible exact vpi6 (by assumption) (by assumption)
    | with_reducible exact vpi8 (by assumption) (by assumption)
    | with_reducible exact trivial
    | with_reducible exact absurd (by assumption) n10'
    | with_reducible exact n00x (by assumption)
    | with_reducible exact hX (fun h => absurd h (by assumption)) _ (by assumption)
    | with_reducible refine fX3_isNoNumber (fun _ => ?_) (fun _ => ?_)
    | with_reducible refine fX3_start (by assumption) (by decide) (fun _ w1 h1 => ?_) (fun _ w1 h1 => ?_)
    | with_reducible refine go_S (by assumption) (fun _ _ hY => ?_)
    | with_reducible refine gl_S (by assumption) ?_
    | with_reducible exact vpi8k (by assumption)
    | with_reducible exact vpi6k (by assumption)
    | with_reducible exact vpi4k (by assumption)
    | with_reducible refine fX3_high ?_
    | with_reducible refine gl_Sw (by assumption) (fun hf => ?_)
    | (rw [stN (by assumption)]; exact hQ (by assumption) _ (hf _))
    | (rw [stP (by assumption)]; exact hQ (by assumption) _ (hf _))
    | simp only [eX3_set_0, eX3_set_0N, eX3_set_1, eX3_set_2, eX3_set_5, eX3_set_6, eX3_set_9, eX3_set_12, eX3_set_13, eX3_set_14, eX3_set_14N, eX3_set_15, eX3_set_18, eX3_set_19, eX3_set_20, eX3_set_23, eX3_set_25, eX3_set_25N, eX3_set_26, eX3_set_29, eX3_set_30, eX3_set_31, eX3_set_32, eX3_set_35, eX3_set_36, eX3_set_37, eX3_set_40, eX3_set_41, eX3_set_42, eX3_set_45, eX3_set_46, eX3_set_49, eX3_set_50, eX3_set_51, eX3_set_52, eX3_set_53, eX3_set_55, lgp, lgn, lgz, i10, i00, if_true, if_false, eq_self, not_true, not_false_eq_true, m10, n4e, upw2q, rv0, rv1, rv2, rv3, lmi, lmx, ite_le, n45, n54, true_or, or_true, false_or, or_false, false_and, and_false, kx_l, kx_r, go_s, gl_s, gi_s, gb_s2, gb_s3, gq_s, wt_nil, wt_int, wt_long, wt_ref, wt_null, nl_int, nl_long, nl_ref, nl_null, nl_none, rf_n, rf_s, rf_st, tl_s, tl_n, g0, gS, ex1, nb_b, nb_0, nb_1, nf_i, nf_l, nf_ra, nf_ro, nf_na, nf_no, nf_b0, nf_z0, t45_4, t45_5, true_and, and_true, List.set_cons_zero, List.set_cons_succ, List.length_cons, List.length_nil, rd_s, upw_s, ne_eq, not_false_eq_true, Nat.zero_add, Nat.add_zero]
    | with_reducible refine itx (fun _ => ?_) (fun _ => ?_)
    | split
    | with_reducible intro _
    | omega
set_option maxHeartbeats 4000000 in
theorem fX3_setSmall {a0 a1 : Int32} (hM : MS g w0 y nM kd th s w) (hX : ¬ (okN a0) → ∀ w', MS g w0 y nM kd 1 s w' → Q (.inl (some (.int 0))) w') (hQ : okN a0 → ∀ w', MS g w0 y nM kd 0 (sN s (vp_updL s.1 a0.toNatClampNeg a1.toInt64)) w' → Q (.inl (some (.int (loV (s.1 a0.toNatClampNeg))))) w') : WP (MX3_setSmall g) Q (0, [some (.ref y), some (.int a0), some (.int a1), none], [], w, 0, 0) := by
  repeat' first
    | with_reducible assumption
    | with_reducible refine And.intro ?_ ?_
    | with_reducible exact vpi6 (by assumption) (by assumption)
    | with_reducible exact vpi8 (by assumption) (by assumption)
    | with_reducible exact trivial
    | with_reducible exact absurd (by assumption) n10'
    | with_reducible exact n00x (by assumption)
    | with_reducible exact hX (fun h => absurd h (by assumption)) _ (by assumption)
    | with_reducible refine fX3_isNoNumber (fun _ => ?_) (fun _ => ?_)
    | with_reducible refine fX3_start (by assumption) (by decide) (fun _ w1 h1 => ?_) (fun _ w1 h1 => ?_)
    | with_reducible refine go_S (by assumption) (fun _ _ hY => ?_)
    | with_reducible refine gl_S (by assumption) ?_
    | with_reducible exact vpi8k (by assumption)
    | with_reducible exact vpi6k (by assumption)
    | with_reducible exact vpi4k (by assumption)
    | with_reducible refine fX3_low ?_
    | with_reducible refine gl_Sw (by assumption) (fun hf => ?_)
    | with_reducible exact hQ (by assumption) _ (hf _)
    | simp only [eX3_setSmall_0, eX3_setSmall_0N, eX3_setSmall_1, eX3_setSmall_2, eX3_setSmall_5, eX3_setSmall_6, eX3_setSmall_9, eX3_setSmall_12, eX3_setSmall_13, eX3_setSmall_14, eX3_setSmall_14N, eX3_setSmall_15, eX3_setSmall_18, eX3_setSmall_19, eX3_setSmall_20, eX3_setSmall_23, eX3_setSmall_24, eX3_setSmall_24N, eX3_setSmall_25, eX3_setSmall_28, eX3_setSmall_29, eX3_setSmall_30, eX3_setSmall_31, eX3_setSmall_32, eX3_setSmall_33, lgp, lgn, lgz, i10, i00, if_true, if_false, eq_self, not_true, not_false_eq_true, m10, n4e, upw2q, rv0, rv1, rv2, rv3, lmi, lmx, ite_le, n45, n54, true_or, or_true, false_or, or_false, false_and, and_false, kx_l, kx_r, go_s, gl_s, gi_s, gb_s2, gb_s3, gq_s, wt_nil, wt_int, wt_long, wt_ref, wt_null, nl_int, nl_long, nl_ref, nl_null, nl_none, rf_n, rf_s, rf_st, tl_s, tl_n, g0, gS, ex1, nb_b, nb_0, nb_1, nf_i, nf_l, nf_ra, nf_ro, nf_na, nf_no, nf_b0, nf_z0, t45_4, t45_5, true_and, and_true, List.set_cons_zero, List.set_cons_succ, List.length_cons, List.length_nil, rd_s, upw_s, ne_eq, not_false_eq_true, Nat.zero_add, Nat.add_zero]
    | with_reducible refine itx (fun _ => ?_) (fun _ => ?_)
    | split
    | with_reducible intro _
    | omega
set_option maxHeartbeats 4000000 in
theorem fX3_setEnd {a0 a1 : Int32} (hM : MS g w0 y nM kd th s w) (hX : ¬ (okN a0) → ∀ w', MS g w0 y nM kd 1 s w' → Q (.inl (some (.int 0))) w') (hW : okN a0 → ¬ okW a1 3 → ∀ w', MS g w0 y nM kd 2 s w' → Q (.inl (some (.int 0))) w') (hQ : okN a0 → okW a1 3 → ∀ w', MS g w0 y nM kd 0 (sN s (vp_updL s.1 a0.toNatClampNeg (frV a1))) w' → Q (.inl (some (.int (loV (frV a1))))) w') : WP (MX3_setEnd g) Q (0, [some (.ref y), some (.int a0), some (.int a1), none], [], w, 0, 0) := by
  repeat' first
    | with_reducible assumption
    | with_reducible refine And.intro ?_ ?_
    | with_reducible exact vpi6 (by assumption) (by assumption)
    | with_reducible exact vpi8 (by assumption) (by assumption)
    | with_reducible exact trivial
    | with_reducible exact absurd (by assumption) n10'
    | with_reducible exact n00x (by assumption)
    | with_reducible exact hX (fun h => absurd h (by assumption)) _ (by assumption)
    | with_reducible exact hW (by assumption) (nokW (by assumption)) _ (by assumption)
    | with_reducible refine fX3_isNoNumber (fun _ => ?_) (fun _ => ?_)
    | with_reducible refine fX3_start (by assumption) (by decide) (fun _ w1 h1 => ?_) (fun _ w1 h1 => ?_)
    | with_reducible refine go_S (by assumption) (fun _ _ hY => ?_)
    | with_reducible refine gl_S (by assumption) ?_
    | with_reducible exact vpi8k (by assumption)
    | with_reducible exact vpi6k (by assumption)
    | with_reducible exact vpi4k (by assumption)
    | with_reducible refine fX3_refuse (by assumption) (by decide) (fun _ => ?_) (fun _ w2 h2 => ?_)
    | with_reducible refine fX3_isIn (fun _ _ => ?_) (fun _ => ?_)
    | with_reducible exact n4a
    | with_reducible exact n4b
    | with_reducible exact n4c
    | with_reducible exact vpi4n (by assumption) (by assumption)
    | with_reducible exact vpi4.1
    | with_reducible exact vpi4.2.1
    | with_reducible exact vpi4.2.2.1
    | with_reducible exact vpi4.2.2.2
    | (rw [frE ⟨by assumption, by assumption⟩]; refine fX3_become (MS.fr (by assumption) (by assumption)) (by assumption) (fun w3 h3 => ?_))
    | with_reducible exact hQ (by assumption) ⟨by assumption, by assumption⟩ _ (by assumption)
    | with_reducible refine go_S (MS.fr (by assumption) (by assumption)) (fun _ _ hY => ?_)
    | simp only [eX3_setEnd_0, eX3_setEnd_0N, eX3_setEnd_1, eX3_setEnd_2, eX3_setEnd_5, eX3_setEnd_6, eX3_setEnd_9, eX3_setEnd_12, eX3_setEnd_12N, eX3_setEnd_13, eX3_setEnd_14, eX3_setEnd_15, eX3_setEnd_16, eX3_setEnd_19, eX3_setEnd_22, eX3_setEnd_23, eX3_setEnd_26, eX3_setEnd_27, eX3_setEnd_28, eX3_setEnd_31, eX3_setEnd_34, eX3_setEnd_35, eX3_setEnd_36, eX3_setEnd_37, eX3_setEnd_39, eX3_setEnd_39R, eX3_setEnd_40, eX3_setEnd_41, eX3_setEnd_44, eX3_setEnd_45, eX3_setEnd_45R, eX3_setEnd_46, eX3_setEnd_47, eX3_setEnd_50, eX3_setEnd_51, eX3_setEnd_51R, eX3_setEnd_52, eX3_setEnd_53, eX3_setEnd_56, eX3_setEnd_57, eX3_setEnd_57R, eX3_setEnd_58, eX3_setEnd_59, eX3_setEnd_62, eX3_setEnd_63, eX3_setEnd_63N, eX3_setEnd_64, eX3_setEnd_64N, eX3_setEnd_65, eX3_setEnd_66, eX3_setEnd_66N, eX3_setEnd_67, eX3_setEnd_68, eX3_setEnd_69, eX3_setEnd_72, lgp, lgn, lgz, i10, i00, if_true, if_false, eq_self, not_true, not_false_eq_true, m10, n4e, upw2q, rv0, rv1, rv2, rv3, lmi, lmx, ite_le, n45, n54, true_or, or_true, false_or, or_false, false_and, and_false, kx_l, kx_r, go_s, gl_s, gi_s, gb_s2, gb_s3, gq_s, wt_nil, wt_int, wt_long, wt_ref, wt_null, nl_int, nl_long, nl_ref, nl_null, nl_none, rf_n, rf_s, rf_st, tl_s, tl_n, g0, gS, ex1, nb_b, nb_0, nb_1, nf_i, nf_l, nf_ra, nf_ro, nf_na, nf_no, nf_b0, nf_z0, t45_4, t45_5, true_and, and_true, List.set_cons_zero, List.set_cons_succ, List.length_cons, List.length_nil, rd_s, upw_s, ne_eq, not_false_eq_true, Nat.zero_add, Nat.add_zero]
    | with_reducible refine itx (fun _ => ?_) (fun _ => ?_)
    | split
    | with_reducible intro _
    | omega
set_option maxHeartbeats 4000000 in
theorem fX3_move {a0 a1 : Int32} (hM : MS g w0 y nM kd th s w) (hX : ¬ (okN a0) → ∀ w', MS g w0 y nM kd 1 s w' → Q (.inl (some (.int 0))) w') (hQ : okN a0 → ∀ w', MS g w0 y nM kd 0 (sN s (vp_updL s.1 a0.toNatClampNeg (s.1 a0.toNatClampNeg + a1.toInt64))) w' → Q (.inl (some (.int (loV (s.1 a0.toNatClampNeg + a1.toInt64))))) w') : WP (MX3_move g) Q (0, [some (.ref y), some (.int a0), some (.int a1)], [], w, 0, 0) := by
  repeat' first
    | with_reducible assumption
    | with_reducible refine And.intro ?_ ?_
    | with_reducible exact vpi6 (by assumption) (by assumption)
    | with_reducible exact vpi8 (by assumption) (by assumption)
    | with_reducible exact trivial
    | with_reducible exact absurd (by assumption) n10'
    | with_reducible exact n00x (by assumption)
    | with_reducible exact hX (fun h => absurd h (by assumption)) _ (by assumption)
    | with_reducible refine fX3_isNoNumber (fun _ => ?_) (fun _ => ?_)
    | with_reducible refine fX3_start (by assumption) (by decide) (fun _ w1 h1 => ?_) (fun _ w1 h1 => ?_)
    | with_reducible refine go_S (by assumption) (fun _ _ hY => ?_)
    | with_reducible refine gl_S (by assumption) ?_
    | with_reducible exact vpi8k (by assumption)
    | with_reducible exact vpi6k (by assumption)
    | with_reducible exact vpi4k (by assumption)
    | with_reducible refine fX3_become (by assumption) (by assumption) (fun w3 h3 => ?_)
    | with_reducible exact hQ (by assumption) _ (by assumption)
    | simp only [eX3_move_0, eX3_move_0N, eX3_move_1, eX3_move_2, eX3_move_5, eX3_move_6, eX3_move_9, eX3_move_12, eX3_move_13, eX3_move_16, eX3_move_16N, eX3_move_17, eX3_move_18, eX3_move_18N, eX3_move_19, eX3_move_22, eX3_move_23, eX3_move_24, eX3_move_25, eX3_move_26, eX3_move_27, eX3_move_30, lgp, lgn, lgz, i10, i00, if_true, if_false, eq_self, not_true, not_false_eq_true, m10, n4e, upw2q, rv0, rv1, rv2, rv3, lmi, lmx, ite_le, n45, n54, true_or, or_true, false_or, or_false, false_and, and_false, kx_l, kx_r, go_s, gl_s, gi_s, gb_s2, gb_s3, gq_s, wt_nil, wt_int, wt_long, wt_ref, wt_null, nl_int, nl_long, nl_ref, nl_null, nl_none, rf_n, rf_s, rf_st, tl_s, tl_n, g0, gS, ex1, nb_b, nb_0, nb_1, nf_i, nf_l, nf_ra, nf_ro, nf_na, nf_no, nf_b0, nf_z0, t45_4, t45_5, true_and, and_true, List.set_cons_zero, List.set_cons_succ, List.length_cons, List.length_nil, rd_s, upw_s, ne_eq, not_false_eq_true, Nat.zero_add, Nat.add_zero]
    | with_reducible refine itx (fun _ => ?_) (fun _ => ?_)
    | split
    | with_reducible intro _
    | omega
set_option maxHeartbeats 4000000 in
theorem fX3_copy {a0 a1 : Int32} (hM : MS g w0 y nM kd th s w) (hX : ¬ (okN a0 ∧ okN a1) → ∀ w', MS g w0 y nM kd 1 s w' → Q (.inl (some (.int 0))) w') (hQ : okN a0 → okN a1 → ∀ w', MS g w0 y nM kd 0 (sN s (vp_updL s.1 a0.toNatClampNeg (s.1 a1.toNatClampNeg))) w' → Q (.inl (some (.int (loV (s.1 a1.toNatClampNeg))))) w') : WP (MX3_copy g) Q (0, [some (.ref y), some (.int a0), some (.int a1)], [], w, 0, 0) := by
  repeat' first
    | with_reducible assumption
    | with_reducible refine And.intro ?_ ?_
    | with_reducible exact vpi6 (by assumption) (by assumption)
    | with_reducible exact vpi8 (by assumption) (by assumption)
    | with_reducible exact trivial
    | with_reducible exact absurd (by assumption) n10'
    | with_reducible exact n00x (by assumption)
    | with_reducible exact hX (fun h => absurd h.1 (by assumption)) _ (by assumption)
    | with_reducible exact hX (fun h => absurd h.2 (by assumption)) _ (by assumption)
    | with_reducible refine fX3_isNoNumber (fun _ => ?_) (fun _ => ?_)
    | with_reducible refine fX3_start (by assumption) (by decide) (fun _ w1 h1 => ?_) (fun _ w1 h1 => ?_)
    | with_reducible refine go_S (by assumption) (fun _ _ hY => ?_)
    | with_reducible refine gl_S (by assumption) ?_
    | with_reducible exact vpi8k (by assumption)
    | with_reducible exact vpi6k (by assumption)
    | with_reducible exact vpi4k (by assumption)
    | with_reducible refine fX3_become (by assumption) (by assumption) (fun w3 h3 => ?_)
    | with_reducible exact hQ (by assumption) (by assumption) _ (by assumption)
    | simp only [eX3_copy_0, eX3_copy_0N, eX3_copy_1, eX3_copy_2, eX3_copy_5, eX3_copy_8, eX3_copy_9, eX3_copy_12, eX3_copy_15, eX3_copy_16, eX3_copy_19, eX3_copy_20, eX3_copy_21, eX3_copy_24, eX3_copy_27, eX3_copy_28, eX3_copy_31, eX3_copy_31N, eX3_copy_32, eX3_copy_33, eX3_copy_33N, eX3_copy_34, eX3_copy_37, eX3_copy_38, eX3_copy_39, eX3_copy_42, lgp, lgn, lgz, i10, i00, if_true, if_false, eq_self, not_true, not_false_eq_true, m10, n4e, upw2q, rv0, rv1, rv2, rv3, lmi, lmx, ite_le, n45, n54, true_or, or_true, false_or, or_false, false_and, and_false, kx_l, kx_r, go_s, gl_s, gi_s, gb_s2, gb_s3, gq_s, wt_nil, wt_int, wt_long, wt_ref, wt_null, nl_int, nl_long, nl_ref, nl_null, nl_none, rf_n, rf_s, rf_st, tl_s, tl_n, g0, gS, ex1, nb_b, nb_0, nb_1, nf_i, nf_l, nf_ra, nf_ro, nf_na, nf_no, nf_b0, nf_z0, t45_4, t45_5, true_and, and_true, List.set_cons_zero, List.set_cons_succ, List.length_cons, List.length_nil, rd_s, upw_s, ne_eq, not_false_eq_true, Nat.zero_add, Nat.add_zero]
    | with_reducible refine itx (fun _ => ?_) (fun _ => ?_)
    | split
    | with_reducible intro _
    | omega
set_option maxHeartbeats 4000000 in
theorem fX3_ofNumber {a0 a1 : Int32} (hM : MS g w0 y nM kd th s w) (hX : ¬ (okN a0) → ∀ w', MS g w0 y nM kd 1 s w' → Q (.inl (some (.int 0))) w') (hQ : okN a0 → ∀ w', MS g w0 y nM kd 0 s w' → Q (.inl (some (.int (hfV (s.1 a0.toNatClampNeg) a1)))) w') : WP (MX3_ofNumber g) Q (0, [some (.ref y), some (.int a0), some (.int a1)], [], w, 0, 0) := by
  repeat' first
    | with_reducible assumption
    | with_reducible refine And.intro ?_ ?_
    | with_reducible exact vpi6 (by assumption) (by assumption)
    | with_reducible exact vpi8 (by assumption) (by assumption)
    | with_reducible exact trivial
    | with_reducible exact absurd (by assumption) n10'
    | with_reducible exact n00x (by assumption)
    | with_reducible exact hX (fun h => absurd h (by assumption)) _ (by assumption)
    | with_reducible refine fX3_isNoNumber (fun _ => ?_) (fun _ => ?_)
    | with_reducible refine fX3_start (by assumption) (by decide) (fun _ w1 h1 => ?_) (fun _ w1 h1 => ?_)
    | with_reducible refine go_S (by assumption) (fun _ _ hY => ?_)
    | with_reducible refine gl_S (by assumption) ?_
    | with_reducible exact vpi8k (by assumption)
    | with_reducible exact vpi6k (by assumption)
    | with_reducible exact vpi4k (by assumption)
    | with_reducible refine fX3_high ?_
    | with_reducible refine fX3_low ?_
    | (rw [← hfV_n (a := s.1 a0.toNatClampNeg) (h := a1) (by assumption)]; exact hQ (by assumption) _ (by assumption))
    | (rw [← hfV_e (a := s.1 a0.toNatClampNeg) (h := a1) (by assumption)]; exact hQ (by assumption) _ (by assumption))
    | simp only [eX3_ofNumber_0, eX3_ofNumber_0N, eX3_ofNumber_1, eX3_ofNumber_2, eX3_ofNumber_5, eX3_ofNumber_6, eX3_ofNumber_9, eX3_ofNumber_12, eX3_ofNumber_13, eX3_ofNumber_14, eX3_ofNumber_15, eX3_ofNumber_18, eX3_ofNumber_18N, eX3_ofNumber_19, eX3_ofNumber_22, eX3_ofNumber_23, eX3_ofNumber_24, eX3_ofNumber_27, eX3_ofNumber_30, eX3_ofNumber_30N, eX3_ofNumber_31, eX3_ofNumber_34, eX3_ofNumber_35, eX3_ofNumber_36, eX3_ofNumber_39, lgp, lgn, lgz, i10, i00, if_true, if_false, eq_self, not_true, not_false_eq_true, m10, n4e, upw2q, rv0, rv1, rv2, rv3, lmi, lmx, ite_le, n45, n54, true_or, or_true, false_or, or_false, false_and, and_false, kx_l, kx_r, go_s, gl_s, gi_s, gb_s2, gb_s3, gq_s, wt_nil, wt_int, wt_long, wt_ref, wt_null, nl_int, nl_long, nl_ref, nl_null, nl_none, rf_n, rf_s, rf_st, tl_s, tl_n, g0, gS, ex1, nb_b, nb_0, nb_1, nf_i, nf_l, nf_ra, nf_ro, nf_na, nf_no, nf_b0, nf_z0, t45_4, t45_5, true_and, and_true, List.set_cons_zero, List.set_cons_succ, List.length_cons, List.length_nil, rd_s, upw_s, ne_eq, not_false_eq_true, Nat.zero_add, Nat.add_zero]
    | with_reducible refine itx (fun _ => ?_) (fun _ => ?_)
    | split
    | with_reducible intro _
    | omega
set_option maxHeartbeats 4000000 in
theorem fX3_order {a0 a1 : Int32} (hM : MS g w0 y nM kd th s w) (hX : ¬ (okN a0 ∧ okN a1) → ∀ w', MS g w0 y nM kd 1 s w' → Q (.inl (some (.int 0))) w') (hQ : okN a0 → okN a1 → ∀ w', MS g w0 y nM kd 0 s w' → Q (.inl (some (.int (orV (s.1 a0.toNatClampNeg) (s.1 a1.toNatClampNeg))))) w') : WP (MX3_order g) Q (0, [some (.ref y), some (.int a0), some (.int a1)], [], w, 0, 0) := by
  repeat' first
    | with_reducible assumption
    | with_reducible refine And.intro ?_ ?_
    | with_reducible exact vpi6 (by assumption) (by assumption)
    | with_reducible exact vpi8 (by assumption) (by assumption)
    | with_reducible exact trivial
    | with_reducible exact absurd (by assumption) n10'
    | with_reducible exact n00x (by assumption)
    | with_reducible exact hX (fun h => absurd h.1 (by assumption)) _ (by assumption)
    | with_reducible exact hX (fun h => absurd h.2 (by assumption)) _ (by assumption)
    | with_reducible refine fX3_isNoNumber (fun _ => ?_) (fun _ => ?_)
    | with_reducible refine fX3_start (by assumption) (by decide) (fun _ w1 h1 => ?_) (fun _ w1 h1 => ?_)
    | with_reducible refine go_S (by assumption) (fun _ _ hY => ?_)
    | with_reducible refine gl_S (by assumption) ?_
    | with_reducible exact vpi8k (by assumption)
    | with_reducible exact vpi6k (by assumption)
    | with_reducible exact vpi4k (by assumption)
    | with_reducible refine fX3_one (Or.inl rfl) ?_
    | with_reducible refine fX3_one (Or.inr rfl) ?_
    | (rw [← orV_1 (a := s.1 a0.toNatClampNeg) (b := s.1 a1.toNatClampNeg) (by assumption)]; exact hQ (by assumption) (by assumption) _ (by assumption))
    | (rw [← orV_2 (a := s.1 a0.toNatClampNeg) (b := s.1 a1.toNatClampNeg) (by assumption) (by assumption)]; exact hQ (by assumption) (by assumption) _ (by assumption))
    | (rw [← orV_3 (a := s.1 a0.toNatClampNeg) (b := s.1 a1.toNatClampNeg) (by assumption) (by assumption)]; exact hQ (by assumption) (by assumption) _ (by assumption))
    | simp only [eX3_order_0, eX3_order_0N, eX3_order_1, eX3_order_2, eX3_order_5, eX3_order_8, eX3_order_9, eX3_order_12, eX3_order_15, eX3_order_16, eX3_order_19, eX3_order_20, eX3_order_21, eX3_order_24, eX3_order_27, eX3_order_28, eX3_order_29, eX3_order_29N, eX3_order_30, eX3_order_33, eX3_order_34, eX3_order_35, eX3_order_35N, eX3_order_36, eX3_order_39, eX3_order_40, eX3_order_41, eX3_order_42, eX3_order_45, eX3_order_46, eX3_order_49, eX3_order_49N, eX3_order_50, eX3_order_53, eX3_order_54, eX3_order_55, eX3_order_55N, eX3_order_56, eX3_order_59, eX3_order_60, eX3_order_61, eX3_order_62, eX3_order_65, eX3_order_66, eX3_order_69, eX3_order_70, eX3_order_73, lgp, lgn, lgz, i10, i00, if_true, if_false, eq_self, not_true, not_false_eq_true, m10, n4e, upw2q, rv0, rv1, rv2, rv3, lmi, lmx, ite_le, n45, n54, true_or, or_true, false_or, or_false, false_and, and_false, kx_l, kx_r, go_s, gl_s, gi_s, gb_s2, gb_s3, gq_s, wt_nil, wt_int, wt_long, wt_ref, wt_null, nl_int, nl_long, nl_ref, nl_null, nl_none, rf_n, rf_s, rf_st, tl_s, tl_n, g0, gS, ex1, nb_b, nb_0, nb_1, nf_i, nf_l, nf_ra, nf_ro, nf_na, nf_no, nf_b0, nf_z0, t45_4, t45_5, true_and, and_true, List.set_cons_zero, List.set_cons_succ, List.length_cons, List.length_nil, rd_s, upw_s, ne_eq, not_false_eq_true, Nat.zero_add, Nat.add_zero]
    | with_reducible refine itx (fun _ => ?_) (fun _ => ?_)
    | split
    | with_reducible intro _
    | omega
end
