section
variable {g : RO} {Q : Ot → Hw → Prop} {w0 w : Hw} {x nA cA lA : Nat} {kn : Int32}
set_option maxHeartbeats 4000000 in
theorem sX0_isInOrder {a0 : Int64} {a1 : Int64} {a2 : Int64} {a3 : Int64} (hQ : ∀ v : Bool, Q (.inl (some (.int (bI v)))) w) : WP (MX0_isInOrder g) Q (0, [some (.long a0), none, some (.long a1), none, some (.long a2), none, some (.long a3), none], [], w, 0, 0) := by
  have hQt : Q (.inl (some (.int 1))) w := hQ true
  have hQf : Q (.inl (some (.int 0))) w := hQ false
  repeat' first
    | with_reducible assumption
    | with_reducible refine And.intro ?_ ?_
    | with_reducible exact vpi6 (by assumption) (by assumption)
    | with_reducible exact vpi8 (by assumption) (by assumption)
    | with_reducible refine go_R (by assumption) ?_
    | with_reducible exact hQ _
    | with_reducible exact hQt
    | with_reducible exact hQf
    | simp only [eX0_isInOrder_0, eX0_isInOrder_1, eX0_isInOrder_2, eX0_isInOrder_3, eX0_isInOrder_6, eX0_isInOrder_8, eX0_isInOrder_10, eX0_isInOrder_11, eX0_isInOrder_14, eX0_isInOrder_15, eX0_isInOrder_17, eX0_isInOrder_18, eX0_isInOrder_21, eX0_isInOrder_22, eX0_isInOrder_24, eX0_isInOrder_25, eX0_isInOrder_28, eX0_isInOrder_29, eX0_isInOrder_32, eX0_isInOrder_33, ite_le, n45, n54, true_or, or_true, false_or, or_false, false_and, and_false, kx_l, kx_r, go_s, gl_s, gi_s, gb_s2, gb_s3, gq_s, wt_nil, wt_int, wt_long, wt_ref, wt_null, nl_int, nl_long, nl_ref, nl_null, nl_none, rf_n, rf_s, rf_st, tl_s, tl_n, g0, gS, ex1, nb_b, nb_0, nb_1, nf_i, nf_l, nf_ra, nf_ro, nf_na, nf_no, nf_b0, nf_z0, t45_4, t45_5, true_and, and_true, List.set_cons_zero, List.set_cons_succ, List.length_cons, List.length_nil, rd_s, upw_s, ne_eq, not_false_eq_true, Nat.zero_add, Nat.add_zero]
    | split
    | with_reducible intro _
    | omega
set_option maxHeartbeats 4000000 in
theorem sX0_holds {p : Nat} {a0 : Int64} (hp : isR w p) (hQ : ∀ v : Bool, Q (.inl (some (.int (bI v)))) w) : WP (MX0_holds g) Q (0, [some (.ref p), some (.long a0), none], [], w, 0, 0) := by
  have hQt : Q (.inl (some (.int 1))) w := hQ true
  have hQf : Q (.inl (some (.int 0))) w := hQ false
  repeat' first
    | with_reducible assumption
    | with_reducible refine And.intro ?_ ?_
    | with_reducible exact vpi6 (by assumption) (by assumption)
    | with_reducible exact vpi8 (by assumption) (by assumption)
    | with_reducible refine go_R (by assumption) ?_
    | with_reducible exact hQ _
    | with_reducible exact hQt
    | with_reducible exact hQf
    | simp only [eX0_holds_0, eX0_holds_0N, eX0_holds_1, eX0_holds_4, eX0_holds_5, eX0_holds_6, eX0_holds_9, eX0_holds_10, eX0_holds_10N, eX0_holds_11, eX0_holds_14, eX0_holds_15, eX0_holds_18, eX0_holds_19, eX0_holds_22, eX0_holds_23, ite_le, n45, n54, true_or, or_true, false_or, or_false, false_and, and_false, kx_l, kx_r, go_s, gl_s, gi_s, gb_s2, gb_s3, gq_s, wt_nil, wt_int, wt_long, wt_ref, wt_null, nl_int, nl_long, nl_ref, nl_null, nl_none, rf_n, rf_s, rf_st, tl_s, tl_n, g0, gS, ex1, nb_b, nb_0, nb_1, nf_i, nf_l, nf_ra, nf_ro, nf_na, nf_no, nf_b0, nf_z0, t45_4, t45_5, true_and, and_true, List.set_cons_zero, List.set_cons_succ, List.length_cons, List.length_nil, rd_s, upw_s, ne_eq, not_false_eq_true, Nat.zero_add, Nat.add_zero]
    | split
    | with_reducible intro _
    | omega
set_option maxHeartbeats 4000000 in
theorem sX0_fitsSmall {p : Nat} (hp : isR w p) (hQ : ∀ v : Bool, Q (.inl (some (.int (bI v)))) w) : WP (MX0_fitsSmall g) Q (0, [some (.ref p)], [], w, 0, 0) := by
  have hQt : Q (.inl (some (.int 1))) w := hQ true
  have hQf : Q (.inl (some (.int 0))) w := hQ false
  repeat' first
    | with_reducible assumption
    | with_reducible refine And.intro ?_ ?_
    | with_reducible exact vpi6 (by assumption) (by assumption)
    | with_reducible exact vpi8 (by assumption) (by assumption)
    | with_reducible refine go_R (by assumption) ?_
    | with_reducible exact hQ _
    | with_reducible exact hQt
    | with_reducible exact hQf
    | simp only [eX0_fitsSmall_0, eX0_fitsSmall_0N, eX0_fitsSmall_1, eX0_fitsSmall_4, eX0_fitsSmall_7, eX0_fitsSmall_8, eX0_fitsSmall_11, eX0_fitsSmall_11N, eX0_fitsSmall_12, eX0_fitsSmall_15, eX0_fitsSmall_18, eX0_fitsSmall_19, eX0_fitsSmall_22, eX0_fitsSmall_23, eX0_fitsSmall_26, eX0_fitsSmall_27, ite_le, n45, n54, true_or, or_true, false_or, or_false, false_and, and_false, kx_l, kx_r, go_s, gl_s, gi_s, gb_s2, gb_s3, gq_s, wt_nil, wt_int, wt_long, wt_ref, wt_null, nl_int, nl_long, nl_ref, nl_null, nl_none, rf_n, rf_s, rf_st, tl_s, tl_n, g0, gS, ex1, nb_b, nb_0, nb_1, nf_i, nf_l, nf_ra, nf_ro, nf_na, nf_no, nf_b0, nf_z0, t45_4, t45_5, true_and, and_true, List.set_cons_zero, List.set_cons_succ, List.length_cons, List.length_nil, rd_s, upw_s, ne_eq, not_false_eq_true, Nat.zero_add, Nat.add_zero]
    | split
    | with_reducible intro _
    | omega
set_option maxHeartbeats 4000000 in
theorem sX0_holdsAsSmall {p : Nat} {a0 : Int64} (hp : isR w p) (hQ : ∀ v : Bool, Q (.inl (some (.int (bI v)))) w) : WP (MX0_holdsAsSmall g) Q (0, [some (.ref p), some (.long a0), none], [], w, 0, 0) := by
  have hQt : Q (.inl (some (.int 1))) w := hQ true
  have hQf : Q (.inl (some (.int 0))) w := hQ false
  repeat' first
    | with_reducible assumption
    | with_reducible refine And.intro ?_ ?_
    | with_reducible exact vpi6 (by assumption) (by assumption)
    | with_reducible exact vpi8 (by assumption) (by assumption)
    | with_reducible refine sX0_fitsSmall (by first | assumption | exact hgc _ _ (by assumption) | exact hgl _ _ (by assumption) | exact isR.ext (by assumption) (by assumption)) ?_
    | with_reducible refine sX0_holds (by first | assumption | exact hgc _ _ (by assumption) | exact hgl _ _ (by assumption) | exact isR.ext (by assumption) (by assumption)) ?_
    | with_reducible refine go_R (by assumption) ?_
    | with_reducible exact hQ _
    | with_reducible exact hQt
    | with_reducible exact hQf
    | simp only [eX0_holdsAsSmall_0, eX0_holdsAsSmall_0N, eX0_holdsAsSmall_1, eX0_holdsAsSmall_4, eX0_holdsAsSmall_7, eX0_holdsAsSmall_7N, eX0_holdsAsSmall_8, eX0_holdsAsSmall_9, eX0_holdsAsSmall_12, eX0_holdsAsSmall_15, eX0_holdsAsSmall_16, eX0_holdsAsSmall_19, eX0_holdsAsSmall_20, ite_le, n45, n54, true_or, or_true, false_or, or_false, false_and, and_false, kx_l, kx_r, go_s, gl_s, gi_s, gb_s2, gb_s3, gq_s, wt_nil, wt_int, wt_long, wt_ref, wt_null, nl_int, nl_long, nl_ref, nl_null, nl_none, rf_n, rf_s, rf_st, tl_s, tl_n, g0, gS, ex1, nb_b, nb_0, nb_1, nf_i, nf_l, nf_ra, nf_ro, nf_na, nf_no, nf_b0, nf_z0, t45_4, t45_5, true_and, and_true, List.set_cons_zero, List.set_cons_succ, List.length_cons, List.length_nil, rd_s, upw_s, ne_eq, not_false_eq_true, Nat.zero_add, Nat.add_zero]
    | split
    | with_reducible intro _
    | omega
set_option maxHeartbeats 4000000 in
theorem sX0_holdsAs {p : Nat} {a0 : Int64} {a1 : Int32} (hp : isR w p) (hQ : ∀ v : Bool, Q (.inl (some (.int (bI v)))) w) : WP (MX0_holdsAs g) Q (0, [some (.ref p), some (.long a0), none, some (.int a1)], [], w, 0, 0) := by
  have hQt : Q (.inl (some (.int 1))) w := hQ true
  have hQf : Q (.inl (some (.int 0))) w := hQ false
  repeat' first
    | with_reducible assumption
    | with_reducible refine And.intro ?_ ?_
    | with_reducible exact vpi6 (by assumption) (by assumption)
    | with_reducible exact vpi8 (by assumption) (by assumption)
    | with_reducible refine sX0_holdsAsSmall (by first | assumption | exact hgc _ _ (by assumption) | exact hgl _ _ (by assumption) | exact isR.ext (by assumption) (by assumption)) ?_
    | with_reducible refine sX0_holds (by first | assumption | exact hgc _ _ (by assumption) | exact hgl _ _ (by assumption) | exact isR.ext (by assumption) (by assumption)) ?_
    | with_reducible refine go_R (by assumption) ?_
    | with_reducible exact hQ _
    | with_reducible exact hQt
    | with_reducible exact hQf
    | simp only [eX0_holdsAs_0, eX0_holdsAs_1, eX0_holdsAs_4, eX0_holdsAs_4N, eX0_holdsAs_5, eX0_holdsAs_6, eX0_holdsAs_9, eX0_holdsAs_12, eX0_holdsAs_12N, eX0_holdsAs_13, eX0_holdsAs_14, eX0_holdsAs_17, ite_le, n45, n54, true_or, or_true, false_or, or_false, false_and, and_false, kx_l, kx_r, go_s, gl_s, gi_s, gb_s2, gb_s3, gq_s, wt_nil, wt_int, wt_long, wt_ref, wt_null, nl_int, nl_long, nl_ref, nl_null, nl_none, rf_n, rf_s, rf_st, tl_s, tl_n, g0, gS, ex1, nb_b, nb_0, nb_1, nf_i, nf_l, nf_ra, nf_ro, nf_na, nf_no, nf_b0, nf_z0, t45_4, t45_5, true_and, and_true, List.set_cons_zero, List.set_cons_succ, List.length_cons, List.length_nil, rd_s, upw_s, ne_eq, not_false_eq_true, Nat.zero_add, Nat.add_zero]
    | split
    | with_reducible intro _
    | omega
set_option maxHeartbeats 4000000 in
theorem sX0_isSettled {p : Nat} (hp : isR w p) (hQ : ∀ v : Bool, Q (.inl (some (.int (bI v)))) w) : WP (MX0_isSettled g) Q (0, [some (.ref p)], [], w, 0, 0) := by
  have hQt : Q (.inl (some (.int 1))) w := hQ true
  have hQf : Q (.inl (some (.int 0))) w := hQ false
  repeat' first
    | with_reducible assumption
    | with_reducible refine And.intro ?_ ?_
    | with_reducible exact vpi6 (by assumption) (by assumption)
    | with_reducible exact vpi8 (by assumption) (by assumption)
    | with_reducible refine go_R (by assumption) ?_
    | with_reducible exact hQ _
    | with_reducible exact hQt
    | with_reducible exact hQf
    | simp only [eX0_isSettled_0, eX0_isSettled_0N, eX0_isSettled_1, eX0_isSettled_4, eX0_isSettled_4N, eX0_isSettled_5, eX0_isSettled_8, eX0_isSettled_9, eX0_isSettled_12, eX0_isSettled_12N, eX0_isSettled_13, eX0_isSettled_16, eX0_isSettled_16N, eX0_isSettled_17, eX0_isSettled_20, eX0_isSettled_21, eX0_isSettled_24, eX0_isSettled_25, eX0_isSettled_28, eX0_isSettled_29, ite_le, n45, n54, true_or, or_true, false_or, or_false, false_and, and_false, kx_l, kx_r, go_s, gl_s, gi_s, gb_s2, gb_s3, gq_s, wt_nil, wt_int, wt_long, wt_ref, wt_null, nl_int, nl_long, nl_ref, nl_null, nl_none, rf_n, rf_s, rf_st, tl_s, tl_n, g0, gS, ex1, nb_b, nb_0, nb_1, nf_i, nf_l, nf_ra, nf_ro, nf_na, nf_no, nf_b0, nf_z0, t45_4, t45_5, true_and, and_true, List.set_cons_zero, List.set_cons_succ, List.length_cons, List.length_nil, rd_s, upw_s, ne_eq, not_false_eq_true, Nat.zero_add, Nat.add_zero]
    | split
    | with_reducible intro _
    | omega
set_option maxHeartbeats 4000000 in
theorem sX0_matchesR {p : Nat} {a0 : Nat} (hp : isR w p) (h0 : isR w a0) (hQ : ∀ v : Bool, Q (.inl (some (.int (bI v)))) w) : WP (MX0_matches g) Q (0, [some (.ref p), some (.ref a0)], [], w, 0, 0) := by
  have hQt : Q (.inl (some (.int 1))) w := hQ true
  have hQf : Q (.inl (some (.int 0))) w := hQ false
  repeat' first
    | with_reducible assumption
    | with_reducible refine And.intro ?_ ?_
    | with_reducible exact vpi6 (by assumption) (by assumption)
    | with_reducible exact vpi8 (by assumption) (by assumption)
    | with_reducible refine go_R (by assumption) ?_
    | with_reducible exact hQ _
    | with_reducible exact hQt
    | with_reducible exact hQf
    | simp only [eX0_matches_0, eX0_matches_0N, eX0_matches_1R, eX0_matches_1N, eX0_matches_4, eX0_matches_4N, eX0_matches_5, eX0_matches_8, eX0_matches_8N, eX0_matches_9, eX0_matches_12, eX0_matches_13, eX0_matches_16, eX0_matches_16N, eX0_matches_17, eX0_matches_20, eX0_matches_20N, eX0_matches_21, eX0_matches_24, eX0_matches_25, eX0_matches_28, eX0_matches_28N, eX0_matches_29, eX0_matches_32, eX0_matches_32N, eX0_matches_33, eX0_matches_36, eX0_matches_37, eX0_matches_40, eX0_matches_40N, eX0_matches_41, eX0_matches_44, eX0_matches_44N, eX0_matches_45, eX0_matches_48, eX0_matches_49, eX0_matches_52, eX0_matches_53, eX0_matches_56, eX0_matches_57, ite_le, n45, n54, true_or, or_true, false_or, or_false, false_and, and_false, kx_l, kx_r, go_s, gl_s, gi_s, gb_s2, gb_s3, gq_s, wt_nil, wt_int, wt_long, wt_ref, wt_null, nl_int, nl_long, nl_ref, nl_null, nl_none, rf_n, rf_s, rf_st, tl_s, tl_n, g0, gS, ex1, nb_b, nb_0, nb_1, nf_i, nf_l, nf_ra, nf_ro, nf_na, nf_no, nf_b0, nf_z0, t45_4, t45_5, true_and, and_true, List.set_cons_zero, List.set_cons_succ, List.length_cons, List.length_nil, rd_s, upw_s, ne_eq, not_false_eq_true, Nat.zero_add, Nat.add_zero]
    | split
    | with_reducible intro _
    | omega
set_option maxHeartbeats 4000000 in
theorem sX0_matchesN {p : Nat} (hp : isR w p) (hQ : ∀ v : Bool, Q (.inl (some (.int (bI v)))) w) : WP (MX0_matches g) Q (0, [some (.ref p), some .null], [], w, 0, 0) := by
  have hQt : Q (.inl (some (.int 1))) w := hQ true
  have hQf : Q (.inl (some (.int 0))) w := hQ false
  repeat' first
    | with_reducible assumption
    | with_reducible refine And.intro ?_ ?_
    | with_reducible exact vpi6 (by assumption) (by assumption)
    | with_reducible exact vpi8 (by assumption) (by assumption)
    | with_reducible refine go_R (by assumption) ?_
    | with_reducible exact hQ _
    | with_reducible exact hQt
    | with_reducible exact hQf
    | simp only [eX0_matches_0, eX0_matches_0N, eX0_matches_1R, eX0_matches_1N, eX0_matches_4, eX0_matches_4N, eX0_matches_5, eX0_matches_8, eX0_matches_8N, eX0_matches_9, eX0_matches_12, eX0_matches_13, eX0_matches_16, eX0_matches_16N, eX0_matches_17, eX0_matches_20, eX0_matches_20N, eX0_matches_21, eX0_matches_24, eX0_matches_25, eX0_matches_28, eX0_matches_28N, eX0_matches_29, eX0_matches_32, eX0_matches_32N, eX0_matches_33, eX0_matches_36, eX0_matches_37, eX0_matches_40, eX0_matches_40N, eX0_matches_41, eX0_matches_44, eX0_matches_44N, eX0_matches_45, eX0_matches_48, eX0_matches_49, eX0_matches_52, eX0_matches_53, eX0_matches_56, eX0_matches_57, ite_le, n45, n54, true_or, or_true, false_or, or_false, false_and, and_false, kx_l, kx_r, go_s, gl_s, gi_s, gb_s2, gb_s3, gq_s, wt_nil, wt_int, wt_long, wt_ref, wt_null, nl_int, nl_long, nl_ref, nl_null, nl_none, rf_n, rf_s, rf_st, tl_s, tl_n, g0, gS, ex1, nb_b, nb_0, nb_1, nf_i, nf_l, nf_ra, nf_ro, nf_na, nf_no, nf_b0, nf_z0, t45_4, t45_5, true_and, and_true, List.set_cons_zero, List.set_cons_succ, List.length_cons, List.length_nil, rd_s, upw_s, ne_eq, not_false_eq_true, Nat.zero_add, Nat.add_zero]
    | split
    | with_reducible intro _
    | omega
set_option maxHeartbeats 4000000 in
theorem sX0_hash {p : Nat} (hp : isR w p) (hQ : ∀ v : Int64, Q (.inl (some (.long v))) w) : WP (MX0_hash g) Q (0, [some (.ref p), none, none], [], w, 0, 0) := by
  repeat' first
    | with_reducible assumption
    | with_reducible refine And.intro ?_ ?_
    | with_reducible exact vpi6 (by assumption) (by assumption)
    | with_reducible exact vpi8 (by assumption) (by assumption)
    | with_reducible refine go_R (by assumption) ?_
    | with_reducible exact hQ _
    | simp only [eX0_hash_0, eX0_hash_0N, eX0_hash_1, eX0_hash_4, eX0_hash_5, eX0_hash_6, eX0_hash_9, eX0_hash_10, eX0_hash_10N, eX0_hash_11, eX0_hash_14, eX0_hash_15, eX0_hash_16, eX0_hash_17, eX0_hash_20, eX0_hash_21, eX0_hash_21N, eX0_hash_22, eX0_hash_25, eX0_hash_26, eX0_hash_27, eX0_hash_28, eX0_hash_31, eX0_hash_32, eX0_hash_32N, eX0_hash_33, eX0_hash_36, eX0_hash_37, ite_le, n45, n54, true_or, or_true, false_or, or_false, false_and, and_false, kx_l, kx_r, go_s, gl_s, gi_s, gb_s2, gb_s3, gq_s, wt_nil, wt_int, wt_long, wt_ref, wt_null, nl_int, nl_long, nl_ref, nl_null, nl_none, rf_n, rf_s, rf_st, tl_s, tl_n, g0, gS, ex1, nb_b, nb_0, nb_1, nf_i, nf_l, nf_ra, nf_ro, nf_na, nf_no, nf_b0, nf_z0, t45_4, t45_5, true_and, and_true, List.set_cons_zero, List.set_cons_succ, List.length_cons, List.length_nil, rd_s, upw_s, ne_eq, not_false_eq_true, Nat.zero_add, Nat.add_zero]
    | split
    | with_reducible intro _
    | omega
set_option maxHeartbeats 4000000 in
theorem sX0_ofFour {a0 a1 a2 a3 : Int64} (hN : Q (.inl (some .null)) w) (hQ : ∀ (q : Nat) (w' : Hw), ext g w w' → isR w' q → Q (.inl (some (.ref q))) w') : WP (MX0_ofFour g) Q (0, [some (.long a0), none, some (.long a1), none, some (.long a2), none, some (.long a3), none], [], w, 0, 0) := by
  repeat' first
    | with_reducible assumption
    | with_reducible refine And.intro ?_ ?_
    | with_reducible exact vpi6 (by assumption) (by assumption)
    | with_reducible exact vpi8 (by assumption) (by assumption)
    | with_reducible refine sX0_isInOrder ?_
    | with_reducible exact hQ _ _ (by assumption) (by assumption)
    | with_reducible exact hQ _ _ (by repeat' first | assumption | exact ext.rf | refine ext_up2 ?_ ?_) isR_up
    | simp only [eX0_ofFour_0, eX0_ofFour_1, eX0_ofFour_2, eX0_ofFour_4, eX0_ofFour_6, eX0_ofFour_9, eX0_ofFour_12, eX0_ofFour_15, eX0_ofFour_15R, eX0_ofFour_16, eX0_ofFour_17, eX0_ofFour_18, eX0_ofFour_20, eX0_ofFour_22, eX0_ofFour_25, eX0_ofFour_28, eX0_ofFour_29, eX0_ofFour_29N, eX0_init_0, eX0_init_0N, eX0_init_1, eX0_init_4, eX0_init_4N, eX0_init_5, eX0_init_6, eX0_init_9, eX0_init_9N, eX0_init_10, eX0_init_11, eX0_init_14, eX0_init_14N, eX0_init_15, eX0_init_17, eX0_init_20, eX0_init_20N, eX0_init_21, eX0_init_23, eX0_init_26, ite_le, n45, n54, true_or, or_true, false_or, or_false, false_and, and_false, kx_l, kx_r, go_s, gl_s, gi_s, gb_s2, gb_s3, gq_s, wt_nil, wt_int, wt_long, wt_ref, wt_null, nl_int, nl_long, nl_ref, nl_null, nl_none, rf_n, rf_s, rf_st, tl_s, tl_n, g0, gS, ex1, nb_b, nb_0, nb_1, nf_i, nf_l, nf_ra, nf_ro, nf_na, nf_no, nf_b0, nf_z0, t45_4, t45_5, true_and, and_true, List.set_cons_zero, List.set_cons_succ, List.length_cons, List.length_nil, rd_s, upw_s, ne_eq, not_false_eq_true, Nat.zero_add, Nat.add_zero]
    | split
    | with_reducible intro _
    | omega
set_option maxHeartbeats 4000000 in
theorem sX0_ofThree {a0 : Int64} {a1 : Int64} {a2 : Int64} (hN : Q (.inl (some .null)) w) (hQ : ∀ (q : Nat) (w' : Hw), ext g w w' → isR w' q → Q (.inl (some (.ref q))) w') : WP (MX0_ofThree g) Q (0, [some (.long a0), none, some (.long a1), none, some (.long a2), none], [], w, 0, 0) := by
  repeat' first
    | with_reducible assumption
    | with_reducible refine And.intro ?_ ?_
    | with_reducible exact vpi6 (by assumption) (by assumption)
    | with_reducible exact vpi8 (by assumption) (by assumption)
    | with_reducible refine sX0_ofFour ?_ ?_
    | with_reducible refine go_R (by assumption) ?_
    | with_reducible exact hQ _ _ (by assumption) (by assumption)
    | with_reducible exact hQ _ _ (by repeat' first | assumption | exact ext.rf | refine ext_up2 ?_ ?_) isR_up
    | simp only [eX0_ofThree_0, eX0_ofThree_1, eX0_ofThree_2, eX0_ofThree_3, eX0_ofThree_5, eX0_ofThree_8, eX0_ofThree_8N, ite_le, n45, n54, true_or, or_true, false_or, or_false, false_and, and_false, kx_l, kx_r, go_s, gl_s, gi_s, gb_s2, gb_s3, gq_s, wt_nil, wt_int, wt_long, wt_ref, wt_null, nl_int, nl_long, nl_ref, nl_null, nl_none, rf_n, rf_s, rf_st, tl_s, tl_n, g0, gS, ex1, nb_b, nb_0, nb_1, nf_i, nf_l, nf_ra, nf_ro, nf_na, nf_no, nf_b0, nf_z0, t45_4, t45_5, true_and, and_true, List.set_cons_zero, List.set_cons_succ, List.length_cons, List.length_nil, rd_s, upw_s, ne_eq, not_false_eq_true, Nat.zero_add, Nat.add_zero]
    | split
    | with_reducible intro _
    | omega
set_option maxHeartbeats 4000000 in
theorem sX0_ofTwo {a0 : Int64} {a1 : Int64} (hN : Q (.inl (some .null)) w) (hQ : ∀ (q : Nat) (w' : Hw), ext g w w' → isR w' q → Q (.inl (some (.ref q))) w') : WP (MX0_ofTwo g) Q (0, [some (.long a0), none, some (.long a1), none], [], w, 0, 0) := by
  repeat' first
    | with_reducible assumption
    | with_reducible refine And.intro ?_ ?_
    | with_reducible exact vpi6 (by assumption) (by assumption)
    | with_reducible exact vpi8 (by assumption) (by assumption)
    | with_reducible refine sX0_ofFour ?_ ?_
    | with_reducible refine go_R (by assumption) ?_
    | with_reducible exact hQ _ _ (by assumption) (by assumption)
    | with_reducible exact hQ _ _ (by repeat' first | assumption | exact ext.rf | refine ext_up2 ?_ ?_) isR_up
    | simp only [eX0_ofTwo_0, eX0_ofTwo_1, eX0_ofTwo_2, eX0_ofTwo_3, eX0_ofTwo_4, eX0_ofTwo_7, eX0_ofTwo_7N, ite_le, n45, n54, true_or, or_true, false_or, or_false, false_and, and_false, kx_l, kx_r, go_s, gl_s, gi_s, gb_s2, gb_s3, gq_s, wt_nil, wt_int, wt_long, wt_ref, wt_null, nl_int, nl_long, nl_ref, nl_null, nl_none, rf_n, rf_s, rf_st, tl_s, tl_n, g0, gS, ex1, nb_b, nb_0, nb_1, nf_i, nf_l, nf_ra, nf_ro, nf_na, nf_no, nf_b0, nf_z0, t45_4, t45_5, true_and, and_true, List.set_cons_zero, List.set_cons_succ, List.length_cons, List.length_nil, rd_s, upw_s, ne_eq, not_false_eq_true, Nat.zero_add, Nat.add_zero]
    | split
    | with_reducible intro _
    | omega
set_option maxHeartbeats 4000000 in
theorem sX0_endAt {p : Nat} {a0 : Int32} (hp : isR w p) (hQ : ∀ v : Int64, Q (.inl (some (.long v))) w) : WP (MX0_endAt g) Q (0, [some (.ref p), some (.int a0)], [], w, 0, 0) := by
  rcases sw02 a0 with rfl | rfl | rfl | hsw
  · repeat' first
      | with_reducible assumption
      | with_reducible refine And.intro ?_ ?_
      | with_reducible exact vpi6 (by assumption) (by assumption)
      | with_reducible exact vpi8 (by assumption) (by assumption)
      | with_reducible refine go_R (by assumption) ?_
      | with_reducible exact hQ _
      | simp only [eX0_endAt_0, eX0_endAt_1_0, eX0_endAt_1_1, eX0_endAt_1_2, eX0_endAt_1_d3, eX0_endAt_1_d4, eX0_endAt_28, eX0_endAt_28N, eX0_endAt_29, eX0_endAt_32, eX0_endAt_33, eX0_endAt_33N, eX0_endAt_34, eX0_endAt_37, eX0_endAt_38, eX0_endAt_38N, eX0_endAt_39, eX0_endAt_42, eX0_endAt_43, eX0_endAt_43N, eX0_endAt_44, eX0_endAt_47, ite_le, n45, n54, true_or, or_true, false_or, or_false, false_and, and_false, kx_l, kx_r, go_s, gl_s, gi_s, gb_s2, gb_s3, gq_s, wt_nil, wt_int, wt_long, wt_ref, wt_null, nl_int, nl_long, nl_ref, nl_null, nl_none, rf_n, rf_s, rf_st, tl_s, tl_n, g0, gS, ex1, nb_b, nb_0, nb_1, nf_i, nf_l, nf_ra, nf_ro, nf_na, nf_no, nf_b0, nf_z0, t45_4, t45_5, true_and, and_true, List.set_cons_zero, List.set_cons_succ, List.length_cons, List.length_nil, rd_s, upw_s, ne_eq, not_false_eq_true, Nat.zero_add, Nat.add_zero]
      | split
      | with_reducible intro _
      | omega
  · repeat' first
      | with_reducible assumption
      | with_reducible refine And.intro ?_ ?_
      | with_reducible exact vpi6 (by assumption) (by assumption)
      | with_reducible exact vpi8 (by assumption) (by assumption)
      | with_reducible refine go_R (by assumption) ?_
      | with_reducible exact hQ _
      | simp only [eX0_endAt_0, eX0_endAt_1_0, eX0_endAt_1_1, eX0_endAt_1_2, eX0_endAt_1_d3, eX0_endAt_1_d4, eX0_endAt_28, eX0_endAt_28N, eX0_endAt_29, eX0_endAt_32, eX0_endAt_33, eX0_endAt_33N, eX0_endAt_34, eX0_endAt_37, eX0_endAt_38, eX0_endAt_38N, eX0_endAt_39, eX0_endAt_42, eX0_endAt_43, eX0_endAt_43N, eX0_endAt_44, eX0_endAt_47, ite_le, n45, n54, true_or, or_true, false_or, or_false, false_and, and_false, kx_l, kx_r, go_s, gl_s, gi_s, gb_s2, gb_s3, gq_s, wt_nil, wt_int, wt_long, wt_ref, wt_null, nl_int, nl_long, nl_ref, nl_null, nl_none, rf_n, rf_s, rf_st, tl_s, tl_n, g0, gS, ex1, nb_b, nb_0, nb_1, nf_i, nf_l, nf_ra, nf_ro, nf_na, nf_no, nf_b0, nf_z0, t45_4, t45_5, true_and, and_true, List.set_cons_zero, List.set_cons_succ, List.length_cons, List.length_nil, rd_s, upw_s, ne_eq, not_false_eq_true, Nat.zero_add, Nat.add_zero]
      | split
      | with_reducible intro _
      | omega
  · repeat' first
      | with_reducible assumption
      | with_reducible refine And.intro ?_ ?_
      | with_reducible exact vpi6 (by assumption) (by assumption)
      | with_reducible exact vpi8 (by assumption) (by assumption)
      | with_reducible refine go_R (by assumption) ?_
      | with_reducible exact hQ _
      | simp only [eX0_endAt_0, eX0_endAt_1_0, eX0_endAt_1_1, eX0_endAt_1_2, eX0_endAt_1_d3, eX0_endAt_1_d4, eX0_endAt_28, eX0_endAt_28N, eX0_endAt_29, eX0_endAt_32, eX0_endAt_33, eX0_endAt_33N, eX0_endAt_34, eX0_endAt_37, eX0_endAt_38, eX0_endAt_38N, eX0_endAt_39, eX0_endAt_42, eX0_endAt_43, eX0_endAt_43N, eX0_endAt_44, eX0_endAt_47, ite_le, n45, n54, true_or, or_true, false_or, or_false, false_and, and_false, kx_l, kx_r, go_s, gl_s, gi_s, gb_s2, gb_s3, gq_s, wt_nil, wt_int, wt_long, wt_ref, wt_null, nl_int, nl_long, nl_ref, nl_null, nl_none, rf_n, rf_s, rf_st, tl_s, tl_n, g0, gS, ex1, nb_b, nb_0, nb_1, nf_i, nf_l, nf_ra, nf_ro, nf_na, nf_no, nf_b0, nf_z0, t45_4, t45_5, true_and, and_true, List.set_cons_zero, List.set_cons_succ, List.length_cons, List.length_nil, rd_s, upw_s, ne_eq, not_false_eq_true, Nat.zero_add, Nat.add_zero]
      | split
      | with_reducible intro _
      | omega
  · repeat' first
      | with_reducible assumption
      | with_reducible refine And.intro ?_ ?_
      | with_reducible exact vpi6 (by assumption) (by assumption)
      | with_reducible exact vpi8 (by assumption) (by assumption)
      | with_reducible refine go_R (by assumption) ?_
      | with_reducible exact hQ _
      | simp only [eX0_endAt_0, eX0_endAt_1_0, eX0_endAt_1_1, eX0_endAt_1_2, eX0_endAt_1_d3, eX0_endAt_1_d4, eX0_endAt_28, eX0_endAt_28N, eX0_endAt_29, eX0_endAt_32, eX0_endAt_33, eX0_endAt_33N, eX0_endAt_34, eX0_endAt_37, eX0_endAt_38, eX0_endAt_38N, eX0_endAt_39, eX0_endAt_42, eX0_endAt_43, eX0_endAt_43N, eX0_endAt_44, eX0_endAt_47, eX0_endAt_1_d hsw, ite_le, n45, n54, true_or, or_true, false_or, or_false, false_and, and_false, kx_l, kx_r, go_s, gl_s, gi_s, gb_s2, gb_s3, gq_s, wt_nil, wt_int, wt_long, wt_ref, wt_null, nl_int, nl_long, nl_ref, nl_null, nl_none, rf_n, rf_s, rf_st, tl_s, tl_n, g0, gS, ex1, nb_b, nb_0, nb_1, nf_i, nf_l, nf_ra, nf_ro, nf_na, nf_no, nf_b0, nf_z0, t45_4, t45_5, true_and, and_true, List.set_cons_zero, List.set_cons_succ, List.length_cons, List.length_nil, rd_s, upw_s, ne_eq, not_false_eq_true, Nat.zero_add, Nat.add_zero]
      | split
      | with_reducible intro _
      | omega
end
