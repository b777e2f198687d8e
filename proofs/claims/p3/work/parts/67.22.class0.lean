section
variable {g : RO} {Q : Ot → Hw → Prop} {w0 w : Hw} {x nA cA lA : Nat} {kn : Int32}
theorem sX1_needNumber {a0 : Int32} (hXo : Q (.inr "java/lang/IndexOutOfBoundsException") w) (hQ : ¬ a0 < 0 → a0 < 8 → Q (.inl none) w) : WP (MX1_needNumber g) Q (0, [some (.int a0)], [], w, 0, 0) := by
  repeat' first
    | with_reducible assumption
    | with_reducible refine And.intro ?_ ?_
    | with_reducible exact vpi6 (by assumption) (by assumption)
    | with_reducible exact vpi8 (by assumption) (by assumption)
    | with_reducible exact hQ (by assumption) (by assumption)
    | simp only [eX1_needNumber_0, eX1_needNumber_1, eX1_needNumber_4, eX1_needNumber_5, eX1_needNumber_7, eX1_needNumber_10, eX1_needNumber_20, ite_le, n45, n54, true_or, or_true, false_or, or_false, false_and, and_false, kx_l, kx_r, go_s, gl_s, gi_s, gb_s2, gb_s3, gq_s, wt_nil, wt_int, wt_long, wt_ref, wt_null, nl_int, nl_long, nl_ref, nl_null, nl_none, rf_n, rf_s, rf_st, tl_s, tl_n, g0, gS, ex1, nb_b, nb_0, nb_1, nf_i, nf_l, nf_ra, nf_ro, nf_na, nf_no, nf_b0, nf_z0, t45_4, t45_5, true_and, and_true, List.set_cons_zero, List.set_cons_succ, List.length_cons, List.length_nil, rd_s, upw_s, ne_eq, not_false_eq_true, Nat.zero_add, Nat.add_zero]
    | split
    | with_reducible intro _
    | omega
theorem sX1_needCard {a0 : Int32} (hXo : Q (.inr "java/lang/IndexOutOfBoundsException") w) (hQ : ¬ a0 < 0 → a0 < 6 → Q (.inl none) w) : WP (MX1_needCard g) Q (0, [some (.int a0)], [], w, 0, 0) := by
  repeat' first
    | with_reducible assumption
    | with_reducible refine And.intro ?_ ?_
    | with_reducible exact vpi6 (by assumption) (by assumption)
    | with_reducible exact vpi8 (by assumption) (by assumption)
    | with_reducible exact hQ (by assumption) (by assumption)
    | simp only [eX1_needCard_0, eX1_needCard_1, eX1_needCard_4, eX1_needCard_5, eX1_needCard_7, eX1_needCard_10, eX1_needCard_20, ite_le, n45, n54, true_or, or_true, false_or, or_false, false_and, and_false, kx_l, kx_r, go_s, gl_s, gi_s, gb_s2, gb_s3, gq_s, wt_nil, wt_int, wt_long, wt_ref, wt_null, nl_int, nl_long, nl_ref, nl_null, nl_none, rf_n, rf_s, rf_st, tl_s, tl_n, g0, gS, ex1, nb_b, nb_0, nb_1, nf_i, nf_l, nf_ra, nf_ro, nf_na, nf_no, nf_b0, nf_z0, t45_4, t45_5, true_and, and_true, List.set_cons_zero, List.set_cons_succ, List.length_cons, List.length_nil, rd_s, upw_s, ne_eq, not_false_eq_true, Nat.zero_add, Nat.add_zero]
    | split
    | with_reducible intro _
    | omega
theorem sX1_needPlace {a0 : Int32} (hC : CC g w0 x nA cA lA kn w) (hXo : Q (.inr "java/lang/IndexOutOfBoundsException") w) (hQ : vp_in a0 12 → Q (.inl none) w) : WP (MX1_needPlace g) Q (0, [some (.ref x), some (.int a0)], [], w, 0, 0) := by
  obtain ⟨n, rf, md, f, gc, gl, hx, hn, hc, hl, hgc, hgl, hn0, hn1, rx, rn, rc, rl, ⟨d1, d2, d3, d4, d5, d6⟩, ⟨d7, d8, d9, d10, d11, d12⟩⟩ := hC.1.opn g
  repeat' first
    | with_reducible assumption
    | with_reducible refine And.intro ?_ ?_
    | with_reducible exact vpi6 (by assumption) (by assumption)
    | with_reducible exact vpi8 (by assumption) (by assumption)
    | with_reducible exact hQ (vpi12 (by assumption) (by assumption) (by assumption))
    | simp only [eX1_needPlace_0, eX1_needPlace_1, eX1_needPlace_4, eX1_needPlace_5, eX1_needPlace_5N, eX1_needPlace_6, eX1_needPlace_9, eX1_needPlace_12, eX1_needPlace_22, rx, rn, rc, rl, hx, hn, hc, hl, d1, d2, d3, d4, d5, d6, d7, d8, d9, d10, d11, d12, rd_n, upw_n, ite_le, n45, n54, true_or, or_true, false_or, or_false, false_and, and_false, kx_l, kx_r, go_s, gl_s, gi_s, gb_s2, gb_s3, gq_s, wt_nil, wt_int, wt_long, wt_ref, wt_null, nl_int, nl_long, nl_ref, nl_null, nl_none, rf_n, rf_s, rf_st, tl_s, tl_n, g0, gS, ex1, nb_b, nb_0, nb_1, nf_i, nf_l, nf_ra, nf_ro, nf_na, nf_no, nf_b0, nf_z0, t45_4, t45_5, true_and, and_true, List.set_cons_zero, List.set_cons_succ, List.length_cons, List.length_nil, rd_s, upw_s, ne_eq, not_false_eq_true, Nat.zero_add, Nat.add_zero]
    | split
    | with_reducible intro _
    | omega
theorem sX1_needChoice {a0 a1 : Int32} (hXa : Q (.inr "java/lang/IllegalArgumentException") w) (hQ : ¬ a0 < 0 → ¬ a1 < a0 → Q (.inl none) w) : WP (MX1_needChoice g) Q (0, [some (.int a0), some (.int a1)], [], w, 0, 0) := by
  repeat' first
    | with_reducible assumption
    | with_reducible refine And.intro ?_ ?_
    | with_reducible exact vpi6 (by assumption) (by assumption)
    | with_reducible exact vpi8 (by assumption) (by assumption)
    | with_reducible exact hQ (by assumption) (by assumption)
    | simp only [eX1_needChoice_0, eX1_needChoice_1, eX1_needChoice_4, eX1_needChoice_5, eX1_needChoice_6, eX1_needChoice_9, eX1_needChoice_19, ite_le, n45, n54, true_or, or_true, false_or, or_false, false_and, and_false, kx_l, kx_r, go_s, gl_s, gi_s, gb_s2, gb_s3, gq_s, wt_nil, wt_int, wt_long, wt_ref, wt_null, nl_int, nl_long, nl_ref, nl_null, nl_none, rf_n, rf_s, rf_st, tl_s, tl_n, g0, gS, ex1, nb_b, nb_0, nb_1, nf_i, nf_l, nf_ra, nf_ro, nf_na, nf_no, nf_b0, nf_z0, t45_4, t45_5, true_and, and_true, List.set_cons_zero, List.set_cons_succ, List.length_cons, List.length_nil, rd_s, upw_s, ne_eq, not_false_eq_true, Nat.zero_add, Nat.add_zero]
    | split
    | with_reducible intro _
    | omega
theorem sX1_rangeOf {a0 : Int32} (hC : CC g w0 x nA cA lA kn w) (hXo : Q (.inr "java/lang/IndexOutOfBoundsException") w) (hXs : Q (.inr "java/lang/IllegalStateException") w) (hQ : ∀ b, isR w b → Q (.inl (some (.ref b))) w) : WP (MX1_rangeOf g) Q (0, [some (.ref x), some (.int a0), none], [], w, 0, 0) := by
  obtain ⟨n, rf, md, f, gc, gl, hx, hn, hc, hl, hgc, hgl, hn0, hn1, rx, rn, rc, rl, ⟨d1, d2, d3, d4, d5, d6⟩, ⟨d7, d8, d9, d10, d11, d12⟩⟩ := hC.1.opn g
  repeat' first
    | with_reducible assumption
    | with_reducible refine And.intro ?_ ?_
    | with_reducible exact vpi6 (by assumption) (by assumption)
    | with_reducible exact vpi8 (by assumption) (by assumption)
    | with_reducible exact hQ _ (hgc _ _ (by assumption))
    | with_reducible refine sX1_needCard ?_ ?_
    | simp only [eX1_rangeOf_0, eX1_rangeOf_1, eX1_rangeOf_4, eX1_rangeOf_4N, eX1_rangeOf_5, eX1_rangeOf_8, eX1_rangeOf_9, eX1_rangeOf_10, eX1_rangeOf_10N, eX1_rangeOf_11, eX1_rangeOf_11N, eX1_rangeOf_12R, eX1_rangeOf_12N, eX1_rangeOf_15, eX1_rangeOf_25, eX1_rangeOf_25N, eX1_rangeOf_26, eX1_rangeOf_26N, rx, rn, rc, rl, hx, hn, hc, hl, d1, d2, d3, d4, d5, d6, d7, d8, d9, d10, d11, d12, rd_n, upw_n, ite_le, n45, n54, true_or, or_true, false_or, or_false, false_and, and_false, kx_l, kx_r, go_s, gl_s, gi_s, gb_s2, gb_s3, gq_s, wt_nil, wt_int, wt_long, wt_ref, wt_null, nl_int, nl_long, nl_ref, nl_null, nl_none, rf_n, rf_s, rf_st, tl_s, tl_n, g0, gS, ex1, nb_b, nb_0, nb_1, nf_i, nf_l, nf_ra, nf_ro, nf_na, nf_no, nf_b0, nf_z0, t45_4, t45_5, true_and, and_true, List.set_cons_zero, List.set_cons_succ, List.length_cons, List.length_nil, rd_s, upw_s, ne_eq, not_false_eq_true, Nat.zero_add, Nat.add_zero]
    | split
    | with_reducible intro _
    | omega
set_option maxHeartbeats 4000000 in
theorem sX1_highOf {a0 : Int64} (hQ : ∀ v : Int32, Q (.inl (some (.int v))) w) : WP (MX1_highOf g) Q (0, [some (.long a0), none], [], w, 0, 0) := by
  repeat' first
    | with_reducible assumption
    | with_reducible refine And.intro ?_ ?_
    | with_reducible exact vpi6 (by assumption) (by assumption)
    | with_reducible exact vpi8 (by assumption) (by assumption)
    | with_reducible refine go_R (by assumption) ?_
    | with_reducible exact hQ _
    | simp only [eX1_highOf_0, eX1_highOf_1, eX1_highOf_3, eX1_highOf_4, eX1_highOf_5, ite_le, n45, n54, true_or, or_true, false_or, or_false, false_and, and_false, kx_l, kx_r, go_s, gl_s, gi_s, gb_s2, gb_s3, gq_s, wt_nil, wt_int, wt_long, wt_ref, wt_null, nl_int, nl_long, nl_ref, nl_null, nl_none, rf_n, rf_s, rf_st, tl_s, tl_n, g0, gS, ex1, nb_b, nb_0, nb_1, nf_i, nf_l, nf_ra, nf_ro, nf_na, nf_no, nf_b0, nf_z0, t45_4, t45_5, true_and, and_true, List.set_cons_zero, List.set_cons_succ, List.length_cons, List.length_nil, rd_s, upw_s, ne_eq, not_false_eq_true, Nat.zero_add, Nat.add_zero]
    | split
    | with_reducible intro _
    | omega
set_option maxHeartbeats 4000000 in
theorem sX1_lowOf {a0 : Int64} (hQ : ∀ v : Int32, Q (.inl (some (.int v))) w) : WP (MX1_lowOf g) Q (0, [some (.long a0), none], [], w, 0, 0) := by
  repeat' first
    | with_reducible assumption
    | with_reducible refine And.intro ?_ ?_
    | with_reducible exact vpi6 (by assumption) (by assumption)
    | with_reducible exact vpi8 (by assumption) (by assumption)
    | with_reducible refine go_R (by assumption) ?_
    | with_reducible exact hQ _
    | simp only [eX1_lowOf_0, eX1_lowOf_1, eX1_lowOf_2, ite_le, n45, n54, true_or, or_true, false_or, or_false, false_and, and_false, kx_l, kx_r, go_s, gl_s, gi_s, gb_s2, gb_s3, gq_s, wt_nil, wt_int, wt_long, wt_ref, wt_null, nl_int, nl_long, nl_ref, nl_null, nl_none, rf_n, rf_s, rf_st, tl_s, tl_n, g0, gS, ex1, nb_b, nb_0, nb_1, nf_i, nf_l, nf_ra, nf_ro, nf_na, nf_no, nf_b0, nf_z0, t45_4, t45_5, true_and, and_true, List.set_cons_zero, List.set_cons_succ, List.length_cons, List.length_nil, rd_s, upw_s, ne_eq, not_false_eq_true, Nat.zero_add, Nat.add_zero]
    | split
    | with_reducible intro _
    | omega
set_option maxHeartbeats 4000000 in
theorem sX1_halfOf {a0 : Int64} {a1 : Int32} (hQ : ∀ v : Int32, Q (.inl (some (.int v))) w) : WP (MX1_halfOf g) Q (0, [some (.long a0), none, some (.int a1)], [], w, 0, 0) := by
  repeat' first
    | with_reducible assumption
    | with_reducible refine And.intro ?_ ?_
    | with_reducible exact vpi6 (by assumption) (by assumption)
    | with_reducible exact vpi8 (by assumption) (by assumption)
    | with_reducible refine sX1_highOf ?_
    | with_reducible refine sX1_lowOf ?_
    | with_reducible refine go_R (by assumption) ?_
    | with_reducible exact hQ _
    | simp only [eX1_halfOf_0, eX1_halfOf_1, eX1_halfOf_4, eX1_halfOf_5, eX1_halfOf_8, eX1_halfOf_11, eX1_halfOf_12, eX1_halfOf_15, ite_le, n45, n54, true_or, or_true, false_or, or_false, false_and, and_false, kx_l, kx_r, go_s, gl_s, gi_s, gb_s2, gb_s3, gq_s, wt_nil, wt_int, wt_long, wt_ref, wt_null, nl_int, nl_long, nl_ref, nl_null, nl_none, rf_n, rf_s, rf_st, tl_s, tl_n, g0, gS, ex1, nb_b, nb_0, nb_1, nf_i, nf_l, nf_ra, nf_ro, nf_na, nf_no, nf_b0, nf_z0, t45_4, t45_5, true_and, and_true, List.set_cons_zero, List.set_cons_succ, List.length_cons, List.length_nil, rd_s, upw_s, ne_eq, not_false_eq_true, Nat.zero_add, Nat.add_zero]
    | split
    | with_reducible intro _
    | omega
set_option maxHeartbeats 4000000 in
theorem sX1_isSmallNumber {a0 : Int64} (hQ : ∀ v : Bool, Q (.inl (some (.int (bI v)))) w) : WP (MX1_isSmallNumber g) Q (0, [some (.long a0), none], [], w, 0, 0) := by
  have hQt : Q (.inl (some (.int 1))) w := hQ true
  have hQf : Q (.inl (some (.int 0))) w := hQ false
  repeat' first
    | with_reducible assumption
    | with_reducible refine And.intro ?_ ?_
    | with_reducible exact vpi6 (by assumption) (by assumption)
    | with_reducible exact vpi8 (by assumption) (by assumption)
    | with_reducible refine go_R (by assumption) ?_
    | with_reducible exact hQ _
    | with_reducible exact hQt
    | with_reducible exact hQf
    | simp only [eX1_isSmallNumber_0, eX1_isSmallNumber_1, eX1_isSmallNumber_4, eX1_isSmallNumber_5, eX1_isSmallNumber_8, eX1_isSmallNumber_9, eX1_isSmallNumber_12, eX1_isSmallNumber_13, eX1_isSmallNumber_16, eX1_isSmallNumber_17, eX1_isSmallNumber_20, eX1_isSmallNumber_21, ite_le, n45, n54, true_or, or_true, false_or, or_false, false_and, and_false, kx_l, kx_r, go_s, gl_s, gi_s, gb_s2, gb_s3, gq_s, wt_nil, wt_int, wt_long, wt_ref, wt_null, nl_int, nl_long, nl_ref, nl_null, nl_none, rf_n, rf_s, rf_st, tl_s, tl_n, g0, gS, ex1, nb_b, nb_0, nb_1, nf_i, nf_l, nf_ra, nf_ro, nf_na, nf_no, nf_b0, nf_z0, t45_4, t45_5, true_and, and_true, List.set_cons_zero, List.set_cons_succ, List.length_cons, List.length_nil, rd_s, upw_s, ne_eq, not_false_eq_true, Nat.zero_add, Nat.add_zero]
    | split
    | with_reducible intro _
    | omega
set_option maxHeartbeats 4000000 in
theorem sX1_asNumber {a0 : Int32} (hQ : ∀ v : Int32, Q (.inl (some (.int v))) w) : WP (MX1_asNumber g) Q (0, [some (.int a0)], [], w, 0, 0) := by
  repeat' first
    | with_reducible assumption
    | with_reducible refine And.intro ?_ ?_
    | with_reducible exact vpi6 (by assumption) (by assumption)
    | with_reducible exact vpi8 (by assumption) (by assumption)
    | with_reducible refine go_R (by assumption) ?_
    | with_reducible exact hQ _
    | simp only [eX1_asNumber_0, eX1_asNumber_1, eX1_asNumber_4, eX1_asNumber_5, eX1_asNumber_8, eX1_asNumber_9, ite_le, n45, n54, true_or, or_true, false_or, or_false, false_and, and_false, kx_l, kx_r, go_s, gl_s, gi_s, gb_s2, gb_s3, gq_s, wt_nil, wt_int, wt_long, wt_ref, wt_null, nl_int, nl_long, nl_ref, nl_null, nl_none, rf_n, rf_s, rf_st, tl_s, tl_n, g0, gS, ex1, nb_b, nb_0, nb_1, nf_i, nf_l, nf_ra, nf_ro, nf_na, nf_no, nf_b0, nf_z0, t45_4, t45_5, true_and, and_true, List.set_cons_zero, List.set_cons_succ, List.length_cons, List.length_nil, rd_s, upw_s, ne_eq, not_false_eq_true, Nat.zero_add, Nat.add_zero]
    | split
    | with_reducible intro _
    | omega
set_option maxHeartbeats 4000000 in
theorem sX1_farNumber {a0 : Int32} (hQ : ∀ v : Int64, Q (.inl (some (.long v))) w) : WP (MX1_farNumber g) Q (0, [some (.int a0)], [], w, 0, 0) := by
  rcases sw02 a0 with rfl | rfl | rfl | hsw
  · repeat' first
      | with_reducible assumption
      | with_reducible refine And.intro ?_ ?_
      | with_reducible exact vpi6 (by assumption) (by assumption)
      | with_reducible exact vpi8 (by assumption) (by assumption)
      | with_reducible exact hQ _
      | simp only [eX1_farNumber_0, eX1_farNumber_1_0, eX1_farNumber_1_1, eX1_farNumber_1_2, eX1_farNumber_1_d3, eX1_farNumber_1_d4, eX1_farNumber_28, eX1_farNumber_31, eX1_farNumber_32, eX1_farNumber_35, eX1_farNumber_36, eX1_farNumber_39, eX1_farNumber_40, eX1_farNumber_43, ite_le, n45, n54, true_or, or_true, false_or, or_false, false_and, and_false, kx_l, kx_r, go_s, gl_s, gi_s, gb_s2, gb_s3, gq_s, wt_nil, wt_int, wt_long, wt_ref, wt_null, nl_int, nl_long, nl_ref, nl_null, nl_none, rf_n, rf_s, rf_st, tl_s, tl_n, g0, gS, ex1, nb_b, nb_0, nb_1, nf_i, nf_l, nf_ra, nf_ro, nf_na, nf_no, nf_b0, nf_z0, t45_4, t45_5, true_and, and_true, List.set_cons_zero, List.set_cons_succ, List.length_cons, List.length_nil, rd_s, upw_s, ne_eq, not_false_eq_true, Nat.zero_add, Nat.add_zero]
      | split
      | with_reducible intro _
      | omega
  · repeat' first
      | with_reducible assumption
      | with_reducible refine And.intro ?_ ?_
      | with_reducible exact vpi6 (by assumption) (by assumption)
      | with_reducible exact vpi8 (by assumption) (by assumption)
      | with_reducible exact hQ _
      | simp only [eX1_farNumber_0, eX1_farNumber_1_0, eX1_farNumber_1_1, eX1_farNumber_1_2, eX1_farNumber_1_d3, eX1_farNumber_1_d4, eX1_farNumber_28, eX1_farNumber_31, eX1_farNumber_32, eX1_farNumber_35, eX1_farNumber_36, eX1_farNumber_39, eX1_farNumber_40, eX1_farNumber_43, ite_le, n45, n54, true_or, or_true, false_or, or_false, false_and, and_false, kx_l, kx_r, go_s, gl_s, gi_s, gb_s2, gb_s3, gq_s, wt_nil, wt_int, wt_long, wt_ref, wt_null, nl_int, nl_long, nl_ref, nl_null, nl_none, rf_n, rf_s, rf_st, tl_s, tl_n, g0, gS, ex1, nb_b, nb_0, nb_1, nf_i, nf_l, nf_ra, nf_ro, nf_na, nf_no, nf_b0, nf_z0, t45_4, t45_5, true_and, and_true, List.set_cons_zero, List.set_cons_succ, List.length_cons, List.length_nil, rd_s, upw_s, ne_eq, not_false_eq_true, Nat.zero_add, Nat.add_zero]
      | split
      | with_reducible intro _
      | omega
  · repeat' first
      | with_reducible assumption
      | with_reducible refine And.intro ?_ ?_
      | with_reducible exact vpi6 (by assumption) (by assumption)
      | with_reducible exact vpi8 (by assumption) (by assumption)
      | with_reducible exact hQ _
      | simp only [eX1_farNumber_0, eX1_farNumber_1_0, eX1_farNumber_1_1, eX1_farNumber_1_2, eX1_farNumber_1_d3, eX1_farNumber_1_d4, eX1_farNumber_28, eX1_farNumber_31, eX1_farNumber_32, eX1_farNumber_35, eX1_farNumber_36, eX1_farNumber_39, eX1_farNumber_40, eX1_farNumber_43, ite_le, n45, n54, true_or, or_true, false_or, or_false, false_and, and_false, kx_l, kx_r, go_s, gl_s, gi_s, gb_s2, gb_s3, gq_s, wt_nil, wt_int, wt_long, wt_ref, wt_null, nl_int, nl_long, nl_ref, nl_null, nl_none, rf_n, rf_s, rf_st, tl_s, tl_n, g0, gS, ex1, nb_b, nb_0, nb_1, nf_i, nf_l, nf_ra, nf_ro, nf_na, nf_no, nf_b0, nf_z0, t45_4, t45_5, true_and, and_true, List.set_cons_zero, List.set_cons_succ, List.length_cons, List.length_nil, rd_s, upw_s, ne_eq, not_false_eq_true, Nat.zero_add, Nat.add_zero]
      | split
      | with_reducible intro _
      | omega
  · repeat' first
      | with_reducible assumption
      | with_reducible refine And.intro ?_ ?_
      | with_reducible exact vpi6 (by assumption) (by assumption)
      | with_reducible exact vpi8 (by assumption) (by assumption)
      | with_reducible exact hQ _
      | simp only [eX1_farNumber_0, eX1_farNumber_1_0, eX1_farNumber_1_1, eX1_farNumber_1_2, eX1_farNumber_1_d3, eX1_farNumber_1_d4, eX1_farNumber_28, eX1_farNumber_31, eX1_farNumber_32, eX1_farNumber_35, eX1_farNumber_36, eX1_farNumber_39, eX1_farNumber_40, eX1_farNumber_43, eX1_farNumber_1_d hsw, ite_le, n45, n54, true_or, or_true, false_or, or_false, false_and, and_false, kx_l, kx_r, go_s, gl_s, gi_s, gb_s2, gb_s3, gq_s, wt_nil, wt_int, wt_long, wt_ref, wt_null, nl_int, nl_long, nl_ref, nl_null, nl_none, rf_n, rf_s, rf_st, tl_s, tl_n, g0, gS, ex1, nb_b, nb_0, nb_1, nf_i, nf_l, nf_ra, nf_ro, nf_na, nf_no, nf_b0, nf_z0, t45_4, t45_5, true_and, and_true, List.set_cons_zero, List.set_cons_succ, List.length_cons, List.length_nil, rd_s, upw_s, ne_eq, not_false_eq_true, Nat.zero_add, Nat.add_zero]
      | split
      | with_reducible intro _
      | omega
set_option maxHeartbeats 4000000 in
theorem sX1_refuse  (hC : CC g w0 x nA cA lA kn w) (hQ : ∀ (v : Int32) (w' : Hw), CC g w0 x nA cA lA kn w' → (∀ b, isR w b → isR w' b) → Q (.inl (some (.int v))) w') : WP (MX1_refuse g) Q (0, [some (.ref x)], [], w, 0, 0) := by
  obtain ⟨n, rf, md, f, gc, gl, hx, hn, hc, hl, hgc, hgl, hn0, hn1, rx, rn, rc, rl, ⟨d1, d2, d3, d4, d5, d6⟩, ⟨d7, d8, d9, d10, d11, d12⟩⟩ := hC.1.opn g
  repeat' first
    | with_reducible assumption
    | with_reducible refine And.intro ?_ ?_
    | with_reducible exact vpi6 (by assumption) (by assumption)
    | with_reducible exact vpi8 (by assumption) (by assumption)
    | with_reducible exact hQ _ _ (hC.obj _ _ _ _ (by assumption) (by assumption)) (fun b hb => isR_up2 hb hx (by simp))
    | with_reducible refine go_R (by first | assumption | exact hgc _ _ (by assumption) | exact hgl _ _ (by assumption) | exact isR.ext (by assumption) (by assumption)) ?_
    | with_reducible exact hQ _ _ (by first | assumption | exact CC.ext (by assumption) (by assumption))
    | simp only [eX1_refuse_0, eX1_refuse_0N, eX1_refuse_1, eX1_refuse_1R, eX1_refuse_2, eX1_refuse_5, eX1_refuse_6, eX1_refuse_7, eX1_refuse_10, eX1_refuse_12, rx, rn, rc, rl, hx, hn, hc, hl, d1, d2, d3, d4, d5, d6, d7, d8, d9, d10, d11, d12, rd_n, upw_n, ite_le, n45, n54, true_or, or_true, false_or, or_false, false_and, and_false, kx_l, kx_r, go_s, gl_s, gi_s, gb_s2, gb_s3, gq_s, wt_nil, wt_int, wt_long, wt_ref, wt_null, nl_int, nl_long, nl_ref, nl_null, nl_none, rf_n, rf_s, rf_st, tl_s, tl_n, g0, gS, ex1, nb_b, nb_0, nb_1, nf_i, nf_l, nf_ra, nf_ro, nf_na, nf_no, nf_b0, nf_z0, t45_4, t45_5, true_and, and_true, List.set_cons_zero, List.set_cons_succ, List.length_cons, List.length_nil, rd_s, upw_s, ne_eq, not_false_eq_true, Nat.zero_add, Nat.add_zero]
    | split
    | with_reducible intro _
    | omega
set_option maxHeartbeats 4000000 in
theorem sX1_putNumber {a0 : Int32} {a1 : Int64} (hC : CC g w0 x nA cA lA kn w) (hQ : ∀ (v : Int32) (w' : Hw), CC g w0 x nA cA lA kn w' → Q (.inl (some (.int v))) w') (k0 : ¬ a0 < 0) (k1 : a0 < 8) : WP (MX1_putNumber g) Q (0, [some (.ref x), some (.int a0), some (.long a1), none], [], w, 0, 0) := by
  obtain ⟨n, rf, md, f, gc, gl, hx, hn, hc, hl, hgc, hgl, hn0, hn1, rx, rn, rc, rl, ⟨d1, d2, d3, d4, d5, d6⟩, ⟨d7, d8, d9, d10, d11, d12⟩⟩ := hC.1.opn g
  repeat' first
    | with_reducible assumption
    | with_reducible refine And.intro ?_ ?_
    | with_reducible exact vpi6 (by assumption) (by assumption)
    | with_reducible exact vpi8 (by assumption) (by assumption)
    | with_reducible exact hQ _ _ (hC.num _)
    | with_reducible refine sX1_lowOf ?_
    | with_reducible refine go_R (by first | assumption | exact hgc _ _ (by assumption) | exact hgl _ _ (by assumption) | exact isR.ext (by assumption) (by assumption)) ?_
    | with_reducible exact hQ _ _ (by first | assumption | exact CC.ext (by assumption) (by assumption))
    | simp only [eX1_putNumber_0, eX1_putNumber_0N, eX1_putNumber_1, eX1_putNumber_4, eX1_putNumber_5, eX1_putNumber_6, eX1_putNumber_7, eX1_putNumber_8, eX1_putNumber_11, rx, rn, rc, rl, hx, hn, hc, hl, d1, d2, d3, d4, d5, d6, d7, d8, d9, d10, d11, d12, rd_n, upw_n, ite_le, n45, n54, true_or, or_true, false_or, or_false, false_and, and_false, kx_l, kx_r, go_s, gl_s, gi_s, gb_s2, gb_s3, gq_s, wt_nil, wt_int, wt_long, wt_ref, wt_null, nl_int, nl_long, nl_ref, nl_null, nl_none, rf_n, rf_s, rf_st, tl_s, tl_n, g0, gS, ex1, nb_b, nb_0, nb_1, nf_i, nf_l, nf_ra, nf_ro, nf_na, nf_no, nf_b0, nf_z0, t45_4, t45_5, true_and, and_true, List.set_cons_zero, List.set_cons_succ, List.length_cons, List.length_nil, rd_s, upw_s, ne_eq, not_false_eq_true, Nat.zero_add, Nat.add_zero]
    | split
    | with_reducible intro _
    | omega
set_option maxHeartbeats 4000000 in
theorem sX1_giveR {a0 : Int32} {a1 : Nat} (hC : CC g w0 x nA cA lA kn w) (h1 : isR w a1) (hQ : ∀ (v : Int32) (w' : Hw), CC g w0 x nA cA lA kn w' → (∀ b, isR w b → isR w' b) → Q (.inl (some (.int v))) w') (k0 : ¬ a0 < 0) (k1 : a0 < 6) : WP (MX1_give g) Q (0, [some (.ref x), some (.int a0), some (.ref a1)], [], w, 0, 0) := by
  obtain ⟨n, rf, md, f, gc, gl, hx, hn, hc, hl, hgc, hgl, hn0, hn1, rx, rn, rc, rl, ⟨d1, d2, d3, d4, d5, d6⟩, ⟨d7, d8, d9, d10, d11, d12⟩⟩ := hC.1.opn g
  repeat' first
    | with_reducible assumption
    | with_reducible refine And.intro ?_ ?_
    | with_reducible exact vpi6 (by assumption) (by assumption)
    | with_reducible exact vpi8 (by assumption) (by assumption)
    | with_reducible exact hQ _ _ (by assumption) (by assumption)
    | with_reducible refine Or.inl ?_
    | with_reducible refine go_Rw (by first | assumption | exact hgc _ _ (by assumption) | exact hgl _ _ (by assumption) | exact isR.ext (by assumption) (by assumption)) ?_
    | with_reducible exact hQ _ _ ((hC.cards _ (up_ok hgc fun b z => by cases z; assumption)).obj _ _ _ _ (by assumption) (by assumption)) (fun b hb => isR_up2 (isR_up2 hb hc (by simp)) (by rw [upw_n d2]; exact hx) (by simp))
    | with_reducible exact hQ _ _ (by assumption) (fun b hb => isR_up2 hb hx (by simp))
    | (refine sX1_refuse hC ?_)
    | with_reducible refine sX1_refuse (by first | assumption | exact CC.ext (by assumption) (by assumption)) ?_
    | with_reducible refine go_R (by first | assumption | exact hgc _ _ (by assumption) | exact hgl _ _ (by assumption) | exact isR.ext (by assumption) (by assumption)) ?_
    | with_reducible exact hQ _ _ (by first | assumption | exact CC.ext (by assumption) (by assumption))
    | simp only [eX1_give_0, eX1_give_0N, eX1_give_1R, eX1_give_1N, eX1_give_4, eX1_give_4N, eX1_give_5, eX1_give_8, eX1_give_9, eX1_give_9N, eX1_give_10, eX1_give_13, eX1_give_14, eX1_give_14N, eX1_give_15N, eX1_give_15R, eX1_give_16, eX1_give_16N, eX1_give_17, eX1_give_17R, eX1_give_18, eX1_give_21, eX1_give_22, eX1_give_23, eX1_give_26, eX1_give_27, rx, rn, rc, rl, hx, hn, hc, hl, d1, d2, d3, d4, d5, d6, d7, d8, d9, d10, d11, d12, rd_n, upw_n, ite_le, n45, n54, true_or, or_true, false_or, or_false, false_and, and_false, kx_l, kx_r, go_s, gl_s, gi_s, gb_s2, gb_s3, gq_s, wt_nil, wt_int, wt_long, wt_ref, wt_null, nl_int, nl_long, nl_ref, nl_null, nl_none, rf_n, rf_s, rf_st, tl_s, tl_n, g0, gS, ex1, nb_b, nb_0, nb_1, nf_i, nf_l, nf_ra, nf_ro, nf_na, nf_no, nf_b0, nf_z0, t45_4, t45_5, true_and, and_true, List.set_cons_zero, List.set_cons_succ, List.length_cons, List.length_nil, rd_s, upw_s, ne_eq, not_false_eq_true, Nat.zero_add, Nat.add_zero]
    | split
    | with_reducible intro _
    | omega
set_option maxHeartbeats 4000000 in
theorem sX1_giveN {a0 : Int32} (hC : CC g w0 x nA cA lA kn w) (hQ : ∀ (v : Int32) (w' : Hw), CC g w0 x nA cA lA kn w' → (∀ b, isR w b → isR w' b) → Q (.inl (some (.int v))) w') (k0 : ¬ a0 < 0) (k1 : a0 < 6) : WP (MX1_give g) Q (0, [some (.ref x), some (.int a0), some .null], [], w, 0, 0) := by
  obtain ⟨n, rf, md, f, gc, gl, hx, hn, hc, hl, hgc, hgl, hn0, hn1, rx, rn, rc, rl, ⟨d1, d2, d3, d4, d5, d6⟩, ⟨d7, d8, d9, d10, d11, d12⟩⟩ := hC.1.opn g
  repeat' first
    | with_reducible assumption
    | with_reducible refine And.intro ?_ ?_
    | with_reducible exact vpi6 (by assumption) (by assumption)
    | with_reducible exact vpi8 (by assumption) (by assumption)
    | with_reducible exact hQ _ _ (by assumption) (by assumption)
    | with_reducible refine Or.inl ?_
    | with_reducible refine go_Rw (by first | assumption | exact hgc _ _ (by assumption) | exact hgl _ _ (by assumption) | exact isR.ext (by assumption) (by assumption)) ?_
    | with_reducible exact hQ _ _ ((hC.cards _ (up_ok hgc fun b z => by cases z; assumption)).obj _ _ _ _ (by assumption) (by assumption)) (fun b hb => isR_up2 (isR_up2 hb hc (by simp)) (by rw [upw_n d2]; exact hx) (by simp))
    | with_reducible exact hQ _ _ (by assumption) (fun b hb => isR_up2 hb hx (by simp))
    | (refine sX1_refuse hC ?_)
    | with_reducible refine sX1_refuse (by first | assumption | exact CC.ext (by assumption) (by assumption)) ?_
    | with_reducible refine go_R (by first | assumption | exact hgc _ _ (by assumption) | exact hgl _ _ (by assumption) | exact isR.ext (by assumption) (by assumption)) ?_
    | with_reducible exact hQ _ _ (by first | assumption | exact CC.ext (by assumption) (by assumption))
    | simp only [eX1_give_0, eX1_give_0N, eX1_give_1R, eX1_give_1N, eX1_give_4, eX1_give_4N, eX1_give_5, eX1_give_8, eX1_give_9, eX1_give_9N, eX1_give_10, eX1_give_13, eX1_give_14, eX1_give_14N, eX1_give_15N, eX1_give_15R, eX1_give_16, eX1_give_16N, eX1_give_17, eX1_give_17R, eX1_give_18, eX1_give_21, eX1_give_22, eX1_give_23, eX1_give_26, eX1_give_27, rx, rn, rc, rl, hx, hn, hc, hl, d1, d2, d3, d4, d5, d6, d7, d8, d9, d10, d11, d12, rd_n, upw_n, ite_le, n45, n54, true_or, or_true, false_or, or_false, false_and, and_false, kx_l, kx_r, go_s, gl_s, gi_s, gb_s2, gb_s3, gq_s, wt_nil, wt_int, wt_long, wt_ref, wt_null, nl_int, nl_long, nl_ref, nl_null, nl_none, rf_n, rf_s, rf_st, tl_s, tl_n, g0, gS, ex1, nb_b, nb_0, nb_1, nf_i, nf_l, nf_ra, nf_ro, nf_na, nf_no, nf_b0, nf_z0, t45_4, t45_5, true_and, and_true, List.set_cons_zero, List.set_cons_succ, List.length_cons, List.length_nil, rd_s, upw_s, ne_eq, not_false_eq_true, Nat.zero_add, Nat.add_zero]
    | split
    | with_reducible intro _
    | omega
set_option maxHeartbeats 4000000 in
theorem sX1_copyOf {a0 : Nat} (h0 : isR w a0) (hN : Q (.inl (some .null)) w) (hQ : ∀ (q : Nat) (w' : Hw), ext g w w' → isR w' q → Q (.inl (some (.ref q))) w') : WP (MX1_copyOf g) Q (0, [some (.ref a0)], [], w, 0, 0) := by
  repeat' first
    | with_reducible assumption
    | with_reducible refine And.intro ?_ ?_
    | with_reducible exact vpi6 (by assumption) (by assumption)
    | with_reducible exact vpi8 (by assumption) (by assumption)
    | with_reducible refine sX0_ofFour ?_ ?_
    | with_reducible refine go_R (by assumption) ?_
    | with_reducible exact hQ _ _ (by assumption) (by assumption)
    | with_reducible exact hQ _ _ (by repeat' first | assumption | exact ext.rf | refine ext_up2 ?_ ?_) isR_up
    | simp only [eX1_copyOf_0, eX1_copyOf_0N, eX1_copyOf_1, eX1_copyOf_4, eX1_copyOf_4N, eX1_copyOf_5, eX1_copyOf_8, eX1_copyOf_8N, eX1_copyOf_9, eX1_copyOf_12, eX1_copyOf_12N, eX1_copyOf_13, eX1_copyOf_16, eX1_copyOf_19, eX1_copyOf_19N, ite_le, n45, n54, true_or, or_true, false_or, or_false, false_and, and_false, kx_l, kx_r, go_s, gl_s, gi_s, gb_s2, gb_s3, gq_s, wt_nil, wt_int, wt_long, wt_ref, wt_null, nl_int, nl_long, nl_ref, nl_null, nl_none, rf_n, rf_s, rf_st, tl_s, tl_n, g0, gS, ex1, nb_b, nb_0, nb_1, nf_i, nf_l, nf_ra, nf_ro, nf_na, nf_no, nf_b0, nf_z0, t45_4, t45_5, true_and, and_true, List.set_cons_zero, List.set_cons_succ, List.length_cons, List.length_nil, rd_s, upw_s, ne_eq, not_false_eq_true, Nat.zero_add, Nat.add_zero]
    | split
    | with_reducible intro _
    | omega
set_option maxHeartbeats 4000000 in
theorem sX1_outerOf {a0 : Nat} (h0 : isR w a0) (hN : Q (.inl (some .null)) w) (hQ : ∀ (q : Nat) (w' : Hw), ext g w w' → isR w' q → Q (.inl (some (.ref q))) w') : WP (MX1_outerOf g) Q (0, [some (.ref a0)], [], w, 0, 0) := by
  repeat' first
    | with_reducible assumption
    | with_reducible refine And.intro ?_ ?_
    | with_reducible exact vpi6 (by assumption) (by assumption)
    | with_reducible exact vpi8 (by assumption) (by assumption)
    | with_reducible refine sX0_ofTwo ?_ ?_
    | with_reducible refine go_R (by assumption) ?_
    | with_reducible exact hQ _ _ (by assumption) (by assumption)
    | with_reducible exact hQ _ _ (by repeat' first | assumption | exact ext.rf | refine ext_up2 ?_ ?_) isR_up
    | simp only [eX1_outerOf_0, eX1_outerOf_0N, eX1_outerOf_1, eX1_outerOf_4, eX1_outerOf_4N, eX1_outerOf_5, eX1_outerOf_8, eX1_outerOf_11, eX1_outerOf_11N, ite_le, n45, n54, true_or, or_true, false_or, or_false, false_and, and_false, kx_l, kx_r, go_s, gl_s, gi_s, gb_s2, gb_s3, gq_s, wt_nil, wt_int, wt_long, wt_ref, wt_null, nl_int, nl_long, nl_ref, nl_null, nl_none, rf_n, rf_s, rf_st, tl_s, tl_n, g0, gS, ex1, nb_b, nb_0, nb_1, nf_i, nf_l, nf_ra, nf_ro, nf_na, nf_no, nf_b0, nf_z0, t45_4, t45_5, true_and, and_true, List.set_cons_zero, List.set_cons_succ, List.length_cons, List.length_nil, rd_s, upw_s, ne_eq, not_false_eq_true, Nat.zero_add, Nat.add_zero]
    | split
    | with_reducible intro _
    | omega
set_option maxHeartbeats 4000000 in
theorem lX1_smallEnds_4 {a0 : Nat} (h0 : isR w a0) (hQ : ∀ v : Int32, Q (.inl (some (.int v))) w) : ∀ (d : Nat) (i1 : Int32) (i2 : Int32) (k m : Nat), ¬ i2 < 0 → (4 : Int32).toInt - i2.toInt ≤ (d : Int) → k ≤ 0 → m ≤ 0 → WP (MX1_smallEnds g) Q (4, [some (.ref a0), some (.int i1), some (.int i2)], [], w, k, m) := by
  intro d
  induction d with
  | zero =>
    intro i1 i2 k m z0 hm hk hs
    rw [eX1_smallEnds_4]
    repeat' first
      | with_reducible assumption
      | with_reducible refine And.intro ?_ ?_
      | with_reducible exact vpi6 (by assumption) (by assumption)
      | with_reducible exact vpi8 (by assumption) (by assumption)
      | with_reducible exact (ic_z (by assumption) (by assumption)).elim
      | with_reducible exact vpi12 (by assumption) (by assumption) (by assumption)
      | with_reducible refine sX0_endAt (by first | assumption | exact hgc _ _ (by assumption) | exact hgl _ _ (by assumption) | exact isR.ext (by assumption) (by assumption)) ?_
      | with_reducible refine sX1_isSmallNumber ?_
      | with_reducible refine sX1_asNumber ?_
      | with_reducible refine go_R (by assumption) ?_
      | with_reducible exact hQ _
      | simp only [eX1_smallEnds_0, eX1_smallEnds_1, eX1_smallEnds_2, eX1_smallEnds_3, eX1_smallEnds_5, eX1_smallEnds_6, eX1_smallEnds_9, eX1_smallEnds_10, eX1_smallEnds_10N, eX1_smallEnds_11, eX1_smallEnds_12, eX1_smallEnds_15, eX1_smallEnds_18, eX1_smallEnds_21, eX1_smallEnds_22, eX1_smallEnds_23, eX1_smallEnds_26, eX1_smallEnds_29, eX1_smallEnds_30, ite_le, n45, n54, true_or, or_true, false_or, or_false, false_and, and_false, kx_l, kx_r, go_s, gl_s, gi_s, gb_s2, gb_s3, gq_s, wt_nil, wt_int, wt_long, wt_ref, wt_null, nl_int, nl_long, nl_ref, nl_null, nl_none, rf_n, rf_s, rf_st, tl_s, tl_n, g0, gS, ex1, nb_b, nb_0, nb_1, nf_i, nf_l, nf_ra, nf_ro, nf_na, nf_no, nf_b0, nf_z0, t45_4, t45_5, true_and, and_true, List.set_cons_zero, List.set_cons_succ, List.length_cons, List.length_nil, rd_s, upw_s, ne_eq, not_false_eq_true, Nat.zero_add, Nat.add_zero]
      | split
      | with_reducible intro _
      | omega
  | succ d ih =>
    intro i1 i2 k m z0 hm hk hs
    rw [eX1_smallEnds_4]
    repeat' first
      | with_reducible assumption
      | with_reducible refine And.intro ?_ ?_
      | with_reducible exact vpi6 (by assumption) (by assumption)
      | with_reducible exact vpi8 (by assumption) (by assumption)
      | with_reducible exact ih _ _ _ _ (ic_p (by assumption) (by assumption)) (ic_s (by assumption) (by assumption)) (by first | assumption | omega) (by first | assumption | omega)
      | with_reducible exact vpi12 (by assumption) (by assumption) (by assumption)
      | with_reducible refine sX0_endAt (by first | assumption | exact hgc _ _ (by assumption) | exact hgl _ _ (by assumption) | exact isR.ext (by assumption) (by assumption)) ?_
      | with_reducible refine sX1_isSmallNumber ?_
      | with_reducible refine sX1_asNumber ?_
      | with_reducible refine go_R (by assumption) ?_
      | with_reducible exact hQ _
      | simp only [eX1_smallEnds_0, eX1_smallEnds_1, eX1_smallEnds_2, eX1_smallEnds_3, eX1_smallEnds_5, eX1_smallEnds_6, eX1_smallEnds_9, eX1_smallEnds_10, eX1_smallEnds_10N, eX1_smallEnds_11, eX1_smallEnds_12, eX1_smallEnds_15, eX1_smallEnds_18, eX1_smallEnds_21, eX1_smallEnds_22, eX1_smallEnds_23, eX1_smallEnds_26, eX1_smallEnds_29, eX1_smallEnds_30, ite_le, n45, n54, true_or, or_true, false_or, or_false, false_and, and_false, kx_l, kx_r, go_s, gl_s, gi_s, gb_s2, gb_s3, gq_s, wt_nil, wt_int, wt_long, wt_ref, wt_null, nl_int, nl_long, nl_ref, nl_null, nl_none, rf_n, rf_s, rf_st, tl_s, tl_n, g0, gS, ex1, nb_b, nb_0, nb_1, nf_i, nf_l, nf_ra, nf_ro, nf_na, nf_no, nf_b0, nf_z0, t45_4, t45_5, true_and, and_true, List.set_cons_zero, List.set_cons_succ, List.length_cons, List.length_nil, rd_s, upw_s, ne_eq, not_false_eq_true, Nat.zero_add, Nat.add_zero]
      | split
      | with_reducible intro _
      | omega
set_option maxHeartbeats 4000000 in
theorem sX1_smallEnds {a0 : Nat} (h0 : isR w a0) (hQ : ∀ v : Int32, Q (.inl (some (.int v))) w) : WP (MX1_smallEnds g) Q (0, [some (.ref a0), none, none], [], w, 0, 0) := by
  repeat' first
    | with_reducible assumption
    | with_reducible refine And.intro ?_ ?_
    | with_reducible exact vpi6 (by assumption) (by assumption)
    | with_reducible exact vpi8 (by assumption) (by assumption)
    | with_reducible exact lX1_smallEnds_4 h0 hQ 70 _ _ _ _ (by first | decide | assumption) (by first | decide | exact n12 (by assumption) | exact n60 (by assumption)) (by first | decide | omega) (by first | decide | omega)
    | with_reducible refine sX0_endAt (by first | assumption | exact hgc _ _ (by assumption) | exact hgl _ _ (by assumption) | exact isR.ext (by assumption) (by assumption)) ?_
    | with_reducible refine sX1_isSmallNumber ?_
    | with_reducible refine sX1_asNumber ?_
    | with_reducible refine go_R (by assumption) ?_
    | with_reducible exact hQ _
    | simp only [eX1_smallEnds_0, eX1_smallEnds_1, eX1_smallEnds_2, eX1_smallEnds_3, eX1_smallEnds_5, eX1_smallEnds_6, eX1_smallEnds_9, eX1_smallEnds_10, eX1_smallEnds_10N, eX1_smallEnds_11, eX1_smallEnds_12, eX1_smallEnds_15, eX1_smallEnds_18, eX1_smallEnds_21, eX1_smallEnds_22, eX1_smallEnds_23, eX1_smallEnds_26, eX1_smallEnds_29, eX1_smallEnds_30, ite_le, n45, n54, true_or, or_true, false_or, or_false, false_and, and_false, kx_l, kx_r, go_s, gl_s, gi_s, gb_s2, gb_s3, gq_s, wt_nil, wt_int, wt_long, wt_ref, wt_null, nl_int, nl_long, nl_ref, nl_null, nl_none, rf_n, rf_s, rf_st, tl_s, tl_n, g0, gS, ex1, nb_b, nb_0, nb_1, nf_i, nf_l, nf_ra, nf_ro, nf_na, nf_no, nf_b0, nf_z0, t45_4, t45_5, true_and, and_true, List.set_cons_zero, List.set_cons_succ, List.length_cons, List.length_nil, rd_s, upw_s, ne_eq, not_false_eq_true, Nat.zero_add, Nat.add_zero]
    | split
    | with_reducible intro _
    | omega
set_option maxHeartbeats 4000000 in
theorem sX1_validityIn {a0 : Nat} {a1 : Int64} (h0 : isR w a0) (hQ : ∀ v : Int32, Q (.inl (some (.int v))) w) : WP (MX1_validityIn g) Q (0, [some (.ref a0), some (.long a1), none], [], w, 0, 0) := by
  repeat' first
    | with_reducible assumption
    | with_reducible refine And.intro ?_ ?_
    | with_reducible exact vpi6 (by assumption) (by assumption)
    | with_reducible exact vpi8 (by assumption) (by assumption)
    | with_reducible refine sX0_holds (by first | assumption | exact hgc _ _ (by assumption) | exact hgl _ _ (by assumption) | exact isR.ext (by assumption) (by assumption)) ?_
    | with_reducible refine sX1_asNumber ?_
    | with_reducible refine sX0_holdsAsSmall (by first | assumption | exact hgc _ _ (by assumption) | exact hgl _ _ (by assumption) | exact isR.ext (by assumption) (by assumption)) ?_
    | with_reducible refine go_R (by assumption) ?_
    | with_reducible exact hQ _
    | simp only [eX1_validityIn_0, eX1_validityIn_0N, eX1_validityIn_1, eX1_validityIn_2, eX1_validityIn_5, eX1_validityIn_8, eX1_validityIn_8N, eX1_validityIn_9, eX1_validityIn_10, eX1_validityIn_13, eX1_validityIn_16, eX1_validityIn_17, ite_le, n45, n54, true_or, or_true, false_or, or_false, false_and, and_false, kx_l, kx_r, go_s, gl_s, gi_s, gb_s2, gb_s3, gq_s, wt_nil, wt_int, wt_long, wt_ref, wt_null, nl_int, nl_long, nl_ref, nl_null, nl_none, rf_n, rf_s, rf_st, tl_s, tl_n, g0, gS, ex1, nb_b, nb_0, nb_1, nf_i, nf_l, nf_ra, nf_ro, nf_na, nf_no, nf_b0, nf_z0, t45_4, t45_5, true_and, and_true, List.set_cons_zero, List.set_cons_succ, List.length_cons, List.length_nil, rd_s, upw_s, ne_eq, not_false_eq_true, Nat.zero_add, Nat.add_zero]
    | split
    | with_reducible intro _
    | omega
set_option maxHeartbeats 4000000 in
theorem sX1_neighboursIn {a0 : Nat} {a1 : Int64} {a2 : Int32} (h0 : isR w a0) (hQ : ∀ v : Int32, Q (.inl (some (.int v))) w) : WP (MX1_neighboursIn g) Q (0, [some (.ref a0), some (.long a1), none, some (.int a2)], [], w, 0, 0) := by
  repeat' first
    | with_reducible assumption
    | with_reducible refine And.intro ?_ ?_
    | with_reducible exact vpi6 (by assumption) (by assumption)
    | with_reducible exact vpi8 (by assumption) (by assumption)
    | with_reducible refine sX0_holdsAs (by first | assumption | exact hgc _ _ (by assumption) | exact hgl _ _ (by assumption) | exact isR.ext (by assumption) (by assumption)) ?_
    | with_reducible refine sX1_asNumber ?_
    | with_reducible refine go_R (by assumption) ?_
    | with_reducible exact hQ _
    | simp only [eX1_neighboursIn_0, eX1_neighboursIn_0N, eX1_neighboursIn_1, eX1_neighboursIn_2, eX1_neighboursIn_3, eX1_neighboursIn_4, eX1_neighboursIn_5, eX1_neighboursIn_8, eX1_neighboursIn_11, eX1_neighboursIn_12, eX1_neighboursIn_12N, eX1_neighboursIn_13, eX1_neighboursIn_14, eX1_neighboursIn_15, eX1_neighboursIn_18, eX1_neighboursIn_21, eX1_neighboursIn_22, eX1_neighboursIn_23, eX1_neighboursIn_24, eX1_neighboursIn_24N, eX1_neighboursIn_25, eX1_neighboursIn_26, eX1_neighboursIn_27, eX1_neighboursIn_28, eX1_neighboursIn_29, eX1_neighboursIn_32, eX1_neighboursIn_35, eX1_neighboursIn_36, eX1_neighboursIn_37, ite_le, n45, n54, true_or, or_true, false_or, or_false, false_and, and_false, kx_l, kx_r, go_s, gl_s, gi_s, gb_s2, gb_s3, gq_s, wt_nil, wt_int, wt_long, wt_ref, wt_null, nl_int, nl_long, nl_ref, nl_null, nl_none, rf_n, rf_s, rf_st, tl_s, tl_n, g0, gS, ex1, nb_b, nb_0, nb_1, nf_i, nf_l, nf_ra, nf_ro, nf_na, nf_no, nf_b0, nf_z0, t45_4, t45_5, true_and, and_true, List.set_cons_zero, List.set_cons_succ, List.length_cons, List.length_nil, rd_s, upw_s, ne_eq, not_false_eq_true, Nat.zero_add, Nat.add_zero]
    | split
    | with_reducible intro _
    | omega
end
