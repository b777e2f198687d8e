section
variable {g : RO} {Q : Ot → Hw → Prop} {w0 w : Hw} {x nA cA lA : Nat} {kn : Int32}
set_option maxHeartbeats 4000000 in
theorem sX1_two {a0 : Int32} {a1 : Int32} {a2 : Int32} (hC : CC g w0 x nA cA lA kn w) (hXo : Q (.inr "java/lang/IndexOutOfBoundsException") w) (hQ : ∀ (v : Int32) (w' : Hw), CC g w0 x nA cA lA kn w' → Q (.inl (some (.int v))) w') : WP (MX1_two g) Q (0, [some (.ref x), some (.int a0), some (.int a1), some (.int a2)], [], w, 0, 0) := by
  obtain ⟨n, rf, md, f, gc, gl, hx, hn, hc, hl, hgc, hgl, hn0, hn1, rx, rn, rc, rl, ⟨d1, d2, d3, d4, d5, d6⟩, ⟨d7, d8, d9, d10, d11, d12⟩⟩ := hC.1.opn g
  repeat' first
    | with_reducible assumption
    | with_reducible refine And.intro ?_ ?_
    | with_reducible exact vpi6 (by assumption) (by assumption)
    | with_reducible exact vpi8 (by assumption) (by assumption)
    | with_reducible exact go_C (by first | assumption | exact CC.ext (by assumption) (by assumption))
    | with_reducible refine sX1_needCard ?_ ?_
    | with_reducible refine sX1_needNumber ?_ ?_
    | with_reducible refine sX0_ofTwo ?_ ?_
    | with_reducible refine sX1_giveR (by first | assumption | exact CC.ext (by assumption) (by assumption)) (by first | assumption | exact hgc _ _ (by assumption) | exact hgl _ _ (by assumption) | exact isR.ext (by assumption) (by assumption)) ?_ (by assumption) (by assumption)
    | with_reducible refine sX1_giveN (by first | assumption | exact CC.ext (by assumption) (by assumption)) ?_ (by assumption) (by assumption)
    | with_reducible refine go_R (by first | assumption | exact hgc _ _ (by assumption) | exact hgl _ _ (by assumption) | exact isR.ext (by assumption) (by assumption) | exact isR.mono (by assumption) (by first | assumption | exact isR.ext (by assumption) (by assumption))) ?_
    | with_reducible exact hQ _ _ (by first | assumption | exact CC.ext (by assumption) (by assumption))
    | simp only [eX1_two_0, eX1_two_1, eX1_two_4, eX1_two_5, eX1_two_8, eX1_two_9, eX1_two_12, eX1_two_12N, eX1_two_13, eX1_two_14, eX1_two_14N, eX1_two_15, eX1_two_18, eX1_two_19, eX1_two_20, eX1_two_20N, eX1_two_21, eX1_two_24, eX1_two_25, eX1_two_26, eX1_two_29R, eX1_two_29N, eX1_two_32, rx, rn, rc, rl, hx, hn, hc, hl, d1, d2, d3, d4, d5, d6, d7, d8, d9, d10, d11, d12, rd_n, upw_n, ite_le, n45, n54, true_or, or_true, false_or, or_false, false_and, and_false, kx_l, kx_r, go_s, gl_s, gi_s, gb_s2, gb_s3, gq_s, wt_nil, wt_int, wt_long, wt_ref, wt_null, nl_int, nl_long, nl_ref, nl_null, nl_none, rf_n, rf_s, rf_st, tl_s, tl_n, g0, gS, ex1, nb_b, nb_0, nb_1, nf_i, nf_l, nf_ra, nf_ro, nf_na, nf_no, nf_b0, nf_z0, t45_4, t45_5, true_and, and_true, List.set_cons_zero, List.set_cons_succ, List.length_cons, List.length_nil, rd_s, upw_s, ne_eq, not_false_eq_true, Nat.zero_add, Nat.add_zero]
    | split
    | with_reducible intro _
    | omega
set_option maxHeartbeats 4000000 in
theorem sX1_three {a0 : Int32} {a1 : Int32} {a2 : Int32} {a3 : Int32} (hC : CC g w0 x nA cA lA kn w) (hXo : Q (.inr "java/lang/IndexOutOfBoundsException") w) (hQ : ∀ (v : Int32) (w' : Hw), CC g w0 x nA cA lA kn w' → Q (.inl (some (.int v))) w') : WP (MX1_three g) Q (0, [some (.ref x), some (.int a0), some (.int a1), some (.int a2), some (.int a3)], [], w, 0, 0) := by
  obtain ⟨n, rf, md, f, gc, gl, hx, hn, hc, hl, hgc, hgl, hn0, hn1, rx, rn, rc, rl, ⟨d1, d2, d3, d4, d5, d6⟩, ⟨d7, d8, d9, d10, d11, d12⟩⟩ := hC.1.opn g
  repeat' first
    | with_reducible assumption
    | with_reducible refine And.intro ?_ ?_
    | with_reducible exact vpi6 (by assumption) (by assumption)
    | with_reducible exact vpi8 (by assumption) (by assumption)
    | with_reducible exact go_C (by first | assumption | exact CC.ext (by assumption) (by assumption))
    | with_reducible refine sX1_needCard ?_ ?_
    | with_reducible refine sX1_needNumber ?_ ?_
    | with_reducible refine sX0_ofThree ?_ ?_
    | with_reducible refine sX1_giveR (by first | assumption | exact CC.ext (by assumption) (by assumption)) (by first | assumption | exact hgc _ _ (by assumption) | exact hgl _ _ (by assumption) | exact isR.ext (by assumption) (by assumption)) ?_ (by assumption) (by assumption)
    | with_reducible refine sX1_giveN (by first | assumption | exact CC.ext (by assumption) (by assumption)) ?_ (by assumption) (by assumption)
    | with_reducible refine go_R (by first | assumption | exact hgc _ _ (by assumption) | exact hgl _ _ (by assumption) | exact isR.ext (by assumption) (by assumption) | exact isR.mono (by assumption) (by first | assumption | exact isR.ext (by assumption) (by assumption))) ?_
    | with_reducible exact hQ _ _ (by first | assumption | exact CC.ext (by assumption) (by assumption))
    | simp only [eX1_three_0, eX1_three_1, eX1_three_4, eX1_three_5, eX1_three_8, eX1_three_9, eX1_three_12, eX1_three_14, eX1_three_17, eX1_three_17N, eX1_three_18, eX1_three_19, eX1_three_19N, eX1_three_20, eX1_three_23, eX1_three_24, eX1_three_25, eX1_three_25N, eX1_three_26, eX1_three_29, eX1_three_30, eX1_three_31, eX1_three_31N, eX1_three_32, eX1_three_35, eX1_three_37, eX1_three_38, eX1_three_41R, eX1_three_41N, eX1_three_44, rx, rn, rc, rl, hx, hn, hc, hl, d1, d2, d3, d4, d5, d6, d7, d8, d9, d10, d11, d12, rd_n, upw_n, ite_le, n45, n54, true_or, or_true, false_or, or_false, false_and, and_false, kx_l, kx_r, go_s, gl_s, gi_s, gb_s2, gb_s3, gq_s, wt_nil, wt_int, wt_long, wt_ref, wt_null, nl_int, nl_long, nl_ref, nl_null, nl_none, rf_n, rf_s, rf_st, tl_s, tl_n, g0, gS, ex1, nb_b, nb_0, nb_1, nf_i, nf_l, nf_ra, nf_ro, nf_na, nf_no, nf_b0, nf_z0, t45_4, t45_5, true_and, and_true, List.set_cons_zero, List.set_cons_succ, List.length_cons, List.length_nil, rd_s, upw_s, ne_eq, not_false_eq_true, Nat.zero_add, Nat.add_zero]
    | split
    | with_reducible intro _
    | omega
set_option maxHeartbeats 4000000 in
theorem sX1_four {a0 : Int32} {a1 : Int32} {a2 : Int32} {a3 : Int32} {a4 : Int32} (hC : CC g w0 x nA cA lA kn w) (hXo : Q (.inr "java/lang/IndexOutOfBoundsException") w) (hQ : ∀ (v : Int32) (w' : Hw), CC g w0 x nA cA lA kn w' → Q (.inl (some (.int v))) w') : WP (MX1_four g) Q (0, [some (.ref x), some (.int a0), some (.int a1), some (.int a2), some (.int a3), some (.int a4)], [], w, 0, 0) := by
  obtain ⟨n, rf, md, f, gc, gl, hx, hn, hc, hl, hgc, hgl, hn0, hn1, rx, rn, rc, rl, ⟨d1, d2, d3, d4, d5, d6⟩, ⟨d7, d8, d9, d10, d11, d12⟩⟩ := hC.1.opn g
  repeat' first
    | with_reducible assumption
    | with_reducible refine And.intro ?_ ?_
    | with_reducible exact vpi6 (by assumption) (by assumption)
    | with_reducible exact vpi8 (by assumption) (by assumption)
    | with_reducible exact go_C (by first | assumption | exact CC.ext (by assumption) (by assumption))
    | with_reducible refine sX1_needCard ?_ ?_
    | with_reducible refine sX1_needNumber ?_ ?_
    | with_reducible refine sX0_ofFour ?_ ?_
    | with_reducible refine sX1_giveR (by first | assumption | exact CC.ext (by assumption) (by assumption)) (by first | assumption | exact hgc _ _ (by assumption) | exact hgl _ _ (by assumption) | exact isR.ext (by assumption) (by assumption)) ?_ (by assumption) (by assumption)
    | with_reducible refine sX1_giveN (by first | assumption | exact CC.ext (by assumption) (by assumption)) ?_ (by assumption) (by assumption)
    | with_reducible refine go_R (by first | assumption | exact hgc _ _ (by assumption) | exact hgl _ _ (by assumption) | exact isR.ext (by assumption) (by assumption) | exact isR.mono (by assumption) (by first | assumption | exact isR.ext (by assumption) (by assumption))) ?_
    | with_reducible exact hQ _ _ (by first | assumption | exact CC.ext (by assumption) (by assumption))
    | simp only [eX1_four_0, eX1_four_1, eX1_four_4, eX1_four_5, eX1_four_8, eX1_four_9, eX1_four_12, eX1_four_14, eX1_four_17, eX1_four_19, eX1_four_22, eX1_four_22N, eX1_four_23, eX1_four_24, eX1_four_24N, eX1_four_25, eX1_four_28, eX1_four_29, eX1_four_30, eX1_four_30N, eX1_four_31, eX1_four_34, eX1_four_35, eX1_four_36, eX1_four_36N, eX1_four_37, eX1_four_40, eX1_four_42, eX1_four_43, eX1_four_43N, eX1_four_44, eX1_four_47, eX1_four_49, eX1_four_50, eX1_four_53R, eX1_four_53N, eX1_four_56, rx, rn, rc, rl, hx, hn, hc, hl, d1, d2, d3, d4, d5, d6, d7, d8, d9, d10, d11, d12, rd_n, upw_n, ite_le, n45, n54, true_or, or_true, false_or, or_false, false_and, and_false, kx_l, kx_r, go_s, gl_s, gi_s, gb_s2, gb_s3, gq_s, wt_nil, wt_int, wt_long, wt_ref, wt_null, nl_int, nl_long, nl_ref, nl_null, nl_none, rf_n, rf_s, rf_st, tl_s, tl_n, g0, gS, ex1, nb_b, nb_0, nb_1, nf_i, nf_l, nf_ra, nf_ro, nf_na, nf_no, nf_b0, nf_z0, t45_4, t45_5, true_and, and_true, List.set_cons_zero, List.set_cons_succ, List.length_cons, List.length_nil, rd_s, upw_s, ne_eq, not_false_eq_true, Nat.zero_add, Nat.add_zero]
    | split
    | with_reducible intro _
    | omega
set_option maxHeartbeats 4000000 in
theorem sX1_twoSmall {a0 : Int32} {a1 : Int32} {a2 : Int32} (hC : CC g w0 x nA cA lA kn w) (hXo : Q (.inr "java/lang/IndexOutOfBoundsException") w) (hQ : ∀ (v : Int32) (w' : Hw), CC g w0 x nA cA lA kn w' → Q (.inl (some (.int v))) w') : WP (MX1_twoSmall g) Q (0, [some (.ref x), some (.int a0), some (.int a1), some (.int a2)], [], w, 0, 0) := by
  obtain ⟨n, rf, md, f, gc, gl, hx, hn, hc, hl, hgc, hgl, hn0, hn1, rx, rn, rc, rl, ⟨d1, d2, d3, d4, d5, d6⟩, ⟨d7, d8, d9, d10, d11, d12⟩⟩ := hC.1.opn g
  repeat' first
    | with_reducible assumption
    | with_reducible refine And.intro ?_ ?_
    | with_reducible exact vpi6 (by assumption) (by assumption)
    | with_reducible exact vpi8 (by assumption) (by assumption)
    | with_reducible exact go_C (by first | assumption | exact CC.ext (by assumption) (by assumption))
    | with_reducible refine sX1_needCard ?_ ?_
    | with_reducible refine sX0_ofTwo ?_ ?_
    | with_reducible refine sX1_giveR (by first | assumption | exact CC.ext (by assumption) (by assumption)) (by first | assumption | exact hgc _ _ (by assumption) | exact hgl _ _ (by assumption) | exact isR.ext (by assumption) (by assumption)) ?_ (by assumption) (by assumption)
    | with_reducible refine sX1_giveN (by first | assumption | exact CC.ext (by assumption) (by assumption)) ?_ (by assumption) (by assumption)
    | with_reducible refine go_R (by first | assumption | exact hgc _ _ (by assumption) | exact hgl _ _ (by assumption) | exact isR.ext (by assumption) (by assumption) | exact isR.mono (by assumption) (by first | assumption | exact isR.ext (by assumption) (by assumption))) ?_
    | with_reducible exact hQ _ _ (by first | assumption | exact CC.ext (by assumption) (by assumption))
    | simp only [eX1_twoSmall_0, eX1_twoSmall_1, eX1_twoSmall_4, eX1_twoSmall_4N, eX1_twoSmall_5, eX1_twoSmall_6, eX1_twoSmall_7, eX1_twoSmall_8, eX1_twoSmall_9, eX1_twoSmall_10, eX1_twoSmall_13R, eX1_twoSmall_13N, eX1_twoSmall_16, rx, rn, rc, rl, hx, hn, hc, hl, d1, d2, d3, d4, d5, d6, d7, d8, d9, d10, d11, d12, rd_n, upw_n, ite_le, n45, n54, true_or, or_true, false_or, or_false, false_and, and_false, kx_l, kx_r, go_s, gl_s, gi_s, gb_s2, gb_s3, gq_s, wt_nil, wt_int, wt_long, wt_ref, wt_null, nl_int, nl_long, nl_ref, nl_null, nl_none, rf_n, rf_s, rf_st, tl_s, tl_n, g0, gS, ex1, nb_b, nb_0, nb_1, nf_i, nf_l, nf_ra, nf_ro, nf_na, nf_no, nf_b0, nf_z0, t45_4, t45_5, true_and, and_true, List.set_cons_zero, List.set_cons_succ, List.length_cons, List.length_nil, rd_s, upw_s, ne_eq, not_false_eq_true, Nat.zero_add, Nat.add_zero]
    | split
    | with_reducible intro _
    | omega
set_option maxHeartbeats 4000000 in
theorem sX1_threeSmall {a0 : Int32} {a1 : Int32} {a2 : Int32} {a3 : Int32} (hC : CC g w0 x nA cA lA kn w) (hXo : Q (.inr "java/lang/IndexOutOfBoundsException") w) (hQ : ∀ (v : Int32) (w' : Hw), CC g w0 x nA cA lA kn w' → Q (.inl (some (.int v))) w') : WP (MX1_threeSmall g) Q (0, [some (.ref x), some (.int a0), some (.int a1), some (.int a2), some (.int a3)], [], w, 0, 0) := by
  obtain ⟨n, rf, md, f, gc, gl, hx, hn, hc, hl, hgc, hgl, hn0, hn1, rx, rn, rc, rl, ⟨d1, d2, d3, d4, d5, d6⟩, ⟨d7, d8, d9, d10, d11, d12⟩⟩ := hC.1.opn g
  repeat' first
    | with_reducible assumption
    | with_reducible refine And.intro ?_ ?_
    | with_reducible exact vpi6 (by assumption) (by assumption)
    | with_reducible exact vpi8 (by assumption) (by assumption)
    | with_reducible exact go_C (by first | assumption | exact CC.ext (by assumption) (by assumption))
    | with_reducible refine sX1_needCard ?_ ?_
    | with_reducible refine sX0_ofThree ?_ ?_
    | with_reducible refine sX1_giveR (by first | assumption | exact CC.ext (by assumption) (by assumption)) (by first | assumption | exact hgc _ _ (by assumption) | exact hgl _ _ (by assumption) | exact isR.ext (by assumption) (by assumption)) ?_ (by assumption) (by assumption)
    | with_reducible refine sX1_giveN (by first | assumption | exact CC.ext (by assumption) (by assumption)) ?_ (by assumption) (by assumption)
    | with_reducible refine go_R (by first | assumption | exact hgc _ _ (by assumption) | exact hgl _ _ (by assumption) | exact isR.ext (by assumption) (by assumption) | exact isR.mono (by assumption) (by first | assumption | exact isR.ext (by assumption) (by assumption))) ?_
    | with_reducible exact hQ _ _ (by first | assumption | exact CC.ext (by assumption) (by assumption))
    | simp only [eX1_threeSmall_0, eX1_threeSmall_1, eX1_threeSmall_4, eX1_threeSmall_4N, eX1_threeSmall_5, eX1_threeSmall_6, eX1_threeSmall_7, eX1_threeSmall_8, eX1_threeSmall_9, eX1_threeSmall_10, eX1_threeSmall_12, eX1_threeSmall_13, eX1_threeSmall_16R, eX1_threeSmall_16N, eX1_threeSmall_19, rx, rn, rc, rl, hx, hn, hc, hl, d1, d2, d3, d4, d5, d6, d7, d8, d9, d10, d11, d12, rd_n, upw_n, ite_le, n45, n54, true_or, or_true, false_or, or_false, false_and, and_false, kx_l, kx_r, go_s, gl_s, gi_s, gb_s2, gb_s3, gq_s, wt_nil, wt_int, wt_long, wt_ref, wt_null, nl_int, nl_long, nl_ref, nl_null, nl_none, rf_n, rf_s, rf_st, tl_s, tl_n, g0, gS, ex1, nb_b, nb_0, nb_1, nf_i, nf_l, nf_ra, nf_ro, nf_na, nf_no, nf_b0, nf_z0, t45_4, t45_5, true_and, and_true, List.set_cons_zero, List.set_cons_succ, List.length_cons, List.length_nil, rd_s, upw_s, ne_eq, not_false_eq_true, Nat.zero_add, Nat.add_zero]
    | split
    | with_reducible intro _
    | omega
set_option maxHeartbeats 4000000 in
theorem sX1_fourSmall {a0 : Int32} {a1 : Int32} {a2 : Int32} {a3 : Int32} {a4 : Int32} (hC : CC g w0 x nA cA lA kn w) (hXo : Q (.inr "java/lang/IndexOutOfBoundsException") w) (hQ : ∀ (v : Int32) (w' : Hw), CC g w0 x nA cA lA kn w' → Q (.inl (some (.int v))) w') : WP (MX1_fourSmall g) Q (0, [some (.ref x), some (.int a0), some (.int a1), some (.int a2), some (.int a3), some (.int a4)], [], w, 0, 0) := by
  obtain ⟨n, rf, md, f, gc, gl, hx, hn, hc, hl, hgc, hgl, hn0, hn1, rx, rn, rc, rl, ⟨d1, d2, d3, d4, d5, d6⟩, ⟨d7, d8, d9, d10, d11, d12⟩⟩ := hC.1.opn g
  repeat' first
    | with_reducible assumption
    | with_reducible refine And.intro ?_ ?_
    | with_reducible exact vpi6 (by assumption) (by assumption)
    | with_reducible exact vpi8 (by assumption) (by assumption)
    | with_reducible exact go_C (by first | assumption | exact CC.ext (by assumption) (by assumption))
    | with_reducible refine sX1_needCard ?_ ?_
    | with_reducible refine sX0_ofFour ?_ ?_
    | with_reducible refine sX1_giveR (by first | assumption | exact CC.ext (by assumption) (by assumption)) (by first | assumption | exact hgc _ _ (by assumption) | exact hgl _ _ (by assumption) | exact isR.ext (by assumption) (by assumption)) ?_ (by assumption) (by assumption)
    | with_reducible refine sX1_giveN (by first | assumption | exact CC.ext (by assumption) (by assumption)) ?_ (by assumption) (by assumption)
    | with_reducible refine go_R (by first | assumption | exact hgc _ _ (by assumption) | exact hgl _ _ (by assumption) | exact isR.ext (by assumption) (by assumption) | exact isR.mono (by assumption) (by first | assumption | exact isR.ext (by assumption) (by assumption))) ?_
    | with_reducible exact hQ _ _ (by first | assumption | exact CC.ext (by assumption) (by assumption))
    | simp only [eX1_fourSmall_0, eX1_fourSmall_1, eX1_fourSmall_4, eX1_fourSmall_4N, eX1_fourSmall_5, eX1_fourSmall_6, eX1_fourSmall_7, eX1_fourSmall_8, eX1_fourSmall_9, eX1_fourSmall_10, eX1_fourSmall_12, eX1_fourSmall_13, eX1_fourSmall_15, eX1_fourSmall_16, eX1_fourSmall_19R, eX1_fourSmall_19N, eX1_fourSmall_22, rx, rn, rc, rl, hx, hn, hc, hl, d1, d2, d3, d4, d5, d6, d7, d8, d9, d10, d11, d12, rd_n, upw_n, ite_le, n45, n54, true_or, or_true, false_or, or_false, false_and, and_false, kx_l, kx_r, go_s, gl_s, gi_s, gb_s2, gb_s3, gq_s, wt_nil, wt_int, wt_long, wt_ref, wt_null, nl_int, nl_long, nl_ref, nl_null, nl_none, rf_n, rf_s, rf_st, tl_s, tl_n, g0, gS, ex1, nb_b, nb_0, nb_1, nf_i, nf_l, nf_ra, nf_ro, nf_na, nf_no, nf_b0, nf_z0, t45_4, t45_5, true_and, and_true, List.set_cons_zero, List.set_cons_succ, List.length_cons, List.length_nil, rd_s, upw_s, ne_eq, not_false_eq_true, Nat.zero_add, Nat.add_zero]
    | split
    | with_reducible intro _
    | omega
set_option maxHeartbeats 4000000 in
theorem sX1_again {a0 : Int32} {a1 : Int32} (hC : CC g w0 x nA cA lA kn w) (hXo : Q (.inr "java/lang/IndexOutOfBoundsException") w) (hXs : Q (.inr "java/lang/IllegalStateException") w) (hQ : ∀ (v : Int32) (w' : Hw), CC g w0 x nA cA lA kn w' → Q (.inl (some (.int v))) w') : WP (MX1_again g) Q (0, [some (.ref x), some (.int a0), some (.int a1), none], [], w, 0, 0) := by
  obtain ⟨n, rf, md, f, gc, gl, hx, hn, hc, hl, hgc, hgl, hn0, hn1, rx, rn, rc, rl, ⟨d1, d2, d3, d4, d5, d6⟩, ⟨d7, d8, d9, d10, d11, d12⟩⟩ := hC.1.opn g
  repeat' first
    | with_reducible assumption
    | with_reducible refine And.intro ?_ ?_
    | with_reducible exact vpi6 (by assumption) (by assumption)
    | with_reducible exact vpi8 (by assumption) (by assumption)
    | with_reducible exact go_C (by first | assumption | exact CC.ext (by assumption) (by assumption))
    | with_reducible refine sX1_needCard ?_ ?_
    | with_reducible refine sX1_rangeOf (by first | assumption | exact CC.ext (by assumption) (by assumption)) ?_ ?_ ?_
    | with_reducible refine sX1_copyOf (by first | assumption | exact hgc _ _ (by assumption) | exact hgl _ _ (by assumption) | exact isR.ext (by assumption) (by assumption) | exact isR.mono (by assumption) (by first | assumption | exact isR.ext (by assumption) (by assumption))) ?_ ?_
    | with_reducible refine sX1_giveR (by first | assumption | exact CC.ext (by assumption) (by assumption)) (by first | assumption | exact hgc _ _ (by assumption) | exact hgl _ _ (by assumption) | exact isR.ext (by assumption) (by assumption)) ?_ (by assumption) (by assumption)
    | with_reducible refine sX1_giveN (by first | assumption | exact CC.ext (by assumption) (by assumption)) ?_ (by assumption) (by assumption)
    | with_reducible refine sX1_smallEnds (by first | assumption | exact hgc _ _ (by assumption) | exact hgl _ _ (by assumption) | exact isR.ext (by assumption) (by assumption) | exact isR.mono (by assumption) (by first | assumption | exact isR.ext (by assumption) (by assumption))) ?_
    | with_reducible refine go_R (by first | assumption | exact hgc _ _ (by assumption) | exact hgl _ _ (by assumption) | exact isR.ext (by assumption) (by assumption) | exact isR.mono (by assumption) (by first | assumption | exact isR.ext (by assumption) (by assumption))) ?_
    | with_reducible exact hQ _ _ (by first | assumption | exact CC.ext (by assumption) (by assumption))
    | simp only [eX1_again_0, eX1_again_1, eX1_again_4, eX1_again_4N, eX1_again_5, eX1_again_6, eX1_again_9, eX1_again_9N, eX1_again_10, eX1_again_10N, eX1_again_11, eX1_again_12, eX1_again_12N, eX1_again_13R, eX1_again_13N, eX1_again_16R, eX1_again_16N, eX1_again_19, eX1_again_19R, eX1_again_19N, eX1_again_20, eX1_again_20N, eX1_again_21R, eX1_again_21N, eX1_again_24, rx, rn, rc, rl, hx, hn, hc, hl, d1, d2, d3, d4, d5, d6, d7, d8, d9, d10, d11, d12, rd_n, upw_n, ite_le, n45, n54, true_or, or_true, false_or, or_false, false_and, and_false, kx_l, kx_r, go_s, gl_s, gi_s, gb_s2, gb_s3, gq_s, wt_nil, wt_int, wt_long, wt_ref, wt_null, nl_int, nl_long, nl_ref, nl_null, nl_none, rf_n, rf_s, rf_st, tl_s, tl_n, g0, gS, ex1, nb_b, nb_0, nb_1, nf_i, nf_l, nf_ra, nf_ro, nf_na, nf_no, nf_b0, nf_z0, t45_4, t45_5, true_and, and_true, List.set_cons_zero, List.set_cons_succ, List.length_cons, List.length_nil, rd_s, upw_s, ne_eq, not_false_eq_true, Nat.zero_add, Nat.add_zero]
    | split
    | with_reducible intro _
    | omega
end
