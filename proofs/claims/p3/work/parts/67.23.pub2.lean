section
variable {g : RO} {Q : Ot → Hw → Prop} {w0 w : Hw} {x nA cA lA : Nat} {kn : Int32}
theorem sX1_rangeOf2 {a0 : Int32} (hC : CC g w0 x nA cA lA kn w) (hXo : Q (.inr "java/lang/IndexOutOfBoundsException") w) (hXs : Q (.inr "java/lang/IllegalStateException") w) (hQ : ∀ b, ¬ a0 < 0 → a0 < 6 → isR w b → Q (.inl (some (.ref b))) w) : WP (MX1_rangeOf g) Q (0, [some (.ref x), some (.int a0), none], [], w, 0, 0) := by
  obtain ⟨n, rf, md, f, gc, gl, hx, hn, hc, hl, hgc, hgl, hn0, hn1, rx, rn, rc, rl, ⟨d1, d2, d3, d4, d5, d6⟩, ⟨d7, d8, d9, d10, d11, d12⟩⟩ := hC.1.opn g
  repeat' first
    | with_reducible assumption
    | with_reducible refine And.intro ?_ ?_
    | with_reducible exact vpi6 (by assumption) (by assumption)
    | with_reducible exact vpi8 (by assumption) (by assumption)
    | with_reducible exact hQ _ (by assumption) (by assumption) (hgc _ _ (by assumption))
    | with_reducible refine sX1_needCard ?_ ?_
    | simp only [eX1_rangeOf_0, eX1_rangeOf_1, eX1_rangeOf_4, eX1_rangeOf_4N, eX1_rangeOf_5, eX1_rangeOf_8, eX1_rangeOf_9, eX1_rangeOf_10, eX1_rangeOf_10N, eX1_rangeOf_11, eX1_rangeOf_11N, eX1_rangeOf_12R, eX1_rangeOf_12N, eX1_rangeOf_15, eX1_rangeOf_25, eX1_rangeOf_25N, eX1_rangeOf_26, eX1_rangeOf_26N, rx, rn, rc, rl, hx, hn, hc, hl, d1, d2, d3, d4, d5, d6, d7, d8, d9, d10, d11, d12, rd_n, upw_n, ite_le, n45, n54, true_or, or_true, false_or, or_false, false_and, and_false, kx_l, kx_r, go_s, gl_s, gi_s, gb_s2, gb_s3, gq_s, wt_nil, wt_int, wt_long, wt_ref, wt_null, nl_int, nl_long, nl_ref, nl_null, nl_none, rf_n, rf_s, rf_st, tl_s, tl_n, g0, gS, ex1, nb_b, nb_0, nb_1, nf_i, nf_l, nf_ra, nf_ro, nf_na, nf_no, nf_b0, nf_z0, t45_4, t45_5, true_and, and_true, List.set_cons_zero, List.set_cons_succ, List.length_cons, List.length_nil, rd_s, upw_s, ne_eq, not_false_eq_true, Nat.zero_add, Nat.add_zero]
    | split
    | with_reducible intro _
    | omega
set_option maxHeartbeats 4000000 in
theorem sX1_outer {a0 : Int32} {a1 : Int32} (hC : CC g w0 x nA cA lA kn w) (hXo : Q (.inr "java/lang/IndexOutOfBoundsException") w) (hXs : Q (.inr "java/lang/IllegalStateException") w) (hQ : ∀ (v : Int32) (w' : Hw), CC g w0 x nA cA lA kn w' → Q (.inl (some (.int v))) w') : WP (MX1_outer g) Q (0, [some (.ref x), some (.int a0), some (.int a1), none, none], [], w, 0, 0) := by
  obtain ⟨n, rf, md, f, gc, gl, hx, hn, hc, hl, hgc, hgl, hn0, hn1, rx, rn, rc, rl, ⟨d1, d2, d3, d4, d5, d6⟩, ⟨d7, d8, d9, d10, d11, d12⟩⟩ := hC.1.opn g
  repeat' first
    | with_reducible assumption
    | with_reducible refine And.intro ?_ ?_
    | with_reducible exact vpi6 (by assumption) (by assumption)
    | with_reducible exact vpi8 (by assumption) (by assumption)
    | with_reducible exact go_C (by first | assumption | exact CC.ext (by assumption) (by assumption))
    | with_reducible exact hQ _ _ (hC.cards _ (up_ok hgc fun b z => by cases z))
    | with_reducible exact hQ _ _ (hC.cards _ (up_ok hgc fun b z => by cases z; assumption))
    | with_reducible refine Or.inl ?_
    | with_reducible refine go_Rw (by first | assumption | exact hgc _ _ (by assumption) | exact hgl _ _ (by assumption) | exact isR.ext (by assumption) (by assumption) | exact isR.mono (by assumption) (by first | assumption | exact isR.ext (by assumption) (by assumption)) | exact isR_up2 (by first | assumption | exact hgc _ _ (by assumption)) hc (by simp)) ?_
    | with_reducible refine sX1_needCard ?_ ?_
    | with_reducible refine sX1_rangeOf2 (by first | assumption | exact CC.ext (by assumption) (by assumption)) ?_ ?_ ?_
    | with_reducible refine sX1_outerOf (by first | assumption | exact hgc _ _ (by assumption) | exact hgl _ _ (by assumption) | exact isR.ext (by assumption) (by assumption) | exact isR.mono (by assumption) (by first | assumption | exact isR.ext (by assumption) (by assumption)) | exact isR_up2 (by first | assumption | exact hgc _ _ (by assumption)) hc (by simp)) ?_ ?_
    | with_reducible refine sX1_giveR (by first | assumption | exact CC.ext (by assumption) (by assumption)) (by first | assumption | exact hgc _ _ (by assumption) | exact hgl _ _ (by assumption) | exact isR.ext (by assumption) (by assumption)) ?_ (by assumption) (by assumption)
    | with_reducible refine sX1_giveN (by first | assumption | exact CC.ext (by assumption) (by assumption)) ?_ (by assumption) (by assumption)
    | with_reducible refine sX0_matchesR (by first | assumption | exact hgc _ _ (by assumption) | exact hgl _ _ (by assumption) | exact isR.ext (by assumption) (by assumption) | exact isR.mono (by assumption) (by first | assumption | exact isR.ext (by assumption) (by assumption)) | exact isR_up2 (by first | assumption | exact hgc _ _ (by assumption)) hc (by simp)) (by first | assumption | exact hgc _ _ (by assumption) | exact hgl _ _ (by assumption) | exact isR.ext (by assumption) (by assumption) | exact isR.mono (by assumption) (by first | assumption | exact isR.ext (by assumption) (by assumption)) | exact isR_up2 (by first | assumption | exact hgc _ _ (by assumption)) hc (by simp)) ?_
    | with_reducible refine sX0_matchesN (by first | assumption | exact hgc _ _ (by assumption) | exact hgl _ _ (by assumption) | exact isR.ext (by assumption) (by assumption) | exact isR.mono (by assumption) (by first | assumption | exact isR.ext (by assumption) (by assumption)) | exact isR_up2 (by first | assumption | exact hgc _ _ (by assumption)) hc (by simp)) ?_
    | with_reducible refine go_R (by first | assumption | exact hgc _ _ (by assumption) | exact hgl _ _ (by assumption) | exact isR.ext (by assumption) (by assumption) | exact isR.mono (by assumption) (by first | assumption | exact isR.ext (by assumption) (by assumption)) | exact isR_up2 (by first | assumption | exact hgc _ _ (by assumption)) hc (by simp)) ?_
    | with_reducible exact hQ _ _ (by first | assumption | exact CC.ext (by assumption) (by assumption))
    | simp only [eX1_outer_0, eX1_outer_1, eX1_outer_4, eX1_outer_4N, eX1_outer_5, eX1_outer_6, eX1_outer_9, eX1_outer_9N, eX1_outer_10, eX1_outer_10N, eX1_outer_11R, eX1_outer_11N, eX1_outer_14, eX1_outer_14N, eX1_outer_16, eX1_outer_16N, eX1_outer_17, eX1_outer_18, eX1_outer_18N, eX1_outer_20R, eX1_outer_20N, eX1_outer_23, eX1_outer_23R, eX1_outer_23N, eX1_outer_24, eX1_outer_24N, eX1_outer_25, eX1_outer_25N, eX1_outer_27R, eX1_outer_27N, eX1_outer_30, eX1_outer_33, eX1_outer_34, eX1_outer_37, eX1_outer_38, rx, rn, rc, rl, hx, hn, hc, hl, d1, d2, d3, d4, d5, d6, d7, d8, d9, d10, d11, d12, rd_n, upw_n, ite_le, n45, n54, true_or, or_true, false_or, or_false, false_and, and_false, kx_l, kx_r, go_s, gl_s, gi_s, gb_s2, gb_s3, gq_s, wt_nil, wt_int, wt_long, wt_ref, wt_null, nl_int, nl_long, nl_ref, nl_null, nl_none, rf_n, rf_s, rf_st, tl_s, tl_n, g0, gS, ex1, nb_b, nb_0, nb_1, nf_i, nf_l, nf_ra, nf_ro, nf_na, nf_no, nf_b0, nf_z0, t45_4, t45_5, true_and, and_true, List.set_cons_zero, List.set_cons_succ, List.length_cons, List.length_nil, rd_s, upw_s, ne_eq, not_false_eq_true, Nat.zero_add, Nat.add_zero]
    | split
    | with_reducible intro _
    | omega
set_option maxHeartbeats 4000000 in
theorem sX1_inner {a0 : Int32} {a1 : Int32} (hC : CC g w0 x nA cA lA kn w) (hXo : Q (.inr "java/lang/IndexOutOfBoundsException") w) (hXs : Q (.inr "java/lang/IllegalStateException") w) (hQ : ∀ (v : Int32) (w' : Hw), CC g w0 x nA cA lA kn w' → Q (.inl (some (.int v))) w') : WP (MX1_inner g) Q (0, [some (.ref x), some (.int a0), some (.int a1), none], [], w, 0, 0) := by
  obtain ⟨n, rf, md, f, gc, gl, hx, hn, hc, hl, hgc, hgl, hn0, hn1, rx, rn, rc, rl, ⟨d1, d2, d3, d4, d5, d6⟩, ⟨d7, d8, d9, d10, d11, d12⟩⟩ := hC.1.opn g
  repeat' first
    | with_reducible assumption
    | with_reducible refine And.intro ?_ ?_
    | with_reducible exact vpi6 (by assumption) (by assumption)
    | with_reducible exact vpi8 (by assumption) (by assumption)
    | with_reducible exact go_C (by first | assumption | exact CC.ext (by assumption) (by assumption))
    | with_reducible exact hQ _ _ (hC.cards _ (up_ok hgc fun b z => by cases z))
    | with_reducible exact hQ _ _ (hC.cards _ (up_ok hgc fun b z => by cases z; assumption))
    | with_reducible refine Or.inl ?_
    | with_reducible refine go_Rw (by first | assumption | exact hgc _ _ (by assumption) | exact hgl _ _ (by assumption) | exact isR.ext (by assumption) (by assumption) | exact isR.mono (by assumption) (by first | assumption | exact isR.ext (by assumption) (by assumption)) | exact isR_up2 (by first | assumption | exact hgc _ _ (by assumption)) hc (by simp)) ?_
    | with_reducible refine sX1_needCard ?_ ?_
    | with_reducible refine sX1_rangeOf2 (by first | assumption | exact CC.ext (by assumption) (by assumption)) ?_ ?_ ?_
    | with_reducible refine sX0_ofTwo ?_ ?_
    | with_reducible refine sX1_giveR (by first | assumption | exact CC.ext (by assumption) (by assumption)) (by first | assumption | exact hgc _ _ (by assumption) | exact hgl _ _ (by assumption) | exact isR.ext (by assumption) (by assumption)) ?_ (by assumption) (by assumption)
    | with_reducible refine sX1_giveN (by first | assumption | exact CC.ext (by assumption) (by assumption)) ?_ (by assumption) (by assumption)
    | with_reducible refine go_R (by first | assumption | exact hgc _ _ (by assumption) | exact hgl _ _ (by assumption) | exact isR.ext (by assumption) (by assumption) | exact isR.mono (by assumption) (by first | assumption | exact isR.ext (by assumption) (by assumption)) | exact isR_up2 (by first | assumption | exact hgc _ _ (by assumption)) hc (by simp)) ?_
    | with_reducible exact hQ _ _ (by first | assumption | exact CC.ext (by assumption) (by assumption))
    | simp only [eX1_inner_0, eX1_inner_1, eX1_inner_4, eX1_inner_4N, eX1_inner_5, eX1_inner_6, eX1_inner_9, eX1_inner_9N, eX1_inner_10, eX1_inner_10N, eX1_inner_11, eX1_inner_12, eX1_inner_12N, eX1_inner_13, eX1_inner_16, eX1_inner_16N, eX1_inner_17, eX1_inner_20, eX1_inner_23R, eX1_inner_23N, eX1_inner_26, rx, rn, rc, rl, hx, hn, hc, hl, d1, d2, d3, d4, d5, d6, d7, d8, d9, d10, d11, d12, rd_n, upw_n, ite_le, n45, n54, true_or, or_true, false_or, or_false, false_and, and_false, kx_l, kx_r, go_s, gl_s, gi_s, gb_s2, gb_s3, gq_s, wt_nil, wt_int, wt_long, wt_ref, wt_null, nl_int, nl_long, nl_ref, nl_null, nl_none, rf_n, rf_s, rf_st, tl_s, tl_n, g0, gS, ex1, nb_b, nb_0, nb_1, nf_i, nf_l, nf_ra, nf_ro, nf_na, nf_no, nf_b0, nf_z0, t45_4, t45_5, true_and, and_true, List.set_cons_zero, List.set_cons_succ, List.length_cons, List.length_nil, rd_s, upw_s, ne_eq, not_false_eq_true, Nat.zero_add, Nat.add_zero]
    | split
    | with_reducible intro _
    | omega
set_option maxHeartbeats 4000000 in
theorem sX1_span {a0 : Int32} {a1 : Int32} {a2 : Int32} (hC : CC g w0 x nA cA lA kn w) (hXo : Q (.inr "java/lang/IndexOutOfBoundsException") w) (hXs : Q (.inr "java/lang/IllegalStateException") w) (hQ : ∀ (v : Int32) (w' : Hw), CC g w0 x nA cA lA kn w' → Q (.inl (some (.int v))) w') : WP (MX1_span g) Q (0, [some (.ref x), some (.int a0), some (.int a1), some (.int a2), none, none], [], w, 0, 0) := by
  obtain ⟨n, rf, md, f, gc, gl, hx, hn, hc, hl, hgc, hgl, hn0, hn1, rx, rn, rc, rl, ⟨d1, d2, d3, d4, d5, d6⟩, ⟨d7, d8, d9, d10, d11, d12⟩⟩ := hC.1.opn g
  repeat' first
    | with_reducible assumption
    | with_reducible refine And.intro ?_ ?_
    | with_reducible exact vpi6 (by assumption) (by assumption)
    | with_reducible exact vpi8 (by assumption) (by assumption)
    | with_reducible exact go_C (by first | assumption | exact CC.ext (by assumption) (by assumption))
    | with_reducible exact hQ _ _ (hC.cards _ (up_ok hgc fun b z => by cases z))
    | with_reducible exact hQ _ _ (hC.cards _ (up_ok hgc fun b z => by cases z; assumption))
    | with_reducible refine Or.inl ?_
    | with_reducible refine go_Rw (by first | assumption | exact hgc _ _ (by assumption) | exact hgl _ _ (by assumption) | exact isR.ext (by assumption) (by assumption) | exact isR.mono (by assumption) (by first | assumption | exact isR.ext (by assumption) (by assumption)) | exact isR_up2 (by first | assumption | exact hgc _ _ (by assumption)) hc (by simp)) ?_
    | with_reducible refine sX1_needCard ?_ ?_
    | with_reducible refine sX1_rangeOf2 (by first | assumption | exact CC.ext (by assumption) (by assumption)) ?_ ?_ ?_
    | with_reducible refine sX0_ofFour ?_ ?_
    | with_reducible refine sX1_giveR (by first | assumption | exact CC.ext (by assumption) (by assumption)) (by first | assumption | exact hgc _ _ (by assumption) | exact hgl _ _ (by assumption) | exact isR.ext (by assumption) (by assumption)) ?_ (by assumption) (by assumption)
    | with_reducible refine sX1_giveN (by first | assumption | exact CC.ext (by assumption) (by assumption)) ?_ (by assumption) (by assumption)
    | with_reducible refine go_R (by first | assumption | exact hgc _ _ (by assumption) | exact hgl _ _ (by assumption) | exact isR.ext (by assumption) (by assumption) | exact isR.mono (by assumption) (by first | assumption | exact isR.ext (by assumption) (by assumption)) | exact isR_up2 (by first | assumption | exact hgc _ _ (by assumption)) hc (by simp)) ?_
    | with_reducible exact hQ _ _ (by first | assumption | exact CC.ext (by assumption) (by assumption))
    | simp only [eX1_span_0, eX1_span_1, eX1_span_4, eX1_span_5, eX1_span_8, eX1_span_9, eX1_span_12, eX1_span_12N, eX1_span_13, eX1_span_14, eX1_span_17, eX1_span_17N, eX1_span_19, eX1_span_19N, eX1_span_20, eX1_span_21, eX1_span_24, eX1_span_24N, eX1_span_26, eX1_span_26N, eX1_span_27, eX1_span_28, eX1_span_28N, eX1_span_30, eX1_span_33, eX1_span_33N, eX1_span_35, eX1_span_38, eX1_span_38N, eX1_span_40, eX1_span_43, eX1_span_43N, eX1_span_45, eX1_span_48, eX1_span_51R, eX1_span_51N, eX1_span_54, rx, rn, rc, rl, hx, hn, hc, hl, d1, d2, d3, d4, d5, d6, d7, d8, d9, d10, d11, d12, rd_n, upw_n, ite_le, n45, n54, true_or, or_true, false_or, or_false, false_and, and_false, kx_l, kx_r, go_s, gl_s, gi_s, gb_s2, gb_s3, gq_s, wt_nil, wt_int, wt_long, wt_ref, wt_null, nl_int, nl_long, nl_ref, nl_null, nl_none, rf_n, rf_s, rf_st, tl_s, tl_n, g0, gS, ex1, nb_b, nb_0, nb_1, nf_i, nf_l, nf_ra, nf_ro, nf_na, nf_no, nf_b0, nf_z0, t45_4, t45_5, true_and, and_true, List.set_cons_zero, List.set_cons_succ, List.length_cons, List.length_nil, rd_s, upw_s, ne_eq, not_false_eq_true, Nat.zero_add, Nat.add_zero]
    | split
    | with_reducible intro _
    | omega
set_option maxHeartbeats 4000000 in
theorem sX1_shift {a0 : Int32} {a1 : Int32} (hC : CC g w0 x nA cA lA kn w) (hXo : Q (.inr "java/lang/IndexOutOfBoundsException") w) (hXs : Q (.inr "java/lang/IllegalStateException") w) (hQ : ∀ (v : Int32) (w' : Hw), CC g w0 x nA cA lA kn w' → Q (.inl (some (.int v))) w') : WP (MX1_shift g) Q (0, [some (.ref x), some (.int a0), some (.int a1), none], [], w, 0, 0) := by
  obtain ⟨n, rf, md, f, gc, gl, hx, hn, hc, hl, hgc, hgl, hn0, hn1, rx, rn, rc, rl, ⟨d1, d2, d3, d4, d5, d6⟩, ⟨d7, d8, d9, d10, d11, d12⟩⟩ := hC.1.opn g
  repeat' first
    | with_reducible assumption
    | with_reducible refine And.intro ?_ ?_
    | with_reducible exact vpi6 (by assumption) (by assumption)
    | with_reducible exact vpi8 (by assumption) (by assumption)
    | with_reducible exact go_C (by first | assumption | exact CC.ext (by assumption) (by assumption))
    | with_reducible exact hQ _ _ (hC.cards _ (up_ok hgc fun b z => by cases z))
    | with_reducible exact hQ _ _ (hC.cards _ (up_ok hgc fun b z => by cases z; assumption))
    | with_reducible refine Or.inl ?_
    | with_reducible refine go_Rw (by first | assumption | exact hgc _ _ (by assumption) | exact hgl _ _ (by assumption) | exact isR.ext (by assumption) (by assumption) | exact isR.mono (by assumption) (by first | assumption | exact isR.ext (by assumption) (by assumption)) | exact isR_up2 (by first | assumption | exact hgc _ _ (by assumption)) hc (by simp)) ?_
    | with_reducible refine sX1_rangeOf2 (by first | assumption | exact CC.ext (by assumption) (by assumption)) ?_ ?_ ?_
    | with_reducible refine sX0_ofFour ?_ ?_
    | with_reducible refine sX1_giveR (by first | assumption | exact CC.ext (by assumption) (by assumption)) (by first | assumption | exact hgc _ _ (by assumption) | exact hgl _ _ (by assumption) | exact isR.ext (by assumption) (by assumption)) ?_ (by assumption) (by assumption)
    | with_reducible refine sX1_giveN (by first | assumption | exact CC.ext (by assumption) (by assumption)) ?_ (by assumption) (by assumption)
    | with_reducible refine go_R (by first | assumption | exact hgc _ _ (by assumption) | exact hgl _ _ (by assumption) | exact isR.ext (by assumption) (by assumption) | exact isR.mono (by assumption) (by first | assumption | exact isR.ext (by assumption) (by assumption)) | exact isR_up2 (by first | assumption | exact hgc _ _ (by assumption)) hc (by simp)) ?_
    | with_reducible exact hQ _ _ (by first | assumption | exact CC.ext (by assumption) (by assumption))
    | simp only [eX1_shift_0, eX1_shift_0N, eX1_shift_1, eX1_shift_2, eX1_shift_5, eX1_shift_5N, eX1_shift_6, eX1_shift_6N, eX1_shift_7, eX1_shift_8, eX1_shift_8N, eX1_shift_9, eX1_shift_12, eX1_shift_13, eX1_shift_14, eX1_shift_15, eX1_shift_15N, eX1_shift_16, eX1_shift_19, eX1_shift_20, eX1_shift_21, eX1_shift_22, eX1_shift_22N, eX1_shift_23, eX1_shift_26, eX1_shift_27, eX1_shift_28, eX1_shift_29, eX1_shift_29N, eX1_shift_30, eX1_shift_33, eX1_shift_34, eX1_shift_35, eX1_shift_36, eX1_shift_39R, eX1_shift_39N, eX1_shift_42, rx, rn, rc, rl, hx, hn, hc, hl, d1, d2, d3, d4, d5, d6, d7, d8, d9, d10, d11, d12, rd_n, upw_n, ite_le, n45, n54, true_or, or_true, false_or, or_false, false_and, and_false, kx_l, kx_r, go_s, gl_s, gi_s, gb_s2, gb_s3, gq_s, wt_nil, wt_int, wt_long, wt_ref, wt_null, nl_int, nl_long, nl_ref, nl_null, nl_none, rf_n, rf_s, rf_st, tl_s, tl_n, g0, gS, ex1, nb_b, nb_0, nb_1, nf_i, nf_l, nf_ra, nf_ro, nf_na, nf_no, nf_b0, nf_z0, t45_4, t45_5, true_and, and_true, List.set_cons_zero, List.set_cons_succ, List.length_cons, List.length_nil, rd_s, upw_s, ne_eq, not_false_eq_true, Nat.zero_add, Nat.add_zero]
    | split
    | with_reducible intro _
    | omega
set_option maxHeartbeats 4000000 in
theorem sX1_drop {a0 : Int32} (hC : CC g w0 x nA cA lA kn w) (hXo : Q (.inr "java/lang/IndexOutOfBoundsException") w) (hQ : ∀ (v : Int32) (w' : Hw), CC g w0 x nA cA lA kn w' → Q (.inl (some (.int v))) w') : WP (MX1_drop g) Q (0, [some (.ref x), some (.int a0), none], [], w, 0, 0) := by
  obtain ⟨n, rf, md, f, gc, gl, hx, hn, hc, hl, hgc, hgl, hn0, hn1, rx, rn, rc, rl, ⟨d1, d2, d3, d4, d5, d6⟩, ⟨d7, d8, d9, d10, d11, d12⟩⟩ := hC.1.opn g
  repeat' first
    | with_reducible assumption
    | with_reducible refine And.intro ?_ ?_
    | with_reducible exact vpi6 (by assumption) (by assumption)
    | with_reducible exact vpi8 (by assumption) (by assumption)
    | with_reducible exact go_C (by first | assumption | exact CC.ext (by assumption) (by assumption))
    | with_reducible exact hQ _ _ (hC.cards _ (up_ok hgc fun b z => by cases z))
    | with_reducible exact hQ _ _ (hC.cards _ (up_ok hgc fun b z => by cases z; assumption))
    | with_reducible refine Or.inl ?_
    | with_reducible refine go_Rw (by first | assumption | exact hgc _ _ (by assumption) | exact hgl _ _ (by assumption) | exact isR.ext (by assumption) (by assumption) | exact isR.mono (by assumption) (by first | assumption | exact isR.ext (by assumption) (by assumption)) | exact isR_up2 (by first | assumption | exact hgc _ _ (by assumption)) hc (by simp)) ?_
    | with_reducible refine sX1_needCard ?_ ?_
    | with_reducible refine sX1_asNumber ?_
    | with_reducible refine go_R (by first | assumption | exact hgc _ _ (by assumption) | exact hgl _ _ (by assumption) | exact isR.ext (by assumption) (by assumption) | exact isR.mono (by assumption) (by first | assumption | exact isR.ext (by assumption) (by assumption)) | exact isR_up2 (by first | assumption | exact hgc _ _ (by assumption)) hc (by simp)) ?_
    | with_reducible exact hQ _ _ (by first | assumption | exact CC.ext (by assumption) (by assumption))
    | simp only [eX1_drop_0, eX1_drop_1, eX1_drop_4, eX1_drop_4N, eX1_drop_5, eX1_drop_8, eX1_drop_9, eX1_drop_10R, eX1_drop_10N, eX1_drop_13, eX1_drop_14, eX1_drop_17, eX1_drop_18, eX1_drop_21, eX1_drop_22, eX1_drop_22N, eX1_drop_23, eX1_drop_26, eX1_drop_27, eX1_drop_28N, eX1_drop_28R, eX1_drop_29, eX1_drop_30, rx, rn, rc, rl, hx, hn, hc, hl, d1, d2, d3, d4, d5, d6, d7, d8, d9, d10, d11, d12, rd_n, upw_n, ite_le, n45, n54, true_or, or_true, false_or, or_false, false_and, and_false, kx_l, kx_r, go_s, gl_s, gi_s, gb_s2, gb_s3, gq_s, wt_nil, wt_int, wt_long, wt_ref, wt_null, nl_int, nl_long, nl_ref, nl_null, nl_none, rf_n, rf_s, rf_st, tl_s, tl_n, g0, gS, ex1, nb_b, nb_0, nb_1, nf_i, nf_l, nf_ra, nf_ro, nf_na, nf_no, nf_b0, nf_z0, t45_4, t45_5, true_and, and_true, List.set_cons_zero, List.set_cons_succ, List.length_cons, List.length_nil, rd_s, upw_s, ne_eq, not_false_eq_true, Nat.zero_add, Nat.add_zero]
    | split
    | with_reducible intro _
    | omega
set_option maxHeartbeats 4000000 in
theorem sX1_same {a0 : Int32} {a1 : Int32} (hC : CC g w0 x nA cA lA kn w) (hXo : Q (.inr "java/lang/IndexOutOfBoundsException") w) (hXs : Q (.inr "java/lang/IllegalStateException") w) (hQ : ∀ (v : Int32) (w' : Hw), CC g w0 x nA cA lA kn w' → Q (.inl (some (.int v))) w') : WP (MX1_same g) Q (0, [some (.ref x), some (.int a0), some (.int a1), none, none], [], w, 0, 0) := by
  obtain ⟨n, rf, md, f, gc, gl, hx, hn, hc, hl, hgc, hgl, hn0, hn1, rx, rn, rc, rl, ⟨d1, d2, d3, d4, d5, d6⟩, ⟨d7, d8, d9, d10, d11, d12⟩⟩ := hC.1.opn g
  repeat' first
    | with_reducible assumption
    | with_reducible refine And.intro ?_ ?_
    | with_reducible exact vpi6 (by assumption) (by assumption)
    | with_reducible exact vpi8 (by assumption) (by assumption)
    | with_reducible exact hQ _ _ (hC.cards _ (up_ok hgc fun b z => by cases z; assumption))
    | with_reducible refine Or.inl ?_
    | with_reducible refine go_Rw (by first | assumption | exact hgc _ _ (by assumption) | exact hgl _ _ (by assumption) | exact isR.ext (by assumption) (by assumption) | exact isR.mono (by assumption) (by first | assumption | exact isR.ext (by assumption) (by assumption)) | exact isR_up2 (by first | assumption | exact hgc _ _ (by assumption)) hc (by simp)) ?_
    | with_reducible refine sX1_needCard ?_ ?_
    | with_reducible refine sX1_rangeOf2 (by first | assumption | exact CC.ext (by assumption) (by assumption)) ?_ ?_ ?_
    | with_reducible refine sX0_matchesR (by first | assumption | exact hgc _ _ (by assumption) | exact hgl _ _ (by assumption) | exact isR.ext (by assumption) (by assumption) | exact isR.mono (by assumption) (by first | assumption | exact isR.ext (by assumption) (by assumption)) | exact isR_up2 (by first | assumption | exact hgc _ _ (by assumption)) hc (by simp)) (by first | assumption | exact hgc _ _ (by assumption) | exact hgl _ _ (by assumption) | exact isR.ext (by assumption) (by assumption) | exact isR.mono (by assumption) (by first | assumption | exact isR.ext (by assumption) (by assumption)) | exact isR_up2 (by first | assumption | exact hgc _ _ (by assumption)) hc (by simp)) ?_
    | with_reducible refine sX0_matchesN (by first | assumption | exact hgc _ _ (by assumption) | exact hgl _ _ (by assumption) | exact isR.ext (by assumption) (by assumption) | exact isR.mono (by assumption) (by first | assumption | exact isR.ext (by assumption) (by assumption)) | exact isR_up2 (by first | assumption | exact hgc _ _ (by assumption)) hc (by simp)) ?_
    | with_reducible refine go_R (by first | assumption | exact hgc _ _ (by assumption) | exact hgl _ _ (by assumption) | exact isR.ext (by assumption) (by assumption) | exact isR.mono (by assumption) (by first | assumption | exact isR.ext (by assumption) (by assumption)) | exact isR_up2 (by first | assumption | exact hgc _ _ (by assumption)) hc (by simp)) ?_
    | with_reducible exact hQ _ _ (by first | assumption | exact CC.ext (by assumption) (by assumption))
    | simp only [eX1_same_0, eX1_same_1, eX1_same_4, eX1_same_4N, eX1_same_5, eX1_same_6, eX1_same_9, eX1_same_9N, eX1_same_10, eX1_same_10N, eX1_same_11, eX1_same_14, eX1_same_15, eX1_same_16, eX1_same_16N, eX1_same_18, eX1_same_18N, eX1_same_19, eX1_same_22, eX1_same_23, eX1_same_23N, eX1_same_24N, eX1_same_24R, eX1_same_25, eX1_same_25N, eX1_same_27R, eX1_same_27N, eX1_same_30, eX1_same_31, eX1_same_32, eX1_same_32N, eX1_same_34, eX1_same_34N, eX1_same_35R, eX1_same_35N, eX1_same_38, eX1_same_41, eX1_same_42, eX1_same_45, eX1_same_46, rx, rn, rc, rl, hx, hn, hc, hl, d1, d2, d3, d4, d5, d6, d7, d8, d9, d10, d11, d12, rd_n, upw_n, ite_le, n45, n54, true_or, or_true, false_or, or_false, false_and, and_false, kx_l, kx_r, go_s, gl_s, gi_s, gb_s2, gb_s3, gq_s, wt_nil, wt_int, wt_long, wt_ref, wt_null, nl_int, nl_long, nl_ref, nl_null, nl_none, rf_n, rf_s, rf_st, tl_s, tl_n, g0, gS, ex1, nb_b, nb_0, nb_1, nf_i, nf_l, nf_ra, nf_ro, nf_na, nf_no, nf_b0, nf_z0, t45_4, t45_5, true_and, and_true, List.set_cons_zero, List.set_cons_succ, List.length_cons, List.length_nil, rd_s, upw_s, ne_eq, not_false_eq_true, Nat.zero_add, Nat.add_zero]
    | split
    | with_reducible intro _
    | omega
end
