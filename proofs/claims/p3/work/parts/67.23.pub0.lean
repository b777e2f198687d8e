section
variable {g : RO} {Q : Ot → Hw → Prop} {w0 w : Hw} {x nA cA lA : Nat} {kn : Int32}
set_option maxHeartbeats 4000000 in
theorem sX1_set {a0 : Int32} {a1 : Int32} {a2 : Int32} (hC : CC g w0 x nA cA lA kn w) (hXo : Q (.inr "java/lang/IndexOutOfBoundsException") w) (hQ : ∀ (v : Int32) (w' : Hw), CC g w0 x nA cA lA kn w' → Q (.inl (some (.int v))) w') : WP (MX1_set g) Q (0, [some (.ref x), some (.int a0), some (.int a1), some (.int a2), none], [], w, 0, 0) := by
  obtain ⟨n, rf, md, f, gc, gl, hx, hn, hc, hl, hgc, hgl, hn0, hn1, rx, rn, rc, rl, ⟨d1, d2, d3, d4, d5, d6⟩, ⟨d7, d8, d9, d10, d11, d12⟩⟩ := hC.1.opn g
  repeat' first
    | with_reducible assumption
    | with_reducible refine And.intro ?_ ?_
    | with_reducible exact vpi6 (by assumption) (by assumption)
    | with_reducible exact vpi8 (by assumption) (by assumption)
    | with_reducible exact hQ _ _ (hC.num _)
    | with_reducible refine sX1_needNumber ?_ ?_
    | with_reducible refine sX1_highOf ?_
    | with_reducible refine go_R (by first | assumption | exact hgc _ _ (by assumption) | exact hgl _ _ (by assumption) | exact isR.ext (by assumption) (by assumption) | exact isR.mono (by assumption) (by first | assumption | exact isR.ext (by assumption) (by assumption))) ?_
    | with_reducible exact hQ _ _ (by first | assumption | exact CC.ext (by assumption) (by assumption))
    | simp only [eX1_set_0, eX1_set_1, eX1_set_4, eX1_set_4N, eX1_set_5, eX1_set_8, eX1_set_9, eX1_set_10, eX1_set_13, eX1_set_15, eX1_set_15N, eX1_set_16, eX1_set_19, eX1_set_20, eX1_set_21, eX1_set_22, eX1_set_24, eX1_set_25, eX1_set_26, eX1_set_27, eX1_set_30, eX1_set_31, eX1_set_32, eX1_set_33, eX1_set_35, rx, rn, rc, rl, hx, hn, hc, hl, d1, d2, d3, d4, d5, d6, d7, d8, d9, d10, d11, d12, rd_n, upw_n, ite_le, n45, n54, true_or, or_true, false_or, or_false, false_and, and_false, kx_l, kx_r, go_s, gl_s, gi_s, gb_s2, gb_s3, gq_s, wt_nil, wt_int, wt_long, wt_ref, wt_null, nl_int, nl_long, nl_ref, nl_null, nl_none, rf_n, rf_s, rf_st, tl_s, tl_n, g0, gS, ex1, nb_b, nb_0, nb_1, nf_i, nf_l, nf_ra, nf_ro, nf_na, nf_no, nf_b0, nf_z0, t45_4, t45_5, true_and, and_true, List.set_cons_zero, List.set_cons_succ, List.length_cons, List.length_nil, rd_s, upw_s, ne_eq, not_false_eq_true, Nat.zero_add, Nat.add_zero]
    | split
    | with_reducible intro _
    | omega
set_option maxHeartbeats 4000000 in
theorem sX1_setSmall {a0 : Int32} {a1 : Int32} (hC : CC g w0 x nA cA lA kn w) (hXo : Q (.inr "java/lang/IndexOutOfBoundsException") w) (hQ : ∀ (v : Int32) (w' : Hw), CC g w0 x nA cA lA kn w' → Q (.inl (some (.int v))) w') : WP (MX1_setSmall g) Q (0, [some (.ref x), some (.int a0), some (.int a1), none], [], w, 0, 0) := by
  obtain ⟨n, rf, md, f, gc, gl, hx, hn, hc, hl, hgc, hgl, hn0, hn1, rx, rn, rc, rl, ⟨d1, d2, d3, d4, d5, d6⟩, ⟨d7, d8, d9, d10, d11, d12⟩⟩ := hC.1.opn g
  repeat' first
    | with_reducible assumption
    | with_reducible refine And.intro ?_ ?_
    | with_reducible exact vpi6 (by assumption) (by assumption)
    | with_reducible exact vpi8 (by assumption) (by assumption)
    | with_reducible exact hQ _ _ (hC.num _)
    | with_reducible refine sX1_needNumber ?_ ?_
    | with_reducible refine sX1_lowOf ?_
    | with_reducible refine go_R (by first | assumption | exact hgc _ _ (by assumption) | exact hgl _ _ (by assumption) | exact isR.ext (by assumption) (by assumption) | exact isR.mono (by assumption) (by first | assumption | exact isR.ext (by assumption) (by assumption))) ?_
    | with_reducible exact hQ _ _ (by first | assumption | exact CC.ext (by assumption) (by assumption))
    | simp only [eX1_setSmall_0, eX1_setSmall_1, eX1_setSmall_4, eX1_setSmall_4N, eX1_setSmall_5, eX1_setSmall_8, eX1_setSmall_9, eX1_setSmall_10, eX1_setSmall_13, eX1_setSmall_14, eX1_setSmall_14N, eX1_setSmall_15, eX1_setSmall_18, eX1_setSmall_19, eX1_setSmall_20, eX1_setSmall_21, eX1_setSmall_22, eX1_setSmall_23, rx, rn, rc, rl, hx, hn, hc, hl, d1, d2, d3, d4, d5, d6, d7, d8, d9, d10, d11, d12, rd_n, upw_n, ite_le, n45, n54, true_or, or_true, false_or, or_false, false_and, and_false, kx_l, kx_r, go_s, gl_s, gi_s, gb_s2, gb_s3, gq_s, wt_nil, wt_int, wt_long, wt_ref, wt_null, nl_int, nl_long, nl_ref, nl_null, nl_none, rf_n, rf_s, rf_st, tl_s, tl_n, g0, gS, ex1, nb_b, nb_0, nb_1, nf_i, nf_l, nf_ra, nf_ro, nf_na, nf_no, nf_b0, nf_z0, t45_4, t45_5, true_and, and_true, List.set_cons_zero, List.set_cons_succ, List.length_cons, List.length_nil, rd_s, upw_s, ne_eq, not_false_eq_true, Nat.zero_add, Nat.add_zero]
    | split
    | with_reducible intro _
    | omega
set_option maxHeartbeats 4000000 in
theorem sX1_setEnd {a0 : Int32} {a1 : Int32} (hC : CC g w0 x nA cA lA kn w) (hXo : Q (.inr "java/lang/IndexOutOfBoundsException") w) (hXa : Q (.inr "java/lang/IllegalArgumentException") w) (hQ : ∀ (v : Int32) (w' : Hw), CC g w0 x nA cA lA kn w' → Q (.inl (some (.int v))) w') : WP (MX1_setEnd g) Q (0, [some (.ref x), some (.int a0), some (.int a1)], [], w, 0, 0) := by
  obtain ⟨n, rf, md, f, gc, gl, hx, hn, hc, hl, hgc, hgl, hn0, hn1, rx, rn, rc, rl, ⟨d1, d2, d3, d4, d5, d6⟩, ⟨d7, d8, d9, d10, d11, d12⟩⟩ := hC.1.opn g
  repeat' first
    | with_reducible assumption
    | with_reducible refine And.intro ?_ ?_
    | with_reducible exact vpi6 (by assumption) (by assumption)
    | with_reducible exact vpi8 (by assumption) (by assumption)
    | with_reducible exact hQ _ _ (hC.num _)
    | with_reducible refine sX1_needNumber ?_ ?_
    | with_reducible refine sX1_needChoice ?_ ?_
    | with_reducible refine sX1_farNumber ?_
    | with_reducible refine sX1_putNumber (by first | assumption | exact CC.ext (by assumption) (by assumption)) ?_ (by assumption) (by assumption)
    | with_reducible refine go_R (by first | assumption | exact hgc _ _ (by assumption) | exact hgl _ _ (by assumption) | exact isR.ext (by assumption) (by assumption) | exact isR.mono (by assumption) (by first | assumption | exact isR.ext (by assumption) (by assumption))) ?_
    | with_reducible exact hQ _ _ (by first | assumption | exact CC.ext (by assumption) (by assumption))
    | simp only [eX1_setEnd_0, eX1_setEnd_1, eX1_setEnd_4, eX1_setEnd_5, eX1_setEnd_6, eX1_setEnd_9, eX1_setEnd_9N, eX1_setEnd_10, eX1_setEnd_11, eX1_setEnd_12, eX1_setEnd_15, eX1_setEnd_18, rx, rn, rc, rl, hx, hn, hc, hl, d1, d2, d3, d4, d5, d6, d7, d8, d9, d10, d11, d12, rd_n, upw_n, ite_le, n45, n54, true_or, or_true, false_or, or_false, false_and, and_false, kx_l, kx_r, go_s, gl_s, gi_s, gb_s2, gb_s3, gq_s, wt_nil, wt_int, wt_long, wt_ref, wt_null, nl_int, nl_long, nl_ref, nl_null, nl_none, rf_n, rf_s, rf_st, tl_s, tl_n, g0, gS, ex1, nb_b, nb_0, nb_1, nf_i, nf_l, nf_ra, nf_ro, nf_na, nf_no, nf_b0, nf_z0, t45_4, t45_5, true_and, and_true, List.set_cons_zero, List.set_cons_succ, List.length_cons, List.length_nil, rd_s, upw_s, ne_eq, not_false_eq_true, Nat.zero_add, Nat.add_zero]
    | split
    | with_reducible intro _
    | omega
set_option maxHeartbeats 4000000 in
theorem sX1_move {a0 : Int32} {a1 : Int32} (hC : CC g w0 x nA cA lA kn w) (hXo : Q (.inr "java/lang/IndexOutOfBoundsException") w) (hQ : ∀ (v : Int32) (w' : Hw), CC g w0 x nA cA lA kn w' → Q (.inl (some (.int v))) w') : WP (MX1_move g) Q (0, [some (.ref x), some (.int a0), some (.int a1)], [], w, 0, 0) := by
  obtain ⟨n, rf, md, f, gc, gl, hx, hn, hc, hl, hgc, hgl, hn0, hn1, rx, rn, rc, rl, ⟨d1, d2, d3, d4, d5, d6⟩, ⟨d7, d8, d9, d10, d11, d12⟩⟩ := hC.1.opn g
  repeat' first
    | with_reducible assumption
    | with_reducible refine And.intro ?_ ?_
    | with_reducible exact vpi6 (by assumption) (by assumption)
    | with_reducible exact vpi8 (by assumption) (by assumption)
    | with_reducible exact hQ _ _ (hC.num _)
    | with_reducible refine sX1_needNumber ?_ ?_
    | with_reducible refine sX1_putNumber (by first | assumption | exact CC.ext (by assumption) (by assumption)) ?_ (by assumption) (by assumption)
    | with_reducible refine go_R (by first | assumption | exact hgc _ _ (by assumption) | exact hgl _ _ (by assumption) | exact isR.ext (by assumption) (by assumption) | exact isR.mono (by assumption) (by first | assumption | exact isR.ext (by assumption) (by assumption))) ?_
    | with_reducible exact hQ _ _ (by first | assumption | exact CC.ext (by assumption) (by assumption))
    | simp only [eX1_move_0, eX1_move_1, eX1_move_4, eX1_move_4N, eX1_move_5, eX1_move_6, eX1_move_6N, eX1_move_7, eX1_move_10, eX1_move_11, eX1_move_12, eX1_move_13, eX1_move_14, eX1_move_15, eX1_move_18, rx, rn, rc, rl, hx, hn, hc, hl, d1, d2, d3, d4, d5, d6, d7, d8, d9, d10, d11, d12, rd_n, upw_n, ite_le, n45, n54, true_or, or_true, false_or, or_false, false_and, and_false, kx_l, kx_r, go_s, gl_s, gi_s, gb_s2, gb_s3, gq_s, wt_nil, wt_int, wt_long, wt_ref, wt_null, nl_int, nl_long, nl_ref, nl_null, nl_none, rf_n, rf_s, rf_st, tl_s, tl_n, g0, gS, ex1, nb_b, nb_0, nb_1, nf_i, nf_l, nf_ra, nf_ro, nf_na, nf_no, nf_b0, nf_z0, t45_4, t45_5, true_and, and_true, List.set_cons_zero, List.set_cons_succ, List.length_cons, List.length_nil, rd_s, upw_s, ne_eq, not_false_eq_true, Nat.zero_add, Nat.add_zero]
    | split
    | with_reducible intro _
    | omega
set_option maxHeartbeats 4000000 in
theorem sX1_copy {a0 : Int32} {a1 : Int32} (hC : CC g w0 x nA cA lA kn w) (hXo : Q (.inr "java/lang/IndexOutOfBoundsException") w) (hQ : ∀ (v : Int32) (w' : Hw), CC g w0 x nA cA lA kn w' → Q (.inl (some (.int v))) w') : WP (MX1_copy g) Q (0, [some (.ref x), some (.int a0), some (.int a1)], [], w, 0, 0) := by
  obtain ⟨n, rf, md, f, gc, gl, hx, hn, hc, hl, hgc, hgl, hn0, hn1, rx, rn, rc, rl, ⟨d1, d2, d3, d4, d5, d6⟩, ⟨d7, d8, d9, d10, d11, d12⟩⟩ := hC.1.opn g
  repeat' first
    | with_reducible assumption
    | with_reducible refine And.intro ?_ ?_
    | with_reducible exact vpi6 (by assumption) (by assumption)
    | with_reducible exact vpi8 (by assumption) (by assumption)
    | with_reducible exact hQ _ _ (hC.num _)
    | with_reducible refine sX1_needNumber ?_ ?_
    | with_reducible refine sX1_putNumber (by first | assumption | exact CC.ext (by assumption) (by assumption)) ?_ (by assumption) (by assumption)
    | with_reducible refine go_R (by first | assumption | exact hgc _ _ (by assumption) | exact hgl _ _ (by assumption) | exact isR.ext (by assumption) (by assumption) | exact isR.mono (by assumption) (by first | assumption | exact isR.ext (by assumption) (by assumption))) ?_
    | with_reducible exact hQ _ _ (by first | assumption | exact CC.ext (by assumption) (by assumption))
    | simp only [eX1_copy_0, eX1_copy_1, eX1_copy_4, eX1_copy_5, eX1_copy_8, eX1_copy_8N, eX1_copy_9, eX1_copy_10, eX1_copy_10N, eX1_copy_11, eX1_copy_14, eX1_copy_15, eX1_copy_16, eX1_copy_19, rx, rn, rc, rl, hx, hn, hc, hl, d1, d2, d3, d4, d5, d6, d7, d8, d9, d10, d11, d12, rd_n, upw_n, ite_le, n45, n54, true_or, or_true, false_or, or_false, false_and, and_false, kx_l, kx_r, go_s, gl_s, gi_s, gb_s2, gb_s3, gq_s, wt_nil, wt_int, wt_long, wt_ref, wt_null, nl_int, nl_long, nl_ref, nl_null, nl_none, rf_n, rf_s, rf_st, tl_s, tl_n, g0, gS, ex1, nb_b, nb_0, nb_1, nf_i, nf_l, nf_ra, nf_ro, nf_na, nf_no, nf_b0, nf_z0, t45_4, t45_5, true_and, and_true, List.set_cons_zero, List.set_cons_succ, List.length_cons, List.length_nil, rd_s, upw_s, ne_eq, not_false_eq_true, Nat.zero_add, Nat.add_zero]
    | split
    | with_reducible intro _
    | omega
set_option maxHeartbeats 4000000 in
theorem sX1_ofNumber {a0 : Int32} {a1 : Int32} (hC : CC g w0 x nA cA lA kn w) (hXo : Q (.inr "java/lang/IndexOutOfBoundsException") w) (hQ : ∀ v : Int32, Q (.inl (some (.int v))) w) : WP (MX1_ofNumber g) Q (0, [some (.ref x), some (.int a0), some (.int a1)], [], w, 0, 0) := by
  obtain ⟨n, rf, md, f, gc, gl, hx, hn, hc, hl, hgc, hgl, hn0, hn1, rx, rn, rc, rl, ⟨d1, d2, d3, d4, d5, d6⟩, ⟨d7, d8, d9, d10, d11, d12⟩⟩ := hC.1.opn g
  repeat' first
    | with_reducible assumption
    | with_reducible refine And.intro ?_ ?_
    | with_reducible exact vpi6 (by assumption) (by assumption)
    | with_reducible exact vpi8 (by assumption) (by assumption)
    | with_reducible exact hQ _ _ (hC.num _)
    | with_reducible refine sX1_needNumber ?_ ?_
    | with_reducible refine sX1_halfOf ?_
    | with_reducible refine go_R (by first | assumption | exact hgc _ _ (by assumption) | exact hgl _ _ (by assumption) | exact isR.ext (by assumption) (by assumption) | exact isR.mono (by assumption) (by first | assumption | exact isR.ext (by assumption) (by assumption))) ?_
    | with_reducible exact hQ _
    | simp only [eX1_ofNumber_0, eX1_ofNumber_1, eX1_ofNumber_4, eX1_ofNumber_4N, eX1_ofNumber_5, eX1_ofNumber_8, eX1_ofNumber_9, eX1_ofNumber_10, eX1_ofNumber_11, eX1_ofNumber_14, rx, rn, rc, rl, hx, hn, hc, hl, d1, d2, d3, d4, d5, d6, d7, d8, d9, d10, d11, d12, rd_n, upw_n, ite_le, n45, n54, true_or, or_true, false_or, or_false, false_and, and_false, kx_l, kx_r, go_s, gl_s, gi_s, gb_s2, gb_s3, gq_s, wt_nil, wt_int, wt_long, wt_ref, wt_null, nl_int, nl_long, nl_ref, nl_null, nl_none, rf_n, rf_s, rf_st, tl_s, tl_n, g0, gS, ex1, nb_b, nb_0, nb_1, nf_i, nf_l, nf_ra, nf_ro, nf_na, nf_no, nf_b0, nf_z0, t45_4, t45_5, true_and, and_true, List.set_cons_zero, List.set_cons_succ, List.length_cons, List.length_nil, rd_s, upw_s, ne_eq, not_false_eq_true, Nat.zero_add, Nat.add_zero]
    | split
    | with_reducible intro _
    | omega
set_option maxHeartbeats 4000000 in
theorem sX1_order {a0 : Int32} {a1 : Int32} (hC : CC g w0 x nA cA lA kn w) (hXo : Q (.inr "java/lang/IndexOutOfBoundsException") w) (hQ : ∀ v : Int32, Q (.inl (some (.int v))) w) : WP (MX1_order g) Q (0, [some (.ref x), some (.int a0), some (.int a1)], [], w, 0, 0) := by
  obtain ⟨n, rf, md, f, gc, gl, hx, hn, hc, hl, hgc, hgl, hn0, hn1, rx, rn, rc, rl, ⟨d1, d2, d3, d4, d5, d6⟩, ⟨d7, d8, d9, d10, d11, d12⟩⟩ := hC.1.opn g
  repeat' first
    | with_reducible assumption
    | with_reducible refine And.intro ?_ ?_
    | with_reducible exact vpi6 (by assumption) (by assumption)
    | with_reducible exact vpi8 (by assumption) (by assumption)
    | with_reducible exact hQ _ _ (hC.num _)
    | with_reducible refine sX1_needNumber ?_ ?_
    | with_reducible refine go_R (by first | assumption | exact hgc _ _ (by assumption) | exact hgl _ _ (by assumption) | exact isR.ext (by assumption) (by assumption) | exact isR.mono (by assumption) (by first | assumption | exact isR.ext (by assumption) (by assumption))) ?_
    | with_reducible exact hQ _
    | simp only [eX1_order_0, eX1_order_1, eX1_order_4, eX1_order_5, eX1_order_8, eX1_order_8N, eX1_order_9, eX1_order_12, eX1_order_13, eX1_order_14, eX1_order_14N, eX1_order_15, eX1_order_18, eX1_order_19, eX1_order_20, eX1_order_21, eX1_order_24, eX1_order_25, eX1_order_26, eX1_order_26N, eX1_order_27, eX1_order_30, eX1_order_31, eX1_order_32, eX1_order_32N, eX1_order_33, eX1_order_36, eX1_order_37, eX1_order_38, eX1_order_39, eX1_order_42, eX1_order_43, eX1_order_46, eX1_order_47, rx, rn, rc, rl, hx, hn, hc, hl, d1, d2, d3, d4, d5, d6, d7, d8, d9, d10, d11, d12, rd_n, upw_n, ite_le, n45, n54, true_or, or_true, false_or, or_false, false_and, and_false, kx_l, kx_r, go_s, gl_s, gi_s, gb_s2, gb_s3, gq_s, wt_nil, wt_int, wt_long, wt_ref, wt_null, nl_int, nl_long, nl_ref, nl_null, nl_none, rf_n, rf_s, rf_st, tl_s, tl_n, g0, gS, ex1, nb_b, nb_0, nb_1, nf_i, nf_l, nf_ra, nf_ro, nf_na, nf_no, nf_b0, nf_z0, t45_4, t45_5, true_and, and_true, List.set_cons_zero, List.set_cons_succ, List.length_cons, List.length_nil, rd_s, upw_s, ne_eq, not_false_eq_true, Nat.zero_add, Nat.add_zero]
    | split
    | with_reducible intro _
    | omega
end
