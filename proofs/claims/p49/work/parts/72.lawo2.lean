section
variable {g : RO} {Q : Ot → Hw → Prop} {w : Hw} {x nA cA lA y nM o : Nat} {kn km : Int32}
set_option maxHeartbeats 4000000 in
theorem oL_threeSmall {a1 : Int32} {a2 : Int32} {a3 : Int32} {a4 : Int32} (hR : RG g) (hL : LWO g w x nA cA lA y nM o kn km) (hQ : ∀ (v : Int32) (w' : Hw), LWO g w' x nA cA lA y nM o kn km → Q (.inl (some (.int v))) w') : WP (ML_threeSmall g) Q (0, [some (.ref x), some (.int a1), some (.int a2), some (.int a3), some (.int a4), some (.ref o), none], [], w, 0, 0) := by
  repeat' first
    | with_reducible assumption
    | with_reducible refine And.intro ?_ ?_
    | with_reducible refine go_X hL.l (fun _ => trivial)
    | with_reducible refine oX1_threeSmall hL.co ?_ (fun _ _ _ => ?_)
    | refine hgo_h (HH := [(0, 15, 18, 19)]) (NN := [(19, "java/lang/IndexOutOfBoundsException")]) (h := 18) (E := "java/lang/IndexOutOfBoundsException") rfl rfl (by decide +kernel) (by decide) (fun _ => ?_)
    | with_reducible refine go_OwO (by first | assumption | exact hL.of (by assumption) | exact hL.ext (by assumption) | exact (by assumption : ∀ a' b' : Value, LWO g (upw _ o (.inr (6, [a', b']))) x nA cA lA y nM o kn km) _ _) (fun _ _ _ => ?_)
    | with_reducible exact hQ _ _ (by first | assumption | exact hL.of (by assumption) | exact hL.ext (by assumption) | exact (by assumption : ∀ a' b' : Value, LWO g (upw _ o (.inr (6, [a', b']))) x nA cA lA y nM o kn km) _ _)
    | simp only [eL_threeSmall_0, eL_threeSmall_0N, eL_threeSmall_2, eL_threeSmall_2N, eL_threeSmall_3, eL_threeSmall_4, eL_threeSmall_5, eL_threeSmall_6, eL_threeSmall_8, eL_threeSmall_11, eL_threeSmall_12, eL_threeSmall_15, eL_threeSmall_18, eL_threeSmall_18N, eL_threeSmall_20, eL_threeSmall_21, eL_threeSmall_22, eL_threeSmall_23, ite_le, n45, n54, true_or, or_true, false_or, or_false, false_and, and_false, kx_l, kx_r, go_s, gl_s, gi_s, gb_s2, gb_s3, gq_s, wt_nil, wt_int, wt_long, wt_ref, wt_null, nl_int, nl_long, nl_ref, nl_null, nl_none, rf_n, rf_s, rf_st, tl_s, tl_n, g0, gS, ex1, nb_b, nb_0, nb_1, nf_i, nf_l, nf_ra, nf_ro, nf_na, nf_no, nf_b0, nf_z0, t45_4, t45_5, true_and, and_true, List.set_cons_zero, List.set_cons_succ, List.length_cons, List.length_nil, rd_s, upw_s, ne_eq, not_false_eq_true, Nat.zero_add, Nat.add_zero, if_true, if_false, eq_self, tyX2]
    | split
    | with_reducible intro _
    | omega
set_option maxHeartbeats 4000000 in
theorem oL_fourSmall {a1 : Int32} {a2 : Int32} {a3 : Int32} {a4 : Int32} {a5 : Int32} (hR : RG g) (hL : LWO g w x nA cA lA y nM o kn km) (hQ : ∀ (v : Int32) (w' : Hw), LWO g w' x nA cA lA y nM o kn km → Q (.inl (some (.int v))) w') : WP (ML_fourSmall g) Q (0, [some (.ref x), some (.int a1), some (.int a2), some (.int a3), some (.int a4), some (.int a5), some (.ref o), none], [], w, 0, 0) := by
  repeat' first
    | with_reducible assumption
    | with_reducible refine And.intro ?_ ?_
    | with_reducible refine go_X hL.l (fun _ => trivial)
    | with_reducible refine oX1_fourSmall hL.co ?_ (fun _ _ _ => ?_)
    | refine hgo_h (HH := [(0, 17, 20, 19)]) (NN := [(19, "java/lang/IndexOutOfBoundsException")]) (h := 20) (E := "java/lang/IndexOutOfBoundsException") rfl rfl (by decide +kernel) (by decide) (fun _ => ?_)
    | with_reducible refine go_OwO (by first | assumption | exact hL.of (by assumption) | exact hL.ext (by assumption) | exact (by assumption : ∀ a' b' : Value, LWO g (upw _ o (.inr (6, [a', b']))) x nA cA lA y nM o kn km) _ _) (fun _ _ _ => ?_)
    | with_reducible exact hQ _ _ (by first | assumption | exact hL.of (by assumption) | exact hL.ext (by assumption) | exact (by assumption : ∀ a' b' : Value, LWO g (upw _ o (.inr (6, [a', b']))) x nA cA lA y nM o kn km) _ _)
    | simp only [eL_fourSmall_0, eL_fourSmall_0N, eL_fourSmall_2, eL_fourSmall_2N, eL_fourSmall_3, eL_fourSmall_4, eL_fourSmall_5, eL_fourSmall_6, eL_fourSmall_8, eL_fourSmall_10, eL_fourSmall_13, eL_fourSmall_14, eL_fourSmall_17, eL_fourSmall_20, eL_fourSmall_20N, eL_fourSmall_22, eL_fourSmall_23, eL_fourSmall_24, eL_fourSmall_25, ite_le, n45, n54, true_or, or_true, false_or, or_false, false_and, and_false, kx_l, kx_r, go_s, gl_s, gi_s, gb_s2, gb_s3, gq_s, wt_nil, wt_int, wt_long, wt_ref, wt_null, nl_int, nl_long, nl_ref, nl_null, nl_none, rf_n, rf_s, rf_st, tl_s, tl_n, g0, gS, ex1, nb_b, nb_0, nb_1, nf_i, nf_l, nf_ra, nf_ro, nf_na, nf_no, nf_b0, nf_z0, t45_4, t45_5, true_and, and_true, List.set_cons_zero, List.set_cons_succ, List.length_cons, List.length_nil, rd_s, upw_s, ne_eq, not_false_eq_true, Nat.zero_add, Nat.add_zero, if_true, if_false, eq_self, tyX2]
    | split
    | with_reducible intro _
    | omega
set_option maxHeartbeats 4000000 in
theorem oL_again {a1 : Int32} {a2 : Int32} (hR : RG g) (hL : LWO g w x nA cA lA y nM o kn km) (hQ : ∀ (v : Int32) (w' : Hw), LWO g w' x nA cA lA y nM o kn km → Q (.inl (some (.int v))) w') : WP (ML_again g) Q (0, [some (.ref x), some (.int a1), some (.int a2), some (.ref o), none], [], w, 0, 0) := by
  repeat' first
    | with_reducible assumption
    | with_reducible refine And.intro ?_ ?_
    | with_reducible refine go_X hL.l (fun _ => trivial)
    | with_reducible refine oX1_again hL.co ?_ ?_ (fun _ _ _ => ?_)
    | refine hgo_h (HH := [(0, 11, 14, 19), (0, 11, 18, 74)]) (NN := [(19, "java/lang/IndexOutOfBoundsException"), (74, "java/lang/IllegalStateException")]) (h := 14) (E := "java/lang/IndexOutOfBoundsException") rfl rfl (by decide +kernel) (by decide) (fun _ => ?_)
    | refine hgo_h (HH := [(0, 11, 14, 19), (0, 11, 18, 74)]) (NN := [(19, "java/lang/IndexOutOfBoundsException"), (74, "java/lang/IllegalStateException")]) (h := 18) (E := "java/lang/IllegalStateException") rfl rfl (by decide +kernel) (by decide) (fun _ => ?_)
    | with_reducible refine go_OwO (by first | assumption | exact hL.of (by assumption) | exact hL.ext (by assumption) | exact (by assumption : ∀ a' b' : Value, LWO g (upw _ o (.inr (6, [a', b']))) x nA cA lA y nM o kn km) _ _) (fun _ _ _ => ?_)
    | with_reducible exact hQ _ _ (by first | assumption | exact hL.of (by assumption) | exact hL.ext (by assumption) | exact (by assumption : ∀ a' b' : Value, LWO g (upw _ o (.inr (6, [a', b']))) x nA cA lA y nM o kn km) _ _)
    | simp only [eL_again_0, eL_again_0N, eL_again_1, eL_again_1N, eL_again_2, eL_again_3, eL_again_4, eL_again_7, eL_again_8, eL_again_11, eL_again_14, eL_again_14N, eL_again_16, eL_again_17, eL_again_18, eL_again_18N, eL_again_20, eL_again_21, eL_again_22, eL_again_23, ite_le, n45, n54, true_or, or_true, false_or, or_false, false_and, and_false, kx_l, kx_r, go_s, gl_s, gi_s, gb_s2, gb_s3, gq_s, wt_nil, wt_int, wt_long, wt_ref, wt_null, nl_int, nl_long, nl_ref, nl_null, nl_none, rf_n, rf_s, rf_st, tl_s, tl_n, g0, gS, ex1, nb_b, nb_0, nb_1, nf_i, nf_l, nf_ra, nf_ro, nf_na, nf_no, nf_b0, nf_z0, t45_4, t45_5, true_and, and_true, List.set_cons_zero, List.set_cons_succ, List.length_cons, List.length_nil, rd_s, upw_s, ne_eq, not_false_eq_true, Nat.zero_add, Nat.add_zero, if_true, if_false, eq_self, tyX2]
    | split
    | with_reducible intro _
    | omega
set_option maxHeartbeats 4000000 in
theorem oL_same {a1 : Int32} {a2 : Int32} (hR : RG g) (hL : LWO g w x nA cA lA y nM o kn km) (hQ : ∀ (v : Int32) (w' : Hw), LWO g w' x nA cA lA y nM o kn km → Q (.inl (some (.int v))) w') : WP (ML_same g) Q (0, [some (.ref x), some (.int a1), some (.int a2), some (.ref o), none], [], w, 0, 0) := by
  repeat' first
    | with_reducible assumption
    | with_reducible refine And.intro ?_ ?_
    | with_reducible refine go_X hL.l (fun _ => trivial)
    | with_reducible refine oX1_same hL.co ?_ ?_ (fun _ _ _ => ?_)
    | refine hgo_h (HH := [(0, 11, 14, 19), (0, 11, 18, 74)]) (NN := [(19, "java/lang/IndexOutOfBoundsException"), (74, "java/lang/IllegalStateException")]) (h := 14) (E := "java/lang/IndexOutOfBoundsException") rfl rfl (by decide +kernel) (by decide) (fun _ => ?_)
    | refine hgo_h (HH := [(0, 11, 14, 19), (0, 11, 18, 74)]) (NN := [(19, "java/lang/IndexOutOfBoundsException"), (74, "java/lang/IllegalStateException")]) (h := 18) (E := "java/lang/IllegalStateException") rfl rfl (by decide +kernel) (by decide) (fun _ => ?_)
    | with_reducible refine go_OwO (by first | assumption | exact hL.of (by assumption) | exact hL.ext (by assumption) | exact (by assumption : ∀ a' b' : Value, LWO g (upw _ o (.inr (6, [a', b']))) x nA cA lA y nM o kn km) _ _) (fun _ _ _ => ?_)
    | with_reducible exact hQ _ _ (by first | assumption | exact hL.of (by assumption) | exact hL.ext (by assumption) | exact (by assumption : ∀ a' b' : Value, LWO g (upw _ o (.inr (6, [a', b']))) x nA cA lA y nM o kn km) _ _)
    | simp only [eL_same_0, eL_same_0N, eL_same_1, eL_same_1N, eL_same_2, eL_same_3, eL_same_4, eL_same_7, eL_same_8, eL_same_11, eL_same_14, eL_same_14N, eL_same_16, eL_same_17, eL_same_18, eL_same_18N, eL_same_20, eL_same_21, eL_same_22, eL_same_23, ite_le, n45, n54, true_or, or_true, false_or, or_false, false_and, and_false, kx_l, kx_r, go_s, gl_s, gi_s, gb_s2, gb_s3, gq_s, wt_nil, wt_int, wt_long, wt_ref, wt_null, nl_int, nl_long, nl_ref, nl_null, nl_none, rf_n, rf_s, rf_st, tl_s, tl_n, g0, gS, ex1, nb_b, nb_0, nb_1, nf_i, nf_l, nf_ra, nf_ro, nf_na, nf_no, nf_b0, nf_z0, t45_4, t45_5, true_and, and_true, List.set_cons_zero, List.set_cons_succ, List.length_cons, List.length_nil, rd_s, upw_s, ne_eq, not_false_eq_true, Nat.zero_add, Nat.add_zero, if_true, if_false, eq_self, tyX2]
    | split
    | with_reducible intro _
    | omega
set_option maxHeartbeats 4000000 in
theorem oL_outer {a1 : Int32} {a2 : Int32} (hR : RG g) (hL : LWO g w x nA cA lA y nM o kn km) (hQ : ∀ (v : Int32) (w' : Hw), LWO g w' x nA cA lA y nM o kn km → Q (.inl (some (.int v))) w') : WP (ML_outer g) Q (0, [some (.ref x), some (.int a1), some (.int a2), some (.ref o), none], [], w, 0, 0) := by
  repeat' first
    | with_reducible assumption
    | with_reducible refine And.intro ?_ ?_
    | with_reducible refine go_X hL.l (fun _ => trivial)
    | with_reducible refine oX1_outer hL.co ?_ ?_ (fun _ _ _ => ?_)
    | refine hgo_h (HH := [(0, 11, 14, 19), (0, 11, 18, 74)]) (NN := [(19, "java/lang/IndexOutOfBoundsException"), (74, "java/lang/IllegalStateException")]) (h := 14) (E := "java/lang/IndexOutOfBoundsException") rfl rfl (by decide +kernel) (by decide) (fun _ => ?_)
    | refine hgo_h (HH := [(0, 11, 14, 19), (0, 11, 18, 74)]) (NN := [(19, "java/lang/IndexOutOfBoundsException"), (74, "java/lang/IllegalStateException")]) (h := 18) (E := "java/lang/IllegalStateException") rfl rfl (by decide +kernel) (by decide) (fun _ => ?_)
    | with_reducible refine go_OwO (by first | assumption | exact hL.of (by assumption) | exact hL.ext (by assumption) | exact (by assumption : ∀ a' b' : Value, LWO g (upw _ o (.inr (6, [a', b']))) x nA cA lA y nM o kn km) _ _) (fun _ _ _ => ?_)
    | with_reducible exact hQ _ _ (by first | assumption | exact hL.of (by assumption) | exact hL.ext (by assumption) | exact (by assumption : ∀ a' b' : Value, LWO g (upw _ o (.inr (6, [a', b']))) x nA cA lA y nM o kn km) _ _)
    | simp only [eL_outer_0, eL_outer_0N, eL_outer_1, eL_outer_1N, eL_outer_2, eL_outer_3, eL_outer_4, eL_outer_7, eL_outer_8, eL_outer_11, eL_outer_14, eL_outer_14N, eL_outer_16, eL_outer_17, eL_outer_18, eL_outer_18N, eL_outer_20, eL_outer_21, eL_outer_22, eL_outer_23, ite_le, n45, n54, true_or, or_true, false_or, or_false, false_and, and_false, kx_l, kx_r, go_s, gl_s, gi_s, gb_s2, gb_s3, gq_s, wt_nil, wt_int, wt_long, wt_ref, wt_null, nl_int, nl_long, nl_ref, nl_null, nl_none, rf_n, rf_s, rf_st, tl_s, tl_n, g0, gS, ex1, nb_b, nb_0, nb_1, nf_i, nf_l, nf_ra, nf_ro, nf_na, nf_no, nf_b0, nf_z0, t45_4, t45_5, true_and, and_true, List.set_cons_zero, List.set_cons_succ, List.length_cons, List.length_nil, rd_s, upw_s, ne_eq, not_false_eq_true, Nat.zero_add, Nat.add_zero, if_true, if_false, eq_self, tyX2]
    | split
    | with_reducible intro _
    | omega
set_option maxHeartbeats 4000000 in
theorem oL_inner {a1 : Int32} {a2 : Int32} (hR : RG g) (hL : LWO g w x nA cA lA y nM o kn km) (hQ : ∀ (v : Int32) (w' : Hw), LWO g w' x nA cA lA y nM o kn km → Q (.inl (some (.int v))) w') : WP (ML_inner g) Q (0, [some (.ref x), some (.int a1), some (.int a2), some (.ref o), none], [], w, 0, 0) := by
  repeat' first
    | with_reducible assumption
    | with_reducible refine And.intro ?_ ?_
    | with_reducible refine go_X hL.l (fun _ => trivial)
    | with_reducible refine oX1_inner hL.co ?_ ?_ (fun _ _ _ => ?_)
    | refine hgo_h (HH := [(0, 11, 14, 19), (0, 11, 18, 74)]) (NN := [(19, "java/lang/IndexOutOfBoundsException"), (74, "java/lang/IllegalStateException")]) (h := 14) (E := "java/lang/IndexOutOfBoundsException") rfl rfl (by decide +kernel) (by decide) (fun _ => ?_)
    | refine hgo_h (HH := [(0, 11, 14, 19), (0, 11, 18, 74)]) (NN := [(19, "java/lang/IndexOutOfBoundsException"), (74, "java/lang/IllegalStateException")]) (h := 18) (E := "java/lang/IllegalStateException") rfl rfl (by decide +kernel) (by decide) (fun _ => ?_)
    | with_reducible refine go_OwO (by first | assumption | exact hL.of (by assumption) | exact hL.ext (by assumption) | exact (by assumption : ∀ a' b' : Value, LWO g (upw _ o (.inr (6, [a', b']))) x nA cA lA y nM o kn km) _ _) (fun _ _ _ => ?_)
    | with_reducible exact hQ _ _ (by first | assumption | exact hL.of (by assumption) | exact hL.ext (by assumption) | exact (by assumption : ∀ a' b' : Value, LWO g (upw _ o (.inr (6, [a', b']))) x nA cA lA y nM o kn km) _ _)
    | simp only [eL_inner_0, eL_inner_0N, eL_inner_1, eL_inner_1N, eL_inner_2, eL_inner_3, eL_inner_4, eL_inner_7, eL_inner_8, eL_inner_11, eL_inner_14, eL_inner_14N, eL_inner_16, eL_inner_17, eL_inner_18, eL_inner_18N, eL_inner_20, eL_inner_21, eL_inner_22, eL_inner_23, ite_le, n45, n54, true_or, or_true, false_or, or_false, false_and, and_false, kx_l, kx_r, go_s, gl_s, gi_s, gb_s2, gb_s3, gq_s, wt_nil, wt_int, wt_long, wt_ref, wt_null, nl_int, nl_long, nl_ref, nl_null, nl_none, rf_n, rf_s, rf_st, tl_s, tl_n, g0, gS, ex1, nb_b, nb_0, nb_1, nf_i, nf_l, nf_ra, nf_ro, nf_na, nf_no, nf_b0, nf_z0, t45_4, t45_5, true_and, and_true, List.set_cons_zero, List.set_cons_succ, List.length_cons, List.length_nil, rd_s, upw_s, ne_eq, not_false_eq_true, Nat.zero_add, Nat.add_zero, if_true, if_false, eq_self, tyX2]
    | split
    | with_reducible intro _
    | omega
set_option maxHeartbeats 4000000 in
theorem oL_span {a1 : Int32} {a2 : Int32} {a3 : Int32} (hR : RG g) (hL : LWO g w x nA cA lA y nM o kn km) (hQ : ∀ (v : Int32) (w' : Hw), LWO g w' x nA cA lA y nM o kn km → Q (.inl (some (.int v))) w') : WP (ML_span g) Q (0, [some (.ref x), some (.int a1), some (.int a2), some (.int a3), some (.ref o), none], [], w, 0, 0) := by
  repeat' first
    | with_reducible assumption
    | with_reducible refine And.intro ?_ ?_
    | with_reducible refine go_X hL.l (fun _ => trivial)
    | with_reducible refine oX1_span hL.co ?_ ?_ (fun _ _ _ => ?_)
    | refine hgo_h (HH := [(0, 13, 16, 19), (0, 13, 20, 74)]) (NN := [(19, "java/lang/IndexOutOfBoundsException"), (74, "java/lang/IllegalStateException")]) (h := 16) (E := "java/lang/IndexOutOfBoundsException") rfl rfl (by decide +kernel) (by decide) (fun _ => ?_)
    | refine hgo_h (HH := [(0, 13, 16, 19), (0, 13, 20, 74)]) (NN := [(19, "java/lang/IndexOutOfBoundsException"), (74, "java/lang/IllegalStateException")]) (h := 20) (E := "java/lang/IllegalStateException") rfl rfl (by decide +kernel) (by decide) (fun _ => ?_)
    | with_reducible refine go_OwO (by first | assumption | exact hL.of (by assumption) | exact hL.ext (by assumption) | exact (by assumption : ∀ a' b' : Value, LWO g (upw _ o (.inr (6, [a', b']))) x nA cA lA y nM o kn km) _ _) (fun _ _ _ => ?_)
    | with_reducible exact hQ _ _ (by first | assumption | exact hL.of (by assumption) | exact hL.ext (by assumption) | exact (by assumption : ∀ a' b' : Value, LWO g (upw _ o (.inr (6, [a', b']))) x nA cA lA y nM o kn km) _ _)
    | simp only [eL_span_0, eL_span_0N, eL_span_2, eL_span_2N, eL_span_3, eL_span_4, eL_span_5, eL_span_6, eL_span_9, eL_span_10, eL_span_13, eL_span_16, eL_span_16N, eL_span_18, eL_span_19, eL_span_20, eL_span_20N, eL_span_22, eL_span_23, eL_span_24, eL_span_25, ite_le, n45, n54, true_or, or_true, false_or, or_false, false_and, and_false, kx_l, kx_r, go_s, gl_s, gi_s, gb_s2, gb_s3, gq_s, wt_nil, wt_int, wt_long, wt_ref, wt_null, nl_int, nl_long, nl_ref, nl_null, nl_none, rf_n, rf_s, rf_st, tl_s, tl_n, g0, gS, ex1, nb_b, nb_0, nb_1, nf_i, nf_l, nf_ra, nf_ro, nf_na, nf_no, nf_b0, nf_z0, t45_4, t45_5, true_and, and_true, List.set_cons_zero, List.set_cons_succ, List.length_cons, List.length_nil, rd_s, upw_s, ne_eq, not_false_eq_true, Nat.zero_add, Nat.add_zero, if_true, if_false, eq_self, tyX2]
    | split
    | with_reducible intro _
    | omega
set_option maxHeartbeats 4000000 in
theorem oL_shift {a1 : Int32} {a2 : Int32} (hR : RG g) (hL : LWO g w x nA cA lA y nM o kn km) (hQ : ∀ (v : Int32) (w' : Hw), LWO g w' x nA cA lA y nM o kn km → Q (.inl (some (.int v))) w') : WP (ML_shift g) Q (0, [some (.ref x), some (.int a1), some (.int a2), some (.ref o), none], [], w, 0, 0) := by
  repeat' first
    | with_reducible assumption
    | with_reducible refine And.intro ?_ ?_
    | with_reducible refine go_X hL.l (fun _ => trivial)
    | with_reducible refine oX1_shift hL.co ?_ ?_ (fun _ _ _ => ?_)
    | refine hgo_h (HH := [(0, 11, 14, 19), (0, 11, 18, 74)]) (NN := [(19, "java/lang/IndexOutOfBoundsException"), (74, "java/lang/IllegalStateException")]) (h := 14) (E := "java/lang/IndexOutOfBoundsException") rfl rfl (by decide +kernel) (by decide) (fun _ => ?_)
    | refine hgo_h (HH := [(0, 11, 14, 19), (0, 11, 18, 74)]) (NN := [(19, "java/lang/IndexOutOfBoundsException"), (74, "java/lang/IllegalStateException")]) (h := 18) (E := "java/lang/IllegalStateException") rfl rfl (by decide +kernel) (by decide) (fun _ => ?_)
    | with_reducible refine go_OwO (by first | assumption | exact hL.of (by assumption) | exact hL.ext (by assumption) | exact (by assumption : ∀ a' b' : Value, LWO g (upw _ o (.inr (6, [a', b']))) x nA cA lA y nM o kn km) _ _) (fun _ _ _ => ?_)
    | with_reducible exact hQ _ _ (by first | assumption | exact hL.of (by assumption) | exact hL.ext (by assumption) | exact (by assumption : ∀ a' b' : Value, LWO g (upw _ o (.inr (6, [a', b']))) x nA cA lA y nM o kn km) _ _)
    | simp only [eL_shift_0, eL_shift_0N, eL_shift_1, eL_shift_1N, eL_shift_2, eL_shift_3, eL_shift_4, eL_shift_7, eL_shift_8, eL_shift_11, eL_shift_14, eL_shift_14N, eL_shift_16, eL_shift_17, eL_shift_18, eL_shift_18N, eL_shift_20, eL_shift_21, eL_shift_22, eL_shift_23, ite_le, n45, n54, true_or, or_true, false_or, or_false, false_and, and_false, kx_l, kx_r, go_s, gl_s, gi_s, gb_s2, gb_s3, gq_s, wt_nil, wt_int, wt_long, wt_ref, wt_null, nl_int, nl_long, nl_ref, nl_null, nl_none, rf_n, rf_s, rf_st, tl_s, tl_n, g0, gS, ex1, nb_b, nb_0, nb_1, nf_i, nf_l, nf_ra, nf_ro, nf_na, nf_no, nf_b0, nf_z0, t45_4, t45_5, true_and, and_true, List.set_cons_zero, List.set_cons_succ, List.length_cons, List.length_nil, rd_s, upw_s, ne_eq, not_false_eq_true, Nat.zero_add, Nat.add_zero, if_true, if_false, eq_self, tyX2]
    | split
    | with_reducible intro _
    | omega
set_option maxHeartbeats 4000000 in
theorem oL_drop {a1 : Int32} (hR : RG g) (hL : LWO g w x nA cA lA y nM o kn km) (hQ : ∀ (v : Int32) (w' : Hw), LWO g w' x nA cA lA y nM o kn km → Q (.inl (some (.int v))) w') : WP (ML_drop g) Q (0, [some (.ref x), some (.int a1), some (.ref o), none], [], w, 0, 0) := by
  repeat' first
    | with_reducible assumption
    | with_reducible refine And.intro ?_ ?_
    | with_reducible refine go_X hL.l (fun _ => trivial)
    | with_reducible refine oX1_drop hL.co ?_ (fun _ _ _ => ?_)
    | refine hgo_h (HH := [(0, 10, 13, 19)]) (NN := [(19, "java/lang/IndexOutOfBoundsException")]) (h := 13) (E := "java/lang/IndexOutOfBoundsException") rfl rfl (by decide +kernel) (by decide) (fun _ => ?_)
    | with_reducible refine go_OwO (by first | assumption | exact hL.of (by assumption) | exact hL.ext (by assumption) | exact (by assumption : ∀ a' b' : Value, LWO g (upw _ o (.inr (6, [a', b']))) x nA cA lA y nM o kn km) _ _) (fun _ _ _ => ?_)
    | with_reducible exact hQ _ _ (by first | assumption | exact hL.of (by assumption) | exact hL.ext (by assumption) | exact (by assumption : ∀ a' b' : Value, LWO g (upw _ o (.inr (6, [a', b']))) x nA cA lA y nM o kn km) _ _)
    | simp only [eL_drop_0, eL_drop_0N, eL_drop_1, eL_drop_1N, eL_drop_2, eL_drop_3, eL_drop_6, eL_drop_7, eL_drop_10, eL_drop_13, eL_drop_13N, eL_drop_14, eL_drop_15, eL_drop_16, eL_drop_17, ite_le, n45, n54, true_or, or_true, false_or, or_false, false_and, and_false, kx_l, kx_r, go_s, gl_s, gi_s, gb_s2, gb_s3, gq_s, wt_nil, wt_int, wt_long, wt_ref, wt_null, nl_int, nl_long, nl_ref, nl_null, nl_none, rf_n, rf_s, rf_st, tl_s, tl_n, g0, gS, ex1, nb_b, nb_0, nb_1, nf_i, nf_l, nf_ra, nf_ro, nf_na, nf_no, nf_b0, nf_z0, t45_4, t45_5, true_and, and_true, List.set_cons_zero, List.set_cons_succ, List.length_cons, List.length_nil, rd_s, upw_s, ne_eq, not_false_eq_true, Nat.zero_add, Nat.add_zero, if_true, if_false, eq_self, tyX2]
    | split
    | with_reducible intro _
    | omega
set_option maxHeartbeats 4000000 in
theorem oL_isThere {a1 : Int32} (hR : RG g) (hL : LWO g w x nA cA lA y nM o kn km) (hQ : ∀ (v : Int32) (w' : Hw), LWO g w' x nA cA lA y nM o kn km → Q (.inl (some (.int v))) w') : WP (ML_isThere g) Q (0, [some (.ref x), some (.int a1), some (.ref o), none], [], w, 0, 0) := by
  repeat' first
    | with_reducible assumption
    | with_reducible refine And.intro ?_ ?_
    | with_reducible refine go_X hL.l (fun _ => trivial)
    | with_reducible refine sX1_isThere hL.cc ?_ (fun _ => ?_)
    | refine hgo_h (HH := [(0, 17, 20, 19)]) (NN := [(19, "java/lang/IndexOutOfBoundsException")]) (h := 20) (E := "java/lang/IndexOutOfBoundsException") rfl rfl (by decide +kernel) (by decide) (fun _ => ?_)
    | with_reducible refine go_OwO (by first | assumption | exact hL.of (by assumption) | exact hL.ext (by assumption) | exact (by assumption : ∀ a' b' : Value, LWO g (upw _ o (.inr (6, [a', b']))) x nA cA lA y nM o kn km) _ _) (fun _ _ _ => ?_)
    | with_reducible exact hQ _ _ (by first | assumption | exact hL.of (by assumption) | exact hL.ext (by assumption) | exact (by assumption : ∀ a' b' : Value, LWO g (upw _ o (.inr (6, [a', b']))) x nA cA lA y nM o kn km) _ _)
    | simp only [eL_isThere_0, eL_isThere_0N, eL_isThere_1, eL_isThere_1N, eL_isThere_2, eL_isThere_3, eL_isThere_6, eL_isThere_9, eL_isThere_10, eL_isThere_13, eL_isThere_14, eL_isThere_17, eL_isThere_20, eL_isThere_20N, eL_isThere_21, eL_isThere_22, eL_isThere_23, eL_isThere_24, ite_le, n45, n54, true_or, or_true, false_or, or_false, false_and, and_false, kx_l, kx_r, go_s, gl_s, gi_s, gb_s2, gb_s3, gq_s, wt_nil, wt_int, wt_long, wt_ref, wt_null, nl_int, nl_long, nl_ref, nl_null, nl_none, rf_n, rf_s, rf_st, tl_s, tl_n, g0, gS, ex1, nb_b, nb_0, nb_1, nf_i, nf_l, nf_ra, nf_ro, nf_na, nf_no, nf_b0, nf_z0, t45_4, t45_5, true_and, and_true, List.set_cons_zero, List.set_cons_succ, List.length_cons, List.length_nil, rd_s, upw_s, ne_eq, not_false_eq_true, Nat.zero_add, Nat.add_zero, if_true, if_false, eq_self, tyX2]
    | split
    | with_reducible intro _
    | omega
set_option maxHeartbeats 4000000 in
theorem oL_isFixed {a1 : Int32} (hR : RG g) (hL : LWO g w x nA cA lA y nM o kn km) (hQ : ∀ (v : Int32) (w' : Hw), LWO g w' x nA cA lA y nM o kn km → Q (.inl (some (.int v))) w') : WP (ML_isFixed g) Q (0, [some (.ref x), some (.int a1), some (.ref o), none], [], w, 0, 0) := by
  repeat' first
    | with_reducible assumption
    | with_reducible refine And.intro ?_ ?_
    | with_reducible refine go_X hL.l (fun _ => trivial)
    | with_reducible refine sX1_isFixed hL.cc ?_ ?_ (fun _ => ?_)
    | refine hgo_h (HH := [(0, 17, 20, 19), (0, 17, 23, 74)]) (NN := [(19, "java/lang/IndexOutOfBoundsException"), (74, "java/lang/IllegalStateException")]) (h := 20) (E := "java/lang/IndexOutOfBoundsException") rfl rfl (by decide +kernel) (by decide) (fun _ => ?_)
    | refine hgo_h (HH := [(0, 17, 20, 19), (0, 17, 23, 74)]) (NN := [(19, "java/lang/IndexOutOfBoundsException"), (74, "java/lang/IllegalStateException")]) (h := 23) (E := "java/lang/IllegalStateException") rfl rfl (by decide +kernel) (by decide) (fun _ => ?_)
    | with_reducible refine go_OwO (by first | assumption | exact hL.of (by assumption) | exact hL.ext (by assumption) | exact (by assumption : ∀ a' b' : Value, LWO g (upw _ o (.inr (6, [a', b']))) x nA cA lA y nM o kn km) _ _) (fun _ _ _ => ?_)
    | with_reducible exact hQ _ _ (by first | assumption | exact hL.of (by assumption) | exact hL.ext (by assumption) | exact (by assumption : ∀ a' b' : Value, LWO g (upw _ o (.inr (6, [a', b']))) x nA cA lA y nM o kn km) _ _)
    | simp only [eL_isFixed_0, eL_isFixed_0N, eL_isFixed_1, eL_isFixed_1N, eL_isFixed_2, eL_isFixed_3, eL_isFixed_6, eL_isFixed_9, eL_isFixed_10, eL_isFixed_13, eL_isFixed_14, eL_isFixed_17, eL_isFixed_20, eL_isFixed_20N, eL_isFixed_21, eL_isFixed_22, eL_isFixed_23, eL_isFixed_23N, eL_isFixed_24, eL_isFixed_25, eL_isFixed_26, eL_isFixed_27, ite_le, n45, n54, true_or, or_true, false_or, or_false, false_and, and_false, kx_l, kx_r, go_s, gl_s, gi_s, gb_s2, gb_s3, gq_s, wt_nil, wt_int, wt_long, wt_ref, wt_null, nl_int, nl_long, nl_ref, nl_null, nl_none, rf_n, rf_s, rf_st, tl_s, tl_n, g0, gS, ex1, nb_b, nb_0, nb_1, nf_i, nf_l, nf_ra, nf_ro, nf_na, nf_no, nf_b0, nf_z0, t45_4, t45_5, true_and, and_true, List.set_cons_zero, List.set_cons_succ, List.length_cons, List.length_nil, rd_s, upw_s, ne_eq, not_false_eq_true, Nat.zero_add, Nat.add_zero, if_true, if_false, eq_self, tyX2]
    | split
    | with_reducible intro _
    | omega
set_option maxHeartbeats 4000000 in
theorem oL_isSmall {a1 : Int32} (hR : RG g) (hL : LWO g w x nA cA lA y nM o kn km) (hQ : ∀ (v : Int32) (w' : Hw), LWO g w' x nA cA lA y nM o kn km → Q (.inl (some (.int v))) w') : WP (ML_isSmall g) Q (0, [some (.ref x), some (.int a1), some (.ref o), none], [], w, 0, 0) := by
  repeat' first
    | with_reducible assumption
    | with_reducible refine And.intro ?_ ?_
    | with_reducible refine go_X hL.l (fun _ => trivial)
    | with_reducible refine sX1_isSmall hL.cc ?_ ?_ (fun _ => ?_)
    | refine hgo_h (HH := [(0, 17, 20, 19), (0, 17, 23, 74)]) (NN := [(19, "java/lang/IndexOutOfBoundsException"), (74, "java/lang/IllegalStateException")]) (h := 20) (E := "java/lang/IndexOutOfBoundsException") rfl rfl (by decide +kernel) (by decide) (fun _ => ?_)
    | refine hgo_h (HH := [(0, 17, 20, 19), (0, 17, 23, 74)]) (NN := [(19, "java/lang/IndexOutOfBoundsException"), (74, "java/lang/IllegalStateException")]) (h := 23) (E := "java/lang/IllegalStateException") rfl rfl (by decide +kernel) (by decide) (fun _ => ?_)
    | with_reducible refine go_OwO (by first | assumption | exact hL.of (by assumption) | exact hL.ext (by assumption) | exact (by assumption : ∀ a' b' : Value, LWO g (upw _ o (.inr (6, [a', b']))) x nA cA lA y nM o kn km) _ _) (fun _ _ _ => ?_)
    | with_reducible exact hQ _ _ (by first | assumption | exact hL.of (by assumption) | exact hL.ext (by assumption) | exact (by assumption : ∀ a' b' : Value, LWO g (upw _ o (.inr (6, [a', b']))) x nA cA lA y nM o kn km) _ _)
    | simp only [eL_isSmall_0, eL_isSmall_0N, eL_isSmall_1, eL_isSmall_1N, eL_isSmall_2, eL_isSmall_3, eL_isSmall_6, eL_isSmall_9, eL_isSmall_10, eL_isSmall_13, eL_isSmall_14, eL_isSmall_17, eL_isSmall_20, eL_isSmall_20N, eL_isSmall_21, eL_isSmall_22, eL_isSmall_23, eL_isSmall_23N, eL_isSmall_24, eL_isSmall_25, eL_isSmall_26, eL_isSmall_27, ite_le, n45, n54, true_or, or_true, false_or, or_false, false_and, and_false, kx_l, kx_r, go_s, gl_s, gi_s, gb_s2, gb_s3, gq_s, wt_nil, wt_int, wt_long, wt_ref, wt_null, nl_int, nl_long, nl_ref, nl_null, nl_none, rf_n, rf_s, rf_st, tl_s, tl_n, g0, gS, ex1, nb_b, nb_0, nb_1, nf_i, nf_l, nf_ra, nf_ro, nf_na, nf_no, nf_b0, nf_z0, t45_4, t45_5, true_and, and_true, List.set_cons_zero, List.set_cons_succ, List.length_cons, List.length_nil, rd_s, upw_s, ne_eq, not_false_eq_true, Nat.zero_add, Nat.add_zero, if_true, if_false, eq_self, tyX2]
    | split
    | with_reducible intro _
    | omega
end
