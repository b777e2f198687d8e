section
variable {g : RO} {Q : Ot → Hw → Prop} {w : Hw} {x nA cA lA y nM o : Nat} {kn km : Int32}
set_option maxHeartbeats 4000000 in
theorem oL_end {a1 : Int32} {a2 : Int32} {a3 : Int32} (hR : RG g) (hL : LWO g w x nA cA lA y nM o kn km) (hQ : ∀ (v : Int32) (w' : Hw), LWO g w' x nA cA lA y nM o kn km → Q (.inl (some (.int v))) w') : WP (ML_end g) Q (0, [some (.ref x), some (.int a1), some (.int a2), some (.int a3), some (.ref o), none], [], w, 0, 0) := by
  repeat' first
    | with_reducible assumption
    | with_reducible refine And.intro ?_ ?_
    | with_reducible refine go_X hL.l (fun _ => trivial)
    | with_reducible refine sX1_end hL.cc ?_ ?_ ?_ (fun _ => ?_)
    | refine hgo_h (HH := [(0, 13, 16, 19), (0, 13, 20, 28), (0, 13, 24, 74)]) (NN := [(19, "java/lang/IndexOutOfBoundsException"), (28, "java/lang/IllegalArgumentException"), (74, "java/lang/IllegalStateException")]) (h := 16) (E := "java/lang/IndexOutOfBoundsException") rfl rfl (by decide +kernel) (by decide) (fun _ => ?_)
    | refine hgo_h (HH := [(0, 13, 16, 19), (0, 13, 20, 28), (0, 13, 24, 74)]) (NN := [(19, "java/lang/IndexOutOfBoundsException"), (28, "java/lang/IllegalArgumentException"), (74, "java/lang/IllegalStateException")]) (h := 20) (E := "java/lang/IllegalArgumentException") rfl rfl (by decide +kernel) (by decide) (fun _ => ?_)
    | refine hgo_h (HH := [(0, 13, 16, 19), (0, 13, 20, 28), (0, 13, 24, 74)]) (NN := [(19, "java/lang/IndexOutOfBoundsException"), (28, "java/lang/IllegalArgumentException"), (74, "java/lang/IllegalStateException")]) (h := 24) (E := "java/lang/IllegalStateException") rfl rfl (by decide +kernel) (by decide) (fun _ => ?_)
    | with_reducible refine go_OwO (by first | assumption | exact hL.of (by assumption) | exact hL.ext (by assumption) | exact (by assumption : ∀ a' b' : Value, LWO g (upw _ o (.inr (6, [a', b']))) x nA cA lA y nM o kn km) _ _) (fun _ _ _ => ?_)
    | with_reducible exact hQ _ _ (by first | assumption | exact hL.of (by assumption) | exact hL.ext (by assumption) | exact (by assumption : ∀ a' b' : Value, LWO g (upw _ o (.inr (6, [a', b']))) x nA cA lA y nM o kn km) _ _)
    | simp only [eL_end_0, eL_end_0N, eL_end_2, eL_end_2N, eL_end_3, eL_end_4, eL_end_5, eL_end_6, eL_end_9, eL_end_10, eL_end_13, eL_end_16, eL_end_16N, eL_end_18, eL_end_19, eL_end_20, eL_end_20N, eL_end_22, eL_end_23, eL_end_24, eL_end_24N, eL_end_26, eL_end_27, eL_end_28, eL_end_29, ite_le, n45, n54, true_or, or_true, false_or, or_false, false_and, and_false, kx_l, kx_r, go_s, gl_s, gi_s, gb_s2, gb_s3, gq_s, wt_nil, wt_int, wt_long, wt_ref, wt_null, nl_int, nl_long, nl_ref, nl_null, nl_none, rf_n, rf_s, rf_st, tl_s, tl_n, g0, gS, ex1, nb_b, nb_0, nb_1, nf_i, nf_l, nf_ra, nf_ro, nf_na, nf_no, nf_b0, nf_z0, t45_4, t45_5, true_and, and_true, List.set_cons_zero, List.set_cons_succ, List.length_cons, List.length_nil, rd_s, upw_s, ne_eq, not_false_eq_true, Nat.zero_add, Nat.add_zero, if_true, if_false, eq_self, tyX2]
    | split
    | with_reducible intro _
    | omega
set_option maxHeartbeats 4000000 in
theorem oL_take {a1 : Int32} {a2 : Int32} {a3 : Int32} (hR : RG g) (hL : LWO g w x nA cA lA y nM o kn km) (hQ : ∀ (v : Int32) (w' : Hw), LWO g w' x nA cA lA y nM o kn km → Q (.inl (some (.int v))) w') : WP (ML_take g) Q (0, [some (.ref x), some (.int a1), some (.int a2), some (.int a3), some (.ref o), none], [], w, 0, 0) := by
  repeat' first
    | with_reducible assumption
    | with_reducible refine And.intro ?_ ?_
    | with_reducible refine go_X hL.l (fun _ => trivial)
    | with_reducible refine oX1_take hL.co ?_ ?_ ?_ (fun _ _ _ => ?_)
    | refine hgo_h (HH := [(0, 13, 16, 19), (0, 13, 20, 28), (0, 13, 24, 74)]) (NN := [(19, "java/lang/IndexOutOfBoundsException"), (28, "java/lang/IllegalArgumentException"), (74, "java/lang/IllegalStateException")]) (h := 16) (E := "java/lang/IndexOutOfBoundsException") rfl rfl (by decide +kernel) (by decide) (fun _ => ?_)
    | refine hgo_h (HH := [(0, 13, 16, 19), (0, 13, 20, 28), (0, 13, 24, 74)]) (NN := [(19, "java/lang/IndexOutOfBoundsException"), (28, "java/lang/IllegalArgumentException"), (74, "java/lang/IllegalStateException")]) (h := 20) (E := "java/lang/IllegalArgumentException") rfl rfl (by decide +kernel) (by decide) (fun _ => ?_)
    | refine hgo_h (HH := [(0, 13, 16, 19), (0, 13, 20, 28), (0, 13, 24, 74)]) (NN := [(19, "java/lang/IndexOutOfBoundsException"), (28, "java/lang/IllegalArgumentException"), (74, "java/lang/IllegalStateException")]) (h := 24) (E := "java/lang/IllegalStateException") rfl rfl (by decide +kernel) (by decide) (fun _ => ?_)
    | with_reducible refine go_OwO (by first | assumption | exact hL.of (by assumption) | exact hL.ext (by assumption) | exact (by assumption : ∀ a' b' : Value, LWO g (upw _ o (.inr (6, [a', b']))) x nA cA lA y nM o kn km) _ _) (fun _ _ _ => ?_)
    | with_reducible exact hQ _ _ (by first | assumption | exact hL.of (by assumption) | exact hL.ext (by assumption) | exact (by assumption : ∀ a' b' : Value, LWO g (upw _ o (.inr (6, [a', b']))) x nA cA lA y nM o kn km) _ _)
    | simp only [eL_take_0, eL_take_0N, eL_take_2, eL_take_2N, eL_take_3, eL_take_4, eL_take_5, eL_take_6, eL_take_9, eL_take_10, eL_take_13, eL_take_16, eL_take_16N, eL_take_18, eL_take_19, eL_take_20, eL_take_20N, eL_take_22, eL_take_23, eL_take_24, eL_take_24N, eL_take_26, eL_take_27, eL_take_28, eL_take_29, ite_le, n45, n54, true_or, or_true, false_or, or_false, false_and, and_false, kx_l, kx_r, go_s, gl_s, gi_s, gb_s2, gb_s3, gq_s, wt_nil, wt_int, wt_long, wt_ref, wt_null, nl_int, nl_long, nl_ref, nl_null, nl_none, rf_n, rf_s, rf_st, tl_s, tl_n, g0, gS, ex1, nb_b, nb_0, nb_1, nf_i, nf_l, nf_ra, nf_ro, nf_na, nf_no, nf_b0, nf_z0, t45_4, t45_5, true_and, and_true, List.set_cons_zero, List.set_cons_succ, List.length_cons, List.length_nil, rd_s, upw_s, ne_eq, not_false_eq_true, Nat.zero_add, Nat.add_zero, if_true, if_false, eq_self, tyX2]
    | split
    | with_reducible intro _
    | omega
set_option maxHeartbeats 4000000 in
theorem oL_cardText {a1 : Int32} (hR : RG g) (hL : LWO g w x nA cA lA y nM o kn km) (hQ : ∀ (v : Int32) (w' : Hw), LWO g w' x nA cA lA y nM o kn km → Q (.inl (some (.int v))) w') : WP (ML_cardText g) Q (0, [some (.ref x), some (.int a1), some (.ref o), none], [], w, 0, 0) := by
  repeat' first
    | with_reducible assumption
    | with_reducible refine And.intro ?_ ?_
    | with_reducible refine go_X hL.l (fun _ => trivial)
    | with_reducible refine sX1_cardText hL.cc hR.sg (hR.dg hL.ro) hR.r20 ?_ (fun _ _ _ => ?_)
    | refine hgo_h (HH := [(0, 9, 12, 19)]) (NN := [(19, "java/lang/IndexOutOfBoundsException")]) (h := 12) (E := "java/lang/IndexOutOfBoundsException") rfl rfl (by decide +kernel) (by decide) (fun _ => ?_)
    | with_reducible refine go_OwO (by first | assumption | exact hL.of (by assumption) | exact hL.ext (by assumption) | exact (by assumption : ∀ a' b' : Value, LWO g (upw _ o (.inr (6, [a', b']))) x nA cA lA y nM o kn km) _ _) (fun _ _ _ => ?_)
    | with_reducible exact hQ _ _ (by first | assumption | exact hL.of (by assumption) | exact hL.ext (by assumption) | exact (by assumption : ∀ a' b' : Value, LWO g (upw _ o (.inr (6, [a', b']))) x nA cA lA y nM o kn km) _ _)
    | simp only [eL_cardText_0, eL_cardText_0N, eL_cardText_1, eL_cardText_1N, eL_cardText_2, eL_cardText_3, eL_cardText_6, eL_cardText_9, eL_cardText_12, eL_cardText_12N, eL_cardText_13, eL_cardText_14, eL_cardText_15, eL_cardText_16, ite_le, n45, n54, true_or, or_true, false_or, or_false, false_and, and_false, kx_l, kx_r, go_s, gl_s, gi_s, gb_s2, gb_s3, gq_s, wt_nil, wt_int, wt_long, wt_ref, wt_null, nl_int, nl_long, nl_ref, nl_null, nl_none, rf_n, rf_s, rf_st, tl_s, tl_n, g0, gS, ex1, nb_b, nb_0, nb_1, nf_i, nf_l, nf_ra, nf_ro, nf_na, nf_no, nf_b0, nf_z0, t45_4, t45_5, true_and, and_true, List.set_cons_zero, List.set_cons_succ, List.length_cons, List.length_nil, rd_s, upw_s, ne_eq, not_false_eq_true, Nat.zero_add, Nat.add_zero, if_true, if_false, eq_self, tyX2]
    | split
    | with_reducible intro _
    | omega
set_option maxHeartbeats 4000000 in
theorem oL_isValid {a1 : Int32} {a2 : Int32} (hR : RG g) (hL : LWO g w x nA cA lA y nM o kn km) (hQ : ∀ (v : Int32) (w' : Hw), LWO g w' x nA cA lA y nM o kn km → Q (.inl (some (.int v))) w') : WP (ML_isValid g) Q (0, [some (.ref x), some (.int a1), some (.int a2), some (.ref o), none], [], w, 0, 0) := by
  repeat' first
    | with_reducible assumption
    | with_reducible refine And.intro ?_ ?_
    | with_reducible refine go_X hL.l (fun _ => trivial)
    | with_reducible refine sX1_isValid hL.cc ?_ ?_ (fun _ => ?_)
    | refine hgo_h (HH := [(0, 18, 21, 19), (0, 18, 25, 74)]) (NN := [(19, "java/lang/IndexOutOfBoundsException"), (74, "java/lang/IllegalStateException")]) (h := 21) (E := "java/lang/IndexOutOfBoundsException") rfl rfl (by decide +kernel) (by decide) (fun _ => ?_)
    | refine hgo_h (HH := [(0, 18, 21, 19), (0, 18, 25, 74)]) (NN := [(19, "java/lang/IndexOutOfBoundsException"), (74, "java/lang/IllegalStateException")]) (h := 25) (E := "java/lang/IllegalStateException") rfl rfl (by decide +kernel) (by decide) (fun _ => ?_)
    | with_reducible refine go_OwO (by first | assumption | exact hL.of (by assumption) | exact hL.ext (by assumption) | exact (by assumption : ∀ a' b' : Value, LWO g (upw _ o (.inr (6, [a', b']))) x nA cA lA y nM o kn km) _ _) (fun _ _ _ => ?_)
    | with_reducible exact hQ _ _ (by first | assumption | exact hL.of (by assumption) | exact hL.ext (by assumption) | exact (by assumption : ∀ a' b' : Value, LWO g (upw _ o (.inr (6, [a', b']))) x nA cA lA y nM o kn km) _ _)
    | simp only [eL_isValid_0, eL_isValid_0N, eL_isValid_1, eL_isValid_1N, eL_isValid_2, eL_isValid_3, eL_isValid_4, eL_isValid_7, eL_isValid_10, eL_isValid_11, eL_isValid_14, eL_isValid_15, eL_isValid_18, eL_isValid_21, eL_isValid_21N, eL_isValid_23, eL_isValid_24, eL_isValid_25, eL_isValid_25N, eL_isValid_27, eL_isValid_28, eL_isValid_29, eL_isValid_30, ite_le, n45, n54, true_or, or_true, false_or, or_false, false_and, and_false, kx_l, kx_r, go_s, gl_s, gi_s, gb_s2, gb_s3, gq_s, wt_nil, wt_int, wt_long, wt_ref, wt_null, nl_int, nl_long, nl_ref, nl_null, nl_none, rf_n, rf_s, rf_st, tl_s, tl_n, g0, gS, ex1, nb_b, nb_0, nb_1, nf_i, nf_l, nf_ra, nf_ro, nf_na, nf_no, nf_b0, nf_z0, t45_4, t45_5, true_and, and_true, List.set_cons_zero, List.set_cons_succ, List.length_cons, List.length_nil, rd_s, upw_s, ne_eq, not_false_eq_true, Nat.zero_add, Nat.add_zero, if_true, if_false, eq_self, tyX2]
    | split
    | with_reducible intro _
    | omega
set_option maxHeartbeats 4000000 in
theorem oL_isValidSmall {a1 : Int32} {a2 : Int32} (hR : RG g) (hL : LWO g w x nA cA lA y nM o kn km) (hQ : ∀ (v : Int32) (w' : Hw), LWO g w' x nA cA lA y nM o kn km → Q (.inl (some (.int v))) w') : WP (ML_isValidSmall g) Q (0, [some (.ref x), some (.int a1), some (.int a2), some (.ref o), none], [], w, 0, 0) := by
  repeat' first
    | with_reducible assumption
    | with_reducible refine And.intro ?_ ?_
    | with_reducible refine go_X hL.l (fun _ => trivial)
    | with_reducible refine sX1_isValidSmall hL.cc ?_ ?_ (fun _ => ?_)
    | refine hgo_h (HH := [(0, 18, 21, 19), (0, 18, 25, 74)]) (NN := [(19, "java/lang/IndexOutOfBoundsException"), (74, "java/lang/IllegalStateException")]) (h := 21) (E := "java/lang/IndexOutOfBoundsException") rfl rfl (by decide +kernel) (by decide) (fun _ => ?_)
    | refine hgo_h (HH := [(0, 18, 21, 19), (0, 18, 25, 74)]) (NN := [(19, "java/lang/IndexOutOfBoundsException"), (74, "java/lang/IllegalStateException")]) (h := 25) (E := "java/lang/IllegalStateException") rfl rfl (by decide +kernel) (by decide) (fun _ => ?_)
    | with_reducible refine go_OwO (by first | assumption | exact hL.of (by assumption) | exact hL.ext (by assumption) | exact (by assumption : ∀ a' b' : Value, LWO g (upw _ o (.inr (6, [a', b']))) x nA cA lA y nM o kn km) _ _) (fun _ _ _ => ?_)
    | with_reducible exact hQ _ _ (by first | assumption | exact hL.of (by assumption) | exact hL.ext (by assumption) | exact (by assumption : ∀ a' b' : Value, LWO g (upw _ o (.inr (6, [a', b']))) x nA cA lA y nM o kn km) _ _)
    | simp only [eL_isValidSmall_0, eL_isValidSmall_0N, eL_isValidSmall_1, eL_isValidSmall_1N, eL_isValidSmall_2, eL_isValidSmall_3, eL_isValidSmall_4, eL_isValidSmall_7, eL_isValidSmall_10, eL_isValidSmall_11, eL_isValidSmall_14, eL_isValidSmall_15, eL_isValidSmall_18, eL_isValidSmall_21, eL_isValidSmall_21N, eL_isValidSmall_23, eL_isValidSmall_24, eL_isValidSmall_25, eL_isValidSmall_25N, eL_isValidSmall_27, eL_isValidSmall_28, eL_isValidSmall_29, eL_isValidSmall_30, ite_le, n45, n54, true_or, or_true, false_or, or_false, false_and, and_false, kx_l, kx_r, go_s, gl_s, gi_s, gb_s2, gb_s3, gq_s, wt_nil, wt_int, wt_long, wt_ref, wt_null, nl_int, nl_long, nl_ref, nl_null, nl_none, rf_n, rf_s, rf_st, tl_s, tl_n, g0, gS, ex1, nb_b, nb_0, nb_1, nf_i, nf_l, nf_ra, nf_ro, nf_na, nf_no, nf_b0, nf_z0, t45_4, t45_5, true_and, and_true, List.set_cons_zero, List.set_cons_succ, List.length_cons, List.length_nil, rd_s, upw_s, ne_eq, not_false_eq_true, Nat.zero_add, Nat.add_zero, if_true, if_false, eq_self, tyX2]
    | split
    | with_reducible intro _
    | omega
set_option maxHeartbeats 4000000 in
theorem oL_whichValid {a1 : Int32} {a2 : Int32} (hR : RG g) (hL : LWO g w x nA cA lA y nM o kn km) (hQ : ∀ (v : Int32) (w' : Hw), LWO g w' x nA cA lA y nM o kn km → Q (.inl (some (.int v))) w') : WP (ML_whichValid g) Q (0, [some (.ref x), some (.int a1), some (.int a2), some (.ref o), none], [], w, 0, 0) := by
  repeat' first
    | with_reducible assumption
    | with_reducible refine And.intro ?_ ?_
    | with_reducible refine go_X hL.l (fun _ => trivial)
    | with_reducible refine sX1_whichValid hL.cc ?_ ?_ (fun _ => ?_)
    | refine hgo_h (HH := [(0, 11, 14, 19), (0, 11, 18, 74)]) (NN := [(19, "java/lang/IndexOutOfBoundsException"), (74, "java/lang/IllegalStateException")]) (h := 14) (E := "java/lang/IndexOutOfBoundsException") rfl rfl (by decide +kernel) (by decide) (fun _ => ?_)
    | refine hgo_h (HH := [(0, 11, 14, 19), (0, 11, 18, 74)]) (NN := [(19, "java/lang/IndexOutOfBoundsException"), (74, "java/lang/IllegalStateException")]) (h := 18) (E := "java/lang/IllegalStateException") rfl rfl (by decide +kernel) (by decide) (fun _ => ?_)
    | with_reducible refine go_OwO (by first | assumption | exact hL.of (by assumption) | exact hL.ext (by assumption) | exact (by assumption : ∀ a' b' : Value, LWO g (upw _ o (.inr (6, [a', b']))) x nA cA lA y nM o kn km) _ _) (fun _ _ _ => ?_)
    | with_reducible exact hQ _ _ (by first | assumption | exact hL.of (by assumption) | exact hL.ext (by assumption) | exact (by assumption : ∀ a' b' : Value, LWO g (upw _ o (.inr (6, [a', b']))) x nA cA lA y nM o kn km) _ _)
    | simp only [eL_whichValid_0, eL_whichValid_0N, eL_whichValid_1, eL_whichValid_1N, eL_whichValid_2, eL_whichValid_3, eL_whichValid_4, eL_whichValid_7, eL_whichValid_8, eL_whichValid_11, eL_whichValid_14, eL_whichValid_14N, eL_whichValid_16, eL_whichValid_17, eL_whichValid_18, eL_whichValid_18N, eL_whichValid_20, eL_whichValid_21, eL_whichValid_22, eL_whichValid_23, ite_le, n45, n54, true_or, or_true, false_or, or_false, false_and, and_false, kx_l, kx_r, go_s, gl_s, gi_s, gb_s2, gb_s3, gq_s, wt_nil, wt_int, wt_long, wt_ref, wt_null, nl_int, nl_long, nl_ref, nl_null, nl_none, rf_n, rf_s, rf_st, tl_s, tl_n, g0, gS, ex1, nb_b, nb_0, nb_1, nf_i, nf_l, nf_ra, nf_ro, nf_na, nf_no, nf_b0, nf_z0, t45_4, t45_5, true_and, and_true, List.set_cons_zero, List.set_cons_succ, List.length_cons, List.length_nil, rd_s, upw_s, ne_eq, not_false_eq_true, Nat.zero_add, Nat.add_zero, if_true, if_false, eq_self, tyX2]
    | split
    | with_reducible intro _
    | omega
set_option maxHeartbeats 4000000 in
theorem oL_around {a1 : Int32} {a2 : Int32} {a3 : Int32} (hR : RG g) (hL : LWO g w x nA cA lA y nM o kn km) (hQ : ∀ (v : Int32) (w' : Hw), LWO g w' x nA cA lA y nM o kn km → Q (.inl (some (.int v))) w') : WP (ML_around g) Q (0, [some (.ref x), some (.int a1), some (.int a2), some (.int a3), some (.ref o), none], [], w, 0, 0) := by
  repeat' first
    | with_reducible assumption
    | with_reducible refine And.intro ?_ ?_
    | with_reducible refine go_X hL.l (fun _ => trivial)
    | with_reducible refine sX1_around hL.cc ?_ ?_ ?_ (fun _ => ?_)
    | refine hgo_h (HH := [(0, 13, 16, 19), (0, 13, 20, 28), (0, 13, 24, 74)]) (NN := [(19, "java/lang/IndexOutOfBoundsException"), (28, "java/lang/IllegalArgumentException"), (74, "java/lang/IllegalStateException")]) (h := 16) (E := "java/lang/IndexOutOfBoundsException") rfl rfl (by decide +kernel) (by decide) (fun _ => ?_)
    | refine hgo_h (HH := [(0, 13, 16, 19), (0, 13, 20, 28), (0, 13, 24, 74)]) (NN := [(19, "java/lang/IndexOutOfBoundsException"), (28, "java/lang/IllegalArgumentException"), (74, "java/lang/IllegalStateException")]) (h := 20) (E := "java/lang/IllegalArgumentException") rfl rfl (by decide +kernel) (by decide) (fun _ => ?_)
    | refine hgo_h (HH := [(0, 13, 16, 19), (0, 13, 20, 28), (0, 13, 24, 74)]) (NN := [(19, "java/lang/IndexOutOfBoundsException"), (28, "java/lang/IllegalArgumentException"), (74, "java/lang/IllegalStateException")]) (h := 24) (E := "java/lang/IllegalStateException") rfl rfl (by decide +kernel) (by decide) (fun _ => ?_)
    | with_reducible refine go_OwO (by first | assumption | exact hL.of (by assumption) | exact hL.ext (by assumption) | exact (by assumption : ∀ a' b' : Value, LWO g (upw _ o (.inr (6, [a', b']))) x nA cA lA y nM o kn km) _ _) (fun _ _ _ => ?_)
    | with_reducible exact hQ _ _ (by first | assumption | exact hL.of (by assumption) | exact hL.ext (by assumption) | exact (by assumption : ∀ a' b' : Value, LWO g (upw _ o (.inr (6, [a', b']))) x nA cA lA y nM o kn km) _ _)
    | simp only [eL_around_0, eL_around_0N, eL_around_2, eL_around_2N, eL_around_3, eL_around_4, eL_around_5, eL_around_6, eL_around_9, eL_around_10, eL_around_13, eL_around_16, eL_around_16N, eL_around_18, eL_around_19, eL_around_20, eL_around_20N, eL_around_22, eL_around_23, eL_around_24, eL_around_24N, eL_around_26, eL_around_27, eL_around_28, eL_around_29, ite_le, n45, n54, true_or, or_true, false_or, or_false, false_and, and_false, kx_l, kx_r, go_s, gl_s, gi_s, gb_s2, gb_s3, gq_s, wt_nil, wt_int, wt_long, wt_ref, wt_null, nl_int, nl_long, nl_ref, nl_null, nl_none, rf_n, rf_s, rf_st, tl_s, tl_n, g0, gS, ex1, nb_b, nb_0, nb_1, nf_i, nf_l, nf_ra, nf_ro, nf_na, nf_no, nf_b0, nf_z0, t45_4, t45_5, true_and, and_true, List.set_cons_zero, List.set_cons_succ, List.length_cons, List.length_nil, rd_s, upw_s, ne_eq, not_false_eq_true, Nat.zero_add, Nat.add_zero, if_true, if_false, eq_self, tyX2]
    | split
    | with_reducible intro _
    | omega
set_option maxHeartbeats 4000000 in
theorem oL_count {a1 : Int32} {a2 : Int32} {a3 : Int32} (hR : RG g) (hL : LWO g w x nA cA lA y nM o kn km) (hQ : ∀ (v : Int32) (w' : Hw), LWO g w' x nA cA lA y nM o kn km → Q (.inl (some (.int v))) w') : WP (ML_count g) Q (0, [some (.ref x), some (.int a1), some (.int a2), some (.int a3), some (.ref o), none], [], w, 0, 0) := by
  repeat' first
    | with_reducible assumption
    | with_reducible refine And.intro ?_ ?_
    | with_reducible refine go_X hL.l (fun _ => trivial)
    | with_reducible refine sX1_count hL.cc ?_ ?_ ?_ (fun _ => ?_)
    | refine hgo_h (HH := [(0, 13, 16, 19), (0, 13, 20, 28), (0, 13, 24, 74)]) (NN := [(19, "java/lang/IndexOutOfBoundsException"), (28, "java/lang/IllegalArgumentException"), (74, "java/lang/IllegalStateException")]) (h := 16) (E := "java/lang/IndexOutOfBoundsException") rfl rfl (by decide +kernel) (by decide) (fun _ => ?_)
    | refine hgo_h (HH := [(0, 13, 16, 19), (0, 13, 20, 28), (0, 13, 24, 74)]) (NN := [(19, "java/lang/IndexOutOfBoundsException"), (28, "java/lang/IllegalArgumentException"), (74, "java/lang/IllegalStateException")]) (h := 20) (E := "java/lang/IllegalArgumentException") rfl rfl (by decide +kernel) (by decide) (fun _ => ?_)
    | refine hgo_h (HH := [(0, 13, 16, 19), (0, 13, 20, 28), (0, 13, 24, 74)]) (NN := [(19, "java/lang/IndexOutOfBoundsException"), (28, "java/lang/IllegalArgumentException"), (74, "java/lang/IllegalStateException")]) (h := 24) (E := "java/lang/IllegalStateException") rfl rfl (by decide +kernel) (by decide) (fun _ => ?_)
    | with_reducible refine go_OwO (by first | assumption | exact hL.of (by assumption) | exact hL.ext (by assumption) | exact (by assumption : ∀ a' b' : Value, LWO g (upw _ o (.inr (6, [a', b']))) x nA cA lA y nM o kn km) _ _) (fun _ _ _ => ?_)
    | with_reducible exact hQ _ _ (by first | assumption | exact hL.of (by assumption) | exact hL.ext (by assumption) | exact (by assumption : ∀ a' b' : Value, LWO g (upw _ o (.inr (6, [a', b']))) x nA cA lA y nM o kn km) _ _)
    | simp only [eL_count_0, eL_count_0N, eL_count_2, eL_count_2N, eL_count_3, eL_count_4, eL_count_5, eL_count_6, eL_count_9, eL_count_10, eL_count_13, eL_count_16, eL_count_16N, eL_count_18, eL_count_19, eL_count_20, eL_count_20N, eL_count_22, eL_count_23, eL_count_24, eL_count_24N, eL_count_26, eL_count_27, eL_count_28, eL_count_29, ite_le, n45, n54, true_or, or_true, false_or, or_false, false_and, and_false, kx_l, kx_r, go_s, gl_s, gi_s, gb_s2, gb_s3, gq_s, wt_nil, wt_int, wt_long, wt_ref, wt_null, nl_int, nl_long, nl_ref, nl_null, nl_none, rf_n, rf_s, rf_st, tl_s, tl_n, g0, gS, ex1, nb_b, nb_0, nb_1, nf_i, nf_l, nf_ra, nf_ro, nf_na, nf_no, nf_b0, nf_z0, t45_4, t45_5, true_and, and_true, List.set_cons_zero, List.set_cons_succ, List.length_cons, List.length_nil, rd_s, upw_s, ne_eq, not_false_eq_true, Nat.zero_add, Nat.add_zero, if_true, if_false, eq_self, tyX2]
    | split
    | with_reducible intro _
    | omega
set_option maxHeartbeats 4000000 in
theorem oL_who {a1 : Int32} {a2 : Int32} (hR : RG g) (hL : LWO g w x nA cA lA y nM o kn km) (hQ : ∀ (v : Int32) (w' : Hw), LWO g w' x nA cA lA y nM o kn km → Q (.inl (some (.int v))) w') : WP (ML_who g) Q (0, [some (.ref x), some (.int a1), some (.int a2), some (.ref o), none], [], w, 0, 0) := by
  repeat' first
    | with_reducible assumption
    | with_reducible refine And.intro ?_ ?_
    | with_reducible refine go_X hL.l (fun _ => trivial)
    | with_reducible refine sX1_who hL.cc ?_ ?_ (fun _ => ?_)
    | refine hgo_h (HH := [(0, 11, 14, 19), (0, 11, 18, 28)]) (NN := [(19, "java/lang/IndexOutOfBoundsException"), (28, "java/lang/IllegalArgumentException")]) (h := 14) (E := "java/lang/IndexOutOfBoundsException") rfl rfl (by decide +kernel) (by decide) (fun _ => ?_)
    | refine hgo_h (HH := [(0, 11, 14, 19), (0, 11, 18, 28)]) (NN := [(19, "java/lang/IndexOutOfBoundsException"), (28, "java/lang/IllegalArgumentException")]) (h := 18) (E := "java/lang/IllegalArgumentException") rfl rfl (by decide +kernel) (by decide) (fun _ => ?_)
    | with_reducible refine go_OwO (by first | assumption | exact hL.of (by assumption) | exact hL.ext (by assumption) | exact (by assumption : ∀ a' b' : Value, LWO g (upw _ o (.inr (6, [a', b']))) x nA cA lA y nM o kn km) _ _) (fun _ _ _ => ?_)
    | with_reducible exact hQ _ _ (by first | assumption | exact hL.of (by assumption) | exact hL.ext (by assumption) | exact (by assumption : ∀ a' b' : Value, LWO g (upw _ o (.inr (6, [a', b']))) x nA cA lA y nM o kn km) _ _)
    | simp only [eL_who_0, eL_who_0N, eL_who_1, eL_who_1N, eL_who_2, eL_who_3, eL_who_4, eL_who_7, eL_who_8, eL_who_11, eL_who_14, eL_who_14N, eL_who_16, eL_who_17, eL_who_18, eL_who_18N, eL_who_20, eL_who_21, eL_who_22, eL_who_23, ite_le, n45, n54, true_or, or_true, false_or, or_false, false_and, and_false, kx_l, kx_r, go_s, gl_s, gi_s, gb_s2, gb_s3, gq_s, wt_nil, wt_int, wt_long, wt_ref, wt_null, nl_int, nl_long, nl_ref, nl_null, nl_none, rf_n, rf_s, rf_st, tl_s, tl_n, g0, gS, ex1, nb_b, nb_0, nb_1, nf_i, nf_l, nf_ra, nf_ro, nf_na, nf_no, nf_b0, nf_z0, t45_4, t45_5, true_and, and_true, List.set_cons_zero, List.set_cons_succ, List.length_cons, List.length_nil, rd_s, upw_s, ne_eq, not_false_eq_true, Nat.zero_add, Nat.add_zero, if_true, if_false, eq_self, tyX2]
    | split
    | with_reducible intro _
    | omega
set_option maxHeartbeats 4000000 in
theorem oL_which {a1 : Int32} (hR : RG g) (hL : LWO g w x nA cA lA y nM o kn km) (hQ : ∀ (v : Int32) (w' : Hw), LWO g w' x nA cA lA y nM o kn km → Q (.inl (some (.int v))) w') : WP (ML_which g) Q (0, [some (.ref x), some (.int a1), some (.ref o), none], [], w, 0, 0) := by
  repeat' first
    | with_reducible assumption
    | with_reducible refine And.intro ?_ ?_
    | with_reducible refine go_X hL.l (fun _ => trivial)
    | with_reducible refine sX1_which hL.cc ?_ (fun _ => ?_)
    | refine hgo_h (HH := [(0, 10, 13, 28)]) (NN := [(28, "java/lang/IllegalArgumentException")]) (h := 13) (E := "java/lang/IllegalArgumentException") rfl rfl (by decide +kernel) (by decide) (fun _ => ?_)
    | with_reducible refine go_OwO (by first | assumption | exact hL.of (by assumption) | exact hL.ext (by assumption) | exact (by assumption : ∀ a' b' : Value, LWO g (upw _ o (.inr (6, [a', b']))) x nA cA lA y nM o kn km) _ _) (fun _ _ _ => ?_)
    | with_reducible exact hQ _ _ (by first | assumption | exact hL.of (by assumption) | exact hL.ext (by assumption) | exact (by assumption : ∀ a' b' : Value, LWO g (upw _ o (.inr (6, [a', b']))) x nA cA lA y nM o kn km) _ _)
    | simp only [eL_which_0, eL_which_0N, eL_which_1, eL_which_1N, eL_which_2, eL_which_3, eL_which_6, eL_which_7, eL_which_10, eL_which_13, eL_which_13N, eL_which_14, eL_which_15, eL_which_16, eL_which_17, ite_le, n45, n54, true_or, or_true, false_or, or_false, false_and, and_false, kx_l, kx_r, go_s, gl_s, gi_s, gb_s2, gb_s3, gq_s, wt_nil, wt_int, wt_long, wt_ref, wt_null, nl_int, nl_long, nl_ref, nl_null, nl_none, rf_n, rf_s, rf_st, tl_s, tl_n, g0, gS, ex1, nb_b, nb_0, nb_1, nf_i, nf_l, nf_ra, nf_ro, nf_na, nf_no, nf_b0, nf_z0, t45_4, t45_5, true_and, and_true, List.set_cons_zero, List.set_cons_succ, List.length_cons, List.length_nil, rd_s, upw_s, ne_eq, not_false_eq_true, Nat.zero_add, Nat.add_zero, if_true, if_false, eq_self, tyX2]
    | split
    | with_reducible intro _
    | omega
set_option maxHeartbeats 4000000 in
theorem oL_areSame {a1 : Int32} {a2 : Int32} (hR : RG g) (hL : LWO g w x nA cA lA y nM o kn km) (hQ : ∀ (v : Int32) (w' : Hw), LWO g w' x nA cA lA y nM o kn km → Q (.inl (some (.int v))) w') : WP (ML_areSame g) Q (0, [some (.ref x), some (.int a1), some (.int a2), some (.ref o), none], [], w, 0, 0) := by
  repeat' first
    | with_reducible assumption
    | with_reducible refine And.intro ?_ ?_
    | with_reducible refine go_X hL.l (fun _ => trivial)
    | with_reducible refine sX1_areSame hL.cc ?_ ?_ (fun _ => ?_)
    | refine hgo_h (HH := [(0, 18, 21, 19), (0, 18, 25, 74)]) (NN := [(19, "java/lang/IndexOutOfBoundsException"), (74, "java/lang/IllegalStateException")]) (h := 21) (E := "java/lang/IndexOutOfBoundsException") rfl rfl (by decide +kernel) (by decide) (fun _ => ?_)
    | refine hgo_h (HH := [(0, 18, 21, 19), (0, 18, 25, 74)]) (NN := [(19, "java/lang/IndexOutOfBoundsException"), (74, "java/lang/IllegalStateException")]) (h := 25) (E := "java/lang/IllegalStateException") rfl rfl (by decide +kernel) (by decide) (fun _ => ?_)
    | with_reducible refine go_OwO (by first | assumption | exact hL.of (by assumption) | exact hL.ext (by assumption) | exact (by assumption : ∀ a' b' : Value, LWO g (upw _ o (.inr (6, [a', b']))) x nA cA lA y nM o kn km) _ _) (fun _ _ _ => ?_)
    | with_reducible exact hQ _ _ (by first | assumption | exact hL.of (by assumption) | exact hL.ext (by assumption) | exact (by assumption : ∀ a' b' : Value, LWO g (upw _ o (.inr (6, [a', b']))) x nA cA lA y nM o kn km) _ _)
    | simp only [eL_areSame_0, eL_areSame_0N, eL_areSame_1, eL_areSame_1N, eL_areSame_2, eL_areSame_3, eL_areSame_4, eL_areSame_7, eL_areSame_10, eL_areSame_11, eL_areSame_14, eL_areSame_15, eL_areSame_18, eL_areSame_21, eL_areSame_21N, eL_areSame_23, eL_areSame_24, eL_areSame_25, eL_areSame_25N, eL_areSame_27, eL_areSame_28, eL_areSame_29, eL_areSame_30, ite_le, n45, n54, true_or, or_true, false_or, or_false, false_and, and_false, kx_l, kx_r, go_s, gl_s, gi_s, gb_s2, gb_s3, gq_s, wt_nil, wt_int, wt_long, wt_ref, wt_null, nl_int, nl_long, nl_ref, nl_null, nl_none, rf_n, rf_s, rf_st, tl_s, tl_n, g0, gS, ex1, nb_b, nb_0, nb_1, nf_i, nf_l, nf_ra, nf_ro, nf_na, nf_no, nf_b0, nf_z0, t45_4, t45_5, true_and, and_true, List.set_cons_zero, List.set_cons_succ, List.length_cons, List.length_nil, rd_s, upw_s, ne_eq, not_false_eq_true, Nat.zero_add, Nat.add_zero, if_true, if_false, eq_self, tyX2]
    | split
    | with_reducible intro _
    | omega
set_option maxHeartbeats 4000000 in
theorem oL_isSameAs {a1 : Int32} {a2 : Int32} (hR : RG g) (hL : LWO g w x nA cA lA y nM o kn km) (hQ : ∀ (v : Int32) (w' : Hw), LWO g w' x nA cA lA y nM o kn km → Q (.inl (some (.int v))) w') : WP (ML_isSameAs g) Q (0, [some (.ref x), some (.int a1), some (.int a2), some (.ref o), none], [], w, 0, 0) := by
  repeat' first
    | with_reducible assumption
    | with_reducible refine And.intro ?_ ?_
    | with_reducible refine go_X hL.l (fun _ => trivial)
    | with_reducible refine sX1_isSameAs hL.cc ?_ ?_ ?_ (fun _ _ _ => ?_)
    | refine hgo_h (HH := [(0, 18, 21, 19), (0, 18, 25, 28), (0, 18, 29, 74)]) (NN := [(19, "java/lang/IndexOutOfBoundsException"), (28, "java/lang/IllegalArgumentException"), (74, "java/lang/IllegalStateException")]) (h := 21) (E := "java/lang/IndexOutOfBoundsException") rfl rfl (by decide +kernel) (by decide) (fun _ => ?_)
    | refine hgo_h (HH := [(0, 18, 21, 19), (0, 18, 25, 28), (0, 18, 29, 74)]) (NN := [(19, "java/lang/IndexOutOfBoundsException"), (28, "java/lang/IllegalArgumentException"), (74, "java/lang/IllegalStateException")]) (h := 25) (E := "java/lang/IllegalArgumentException") rfl rfl (by decide +kernel) (by decide) (fun _ => ?_)
    | refine hgo_h (HH := [(0, 18, 21, 19), (0, 18, 25, 28), (0, 18, 29, 74)]) (NN := [(19, "java/lang/IndexOutOfBoundsException"), (28, "java/lang/IllegalArgumentException"), (74, "java/lang/IllegalStateException")]) (h := 29) (E := "java/lang/IllegalStateException") rfl rfl (by decide +kernel) (by decide) (fun _ => ?_)
    | with_reducible refine go_OwO (by first | assumption | exact hL.of (by assumption) | exact hL.ext (by assumption) | exact (by assumption : ∀ a' b' : Value, LWO g (upw _ o (.inr (6, [a', b']))) x nA cA lA y nM o kn km) _ _) (fun _ _ _ => ?_)
    | with_reducible exact hQ _ _ (by first | assumption | exact hL.of (by assumption) | exact hL.ext (by assumption) | exact (by assumption : ∀ a' b' : Value, LWO g (upw _ o (.inr (6, [a', b']))) x nA cA lA y nM o kn km) _ _)
    | simp only [eL_isSameAs_0, eL_isSameAs_0N, eL_isSameAs_1, eL_isSameAs_1N, eL_isSameAs_2, eL_isSameAs_3, eL_isSameAs_4, eL_isSameAs_7, eL_isSameAs_10, eL_isSameAs_11, eL_isSameAs_14, eL_isSameAs_15, eL_isSameAs_18, eL_isSameAs_21, eL_isSameAs_21N, eL_isSameAs_23, eL_isSameAs_24, eL_isSameAs_25, eL_isSameAs_25N, eL_isSameAs_27, eL_isSameAs_28, eL_isSameAs_29, eL_isSameAs_29N, eL_isSameAs_31, eL_isSameAs_32, eL_isSameAs_33, eL_isSameAs_34, ite_le, n45, n54, true_or, or_true, false_or, or_false, false_and, and_false, kx_l, kx_r, go_s, gl_s, gi_s, gb_s2, gb_s3, gq_s, wt_nil, wt_int, wt_long, wt_ref, wt_null, nl_int, nl_long, nl_ref, nl_null, nl_none, rf_n, rf_s, rf_st, tl_s, tl_n, g0, gS, ex1, nb_b, nb_0, nb_1, nf_i, nf_l, nf_ra, nf_ro, nf_na, nf_no, nf_b0, nf_z0, t45_4, t45_5, true_and, and_true, List.set_cons_zero, List.set_cons_succ, List.length_cons, List.length_nil, rd_s, upw_s, ne_eq, not_false_eq_true, Nat.zero_add, Nat.add_zero, if_true, if_false, eq_self, tyX2]
    | split
    | with_reducible intro _
    | omega
end
