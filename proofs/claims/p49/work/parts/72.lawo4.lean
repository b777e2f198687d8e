section
variable {g : RO} {Q : Ot → Hw → Prop} {w : Hw} {x nA cA lA y nM o : Nat} {kn km : Int32}
set_option maxHeartbeats 4000000 in
theorem oL_likes {a1 : Int32} (hR : RG g) (hL : LWO g w x nA cA lA y nM o kn km) (hQ : ∀ (v : Int32) (w' : Hw), LWO g w' x nA cA lA y nM o kn km → Q (.inl (some (.int v))) w') : WP (ML_likes g) Q (0, [some (.ref x), some (.int a1), some (.ref o), none], [], w, 0, 0) := by
  repeat' first
    | with_reducible assumption
    | with_reducible refine And.intro ?_ ?_
    | with_reducible refine go_X hL.l (fun _ => trivial)
    | with_reducible refine sX1_likes hL.cc ?_ ?_ (fun _ => ?_)
    | refine hgo_h (HH := [(0, 10, 13, 19), (0, 10, 16, 74)]) (NN := [(19, "java/lang/IndexOutOfBoundsException"), (74, "java/lang/IllegalStateException")]) (h := 13) (E := "java/lang/IndexOutOfBoundsException") rfl rfl (by decide +kernel) (by decide) (fun _ => ?_)
    | refine hgo_h (HH := [(0, 10, 13, 19), (0, 10, 16, 74)]) (NN := [(19, "java/lang/IndexOutOfBoundsException"), (74, "java/lang/IllegalStateException")]) (h := 16) (E := "java/lang/IllegalStateException") rfl rfl (by decide +kernel) (by decide) (fun _ => ?_)
    | with_reducible refine go_OwO (by first | assumption | exact hL.of (by assumption) | exact hL.ext (by assumption) | exact (by assumption : ∀ a' b' : Value, LWO g (upw _ o (.inr (6, [a', b']))) x nA cA lA y nM o kn km) _ _) (fun _ _ _ => ?_)
    | with_reducible exact hQ _ _ (by first | assumption | exact hL.of (by assumption) | exact hL.ext (by assumption) | exact (by assumption : ∀ a' b' : Value, LWO g (upw _ o (.inr (6, [a', b']))) x nA cA lA y nM o kn km) _ _)
    | simp only [eL_likes_0, eL_likes_0N, eL_likes_1, eL_likes_1N, eL_likes_2, eL_likes_3, eL_likes_6, eL_likes_7, eL_likes_10, eL_likes_13, eL_likes_13N, eL_likes_14, eL_likes_15, eL_likes_16, eL_likes_16N, eL_likes_17, eL_likes_18, eL_likes_19, eL_likes_20, ite_le, n45, n54, true_or, or_true, false_or, or_false, false_and, and_false, kx_l, kx_r, go_s, gl_s, gi_s, gb_s2, gb_s3, gq_s, wt_nil, wt_int, wt_long, wt_ref, wt_null, nl_int, nl_long, nl_ref, nl_null, nl_none, rf_n, rf_s, rf_st, tl_s, tl_n, g0, gS, ex1, nb_b, nb_0, nb_1, nf_i, nf_l, nf_ra, nf_ro, nf_na, nf_no, nf_b0, nf_z0, t45_4, t45_5, true_and, and_true, List.set_cons_zero, List.set_cons_succ, List.length_cons, List.length_nil, rd_s, upw_s, ne_eq, not_false_eq_true, Nat.zero_add, Nat.add_zero, if_true, if_false, eq_self, tyX2]
    | split
    | with_reducible intro _
    | omega
set_option maxHeartbeats 4000000 in
theorem oL_lay {a1 : Int32} (hR : RG g) (hL : LWO g w x nA cA lA y nM o kn km) (hQ : ∀ (v : Int32) (w' : Hw), LWO g w' x nA cA lA y nM o kn km → Q (.inl (some (.int v))) w') : WP (ML_lay g) Q (0, [some (.ref x), some (.int a1), some (.ref o), none], [], w, 0, 0) := by
  repeat' first
    | with_reducible assumption
    | with_reducible refine And.intro ?_ ?_
    | with_reducible refine go_X hL.l (fun _ => trivial)
    | with_reducible refine oX1_lay hL.co ?_ ?_ (fun _ _ _ => ?_)
    | refine hgo_h (HH := [(0, 10, 13, 19), (0, 10, 16, 74)]) (NN := [(19, "java/lang/IndexOutOfBoundsException"), (74, "java/lang/IllegalStateException")]) (h := 13) (E := "java/lang/IndexOutOfBoundsException") rfl rfl (by decide +kernel) (by decide) (fun _ => ?_)
    | refine hgo_h (HH := [(0, 10, 13, 19), (0, 10, 16, 74)]) (NN := [(19, "java/lang/IndexOutOfBoundsException"), (74, "java/lang/IllegalStateException")]) (h := 16) (E := "java/lang/IllegalStateException") rfl rfl (by decide +kernel) (by decide) (fun _ => ?_)
    | with_reducible refine go_OwO (by first | assumption | exact hL.of (by assumption) | exact hL.ext (by assumption) | exact (by assumption : ∀ a' b' : Value, LWO g (upw _ o (.inr (6, [a', b']))) x nA cA lA y nM o kn km) _ _) (fun _ _ _ => ?_)
    | with_reducible exact hQ _ _ (by first | assumption | exact hL.of (by assumption) | exact hL.ext (by assumption) | exact (by assumption : ∀ a' b' : Value, LWO g (upw _ o (.inr (6, [a', b']))) x nA cA lA y nM o kn km) _ _)
    | simp only [eL_lay_0, eL_lay_0N, eL_lay_1, eL_lay_1N, eL_lay_2, eL_lay_3, eL_lay_6, eL_lay_7, eL_lay_10, eL_lay_13, eL_lay_13N, eL_lay_14, eL_lay_15, eL_lay_16, eL_lay_16N, eL_lay_17, eL_lay_18, eL_lay_19, eL_lay_20, ite_le, n45, n54, true_or, or_true, false_or, or_false, false_and, and_false, kx_l, kx_r, go_s, gl_s, gi_s, gb_s2, gb_s3, gq_s, wt_nil, wt_int, wt_long, wt_ref, wt_null, nl_int, nl_long, nl_ref, nl_null, nl_none, rf_n, rf_s, rf_st, tl_s, tl_n, g0, gS, ex1, nb_b, nb_0, nb_1, nf_i, nf_l, nf_ra, nf_ro, nf_na, nf_no, nf_b0, nf_z0, t45_4, t45_5, true_and, and_true, List.set_cons_zero, List.set_cons_succ, List.length_cons, List.length_nil, rd_s, upw_s, ne_eq, not_false_eq_true, Nat.zero_add, Nat.add_zero, if_true, if_false, eq_self, tyX2]
    | split
    | with_reducible intro _
    | omega
set_option maxHeartbeats 4000000 in
theorem oL_seek {a1 : Int32} {a2 : Int32} (hR : RG g) (hL : LWO g w x nA cA lA y nM o kn km) (hQ : ∀ (v : Int32) (w' : Hw), LWO g w' x nA cA lA y nM o kn km → Q (.inl (some (.int v))) w') : WP (ML_seek g) Q (0, [some (.ref x), some (.int a1), some (.int a2), some (.ref o), none], [], w, 0, 0) := by
  repeat' first
    | with_reducible assumption
    | with_reducible refine And.intro ?_ ?_
    | with_reducible refine go_X hL.l (fun _ => trivial)
    | with_reducible refine sX1_seek hL.cc ?_ ?_ (fun _ => ?_)
    | refine hgo_h (HH := [(0, 11, 14, 19), (0, 11, 18, 74)]) (NN := [(19, "java/lang/IndexOutOfBoundsException"), (74, "java/lang/IllegalStateException")]) (h := 14) (E := "java/lang/IndexOutOfBoundsException") rfl rfl (by decide +kernel) (by decide) (fun _ => ?_)
    | refine hgo_h (HH := [(0, 11, 14, 19), (0, 11, 18, 74)]) (NN := [(19, "java/lang/IndexOutOfBoundsException"), (74, "java/lang/IllegalStateException")]) (h := 18) (E := "java/lang/IllegalStateException") rfl rfl (by decide +kernel) (by decide) (fun _ => ?_)
    | with_reducible refine go_OwO (by first | assumption | exact hL.of (by assumption) | exact hL.ext (by assumption) | exact (by assumption : ∀ a' b' : Value, LWO g (upw _ o (.inr (6, [a', b']))) x nA cA lA y nM o kn km) _ _) (fun _ _ _ => ?_)
    | with_reducible exact hQ _ _ (by first | assumption | exact hL.of (by assumption) | exact hL.ext (by assumption) | exact (by assumption : ∀ a' b' : Value, LWO g (upw _ o (.inr (6, [a', b']))) x nA cA lA y nM o kn km) _ _)
    | simp only [eL_seek_0, eL_seek_0N, eL_seek_1, eL_seek_1N, eL_seek_2, eL_seek_3, eL_seek_4, eL_seek_7, eL_seek_8, eL_seek_11, eL_seek_14, eL_seek_14N, eL_seek_16, eL_seek_17, eL_seek_18, eL_seek_18N, eL_seek_20, eL_seek_21, eL_seek_22, eL_seek_23, ite_le, n45, n54, true_or, or_true, false_or, or_false, false_and, and_false, kx_l, kx_r, go_s, gl_s, gi_s, gb_s2, gb_s3, gq_s, wt_nil, wt_int, wt_long, wt_ref, wt_null, nl_int, nl_long, nl_ref, nl_null, nl_none, rf_n, rf_s, rf_st, tl_s, tl_n, g0, gS, ex1, nb_b, nb_0, nb_1, nf_i, nf_l, nf_ra, nf_ro, nf_na, nf_no, nf_b0, nf_z0, t45_4, t45_5, true_and, and_true, List.set_cons_zero, List.set_cons_succ, List.length_cons, List.length_nil, rd_s, upw_s, ne_eq, not_false_eq_true, Nat.zero_add, Nat.add_zero, if_true, if_false, eq_self, tyX2]
    | split
    | with_reducible intro _
    | omega
set_option maxHeartbeats 4000000 in
theorem oL_howOften {a1 : Int32} (hR : RG g) (hL : LWO g w x nA cA lA y nM o kn km) (hQ : ∀ (v : Int32) (w' : Hw), LWO g w' x nA cA lA y nM o kn km → Q (.inl (some (.int v))) w') : WP (ML_howOften g) Q (0, [some (.ref x), some (.int a1), some (.ref o), none], [], w, 0, 0) := by
  repeat' first
    | with_reducible assumption
    | with_reducible refine And.intro ?_ ?_
    | with_reducible refine go_X hL.l (fun _ => trivial)
    | with_reducible refine sX1_howOften hL.cc ?_ ?_ (fun _ => ?_)
    | refine hgo_h (HH := [(0, 10, 13, 19), (0, 10, 16, 74)]) (NN := [(19, "java/lang/IndexOutOfBoundsException"), (74, "java/lang/IllegalStateException")]) (h := 13) (E := "java/lang/IndexOutOfBoundsException") rfl rfl (by decide +kernel) (by decide) (fun _ => ?_)
    | refine hgo_h (HH := [(0, 10, 13, 19), (0, 10, 16, 74)]) (NN := [(19, "java/lang/IndexOutOfBoundsException"), (74, "java/lang/IllegalStateException")]) (h := 16) (E := "java/lang/IllegalStateException") rfl rfl (by decide +kernel) (by decide) (fun _ => ?_)
    | with_reducible refine go_OwO (by first | assumption | exact hL.of (by assumption) | exact hL.ext (by assumption) | exact (by assumption : ∀ a' b' : Value, LWO g (upw _ o (.inr (6, [a', b']))) x nA cA lA y nM o kn km) _ _) (fun _ _ _ => ?_)
    | with_reducible exact hQ _ _ (by first | assumption | exact hL.of (by assumption) | exact hL.ext (by assumption) | exact (by assumption : ∀ a' b' : Value, LWO g (upw _ o (.inr (6, [a', b']))) x nA cA lA y nM o kn km) _ _)
    | simp only [eL_howOften_0, eL_howOften_0N, eL_howOften_1, eL_howOften_1N, eL_howOften_2, eL_howOften_3, eL_howOften_6, eL_howOften_7, eL_howOften_10, eL_howOften_13, eL_howOften_13N, eL_howOften_14, eL_howOften_15, eL_howOften_16, eL_howOften_16N, eL_howOften_17, eL_howOften_18, eL_howOften_19, eL_howOften_20, ite_le, n45, n54, true_or, or_true, false_or, or_false, false_and, and_false, kx_l, kx_r, go_s, gl_s, gi_s, gb_s2, gb_s3, gq_s, wt_nil, wt_int, wt_long, wt_ref, wt_null, nl_int, nl_long, nl_ref, nl_null, nl_none, rf_n, rf_s, rf_st, tl_s, tl_n, g0, gS, ex1, nb_b, nb_0, nb_1, nf_i, nf_l, nf_ra, nf_ro, nf_na, nf_no, nf_b0, nf_z0, t45_4, t45_5, true_and, and_true, List.set_cons_zero, List.set_cons_succ, List.length_cons, List.length_nil, rd_s, upw_s, ne_eq, not_false_eq_true, Nat.zero_add, Nat.add_zero, if_true, if_false, eq_self, tyX2]
    | split
    | with_reducible intro _
    | omega
set_option maxHeartbeats 4000000 in
theorem oL_lift {a1 : Int32} (hR : RG g) (hL : LWO g w x nA cA lA y nM o kn km) (hQ : ∀ (v : Int32) (w' : Hw), LWO g w' x nA cA lA y nM o kn km → Q (.inl (some (.int v))) w') : WP (ML_lift g) Q (0, [some (.ref x), some (.int a1), some (.ref o), none], [], w, 0, 0) := by
  repeat' first
    | with_reducible assumption
    | with_reducible refine And.intro ?_ ?_
    | with_reducible refine go_X hL.l (fun _ => trivial)
    | with_reducible refine oX1_lift hL.co ?_ ?_ (fun _ _ _ => ?_)
    | refine hgo_h (HH := [(0, 10, 13, 19), (0, 10, 16, 74)]) (NN := [(19, "java/lang/IndexOutOfBoundsException"), (74, "java/lang/IllegalStateException")]) (h := 13) (E := "java/lang/IndexOutOfBoundsException") rfl rfl (by decide +kernel) (by decide) (fun _ => ?_)
    | refine hgo_h (HH := [(0, 10, 13, 19), (0, 10, 16, 74)]) (NN := [(19, "java/lang/IndexOutOfBoundsException"), (74, "java/lang/IllegalStateException")]) (h := 16) (E := "java/lang/IllegalStateException") rfl rfl (by decide +kernel) (by decide) (fun _ => ?_)
    | with_reducible refine go_OwO (by first | assumption | exact hL.of (by assumption) | exact hL.ext (by assumption) | exact (by assumption : ∀ a' b' : Value, LWO g (upw _ o (.inr (6, [a', b']))) x nA cA lA y nM o kn km) _ _) (fun _ _ _ => ?_)
    | with_reducible exact hQ _ _ (by first | assumption | exact hL.of (by assumption) | exact hL.ext (by assumption) | exact (by assumption : ∀ a' b' : Value, LWO g (upw _ o (.inr (6, [a', b']))) x nA cA lA y nM o kn km) _ _)
    | simp only [eL_lift_0, eL_lift_0N, eL_lift_1, eL_lift_1N, eL_lift_2, eL_lift_3, eL_lift_6, eL_lift_7, eL_lift_10, eL_lift_13, eL_lift_13N, eL_lift_14, eL_lift_15, eL_lift_16, eL_lift_16N, eL_lift_17, eL_lift_18, eL_lift_19, eL_lift_20, ite_le, n45, n54, true_or, or_true, false_or, or_false, false_and, and_false, kx_l, kx_r, go_s, gl_s, gi_s, gb_s2, gb_s3, gq_s, wt_nil, wt_int, wt_long, wt_ref, wt_null, nl_int, nl_long, nl_ref, nl_null, nl_none, rf_n, rf_s, rf_st, tl_s, tl_n, g0, gS, ex1, nb_b, nb_0, nb_1, nf_i, nf_l, nf_ra, nf_ro, nf_na, nf_no, nf_b0, nf_z0, t45_4, t45_5, true_and, and_true, List.set_cons_zero, List.set_cons_succ, List.length_cons, List.length_nil, rd_s, upw_s, ne_eq, not_false_eq_true, Nat.zero_add, Nat.add_zero, if_true, if_false, eq_self, tyX2]
    | split
    | with_reducible intro _
    | omega
set_option maxHeartbeats 4000000 in
theorem oL_pick {a1 : Int32} {a2 : Int32} (hR : RG g) (hL : LWO g w x nA cA lA y nM o kn km) (hQ : ∀ (v : Int32) (w' : Hw), LWO g w' x nA cA lA y nM o kn km → Q (.inl (some (.int v))) w') : WP (ML_pick g) Q (0, [some (.ref x), some (.int a1), some (.int a2), some (.ref o), none], [], w, 0, 0) := by
  repeat' first
    | with_reducible assumption
    | with_reducible refine And.intro ?_ ?_
    | with_reducible refine go_X hL.l (fun _ => trivial)
    | with_reducible refine oX1_pick hL.co ?_ (fun _ _ _ => ?_)
    | refine hgo_h (HH := [(0, 11, 14, 19)]) (NN := [(19, "java/lang/IndexOutOfBoundsException")]) (h := 14) (E := "java/lang/IndexOutOfBoundsException") rfl rfl (by decide +kernel) (by decide) (fun _ => ?_)
    | with_reducible refine go_OwO (by first | assumption | exact hL.of (by assumption) | exact hL.ext (by assumption) | exact (by assumption : ∀ a' b' : Value, LWO g (upw _ o (.inr (6, [a', b']))) x nA cA lA y nM o kn km) _ _) (fun _ _ _ => ?_)
    | with_reducible exact hQ _ _ (by first | assumption | exact hL.of (by assumption) | exact hL.ext (by assumption) | exact (by assumption : ∀ a' b' : Value, LWO g (upw _ o (.inr (6, [a', b']))) x nA cA lA y nM o kn km) _ _)
    | simp only [eL_pick_0, eL_pick_0N, eL_pick_1, eL_pick_1N, eL_pick_2, eL_pick_3, eL_pick_4, eL_pick_7, eL_pick_8, eL_pick_11, eL_pick_14, eL_pick_14N, eL_pick_16, eL_pick_17, eL_pick_18, eL_pick_19, ite_le, n45, n54, true_or, or_true, false_or, or_false, false_and, and_false, kx_l, kx_r, go_s, gl_s, gi_s, gb_s2, gb_s3, gq_s, wt_nil, wt_int, wt_long, wt_ref, wt_null, nl_int, nl_long, nl_ref, nl_null, nl_none, rf_n, rf_s, rf_st, tl_s, tl_n, g0, gS, ex1, nb_b, nb_0, nb_1, nf_i, nf_l, nf_ra, nf_ro, nf_na, nf_no, nf_b0, nf_z0, t45_4, t45_5, true_and, and_true, List.set_cons_zero, List.set_cons_succ, List.length_cons, List.length_nil, rd_s, upw_s, ne_eq, not_false_eq_true, Nat.zero_add, Nat.add_zero, if_true, if_false, eq_self, tyX2]
    | split
    | with_reducible intro _
    | omega
set_option maxHeartbeats 4000000 in
theorem oL_pile {a1 : Int32} {a2 : Int32} (hR : RG g) (hL : LWO g w x nA cA lA y nM o kn km) (hQ : ∀ (v : Int32) (w' : Hw), LWO g w' x nA cA lA y nM o kn km → Q (.inl (some (.int v))) w') : WP (ML_pile g) Q (0, [some (.ref x), some (.int a1), some (.int a2), some (.ref o), none], [], w, 0, 0) := by
  repeat' first
    | with_reducible assumption
    | with_reducible refine And.intro ?_ ?_
    | with_reducible refine go_X hL.l (fun _ => trivial)
    | with_reducible refine sX1_pile hL.cc ?_ ?_ (fun _ => ?_)
    | refine hgo_h (HH := [(0, 11, 14, 19), (0, 11, 18, 28)]) (NN := [(19, "java/lang/IndexOutOfBoundsException"), (28, "java/lang/IllegalArgumentException")]) (h := 14) (E := "java/lang/IndexOutOfBoundsException") rfl rfl (by decide +kernel) (by decide) (fun _ => ?_)
    | refine hgo_h (HH := [(0, 11, 14, 19), (0, 11, 18, 28)]) (NN := [(19, "java/lang/IndexOutOfBoundsException"), (28, "java/lang/IllegalArgumentException")]) (h := 18) (E := "java/lang/IllegalArgumentException") rfl rfl (by decide +kernel) (by decide) (fun _ => ?_)
    | with_reducible refine go_OwO (by first | assumption | exact hL.of (by assumption) | exact hL.ext (by assumption) | exact (by assumption : ∀ a' b' : Value, LWO g (upw _ o (.inr (6, [a', b']))) x nA cA lA y nM o kn km) _ _) (fun _ _ _ => ?_)
    | with_reducible exact hQ _ _ (by first | assumption | exact hL.of (by assumption) | exact hL.ext (by assumption) | exact (by assumption : ∀ a' b' : Value, LWO g (upw _ o (.inr (6, [a', b']))) x nA cA lA y nM o kn km) _ _)
    | simp only [eL_pile_0, eL_pile_0N, eL_pile_1, eL_pile_1N, eL_pile_2, eL_pile_3, eL_pile_4, eL_pile_7, eL_pile_8, eL_pile_11, eL_pile_14, eL_pile_14N, eL_pile_16, eL_pile_17, eL_pile_18, eL_pile_18N, eL_pile_20, eL_pile_21, eL_pile_22, eL_pile_23, ite_le, n45, n54, true_or, or_true, false_or, or_false, false_and, and_false, kx_l, kx_r, go_s, gl_s, gi_s, gb_s2, gb_s3, gq_s, wt_nil, wt_int, wt_long, wt_ref, wt_null, nl_int, nl_long, nl_ref, nl_null, nl_none, rf_n, rf_s, rf_st, tl_s, tl_n, g0, gS, ex1, nb_b, nb_0, nb_1, nf_i, nf_l, nf_ra, nf_ro, nf_na, nf_no, nf_b0, nf_z0, t45_4, t45_5, true_and, and_true, List.set_cons_zero, List.set_cons_succ, List.length_cons, List.length_nil, rd_s, upw_s, ne_eq, not_false_eq_true, Nat.zero_add, Nat.add_zero, if_true, if_false, eq_self, tyX2]
    | split
    | with_reducible intro _
    | omega
set_option maxHeartbeats 4000000 in
theorem oL_house {a1 : Int32} (hR : RG g) (hL : LWO g w x nA cA lA y nM o kn km) (hQ : ∀ (v : Int32) (w' : Hw), LWO g w' x nA cA lA y nM o kn km → Q (.inl (some (.int v))) w') : WP (ML_house g) Q (0, [some (.ref x), some (.int a1), some (.ref o), none], [], w, 0, 0) := by
  repeat' first
    | with_reducible assumption
    | with_reducible refine And.intro ?_ ?_
    | with_reducible refine go_X hL.l (fun _ => trivial)
    | with_reducible refine sX1_house hL.cc ?_ (fun _ => ?_)
    | refine hgo_h (HH := [(0, 10, 13, 28)]) (NN := [(28, "java/lang/IllegalArgumentException")]) (h := 13) (E := "java/lang/IllegalArgumentException") rfl rfl (by decide +kernel) (by decide) (fun _ => ?_)
    | with_reducible refine go_OwO (by first | assumption | exact hL.of (by assumption) | exact hL.ext (by assumption) | exact (by assumption : ∀ a' b' : Value, LWO g (upw _ o (.inr (6, [a', b']))) x nA cA lA y nM o kn km) _ _) (fun _ _ _ => ?_)
    | with_reducible exact hQ _ _ (by first | assumption | exact hL.of (by assumption) | exact hL.ext (by assumption) | exact (by assumption : ∀ a' b' : Value, LWO g (upw _ o (.inr (6, [a', b']))) x nA cA lA y nM o kn km) _ _)
    | simp only [eL_house_0, eL_house_0N, eL_house_1, eL_house_1N, eL_house_2, eL_house_3, eL_house_6, eL_house_7, eL_house_10, eL_house_13, eL_house_13N, eL_house_14, eL_house_15, eL_house_16, eL_house_17, ite_le, n45, n54, true_or, or_true, false_or, or_false, false_and, and_false, kx_l, kx_r, go_s, gl_s, gi_s, gb_s2, gb_s3, gq_s, wt_nil, wt_int, wt_long, wt_ref, wt_null, nl_int, nl_long, nl_ref, nl_null, nl_none, rf_n, rf_s, rf_st, tl_s, tl_n, g0, gS, ex1, nb_b, nb_0, nb_1, nf_i, nf_l, nf_ra, nf_ro, nf_na, nf_no, nf_b0, nf_z0, t45_4, t45_5, true_and, and_true, List.set_cons_zero, List.set_cons_succ, List.length_cons, List.length_nil, rd_s, upw_s, ne_eq, not_false_eq_true, Nat.zero_add, Nat.add_zero, if_true, if_false, eq_self, tyX2]
    | split
    | with_reducible intro _
    | omega
end
