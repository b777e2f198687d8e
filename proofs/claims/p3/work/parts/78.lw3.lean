section
variable {g : RO} {Q : Ot → Hw → Prop} {w : Hw} {x nA cA lA y nM o : Nat} {kn km th : Int32} {s s2 : AS}
set_option maxHeartbeats 4000000 in
theorem fL_isFixed {a0 : Int32} (hL : LW g w x nA cA lA y nM o kn km th s s2) (hX : ¬ okC a0 → Q (.inl (some (.int 1))) w) (hS : okC a0 → s.2.1 a0.toNatClampNeg = none → Q (.inl (some (.int 2))) w) (hT : okC a0 → ∀ r, s.2.1 a0.toNatClampNeg = some r → fP r → ∀ w', LW g w' x nA cA lA y nM o kn km th s s2 → outN w' o (1) → Q (.inl (some (.int 0))) w') (hF : okC a0 → ∀ r, s.2.1 a0.toNatClampNeg = some r → ¬ (fP r) → ∀ w', LW g w' x nA cA lA y nM o kn km th s s2 → outN w' o (0) → Q (.inl (some (.int 0))) w') : WP (ML_isFixed g) Q (0, [some (.ref x), some (.int a0), some (.ref o), none], [], w, 0, 0) := by
  have ho := hL.2.1
  repeat' first
    | with_reducible assumption
    | with_reducible refine And.intro ?_ ?_
    | with_reducible refine LW.gx hL (fun _ => trivial)
    | with_reducible refine fX1_isFixed hL.cs (fun hXc0 => ?_) (fun hSc0 hSc1 => ?_) (fun hTc0 hTr hTc1 hTc2 => ?_) (fun hFc0 hFr hFc1 hFc2 => ?_)
    | refine hgo_h (HH := [(0, 17, 20, 19), (0, 17, 23, 74)]) (NN := [(19, "java/lang/IndexOutOfBoundsException"), (74, "java/lang/IllegalStateException")]) (h := 20) (E := "java/lang/IndexOutOfBoundsException") rfl rfl (by decide +kernel) (by decide) (fun _ => ?_)
    | refine hgo_h (HH := [(0, 17, 20, 19), (0, 17, 23, 74)]) (NN := [(19, "java/lang/IndexOutOfBoundsException"), (74, "java/lang/IllegalStateException")]) (h := 23) (E := "java/lang/IllegalStateException") rfl rfl (by decide +kernel) (by decide) (fun _ => ?_)
    | with_reducible exact hX hXc0
    | with_reducible exact hS hSc0 hSc1
    | with_reducible exact hT hTc0 hTr hTc1 hTc2 _ (hw _ _) outN.mk
    | with_reducible exact hF hFc0 hFr hFc1 hFc2 _ (hw _ _) outN.mk
    | with_reducible refine go_OF hL (fun _ _ hw => ?_)
    | simp only [eL_isFixed_0, eL_isFixed_0N, eL_isFixed_1, eL_isFixed_1N, eL_isFixed_2, eL_isFixed_3, eL_isFixed_6, eL_isFixed_9, eL_isFixed_10, eL_isFixed_13, eL_isFixed_14, eL_isFixed_17, eL_isFixed_20, eL_isFixed_20N, eL_isFixed_21, eL_isFixed_22, eL_isFixed_23, eL_isFixed_23N, eL_isFixed_24, eL_isFixed_25, eL_isFixed_26, eL_isFixed_27, i10, i00, ite_le, n45, n54, true_or, or_true, false_or, or_false, false_and, and_false, kx_l, kx_r, go_s, gl_s, gi_s, gb_s2, gb_s3, gq_s, wt_nil, wt_int, wt_long, wt_ref, wt_null, nl_int, nl_long, nl_ref, nl_null, nl_none, rf_n, rf_s, rf_st, tl_s, tl_n, g0, gS, ex1, nb_b, nb_0, nb_1, nf_i, nf_l, nf_ra, nf_ro, nf_na, nf_no, nf_b0, nf_z0, t45_4, t45_5, true_and, and_true, List.set_cons_zero, List.set_cons_succ, List.length_cons, List.length_nil, rd_s, upw_s, ne_eq, not_false_eq_true, Nat.zero_add, Nat.add_zero, if_true, if_false, eq_self, tyX2]
    | split
    | with_reducible intro _
    | omega
set_option maxHeartbeats 4000000 in
theorem fL_isSmall {a0 : Int32} (hL : LW g w x nA cA lA y nM o kn km th s s2) (hX : ¬ okC a0 → Q (.inl (some (.int 1))) w) (hS : okC a0 → s.2.1 a0.toNatClampNeg = none → Q (.inl (some (.int 2))) w) (hT : okC a0 → ∀ r, s.2.1 a0.toNatClampNeg = some r → sP r → ∀ w', LW g w' x nA cA lA y nM o kn km th s s2 → outN w' o (1) → Q (.inl (some (.int 0))) w') (hF : okC a0 → ∀ r, s.2.1 a0.toNatClampNeg = some r → ¬ (sP r) → ∀ w', LW g w' x nA cA lA y nM o kn km th s s2 → outN w' o (0) → Q (.inl (some (.int 0))) w') : WP (ML_isSmall g) Q (0, [some (.ref x), some (.int a0), some (.ref o), none], [], w, 0, 0) := by
  have ho := hL.2.1
  repeat' first
    | with_reducible assumption
    | with_reducible refine And.intro ?_ ?_
    | with_reducible refine LW.gx hL (fun _ => trivial)
    | with_reducible refine fX1_isSmall hL.cs (fun hXc0 => ?_) (fun hSc0 hSc1 => ?_) (fun hTc0 hTr hTc1 hTc2 => ?_) (fun hFc0 hFr hFc1 hFc2 => ?_)
    | refine hgo_h (HH := [(0, 17, 20, 19), (0, 17, 23, 74)]) (NN := [(19, "java/lang/IndexOutOfBoundsException"), (74, "java/lang/IllegalStateException")]) (h := 20) (E := "java/lang/IndexOutOfBoundsException") rfl rfl (by decide +kernel) (by decide) (fun _ => ?_)
    | refine hgo_h (HH := [(0, 17, 20, 19), (0, 17, 23, 74)]) (NN := [(19, "java/lang/IndexOutOfBoundsException"), (74, "java/lang/IllegalStateException")]) (h := 23) (E := "java/lang/IllegalStateException") rfl rfl (by decide +kernel) (by decide) (fun _ => ?_)
    | with_reducible exact hX hXc0
    | with_reducible exact hS hSc0 hSc1
    | with_reducible exact hT hTc0 hTr hTc1 hTc2 _ (hw _ _) outN.mk
    | with_reducible exact hF hFc0 hFr hFc1 hFc2 _ (hw _ _) outN.mk
    | with_reducible refine go_OF hL (fun _ _ hw => ?_)
    | simp only [eL_isSmall_0, eL_isSmall_0N, eL_isSmall_1, eL_isSmall_1N, eL_isSmall_2, eL_isSmall_3, eL_isSmall_6, eL_isSmall_9, eL_isSmall_10, eL_isSmall_13, eL_isSmall_14, eL_isSmall_17, eL_isSmall_20, eL_isSmall_20N, eL_isSmall_21, eL_isSmall_22, eL_isSmall_23, eL_isSmall_23N, eL_isSmall_24, eL_isSmall_25, eL_isSmall_26, eL_isSmall_27, i10, i00, ite_le, n45, n54, true_or, or_true, false_or, or_false, false_and, and_false, kx_l, kx_r, go_s, gl_s, gi_s, gb_s2, gb_s3, gq_s, wt_nil, wt_int, wt_long, wt_ref, wt_null, nl_int, nl_long, nl_ref, nl_null, nl_none, rf_n, rf_s, rf_st, tl_s, tl_n, g0, gS, ex1, nb_b, nb_0, nb_1, nf_i, nf_l, nf_ra, nf_ro, nf_na, nf_no, nf_b0, nf_z0, t45_4, t45_5, true_and, and_true, List.set_cons_zero, List.set_cons_succ, List.length_cons, List.length_nil, rd_s, upw_s, ne_eq, not_false_eq_true, Nat.zero_add, Nat.add_zero, if_true, if_false, eq_self, tyX2]
    | split
    | with_reducible intro _
    | omega
set_option maxHeartbeats 4000000 in
theorem fL_end {a0 a1 a2 : Int32} (hL : LW g w x nA cA lA y nM o kn km th s s2) (hX : ¬ okC a0 → Q (.inl (some (.int 1))) w) (hW : okC a0 → ¬ okW a1 3 → Q (.inl (some (.int 2))) w) (hS : okC a0 → okW a1 3 → s.2.1 a0.toNatClampNeg = none → Q (.inl (some (.int 3))) w) (hQ : okC a0 → okW a1 3 → ∀ r, s.2.1 a0.toNatClampNeg = some r → ∀ w', LW g w' x nA cA lA y nM o kn km th s s2 → outN w' o ((hfV (eV r a1) a2).toInt64) → Q (.inl (some (.int 0))) w') : WP (ML_end g) Q (0, [some (.ref x), some (.int a0), some (.int a1), some (.int a2), some (.ref o), none], [], w, 0, 0) := by
  have ho := hL.2.1
  repeat' first
    | with_reducible assumption
    | with_reducible refine And.intro ?_ ?_
    | with_reducible refine LW.gx hL (fun _ => trivial)
    | with_reducible refine fX1_end hL.cs (fun hXc0 => ?_) (fun hWc0 hWc1 => ?_) (fun hSc0 hSc1 hSc2 => ?_) (fun hQc0 hQc1 hQr hQc2 => ?_)
    | refine hgo_h (HH := [(0, 13, 16, 19), (0, 13, 20, 28), (0, 13, 24, 74)]) (NN := [(19, "java/lang/IndexOutOfBoundsException"), (28, "java/lang/IllegalArgumentException"), (74, "java/lang/IllegalStateException")]) (h := 16) (E := "java/lang/IndexOutOfBoundsException") rfl rfl (by decide +kernel) (by decide) (fun _ => ?_)
    | refine hgo_h (HH := [(0, 13, 16, 19), (0, 13, 20, 28), (0, 13, 24, 74)]) (NN := [(19, "java/lang/IndexOutOfBoundsException"), (28, "java/lang/IllegalArgumentException"), (74, "java/lang/IllegalStateException")]) (h := 20) (E := "java/lang/IllegalArgumentException") rfl rfl (by decide +kernel) (by decide) (fun _ => ?_)
    | refine hgo_h (HH := [(0, 13, 16, 19), (0, 13, 20, 28), (0, 13, 24, 74)]) (NN := [(19, "java/lang/IndexOutOfBoundsException"), (28, "java/lang/IllegalArgumentException"), (74, "java/lang/IllegalStateException")]) (h := 24) (E := "java/lang/IllegalStateException") rfl rfl (by decide +kernel) (by decide) (fun _ => ?_)
    | with_reducible exact hX hXc0
    | with_reducible exact hW hWc0 hWc1
    | with_reducible exact hS hSc0 hSc1 hSc2
    | with_reducible exact hQ hQc0 hQc1 hQr hQc2 _ (hw _ _) outN.mk
    | with_reducible refine go_OF hL (fun _ _ hw => ?_)
    | simp only [eL_end_0, eL_end_0N, eL_end_2, eL_end_2N, eL_end_3, eL_end_4, eL_end_5, eL_end_6, eL_end_9, eL_end_10, eL_end_13, eL_end_16, eL_end_16N, eL_end_18, eL_end_19, eL_end_20, eL_end_20N, eL_end_22, eL_end_23, eL_end_24, eL_end_24N, eL_end_26, eL_end_27, eL_end_28, eL_end_29, i10, i00, ite_le, n45, n54, true_or, or_true, false_or, or_false, false_and, and_false, kx_l, kx_r, go_s, gl_s, gi_s, gb_s2, gb_s3, gq_s, wt_nil, wt_int, wt_long, wt_ref, wt_null, nl_int, nl_long, nl_ref, nl_null, nl_none, rf_n, rf_s, rf_st, tl_s, tl_n, g0, gS, ex1, nb_b, nb_0, nb_1, nf_i, nf_l, nf_ra, nf_ro, nf_na, nf_no, nf_b0, nf_z0, t45_4, t45_5, true_and, and_true, List.set_cons_zero, List.set_cons_succ, List.length_cons, List.length_nil, rd_s, upw_s, ne_eq, not_false_eq_true, Nat.zero_add, Nat.add_zero, if_true, if_false, eq_self, tyX2]
    | split
    | with_reducible intro _
    | omega
set_option maxHeartbeats 4000000 in
theorem fL_take {a0 a1 a2 : Int32} (hL : LW g w x nA cA lA y nM o kn km th s s2) (hX : ¬ (okC a0 ∧ okN a2) → Q (.inl (some (.int 1))) w) (hW : okC a0 → okN a2 → ¬ okW a1 3 → Q (.inl (some (.int 2))) w) (hS : okC a0 → okN a2 → okW a1 3 → s.2.1 a0.toNatClampNeg = none → Q (.inl (some (.int 3))) w) (hQ : okC a0 → okN a2 → okW a1 3 → ∀ r, s.2.1 a0.toNatClampNeg = some r → ∀ w', LW g w' x nA cA lA y nM o kn km th (sN s (vp_updL s.1 a2.toNatClampNeg (eV r a1))) s2 → outN w' o ((loV (eV r a1)).toInt64) → Q (.inl (some (.int 0))) w') : WP (ML_take g) Q (0, [some (.ref x), some (.int a0), some (.int a1), some (.int a2), some (.ref o), none], [], w, 0, 0) := by
  have ho := hL.2.1
  repeat' first
    | with_reducible assumption
    | with_reducible refine And.intro ?_ ?_
    | with_reducible refine LW.gx hL (fun _ => trivial)
    | with_reducible refine fX1_take hL.cs (fun hXc0 => ?_) (fun hWc0 hWc1 hWc2 => ?_) (fun hSc0 hSc1 hSc2 hSc3 => ?_) (fun hQc0 hQc1 hQc2 hQr hQc3 hQw hQh => ?_)
    | refine hgo_h (HH := [(0, 13, 16, 19), (0, 13, 20, 28), (0, 13, 24, 74)]) (NN := [(19, "java/lang/IndexOutOfBoundsException"), (28, "java/lang/IllegalArgumentException"), (74, "java/lang/IllegalStateException")]) (h := 16) (E := "java/lang/IndexOutOfBoundsException") rfl rfl (by decide +kernel) (by decide) (fun _ => ?_)
    | refine hgo_h (HH := [(0, 13, 16, 19), (0, 13, 20, 28), (0, 13, 24, 74)]) (NN := [(19, "java/lang/IndexOutOfBoundsException"), (28, "java/lang/IllegalArgumentException"), (74, "java/lang/IllegalStateException")]) (h := 20) (E := "java/lang/IllegalArgumentException") rfl rfl (by decide +kernel) (by decide) (fun _ => ?_)
    | refine hgo_h (HH := [(0, 13, 16, 19), (0, 13, 20, 28), (0, 13, 24, 74)]) (NN := [(19, "java/lang/IndexOutOfBoundsException"), (28, "java/lang/IllegalArgumentException"), (74, "java/lang/IllegalStateException")]) (h := 24) (E := "java/lang/IllegalStateException") rfl rfl (by decide +kernel) (by decide) (fun _ => ?_)
    | with_reducible exact hX hXc0
    | with_reducible exact hW hWc0 hWc1 hWc2
    | with_reducible exact hS hSc0 hSc1 hSc2 hSc3
    | with_reducible refine go_OF (LW.of hL hQh (by first | with_reducible exact ho | with_reducible exact ho.num | with_reducible exact ho.rf | with_reducible exact ho.mk (by assumption) | with_reducible exact ho.mk (ho.c' (by assumption) (by assumption)) | with_reducible exact ho.mkO (by assumption) (by assumption) | with_reducible exact ho.card0 | with_reducible exact ho.card (ho.c' (by assumption) (by assumption)) | with_reducible exact ho.card (ho.p' (by assumption)) | with_reducible exact ho.lay (ho.c' (by assumption) (by assumption)) (by assumption) | with_reducible exact ho.gap (by assumption) | with_reducible exact ho.tur | with_reducible exact ho.zero)) (fun _ _ hw => ?_)
    | with_reducible exact hQ hQc0 hQc1 hQc2 hQr hQc3 _ (hw _ _) outN.mk
    | with_reducible refine go_OF hL (fun _ _ hw => ?_)
    | simp only [eL_take_0, eL_take_0N, eL_take_2, eL_take_2N, eL_take_3, eL_take_4, eL_take_5, eL_take_6, eL_take_9, eL_take_10, eL_take_13, eL_take_16, eL_take_16N, eL_take_18, eL_take_19, eL_take_20, eL_take_20N, eL_take_22, eL_take_23, eL_take_24, eL_take_24N, eL_take_26, eL_take_27, eL_take_28, eL_take_29, i10, i00, ite_le, n45, n54, true_or, or_true, false_or, or_false, false_and, and_false, kx_l, kx_r, go_s, gl_s, gi_s, gb_s2, gb_s3, gq_s, wt_nil, wt_int, wt_long, wt_ref, wt_null, nl_int, nl_long, nl_ref, nl_null, nl_none, rf_n, rf_s, rf_st, tl_s, tl_n, g0, gS, ex1, nb_b, nb_0, nb_1, nf_i, nf_l, nf_ra, nf_ro, nf_na, nf_no, nf_b0, nf_z0, t45_4, t45_5, true_and, and_true, List.set_cons_zero, List.set_cons_succ, List.length_cons, List.length_nil, rd_s, upw_s, ne_eq, not_false_eq_true, Nat.zero_add, Nat.add_zero, if_true, if_false, eq_self, tyX2]
    | split
    | with_reducible intro _
    | omega
set_option maxHeartbeats 4000000 in
theorem gL_cardText {a0 : Int32} (hR : RG g) (hL : LW g w x nA cA lA y nM o kn km th s s2) (hQ : ∀ (v : Int32) (w' : Hw), LW g w' x nA cA lA y nM o kn km th s s2 → Q (.inl (some (.int v))) w') : WP (ML_cardText g) Q (0, [some (.ref x), some (.int a0), some (.ref o), none], [], w, 0, 0) := by
  repeat' first
    | with_reducible assumption
    | with_reducible refine And.intro ?_ ?_
    | with_reducible refine LW.gx hL (fun _ => trivial)
    | with_reducible refine sX1_cardText hL.cc hR.sg (hR.dg hL.ro) hR.r20 ?_ (fun _ _ _ => ?_)
    | refine hgo_h (HH := [(0, 9, 12, 19)]) (NN := [(19, "java/lang/IndexOutOfBoundsException")]) (h := 12) (E := "java/lang/IndexOutOfBoundsException") rfl rfl (by decide +kernel) (by decide) (fun _ => ?_)
    | with_reducible refine go_OF (by first | assumption | exact hL | exact hL.ext (by assumption)) (fun _ _ hw => ?_)
    | with_reducible exact hQ _ _ (hw _ _)
    | with_reducible exact hQ _ _ hL
    | simp only [eL_cardText_0, eL_cardText_0N, eL_cardText_1, eL_cardText_1N, eL_cardText_2, eL_cardText_3, eL_cardText_6, eL_cardText_9, eL_cardText_12, eL_cardText_12N, eL_cardText_13, eL_cardText_14, eL_cardText_15, eL_cardText_16, ite_le, n45, n54, true_or, or_true, false_or, or_false, false_and, and_false, kx_l, kx_r, go_s, gl_s, gi_s, gb_s2, gb_s3, gq_s, wt_nil, wt_int, wt_long, wt_ref, wt_null, nl_int, nl_long, nl_ref, nl_null, nl_none, rf_n, rf_s, rf_st, tl_s, tl_n, g0, gS, ex1, nb_b, nb_0, nb_1, nf_i, nf_l, nf_ra, nf_ro, nf_na, nf_no, nf_b0, nf_z0, t45_4, t45_5, true_and, and_true, List.set_cons_zero, List.set_cons_succ, List.length_cons, List.length_nil, rd_s, upw_s, ne_eq, not_false_eq_true, Nat.zero_add, Nat.add_zero, if_true, if_false, eq_self, tyX2]
    | split
    | with_reducible intro _
    | omega
set_option maxHeartbeats 4000000 in
theorem fL_isValid {a0 a1 : Int32} (hL : LW g w x nA cA lA y nM o kn km th s s2) (hX : ¬ (okC a0 ∧ okN a1) → Q (.inl (some (.int 1))) w) (hS : okC a0 → okN a1 → s.2.1 a0.toNatClampNeg = none → Q (.inl (some (.int 2))) w) (hT : okC a0 → okN a1 → ∀ r, s.2.1 a0.toNatClampNeg = some r → hP r (s.1 a1.toNatClampNeg) → ∀ w', LW g w' x nA cA lA y nM o kn km th s s2 → outN w' o (1) → Q (.inl (some (.int 0))) w') (hF : okC a0 → okN a1 → ∀ r, s.2.1 a0.toNatClampNeg = some r → ¬ (hP r (s.1 a1.toNatClampNeg)) → ∀ w', LW g w' x nA cA lA y nM o kn km th s s2 → outN w' o (0) → Q (.inl (some (.int 0))) w') : WP (ML_isValid g) Q (0, [some (.ref x), some (.int a0), some (.int a1), some (.ref o), none], [], w, 0, 0) := by
  have ho := hL.2.1
  repeat' first
    | with_reducible assumption
    | with_reducible refine And.intro ?_ ?_
    | with_reducible refine LW.gx hL (fun _ => trivial)
    | with_reducible refine fX1_isValid hL.cs (fun hXc0 => ?_) (fun hSc0 hSc1 hSc2 => ?_) (fun hTc0 hTc1 hTr hTc2 hTc3 => ?_) (fun hFc0 hFc1 hFr hFc2 hFc3 => ?_)
    | refine hgo_h (HH := [(0, 18, 21, 19), (0, 18, 25, 74)]) (NN := [(19, "java/lang/IndexOutOfBoundsException"), (74, "java/lang/IllegalStateException")]) (h := 21) (E := "java/lang/IndexOutOfBoundsException") rfl rfl (by decide +kernel) (by decide) (fun _ => ?_)
    | refine hgo_h (HH := [(0, 18, 21, 19), (0, 18, 25, 74)]) (NN := [(19, "java/lang/IndexOutOfBoundsException"), (74, "java/lang/IllegalStateException")]) (h := 25) (E := "java/lang/IllegalStateException") rfl rfl (by decide +kernel) (by decide) (fun _ => ?_)
    | with_reducible exact hX hXc0
    | with_reducible exact hS hSc0 hSc1 hSc2
    | with_reducible exact hT hTc0 hTc1 hTr hTc2 hTc3 _ (hw _ _) outN.mk
    | with_reducible exact hF hFc0 hFc1 hFr hFc2 hFc3 _ (hw _ _) outN.mk
    | with_reducible refine go_OF hL (fun _ _ hw => ?_)
    | simp only [eL_isValid_0, eL_isValid_0N, eL_isValid_1, eL_isValid_1N, eL_isValid_2, eL_isValid_3, eL_isValid_4, eL_isValid_7, eL_isValid_10, eL_isValid_11, eL_isValid_14, eL_isValid_15, eL_isValid_18, eL_isValid_21, eL_isValid_21N, eL_isValid_23, eL_isValid_24, eL_isValid_25, eL_isValid_25N, eL_isValid_27, eL_isValid_28, eL_isValid_29, eL_isValid_30, i10, i00, ite_le, n45, n54, true_or, or_true, false_or, or_false, false_and, and_false, kx_l, kx_r, go_s, gl_s, gi_s, gb_s2, gb_s3, gq_s, wt_nil, wt_int, wt_long, wt_ref, wt_null, nl_int, nl_long, nl_ref, nl_null, nl_none, rf_n, rf_s, rf_st, tl_s, tl_n, g0, gS, ex1, nb_b, nb_0, nb_1, nf_i, nf_l, nf_ra, nf_ro, nf_na, nf_no, nf_b0, nf_z0, t45_4, t45_5, true_and, and_true, List.set_cons_zero, List.set_cons_succ, List.length_cons, List.length_nil, rd_s, upw_s, ne_eq, not_false_eq_true, Nat.zero_add, Nat.add_zero, if_true, if_false, eq_self, tyX2]
    | split
    | with_reducible intro _
    | omega
set_option maxHeartbeats 4000000 in
theorem fL_isValidSmall {a0 a1 : Int32} (hL : LW g w x nA cA lA y nM o kn km th s s2) (hX : ¬ (okC a0 ∧ okN a1) → Q (.inl (some (.int 1))) w) (hS : okC a0 → okN a1 → s.2.1 a0.toNatClampNeg = none → Q (.inl (some (.int 2))) w) (hT : okC a0 → okN a1 → ∀ r, s.2.1 a0.toNatClampNeg = some r → (sP r ∧ hP r (s.1 a1.toNatClampNeg)) → ∀ w', LW g w' x nA cA lA y nM o kn km th s s2 → outN w' o (1) → Q (.inl (some (.int 0))) w') (hF : okC a0 → okN a1 → ∀ r, s.2.1 a0.toNatClampNeg = some r → ¬ ((sP r ∧ hP r (s.1 a1.toNatClampNeg))) → ∀ w', LW g w' x nA cA lA y nM o kn km th s s2 → outN w' o (0) → Q (.inl (some (.int 0))) w') : WP (ML_isValidSmall g) Q (0, [some (.ref x), some (.int a0), some (.int a1), some (.ref o), none], [], w, 0, 0) := by
  have ho := hL.2.1
  repeat' first
    | with_reducible assumption
    | with_reducible refine And.intro ?_ ?_
    | with_reducible refine LW.gx hL (fun _ => trivial)
    | with_reducible refine fX1_isValidSmall hL.cs (fun hXc0 => ?_) (fun hSc0 hSc1 hSc2 => ?_) (fun hTc0 hTc1 hTr hTc2 hTc3 => ?_) (fun hFc0 hFc1 hFr hFc2 hFc3 => ?_)
    | refine hgo_h (HH := [(0, 18, 21, 19), (0, 18, 25, 74)]) (NN := [(19, "java/lang/IndexOutOfBoundsException"), (74, "java/lang/IllegalStateException")]) (h := 21) (E := "java/lang/IndexOutOfBoundsException") rfl rfl (by decide +kernel) (by decide) (fun _ => ?_)
    | refine hgo_h (HH := [(0, 18, 21, 19), (0, 18, 25, 74)]) (NN := [(19, "java/lang/IndexOutOfBoundsException"), (74, "java/lang/IllegalStateException")]) (h := 25) (E := "java/lang/IllegalStateException") rfl rfl (by decide +kernel) (by decide) (fun _ => ?_)
    | with_reducible exact hX hXc0
    | with_reducible exact hS hSc0 hSc1 hSc2
    | with_reducible exact hT hTc0 hTc1 hTr hTc2 hTc3 _ (hw _ _) outN.mk
    | with_reducible exact hF hFc0 hFc1 hFr hFc2 hFc3 _ (hw _ _) outN.mk
    | with_reducible refine go_OF hL (fun _ _ hw => ?_)
    | simp only [eL_isValidSmall_0, eL_isValidSmall_0N, eL_isValidSmall_1, eL_isValidSmall_1N, eL_isValidSmall_2, eL_isValidSmall_3, eL_isValidSmall_4, eL_isValidSmall_7, eL_isValidSmall_10, eL_isValidSmall_11, eL_isValidSmall_14, eL_isValidSmall_15, eL_isValidSmall_18, eL_isValidSmall_21, eL_isValidSmall_21N, eL_isValidSmall_23, eL_isValidSmall_24, eL_isValidSmall_25, eL_isValidSmall_25N, eL_isValidSmall_27, eL_isValidSmall_28, eL_isValidSmall_29, eL_isValidSmall_30, i10, i00, ite_le, n45, n54, true_or, or_true, false_or, or_false, false_and, and_false, kx_l, kx_r, go_s, gl_s, gi_s, gb_s2, gb_s3, gq_s, wt_nil, wt_int, wt_long, wt_ref, wt_null, nl_int, nl_long, nl_ref, nl_null, nl_none, rf_n, rf_s, rf_st, tl_s, tl_n, g0, gS, ex1, nb_b, nb_0, nb_1, nf_i, nf_l, nf_ra, nf_ro, nf_na, nf_no, nf_b0, nf_z0, t45_4, t45_5, true_and, and_true, List.set_cons_zero, List.set_cons_succ, List.length_cons, List.length_nil, rd_s, upw_s, ne_eq, not_false_eq_true, Nat.zero_add, Nat.add_zero, if_true, if_false, eq_self, tyX2]
    | split
    | with_reducible intro _
    | omega
set_option maxHeartbeats 4000000 in
theorem fL_whichValid {a0 a1 : Int32} (hL : LW g w x nA cA lA y nM o kn km th s s2) (hX : ¬ okC a0 → Q (.inl (some (.int 1))) w) (hS : okC a0 → s.2.1 a0.toNatClampNeg = none → Q (.inl (some (.int 2))) w) (hQ : okC a0 → ∀ r, s.2.1 a0.toNatClampNeg = some r → ∀ w', LW g w' x nA cA lA y nM o kn km th s s2 → outN w' o ((wV r a1.toInt64).toInt64) → Q (.inl (some (.int 0))) w') : WP (ML_whichValid g) Q (0, [some (.ref x), some (.int a0), some (.int a1), some (.ref o), none], [], w, 0, 0) := by
  have ho := hL.2.1
  repeat' first
    | with_reducible assumption
    | with_reducible refine And.intro ?_ ?_
    | with_reducible refine LW.gx hL (fun _ => trivial)
    | with_reducible refine fX1_whichValid hL.cs (fun hXc0 => ?_) (fun hSc0 hSc1 => ?_) (fun hQc0 hQr hQc1 => ?_)
    | refine hgo_h (HH := [(0, 11, 14, 19), (0, 11, 18, 74)]) (NN := [(19, "java/lang/IndexOutOfBoundsException"), (74, "java/lang/IllegalStateException")]) (h := 14) (E := "java/lang/IndexOutOfBoundsException") rfl rfl (by decide +kernel) (by decide) (fun _ => ?_)
    | refine hgo_h (HH := [(0, 11, 14, 19), (0, 11, 18, 74)]) (NN := [(19, "java/lang/IndexOutOfBoundsException"), (74, "java/lang/IllegalStateException")]) (h := 18) (E := "java/lang/IllegalStateException") rfl rfl (by decide +kernel) (by decide) (fun _ => ?_)
    | with_reducible exact hX hXc0
    | with_reducible exact hS hSc0 hSc1
    | with_reducible exact hQ hQc0 hQr hQc1 _ (hw _ _) outN.mk
    | with_reducible refine go_OF hL (fun _ _ hw => ?_)
    | simp only [eL_whichValid_0, eL_whichValid_0N, eL_whichValid_1, eL_whichValid_1N, eL_whichValid_2, eL_whichValid_3, eL_whichValid_4, eL_whichValid_7, eL_whichValid_8, eL_whichValid_11, eL_whichValid_14, eL_whichValid_14N, eL_whichValid_16, eL_whichValid_17, eL_whichValid_18, eL_whichValid_18N, eL_whichValid_20, eL_whichValid_21, eL_whichValid_22, eL_whichValid_23, i10, i00, ite_le, n45, n54, true_or, or_true, false_or, or_false, false_and, and_false, kx_l, kx_r, go_s, gl_s, gi_s, gb_s2, gb_s3, gq_s, wt_nil, wt_int, wt_long, wt_ref, wt_null, nl_int, nl_long, nl_ref, nl_null, nl_none, rf_n, rf_s, rf_st, tl_s, tl_n, g0, gS, ex1, nb_b, nb_0, nb_1, nf_i, nf_l, nf_ra, nf_ro, nf_na, nf_no, nf_b0, nf_z0, t45_4, t45_5, true_and, and_true, List.set_cons_zero, List.set_cons_succ, List.length_cons, List.length_nil, rd_s, upw_s, ne_eq, not_false_eq_true, Nat.zero_add, Nat.add_zero, if_true, if_false, eq_self, tyX2]
    | split
    | with_reducible intro _
    | omega
set_option maxHeartbeats 4000000 in
theorem fL_around {a0 a1 a2 : Int32} (hL : LW g w x nA cA lA y nM o kn km th s s2) (hX : ¬ okC a0 → Q (.inl (some (.int 1))) w) (hW : okC a0 → ¬ okW a1 3 → Q (.inl (some (.int 2))) w) (hS : okC a0 → okW a1 3 → s.2.1 a0.toNatClampNeg = none → Q (.inl (some (.int 3))) w) (hQ : okC a0 → okW a1 3 → ∀ r, s.2.1 a0.toNatClampNeg = some r → ∀ w', LW g w' x nA cA lA y nM o kn km th s s2 → outN w' o ((nV r (eV r a1) a2).toInt64) → Q (.inl (some (.int 0))) w') : WP (ML_around g) Q (0, [some (.ref x), some (.int a0), some (.int a1), some (.int a2), some (.ref o), none], [], w, 0, 0) := by
  have ho := hL.2.1
  repeat' first
    | with_reducible assumption
    | with_reducible refine And.intro ?_ ?_
    | with_reducible refine LW.gx hL (fun _ => trivial)
    | with_reducible refine fX1_around hL.cs (fun hXc0 => ?_) (fun hWc0 hWc1 => ?_) (fun hSc0 hSc1 hSc2 => ?_) (fun hQc0 hQc1 hQr hQc2 => ?_)
    | refine hgo_h (HH := [(0, 13, 16, 19), (0, 13, 20, 28), (0, 13, 24, 74)]) (NN := [(19, "java/lang/IndexOutOfBoundsException"), (28, "java/lang/IllegalArgumentException"), (74, "java/lang/IllegalStateException")]) (h := 16) (E := "java/lang/IndexOutOfBoundsException") rfl rfl (by decide +kernel) (by decide) (fun _ => ?_)
    | refine hgo_h (HH := [(0, 13, 16, 19), (0, 13, 20, 28), (0, 13, 24, 74)]) (NN := [(19, "java/lang/IndexOutOfBoundsException"), (28, "java/lang/IllegalArgumentException"), (74, "java/lang/IllegalStateException")]) (h := 20) (E := "java/lang/IllegalArgumentException") rfl rfl (by decide +kernel) (by decide) (fun _ => ?_)
    | refine hgo_h (HH := [(0, 13, 16, 19), (0, 13, 20, 28), (0, 13, 24, 74)]) (NN := [(19, "java/lang/IndexOutOfBoundsException"), (28, "java/lang/IllegalArgumentException"), (74, "java/lang/IllegalStateException")]) (h := 24) (E := "java/lang/IllegalStateException") rfl rfl (by decide +kernel) (by decide) (fun _ => ?_)
    | with_reducible exact hX hXc0
    | with_reducible exact hW hWc0 hWc1
    | with_reducible exact hS hSc0 hSc1 hSc2
    | with_reducible exact hQ hQc0 hQc1 hQr hQc2 _ (hw _ _) outN.mk
    | with_reducible refine go_OF hL (fun _ _ hw => ?_)
    | simp only [eL_around_0, eL_around_0N, eL_around_2, eL_around_2N, eL_around_3, eL_around_4, eL_around_5, eL_around_6, eL_around_9, eL_around_10, eL_around_13, eL_around_16, eL_around_16N, eL_around_18, eL_around_19, eL_around_20, eL_around_20N, eL_around_22, eL_around_23, eL_around_24, eL_around_24N, eL_around_26, eL_around_27, eL_around_28, eL_around_29, i10, i00, ite_le, n45, n54, true_or, or_true, false_or, or_false, false_and, and_false, kx_l, kx_r, go_s, gl_s, gi_s, gb_s2, gb_s3, gq_s, wt_nil, wt_int, wt_long, wt_ref, wt_null, nl_int, nl_long, nl_ref, nl_null, nl_none, rf_n, rf_s, rf_st, tl_s, tl_n, g0, gS, ex1, nb_b, nb_0, nb_1, nf_i, nf_l, nf_ra, nf_ro, nf_na, nf_no, nf_b0, nf_z0, t45_4, t45_5, true_and, and_true, List.set_cons_zero, List.set_cons_succ, List.length_cons, List.length_nil, rd_s, upw_s, ne_eq, not_false_eq_true, Nat.zero_add, Nat.add_zero, if_true, if_false, eq_self, tyX2]
    | split
    | with_reducible intro _
    | omega
set_option maxHeartbeats 4000000 in
theorem gL_count {a0 a1 a2 : Int32} (hR : RG g) (hL : LW g w x nA cA lA y nM o kn km th s s2) (hQ : ∀ (v : Int32) (w' : Hw), LW g w' x nA cA lA y nM o kn km th s s2 → Q (.inl (some (.int v))) w') : WP (ML_count g) Q (0, [some (.ref x), some (.int a0), some (.int a1), some (.int a2), some (.ref o), none], [], w, 0, 0) := by
  repeat' first
    | with_reducible assumption
    | with_reducible refine And.intro ?_ ?_
    | with_reducible refine LW.gx hL (fun _ => trivial)
    | with_reducible refine sX1_count hL.cc ?_ ?_ ?_ (fun _ => ?_)
    | refine hgo_h (HH := [(0, 13, 16, 19), (0, 13, 20, 28), (0, 13, 24, 74)]) (NN := [(19, "java/lang/IndexOutOfBoundsException"), (28, "java/lang/IllegalArgumentException"), (74, "java/lang/IllegalStateException")]) (h := 16) (E := "java/lang/IndexOutOfBoundsException") rfl rfl (by decide +kernel) (by decide) (fun _ => ?_)
    | refine hgo_h (HH := [(0, 13, 16, 19), (0, 13, 20, 28), (0, 13, 24, 74)]) (NN := [(19, "java/lang/IndexOutOfBoundsException"), (28, "java/lang/IllegalArgumentException"), (74, "java/lang/IllegalStateException")]) (h := 20) (E := "java/lang/IllegalArgumentException") rfl rfl (by decide +kernel) (by decide) (fun _ => ?_)
    | refine hgo_h (HH := [(0, 13, 16, 19), (0, 13, 20, 28), (0, 13, 24, 74)]) (NN := [(19, "java/lang/IndexOutOfBoundsException"), (28, "java/lang/IllegalArgumentException"), (74, "java/lang/IllegalStateException")]) (h := 24) (E := "java/lang/IllegalStateException") rfl rfl (by decide +kernel) (by decide) (fun _ => ?_)
    | with_reducible refine go_OF (by first | assumption | exact hL | exact hL.ext (by assumption)) (fun _ _ hw => ?_)
    | with_reducible exact hQ _ _ (hw _ _)
    | with_reducible exact hQ _ _ hL
    | simp only [eL_count_0, eL_count_0N, eL_count_2, eL_count_2N, eL_count_3, eL_count_4, eL_count_5, eL_count_6, eL_count_9, eL_count_10, eL_count_13, eL_count_16, eL_count_16N, eL_count_18, eL_count_19, eL_count_20, eL_count_20N, eL_count_22, eL_count_23, eL_count_24, eL_count_24N, eL_count_26, eL_count_27, eL_count_28, eL_count_29, ite_le, n45, n54, true_or, or_true, false_or, or_false, false_and, and_false, kx_l, kx_r, go_s, gl_s, gi_s, gb_s2, gb_s3, gq_s, wt_nil, wt_int, wt_long, wt_ref, wt_null, nl_int, nl_long, nl_ref, nl_null, nl_none, rf_n, rf_s, rf_st, tl_s, tl_n, g0, gS, ex1, nb_b, nb_0, nb_1, nf_i, nf_l, nf_ra, nf_ro, nf_na, nf_no, nf_b0, nf_z0, t45_4, t45_5, true_and, and_true, List.set_cons_zero, List.set_cons_succ, List.length_cons, List.length_nil, rd_s, upw_s, ne_eq, not_false_eq_true, Nat.zero_add, Nat.add_zero, if_true, if_false, eq_self, tyX2]
    | split
    | with_reducible intro _
    | omega
set_option maxHeartbeats 4000000 in
theorem gL_who {a0 a1 : Int32} (hR : RG g) (hL : LW g w x nA cA lA y nM o kn km th s s2) (hQ : ∀ (v : Int32) (w' : Hw), LW g w' x nA cA lA y nM o kn km th s s2 → Q (.inl (some (.int v))) w') : WP (ML_who g) Q (0, [some (.ref x), some (.int a0), some (.int a1), some (.ref o), none], [], w, 0, 0) := by
  repeat' first
    | with_reducible assumption
    | with_reducible refine And.intro ?_ ?_
    | with_reducible refine LW.gx hL (fun _ => trivial)
    | with_reducible refine sX1_who hL.cc ?_ ?_ (fun _ => ?_)
    | refine hgo_h (HH := [(0, 11, 14, 19), (0, 11, 18, 28)]) (NN := [(19, "java/lang/IndexOutOfBoundsException"), (28, "java/lang/IllegalArgumentException")]) (h := 14) (E := "java/lang/IndexOutOfBoundsException") rfl rfl (by decide +kernel) (by decide) (fun _ => ?_)
    | refine hgo_h (HH := [(0, 11, 14, 19), (0, 11, 18, 28)]) (NN := [(19, "java/lang/IndexOutOfBoundsException"), (28, "java/lang/IllegalArgumentException")]) (h := 18) (E := "java/lang/IllegalArgumentException") rfl rfl (by decide +kernel) (by decide) (fun _ => ?_)
    | with_reducible refine go_OF (by first | assumption | exact hL | exact hL.ext (by assumption)) (fun _ _ hw => ?_)
    | with_reducible exact hQ _ _ (hw _ _)
    | with_reducible exact hQ _ _ hL
    | simp only [eL_who_0, eL_who_0N, eL_who_1, eL_who_1N, eL_who_2, eL_who_3, eL_who_4, eL_who_7, eL_who_8, eL_who_11, eL_who_14, eL_who_14N, eL_who_16, eL_who_17, eL_who_18, eL_who_18N, eL_who_20, eL_who_21, eL_who_22, eL_who_23, ite_le, n45, n54, true_or, or_true, false_or, or_false, false_and, and_false, kx_l, kx_r, go_s, gl_s, gi_s, gb_s2, gb_s3, gq_s, wt_nil, wt_int, wt_long, wt_ref, wt_null, nl_int, nl_long, nl_ref, nl_null, nl_none, rf_n, rf_s, rf_st, tl_s, tl_n, g0, gS, ex1, nb_b, nb_0, nb_1, nf_i, nf_l, nf_ra, nf_ro, nf_na, nf_no, nf_b0, nf_z0, t45_4, t45_5, true_and, and_true, List.set_cons_zero, List.set_cons_succ, List.length_cons, List.length_nil, rd_s, upw_s, ne_eq, not_false_eq_true, Nat.zero_add, Nat.add_zero, if_true, if_false, eq_self, tyX2]
    | split
    | with_reducible intro _
    | omega
end
