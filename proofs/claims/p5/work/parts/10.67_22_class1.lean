/-! 67.22.class1.lean.txt -/
section
section
variable {g : RO} {Q : Ot → Hw → Prop} {w0 w : Hw} {x nA cA lA : Nat} {kn : Int32}
set_option maxHeartbeats 4000000 in
theorem lX1_holdersOf_6 {a0 : Int64} {a1 : Int32} (hC : CC g w0 x nA cA lA kn w) (hQ : ∀ v : Int32, Q (.inl (some (.int v))) w) : ∀ (n rf md : Int32) (f : Nat → Int64) (gc gl : Nat → Option Nat), RO5 g w x nA cA lA n rf kn md f gc gl → ∀ (d : Nat) (i4 : Int32) (i5 : Int32) (i6 : Option Value) (k m : Nat), ¬ i5 < 0 → (6 : Int32).toInt - i5.toInt ≤ (d : Int) → k ≤ 0 → m ≤ 0 → WP (MX1_holdersOf g) Q (6, [some (.ref x), some (.long a0), none, some (.int a1), some (.int i4), some (.int i5), i6], [], w, k, m) := by
  rintro n rf md f gc gl ⟨hx, hn, hc, hl, hgc, hgl, hn0, hn1, rx, rn, rc, rl, ⟨d1, d2, d3, d4, d5, d6⟩, ⟨d7, d8, d9, d10, d11, d12⟩⟩ d
  induction d with
  | zero =>
    intro i4 i5 i6 k m z0 hm hk hs
    rw [eX1_holdersOf_6]
    repeat' first
      | with_reducible assumption
      | with_reducible refine And.intro ?_ ?_
      | with_reducible exact vpi6 (by assumption) (by assumption)
      | with_reducible exact vpi8 (by assumption) (by assumption)
      | with_reducible exact (ic_z (by assumption) (by assumption)).elim
      | with_reducible exact vpi12 (by assumption) (by assumption) (by assumption)
      | with_reducible refine sX0_holdsAs (by first | assumption | exact hgc _ _ (by assumption) | exact hgl _ _ (by assumption) | exact isR.ext (by assumption) (by assumption)) ?_
      | with_reducible refine go_R (by first | assumption | exact hgc _ _ (by assumption) | exact hgl _ _ (by assumption) | exact isR.ext (by assumption) (by assumption)) ?_
      | with_reducible exact hQ _
      | simp only [eX1_holdersOf_0, eX1_holdersOf_1, eX1_holdersOf_3, eX1_holdersOf_4, eX1_holdersOf_8, eX1_holdersOf_10, eX1_holdersOf_13, eX1_holdersOf_13N, eX1_holdersOf_14, eX1_holdersOf_17, eX1_holdersOf_19, eX1_holdersOf_20, eX1_holdersOf_20N, eX1_holdersOf_22, eX1_holdersOf_22N, eX1_holdersOf_24R, eX1_holdersOf_24N, eX1_holdersOf_27, eX1_holdersOf_27N, eX1_holdersOf_29, eX1_holdersOf_30, eX1_holdersOf_31, eX1_holdersOf_34, eX1_holdersOf_37, eX1_holdersOf_39, eX1_holdersOf_40, eX1_holdersOf_42, eX1_holdersOf_43, eX1_holdersOf_44, eX1_holdersOf_46, eX1_holdersOf_49, eX1_holdersOf_52, eX1_holdersOf_54, rx, rn, rc, rl, hx, hn, hc, hl, d1, d2, d3, d4, d5, d6, d7, d8, d9, d10, d11, d12, rd_n, upw_n, ite_le, n45, n54, true_or, or_true, false_or, or_false, false_and, and_false, kx_l, kx_r, go_s, gl_s, gi_s, gb_s2, gb_s3, gq_s, wt_nil, wt_int, wt_long, wt_ref, wt_null, nl_int, nl_long, nl_ref, nl_null, nl_none, rf_n, rf_s, rf_st, tl_s, tl_n, g0, gS, ex1, nb_b, nb_0, nb_1, nf_i, nf_l, nf_ra, nf_ro, nf_na, nf_no, nf_b0, nf_z0, t45_4, t45_5, true_and, and_true, List.set_cons_zero, List.set_cons_succ, List.length_cons, List.length_nil, rd_s, upw_s, ne_eq, not_false_eq_true, Nat.zero_add, Nat.add_zero]
      | split
      | with_reducible intro _
      | omega
  | succ d ih =>
    intro i4 i5 i6 k m z0 hm hk hs
    rw [eX1_holdersOf_6]
    repeat' first
      | with_reducible assumption
      | with_reducible refine And.intro ?_ ?_
      | with_reducible exact vpi6 (by assumption) (by assumption)
      | with_reducible exact vpi8 (by assumption) (by assumption)
      | with_reducible exact ih _ _ _ _ _ (ic_p (by assumption) (by assumption)) (ic_s (by assumption) (by assumption)) (by first | assumption | omega) (by first | assumption | omega)
      | with_reducible exact vpi12 (by assumption) (by assumption) (by assumption)
      | with_reducible refine sX0_holdsAs (by first | assumption | exact hgc _ _ (by assumption) | exact hgl _ _ (by assumption) | exact isR.ext (by assumption) (by assumption)) ?_
      | with_reducible refine go_R (by first | assumption | exact hgc _ _ (by assumption) | exact hgl _ _ (by assumption) | exact isR.ext (by assumption) (by assumption)) ?_
      | with_reducible exact hQ _
      | simp only [eX1_holdersOf_0, eX1_holdersOf_1, eX1_holdersOf_3, eX1_holdersOf_4, eX1_holdersOf_8, eX1_holdersOf_10, eX1_holdersOf_13, eX1_holdersOf_13N, eX1_holdersOf_14, eX1_holdersOf_17, eX1_holdersOf_19, eX1_holdersOf_20, eX1_holdersOf_20N, eX1_holdersOf_22, eX1_holdersOf_22N, eX1_holdersOf_24R, eX1_holdersOf_24N, eX1_holdersOf_27, eX1_holdersOf_27N, eX1_holdersOf_29, eX1_holdersOf_30, eX1_holdersOf_31, eX1_holdersOf_34, eX1_holdersOf_37, eX1_holdersOf_39, eX1_holdersOf_40, eX1_holdersOf_42, eX1_holdersOf_43, eX1_holdersOf_44, eX1_holdersOf_46, eX1_holdersOf_49, eX1_holdersOf_52, eX1_holdersOf_54, rx, rn, rc, rl, hx, hn, hc, hl, d1, d2, d3, d4, d5, d6, d7, d8, d9, d10, d11, d12, rd_n, upw_n, ite_le, n45, n54, true_or, or_true, false_or, or_false, false_and, and_false, kx_l, kx_r, go_s, gl_s, gi_s, gb_s2, gb_s3, gq_s, wt_nil, wt_int, wt_long, wt_ref, wt_null, nl_int, nl_long, nl_ref, nl_null, nl_none, rf_n, rf_s, rf_st, tl_s, tl_n, g0, gS, ex1, nb_b, nb_0, nb_1, nf_i, nf_l, nf_ra, nf_ro, nf_na, nf_no, nf_b0, nf_z0, t45_4, t45_5, true_and, and_true, List.set_cons_zero, List.set_cons_succ, List.length_cons, List.length_nil, rd_s, upw_s, ne_eq, not_false_eq_true, Nat.zero_add, Nat.add_zero]
      | split
      | with_reducible intro _
      | omega
set_option maxHeartbeats 4000000 in
theorem sX1_holdersOf {a0 : Int64} {a1 : Int32} (hC : CC g w0 x nA cA lA kn w) (hQ : ∀ v : Int32, Q (.inl (some (.int v))) w) : WP (MX1_holdersOf g) Q (0, [some (.ref x), some (.long a0), none, some (.int a1), none, none, none], [], w, 0, 0) := by
  obtain ⟨n, rf, md, f, gc, gl, hx, hn, hc, hl, hgc, hgl, hn0, hn1, rx, rn, rc, rl, ⟨d1, d2, d3, d4, d5, d6⟩, ⟨d7, d8, d9, d10, d11, d12⟩⟩ := hC.1.opn g
  repeat' first
    | with_reducible assumption
    | with_reducible refine And.intro ?_ ?_
    | with_reducible exact vpi6 (by assumption) (by assumption)
    | with_reducible exact vpi8 (by assumption) (by assumption)
    | with_reducible exact lX1_holdersOf_6 hC hQ _ _ _ _ _ _ ⟨hx, hn, hc, hl, hgc, hgl, hn0, hn1, rx, rn, rc, rl, ⟨d1, d2, d3, d4, d5, d6⟩, ⟨d7, d8, d9, d10, d11, d12⟩⟩ 70 _ _ _ _ _ (by first | decide | assumption) (by first | decide | exact n12 (by assumption) | exact n60 (by assumption)) (by first | decide | omega) (by first | decide | omega)
    | with_reducible refine sX0_holdsAs (by first | assumption | exact hgc _ _ (by assumption) | exact hgl _ _ (by assumption) | exact isR.ext (by assumption) (by assumption)) ?_
    | with_reducible refine go_R (by first | assumption | exact hgc _ _ (by assumption) | exact hgl _ _ (by assumption) | exact isR.ext (by assumption) (by assumption)) ?_
    | with_reducible exact hQ _
    | simp only [eX1_holdersOf_0, eX1_holdersOf_1, eX1_holdersOf_3, eX1_holdersOf_4, eX1_holdersOf_8, eX1_holdersOf_10, eX1_holdersOf_13, eX1_holdersOf_13N, eX1_holdersOf_14, eX1_holdersOf_17, eX1_holdersOf_19, eX1_holdersOf_20, eX1_holdersOf_20N, eX1_holdersOf_22, eX1_holdersOf_22N, eX1_holdersOf_24R, eX1_holdersOf_24N, eX1_holdersOf_27, eX1_holdersOf_27N, eX1_holdersOf_29, eX1_holdersOf_30, eX1_holdersOf_31, eX1_holdersOf_34, eX1_holdersOf_37, eX1_holdersOf_39, eX1_holdersOf_40, eX1_holdersOf_42, eX1_holdersOf_43, eX1_holdersOf_44, eX1_holdersOf_46, eX1_holdersOf_49, eX1_holdersOf_52, eX1_holdersOf_54, rx, rn, rc, rl, hx, hn, hc, hl, d1, d2, d3, d4, d5, d6, d7, d8, d9, d10, d11, d12, rd_n, upw_n, ite_le, n45, n54, true_or, or_true, false_or, or_false, false_and, and_false, kx_l, kx_r, go_s, gl_s, gi_s, gb_s2, gb_s3, gq_s, wt_nil, wt_int, wt_long, wt_ref, wt_null, nl_int, nl_long, nl_ref, nl_null, nl_none, rf_n, rf_s, rf_st, tl_s, tl_n, g0, gS, ex1, nb_b, nb_0, nb_1, nf_i, nf_l, nf_ra, nf_ro, nf_na, nf_no, nf_b0, nf_z0, t45_4, t45_5, true_and, and_true, List.set_cons_zero, List.set_cons_succ, List.length_cons, List.length_nil, rd_s, upw_s, ne_eq, not_false_eq_true, Nat.zero_add, Nat.add_zero]
    | split
    | with_reducible intro _
    | omega
set_option maxHeartbeats 4000000 in
theorem sX1_isSo {a0 : Nat} {a1 : Int32} (h0 : isR w a0) (k0 : ¬ a1 < 0) (k1 : ¬ 2 < a1) (hQ : ∀ v : Bool, Q (.inl (some (.int (bI v)))) w) : WP (MX1_isSo g) Q (0, [some (.ref a0), some (.int a1)], [], w, 0, 0) := by
  have hQt : Q (.inl (some (.int 1))) w := hQ true
  have hQf : Q (.inl (some (.int 0))) w := hQ false
  rcases i02 k0 k1 with rfl | rfl | rfl
  · repeat' first
      | with_reducible assumption
      | with_reducible refine And.intro ?_ ?_
      | with_reducible exact vpi6 (by assumption) (by assumption)
      | with_reducible exact vpi8 (by assumption) (by assumption)
      | with_reducible refine sX0_isSettled (by first | assumption | exact hgc _ _ (by assumption) | exact hgl _ _ (by assumption) | exact isR.ext (by assumption) (by assumption)) ?_
      | with_reducible refine sX0_fitsSmall (by first | assumption | exact hgc _ _ (by assumption) | exact hgl _ _ (by assumption) | exact isR.ext (by assumption) (by assumption)) ?_
      | with_reducible refine go_R (by assumption) ?_
      | with_reducible exact hQ _
      | with_reducible exact hQt
      | with_reducible exact hQf
      | simp only [eX1_isSo_0, eX1_isSo_1_0, eX1_isSo_1_1, eX1_isSo_1_2, eX1_isSo_1_3, eX1_isSo_1_4, eX1_isSo_28, eX1_isSo_28N, eX1_isSo_29, eX1_isSo_32, eX1_isSo_33, eX1_isSo_33N, eX1_isSo_34, eX1_isSo_37, eX1_isSo_38, eX1_isSo_39, ite_le, n45, n54, true_or, or_true, false_or, or_false, false_and, and_false, kx_l, kx_r, go_s, gl_s, gi_s, gb_s2, gb_s3, gq_s, wt_nil, wt_int, wt_long, wt_ref, wt_null, nl_int, nl_long, nl_ref, nl_null, nl_none, rf_n, rf_s, rf_st, tl_s, tl_n, g0, gS, ex1, nb_b, nb_0, nb_1, nf_i, nf_l, nf_ra, nf_ro, nf_na, nf_no, nf_b0, nf_z0, t45_4, t45_5, true_and, and_true, List.set_cons_zero, List.set_cons_succ, List.length_cons, List.length_nil, rd_s, upw_s, ne_eq, not_false_eq_true, Nat.zero_add, Nat.add_zero]
      | split
      | with_reducible intro _
      | omega
  · repeat' first
      | with_reducible assumption
      | with_reducible refine And.intro ?_ ?_
      | with_reducible exact vpi6 (by assumption) (by assumption)
      | with_reducible exact vpi8 (by assumption) (by assumption)
      | with_reducible refine sX0_isSettled (by first | assumption | exact hgc _ _ (by assumption) | exact hgl _ _ (by assumption) | exact isR.ext (by assumption) (by assumption)) ?_
      | with_reducible refine sX0_fitsSmall (by first | assumption | exact hgc _ _ (by assumption) | exact hgl _ _ (by assumption) | exact isR.ext (by assumption) (by assumption)) ?_
      | with_reducible refine go_R (by assumption) ?_
      | with_reducible exact hQ _
      | with_reducible exact hQt
      | with_reducible exact hQf
      | simp only [eX1_isSo_0, eX1_isSo_1_0, eX1_isSo_1_1, eX1_isSo_1_2, eX1_isSo_1_3, eX1_isSo_1_4, eX1_isSo_28, eX1_isSo_28N, eX1_isSo_29, eX1_isSo_32, eX1_isSo_33, eX1_isSo_33N, eX1_isSo_34, eX1_isSo_37, eX1_isSo_38, eX1_isSo_39, ite_le, n45, n54, true_or, or_true, false_or, or_false, false_and, and_false, kx_l, kx_r, go_s, gl_s, gi_s, gb_s2, gb_s3, gq_s, wt_nil, wt_int, wt_long, wt_ref, wt_null, nl_int, nl_long, nl_ref, nl_null, nl_none, rf_n, rf_s, rf_st, tl_s, tl_n, g0, gS, ex1, nb_b, nb_0, nb_1, nf_i, nf_l, nf_ra, nf_ro, nf_na, nf_no, nf_b0, nf_z0, t45_4, t45_5, true_and, and_true, List.set_cons_zero, List.set_cons_succ, List.length_cons, List.length_nil, rd_s, upw_s, ne_eq, not_false_eq_true, Nat.zero_add, Nat.add_zero]
      | split
      | with_reducible intro _
      | omega
  · repeat' first
      | with_reducible assumption
      | with_reducible refine And.intro ?_ ?_
      | with_reducible exact vpi6 (by assumption) (by assumption)
      | with_reducible exact vpi8 (by assumption) (by assumption)
      | with_reducible refine sX0_isSettled (by first | assumption | exact hgc _ _ (by assumption) | exact hgl _ _ (by assumption) | exact isR.ext (by assumption) (by assumption)) ?_
      | with_reducible refine sX0_fitsSmall (by first | assumption | exact hgc _ _ (by assumption) | exact hgl _ _ (by assumption) | exact isR.ext (by assumption) (by assumption)) ?_
      | with_reducible refine go_R (by assumption) ?_
      | with_reducible exact hQ _
      | with_reducible exact hQt
      | with_reducible exact hQf
      | simp only [eX1_isSo_0, eX1_isSo_1_0, eX1_isSo_1_1, eX1_isSo_1_2, eX1_isSo_1_3, eX1_isSo_1_4, eX1_isSo_28, eX1_isSo_28N, eX1_isSo_29, eX1_isSo_32, eX1_isSo_33, eX1_isSo_33N, eX1_isSo_34, eX1_isSo_37, eX1_isSo_38, eX1_isSo_39, ite_le, n45, n54, true_or, or_true, false_or, or_false, false_and, and_false, kx_l, kx_r, go_s, gl_s, gi_s, gb_s2, gb_s3, gq_s, wt_nil, wt_int, wt_long, wt_ref, wt_null, nl_int, nl_long, nl_ref, nl_null, nl_none, rf_n, rf_s, rf_st, tl_s, tl_n, g0, gS, ex1, nb_b, nb_0, nb_1, nf_i, nf_l, nf_ra, nf_ro, nf_na, nf_no, nf_b0, nf_z0, t45_4, t45_5, true_and, and_true, List.set_cons_zero, List.set_cons_succ, List.length_cons, List.length_nil, rd_s, upw_s, ne_eq, not_false_eq_true, Nat.zero_add, Nat.add_zero]
      | split
      | with_reducible intro _
      | omega
set_option maxHeartbeats 4000000 in
theorem lX1_cardsThatAre_4 {a0 : Int32} (hC : CC g w0 x nA cA lA kn w) (hQ : ∀ v : Int32, Q (.inl (some (.int v))) w) (k0 : ¬ a0 < 0) (k1 : ¬ 2 < a0) : ∀ (n rf md : Int32) (f : Nat → Int64) (gc gl : Nat → Option Nat), RO5 g w x nA cA lA n rf kn md f gc gl → ∀ (d : Nat) (i2 : Int32) (i3 : Int32) (i4 : Option Value) (k m : Nat), ¬ i3 < 0 → (6 : Int32).toInt - i3.toInt ≤ (d : Int) → k ≤ 0 → m ≤ 0 → WP (MX1_cardsThatAre g) Q (4, [some (.ref x), some (.int a0), some (.int i2), some (.int i3), i4], [], w, k, m) := by
  rintro n rf md f gc gl ⟨hx, hn, hc, hl, hgc, hgl, hn0, hn1, rx, rn, rc, rl, ⟨d1, d2, d3, d4, d5, d6⟩, ⟨d7, d8, d9, d10, d11, d12⟩⟩ d
  induction d with
  | zero =>
    intro i2 i3 i4 k m z0 hm hk hs
    rw [eX1_cardsThatAre_4]
    repeat' first
      | with_reducible assumption
      | with_reducible refine And.intro ?_ ?_
      | with_reducible exact vpi6 (by assumption) (by assumption)
      | with_reducible exact vpi8 (by assumption) (by assumption)
      | with_reducible exact (ic_z (by assumption) (by assumption)).elim
      | with_reducible exact vpi12 (by assumption) (by assumption) (by assumption)
      | with_reducible refine sX1_isSo (by first | assumption | exact hgc _ _ (by assumption) | exact hgl _ _ (by assumption) | exact isR.ext (by assumption) (by assumption)) (by assumption) (by assumption) ?_
      | with_reducible refine go_R (by first | assumption | exact hgc _ _ (by assumption) | exact hgl _ _ (by assumption) | exact isR.ext (by assumption) (by assumption)) ?_
      | with_reducible exact hQ _
      | simp only [eX1_cardsThatAre_0, eX1_cardsThatAre_1, eX1_cardsThatAre_2, eX1_cardsThatAre_3, eX1_cardsThatAre_5, eX1_cardsThatAre_7, eX1_cardsThatAre_10, eX1_cardsThatAre_10N, eX1_cardsThatAre_11, eX1_cardsThatAre_14, eX1_cardsThatAre_15, eX1_cardsThatAre_16, eX1_cardsThatAre_16N, eX1_cardsThatAre_18, eX1_cardsThatAre_18N, eX1_cardsThatAre_20R, eX1_cardsThatAre_20N, eX1_cardsThatAre_23, eX1_cardsThatAre_23N, eX1_cardsThatAre_25, eX1_cardsThatAre_26R, eX1_cardsThatAre_26N, eX1_cardsThatAre_29, eX1_cardsThatAre_32, eX1_cardsThatAre_33, eX1_cardsThatAre_34, eX1_cardsThatAre_35, eX1_cardsThatAre_36, eX1_cardsThatAre_37, eX1_cardsThatAre_38, eX1_cardsThatAre_41, eX1_cardsThatAre_44, eX1_cardsThatAre_45, rx, rn, rc, rl, hx, hn, hc, hl, d1, d2, d3, d4, d5, d6, d7, d8, d9, d10, d11, d12, rd_n, upw_n, ite_le, n45, n54, true_or, or_true, false_or, or_false, false_and, and_false, kx_l, kx_r, go_s, gl_s, gi_s, gb_s2, gb_s3, gq_s, wt_nil, wt_int, wt_long, wt_ref, wt_null, nl_int, nl_long, nl_ref, nl_null, nl_none, rf_n, rf_s, rf_st, tl_s, tl_n, g0, gS, ex1, nb_b, nb_0, nb_1, nf_i, nf_l, nf_ra, nf_ro, nf_na, nf_no, nf_b0, nf_z0, t45_4, t45_5, true_and, and_true, List.set_cons_zero, List.set_cons_succ, List.length_cons, List.length_nil, rd_s, upw_s, ne_eq, not_false_eq_true, Nat.zero_add, Nat.add_zero]
      | split
      | with_reducible intro _
      | omega
  | succ d ih =>
    intro i2 i3 i4 k m z0 hm hk hs
    rw [eX1_cardsThatAre_4]
    repeat' first
      | with_reducible assumption
      | with_reducible refine And.intro ?_ ?_
      | with_reducible exact vpi6 (by assumption) (by assumption)
      | with_reducible exact vpi8 (by assumption) (by assumption)
      | with_reducible exact ih _ _ _ _ _ (ic_p (by assumption) (by assumption)) (ic_s (by assumption) (by assumption)) (by first | assumption | omega) (by first | assumption | omega)
      | with_reducible exact vpi12 (by assumption) (by assumption) (by assumption)
      | with_reducible refine sX1_isSo (by first | assumption | exact hgc _ _ (by assumption) | exact hgl _ _ (by assumption) | exact isR.ext (by assumption) (by assumption)) (by assumption) (by assumption) ?_
      | with_reducible refine go_R (by first | assumption | exact hgc _ _ (by assumption) | exact hgl _ _ (by assumption) | exact isR.ext (by assumption) (by assumption)) ?_
      | with_reducible exact hQ _
      | simp only [eX1_cardsThatAre_0, eX1_cardsThatAre_1, eX1_cardsThatAre_2, eX1_cardsThatAre_3, eX1_cardsThatAre_5, eX1_cardsThatAre_7, eX1_cardsThatAre_10, eX1_cardsThatAre_10N, eX1_cardsThatAre_11, eX1_cardsThatAre_14, eX1_cardsThatAre_15, eX1_cardsThatAre_16, eX1_cardsThatAre_16N, eX1_cardsThatAre_18, eX1_cardsThatAre_18N, eX1_cardsThatAre_20R, eX1_cardsThatAre_20N, eX1_cardsThatAre_23, eX1_cardsThatAre_23N, eX1_cardsThatAre_25, eX1_cardsThatAre_26R, eX1_cardsThatAre_26N, eX1_cardsThatAre_29, eX1_cardsThatAre_32, eX1_cardsThatAre_33, eX1_cardsThatAre_34, eX1_cardsThatAre_35, eX1_cardsThatAre_36, eX1_cardsThatAre_37, eX1_cardsThatAre_38, eX1_cardsThatAre_41, eX1_cardsThatAre_44, eX1_cardsThatAre_45, rx, rn, rc, rl, hx, hn, hc, hl, d1, d2, d3, d4, d5, d6, d7, d8, d9, d10, d11, d12, rd_n, upw_n, ite_le, n45, n54, true_or, or_true, false_or, or_false, false_and, and_false, kx_l, kx_r, go_s, gl_s, gi_s, gb_s2, gb_s3, gq_s, wt_nil, wt_int, wt_long, wt_ref, wt_null, nl_int, nl_long, nl_ref, nl_null, nl_none, rf_n, rf_s, rf_st, tl_s, tl_n, g0, gS, ex1, nb_b, nb_0, nb_1, nf_i, nf_l, nf_ra, nf_ro, nf_na, nf_no, nf_b0, nf_z0, t45_4, t45_5, true_and, and_true, List.set_cons_zero, List.set_cons_succ, List.length_cons, List.length_nil, rd_s, upw_s, ne_eq, not_false_eq_true, Nat.zero_add, Nat.add_zero]
      | split
      | with_reducible intro _
      | omega
set_option maxHeartbeats 4000000 in
theorem sX1_cardsThatAre {a0 : Int32} (hC : CC g w0 x nA cA lA kn w) (hQ : ∀ v : Int32, Q (.inl (some (.int v))) w) (k0 : ¬ a0 < 0) (k1 : ¬ 2 < a0) : WP (MX1_cardsThatAre g) Q (0, [some (.ref x), some (.int a0), none, none, none], [], w, 0, 0) := by
  obtain ⟨n, rf, md, f, gc, gl, hx, hn, hc, hl, hgc, hgl, hn0, hn1, rx, rn, rc, rl, ⟨d1, d2, d3, d4, d5, d6⟩, ⟨d7, d8, d9, d10, d11, d12⟩⟩ := hC.1.opn g
  repeat' first
    | with_reducible assumption
    | with_reducible refine And.intro ?_ ?_
    | with_reducible exact vpi6 (by assumption) (by assumption)
    | with_reducible exact vpi8 (by assumption) (by assumption)
    | with_reducible exact lX1_cardsThatAre_4 hC hQ k0 k1 _ _ _ _ _ _ ⟨hx, hn, hc, hl, hgc, hgl, hn0, hn1, rx, rn, rc, rl, ⟨d1, d2, d3, d4, d5, d6⟩, ⟨d7, d8, d9, d10, d11, d12⟩⟩ 70 _ _ _ _ _ (by first | decide | assumption) (by first | decide | exact n12 (by assumption) | exact n60 (by assumption)) (by first | decide | omega) (by first | decide | omega)
    | with_reducible refine sX1_isSo (by first | assumption | exact hgc _ _ (by assumption) | exact hgl _ _ (by assumption) | exact isR.ext (by assumption) (by assumption)) (by assumption) (by assumption) ?_
    | with_reducible refine go_R (by first | assumption | exact hgc _ _ (by assumption) | exact hgl _ _ (by assumption) | exact isR.ext (by assumption) (by assumption)) ?_
    | with_reducible exact hQ _
    | simp only [eX1_cardsThatAre_0, eX1_cardsThatAre_1, eX1_cardsThatAre_2, eX1_cardsThatAre_3, eX1_cardsThatAre_5, eX1_cardsThatAre_7, eX1_cardsThatAre_10, eX1_cardsThatAre_10N, eX1_cardsThatAre_11, eX1_cardsThatAre_14, eX1_cardsThatAre_15, eX1_cardsThatAre_16, eX1_cardsThatAre_16N, eX1_cardsThatAre_18, eX1_cardsThatAre_18N, eX1_cardsThatAre_20R, eX1_cardsThatAre_20N, eX1_cardsThatAre_23, eX1_cardsThatAre_23N, eX1_cardsThatAre_25, eX1_cardsThatAre_26R, eX1_cardsThatAre_26N, eX1_cardsThatAre_29, eX1_cardsThatAre_32, eX1_cardsThatAre_33, eX1_cardsThatAre_34, eX1_cardsThatAre_35, eX1_cardsThatAre_36, eX1_cardsThatAre_37, eX1_cardsThatAre_38, eX1_cardsThatAre_41, eX1_cardsThatAre_44, eX1_cardsThatAre_45, rx, rn, rc, rl, hx, hn, hc, hl, d1, d2, d3, d4, d5, d6, d7, d8, d9, d10, d11, d12, rd_n, upw_n, ite_le, n45, n54, true_or, or_true, false_or, or_false, false_and, and_false, kx_l, kx_r, go_s, gl_s, gi_s, gb_s2, gb_s3, gq_s, wt_nil, wt_int, wt_long, wt_ref, wt_null, nl_int, nl_long, nl_ref, nl_null, nl_none, rf_n, rf_s, rf_st, tl_s, tl_n, g0, gS, ex1, nb_b, nb_0, nb_1, nf_i, nf_l, nf_ra, nf_ro, nf_na, nf_no, nf_b0, nf_z0, t45_4, t45_5, true_and, and_true, List.set_cons_zero, List.set_cons_succ, List.length_cons, List.length_nil, rd_s, upw_s, ne_eq, not_false_eq_true, Nat.zero_add, Nat.add_zero]
    | split
    | with_reducible intro _
    | omega
end
end
/-! 67.22.class2.lean.txt -/
section
section
variable {g : RO} {Q : Ot → Hw → Prop} {w0 w : Hw} {x nA cA lA : Nat} {kn : Int32}
set_option maxHeartbeats 4000000 in
theorem lX1_cardsLike_4 {a0 : Nat} (hC : CC g w0 x nA cA lA kn w) (h0 : isR w a0) (hQ : ∀ v : Int32, Q (.inl (some (.int v))) w) : ∀ (n rf md : Int32) (f : Nat → Int64) (gc gl : Nat → Option Nat), RO5 g w x nA cA lA n rf kn md f gc gl → ∀ (d : Nat) (i2 : Int32) (i3 : Int32) (i4 : Option Value) (k m : Nat), ¬ i3 < 0 → (6 : Int32).toInt - i3.toInt ≤ (d : Int) → k ≤ 0 → m ≤ 0 → WP (MX1_cardsLike g) Q (4, [some (.ref x), some (.ref a0), some (.int i2), some (.int i3), i4], [], w, k, m) := by
  rintro n rf md f gc gl ⟨hx, hn, hc, hl, hgc, hgl, hn0, hn1, rx, rn, rc, rl, ⟨d1, d2, d3, d4, d5, d6⟩, ⟨d7, d8, d9, d10, d11, d12⟩⟩ d
  induction d with
  | zero =>
    intro i2 i3 i4 k m z0 hm hk hs
    rw [eX1_cardsLike_4]
    repeat' first
      | with_reducible assumption
      | with_reducible refine And.intro ?_ ?_
      | with_reducible exact vpi6 (by assumption) (by assumption)
      | with_reducible exact vpi8 (by assumption) (by assumption)
      | with_reducible exact (ic_z (by assumption) (by assumption)).elim
      | with_reducible exact vpi12 (by assumption) (by assumption) (by assumption)
      | with_reducible refine sX0_matchesR (by first | assumption | exact hgc _ _ (by assumption) | exact hgl _ _ (by assumption) | exact isR.ext (by assumption) (by assumption)) (by first | assumption | exact hgc _ _ (by assumption) | exact hgl _ _ (by assumption) | exact isR.ext (by assumption) (by assumption)) ?_
      | with_reducible refine sX0_matchesN (by first | assumption | exact hgc _ _ (by assumption) | exact hgl _ _ (by assumption) | exact isR.ext (by assumption) (by assumption)) ?_
      | with_reducible refine sX0_hash (by first | assumption | exact hgc _ _ (by assumption) | exact hgl _ _ (by assumption) | exact isR.ext (by assumption) (by assumption)) ?_
      | with_reducible refine go_R (by first | assumption | exact hgc _ _ (by assumption) | exact hgl _ _ (by assumption) | exact isR.ext (by assumption) (by assumption)) ?_
      | with_reducible exact hQ _
      | simp only [eX1_cardsLike_0, eX1_cardsLike_1, eX1_cardsLike_2, eX1_cardsLike_3, eX1_cardsLike_5, eX1_cardsLike_7, eX1_cardsLike_10, eX1_cardsLike_10N, eX1_cardsLike_11, eX1_cardsLike_14, eX1_cardsLike_15, eX1_cardsLike_16, eX1_cardsLike_16N, eX1_cardsLike_18, eX1_cardsLike_18N, eX1_cardsLike_20R, eX1_cardsLike_20N, eX1_cardsLike_23, eX1_cardsLike_23N, eX1_cardsLike_24, eX1_cardsLike_24N, eX1_cardsLike_26R, eX1_cardsLike_26N, eX1_cardsLike_29, eX1_cardsLike_32, eX1_cardsLike_32N, eX1_cardsLike_33, eX1_cardsLike_36, eX1_cardsLike_36N, eX1_cardsLike_38, eX1_cardsLike_41, eX1_cardsLike_42, eX1_cardsLike_45, eX1_cardsLike_46, eX1_cardsLike_47, eX1_cardsLike_48, eX1_cardsLike_49, eX1_cardsLike_50, eX1_cardsLike_51, eX1_cardsLike_54, eX1_cardsLike_57, eX1_cardsLike_58, rx, rn, rc, rl, hx, hn, hc, hl, d1, d2, d3, d4, d5, d6, d7, d8, d9, d10, d11, d12, rd_n, upw_n, ite_le, n45, n54, true_or, or_true, false_or, or_false, false_and, and_false, kx_l, kx_r, go_s, gl_s, gi_s, gb_s2, gb_s3, gq_s, wt_nil, wt_int, wt_long, wt_ref, wt_null, nl_int, nl_long, nl_ref, nl_null, nl_none, rf_n, rf_s, rf_st, tl_s, tl_n, g0, gS, ex1, nb_b, nb_0, nb_1, nf_i, nf_l, nf_ra, nf_ro, nf_na, nf_no, nf_b0, nf_z0, t45_4, t45_5, true_and, and_true, List.set_cons_zero, List.set_cons_succ, List.length_cons, List.length_nil, rd_s, upw_s, ne_eq, not_false_eq_true, Nat.zero_add, Nat.add_zero]
      | split
      | with_reducible intro _
      | omega
  | succ d ih =>
    intro i2 i3 i4 k m z0 hm hk hs
    rw [eX1_cardsLike_4]
    repeat' first
      | with_reducible assumption
      | with_reducible refine And.intro ?_ ?_
      | with_reducible exact vpi6 (by assumption) (by assumption)
      | with_reducible exact vpi8 (by assumption) (by assumption)
      | with_reducible exact ih _ _ _ _ _ (ic_p (by assumption) (by assumption)) (ic_s (by assumption) (by assumption)) (by first | assumption | omega) (by first | assumption | omega)
      | with_reducible exact vpi12 (by assumption) (by assumption) (by assumption)
      | with_reducible refine sX0_matchesR (by first | assumption | exact hgc _ _ (by assumption) | exact hgl _ _ (by assumption) | exact isR.ext (by assumption) (by assumption)) (by first | assumption | exact hgc _ _ (by assumption) | exact hgl _ _ (by assumption) | exact isR.ext (by assumption) (by assumption)) ?_
      | with_reducible refine sX0_matchesN (by first | assumption | exact hgc _ _ (by assumption) | exact hgl _ _ (by assumption) | exact isR.ext (by assumption) (by assumption)) ?_
      | with_reducible refine sX0_hash (by first | assumption | exact hgc _ _ (by assumption) | exact hgl _ _ (by assumption) | exact isR.ext (by assumption) (by assumption)) ?_
      | with_reducible refine go_R (by first | assumption | exact hgc _ _ (by assumption) | exact hgl _ _ (by assumption) | exact isR.ext (by assumption) (by assumption)) ?_
      | with_reducible exact hQ _
      | simp only [eX1_cardsLike_0, eX1_cardsLike_1, eX1_cardsLike_2, eX1_cardsLike_3, eX1_cardsLike_5, eX1_cardsLike_7, eX1_cardsLike_10, eX1_cardsLike_10N, eX1_cardsLike_11, eX1_cardsLike_14, eX1_cardsLike_15, eX1_cardsLike_16, eX1_cardsLike_16N, eX1_cardsLike_18, eX1_cardsLike_18N, eX1_cardsLike_20R, eX1_cardsLike_20N, eX1_cardsLike_23, eX1_cardsLike_23N, eX1_cardsLike_24, eX1_cardsLike_24N, eX1_cardsLike_26R, eX1_cardsLike_26N, eX1_cardsLike_29, eX1_cardsLike_32, eX1_cardsLike_32N, eX1_cardsLike_33, eX1_cardsLike_36, eX1_cardsLike_36N, eX1_cardsLike_38, eX1_cardsLike_41, eX1_cardsLike_42, eX1_cardsLike_45, eX1_cardsLike_46, eX1_cardsLike_47, eX1_cardsLike_48, eX1_cardsLike_49, eX1_cardsLike_50, eX1_cardsLike_51, eX1_cardsLike_54, eX1_cardsLike_57, eX1_cardsLike_58, rx, rn, rc, rl, hx, hn, hc, hl, d1, d2, d3, d4, d5, d6, d7, d8, d9, d10, d11, d12, rd_n, upw_n, ite_le, n45, n54, true_or, or_true, false_or, or_false, false_and, and_false, kx_l, kx_r, go_s, gl_s, gi_s, gb_s2, gb_s3, gq_s, wt_nil, wt_int, wt_long, wt_ref, wt_null, nl_int, nl_long, nl_ref, nl_null, nl_none, rf_n, rf_s, rf_st, tl_s, tl_n, g0, gS, ex1, nb_b, nb_0, nb_1, nf_i, nf_l, nf_ra, nf_ro, nf_na, nf_no, nf_b0, nf_z0, t45_4, t45_5, true_and, and_true, List.set_cons_zero, List.set_cons_succ, List.length_cons, List.length_nil, rd_s, upw_s, ne_eq, not_false_eq_true, Nat.zero_add, Nat.add_zero]
      | split
      | with_reducible intro _
      | omega
set_option maxHeartbeats 4000000 in
theorem sX1_cardsLike {a0 : Nat} (hC : CC g w0 x nA cA lA kn w) (h0 : isR w a0) (hQ : ∀ v : Int32, Q (.inl (some (.int v))) w) : WP (MX1_cardsLike g) Q (0, [some (.ref x), some (.ref a0), none, none, none], [], w, 0, 0) := by
  obtain ⟨n, rf, md, f, gc, gl, hx, hn, hc, hl, hgc, hgl, hn0, hn1, rx, rn, rc, rl, ⟨d1, d2, d3, d4, d5, d6⟩, ⟨d7, d8, d9, d10, d11, d12⟩⟩ := hC.1.opn g
  repeat' first
    | with_reducible assumption
    | with_reducible refine And.intro ?_ ?_
    | with_reducible exact vpi6 (by assumption) (by assumption)
    | with_reducible exact vpi8 (by assumption) (by assumption)
    | with_reducible exact lX1_cardsLike_4 hC h0 hQ _ _ _ _ _ _ ⟨hx, hn, hc, hl, hgc, hgl, hn0, hn1, rx, rn, rc, rl, ⟨d1, d2, d3, d4, d5, d6⟩, ⟨d7, d8, d9, d10, d11, d12⟩⟩ 70 _ _ _ _ _ (by first | decide | assumption) (by first | decide | exact n12 (by assumption) | exact n60 (by assumption)) (by first | decide | omega) (by first | decide | omega)
    | with_reducible refine sX0_matchesR (by first | assumption | exact hgc _ _ (by assumption) | exact hgl _ _ (by assumption) | exact isR.ext (by assumption) (by assumption)) (by first | assumption | exact hgc _ _ (by assumption) | exact hgl _ _ (by assumption) | exact isR.ext (by assumption) (by assumption)) ?_
    | with_reducible refine sX0_matchesN (by first | assumption | exact hgc _ _ (by assumption) | exact hgl _ _ (by assumption) | exact isR.ext (by assumption) (by assumption)) ?_
    | with_reducible refine sX0_hash (by first | assumption | exact hgc _ _ (by assumption) | exact hgl _ _ (by assumption) | exact isR.ext (by assumption) (by assumption)) ?_
    | with_reducible refine go_R (by first | assumption | exact hgc _ _ (by assumption) | exact hgl _ _ (by assumption) | exact isR.ext (by assumption) (by assumption)) ?_
    | with_reducible exact hQ _
    | simp only [eX1_cardsLike_0, eX1_cardsLike_1, eX1_cardsLike_2, eX1_cardsLike_3, eX1_cardsLike_5, eX1_cardsLike_7, eX1_cardsLike_10, eX1_cardsLike_10N, eX1_cardsLike_11, eX1_cardsLike_14, eX1_cardsLike_15, eX1_cardsLike_16, eX1_cardsLike_16N, eX1_cardsLike_18, eX1_cardsLike_18N, eX1_cardsLike_20R, eX1_cardsLike_20N, eX1_cardsLike_23, eX1_cardsLike_23N, eX1_cardsLike_24, eX1_cardsLike_24N, eX1_cardsLike_26R, eX1_cardsLike_26N, eX1_cardsLike_29, eX1_cardsLike_32, eX1_cardsLike_32N, eX1_cardsLike_33, eX1_cardsLike_36, eX1_cardsLike_36N, eX1_cardsLike_38, eX1_cardsLike_41, eX1_cardsLike_42, eX1_cardsLike_45, eX1_cardsLike_46, eX1_cardsLike_47, eX1_cardsLike_48, eX1_cardsLike_49, eX1_cardsLike_50, eX1_cardsLike_51, eX1_cardsLike_54, eX1_cardsLike_57, eX1_cardsLike_58, rx, rn, rc, rl, hx, hn, hc, hl, d1, d2, d3, d4, d5, d6, d7, d8, d9, d10, d11, d12, rd_n, upw_n, ite_le, n45, n54, true_or, or_true, false_or, or_false, false_and, and_false, kx_l, kx_r, go_s, gl_s, gi_s, gb_s2, gb_s3, gq_s, wt_nil, wt_int, wt_long, wt_ref, wt_null, nl_int, nl_long, nl_ref, nl_null, nl_none, rf_n, rf_s, rf_st, tl_s, tl_n, g0, gS, ex1, nb_b, nb_0, nb_1, nf_i, nf_l, nf_ra, nf_ro, nf_na, nf_no, nf_b0, nf_z0, t45_4, t45_5, true_and, and_true, List.set_cons_zero, List.set_cons_succ, List.length_cons, List.length_nil, rd_s, upw_s, ne_eq, not_false_eq_true, Nat.zero_add, Nat.add_zero]
    | split
    | with_reducible intro _
    | omega
set_option maxHeartbeats 4000000 in
theorem lX1_cardsWithRange_4  (hC : CC g w0 x nA cA lA kn w) (hQ : ∀ v : Int32, Q (.inl (some (.int v))) w) : ∀ (n rf md : Int32) (f : Nat → Int64) (gc gl : Nat → Option Nat), RO5 g w x nA cA lA n rf kn md f gc gl → ∀ (d : Nat) (i1 : Int32) (i2 : Int32) (k m : Nat), ¬ i2 < 0 → (6 : Int32).toInt - i2.toInt ≤ (d : Int) → k ≤ 0 → m ≤ 0 → WP (MX1_cardsWithRange g) Q (4, [some (.ref x), some (.int i1), some (.int i2)], [], w, k, m) := by
  rintro n rf md f gc gl ⟨hx, hn, hc, hl, hgc, hgl, hn0, hn1, rx, rn, rc, rl, ⟨d1, d2, d3, d4, d5, d6⟩, ⟨d7, d8, d9, d10, d11, d12⟩⟩ d
  induction d with
  | zero =>
    intro i1 i2 k m z0 hm hk hs
    rw [eX1_cardsWithRange_4]
    repeat' first
      | with_reducible assumption
      | with_reducible refine And.intro ?_ ?_
      | with_reducible exact vpi6 (by assumption) (by assumption)
      | with_reducible exact vpi8 (by assumption) (by assumption)
      | with_reducible exact (ic_z (by assumption) (by assumption)).elim
      | with_reducible exact vpi12 (by assumption) (by assumption) (by assumption)
      | with_reducible refine sX1_asNumber ?_
      | with_reducible refine go_R (by first | assumption | exact hgc _ _ (by assumption) | exact hgl _ _ (by assumption) | exact isR.ext (by assumption) (by assumption)) ?_
      | with_reducible exact hQ _
      | simp only [eX1_cardsWithRange_0, eX1_cardsWithRange_1, eX1_cardsWithRange_2, eX1_cardsWithRange_3, eX1_cardsWithRange_5, eX1_cardsWithRange_7, eX1_cardsWithRange_10, eX1_cardsWithRange_11, eX1_cardsWithRange_11N, eX1_cardsWithRange_12, eX1_cardsWithRange_15, eX1_cardsWithRange_16, eX1_cardsWithRange_17R, eX1_cardsWithRange_17N, eX1_cardsWithRange_20, eX1_cardsWithRange_21, eX1_cardsWithRange_24, eX1_cardsWithRange_25, eX1_cardsWithRange_28, eX1_cardsWithRange_29, eX1_cardsWithRange_30, eX1_cardsWithRange_33, eX1_cardsWithRange_36, eX1_cardsWithRange_37, rx, rn, rc, rl, hx, hn, hc, hl, d1, d2, d3, d4, d5, d6, d7, d8, d9, d10, d11, d12, rd_n, upw_n, ite_le, n45, n54, true_or, or_true, false_or, or_false, false_and, and_false, kx_l, kx_r, go_s, gl_s, gi_s, gb_s2, gb_s3, gq_s, wt_nil, wt_int, wt_long, wt_ref, wt_null, nl_int, nl_long, nl_ref, nl_null, nl_none, rf_n, rf_s, rf_st, tl_s, tl_n, g0, gS, ex1, nb_b, nb_0, nb_1, nf_i, nf_l, nf_ra, nf_ro, nf_na, nf_no, nf_b0, nf_z0, t45_4, t45_5, true_and, and_true, List.set_cons_zero, List.set_cons_succ, List.length_cons, List.length_nil, rd_s, upw_s, ne_eq, not_false_eq_true, Nat.zero_add, Nat.add_zero]
      | split
      | with_reducible intro _
      | omega
  | succ d ih =>
    intro i1 i2 k m z0 hm hk hs
    rw [eX1_cardsWithRange_4]
    repeat' first
      | with_reducible assumption
      | with_reducible refine And.intro ?_ ?_
      | with_reducible exact vpi6 (by assumption) (by assumption)
      | with_reducible exact vpi8 (by assumption) (by assumption)
      | with_reducible exact ih _ _ _ _ (ic_p (by assumption) (by assumption)) (ic_s (by assumption) (by assumption)) (by first | assumption | omega) (by first | assumption | omega)
      | with_reducible exact vpi12 (by assumption) (by assumption) (by assumption)
      | with_reducible refine sX1_asNumber ?_
      | with_reducible refine go_R (by first | assumption | exact hgc _ _ (by assumption) | exact hgl _ _ (by assumption) | exact isR.ext (by assumption) (by assumption)) ?_
      | with_reducible exact hQ _
      | simp only [eX1_cardsWithRange_0, eX1_cardsWithRange_1, eX1_cardsWithRange_2, eX1_cardsWithRange_3, eX1_cardsWithRange_5, eX1_cardsWithRange_7, eX1_cardsWithRange_10, eX1_cardsWithRange_11, eX1_cardsWithRange_11N, eX1_cardsWithRange_12, eX1_cardsWithRange_15, eX1_cardsWithRange_16, eX1_cardsWithRange_17R, eX1_cardsWithRange_17N, eX1_cardsWithRange_20, eX1_cardsWithRange_21, eX1_cardsWithRange_24, eX1_cardsWithRange_25, eX1_cardsWithRange_28, eX1_cardsWithRange_29, eX1_cardsWithRange_30, eX1_cardsWithRange_33, eX1_cardsWithRange_36, eX1_cardsWithRange_37, rx, rn, rc, rl, hx, hn, hc, hl, d1, d2, d3, d4, d5, d6, d7, d8, d9, d10, d11, d12, rd_n, upw_n, ite_le, n45, n54, true_or, or_true, false_or, or_false, false_and, and_false, kx_l, kx_r, go_s, gl_s, gi_s, gb_s2, gb_s3, gq_s, wt_nil, wt_int, wt_long, wt_ref, wt_null, nl_int, nl_long, nl_ref, nl_null, nl_none, rf_n, rf_s, rf_st, tl_s, tl_n, g0, gS, ex1, nb_b, nb_0, nb_1, nf_i, nf_l, nf_ra, nf_ro, nf_na, nf_no, nf_b0, nf_z0, t45_4, t45_5, true_and, and_true, List.set_cons_zero, List.set_cons_succ, List.length_cons, List.length_nil, rd_s, upw_s, ne_eq, not_false_eq_true, Nat.zero_add, Nat.add_zero]
      | split
      | with_reducible intro _
      | omega
set_option maxHeartbeats 4000000 in
theorem sX1_cardsWithRange  (hC : CC g w0 x nA cA lA kn w) (hQ : ∀ v : Int32, Q (.inl (some (.int v))) w) : WP (MX1_cardsWithRange g) Q (0, [some (.ref x), none, none], [], w, 0, 0) := by
  obtain ⟨n, rf, md, f, gc, gl, hx, hn, hc, hl, hgc, hgl, hn0, hn1, rx, rn, rc, rl, ⟨d1, d2, d3, d4, d5, d6⟩, ⟨d7, d8, d9, d10, d11, d12⟩⟩ := hC.1.opn g
  repeat' first
    | with_reducible assumption
    | with_reducible refine And.intro ?_ ?_
    | with_reducible exact vpi6 (by assumption) (by assumption)
    | with_reducible exact vpi8 (by assumption) (by assumption)
    | with_reducible exact lX1_cardsWithRange_4 hC hQ _ _ _ _ _ _ ⟨hx, hn, hc, hl, hgc, hgl, hn0, hn1, rx, rn, rc, rl, ⟨d1, d2, d3, d4, d5, d6⟩, ⟨d7, d8, d9, d10, d11, d12⟩⟩ 70 _ _ _ _ (by first | decide | assumption) (by first | decide | exact n12 (by assumption) | exact n60 (by assumption)) (by first | decide | omega) (by first | decide | omega)
    | with_reducible refine sX1_asNumber ?_
    | with_reducible refine go_R (by first | assumption | exact hgc _ _ (by assumption) | exact hgl _ _ (by assumption) | exact isR.ext (by assumption) (by assumption)) ?_
    | with_reducible exact hQ _
    | simp only [eX1_cardsWithRange_0, eX1_cardsWithRange_1, eX1_cardsWithRange_2, eX1_cardsWithRange_3, eX1_cardsWithRange_5, eX1_cardsWithRange_7, eX1_cardsWithRange_10, eX1_cardsWithRange_11, eX1_cardsWithRange_11N, eX1_cardsWithRange_12, eX1_cardsWithRange_15, eX1_cardsWithRange_16, eX1_cardsWithRange_17R, eX1_cardsWithRange_17N, eX1_cardsWithRange_20, eX1_cardsWithRange_21, eX1_cardsWithRange_24, eX1_cardsWithRange_25, eX1_cardsWithRange_28, eX1_cardsWithRange_29, eX1_cardsWithRange_30, eX1_cardsWithRange_33, eX1_cardsWithRange_36, eX1_cardsWithRange_37, rx, rn, rc, rl, hx, hn, hc, hl, d1, d2, d3, d4, d5, d6, d7, d8, d9, d10, d11, d12, rd_n, upw_n, ite_le, n45, n54, true_or, or_true, false_or, or_false, false_and, and_false, kx_l, kx_r, go_s, gl_s, gi_s, gb_s2, gb_s3, gq_s, wt_nil, wt_int, wt_long, wt_ref, wt_null, nl_int, nl_long, nl_ref, nl_null, nl_none, rf_n, rf_s, rf_st, tl_s, tl_n, g0, gS, ex1, nb_b, nb_0, nb_1, nf_i, nf_l, nf_ra, nf_ro, nf_na, nf_no, nf_b0, nf_z0, t45_4, t45_5, true_and, and_true, List.set_cons_zero, List.set_cons_succ, List.length_cons, List.length_nil, rd_s, upw_s, ne_eq, not_false_eq_true, Nat.zero_add, Nat.add_zero]
    | split
    | with_reducible intro _
    | omega
set_option maxHeartbeats 4000000 in
theorem lX1_firstPlaceOf_2 {a0 : Nat} (hC : CC g w0 x nA cA lA kn w) (h0 : isR w a0) (hQ : ∀ v : Int32, Q (.inl (some (.int v))) w) : ∀ (n rf md : Int32) (f : Nat → Int64) (gc gl : Nat → Option Nat), RO5 g w x nA cA lA n rf kn md f gc gl → ∀ (d : Nat) (i2 : Int32) (k m : Nat), ¬ i2 < 0 → (n : Int32).toInt - i2.toInt ≤ (d : Int) → k ≤ 0 → m ≤ 0 → WP (MX1_firstPlaceOf g) Q (2, [some (.ref x), some (.ref a0), some (.int i2)], [], w, k, m) := by
  rintro n rf md f gc gl ⟨hx, hn, hc, hl, hgc, hgl, hn0, hn1, rx, rn, rc, rl, ⟨d1, d2, d3, d4, d5, d6⟩, ⟨d7, d8, d9, d10, d11, d12⟩⟩ d
  induction d with
  | zero =>
    intro i2 k m z0 hm hk hs
    rw [eX1_firstPlaceOf_2]
    repeat' first
      | with_reducible assumption
      | with_reducible refine And.intro ?_ ?_
      | with_reducible exact vpi6 (by assumption) (by assumption)
      | with_reducible exact vpi8 (by assumption) (by assumption)
      | with_reducible exact (ic_z (by assumption) (by assumption)).elim
      | with_reducible exact vpi12 (by assumption) (by assumption) (by assumption)
      | with_reducible refine sX0_matchesR (by first | assumption | exact hgc _ _ (by assumption) | exact hgl _ _ (by assumption) | exact isR.ext (by assumption) (by assumption)) (by first | assumption | exact hgc _ _ (by assumption) | exact hgl _ _ (by assumption) | exact isR.ext (by assumption) (by assumption)) ?_
      | with_reducible refine sX0_matchesN (by first | assumption | exact hgc _ _ (by assumption) | exact hgl _ _ (by assumption) | exact isR.ext (by assumption) (by assumption)) ?_
      | with_reducible refine go_R (by first | assumption | exact hgc _ _ (by assumption) | exact hgl _ _ (by assumption) | exact isR.ext (by assumption) (by assumption)) ?_
      | with_reducible exact hQ _
      | simp only [eX1_firstPlaceOf_0, eX1_firstPlaceOf_1, eX1_firstPlaceOf_3, eX1_firstPlaceOf_3N, eX1_firstPlaceOf_4, eX1_firstPlaceOf_7, eX1_firstPlaceOf_10, eX1_firstPlaceOf_10N, eX1_firstPlaceOf_11, eX1_firstPlaceOf_11N, eX1_firstPlaceOf_12, eX1_firstPlaceOf_15, eX1_firstPlaceOf_16, eX1_firstPlaceOf_17R, eX1_firstPlaceOf_17N, eX1_firstPlaceOf_20, eX1_firstPlaceOf_23, eX1_firstPlaceOf_24, eX1_firstPlaceOf_25, eX1_firstPlaceOf_28, eX1_firstPlaceOf_31, eX1_firstPlaceOf_32, rx, rn, rc, rl, hx, hn, hc, hl, d1, d2, d3, d4, d5, d6, d7, d8, d9, d10, d11, d12, rd_n, upw_n, ite_le, n45, n54, true_or, or_true, false_or, or_false, false_and, and_false, kx_l, kx_r, go_s, gl_s, gi_s, gb_s2, gb_s3, gq_s, wt_nil, wt_int, wt_long, wt_ref, wt_null, nl_int, nl_long, nl_ref, nl_null, nl_none, rf_n, rf_s, rf_st, tl_s, tl_n, g0, gS, ex1, nb_b, nb_0, nb_1, nf_i, nf_l, nf_ra, nf_ro, nf_na, nf_no, nf_b0, nf_z0, t45_4, t45_5, true_and, and_true, List.set_cons_zero, List.set_cons_succ, List.length_cons, List.length_nil, rd_s, upw_s, ne_eq, not_false_eq_true, Nat.zero_add, Nat.add_zero]
      | split
      | with_reducible intro _
      | omega
  | succ d ih =>
    intro i2 k m z0 hm hk hs
    rw [eX1_firstPlaceOf_2]
    repeat' first
      | with_reducible assumption
      | with_reducible refine And.intro ?_ ?_
      | with_reducible exact vpi6 (by assumption) (by assumption)
      | with_reducible exact vpi8 (by assumption) (by assumption)
      | with_reducible exact ih _ _ _ (ic_p (by assumption) (by assumption)) (ic_s (by assumption) (by assumption)) (by first | assumption | omega) (by first | assumption | omega)
      | with_reducible exact vpi12 (by assumption) (by assumption) (by assumption)
      | with_reducible refine sX0_matchesR (by first | assumption | exact hgc _ _ (by assumption) | exact hgl _ _ (by assumption) | exact isR.ext (by assumption) (by assumption)) (by first | assumption | exact hgc _ _ (by assumption) | exact hgl _ _ (by assumption) | exact isR.ext (by assumption) (by assumption)) ?_
      | with_reducible refine sX0_matchesN (by first | assumption | exact hgc _ _ (by assumption) | exact hgl _ _ (by assumption) | exact isR.ext (by assumption) (by assumption)) ?_
      | with_reducible refine go_R (by first | assumption | exact hgc _ _ (by assumption) | exact hgl _ _ (by assumption) | exact isR.ext (by assumption) (by assumption)) ?_
      | with_reducible exact hQ _
      | simp only [eX1_firstPlaceOf_0, eX1_firstPlaceOf_1, eX1_firstPlaceOf_3, eX1_firstPlaceOf_3N, eX1_firstPlaceOf_4, eX1_firstPlaceOf_7, eX1_firstPlaceOf_10, eX1_firstPlaceOf_10N, eX1_firstPlaceOf_11, eX1_firstPlaceOf_11N, eX1_firstPlaceOf_12, eX1_firstPlaceOf_15, eX1_firstPlaceOf_16, eX1_firstPlaceOf_17R, eX1_firstPlaceOf_17N, eX1_firstPlaceOf_20, eX1_firstPlaceOf_23, eX1_firstPlaceOf_24, eX1_firstPlaceOf_25, eX1_firstPlaceOf_28, eX1_firstPlaceOf_31, eX1_firstPlaceOf_32, rx, rn, rc, rl, hx, hn, hc, hl, d1, d2, d3, d4, d5, d6, d7, d8, d9, d10, d11, d12, rd_n, upw_n, ite_le, n45, n54, true_or, or_true, false_or, or_false, false_and, and_false, kx_l, kx_r, go_s, gl_s, gi_s, gb_s2, gb_s3, gq_s, wt_nil, wt_int, wt_long, wt_ref, wt_null, nl_int, nl_long, nl_ref, nl_null, nl_none, rf_n, rf_s, rf_st, tl_s, tl_n, g0, gS, ex1, nb_b, nb_0, nb_1, nf_i, nf_l, nf_ra, nf_ro, nf_na, nf_no, nf_b0, nf_z0, t45_4, t45_5, true_and, and_true, List.set_cons_zero, List.set_cons_succ, List.length_cons, List.length_nil, rd_s, upw_s, ne_eq, not_false_eq_true, Nat.zero_add, Nat.add_zero]
      | split
      | with_reducible intro _
      | omega
set_option maxHeartbeats 4000000 in
theorem sX1_firstPlaceOf {a0 : Nat} (hC : CC g w0 x nA cA lA kn w) (h0 : isR w a0) (hQ : ∀ v : Int32, Q (.inl (some (.int v))) w) : WP (MX1_firstPlaceOf g) Q (0, [some (.ref x), some (.ref a0), none], [], w, 0, 0) := by
  obtain ⟨n, rf, md, f, gc, gl, hx, hn, hc, hl, hgc, hgl, hn0, hn1, rx, rn, rc, rl, ⟨d1, d2, d3, d4, d5, d6⟩, ⟨d7, d8, d9, d10, d11, d12⟩⟩ := hC.1.opn g
  repeat' first
    | with_reducible assumption
    | with_reducible refine And.intro ?_ ?_
    | with_reducible exact vpi6 (by assumption) (by assumption)
    | with_reducible exact vpi8 (by assumption) (by assumption)
    | with_reducible exact lX1_firstPlaceOf_2 hC h0 hQ _ _ _ _ _ _ ⟨hx, hn, hc, hl, hgc, hgl, hn0, hn1, rx, rn, rc, rl, ⟨d1, d2, d3, d4, d5, d6⟩, ⟨d7, d8, d9, d10, d11, d12⟩⟩ 70 _ _ _ (by first | decide | assumption) (by first | decide | exact n12 (by assumption) | exact n60 (by assumption)) (by first | decide | omega) (by first | decide | omega)
    | with_reducible refine sX0_matchesR (by first | assumption | exact hgc _ _ (by assumption) | exact hgl _ _ (by assumption) | exact isR.ext (by assumption) (by assumption)) (by first | assumption | exact hgc _ _ (by assumption) | exact hgl _ _ (by assumption) | exact isR.ext (by assumption) (by assumption)) ?_
    | with_reducible refine sX0_matchesN (by first | assumption | exact hgc _ _ (by assumption) | exact hgl _ _ (by assumption) | exact isR.ext (by assumption) (by assumption)) ?_
    | with_reducible refine go_R (by first | assumption | exact hgc _ _ (by assumption) | exact hgl _ _ (by assumption) | exact isR.ext (by assumption) (by assumption)) ?_
    | with_reducible exact hQ _
    | simp only [eX1_firstPlaceOf_0, eX1_firstPlaceOf_1, eX1_firstPlaceOf_3, eX1_firstPlaceOf_3N, eX1_firstPlaceOf_4, eX1_firstPlaceOf_7, eX1_firstPlaceOf_10, eX1_firstPlaceOf_10N, eX1_firstPlaceOf_11, eX1_firstPlaceOf_11N, eX1_firstPlaceOf_12, eX1_firstPlaceOf_15, eX1_firstPlaceOf_16, eX1_firstPlaceOf_17R, eX1_firstPlaceOf_17N, eX1_firstPlaceOf_20, eX1_firstPlaceOf_23, eX1_firstPlaceOf_24, eX1_firstPlaceOf_25, eX1_firstPlaceOf_28, eX1_firstPlaceOf_31, eX1_firstPlaceOf_32, rx, rn, rc, rl, hx, hn, hc, hl, d1, d2, d3, d4, d5, d6, d7, d8, d9, d10, d11, d12, rd_n, upw_n, ite_le, n45, n54, true_or, or_true, false_or, or_false, false_and, and_false, kx_l, kx_r, go_s, gl_s, gi_s, gb_s2, gb_s3, gq_s, wt_nil, wt_int, wt_long, wt_ref, wt_null, nl_int, nl_long, nl_ref, nl_null, nl_none, rf_n, rf_s, rf_st, tl_s, tl_n, g0, gS, ex1, nb_b, nb_0, nb_1, nf_i, nf_l, nf_ra, nf_ro, nf_na, nf_no, nf_b0, nf_z0, t45_4, t45_5, true_and, and_true, List.set_cons_zero, List.set_cons_succ, List.length_cons, List.length_nil, rd_s, upw_s, ne_eq, not_false_eq_true, Nat.zero_add, Nat.add_zero]
    | split
    | with_reducible intro _
    | omega
set_option maxHeartbeats 4000000 in
theorem lX1_lastPlaceOf_7 {a0 : Nat} (hC : CC g w0 x nA cA lA kn w) (h0 : isR w a0) (hQ : ∀ v : Int32, Q (.inl (some (.int v))) w) : ∀ (n rf md : Int32) (f : Nat → Int64) (gc gl : Nat → Option Nat), RO5 g w x nA cA lA n rf kn md f gc gl → ∀ (d : Nat) (i2 : Int32) (k m : Nat), i2 < n → i2.toInt + 1 ≤ (d : Int) → k ≤ 0 → m ≤ 0 → WP (MX1_lastPlaceOf g) Q (7, [some (.ref x), some (.ref a0), some (.int i2)], [], w, k, m) := by
  rintro n rf md f gc gl ⟨hx, hn, hc, hl, hgc, hgl, hn0, hn1, rx, rn, rc, rl, ⟨d1, d2, d3, d4, d5, d6⟩, ⟨d7, d8, d9, d10, d11, d12⟩⟩ d
  induction d with
  | zero =>
    intro i2 k m k0 hm hk hs
    rw [eX1_lastPlaceOf_7]
    repeat' first
      | with_reducible assumption
      | with_reducible refine And.intro ?_ ?_
      | with_reducible exact vpi6 (by assumption) (by assumption)
      | with_reducible exact vpi8 (by assumption) (by assumption)
      | with_reducible exact (id_z (by assumption) (by assumption)).elim
      | with_reducible exact vpi12 (by assumption) (by assumption) (by assumption)
      | with_reducible refine sX0_matchesR (by first | assumption | exact hgc _ _ (by assumption) | exact hgl _ _ (by assumption) | exact isR.ext (by assumption) (by assumption)) (by first | assumption | exact hgc _ _ (by assumption) | exact hgl _ _ (by assumption) | exact isR.ext (by assumption) (by assumption)) ?_
      | with_reducible refine sX0_matchesN (by first | assumption | exact hgc _ _ (by assumption) | exact hgl _ _ (by assumption) | exact isR.ext (by assumption) (by assumption)) ?_
      | with_reducible refine go_R (by first | assumption | exact hgc _ _ (by assumption) | exact hgl _ _ (by assumption) | exact isR.ext (by assumption) (by assumption)) ?_
      | with_reducible exact hQ _
      | simp only [eX1_lastPlaceOf_0, eX1_lastPlaceOf_0N, eX1_lastPlaceOf_1, eX1_lastPlaceOf_4, eX1_lastPlaceOf_5, eX1_lastPlaceOf_6, eX1_lastPlaceOf_8, eX1_lastPlaceOf_11, eX1_lastPlaceOf_11N, eX1_lastPlaceOf_12, eX1_lastPlaceOf_12N, eX1_lastPlaceOf_13, eX1_lastPlaceOf_16, eX1_lastPlaceOf_17, eX1_lastPlaceOf_18R, eX1_lastPlaceOf_18N, eX1_lastPlaceOf_21, eX1_lastPlaceOf_24, eX1_lastPlaceOf_25, eX1_lastPlaceOf_26, eX1_lastPlaceOf_29, eX1_lastPlaceOf_32, eX1_lastPlaceOf_33, rx, rn, rc, rl, hx, hn, hc, hl, d1, d2, d3, d4, d5, d6, d7, d8, d9, d10, d11, d12, rd_n, upw_n, ite_le, n45, n54, true_or, or_true, false_or, or_false, false_and, and_false, kx_l, kx_r, go_s, gl_s, gi_s, gb_s2, gb_s3, gq_s, wt_nil, wt_int, wt_long, wt_ref, wt_null, nl_int, nl_long, nl_ref, nl_null, nl_none, rf_n, rf_s, rf_st, tl_s, tl_n, g0, gS, ex1, nb_b, nb_0, nb_1, nf_i, nf_l, nf_ra, nf_ro, nf_na, nf_no, nf_b0, nf_z0, t45_4, t45_5, true_and, and_true, List.set_cons_zero, List.set_cons_succ, List.length_cons, List.length_nil, rd_s, upw_s, ne_eq, not_false_eq_true, Nat.zero_add, Nat.add_zero]
      | split
      | with_reducible intro _
      | omega
  | succ d ih =>
    intro i2 k m k0 hm hk hs
    rw [eX1_lastPlaceOf_7]
    repeat' first
      | with_reducible assumption
      | with_reducible refine And.intro ?_ ?_
      | with_reducible exact vpi6 (by assumption) (by assumption)
      | with_reducible exact vpi8 (by assumption) (by assumption)
      | with_reducible exact ih _ _ _ (id_p (by assumption) (by assumption)) (id_s (by assumption) (by assumption)) (by first | assumption | omega) (by first | assumption | omega)
      | with_reducible exact vpi12 (by assumption) (by assumption) (by assumption)
      | with_reducible refine sX0_matchesR (by first | assumption | exact hgc _ _ (by assumption) | exact hgl _ _ (by assumption) | exact isR.ext (by assumption) (by assumption)) (by first | assumption | exact hgc _ _ (by assumption) | exact hgl _ _ (by assumption) | exact isR.ext (by assumption) (by assumption)) ?_
      | with_reducible refine sX0_matchesN (by first | assumption | exact hgc _ _ (by assumption) | exact hgl _ _ (by assumption) | exact isR.ext (by assumption) (by assumption)) ?_
      | with_reducible refine go_R (by first | assumption | exact hgc _ _ (by assumption) | exact hgl _ _ (by assumption) | exact isR.ext (by assumption) (by assumption)) ?_
      | with_reducible exact hQ _
      | simp only [eX1_lastPlaceOf_0, eX1_lastPlaceOf_0N, eX1_lastPlaceOf_1, eX1_lastPlaceOf_4, eX1_lastPlaceOf_5, eX1_lastPlaceOf_6, eX1_lastPlaceOf_8, eX1_lastPlaceOf_11, eX1_lastPlaceOf_11N, eX1_lastPlaceOf_12, eX1_lastPlaceOf_12N, eX1_lastPlaceOf_13, eX1_lastPlaceOf_16, eX1_lastPlaceOf_17, eX1_lastPlaceOf_18R, eX1_lastPlaceOf_18N, eX1_lastPlaceOf_21, eX1_lastPlaceOf_24, eX1_lastPlaceOf_25, eX1_lastPlaceOf_26, eX1_lastPlaceOf_29, eX1_lastPlaceOf_32, eX1_lastPlaceOf_33, rx, rn, rc, rl, hx, hn, hc, hl, d1, d2, d3, d4, d5, d6, d7, d8, d9, d10, d11, d12, rd_n, upw_n, ite_le, n45, n54, true_or, or_true, false_or, or_false, false_and, and_false, kx_l, kx_r, go_s, gl_s, gi_s, gb_s2, gb_s3, gq_s, wt_nil, wt_int, wt_long, wt_ref, wt_null, nl_int, nl_long, nl_ref, nl_null, nl_none, rf_n, rf_s, rf_st, tl_s, tl_n, g0, gS, ex1, nb_b, nb_0, nb_1, nf_i, nf_l, nf_ra, nf_ro, nf_na, nf_no, nf_b0, nf_z0, t45_4, t45_5, true_and, and_true, List.set_cons_zero, List.set_cons_succ, List.length_cons, List.length_nil, rd_s, upw_s, ne_eq, not_false_eq_true, Nat.zero_add, Nat.add_zero]
      | split
      | with_reducible intro _
      | omega
set_option maxHeartbeats 4000000 in
theorem sX1_lastPlaceOf {a0 : Nat} (hC : CC g w0 x nA cA lA kn w) (h0 : isR w a0) (hQ : ∀ v : Int32, Q (.inl (some (.int v))) w) : WP (MX1_lastPlaceOf g) Q (0, [some (.ref x), some (.ref a0), none], [], w, 0, 0) := by
  obtain ⟨n, rf, md, f, gc, gl, hx, hn, hc, hl, hgc, hgl, hn0, hn1, rx, rn, rc, rl, ⟨d1, d2, d3, d4, d5, d6⟩, ⟨d7, d8, d9, d10, d11, d12⟩⟩ := hC.1.opn g
  repeat' first
    | with_reducible assumption
    | with_reducible refine And.intro ?_ ?_
    | with_reducible exact vpi6 (by assumption) (by assumption)
    | with_reducible exact vpi8 (by assumption) (by assumption)
    | with_reducible exact lX1_lastPlaceOf_7 hC h0 hQ _ _ _ _ _ _ ⟨hx, hn, hc, hl, hgc, hgl, hn0, hn1, rx, rn, rc, rl, ⟨d1, d2, d3, d4, d5, d6⟩, ⟨d7, d8, d9, d10, d11, d12⟩⟩ 70 _ _ _ (id_e (by assumption) (by assumption)) (id_m (by assumption) (by assumption)) (by first | decide | omega) (by first | decide | omega)
    | with_reducible refine sX0_matchesR (by first | assumption | exact hgc _ _ (by assumption) | exact hgl _ _ (by assumption) | exact isR.ext (by assumption) (by assumption)) (by first | assumption | exact hgc _ _ (by assumption) | exact hgl _ _ (by assumption) | exact isR.ext (by assumption) (by assumption)) ?_
    | with_reducible refine sX0_matchesN (by first | assumption | exact hgc _ _ (by assumption) | exact hgl _ _ (by assumption) | exact isR.ext (by assumption) (by assumption)) ?_
    | with_reducible refine go_R (by first | assumption | exact hgc _ _ (by assumption) | exact hgl _ _ (by assumption) | exact isR.ext (by assumption) (by assumption)) ?_
    | with_reducible exact hQ _
    | simp only [eX1_lastPlaceOf_0, eX1_lastPlaceOf_0N, eX1_lastPlaceOf_1, eX1_lastPlaceOf_4, eX1_lastPlaceOf_5, eX1_lastPlaceOf_6, eX1_lastPlaceOf_8, eX1_lastPlaceOf_11, eX1_lastPlaceOf_11N, eX1_lastPlaceOf_12, eX1_lastPlaceOf_12N, eX1_lastPlaceOf_13, eX1_lastPlaceOf_16, eX1_lastPlaceOf_17, eX1_lastPlaceOf_18R, eX1_lastPlaceOf_18N, eX1_lastPlaceOf_21, eX1_lastPlaceOf_24, eX1_lastPlaceOf_25, eX1_lastPlaceOf_26, eX1_lastPlaceOf_29, eX1_lastPlaceOf_32, eX1_lastPlaceOf_33, rx, rn, rc, rl, hx, hn, hc, hl, d1, d2, d3, d4, d5, d6, d7, d8, d9, d10, d11, d12, rd_n, upw_n, ite_le, n45, n54, true_or, or_true, false_or, or_false, false_and, and_false, kx_l, kx_r, go_s, gl_s, gi_s, gb_s2, gb_s3, gq_s, wt_nil, wt_int, wt_long, wt_ref, wt_null, nl_int, nl_long, nl_ref, nl_null, nl_none, rf_n, rf_s, rf_st, tl_s, tl_n, g0, gS, ex1, nb_b, nb_0, nb_1, nf_i, nf_l, nf_ra, nf_ro, nf_na, nf_no, nf_b0, nf_z0, t45_4, t45_5, true_and, and_true, List.set_cons_zero, List.set_cons_succ, List.length_cons, List.length_nil, rd_s, upw_s, ne_eq, not_false_eq_true, Nat.zero_add, Nat.add_zero]
    | split
    | with_reducible intro _
    | omega
set_option maxHeartbeats 4000000 in
theorem lX1_timesLaid_4 {a0 : Nat} (hC : CC g w0 x nA cA lA kn w) (h0 : isR w a0) (hQ : ∀ v : Int32, Q (.inl (some (.int v))) w) : ∀ (n rf md : Int32) (f : Nat → Int64) (gc gl : Nat → Option Nat), RO5 g w x nA cA lA n rf kn md f gc gl → ∀ (d : Nat) (i2 : Int32) (i3 : Int32) (k m : Nat), ¬ i3 < 0 → (n : Int32).toInt - i3.toInt ≤ (d : Int) → k ≤ 0 → m ≤ 0 → WP (MX1_timesLaid g) Q (4, [some (.ref x), some (.ref a0), some (.int i2), some (.int i3)], [], w, k, m) := by
  rintro n rf md f gc gl ⟨hx, hn, hc, hl, hgc, hgl, hn0, hn1, rx, rn, rc, rl, ⟨d1, d2, d3, d4, d5, d6⟩, ⟨d7, d8, d9, d10, d11, d12⟩⟩ d
  induction d with
  | zero =>
    intro i2 i3 k m z0 hm hk hs
    rw [eX1_timesLaid_4]
    repeat' first
      | with_reducible assumption
      | with_reducible refine And.intro ?_ ?_
      | with_reducible exact vpi6 (by assumption) (by assumption)
      | with_reducible exact vpi8 (by assumption) (by assumption)
      | with_reducible exact (ic_z (by assumption) (by assumption)).elim
      | with_reducible exact vpi12 (by assumption) (by assumption) (by assumption)
      | with_reducible refine sX0_matchesR (by first | assumption | exact hgc _ _ (by assumption) | exact hgl _ _ (by assumption) | exact isR.ext (by assumption) (by assumption)) (by first | assumption | exact hgc _ _ (by assumption) | exact hgl _ _ (by assumption) | exact isR.ext (by assumption) (by assumption)) ?_
      | with_reducible refine sX0_matchesN (by first | assumption | exact hgc _ _ (by assumption) | exact hgl _ _ (by assumption) | exact isR.ext (by assumption) (by assumption)) ?_
      | with_reducible refine sX1_asNumber ?_
      | with_reducible refine go_R (by first | assumption | exact hgc _ _ (by assumption) | exact hgl _ _ (by assumption) | exact isR.ext (by assumption) (by assumption)) ?_
      | with_reducible exact hQ _
      | simp only [eX1_timesLaid_0, eX1_timesLaid_1, eX1_timesLaid_2, eX1_timesLaid_3, eX1_timesLaid_5, eX1_timesLaid_5N, eX1_timesLaid_6, eX1_timesLaid_9, eX1_timesLaid_12, eX1_timesLaid_13, eX1_timesLaid_13N, eX1_timesLaid_14, eX1_timesLaid_14N, eX1_timesLaid_15, eX1_timesLaid_18, eX1_timesLaid_19, eX1_timesLaid_20R, eX1_timesLaid_20N, eX1_timesLaid_23, eX1_timesLaid_26, eX1_timesLaid_27, eX1_timesLaid_28, eX1_timesLaid_31, eX1_timesLaid_34, eX1_timesLaid_35, rx, rn, rc, rl, hx, hn, hc, hl, d1, d2, d3, d4, d5, d6, d7, d8, d9, d10, d11, d12, rd_n, upw_n, ite_le, n45, n54, true_or, or_true, false_or, or_false, false_and, and_false, kx_l, kx_r, go_s, gl_s, gi_s, gb_s2, gb_s3, gq_s, wt_nil, wt_int, wt_long, wt_ref, wt_null, nl_int, nl_long, nl_ref, nl_null, nl_none, rf_n, rf_s, rf_st, tl_s, tl_n, g0, gS, ex1, nb_b, nb_0, nb_1, nf_i, nf_l, nf_ra, nf_ro, nf_na, nf_no, nf_b0, nf_z0, t45_4, t45_5, true_and, and_true, List.set_cons_zero, List.set_cons_succ, List.length_cons, List.length_nil, rd_s, upw_s, ne_eq, not_false_eq_true, Nat.zero_add, Nat.add_zero]
      | split
      | with_reducible intro _
      | omega
  | succ d ih =>
    intro i2 i3 k m z0 hm hk hs
    rw [eX1_timesLaid_4]
    repeat' first
      | with_reducible assumption
      | with_reducible refine And.intro ?_ ?_
      | with_reducible exact vpi6 (by assumption) (by assumption)
      | with_reducible exact vpi8 (by assumption) (by assumption)
      | with_reducible exact ih _ _ _ _ (ic_p (by assumption) (by assumption)) (ic_s (by assumption) (by assumption)) (by first | assumption | omega) (by first | assumption | omega)
      | with_reducible exact vpi12 (by assumption) (by assumption) (by assumption)
      | with_reducible refine sX0_matchesR (by first | assumption | exact hgc _ _ (by assumption) | exact hgl _ _ (by assumption) | exact isR.ext (by assumption) (by assumption)) (by first | assumption | exact hgc _ _ (by assumption) | exact hgl _ _ (by assumption) | exact isR.ext (by assumption) (by assumption)) ?_
      | with_reducible refine sX0_matchesN (by first | assumption | exact hgc _ _ (by assumption) | exact hgl _ _ (by assumption) | exact isR.ext (by assumption) (by assumption)) ?_
      | with_reducible refine sX1_asNumber ?_
      | with_reducible refine go_R (by first | assumption | exact hgc _ _ (by assumption) | exact hgl _ _ (by assumption) | exact isR.ext (by assumption) (by assumption)) ?_
      | with_reducible exact hQ _
      | simp only [eX1_timesLaid_0, eX1_timesLaid_1, eX1_timesLaid_2, eX1_timesLaid_3, eX1_timesLaid_5, eX1_timesLaid_5N, eX1_timesLaid_6, eX1_timesLaid_9, eX1_timesLaid_12, eX1_timesLaid_13, eX1_timesLaid_13N, eX1_timesLaid_14, eX1_timesLaid_14N, eX1_timesLaid_15, eX1_timesLaid_18, eX1_timesLaid_19, eX1_timesLaid_20R, eX1_timesLaid_20N, eX1_timesLaid_23, eX1_timesLaid_26, eX1_timesLaid_27, eX1_timesLaid_28, eX1_timesLaid_31, eX1_timesLaid_34, eX1_timesLaid_35, rx, rn, rc, rl, hx, hn, hc, hl, d1, d2, d3, d4, d5, d6, d7, d8, d9, d10, d11, d12, rd_n, upw_n, ite_le, n45, n54, true_or, or_true, false_or, or_false, false_and, and_false, kx_l, kx_r, go_s, gl_s, gi_s, gb_s2, gb_s3, gq_s, wt_nil, wt_int, wt_long, wt_ref, wt_null, nl_int, nl_long, nl_ref, nl_null, nl_none, rf_n, rf_s, rf_st, tl_s, tl_n, g0, gS, ex1, nb_b, nb_0, nb_1, nf_i, nf_l, nf_ra, nf_ro, nf_na, nf_no, nf_b0, nf_z0, t45_4, t45_5, true_and, and_true, List.set_cons_zero, List.set_cons_succ, List.length_cons, List.length_nil, rd_s, upw_s, ne_eq, not_false_eq_true, Nat.zero_add, Nat.add_zero]
      | split
      | with_reducible intro _
      | omega
set_option maxHeartbeats 4000000 in
theorem sX1_timesLaid {a0 : Nat} (hC : CC g w0 x nA cA lA kn w) (h0 : isR w a0) (hQ : ∀ v : Int32, Q (.inl (some (.int v))) w) : WP (MX1_timesLaid g) Q (0, [some (.ref x), some (.ref a0), none, none], [], w, 0, 0) := by
  obtain ⟨n, rf, md, f, gc, gl, hx, hn, hc, hl, hgc, hgl, hn0, hn1, rx, rn, rc, rl, ⟨d1, d2, d3, d4, d5, d6⟩, ⟨d7, d8, d9, d10, d11, d12⟩⟩ := hC.1.opn g
  repeat' first
    | with_reducible assumption
    | with_reducible refine And.intro ?_ ?_
    | with_reducible exact vpi6 (by assumption) (by assumption)
    | with_reducible exact vpi8 (by assumption) (by assumption)
    | with_reducible exact lX1_timesLaid_4 hC h0 hQ _ _ _ _ _ _ ⟨hx, hn, hc, hl, hgc, hgl, hn0, hn1, rx, rn, rc, rl, ⟨d1, d2, d3, d4, d5, d6⟩, ⟨d7, d8, d9, d10, d11, d12⟩⟩ 70 _ _ _ _ (by first | decide | assumption) (by first | decide | exact n12 (by assumption) | exact n60 (by assumption)) (by first | decide | omega) (by first | decide | omega)
    | with_reducible refine sX0_matchesR (by first | assumption | exact hgc _ _ (by assumption) | exact hgl _ _ (by assumption) | exact isR.ext (by assumption) (by assumption)) (by first | assumption | exact hgc _ _ (by assumption) | exact hgl _ _ (by assumption) | exact isR.ext (by assumption) (by assumption)) ?_
    | with_reducible refine sX0_matchesN (by first | assumption | exact hgc _ _ (by assumption) | exact hgl _ _ (by assumption) | exact isR.ext (by assumption) (by assumption)) ?_
    | with_reducible refine sX1_asNumber ?_
    | with_reducible refine go_R (by first | assumption | exact hgc _ _ (by assumption) | exact hgl _ _ (by assumption) | exact isR.ext (by assumption) (by assumption)) ?_
    | with_reducible exact hQ _
    | simp only [eX1_timesLaid_0, eX1_timesLaid_1, eX1_timesLaid_2, eX1_timesLaid_3, eX1_timesLaid_5, eX1_timesLaid_5N, eX1_timesLaid_6, eX1_timesLaid_9, eX1_timesLaid_12, eX1_timesLaid_13, eX1_timesLaid_13N, eX1_timesLaid_14, eX1_timesLaid_14N, eX1_timesLaid_15, eX1_timesLaid_18, eX1_timesLaid_19, eX1_timesLaid_20R, eX1_timesLaid_20N, eX1_timesLaid_23, eX1_timesLaid_26, eX1_timesLaid_27, eX1_timesLaid_28, eX1_timesLaid_31, eX1_timesLaid_34, eX1_timesLaid_35, rx, rn, rc, rl, hx, hn, hc, hl, d1, d2, d3, d4, d5, d6, d7, d8, d9, d10, d11, d12, rd_n, upw_n, ite_le, n45, n54, true_or, or_true, false_or, or_false, false_and, and_false, kx_l, kx_r, go_s, gl_s, gi_s, gb_s2, gb_s3, gq_s, wt_nil, wt_int, wt_long, wt_ref, wt_null, nl_int, nl_long, nl_ref, nl_null, nl_none, rf_n, rf_s, rf_st, tl_s, tl_n, g0, gS, ex1, nb_b, nb_0, nb_1, nf_i, nf_l, nf_ra, nf_ro, nf_na, nf_no, nf_b0, nf_z0, t45_4, t45_5, true_and, and_true, List.set_cons_zero, List.set_cons_succ, List.length_cons, List.length_nil, rd_s, upw_s, ne_eq, not_false_eq_true, Nat.zero_add, Nat.add_zero]
    | split
    | with_reducible intro _
    | omega
end
end
/-! 67.22.class3.lean.txt -/
section
section
variable {g : RO} {Q : Ot → Hw → Prop} {w0 w : Hw} {x nA cA lA : Nat} {kn : Int32}
set_option maxHeartbeats 4000000 in
theorem sX1_isCounted {a0 : Nat} {a1 : Int32} {a2 : Int64} {a3 : Int32} (hC : CC g w0 x nA cA lA kn w) (h0 : isR w a0) (hQ : ∀ v : Bool, Q (.inl (some (.int (bI v)))) w) : WP (MX1_isCounted g) Q (0, [some (.ref x), some (.ref a0), some (.int a1), some (.long a2), none, some (.int a3)], [], w, 0, 0) := by
  obtain ⟨n, rf, md, f, gc, gl, hx, hn, hc, hl, hgc, hgl, hn0, hn1, rx, rn, rc, rl, ⟨d1, d2, d3, d4, d5, d6⟩, ⟨d7, d8, d9, d10, d11, d12⟩⟩ := hC.1.opn g
  have hQt : Q (.inl (some (.int 1))) w := hQ true
  have hQf : Q (.inl (some (.int 0))) w := hQ false
  rcases sw15 a3 with rfl | rfl | rfl | rfl | rfl | hsw
  · repeat' first
      | with_reducible assumption
      | with_reducible refine And.intro ?_ ?_
      | with_reducible exact vpi6 (by assumption) (by assumption)
      | with_reducible exact vpi8 (by assumption) (by assumption)
      | with_reducible refine sX0_holds (by first | assumption | exact hgc _ _ (by assumption) | exact hgl _ _ (by assumption) | exact isR.ext (by assumption) (by assumption)) ?_
      | with_reducible refine sX0_holdsAsSmall (by first | assumption | exact hgc _ _ (by assumption) | exact hgl _ _ (by assumption) | exact isR.ext (by assumption) (by assumption)) ?_
      | with_reducible refine sX0_isSettled (by first | assumption | exact hgc _ _ (by assumption) | exact hgl _ _ (by assumption) | exact isR.ext (by assumption) (by assumption)) ?_
      | with_reducible refine sX0_fitsSmall (by first | assumption | exact hgc _ _ (by assumption) | exact hgl _ _ (by assumption) | exact isR.ext (by assumption) (by assumption)) ?_
      | with_reducible refine sX1_firstPlaceOf (by first | assumption | exact CC.ext (by assumption) (by assumption)) (by first | assumption | exact hgc _ _ (by assumption) | exact hgl _ _ (by assumption) | exact isR.ext (by assumption) (by assumption)) ?_
      | with_reducible refine go_R (by first | assumption | exact hgc _ _ (by assumption) | exact hgl _ _ (by assumption) | exact isR.ext (by assumption) (by assumption)) ?_
      | with_reducible exact hQ _
      | with_reducible exact hQt
      | with_reducible exact hQf
      | simp only [eX1_isCounted_0, eX1_isCounted_2_0, eX1_isCounted_2_1, eX1_isCounted_2_2, eX1_isCounted_2_3, eX1_isCounted_2_4, eX1_isCounted_2_d6, eX1_isCounted_2_d7, eX1_isCounted_36, eX1_isCounted_36N, eX1_isCounted_37, eX1_isCounted_38, eX1_isCounted_41, eX1_isCounted_42, eX1_isCounted_42N, eX1_isCounted_43, eX1_isCounted_44, eX1_isCounted_47, eX1_isCounted_48, eX1_isCounted_48N, eX1_isCounted_49, eX1_isCounted_52, eX1_isCounted_53, eX1_isCounted_53N, eX1_isCounted_54, eX1_isCounted_57, eX1_isCounted_58, eX1_isCounted_58N, eX1_isCounted_59, eX1_isCounted_59N, eX1_isCounted_60R, eX1_isCounted_60N, eX1_isCounted_63, eX1_isCounted_64, eX1_isCounted_67, eX1_isCounted_68, eX1_isCounted_71, eX1_isCounted_72, eX1_isCounted_73, eX1_isCounted_74, rx, rn, rc, rl, hx, hn, hc, hl, d1, d2, d3, d4, d5, d6, d7, d8, d9, d10, d11, d12, rd_n, upw_n, ite_le, n45, n54, true_or, or_true, false_or, or_false, false_and, and_false, kx_l, kx_r, go_s, gl_s, gi_s, gb_s2, gb_s3, gq_s, wt_nil, wt_int, wt_long, wt_ref, wt_null, nl_int, nl_long, nl_ref, nl_null, nl_none, rf_n, rf_s, rf_st, tl_s, tl_n, g0, gS, ex1, nb_b, nb_0, nb_1, nf_i, nf_l, nf_ra, nf_ro, nf_na, nf_no, nf_b0, nf_z0, t45_4, t45_5, true_and, and_true, List.set_cons_zero, List.set_cons_succ, List.length_cons, List.length_nil, rd_s, upw_s, ne_eq, not_false_eq_true, Nat.zero_add, Nat.add_zero]
      | split
      | with_reducible intro _
      | omega
  · repeat' first
      | with_reducible assumption
      | with_reducible refine And.intro ?_ ?_
      | with_reducible exact vpi6 (by assumption) (by assumption)
      | with_reducible exact vpi8 (by assumption) (by assumption)
      | with_reducible refine sX0_holds (by first | assumption | exact hgc _ _ (by assumption) | exact hgl _ _ (by assumption) | exact isR.ext (by assumption) (by assumption)) ?_
      | with_reducible refine sX0_holdsAsSmall (by first | assumption | exact hgc _ _ (by assumption) | exact hgl _ _ (by assumption) | exact isR.ext (by assumption) (by assumption)) ?_
      | with_reducible refine sX0_isSettled (by first | assumption | exact hgc _ _ (by assumption) | exact hgl _ _ (by assumption) | exact isR.ext (by assumption) (by assumption)) ?_
      | with_reducible refine sX0_fitsSmall (by first | assumption | exact hgc _ _ (by assumption) | exact hgl _ _ (by assumption) | exact isR.ext (by assumption) (by assumption)) ?_
      | with_reducible refine sX1_firstPlaceOf (by first | assumption | exact CC.ext (by assumption) (by assumption)) (by first | assumption | exact hgc _ _ (by assumption) | exact hgl _ _ (by assumption) | exact isR.ext (by assumption) (by assumption)) ?_
      | with_reducible refine go_R (by first | assumption | exact hgc _ _ (by assumption) | exact hgl _ _ (by assumption) | exact isR.ext (by assumption) (by assumption)) ?_
      | with_reducible exact hQ _
      | with_reducible exact hQt
      | with_reducible exact hQf
      | simp only [eX1_isCounted_0, eX1_isCounted_2_0, eX1_isCounted_2_1, eX1_isCounted_2_2, eX1_isCounted_2_3, eX1_isCounted_2_4, eX1_isCounted_2_d6, eX1_isCounted_2_d7, eX1_isCounted_36, eX1_isCounted_36N, eX1_isCounted_37, eX1_isCounted_38, eX1_isCounted_41, eX1_isCounted_42, eX1_isCounted_42N, eX1_isCounted_43, eX1_isCounted_44, eX1_isCounted_47, eX1_isCounted_48, eX1_isCounted_48N, eX1_isCounted_49, eX1_isCounted_52, eX1_isCounted_53, eX1_isCounted_53N, eX1_isCounted_54, eX1_isCounted_57, eX1_isCounted_58, eX1_isCounted_58N, eX1_isCounted_59, eX1_isCounted_59N, eX1_isCounted_60R, eX1_isCounted_60N, eX1_isCounted_63, eX1_isCounted_64, eX1_isCounted_67, eX1_isCounted_68, eX1_isCounted_71, eX1_isCounted_72, eX1_isCounted_73, eX1_isCounted_74, rx, rn, rc, rl, hx, hn, hc, hl, d1, d2, d3, d4, d5, d6, d7, d8, d9, d10, d11, d12, rd_n, upw_n, ite_le, n45, n54, true_or, or_true, false_or, or_false, false_and, and_false, kx_l, kx_r, go_s, gl_s, gi_s, gb_s2, gb_s3, gq_s, wt_nil, wt_int, wt_long, wt_ref, wt_null, nl_int, nl_long, nl_ref, nl_null, nl_none, rf_n, rf_s, rf_st, tl_s, tl_n, g0, gS, ex1, nb_b, nb_0, nb_1, nf_i, nf_l, nf_ra, nf_ro, nf_na, nf_no, nf_b0, nf_z0, t45_4, t45_5, true_and, and_true, List.set_cons_zero, List.set_cons_succ, List.length_cons, List.length_nil, rd_s, upw_s, ne_eq, not_false_eq_true, Nat.zero_add, Nat.add_zero]
      | split
      | with_reducible intro _
      | omega
  · repeat' first
      | with_reducible assumption
      | with_reducible refine And.intro ?_ ?_
      | with_reducible exact vpi6 (by assumption) (by assumption)
      | with_reducible exact vpi8 (by assumption) (by assumption)
      | with_reducible refine sX0_holds (by first | assumption | exact hgc _ _ (by assumption) | exact hgl _ _ (by assumption) | exact isR.ext (by assumption) (by assumption)) ?_
      | with_reducible refine sX0_holdsAsSmall (by first | assumption | exact hgc _ _ (by assumption) | exact hgl _ _ (by assumption) | exact isR.ext (by assumption) (by assumption)) ?_
      | with_reducible refine sX0_isSettled (by first | assumption | exact hgc _ _ (by assumption) | exact hgl _ _ (by assumption) | exact isR.ext (by assumption) (by assumption)) ?_
      | with_reducible refine sX0_fitsSmall (by first | assumption | exact hgc _ _ (by assumption) | exact hgl _ _ (by assumption) | exact isR.ext (by assumption) (by assumption)) ?_
      | with_reducible refine sX1_firstPlaceOf (by first | assumption | exact CC.ext (by assumption) (by assumption)) (by first | assumption | exact hgc _ _ (by assumption) | exact hgl _ _ (by assumption) | exact isR.ext (by assumption) (by assumption)) ?_
      | with_reducible refine go_R (by first | assumption | exact hgc _ _ (by assumption) | exact hgl _ _ (by assumption) | exact isR.ext (by assumption) (by assumption)) ?_
      | with_reducible exact hQ _
      | with_reducible exact hQt
      | with_reducible exact hQf
      | simp only [eX1_isCounted_0, eX1_isCounted_2_0, eX1_isCounted_2_1, eX1_isCounted_2_2, eX1_isCounted_2_3, eX1_isCounted_2_4, eX1_isCounted_2_d6, eX1_isCounted_2_d7, eX1_isCounted_36, eX1_isCounted_36N, eX1_isCounted_37, eX1_isCounted_38, eX1_isCounted_41, eX1_isCounted_42, eX1_isCounted_42N, eX1_isCounted_43, eX1_isCounted_44, eX1_isCounted_47, eX1_isCounted_48, eX1_isCounted_48N, eX1_isCounted_49, eX1_isCounted_52, eX1_isCounted_53, eX1_isCounted_53N, eX1_isCounted_54, eX1_isCounted_57, eX1_isCounted_58, eX1_isCounted_58N, eX1_isCounted_59, eX1_isCounted_59N, eX1_isCounted_60R, eX1_isCounted_60N, eX1_isCounted_63, eX1_isCounted_64, eX1_isCounted_67, eX1_isCounted_68, eX1_isCounted_71, eX1_isCounted_72, eX1_isCounted_73, eX1_isCounted_74, rx, rn, rc, rl, hx, hn, hc, hl, d1, d2, d3, d4, d5, d6, d7, d8, d9, d10, d11, d12, rd_n, upw_n, ite_le, n45, n54, true_or, or_true, false_or, or_false, false_and, and_false, kx_l, kx_r, go_s, gl_s, gi_s, gb_s2, gb_s3, gq_s, wt_nil, wt_int, wt_long, wt_ref, wt_null, nl_int, nl_long, nl_ref, nl_null, nl_none, rf_n, rf_s, rf_st, tl_s, tl_n, g0, gS, ex1, nb_b, nb_0, nb_1, nf_i, nf_l, nf_ra, nf_ro, nf_na, nf_no, nf_b0, nf_z0, t45_4, t45_5, true_and, and_true, List.set_cons_zero, List.set_cons_succ, List.length_cons, List.length_nil, rd_s, upw_s, ne_eq, not_false_eq_true, Nat.zero_add, Nat.add_zero]
      | split
      | with_reducible intro _
      | omega
  · repeat' first
      | with_reducible assumption
      | with_reducible refine And.intro ?_ ?_
      | with_reducible exact vpi6 (by assumption) (by assumption)
      | with_reducible exact vpi8 (by assumption) (by assumption)
      | with_reducible refine sX0_holds (by first | assumption | exact hgc _ _ (by assumption) | exact hgl _ _ (by assumption) | exact isR.ext (by assumption) (by assumption)) ?_
      | with_reducible refine sX0_holdsAsSmall (by first | assumption | exact hgc _ _ (by assumption) | exact hgl _ _ (by assumption) | exact isR.ext (by assumption) (by assumption)) ?_
      | with_reducible refine sX0_isSettled (by first | assumption | exact hgc _ _ (by assumption) | exact hgl _ _ (by assumption) | exact isR.ext (by assumption) (by assumption)) ?_
      | with_reducible refine sX0_fitsSmall (by first | assumption | exact hgc _ _ (by assumption) | exact hgl _ _ (by assumption) | exact isR.ext (by assumption) (by assumption)) ?_
      | with_reducible refine sX1_firstPlaceOf (by first | assumption | exact CC.ext (by assumption) (by assumption)) (by first | assumption | exact hgc _ _ (by assumption) | exact hgl _ _ (by assumption) | exact isR.ext (by assumption) (by assumption)) ?_
      | with_reducible refine go_R (by first | assumption | exact hgc _ _ (by assumption) | exact hgl _ _ (by assumption) | exact isR.ext (by assumption) (by assumption)) ?_
      | with_reducible exact hQ _
      | with_reducible exact hQt
      | with_reducible exact hQf
      | simp only [eX1_isCounted_0, eX1_isCounted_2_0, eX1_isCounted_2_1, eX1_isCounted_2_2, eX1_isCounted_2_3, eX1_isCounted_2_4, eX1_isCounted_2_d6, eX1_isCounted_2_d7, eX1_isCounted_36, eX1_isCounted_36N, eX1_isCounted_37, eX1_isCounted_38, eX1_isCounted_41, eX1_isCounted_42, eX1_isCounted_42N, eX1_isCounted_43, eX1_isCounted_44, eX1_isCounted_47, eX1_isCounted_48, eX1_isCounted_48N, eX1_isCounted_49, eX1_isCounted_52, eX1_isCounted_53, eX1_isCounted_53N, eX1_isCounted_54, eX1_isCounted_57, eX1_isCounted_58, eX1_isCounted_58N, eX1_isCounted_59, eX1_isCounted_59N, eX1_isCounted_60R, eX1_isCounted_60N, eX1_isCounted_63, eX1_isCounted_64, eX1_isCounted_67, eX1_isCounted_68, eX1_isCounted_71, eX1_isCounted_72, eX1_isCounted_73, eX1_isCounted_74, rx, rn, rc, rl, hx, hn, hc, hl, d1, d2, d3, d4, d5, d6, d7, d8, d9, d10, d11, d12, rd_n, upw_n, ite_le, n45, n54, true_or, or_true, false_or, or_false, false_and, and_false, kx_l, kx_r, go_s, gl_s, gi_s, gb_s2, gb_s3, gq_s, wt_nil, wt_int, wt_long, wt_ref, wt_null, nl_int, nl_long, nl_ref, nl_null, nl_none, rf_n, rf_s, rf_st, tl_s, tl_n, g0, gS, ex1, nb_b, nb_0, nb_1, nf_i, nf_l, nf_ra, nf_ro, nf_na, nf_no, nf_b0, nf_z0, t45_4, t45_5, true_and, and_true, List.set_cons_zero, List.set_cons_succ, List.length_cons, List.length_nil, rd_s, upw_s, ne_eq, not_false_eq_true, Nat.zero_add, Nat.add_zero]
      | split
      | with_reducible intro _
      | omega
  · repeat' first
      | with_reducible assumption
      | with_reducible refine And.intro ?_ ?_
      | with_reducible exact vpi6 (by assumption) (by assumption)
      | with_reducible exact vpi8 (by assumption) (by assumption)
      | with_reducible refine sX0_holds (by first | assumption | exact hgc _ _ (by assumption) | exact hgl _ _ (by assumption) | exact isR.ext (by assumption) (by assumption)) ?_
      | with_reducible refine sX0_holdsAsSmall (by first | assumption | exact hgc _ _ (by assumption) | exact hgl _ _ (by assumption) | exact isR.ext (by assumption) (by assumption)) ?_
      | with_reducible refine sX0_isSettled (by first | assumption | exact hgc _ _ (by assumption) | exact hgl _ _ (by assumption) | exact isR.ext (by assumption) (by assumption)) ?_
      | with_reducible refine sX0_fitsSmall (by first | assumption | exact hgc _ _ (by assumption) | exact hgl _ _ (by assumption) | exact isR.ext (by assumption) (by assumption)) ?_
      | with_reducible refine sX1_firstPlaceOf (by first | assumption | exact CC.ext (by assumption) (by assumption)) (by first | assumption | exact hgc _ _ (by assumption) | exact hgl _ _ (by assumption) | exact isR.ext (by assumption) (by assumption)) ?_
      | with_reducible refine go_R (by first | assumption | exact hgc _ _ (by assumption) | exact hgl _ _ (by assumption) | exact isR.ext (by assumption) (by assumption)) ?_
      | with_reducible exact hQ _
      | with_reducible exact hQt
      | with_reducible exact hQf
      | simp only [eX1_isCounted_0, eX1_isCounted_2_0, eX1_isCounted_2_1, eX1_isCounted_2_2, eX1_isCounted_2_3, eX1_isCounted_2_4, eX1_isCounted_2_d6, eX1_isCounted_2_d7, eX1_isCounted_36, eX1_isCounted_36N, eX1_isCounted_37, eX1_isCounted_38, eX1_isCounted_41, eX1_isCounted_42, eX1_isCounted_42N, eX1_isCounted_43, eX1_isCounted_44, eX1_isCounted_47, eX1_isCounted_48, eX1_isCounted_48N, eX1_isCounted_49, eX1_isCounted_52, eX1_isCounted_53, eX1_isCounted_53N, eX1_isCounted_54, eX1_isCounted_57, eX1_isCounted_58, eX1_isCounted_58N, eX1_isCounted_59, eX1_isCounted_59N, eX1_isCounted_60R, eX1_isCounted_60N, eX1_isCounted_63, eX1_isCounted_64, eX1_isCounted_67, eX1_isCounted_68, eX1_isCounted_71, eX1_isCounted_72, eX1_isCounted_73, eX1_isCounted_74, rx, rn, rc, rl, hx, hn, hc, hl, d1, d2, d3, d4, d5, d6, d7, d8, d9, d10, d11, d12, rd_n, upw_n, ite_le, n45, n54, true_or, or_true, false_or, or_false, false_and, and_false, kx_l, kx_r, go_s, gl_s, gi_s, gb_s2, gb_s3, gq_s, wt_nil, wt_int, wt_long, wt_ref, wt_null, nl_int, nl_long, nl_ref, nl_null, nl_none, rf_n, rf_s, rf_st, tl_s, tl_n, g0, gS, ex1, nb_b, nb_0, nb_1, nf_i, nf_l, nf_ra, nf_ro, nf_na, nf_no, nf_b0, nf_z0, t45_4, t45_5, true_and, and_true, List.set_cons_zero, List.set_cons_succ, List.length_cons, List.length_nil, rd_s, upw_s, ne_eq, not_false_eq_true, Nat.zero_add, Nat.add_zero]
      | split
      | with_reducible intro _
      | omega
  · repeat' first
      | with_reducible assumption
      | with_reducible refine And.intro ?_ ?_
      | with_reducible exact vpi6 (by assumption) (by assumption)
      | with_reducible exact vpi8 (by assumption) (by assumption)
      | with_reducible refine sX0_holds (by first | assumption | exact hgc _ _ (by assumption) | exact hgl _ _ (by assumption) | exact isR.ext (by assumption) (by assumption)) ?_
      | with_reducible refine sX0_holdsAsSmall (by first | assumption | exact hgc _ _ (by assumption) | exact hgl _ _ (by assumption) | exact isR.ext (by assumption) (by assumption)) ?_
      | with_reducible refine sX0_isSettled (by first | assumption | exact hgc _ _ (by assumption) | exact hgl _ _ (by assumption) | exact isR.ext (by assumption) (by assumption)) ?_
      | with_reducible refine sX0_fitsSmall (by first | assumption | exact hgc _ _ (by assumption) | exact hgl _ _ (by assumption) | exact isR.ext (by assumption) (by assumption)) ?_
      | with_reducible refine sX1_firstPlaceOf (by first | assumption | exact CC.ext (by assumption) (by assumption)) (by first | assumption | exact hgc _ _ (by assumption) | exact hgl _ _ (by assumption) | exact isR.ext (by assumption) (by assumption)) ?_
      | with_reducible refine go_R (by first | assumption | exact hgc _ _ (by assumption) | exact hgl _ _ (by assumption) | exact isR.ext (by assumption) (by assumption)) ?_
      | with_reducible exact hQ _
      | with_reducible exact hQt
      | with_reducible exact hQf
      | simp only [eX1_isCounted_0, eX1_isCounted_2_0, eX1_isCounted_2_1, eX1_isCounted_2_2, eX1_isCounted_2_3, eX1_isCounted_2_4, eX1_isCounted_2_d6, eX1_isCounted_2_d7, eX1_isCounted_36, eX1_isCounted_36N, eX1_isCounted_37, eX1_isCounted_38, eX1_isCounted_41, eX1_isCounted_42, eX1_isCounted_42N, eX1_isCounted_43, eX1_isCounted_44, eX1_isCounted_47, eX1_isCounted_48, eX1_isCounted_48N, eX1_isCounted_49, eX1_isCounted_52, eX1_isCounted_53, eX1_isCounted_53N, eX1_isCounted_54, eX1_isCounted_57, eX1_isCounted_58, eX1_isCounted_58N, eX1_isCounted_59, eX1_isCounted_59N, eX1_isCounted_60R, eX1_isCounted_60N, eX1_isCounted_63, eX1_isCounted_64, eX1_isCounted_67, eX1_isCounted_68, eX1_isCounted_71, eX1_isCounted_72, eX1_isCounted_73, eX1_isCounted_74, rx, rn, rc, rl, hx, hn, hc, hl, d1, d2, d3, d4, d5, d6, d7, d8, d9, d10, d11, d12, rd_n, upw_n, eX1_isCounted_2_d hsw, ite_le, n45, n54, true_or, or_true, false_or, or_false, false_and, and_false, kx_l, kx_r, go_s, gl_s, gi_s, gb_s2, gb_s3, gq_s, wt_nil, wt_int, wt_long, wt_ref, wt_null, nl_int, nl_long, nl_ref, nl_null, nl_none, rf_n, rf_s, rf_st, tl_s, tl_n, g0, gS, ex1, nb_b, nb_0, nb_1, nf_i, nf_l, nf_ra, nf_ro, nf_na, nf_no, nf_b0, nf_z0, t45_4, t45_5, true_and, and_true, List.set_cons_zero, List.set_cons_succ, List.length_cons, List.length_nil, rd_s, upw_s, ne_eq, not_false_eq_true, Nat.zero_add, Nat.add_zero]
      | split
      | with_reducible intro _
      | omega
set_option maxHeartbeats 4000000 in
theorem lX1_pileCount_6 {a0 : Int64} {a1 : Int32} (hC : CC g w0 x nA cA lA kn w) (hQ : ∀ v : Int32, Q (.inl (some (.int v))) w) : ∀ (n rf md : Int32) (f : Nat → Int64) (gc gl : Nat → Option Nat), RO5 g w x nA cA lA n rf kn md f gc gl → ∀ (d : Nat) (i4 : Int32) (i5 : Int32) (i6 : Option Value) (k m : Nat), ¬ i5 < 0 → (n : Int32).toInt - i5.toInt ≤ (d : Int) → k ≤ 0 → m ≤ 0 → WP (MX1_pileCount g) Q (6, [some (.ref x), some (.long a0), none, some (.int a1), some (.int i4), some (.int i5), i6], [], w, k, m) := by
  rintro n rf md f gc gl ⟨hx, hn, hc, hl, hgc, hgl, hn0, hn1, rx, rn, rc, rl, ⟨d1, d2, d3, d4, d5, d6⟩, ⟨d7, d8, d9, d10, d11, d12⟩⟩ d
  induction d with
  | zero =>
    intro i4 i5 i6 k m z0 hm hk hs
    rw [eX1_pileCount_6]
    repeat' first
      | with_reducible assumption
      | with_reducible refine And.intro ?_ ?_
      | with_reducible exact vpi6 (by assumption) (by assumption)
      | with_reducible exact vpi8 (by assumption) (by assumption)
      | with_reducible exact (ic_z (by assumption) (by assumption)).elim
      | with_reducible exact vpi12 (by assumption) (by assumption) (by assumption)
      | with_reducible refine sX1_isCounted (by first | assumption | exact CC.ext (by assumption) (by assumption)) (by first | assumption | exact hgc _ _ (by assumption) | exact hgl _ _ (by assumption) | exact isR.ext (by assumption) (by assumption)) ?_
      | with_reducible refine sX1_asNumber ?_
      | with_reducible refine go_R (by first | assumption | exact hgc _ _ (by assumption) | exact hgl _ _ (by assumption) | exact isR.ext (by assumption) (by assumption)) ?_
      | with_reducible exact hQ _
      | simp only [eX1_pileCount_0, eX1_pileCount_1, eX1_pileCount_3, eX1_pileCount_4, eX1_pileCount_8, eX1_pileCount_8N, eX1_pileCount_9, eX1_pileCount_12, eX1_pileCount_15, eX1_pileCount_15N, eX1_pileCount_16, eX1_pileCount_19, eX1_pileCount_21, eX1_pileCount_22, eX1_pileCount_22N, eX1_pileCount_24, eX1_pileCount_24N, eX1_pileCount_26R, eX1_pileCount_26N, eX1_pileCount_29, eX1_pileCount_31, eX1_pileCount_31N, eX1_pileCount_32, eX1_pileCount_32N, eX1_pileCount_34, eX1_pileCount_36, eX1_pileCount_37, eX1_pileCount_38R, eX1_pileCount_38N, eX1_pileCount_41, eX1_pileCount_44, eX1_pileCount_45, eX1_pileCount_47, eX1_pileCount_50, eX1_pileCount_53, eX1_pileCount_55, rx, rn, rc, rl, hx, hn, hc, hl, d1, d2, d3, d4, d5, d6, d7, d8, d9, d10, d11, d12, rd_n, upw_n, ite_le, n45, n54, true_or, or_true, false_or, or_false, false_and, and_false, kx_l, kx_r, go_s, gl_s, gi_s, gb_s2, gb_s3, gq_s, wt_nil, wt_int, wt_long, wt_ref, wt_null, nl_int, nl_long, nl_ref, nl_null, nl_none, rf_n, rf_s, rf_st, tl_s, tl_n, g0, gS, ex1, nb_b, nb_0, nb_1, nf_i, nf_l, nf_ra, nf_ro, nf_na, nf_no, nf_b0, nf_z0, t45_4, t45_5, true_and, and_true, List.set_cons_zero, List.set_cons_succ, List.length_cons, List.length_nil, rd_s, upw_s, ne_eq, not_false_eq_true, Nat.zero_add, Nat.add_zero]
      | split
      | with_reducible intro _
      | omega
  | succ d ih =>
    intro i4 i5 i6 k m z0 hm hk hs
    rw [eX1_pileCount_6]
    repeat' first
      | with_reducible assumption
      | with_reducible refine And.intro ?_ ?_
      | with_reducible exact vpi6 (by assumption) (by assumption)
      | with_reducible exact vpi8 (by assumption) (by assumption)
      | with_reducible exact ih _ _ _ _ _ (ic_p (by assumption) (by assumption)) (ic_s (by assumption) (by assumption)) (by first | assumption | omega) (by first | assumption | omega)
      | with_reducible exact vpi12 (by assumption) (by assumption) (by assumption)
      | with_reducible refine sX1_isCounted (by first | assumption | exact CC.ext (by assumption) (by assumption)) (by first | assumption | exact hgc _ _ (by assumption) | exact hgl _ _ (by assumption) | exact isR.ext (by assumption) (by assumption)) ?_
      | with_reducible refine sX1_asNumber ?_
      | with_reducible refine go_R (by first | assumption | exact hgc _ _ (by assumption) | exact hgl _ _ (by assumption) | exact isR.ext (by assumption) (by assumption)) ?_
      | with_reducible exact hQ _
      | simp only [eX1_pileCount_0, eX1_pileCount_1, eX1_pileCount_3, eX1_pileCount_4, eX1_pileCount_8, eX1_pileCount_8N, eX1_pileCount_9, eX1_pileCount_12, eX1_pileCount_15, eX1_pileCount_15N, eX1_pileCount_16, eX1_pileCount_19, eX1_pileCount_21, eX1_pileCount_22, eX1_pileCount_22N, eX1_pileCount_24, eX1_pileCount_24N, eX1_pileCount_26R, eX1_pileCount_26N, eX1_pileCount_29, eX1_pileCount_31, eX1_pileCount_31N, eX1_pileCount_32, eX1_pileCount_32N, eX1_pileCount_34, eX1_pileCount_36, eX1_pileCount_37, eX1_pileCount_38R, eX1_pileCount_38N, eX1_pileCount_41, eX1_pileCount_44, eX1_pileCount_45, eX1_pileCount_47, eX1_pileCount_50, eX1_pileCount_53, eX1_pileCount_55, rx, rn, rc, rl, hx, hn, hc, hl, d1, d2, d3, d4, d5, d6, d7, d8, d9, d10, d11, d12, rd_n, upw_n, ite_le, n45, n54, true_or, or_true, false_or, or_false, false_and, and_false, kx_l, kx_r, go_s, gl_s, gi_s, gb_s2, gb_s3, gq_s, wt_nil, wt_int, wt_long, wt_ref, wt_null, nl_int, nl_long, nl_ref, nl_null, nl_none, rf_n, rf_s, rf_st, tl_s, tl_n, g0, gS, ex1, nb_b, nb_0, nb_1, nf_i, nf_l, nf_ra, nf_ro, nf_na, nf_no, nf_b0, nf_z0, t45_4, t45_5, true_and, and_true, List.set_cons_zero, List.set_cons_succ, List.length_cons, List.length_nil, rd_s, upw_s, ne_eq, not_false_eq_true, Nat.zero_add, Nat.add_zero]
      | split
      | with_reducible intro _
      | omega
set_option maxHeartbeats 4000000 in
theorem sX1_pileCount {a0 : Int64} {a1 : Int32} (hC : CC g w0 x nA cA lA kn w) (hQ : ∀ v : Int32, Q (.inl (some (.int v))) w) : WP (MX1_pileCount g) Q (0, [some (.ref x), some (.long a0), none, some (.int a1), none, none, none], [], w, 0, 0) := by
  obtain ⟨n, rf, md, f, gc, gl, hx, hn, hc, hl, hgc, hgl, hn0, hn1, rx, rn, rc, rl, ⟨d1, d2, d3, d4, d5, d6⟩, ⟨d7, d8, d9, d10, d11, d12⟩⟩ := hC.1.opn g
  repeat' first
    | with_reducible assumption
    | with_reducible refine And.intro ?_ ?_
    | with_reducible exact vpi6 (by assumption) (by assumption)
    | with_reducible exact vpi8 (by assumption) (by assumption)
    | with_reducible exact lX1_pileCount_6 hC hQ _ _ _ _ _ _ ⟨hx, hn, hc, hl, hgc, hgl, hn0, hn1, rx, rn, rc, rl, ⟨d1, d2, d3, d4, d5, d6⟩, ⟨d7, d8, d9, d10, d11, d12⟩⟩ 70 _ _ _ _ _ (by first | decide | assumption) (by first | decide | exact n12 (by assumption) | exact n60 (by assumption)) (by first | decide | omega) (by first | decide | omega)
    | with_reducible refine sX1_isCounted (by first | assumption | exact CC.ext (by assumption) (by assumption)) (by first | assumption | exact hgc _ _ (by assumption) | exact hgl _ _ (by assumption) | exact isR.ext (by assumption) (by assumption)) ?_
    | with_reducible refine sX1_asNumber ?_
    | with_reducible refine go_R (by first | assumption | exact hgc _ _ (by assumption) | exact hgl _ _ (by assumption) | exact isR.ext (by assumption) (by assumption)) ?_
    | with_reducible exact hQ _
    | simp only [eX1_pileCount_0, eX1_pileCount_1, eX1_pileCount_3, eX1_pileCount_4, eX1_pileCount_8, eX1_pileCount_8N, eX1_pileCount_9, eX1_pileCount_12, eX1_pileCount_15, eX1_pileCount_15N, eX1_pileCount_16, eX1_pileCount_19, eX1_pileCount_21, eX1_pileCount_22, eX1_pileCount_22N, eX1_pileCount_24, eX1_pileCount_24N, eX1_pileCount_26R, eX1_pileCount_26N, eX1_pileCount_29, eX1_pileCount_31, eX1_pileCount_31N, eX1_pileCount_32, eX1_pileCount_32N, eX1_pileCount_34, eX1_pileCount_36, eX1_pileCount_37, eX1_pileCount_38R, eX1_pileCount_38N, eX1_pileCount_41, eX1_pileCount_44, eX1_pileCount_45, eX1_pileCount_47, eX1_pileCount_50, eX1_pileCount_53, eX1_pileCount_55, rx, rn, rc, rl, hx, hn, hc, hl, d1, d2, d3, d4, d5, d6, d7, d8, d9, d10, d11, d12, rd_n, upw_n, ite_le, n45, n54, true_or, or_true, false_or, or_false, false_and, and_false, kx_l, kx_r, go_s, gl_s, gi_s, gb_s2, gb_s3, gq_s, wt_nil, wt_int, wt_long, wt_ref, wt_null, nl_int, nl_long, nl_ref, nl_null, nl_none, rf_n, rf_s, rf_st, tl_s, tl_n, g0, gS, ex1, nb_b, nb_0, nb_1, nf_i, nf_l, nf_ra, nf_ro, nf_na, nf_no, nf_b0, nf_z0, t45_4, t45_5, true_and, and_true, List.set_cons_zero, List.set_cons_succ, List.length_cons, List.length_nil, rd_s, upw_s, ne_eq, not_false_eq_true, Nat.zero_add, Nat.add_zero]
    | split
    | with_reducible intro _
    | omega
set_option maxHeartbeats 4000000 in
theorem sX1_houseCount {a0 : Int32} (hC : CC g w0 x nA cA lA kn w) (hQ : ∀ v : Int32, Q (.inl (some (.int v))) w) : WP (MX1_houseCount g) Q (0, [some (.ref x), some (.int a0)], [], w, 0, 0) := by
  obtain ⟨n, rf, md, f, gc, gl, hx, hn, hc, hl, hgc, hgl, hn0, hn1, rx, rn, rc, rl, ⟨d1, d2, d3, d4, d5, d6⟩, ⟨d7, d8, d9, d10, d11, d12⟩⟩ := hC.1.opn g
  rcases sw03 a0 with rfl | rfl | rfl | rfl | hsw
  · repeat' first
      | with_reducible assumption
      | with_reducible refine And.intro ?_ ?_
      | with_reducible exact vpi6 (by assumption) (by assumption)
      | with_reducible exact vpi8 (by assumption) (by assumption)
      | with_reducible refine sX1_cardsWithRange (by first | assumption | exact CC.ext (by assumption) (by assumption)) ?_
      | with_reducible refine go_R (by first | assumption | exact hgc _ _ (by assumption) | exact hgl _ _ (by assumption) | exact isR.ext (by assumption) (by assumption)) ?_
      | with_reducible exact hQ _
      | simp only [eX1_houseCount_0, eX1_houseCount_1_0, eX1_houseCount_1_1, eX1_houseCount_1_2, eX1_houseCount_1_3, eX1_houseCount_1_d4, eX1_houseCount_1_d5, eX1_houseCount_32, eX1_houseCount_32N, eX1_houseCount_33, eX1_houseCount_36, eX1_houseCount_37, eX1_houseCount_37N, eX1_houseCount_38, eX1_houseCount_41, eX1_houseCount_42, eX1_houseCount_42N, eX1_houseCount_43, eX1_houseCount_46, eX1_houseCount_47, eX1_houseCount_47N, eX1_houseCount_48, eX1_houseCount_51, eX1_houseCount_52, eX1_houseCount_52N, eX1_houseCount_53, eX1_houseCount_56, rx, rn, rc, rl, hx, hn, hc, hl, d1, d2, d3, d4, d5, d6, d7, d8, d9, d10, d11, d12, rd_n, upw_n, ite_le, n45, n54, true_or, or_true, false_or, or_false, false_and, and_false, kx_l, kx_r, go_s, gl_s, gi_s, gb_s2, gb_s3, gq_s, wt_nil, wt_int, wt_long, wt_ref, wt_null, nl_int, nl_long, nl_ref, nl_null, nl_none, rf_n, rf_s, rf_st, tl_s, tl_n, g0, gS, ex1, nb_b, nb_0, nb_1, nf_i, nf_l, nf_ra, nf_ro, nf_na, nf_no, nf_b0, nf_z0, t45_4, t45_5, true_and, and_true, List.set_cons_zero, List.set_cons_succ, List.length_cons, List.length_nil, rd_s, upw_s, ne_eq, not_false_eq_true, Nat.zero_add, Nat.add_zero]
      | split
      | with_reducible intro _
      | omega
  · repeat' first
      | with_reducible assumption
      | with_reducible refine And.intro ?_ ?_
      | with_reducible exact vpi6 (by assumption) (by assumption)
      | with_reducible exact vpi8 (by assumption) (by assumption)
      | with_reducible refine sX1_cardsWithRange (by first | assumption | exact CC.ext (by assumption) (by assumption)) ?_
      | with_reducible refine go_R (by first | assumption | exact hgc _ _ (by assumption) | exact hgl _ _ (by assumption) | exact isR.ext (by assumption) (by assumption)) ?_
      | with_reducible exact hQ _
      | simp only [eX1_houseCount_0, eX1_houseCount_1_0, eX1_houseCount_1_1, eX1_houseCount_1_2, eX1_houseCount_1_3, eX1_houseCount_1_d4, eX1_houseCount_1_d5, eX1_houseCount_32, eX1_houseCount_32N, eX1_houseCount_33, eX1_houseCount_36, eX1_houseCount_37, eX1_houseCount_37N, eX1_houseCount_38, eX1_houseCount_41, eX1_houseCount_42, eX1_houseCount_42N, eX1_houseCount_43, eX1_houseCount_46, eX1_houseCount_47, eX1_houseCount_47N, eX1_houseCount_48, eX1_houseCount_51, eX1_houseCount_52, eX1_houseCount_52N, eX1_houseCount_53, eX1_houseCount_56, rx, rn, rc, rl, hx, hn, hc, hl, d1, d2, d3, d4, d5, d6, d7, d8, d9, d10, d11, d12, rd_n, upw_n, ite_le, n45, n54, true_or, or_true, false_or, or_false, false_and, and_false, kx_l, kx_r, go_s, gl_s, gi_s, gb_s2, gb_s3, gq_s, wt_nil, wt_int, wt_long, wt_ref, wt_null, nl_int, nl_long, nl_ref, nl_null, nl_none, rf_n, rf_s, rf_st, tl_s, tl_n, g0, gS, ex1, nb_b, nb_0, nb_1, nf_i, nf_l, nf_ra, nf_ro, nf_na, nf_no, nf_b0, nf_z0, t45_4, t45_5, true_and, and_true, List.set_cons_zero, List.set_cons_succ, List.length_cons, List.length_nil, rd_s, upw_s, ne_eq, not_false_eq_true, Nat.zero_add, Nat.add_zero]
      | split
      | with_reducible intro _
      | omega
  · repeat' first
      | with_reducible assumption
      | with_reducible refine And.intro ?_ ?_
      | with_reducible exact vpi6 (by assumption) (by assumption)
      | with_reducible exact vpi8 (by assumption) (by assumption)
      | with_reducible refine sX1_cardsWithRange (by first | assumption | exact CC.ext (by assumption) (by assumption)) ?_
      | with_reducible refine go_R (by first | assumption | exact hgc _ _ (by assumption) | exact hgl _ _ (by assumption) | exact isR.ext (by assumption) (by assumption)) ?_
      | with_reducible exact hQ _
      | simp only [eX1_houseCount_0, eX1_houseCount_1_0, eX1_houseCount_1_1, eX1_houseCount_1_2, eX1_houseCount_1_3, eX1_houseCount_1_d4, eX1_houseCount_1_d5, eX1_houseCount_32, eX1_houseCount_32N, eX1_houseCount_33, eX1_houseCount_36, eX1_houseCount_37, eX1_houseCount_37N, eX1_houseCount_38, eX1_houseCount_41, eX1_houseCount_42, eX1_houseCount_42N, eX1_houseCount_43, eX1_houseCount_46, eX1_houseCount_47, eX1_houseCount_47N, eX1_houseCount_48, eX1_houseCount_51, eX1_houseCount_52, eX1_houseCount_52N, eX1_houseCount_53, eX1_houseCount_56, rx, rn, rc, rl, hx, hn, hc, hl, d1, d2, d3, d4, d5, d6, d7, d8, d9, d10, d11, d12, rd_n, upw_n, ite_le, n45, n54, true_or, or_true, false_or, or_false, false_and, and_false, kx_l, kx_r, go_s, gl_s, gi_s, gb_s2, gb_s3, gq_s, wt_nil, wt_int, wt_long, wt_ref, wt_null, nl_int, nl_long, nl_ref, nl_null, nl_none, rf_n, rf_s, rf_st, tl_s, tl_n, g0, gS, ex1, nb_b, nb_0, nb_1, nf_i, nf_l, nf_ra, nf_ro, nf_na, nf_no, nf_b0, nf_z0, t45_4, t45_5, true_and, and_true, List.set_cons_zero, List.set_cons_succ, List.length_cons, List.length_nil, rd_s, upw_s, ne_eq, not_false_eq_true, Nat.zero_add, Nat.add_zero]
      | split
      | with_reducible intro _
      | omega
  · repeat' first
      | with_reducible assumption
      | with_reducible refine And.intro ?_ ?_
      | with_reducible exact vpi6 (by assumption) (by assumption)
      | with_reducible exact vpi8 (by assumption) (by assumption)
      | with_reducible refine sX1_cardsWithRange (by first | assumption | exact CC.ext (by assumption) (by assumption)) ?_
      | with_reducible refine go_R (by first | assumption | exact hgc _ _ (by assumption) | exact hgl _ _ (by assumption) | exact isR.ext (by assumption) (by assumption)) ?_
      | with_reducible exact hQ _
      | simp only [eX1_houseCount_0, eX1_houseCount_1_0, eX1_houseCount_1_1, eX1_houseCount_1_2, eX1_houseCount_1_3, eX1_houseCount_1_d4, eX1_houseCount_1_d5, eX1_houseCount_32, eX1_houseCount_32N, eX1_houseCount_33, eX1_houseCount_36, eX1_houseCount_37, eX1_houseCount_37N, eX1_houseCount_38, eX1_houseCount_41, eX1_houseCount_42, eX1_houseCount_42N, eX1_houseCount_43, eX1_houseCount_46, eX1_houseCount_47, eX1_houseCount_47N, eX1_houseCount_48, eX1_houseCount_51, eX1_houseCount_52, eX1_houseCount_52N, eX1_houseCount_53, eX1_houseCount_56, rx, rn, rc, rl, hx, hn, hc, hl, d1, d2, d3, d4, d5, d6, d7, d8, d9, d10, d11, d12, rd_n, upw_n, ite_le, n45, n54, true_or, or_true, false_or, or_false, false_and, and_false, kx_l, kx_r, go_s, gl_s, gi_s, gb_s2, gb_s3, gq_s, wt_nil, wt_int, wt_long, wt_ref, wt_null, nl_int, nl_long, nl_ref, nl_null, nl_none, rf_n, rf_s, rf_st, tl_s, tl_n, g0, gS, ex1, nb_b, nb_0, nb_1, nf_i, nf_l, nf_ra, nf_ro, nf_na, nf_no, nf_b0, nf_z0, t45_4, t45_5, true_and, and_true, List.set_cons_zero, List.set_cons_succ, List.length_cons, List.length_nil, rd_s, upw_s, ne_eq, not_false_eq_true, Nat.zero_add, Nat.add_zero]
      | split
      | with_reducible intro _
      | omega
  · repeat' first
      | with_reducible assumption
      | with_reducible refine And.intro ?_ ?_
      | with_reducible exact vpi6 (by assumption) (by assumption)
      | with_reducible exact vpi8 (by assumption) (by assumption)
      | with_reducible refine sX1_cardsWithRange (by first | assumption | exact CC.ext (by assumption) (by assumption)) ?_
      | with_reducible refine go_R (by first | assumption | exact hgc _ _ (by assumption) | exact hgl _ _ (by assumption) | exact isR.ext (by assumption) (by assumption)) ?_
      | with_reducible exact hQ _
      | simp only [eX1_houseCount_0, eX1_houseCount_1_0, eX1_houseCount_1_1, eX1_houseCount_1_2, eX1_houseCount_1_3, eX1_houseCount_1_d4, eX1_houseCount_1_d5, eX1_houseCount_32, eX1_houseCount_32N, eX1_houseCount_33, eX1_houseCount_36, eX1_houseCount_37, eX1_houseCount_37N, eX1_houseCount_38, eX1_houseCount_41, eX1_houseCount_42, eX1_houseCount_42N, eX1_houseCount_43, eX1_houseCount_46, eX1_houseCount_47, eX1_houseCount_47N, eX1_houseCount_48, eX1_houseCount_51, eX1_houseCount_52, eX1_houseCount_52N, eX1_houseCount_53, eX1_houseCount_56, rx, rn, rc, rl, hx, hn, hc, hl, d1, d2, d3, d4, d5, d6, d7, d8, d9, d10, d11, d12, rd_n, upw_n, eX1_houseCount_1_d hsw, ite_le, n45, n54, true_or, or_true, false_or, or_false, false_and, and_false, kx_l, kx_r, go_s, gl_s, gi_s, gb_s2, gb_s3, gq_s, wt_nil, wt_int, wt_long, wt_ref, wt_null, nl_int, nl_long, nl_ref, nl_null, nl_none, rf_n, rf_s, rf_st, tl_s, tl_n, g0, gS, ex1, nb_b, nb_0, nb_1, nf_i, nf_l, nf_ra, nf_ro, nf_na, nf_no, nf_b0, nf_z0, t45_4, t45_5, true_and, and_true, List.set_cons_zero, List.set_cons_succ, List.length_cons, List.length_nil, rd_s, upw_s, ne_eq, not_false_eq_true, Nat.zero_add, Nat.add_zero]
      | split
      | with_reducible intro _
      | omega
end
end
/-! 67.22.class4.lean.txt -/
section
section
variable {g : RO} {Q : Ot → Hw → Prop} {w0 w : Hw} {x nA cA lA : Nat} {kn : Int32}
set_option maxHeartbeats 4000000 in
theorem sX1_isOuterSound {a0 : Nat} (h0 : isR w a0) (hQ : ∀ v : Bool, Q (.inl (some (.int (bI v)))) w) : WP (MX1_isOuterSound g) Q (0, [some (.ref a0)], [], w, 0, 0) := by
  have hQt : Q (.inl (some (.int 1))) w := hQ true
  have hQf : Q (.inl (some (.int 0))) w := hQ false
  repeat' first
    | with_reducible assumption
    | with_reducible refine And.intro ?_ ?_
    | with_reducible exact vpi6 (by assumption) (by assumption)
    | with_reducible exact vpi8 (by assumption) (by assumption)
    | with_reducible refine sX0_holds (by first | assumption | exact hgc _ _ (by assumption) | exact hgl _ _ (by assumption) | exact isR.ext (by assumption) (by assumption)) ?_
    | with_reducible refine go_R (by assumption) ?_
    | with_reducible exact hQ _
    | with_reducible exact hQt
    | with_reducible exact hQf
    | simp only [eX1_isOuterSound_0, eX1_isOuterSound_0N, eX1_isOuterSound_1, eX1_isOuterSound_4, eX1_isOuterSound_7, eX1_isOuterSound_8, eX1_isOuterSound_11, eX1_isOuterSound_11N, eX1_isOuterSound_12, eX1_isOuterSound_12N, eX1_isOuterSound_13, eX1_isOuterSound_16, eX1_isOuterSound_17, eX1_isOuterSound_18, eX1_isOuterSound_21, eX1_isOuterSound_24, eX1_isOuterSound_24N, eX1_isOuterSound_25, eX1_isOuterSound_28, eX1_isOuterSound_31, eX1_isOuterSound_32, eX1_isOuterSound_35, eX1_isOuterSound_35N, eX1_isOuterSound_36, eX1_isOuterSound_36N, eX1_isOuterSound_37, eX1_isOuterSound_40, eX1_isOuterSound_41, eX1_isOuterSound_42, eX1_isOuterSound_45, eX1_isOuterSound_48, eX1_isOuterSound_49, eX1_isOuterSound_52, eX1_isOuterSound_53, ite_le, n45, n54, true_or, or_true, false_or, or_false, false_and, and_false, kx_l, kx_r, go_s, gl_s, gi_s, gb_s2, gb_s3, gq_s, wt_nil, wt_int, wt_long, wt_ref, wt_null, nl_int, nl_long, nl_ref, nl_null, nl_none, rf_n, rf_s, rf_st, tl_s, tl_n, g0, gS, ex1, nb_b, nb_0, nb_1, nf_i, nf_l, nf_ra, nf_ro, nf_na, nf_no, nf_b0, nf_z0, t45_4, t45_5, true_and, and_true, List.set_cons_zero, List.set_cons_succ, List.length_cons, List.length_nil, rd_s, upw_s, ne_eq, not_false_eq_true, Nat.zero_add, Nat.add_zero]
    | split
    | with_reducible intro _
    | omega
set_option maxHeartbeats 4000000 in
theorem lX1_isEachEndHeld_2 {a0 : Nat} (h0 : isR w a0) (hQ : ∀ v : Bool, Q (.inl (some (.int (bI v)))) w) : ∀ (d : Nat) (i1 : Int32) (i2 : Option Value) (i3 : Option Value) (k m : Nat), ¬ i1 < 0 → (4 : Int32).toInt - i1.toInt ≤ (d : Int) → k ≤ 0 → m ≤ 0 → WP (MX1_isEachEndHeld g) Q (2, [some (.ref a0), some (.int i1), i2, i3], [], w, k, m) := by
  intro d
  have hQt : Q (.inl (some (.int 1))) w := hQ true
  have hQf : Q (.inl (some (.int 0))) w := hQ false
  induction d with
  | zero =>
    intro i1 i2 i3 k m z0 hm hk hs
    rw [eX1_isEachEndHeld_2]
    repeat' first
      | with_reducible assumption
      | with_reducible refine And.intro ?_ ?_
      | with_reducible exact vpi6 (by assumption) (by assumption)
      | with_reducible exact vpi8 (by assumption) (by assumption)
      | with_reducible exact (ic_z (by assumption) (by assumption)).elim
      | with_reducible exact vpi12 (by assumption) (by assumption) (by assumption)
      | with_reducible refine sX0_endAt (by first | assumption | exact hgc _ _ (by assumption) | exact hgl _ _ (by assumption) | exact isR.ext (by assumption) (by assumption)) ?_
      | with_reducible refine sX0_holds (by first | assumption | exact hgc _ _ (by assumption) | exact hgl _ _ (by assumption) | exact isR.ext (by assumption) (by assumption)) ?_
      | with_reducible refine sX0_holdsAsSmall (by first | assumption | exact hgc _ _ (by assumption) | exact hgl _ _ (by assumption) | exact isR.ext (by assumption) (by assumption)) ?_
      | with_reducible refine sX0_fitsSmall (by first | assumption | exact hgc _ _ (by assumption) | exact hgl _ _ (by assumption) | exact isR.ext (by assumption) (by assumption)) ?_
      | with_reducible refine go_R (by assumption) ?_
      | with_reducible exact hQ _
      | with_reducible exact hQt
      | with_reducible exact hQf
      | simp only [eX1_isEachEndHeld_0, eX1_isEachEndHeld_1, eX1_isEachEndHeld_3, eX1_isEachEndHeld_4, eX1_isEachEndHeld_7, eX1_isEachEndHeld_7N, eX1_isEachEndHeld_8, eX1_isEachEndHeld_9, eX1_isEachEndHeld_12, eX1_isEachEndHeld_13, eX1_isEachEndHeld_13N, eX1_isEachEndHeld_14, eX1_isEachEndHeld_15, eX1_isEachEndHeld_18, eX1_isEachEndHeld_21, eX1_isEachEndHeld_21N, eX1_isEachEndHeld_22, eX1_isEachEndHeld_23, eX1_isEachEndHeld_26, eX1_isEachEndHeld_26N, eX1_isEachEndHeld_27, eX1_isEachEndHeld_30, eX1_isEachEndHeld_33, eX1_isEachEndHeld_34, eX1_isEachEndHeld_35, eX1_isEachEndHeld_38, eX1_isEachEndHeld_41, eX1_isEachEndHeld_42, ite_le, n45, n54, true_or, or_true, false_or, or_false, false_and, and_false, kx_l, kx_r, go_s, gl_s, gi_s, gb_s2, gb_s3, gq_s, wt_nil, wt_int, wt_long, wt_ref, wt_null, nl_int, nl_long, nl_ref, nl_null, nl_none, rf_n, rf_s, rf_st, tl_s, tl_n, g0, gS, ex1, nb_b, nb_0, nb_1, nf_i, nf_l, nf_ra, nf_ro, nf_na, nf_no, nf_b0, nf_z0, t45_4, t45_5, true_and, and_true, List.set_cons_zero, List.set_cons_succ, List.length_cons, List.length_nil, rd_s, upw_s, ne_eq, not_false_eq_true, Nat.zero_add, Nat.add_zero]
      | split
      | with_reducible intro _
      | omega
  | succ d ih =>
    intro i1 i2 i3 k m z0 hm hk hs
    rw [eX1_isEachEndHeld_2]
    repeat' first
      | with_reducible assumption
      | with_reducible refine And.intro ?_ ?_
      | with_reducible exact vpi6 (by assumption) (by assumption)
      | with_reducible exact vpi8 (by assumption) (by assumption)
      | with_reducible exact ih _ _ _ _ _ (ic_p (by assumption) (by assumption)) (ic_s (by assumption) (by assumption)) (by first | assumption | omega) (by first | assumption | omega)
      | with_reducible exact vpi12 (by assumption) (by assumption) (by assumption)
      | with_reducible refine sX0_endAt (by first | assumption | exact hgc _ _ (by assumption) | exact hgl _ _ (by assumption) | exact isR.ext (by assumption) (by assumption)) ?_
      | with_reducible refine sX0_holds (by first | assumption | exact hgc _ _ (by assumption) | exact hgl _ _ (by assumption) | exact isR.ext (by assumption) (by assumption)) ?_
      | with_reducible refine sX0_holdsAsSmall (by first | assumption | exact hgc _ _ (by assumption) | exact hgl _ _ (by assumption) | exact isR.ext (by assumption) (by assumption)) ?_
      | with_reducible refine sX0_fitsSmall (by first | assumption | exact hgc _ _ (by assumption) | exact hgl _ _ (by assumption) | exact isR.ext (by assumption) (by assumption)) ?_
      | with_reducible refine go_R (by assumption) ?_
      | with_reducible exact hQ _
      | with_reducible exact hQt
      | with_reducible exact hQf
      | simp only [eX1_isEachEndHeld_0, eX1_isEachEndHeld_1, eX1_isEachEndHeld_3, eX1_isEachEndHeld_4, eX1_isEachEndHeld_7, eX1_isEachEndHeld_7N, eX1_isEachEndHeld_8, eX1_isEachEndHeld_9, eX1_isEachEndHeld_12, eX1_isEachEndHeld_13, eX1_isEachEndHeld_13N, eX1_isEachEndHeld_14, eX1_isEachEndHeld_15, eX1_isEachEndHeld_18, eX1_isEachEndHeld_21, eX1_isEachEndHeld_21N, eX1_isEachEndHeld_22, eX1_isEachEndHeld_23, eX1_isEachEndHeld_26, eX1_isEachEndHeld_26N, eX1_isEachEndHeld_27, eX1_isEachEndHeld_30, eX1_isEachEndHeld_33, eX1_isEachEndHeld_34, eX1_isEachEndHeld_35, eX1_isEachEndHeld_38, eX1_isEachEndHeld_41, eX1_isEachEndHeld_42, ite_le, n45, n54, true_or, or_true, false_or, or_false, false_and, and_false, kx_l, kx_r, go_s, gl_s, gi_s, gb_s2, gb_s3, gq_s, wt_nil, wt_int, wt_long, wt_ref, wt_null, nl_int, nl_long, nl_ref, nl_null, nl_none, rf_n, rf_s, rf_st, tl_s, tl_n, g0, gS, ex1, nb_b, nb_0, nb_1, nf_i, nf_l, nf_ra, nf_ro, nf_na, nf_no, nf_b0, nf_z0, t45_4, t45_5, true_and, and_true, List.set_cons_zero, List.set_cons_succ, List.length_cons, List.length_nil, rd_s, upw_s, ne_eq, not_false_eq_true, Nat.zero_add, Nat.add_zero]
      | split
      | with_reducible intro _
      | omega
set_option maxHeartbeats 4000000 in
theorem sX1_isEachEndHeld {a0 : Nat} (h0 : isR w a0) (hQ : ∀ v : Bool, Q (.inl (some (.int (bI v)))) w) : WP (MX1_isEachEndHeld g) Q (0, [some (.ref a0), none, none, none], [], w, 0, 0) := by
  have hQt : Q (.inl (some (.int 1))) w := hQ true
  have hQf : Q (.inl (some (.int 0))) w := hQ false
  repeat' first
    | with_reducible assumption
    | with_reducible refine And.intro ?_ ?_
    | with_reducible exact vpi6 (by assumption) (by assumption)
    | with_reducible exact vpi8 (by assumption) (by assumption)
    | with_reducible exact lX1_isEachEndHeld_2 h0 hQ 70 _ _ _ _ _ (by first | decide | assumption) (by first | decide | exact n12 (by assumption) | exact n60 (by assumption)) (by first | decide | omega) (by first | decide | omega)
    | with_reducible refine sX0_endAt (by first | assumption | exact hgc _ _ (by assumption) | exact hgl _ _ (by assumption) | exact isR.ext (by assumption) (by assumption)) ?_
    | with_reducible refine sX0_holds (by first | assumption | exact hgc _ _ (by assumption) | exact hgl _ _ (by assumption) | exact isR.ext (by assumption) (by assumption)) ?_
    | with_reducible refine sX0_holdsAsSmall (by first | assumption | exact hgc _ _ (by assumption) | exact hgl _ _ (by assumption) | exact isR.ext (by assumption) (by assumption)) ?_
    | with_reducible refine sX0_fitsSmall (by first | assumption | exact hgc _ _ (by assumption) | exact hgl _ _ (by assumption) | exact isR.ext (by assumption) (by assumption)) ?_
    | with_reducible refine go_R (by assumption) ?_
    | with_reducible exact hQ _
    | with_reducible exact hQt
    | with_reducible exact hQf
    | simp only [eX1_isEachEndHeld_0, eX1_isEachEndHeld_1, eX1_isEachEndHeld_3, eX1_isEachEndHeld_4, eX1_isEachEndHeld_7, eX1_isEachEndHeld_7N, eX1_isEachEndHeld_8, eX1_isEachEndHeld_9, eX1_isEachEndHeld_12, eX1_isEachEndHeld_13, eX1_isEachEndHeld_13N, eX1_isEachEndHeld_14, eX1_isEachEndHeld_15, eX1_isEachEndHeld_18, eX1_isEachEndHeld_21, eX1_isEachEndHeld_21N, eX1_isEachEndHeld_22, eX1_isEachEndHeld_23, eX1_isEachEndHeld_26, eX1_isEachEndHeld_26N, eX1_isEachEndHeld_27, eX1_isEachEndHeld_30, eX1_isEachEndHeld_33, eX1_isEachEndHeld_34, eX1_isEachEndHeld_35, eX1_isEachEndHeld_38, eX1_isEachEndHeld_41, eX1_isEachEndHeld_42, ite_le, n45, n54, true_or, or_true, false_or, or_false, false_and, and_false, kx_l, kx_r, go_s, gl_s, gi_s, gb_s2, gb_s3, gq_s, wt_nil, wt_int, wt_long, wt_ref, wt_null, nl_int, nl_long, nl_ref, nl_null, nl_none, rf_n, rf_s, rf_st, tl_s, tl_n, g0, gS, ex1, nb_b, nb_0, nb_1, nf_i, nf_l, nf_ra, nf_ro, nf_na, nf_no, nf_b0, nf_z0, t45_4, t45_5, true_and, and_true, List.set_cons_zero, List.set_cons_succ, List.length_cons, List.length_nil, rd_s, upw_s, ne_eq, not_false_eq_true, Nat.zero_add, Nat.add_zero]
    | split
    | with_reducible intro _
    | omega
set_option maxHeartbeats 4000000 in
theorem lX1_hasSameValid_8R {a0 : Nat} {a1 : Nat} (hC : CC g w0 x nA cA lA kn w) (h0 : isR w a0) (h1 : isR w a1) (hQ : ∀ v : Bool, Q (.inl (some (.int (bI v)))) w) : ∀ (n rf md : Int32) (f : Nat → Int64) (gc gl : Nat → Option Nat), RO5 g w x nA cA lA n rf kn md f gc gl → ∀ (d : Nat) (i3 : Int32) (k m : Nat), ¬ i3 < 0 → (8 : Int32).toInt - i3.toInt ≤ (d : Int) → k ≤ 0 → m ≤ 0 → WP (MX1_hasSameValid g) Q (8, [some (.ref x), some (.ref a0), some (.ref a1), some (.int i3)], [], w, k, m) := by
  rintro n rf md f gc gl ⟨hx, hn, hc, hl, hgc, hgl, hn0, hn1, rx, rn, rc, rl, ⟨d1, d2, d3, d4, d5, d6⟩, ⟨d7, d8, d9, d10, d11, d12⟩⟩ d
  have hQt : Q (.inl (some (.int 1))) w := hQ true
  have hQf : Q (.inl (some (.int 0))) w := hQ false
  induction d with
  | zero =>
    intro i3 k m z0 hm hk hs
    rw [eX1_hasSameValid_8]
    repeat' first
      | with_reducible assumption
      | with_reducible refine And.intro ?_ ?_
      | with_reducible exact vpi6 (by assumption) (by assumption)
      | with_reducible exact vpi8 (by assumption) (by assumption)
      | with_reducible exact (ic_z (by assumption) (by assumption)).elim
      | with_reducible exact vpi12 (by assumption) (by assumption) (by assumption)
      | with_reducible refine sX0_holds (by first | assumption | exact hgc _ _ (by assumption) | exact hgl _ _ (by assumption) | exact isR.ext (by assumption) (by assumption)) ?_
      | with_reducible refine go_R (by first | assumption | exact hgc _ _ (by assumption) | exact hgl _ _ (by assumption) | exact isR.ext (by assumption) (by assumption)) ?_
      | with_reducible exact hQ _
      | with_reducible exact hQt
      | with_reducible exact hQf
      | simp only [eX1_hasSameValid_0, eX1_hasSameValid_0N, eX1_hasSameValid_1R, eX1_hasSameValid_1N, eX1_hasSameValid_4, eX1_hasSameValid_5, eX1_hasSameValid_6, eX1_hasSameValid_7, eX1_hasSameValid_9, eX1_hasSameValid_11, eX1_hasSameValid_14, eX1_hasSameValid_14N, eX1_hasSameValid_15, eX1_hasSameValid_15N, eX1_hasSameValid_16, eX1_hasSameValid_19, eX1_hasSameValid_20, eX1_hasSameValid_21, eX1_hasSameValid_24, eX1_hasSameValid_24N, eX1_hasSameValid_25, eX1_hasSameValid_25N, eX1_hasSameValid_26, eX1_hasSameValid_29, eX1_hasSameValid_30, eX1_hasSameValid_31, eX1_hasSameValid_34, eX1_hasSameValid_37, eX1_hasSameValid_38, eX1_hasSameValid_39, eX1_hasSameValid_42, eX1_hasSameValid_45, eX1_hasSameValid_46, rx, rn, rc, rl, hx, hn, hc, hl, d1, d2, d3, d4, d5, d6, d7, d8, d9, d10, d11, d12, rd_n, upw_n, ite_le, n45, n54, true_or, or_true, false_or, or_false, false_and, and_false, kx_l, kx_r, go_s, gl_s, gi_s, gb_s2, gb_s3, gq_s, wt_nil, wt_int, wt_long, wt_ref, wt_null, nl_int, nl_long, nl_ref, nl_null, nl_none, rf_n, rf_s, rf_st, tl_s, tl_n, g0, gS, ex1, nb_b, nb_0, nb_1, nf_i, nf_l, nf_ra, nf_ro, nf_na, nf_no, nf_b0, nf_z0, t45_4, t45_5, true_and, and_true, List.set_cons_zero, List.set_cons_succ, List.length_cons, List.length_nil, rd_s, upw_s, ne_eq, not_false_eq_true, Nat.zero_add, Nat.add_zero]
      | split
      | with_reducible intro _
      | omega
  | succ d ih =>
    intro i3 k m z0 hm hk hs
    rw [eX1_hasSameValid_8]
    repeat' first
      | with_reducible assumption
      | with_reducible refine And.intro ?_ ?_
      | with_reducible exact vpi6 (by assumption) (by assumption)
      | with_reducible exact vpi8 (by assumption) (by assumption)
      | with_reducible exact ih _ _ _ (ic_p (by assumption) (by assumption)) (ic_s (by assumption) (by assumption)) (by first | assumption | omega) (by first | assumption | omega)
      | with_reducible exact vpi12 (by assumption) (by assumption) (by assumption)
      | with_reducible refine sX0_holds (by first | assumption | exact hgc _ _ (by assumption) | exact hgl _ _ (by assumption) | exact isR.ext (by assumption) (by assumption)) ?_
      | with_reducible refine go_R (by first | assumption | exact hgc _ _ (by assumption) | exact hgl _ _ (by assumption) | exact isR.ext (by assumption) (by assumption)) ?_
      | with_reducible exact hQ _
      | with_reducible exact hQt
      | with_reducible exact hQf
      | simp only [eX1_hasSameValid_0, eX1_hasSameValid_0N, eX1_hasSameValid_1R, eX1_hasSameValid_1N, eX1_hasSameValid_4, eX1_hasSameValid_5, eX1_hasSameValid_6, eX1_hasSameValid_7, eX1_hasSameValid_9, eX1_hasSameValid_11, eX1_hasSameValid_14, eX1_hasSameValid_14N, eX1_hasSameValid_15, eX1_hasSameValid_15N, eX1_hasSameValid_16, eX1_hasSameValid_19, eX1_hasSameValid_20, eX1_hasSameValid_21, eX1_hasSameValid_24, eX1_hasSameValid_24N, eX1_hasSameValid_25, eX1_hasSameValid_25N, eX1_hasSameValid_26, eX1_hasSameValid_29, eX1_hasSameValid_30, eX1_hasSameValid_31, eX1_hasSameValid_34, eX1_hasSameValid_37, eX1_hasSameValid_38, eX1_hasSameValid_39, eX1_hasSameValid_42, eX1_hasSameValid_45, eX1_hasSameValid_46, rx, rn, rc, rl, hx, hn, hc, hl, d1, d2, d3, d4, d5, d6, d7, d8, d9, d10, d11, d12, rd_n, upw_n, ite_le, n45, n54, true_or, or_true, false_or, or_false, false_and, and_false, kx_l, kx_r, go_s, gl_s, gi_s, gb_s2, gb_s3, gq_s, wt_nil, wt_int, wt_long, wt_ref, wt_null, nl_int, nl_long, nl_ref, nl_null, nl_none, rf_n, rf_s, rf_st, tl_s, tl_n, g0, gS, ex1, nb_b, nb_0, nb_1, nf_i, nf_l, nf_ra, nf_ro, nf_na, nf_no, nf_b0, nf_z0, t45_4, t45_5, true_and, and_true, List.set_cons_zero, List.set_cons_succ, List.length_cons, List.length_nil, rd_s, upw_s, ne_eq, not_false_eq_true, Nat.zero_add, Nat.add_zero]
      | split
      | with_reducible intro _
      | omega
set_option maxHeartbeats 4000000 in
theorem sX1_hasSameValidR {a0 : Nat} {a1 : Nat} (hC : CC g w0 x nA cA lA kn w) (h0 : isR w a0) (h1 : isR w a1) (hQ : ∀ v : Bool, Q (.inl (some (.int (bI v)))) w) : WP (MX1_hasSameValid g) Q (0, [some (.ref x), some (.ref a0), some (.ref a1), none], [], w, 0, 0) := by
  obtain ⟨n, rf, md, f, gc, gl, hx, hn, hc, hl, hgc, hgl, hn0, hn1, rx, rn, rc, rl, ⟨d1, d2, d3, d4, d5, d6⟩, ⟨d7, d8, d9, d10, d11, d12⟩⟩ := hC.1.opn g
  have hQt : Q (.inl (some (.int 1))) w := hQ true
  have hQf : Q (.inl (some (.int 0))) w := hQ false
  repeat' first
    | with_reducible assumption
    | with_reducible refine And.intro ?_ ?_
    | with_reducible exact vpi6 (by assumption) (by assumption)
    | with_reducible exact vpi8 (by assumption) (by assumption)
    | with_reducible exact lX1_hasSameValid_8R hC h0 h1 hQ _ _ _ _ _ _ ⟨hx, hn, hc, hl, hgc, hgl, hn0, hn1, rx, rn, rc, rl, ⟨d1, d2, d3, d4, d5, d6⟩, ⟨d7, d8, d9, d10, d11, d12⟩⟩ 70 _ _ _ (by first | decide | assumption) (by first | decide | exact n12 (by assumption) | exact n60 (by assumption)) (by first | decide | omega) (by first | decide | omega)
    | with_reducible refine sX0_holds (by first | assumption | exact hgc _ _ (by assumption) | exact hgl _ _ (by assumption) | exact isR.ext (by assumption) (by assumption)) ?_
    | with_reducible refine go_R (by first | assumption | exact hgc _ _ (by assumption) | exact hgl _ _ (by assumption) | exact isR.ext (by assumption) (by assumption)) ?_
    | with_reducible exact hQ _
    | with_reducible exact hQt
    | with_reducible exact hQf
    | simp only [eX1_hasSameValid_0, eX1_hasSameValid_0N, eX1_hasSameValid_1R, eX1_hasSameValid_1N, eX1_hasSameValid_4, eX1_hasSameValid_5, eX1_hasSameValid_6, eX1_hasSameValid_7, eX1_hasSameValid_9, eX1_hasSameValid_11, eX1_hasSameValid_14, eX1_hasSameValid_14N, eX1_hasSameValid_15, eX1_hasSameValid_15N, eX1_hasSameValid_16, eX1_hasSameValid_19, eX1_hasSameValid_20, eX1_hasSameValid_21, eX1_hasSameValid_24, eX1_hasSameValid_24N, eX1_hasSameValid_25, eX1_hasSameValid_25N, eX1_hasSameValid_26, eX1_hasSameValid_29, eX1_hasSameValid_30, eX1_hasSameValid_31, eX1_hasSameValid_34, eX1_hasSameValid_37, eX1_hasSameValid_38, eX1_hasSameValid_39, eX1_hasSameValid_42, eX1_hasSameValid_45, eX1_hasSameValid_46, rx, rn, rc, rl, hx, hn, hc, hl, d1, d2, d3, d4, d5, d6, d7, d8, d9, d10, d11, d12, rd_n, upw_n, ite_le, n45, n54, true_or, or_true, false_or, or_false, false_and, and_false, kx_l, kx_r, go_s, gl_s, gi_s, gb_s2, gb_s3, gq_s, wt_nil, wt_int, wt_long, wt_ref, wt_null, nl_int, nl_long, nl_ref, nl_null, nl_none, rf_n, rf_s, rf_st, tl_s, tl_n, g0, gS, ex1, nb_b, nb_0, nb_1, nf_i, nf_l, nf_ra, nf_ro, nf_na, nf_no, nf_b0, nf_z0, t45_4, t45_5, true_and, and_true, List.set_cons_zero, List.set_cons_succ, List.length_cons, List.length_nil, rd_s, upw_s, ne_eq, not_false_eq_true, Nat.zero_add, Nat.add_zero]
    | split
    | with_reducible intro _
    | omega
set_option maxHeartbeats 4000000 in
theorem sX1_hasSameValidN {a1 : Nat} (hC : CC g w0 x nA cA lA kn w) (h1 : isR w a1) (hQ : ∀ v : Bool, Q (.inl (some (.int (bI v)))) w) : WP (MX1_hasSameValid g) Q (0, [some (.ref x), some .null, some (.ref a1), none], [], w, 0, 0) := by
  obtain ⟨n, rf, md, f, gc, gl, hx, hn, hc, hl, hgc, hgl, hn0, hn1, rx, rn, rc, rl, ⟨d1, d2, d3, d4, d5, d6⟩, ⟨d7, d8, d9, d10, d11, d12⟩⟩ := hC.1.opn g
  have hQt : Q (.inl (some (.int 1))) w := hQ true
  have hQf : Q (.inl (some (.int 0))) w := hQ false
  repeat' first
    | with_reducible assumption
    | with_reducible refine And.intro ?_ ?_
    | with_reducible exact vpi6 (by assumption) (by assumption)
    | with_reducible exact vpi8 (by assumption) (by assumption)
    | with_reducible refine sX0_holds (by first | assumption | exact hgc _ _ (by assumption) | exact hgl _ _ (by assumption) | exact isR.ext (by assumption) (by assumption)) ?_
    | with_reducible refine go_R (by first | assumption | exact hgc _ _ (by assumption) | exact hgl _ _ (by assumption) | exact isR.ext (by assumption) (by assumption)) ?_
    | with_reducible exact hQ _
    | with_reducible exact hQt
    | with_reducible exact hQf
    | simp only [eX1_hasSameValid_0, eX1_hasSameValid_0N, eX1_hasSameValid_1R, eX1_hasSameValid_1N, eX1_hasSameValid_4, eX1_hasSameValid_5, eX1_hasSameValid_6, eX1_hasSameValid_7, eX1_hasSameValid_9, eX1_hasSameValid_11, eX1_hasSameValid_14, eX1_hasSameValid_14N, eX1_hasSameValid_15, eX1_hasSameValid_15N, eX1_hasSameValid_16, eX1_hasSameValid_19, eX1_hasSameValid_20, eX1_hasSameValid_21, eX1_hasSameValid_24, eX1_hasSameValid_24N, eX1_hasSameValid_25, eX1_hasSameValid_25N, eX1_hasSameValid_26, eX1_hasSameValid_29, eX1_hasSameValid_30, eX1_hasSameValid_31, eX1_hasSameValid_34, eX1_hasSameValid_37, eX1_hasSameValid_38, eX1_hasSameValid_39, eX1_hasSameValid_42, eX1_hasSameValid_45, eX1_hasSameValid_46, rx, rn, rc, rl, hx, hn, hc, hl, d1, d2, d3, d4, d5, d6, d7, d8, d9, d10, d11, d12, rd_n, upw_n, ite_le, n45, n54, true_or, or_true, false_or, or_false, false_and, and_false, kx_l, kx_r, go_s, gl_s, gi_s, gb_s2, gb_s3, gq_s, wt_nil, wt_int, wt_long, wt_ref, wt_null, nl_int, nl_long, nl_ref, nl_null, nl_none, rf_n, rf_s, rf_st, tl_s, tl_n, g0, gS, ex1, nb_b, nb_0, nb_1, nf_i, nf_l, nf_ra, nf_ro, nf_na, nf_no, nf_b0, nf_z0, t45_4, t45_5, true_and, and_true, List.set_cons_zero, List.set_cons_succ, List.length_cons, List.length_nil, rd_s, upw_s, ne_eq, not_false_eq_true, Nat.zero_add, Nat.add_zero]
    | split
    | with_reducible intro _
    | omega
set_option maxHeartbeats 4000000 in
theorem lX1_isSameToAndFro_2 {a0 : Nat} (hC : CC g w0 x nA cA lA kn w) (h0 : isR w a0) (hQ : ∀ v : Bool, Q (.inl (some (.int (bI v)))) w) : ∀ (n rf md : Int32) (f : Nat → Int64) (gc gl : Nat → Option Nat), RO5 g w x nA cA lA n rf kn md f gc gl → ∀ (d : Nat) (i2 : Int32) (i3 : Option Value) (k m : Nat), ¬ i2 < 0 → (6 : Int32).toInt - i2.toInt ≤ (d : Int) → k ≤ 0 → m ≤ 0 → WP (MX1_isSameToAndFro g) Q (2, [some (.ref x), some (.ref a0), some (.int i2), i3], [], w, k, m) := by
  rintro n rf md f gc gl ⟨hx, hn, hc, hl, hgc, hgl, hn0, hn1, rx, rn, rc, rl, ⟨d1, d2, d3, d4, d5, d6⟩, ⟨d7, d8, d9, d10, d11, d12⟩⟩ d
  have hQt : Q (.inl (some (.int 1))) w := hQ true
  have hQf : Q (.inl (some (.int 0))) w := hQ false
  induction d with
  | zero =>
    intro i2 i3 k m z0 hm hk hs
    rw [eX1_isSameToAndFro_2]
    repeat' first
      | with_reducible assumption
      | with_reducible refine And.intro ?_ ?_
      | with_reducible exact vpi6 (by assumption) (by assumption)
      | with_reducible exact vpi8 (by assumption) (by assumption)
      | with_reducible exact (ic_z (by assumption) (by assumption)).elim
      | with_reducible exact vpi12 (by assumption) (by assumption) (by assumption)
      | with_reducible refine sX0_matchesR (by first | assumption | exact hgc _ _ (by assumption) | exact hgl _ _ (by assumption) | exact isR.ext (by assumption) (by assumption)) (by first | assumption | exact hgc _ _ (by assumption) | exact hgl _ _ (by assumption) | exact isR.ext (by assumption) (by assumption)) ?_
      | with_reducible refine sX0_matchesN (by first | assumption | exact hgc _ _ (by assumption) | exact hgl _ _ (by assumption) | exact isR.ext (by assumption) (by assumption)) ?_
      | with_reducible refine go_R (by first | assumption | exact hgc _ _ (by assumption) | exact hgl _ _ (by assumption) | exact isR.ext (by assumption) (by assumption)) ?_
      | with_reducible exact hQ _
      | with_reducible exact hQt
      | with_reducible exact hQf
      | simp only [eX1_isSameToAndFro_0, eX1_isSameToAndFro_1, eX1_isSameToAndFro_3, eX1_isSameToAndFro_5, eX1_isSameToAndFro_8, eX1_isSameToAndFro_8N, eX1_isSameToAndFro_9, eX1_isSameToAndFro_12, eX1_isSameToAndFro_13, eX1_isSameToAndFro_14, eX1_isSameToAndFro_14N, eX1_isSameToAndFro_15, eX1_isSameToAndFro_15N, eX1_isSameToAndFro_16R, eX1_isSameToAndFro_16N, eX1_isSameToAndFro_19, eX1_isSameToAndFro_19N, eX1_isSameToAndFro_20, eX1_isSameToAndFro_20N, eX1_isSameToAndFro_21R, eX1_isSameToAndFro_21N, eX1_isSameToAndFro_24, eX1_isSameToAndFro_24N, eX1_isSameToAndFro_25, eX1_isSameToAndFro_25N, eX1_isSameToAndFro_26R, eX1_isSameToAndFro_26N, eX1_isSameToAndFro_29, eX1_isSameToAndFro_32, eX1_isSameToAndFro_33, eX1_isSameToAndFro_34, eX1_isSameToAndFro_37, eX1_isSameToAndFro_40, eX1_isSameToAndFro_41, rx, rn, rc, rl, hx, hn, hc, hl, d1, d2, d3, d4, d5, d6, d7, d8, d9, d10, d11, d12, rd_n, upw_n, ite_le, n45, n54, true_or, or_true, false_or, or_false, false_and, and_false, kx_l, kx_r, go_s, gl_s, gi_s, gb_s2, gb_s3, gq_s, wt_nil, wt_int, wt_long, wt_ref, wt_null, nl_int, nl_long, nl_ref, nl_null, nl_none, rf_n, rf_s, rf_st, tl_s, tl_n, g0, gS, ex1, nb_b, nb_0, nb_1, nf_i, nf_l, nf_ra, nf_ro, nf_na, nf_no, nf_b0, nf_z0, t45_4, t45_5, true_and, and_true, List.set_cons_zero, List.set_cons_succ, List.length_cons, List.length_nil, rd_s, upw_s, ne_eq, not_false_eq_true, Nat.zero_add, Nat.add_zero]
      | split
      | with_reducible intro _
      | omega
  | succ d ih =>
    intro i2 i3 k m z0 hm hk hs
    rw [eX1_isSameToAndFro_2]
    repeat' first
      | with_reducible assumption
      | with_reducible refine And.intro ?_ ?_
      | with_reducible exact vpi6 (by assumption) (by assumption)
      | with_reducible exact vpi8 (by assumption) (by assumption)
      | with_reducible exact ih _ _ _ _ (ic_p (by assumption) (by assumption)) (ic_s (by assumption) (by assumption)) (by first | assumption | omega) (by first | assumption | omega)
      | with_reducible exact vpi12 (by assumption) (by assumption) (by assumption)
      | with_reducible refine sX0_matchesR (by first | assumption | exact hgc _ _ (by assumption) | exact hgl _ _ (by assumption) | exact isR.ext (by assumption) (by assumption)) (by first | assumption | exact hgc _ _ (by assumption) | exact hgl _ _ (by assumption) | exact isR.ext (by assumption) (by assumption)) ?_
      | with_reducible refine sX0_matchesN (by first | assumption | exact hgc _ _ (by assumption) | exact hgl _ _ (by assumption) | exact isR.ext (by assumption) (by assumption)) ?_
      | with_reducible refine go_R (by first | assumption | exact hgc _ _ (by assumption) | exact hgl _ _ (by assumption) | exact isR.ext (by assumption) (by assumption)) ?_
      | with_reducible exact hQ _
      | with_reducible exact hQt
      | with_reducible exact hQf
      | simp only [eX1_isSameToAndFro_0, eX1_isSameToAndFro_1, eX1_isSameToAndFro_3, eX1_isSameToAndFro_5, eX1_isSameToAndFro_8, eX1_isSameToAndFro_8N, eX1_isSameToAndFro_9, eX1_isSameToAndFro_12, eX1_isSameToAndFro_13, eX1_isSameToAndFro_14, eX1_isSameToAndFro_14N, eX1_isSameToAndFro_15, eX1_isSameToAndFro_15N, eX1_isSameToAndFro_16R, eX1_isSameToAndFro_16N, eX1_isSameToAndFro_19, eX1_isSameToAndFro_19N, eX1_isSameToAndFro_20, eX1_isSameToAndFro_20N, eX1_isSameToAndFro_21R, eX1_isSameToAndFro_21N, eX1_isSameToAndFro_24, eX1_isSameToAndFro_24N, eX1_isSameToAndFro_25, eX1_isSameToAndFro_25N, eX1_isSameToAndFro_26R, eX1_isSameToAndFro_26N, eX1_isSameToAndFro_29, eX1_isSameToAndFro_32, eX1_isSameToAndFro_33, eX1_isSameToAndFro_34, eX1_isSameToAndFro_37, eX1_isSameToAndFro_40, eX1_isSameToAndFro_41, rx, rn, rc, rl, hx, hn, hc, hl, d1, d2, d3, d4, d5, d6, d7, d8, d9, d10, d11, d12, rd_n, upw_n, ite_le, n45, n54, true_or, or_true, false_or, or_false, false_and, and_false, kx_l, kx_r, go_s, gl_s, gi_s, gb_s2, gb_s3, gq_s, wt_nil, wt_int, wt_long, wt_ref, wt_null, nl_int, nl_long, nl_ref, nl_null, nl_none, rf_n, rf_s, rf_st, tl_s, tl_n, g0, gS, ex1, nb_b, nb_0, nb_1, nf_i, nf_l, nf_ra, nf_ro, nf_na, nf_no, nf_b0, nf_z0, t45_4, t45_5, true_and, and_true, List.set_cons_zero, List.set_cons_succ, List.length_cons, List.length_nil, rd_s, upw_s, ne_eq, not_false_eq_true, Nat.zero_add, Nat.add_zero]
      | split
      | with_reducible intro _
      | omega
set_option maxHeartbeats 4000000 in
theorem sX1_isSameToAndFro {a0 : Nat} (hC : CC g w0 x nA cA lA kn w) (h0 : isR w a0) (hQ : ∀ v : Bool, Q (.inl (some (.int (bI v)))) w) : WP (MX1_isSameToAndFro g) Q (0, [some (.ref x), some (.ref a0), none, none], [], w, 0, 0) := by
  obtain ⟨n, rf, md, f, gc, gl, hx, hn, hc, hl, hgc, hgl, hn0, hn1, rx, rn, rc, rl, ⟨d1, d2, d3, d4, d5, d6⟩, ⟨d7, d8, d9, d10, d11, d12⟩⟩ := hC.1.opn g
  have hQt : Q (.inl (some (.int 1))) w := hQ true
  have hQf : Q (.inl (some (.int 0))) w := hQ false
  repeat' first
    | with_reducible assumption
    | with_reducible refine And.intro ?_ ?_
    | with_reducible exact vpi6 (by assumption) (by assumption)
    | with_reducible exact vpi8 (by assumption) (by assumption)
    | with_reducible exact lX1_isSameToAndFro_2 hC h0 hQ _ _ _ _ _ _ ⟨hx, hn, hc, hl, hgc, hgl, hn0, hn1, rx, rn, rc, rl, ⟨d1, d2, d3, d4, d5, d6⟩, ⟨d7, d8, d9, d10, d11, d12⟩⟩ 70 _ _ _ _ (by first | decide | assumption) (by first | decide | exact n12 (by assumption) | exact n60 (by assumption)) (by first | decide | omega) (by first | decide | omega)
    | with_reducible refine sX0_matchesR (by first | assumption | exact hgc _ _ (by assumption) | exact hgl _ _ (by assumption) | exact isR.ext (by assumption) (by assumption)) (by first | assumption | exact hgc _ _ (by assumption) | exact hgl _ _ (by assumption) | exact isR.ext (by assumption) (by assumption)) ?_
    | with_reducible refine sX0_matchesN (by first | assumption | exact hgc _ _ (by assumption) | exact hgl _ _ (by assumption) | exact isR.ext (by assumption) (by assumption)) ?_
    | with_reducible refine go_R (by first | assumption | exact hgc _ _ (by assumption) | exact hgl _ _ (by assumption) | exact isR.ext (by assumption) (by assumption)) ?_
    | with_reducible exact hQ _
    | with_reducible exact hQt
    | with_reducible exact hQf
    | simp only [eX1_isSameToAndFro_0, eX1_isSameToAndFro_1, eX1_isSameToAndFro_3, eX1_isSameToAndFro_5, eX1_isSameToAndFro_8, eX1_isSameToAndFro_8N, eX1_isSameToAndFro_9, eX1_isSameToAndFro_12, eX1_isSameToAndFro_13, eX1_isSameToAndFro_14, eX1_isSameToAndFro_14N, eX1_isSameToAndFro_15, eX1_isSameToAndFro_15N, eX1_isSameToAndFro_16R, eX1_isSameToAndFro_16N, eX1_isSameToAndFro_19, eX1_isSameToAndFro_19N, eX1_isSameToAndFro_20, eX1_isSameToAndFro_20N, eX1_isSameToAndFro_21R, eX1_isSameToAndFro_21N, eX1_isSameToAndFro_24, eX1_isSameToAndFro_24N, eX1_isSameToAndFro_25, eX1_isSameToAndFro_25N, eX1_isSameToAndFro_26R, eX1_isSameToAndFro_26N, eX1_isSameToAndFro_29, eX1_isSameToAndFro_32, eX1_isSameToAndFro_33, eX1_isSameToAndFro_34, eX1_isSameToAndFro_37, eX1_isSameToAndFro_40, eX1_isSameToAndFro_41, rx, rn, rc, rl, hx, hn, hc, hl, d1, d2, d3, d4, d5, d6, d7, d8, d9, d10, d11, d12, rd_n, upw_n, ite_le, n45, n54, true_or, or_true, false_or, or_false, false_and, and_false, kx_l, kx_r, go_s, gl_s, gi_s, gb_s2, gb_s3, gq_s, wt_nil, wt_int, wt_long, wt_ref, wt_null, nl_int, nl_long, nl_ref, nl_null, nl_none, rf_n, rf_s, rf_st, tl_s, tl_n, g0, gS, ex1, nb_b, nb_0, nb_1, nf_i, nf_l, nf_ra, nf_ro, nf_na, nf_no, nf_b0, nf_z0, t45_4, t45_5, true_and, and_true, List.set_cons_zero, List.set_cons_succ, List.length_cons, List.length_nil, rd_s, upw_s, ne_eq, not_false_eq_true, Nat.zero_add, Nat.add_zero]
    | split
    | with_reducible intro _
    | omega
set_option maxHeartbeats 4000000 in
theorem lX1_isEachFoundInPile_2  (hC : CC g w0 x nA cA lA kn w) (hQ : ∀ v : Bool, Q (.inl (some (.int (bI v)))) w) : ∀ (n rf md : Int32) (f : Nat → Int64) (gc gl : Nat → Option Nat), RO5 g w x nA cA lA n rf kn md f gc gl → ∀ (d : Nat) (i1 : Int32) (i2 : Option Value) (k m : Nat), ¬ i1 < 0 → (n : Int32).toInt - i1.toInt ≤ (d : Int) → k ≤ 0 → m ≤ 0 → WP (MX1_isEachFoundInPile g) Q (2, [some (.ref x), some (.int i1), i2], [], w, k, m) := by
  rintro n rf md f gc gl ⟨hx, hn, hc, hl, hgc, hgl, hn0, hn1, rx, rn, rc, rl, ⟨d1, d2, d3, d4, d5, d6⟩, ⟨d7, d8, d9, d10, d11, d12⟩⟩ d
  have hQt : Q (.inl (some (.int 1))) w := hQ true
  have hQf : Q (.inl (some (.int 0))) w := hQ false
  induction d with
  | zero =>
    intro i1 i2 k m z0 hm hk hs
    rw [eX1_isEachFoundInPile_2]
    repeat' first
      | with_reducible assumption
      | with_reducible refine And.intro ?_ ?_
      | with_reducible exact vpi6 (by assumption) (by assumption)
      | with_reducible exact vpi8 (by assumption) (by assumption)
      | with_reducible exact (ic_z (by assumption) (by assumption)).elim
      | with_reducible exact vpi12 (by assumption) (by assumption) (by assumption)
      | with_reducible refine sX1_firstPlaceOf (by first | assumption | exact CC.ext (by assumption) (by assumption)) (by first | assumption | exact hgc _ _ (by assumption) | exact hgl _ _ (by assumption) | exact isR.ext (by assumption) (by assumption)) ?_
      | with_reducible refine go_R (by first | assumption | exact hgc _ _ (by assumption) | exact hgl _ _ (by assumption) | exact isR.ext (by assumption) (by assumption)) ?_
      | with_reducible exact hQ _
      | with_reducible exact hQt
      | with_reducible exact hQf
      | simp only [eX1_isEachFoundInPile_0, eX1_isEachFoundInPile_1, eX1_isEachFoundInPile_3, eX1_isEachFoundInPile_3N, eX1_isEachFoundInPile_4, eX1_isEachFoundInPile_7, eX1_isEachFoundInPile_10, eX1_isEachFoundInPile_10N, eX1_isEachFoundInPile_11, eX1_isEachFoundInPile_14, eX1_isEachFoundInPile_15, eX1_isEachFoundInPile_16, eX1_isEachFoundInPile_16N, eX1_isEachFoundInPile_17, eX1_isEachFoundInPile_17N, eX1_isEachFoundInPile_18R, eX1_isEachFoundInPile_18N, eX1_isEachFoundInPile_21, eX1_isEachFoundInPile_21N, eX1_isEachFoundInPile_22, eX1_isEachFoundInPile_22N, eX1_isEachFoundInPile_23R, eX1_isEachFoundInPile_23N, eX1_isEachFoundInPile_26, eX1_isEachFoundInPile_27, eX1_isEachFoundInPile_30, eX1_isEachFoundInPile_31, eX1_isEachFoundInPile_32, eX1_isEachFoundInPile_35, eX1_isEachFoundInPile_38, eX1_isEachFoundInPile_39, rx, rn, rc, rl, hx, hn, hc, hl, d1, d2, d3, d4, d5, d6, d7, d8, d9, d10, d11, d12, rd_n, upw_n, ite_le, n45, n54, true_or, or_true, false_or, or_false, false_and, and_false, kx_l, kx_r, go_s, gl_s, gi_s, gb_s2, gb_s3, gq_s, wt_nil, wt_int, wt_long, wt_ref, wt_null, nl_int, nl_long, nl_ref, nl_null, nl_none, rf_n, rf_s, rf_st, tl_s, tl_n, g0, gS, ex1, nb_b, nb_0, nb_1, nf_i, nf_l, nf_ra, nf_ro, nf_na, nf_no, nf_b0, nf_z0, t45_4, t45_5, true_and, and_true, List.set_cons_zero, List.set_cons_succ, List.length_cons, List.length_nil, rd_s, upw_s, ne_eq, not_false_eq_true, Nat.zero_add, Nat.add_zero]
      | split
      | with_reducible intro _
      | omega
  | succ d ih =>
    intro i1 i2 k m z0 hm hk hs
    rw [eX1_isEachFoundInPile_2]
    repeat' first
      | with_reducible assumption
      | with_reducible refine And.intro ?_ ?_
      | with_reducible exact vpi6 (by assumption) (by assumption)
      | with_reducible exact vpi8 (by assumption) (by assumption)
      | with_reducible exact ih _ _ _ _ (ic_p (by assumption) (by assumption)) (ic_s (by assumption) (by assumption)) (by first | assumption | omega) (by first | assumption | omega)
      | with_reducible exact vpi12 (by assumption) (by assumption) (by assumption)
      | with_reducible refine sX1_firstPlaceOf (by first | assumption | exact CC.ext (by assumption) (by assumption)) (by first | assumption | exact hgc _ _ (by assumption) | exact hgl _ _ (by assumption) | exact isR.ext (by assumption) (by assumption)) ?_
      | with_reducible refine go_R (by first | assumption | exact hgc _ _ (by assumption) | exact hgl _ _ (by assumption) | exact isR.ext (by assumption) (by assumption)) ?_
      | with_reducible exact hQ _
      | with_reducible exact hQt
      | with_reducible exact hQf
      | simp only [eX1_isEachFoundInPile_0, eX1_isEachFoundInPile_1, eX1_isEachFoundInPile_3, eX1_isEachFoundInPile_3N, eX1_isEachFoundInPile_4, eX1_isEachFoundInPile_7, eX1_isEachFoundInPile_10, eX1_isEachFoundInPile_10N, eX1_isEachFoundInPile_11, eX1_isEachFoundInPile_14, eX1_isEachFoundInPile_15, eX1_isEachFoundInPile_16, eX1_isEachFoundInPile_16N, eX1_isEachFoundInPile_17, eX1_isEachFoundInPile_17N, eX1_isEachFoundInPile_18R, eX1_isEachFoundInPile_18N, eX1_isEachFoundInPile_21, eX1_isEachFoundInPile_21N, eX1_isEachFoundInPile_22, eX1_isEachFoundInPile_22N, eX1_isEachFoundInPile_23R, eX1_isEachFoundInPile_23N, eX1_isEachFoundInPile_26, eX1_isEachFoundInPile_27, eX1_isEachFoundInPile_30, eX1_isEachFoundInPile_31, eX1_isEachFoundInPile_32, eX1_isEachFoundInPile_35, eX1_isEachFoundInPile_38, eX1_isEachFoundInPile_39, rx, rn, rc, rl, hx, hn, hc, hl, d1, d2, d3, d4, d5, d6, d7, d8, d9, d10, d11, d12, rd_n, upw_n, ite_le, n45, n54, true_or, or_true, false_or, or_false, false_and, and_false, kx_l, kx_r, go_s, gl_s, gi_s, gb_s2, gb_s3, gq_s, wt_nil, wt_int, wt_long, wt_ref, wt_null, nl_int, nl_long, nl_ref, nl_null, nl_none, rf_n, rf_s, rf_st, tl_s, tl_n, g0, gS, ex1, nb_b, nb_0, nb_1, nf_i, nf_l, nf_ra, nf_ro, nf_na, nf_no, nf_b0, nf_z0, t45_4, t45_5, true_and, and_true, List.set_cons_zero, List.set_cons_succ, List.length_cons, List.length_nil, rd_s, upw_s, ne_eq, not_false_eq_true, Nat.zero_add, Nat.add_zero]
      | split
      | with_reducible intro _
      | omega
set_option maxHeartbeats 4000000 in
theorem sX1_isEachFoundInPile  (hC : CC g w0 x nA cA lA kn w) (hQ : ∀ v : Bool, Q (.inl (some (.int (bI v)))) w) : WP (MX1_isEachFoundInPile g) Q (0, [some (.ref x), none, none], [], w, 0, 0) := by
  obtain ⟨n, rf, md, f, gc, gl, hx, hn, hc, hl, hgc, hgl, hn0, hn1, rx, rn, rc, rl, ⟨d1, d2, d3, d4, d5, d6⟩, ⟨d7, d8, d9, d10, d11, d12⟩⟩ := hC.1.opn g
  have hQt : Q (.inl (some (.int 1))) w := hQ true
  have hQf : Q (.inl (some (.int 0))) w := hQ false
  repeat' first
    | with_reducible assumption
    | with_reducible refine And.intro ?_ ?_
    | with_reducible exact vpi6 (by assumption) (by assumption)
    | with_reducible exact vpi8 (by assumption) (by assumption)
    | with_reducible exact lX1_isEachFoundInPile_2 hC hQ _ _ _ _ _ _ ⟨hx, hn, hc, hl, hgc, hgl, hn0, hn1, rx, rn, rc, rl, ⟨d1, d2, d3, d4, d5, d6⟩, ⟨d7, d8, d9, d10, d11, d12⟩⟩ 70 _ _ _ _ (by first | decide | assumption) (by first | decide | exact n12 (by assumption) | exact n60 (by assumption)) (by first | decide | omega) (by first | decide | omega)
    | with_reducible refine sX1_firstPlaceOf (by first | assumption | exact CC.ext (by assumption) (by assumption)) (by first | assumption | exact hgc _ _ (by assumption) | exact hgl _ _ (by assumption) | exact isR.ext (by assumption) (by assumption)) ?_
    | with_reducible refine go_R (by first | assumption | exact hgc _ _ (by assumption) | exact hgl _ _ (by assumption) | exact isR.ext (by assumption) (by assumption)) ?_
    | with_reducible exact hQ _
    | with_reducible exact hQt
    | with_reducible exact hQf
    | simp only [eX1_isEachFoundInPile_0, eX1_isEachFoundInPile_1, eX1_isEachFoundInPile_3, eX1_isEachFoundInPile_3N, eX1_isEachFoundInPile_4, eX1_isEachFoundInPile_7, eX1_isEachFoundInPile_10, eX1_isEachFoundInPile_10N, eX1_isEachFoundInPile_11, eX1_isEachFoundInPile_14, eX1_isEachFoundInPile_15, eX1_isEachFoundInPile_16, eX1_isEachFoundInPile_16N, eX1_isEachFoundInPile_17, eX1_isEachFoundInPile_17N, eX1_isEachFoundInPile_18R, eX1_isEachFoundInPile_18N, eX1_isEachFoundInPile_21, eX1_isEachFoundInPile_21N, eX1_isEachFoundInPile_22, eX1_isEachFoundInPile_22N, eX1_isEachFoundInPile_23R, eX1_isEachFoundInPile_23N, eX1_isEachFoundInPile_26, eX1_isEachFoundInPile_27, eX1_isEachFoundInPile_30, eX1_isEachFoundInPile_31, eX1_isEachFoundInPile_32, eX1_isEachFoundInPile_35, eX1_isEachFoundInPile_38, eX1_isEachFoundInPile_39, rx, rn, rc, rl, hx, hn, hc, hl, d1, d2, d3, d4, d5, d6, d7, d8, d9, d10, d11, d12, rd_n, upw_n, ite_le, n45, n54, true_or, or_true, false_or, or_false, false_and, and_false, kx_l, kx_r, go_s, gl_s, gi_s, gb_s2, gb_s3, gq_s, wt_nil, wt_int, wt_long, wt_ref, wt_null, nl_int, nl_long, nl_ref, nl_null, nl_none, rf_n, rf_s, rf_st, tl_s, tl_n, g0, gS, ex1, nb_b, nb_0, nb_1, nf_i, nf_l, nf_ra, nf_ro, nf_na, nf_no, nf_b0, nf_z0, t45_4, t45_5, true_and, and_true, List.set_cons_zero, List.set_cons_succ, List.length_cons, List.length_nil, rd_s, upw_s, ne_eq, not_false_eq_true, Nat.zero_add, Nat.add_zero]
    | split
    | with_reducible intro _
    | omega
set_option maxHeartbeats 4000000 in
theorem sX1_with {a0 : Int64} {a1 : Int64} (hQ : ∀ v : Int64, Q (.inl (some (.long v))) w) : WP (MX1_with g) Q (0, [some (.long a0), none, some (.long a1), none], [], w, 0, 0) := by
  repeat' first
    | with_reducible assumption
    | with_reducible refine And.intro ?_ ?_
    | with_reducible exact vpi6 (by assumption) (by assumption)
    | with_reducible exact vpi8 (by assumption) (by assumption)
    | with_reducible refine go_R (by assumption) ?_
    | with_reducible exact hQ _
    | simp only [eX1_with_0, eX1_with_1, eX1_with_4, eX1_with_5, eX1_with_6, eX1_with_7, ite_le, n45, n54, true_or, or_true, false_or, or_false, false_and, and_false, kx_l, kx_r, go_s, gl_s, gi_s, gb_s2, gb_s3, gq_s, wt_nil, wt_int, wt_long, wt_ref, wt_null, nl_int, nl_long, nl_ref, nl_null, nl_none, rf_n, rf_s, rf_st, tl_s, tl_n, g0, gS, ex1, nb_b, nb_0, nb_1, nf_i, nf_l, nf_ra, nf_ro, nf_na, nf_no, nf_b0, nf_z0, t45_4, t45_5, true_and, and_true, List.set_cons_zero, List.set_cons_succ, List.length_cons, List.length_nil, rd_s, upw_s, ne_eq, not_false_eq_true, Nat.zero_add, Nat.add_zero]
    | split
    | with_reducible intro _
    | omega
end
end
/-! 67.22.class5.lean.txt -/
section
section
variable {g : RO} {Q : Ot → Hw → Prop} {w0 w : Hw} {x nA cA lA : Nat} {kn : Int32}
set_option maxHeartbeats 4000000 in
theorem lX1_withHouse_5 {a0 : Int64} (hC : CC g w0 x nA cA lA kn w) (hQ : ∀ v : Int64, Q (.inl (some (.long v))) w) : ∀ (n rf md : Int32) (f : Nat → Int64) (gc gl : Nat → Option Nat), RO5 g w x nA cA lA n rf kn md f gc gl → ∀ (d : Nat) (i3 : Int64) (i5 : Int32) (k m : Nat), ¬ i5 < 0 → (4 : Int32).toInt + 1 - i5.toInt ≤ (d : Int) → k ≤ 0 → m ≤ 0 → WP (MX1_withHouse g) Q (5, [some (.ref x), some (.long a0), none, some (.long i3), none, some (.int i5)], [], w, k, m) := by
  rintro n rf md f gc gl ⟨hx, hn, hc, hl, hgc, hgl, hn0, hn1, rx, rn, rc, rl, ⟨d1, d2, d3, d4, d5, d6⟩, ⟨d7, d8, d9, d10, d11, d12⟩⟩ d
  induction d with
  | zero =>
    intro i3 i5 k m z0 hm hk hs
    rw [eX1_withHouse_5]
    repeat' first
      | with_reducible assumption
      | with_reducible refine And.intro ?_ ?_
      | with_reducible exact vpi6 (by assumption) (by assumption)
      | with_reducible exact vpi8 (by assumption) (by assumption)
      | with_reducible exact (ic_zl (by assumption) (by assumption)).elim
      | with_reducible exact vpi12 (by assumption) (by assumption) (by assumption)
      | with_reducible refine sX1_houseCount (by first | assumption | exact CC.ext (by assumption) (by assumption)) ?_
      | with_reducible refine sX1_with ?_
      | with_reducible refine go_R (by first | assumption | exact hgc _ _ (by assumption) | exact hgl _ _ (by assumption) | exact isR.ext (by assumption) (by assumption)) ?_
      | with_reducible exact hQ _
      | simp only [eX1_withHouse_0, eX1_withHouse_1, eX1_withHouse_2, eX1_withHouse_3, eX1_withHouse_7, eX1_withHouse_8, eX1_withHouse_11, eX1_withHouse_12, eX1_withHouse_12N, eX1_withHouse_13, eX1_withHouse_15, eX1_withHouse_18, eX1_withHouse_19, eX1_withHouse_22, eX1_withHouse_23, eX1_withHouse_26, eX1_withHouse_29, eX1_withHouse_30, rx, rn, rc, rl, hx, hn, hc, hl, d1, d2, d3, d4, d5, d6, d7, d8, d9, d10, d11, d12, rd_n, upw_n, ite_le, n45, n54, true_or, or_true, false_or, or_false, false_and, and_false, kx_l, kx_r, go_s, gl_s, gi_s, gb_s2, gb_s3, gq_s, wt_nil, wt_int, wt_long, wt_ref, wt_null, nl_int, nl_long, nl_ref, nl_null, nl_none, rf_n, rf_s, rf_st, tl_s, tl_n, g0, gS, ex1, nb_b, nb_0, nb_1, nf_i, nf_l, nf_ra, nf_ro, nf_na, nf_no, nf_b0, nf_z0, t45_4, t45_5, true_and, and_true, List.set_cons_zero, List.set_cons_succ, List.length_cons, List.length_nil, rd_s, upw_s, ne_eq, not_false_eq_true, Nat.zero_add, Nat.add_zero]
      | split
      | with_reducible intro _
      | omega
  | succ d ih =>
    intro i3 i5 k m z0 hm hk hs
    rw [eX1_withHouse_5]
    repeat' first
      | with_reducible assumption
      | with_reducible refine And.intro ?_ ?_
      | with_reducible exact vpi6 (by assumption) (by assumption)
      | with_reducible exact vpi8 (by assumption) (by assumption)
      | with_reducible exact ih _ _ _ _ (ic_pl (by assumption) (by assumption) (by decide)) (ic_sl (by assumption) (by assumption) (by decide)) (by first | assumption | omega) (by first | assumption | omega)
      | with_reducible exact vpi12 (by assumption) (by assumption) (by assumption)
      | with_reducible refine sX1_houseCount (by first | assumption | exact CC.ext (by assumption) (by assumption)) ?_
      | with_reducible refine sX1_with ?_
      | with_reducible refine go_R (by first | assumption | exact hgc _ _ (by assumption) | exact hgl _ _ (by assumption) | exact isR.ext (by assumption) (by assumption)) ?_
      | with_reducible exact hQ _
      | simp only [eX1_withHouse_0, eX1_withHouse_1, eX1_withHouse_2, eX1_withHouse_3, eX1_withHouse_7, eX1_withHouse_8, eX1_withHouse_11, eX1_withHouse_12, eX1_withHouse_12N, eX1_withHouse_13, eX1_withHouse_15, eX1_withHouse_18, eX1_withHouse_19, eX1_withHouse_22, eX1_withHouse_23, eX1_withHouse_26, eX1_withHouse_29, eX1_withHouse_30, rx, rn, rc, rl, hx, hn, hc, hl, d1, d2, d3, d4, d5, d6, d7, d8, d9, d10, d11, d12, rd_n, upw_n, ite_le, n45, n54, true_or, or_true, false_or, or_false, false_and, and_false, kx_l, kx_r, go_s, gl_s, gi_s, gb_s2, gb_s3, gq_s, wt_nil, wt_int, wt_long, wt_ref, wt_null, nl_int, nl_long, nl_ref, nl_null, nl_none, rf_n, rf_s, rf_st, tl_s, tl_n, g0, gS, ex1, nb_b, nb_0, nb_1, nf_i, nf_l, nf_ra, nf_ro, nf_na, nf_no, nf_b0, nf_z0, t45_4, t45_5, true_and, and_true, List.set_cons_zero, List.set_cons_succ, List.length_cons, List.length_nil, rd_s, upw_s, ne_eq, not_false_eq_true, Nat.zero_add, Nat.add_zero]
      | split
      | with_reducible intro _
      | omega
set_option maxHeartbeats 4000000 in
theorem sX1_withHouse {a0 : Int64} (hC : CC g w0 x nA cA lA kn w) (hQ : ∀ v : Int64, Q (.inl (some (.long v))) w) : WP (MX1_withHouse g) Q (0, [some (.ref x), some (.long a0), none, none, none, none], [], w, 0, 0) := by
  obtain ⟨n, rf, md, f, gc, gl, hx, hn, hc, hl, hgc, hgl, hn0, hn1, rx, rn, rc, rl, ⟨d1, d2, d3, d4, d5, d6⟩, ⟨d7, d8, d9, d10, d11, d12⟩⟩ := hC.1.opn g
  repeat' first
    | with_reducible assumption
    | with_reducible refine And.intro ?_ ?_
    | with_reducible exact vpi6 (by assumption) (by assumption)
    | with_reducible exact vpi8 (by assumption) (by assumption)
    | with_reducible exact lX1_withHouse_5 hC hQ _ _ _ _ _ _ ⟨hx, hn, hc, hl, hgc, hgl, hn0, hn1, rx, rn, rc, rl, ⟨d1, d2, d3, d4, d5, d6⟩, ⟨d7, d8, d9, d10, d11, d12⟩⟩ 70 _ _ _ _ (by first | decide | assumption) (by first | decide | exact n12 (by assumption) | exact n60 (by assumption)) (by first | decide | omega) (by first | decide | omega)
    | with_reducible refine sX1_houseCount (by first | assumption | exact CC.ext (by assumption) (by assumption)) ?_
    | with_reducible refine sX1_with ?_
    | with_reducible refine go_R (by first | assumption | exact hgc _ _ (by assumption) | exact hgl _ _ (by assumption) | exact isR.ext (by assumption) (by assumption)) ?_
    | with_reducible exact hQ _
    | simp only [eX1_withHouse_0, eX1_withHouse_1, eX1_withHouse_2, eX1_withHouse_3, eX1_withHouse_7, eX1_withHouse_8, eX1_withHouse_11, eX1_withHouse_12, eX1_withHouse_12N, eX1_withHouse_13, eX1_withHouse_15, eX1_withHouse_18, eX1_withHouse_19, eX1_withHouse_22, eX1_withHouse_23, eX1_withHouse_26, eX1_withHouse_29, eX1_withHouse_30, rx, rn, rc, rl, hx, hn, hc, hl, d1, d2, d3, d4, d5, d6, d7, d8, d9, d10, d11, d12, rd_n, upw_n, ite_le, n45, n54, true_or, or_true, false_or, or_false, false_and, and_false, kx_l, kx_r, go_s, gl_s, gi_s, gb_s2, gb_s3, gq_s, wt_nil, wt_int, wt_long, wt_ref, wt_null, nl_int, nl_long, nl_ref, nl_null, nl_none, rf_n, rf_s, rf_st, tl_s, tl_n, g0, gS, ex1, nb_b, nb_0, nb_1, nf_i, nf_l, nf_ra, nf_ro, nf_na, nf_no, nf_b0, nf_z0, t45_4, t45_5, true_and, and_true, List.set_cons_zero, List.set_cons_succ, List.length_cons, List.length_nil, rd_s, upw_s, ne_eq, not_false_eq_true, Nat.zero_add, Nat.add_zero]
    | split
    | with_reducible intro _
    | omega
set_option maxHeartbeats 4000000 in
theorem sX1_withNumber {a0 : Int64} {a1 : Int64} (hC : CC g w0 x nA cA lA kn w) (hQ : ∀ v : Int64, Q (.inl (some (.long v))) w) : WP (MX1_withNumber g) Q (0, [some (.ref x), some (.long a0), none, some (.long a1), none, none, none], [], w, 0, 0) := by
  obtain ⟨n, rf, md, f, gc, gl, hx, hn, hc, hl, hgc, hgl, hn0, hn1, rx, rn, rc, rl, ⟨d1, d2, d3, d4, d5, d6⟩, ⟨d7, d8, d9, d10, d11, d12⟩⟩ := hC.1.opn g
  repeat' first
    | with_reducible assumption
    | with_reducible refine And.intro ?_ ?_
    | with_reducible exact vpi6 (by assumption) (by assumption)
    | with_reducible exact vpi8 (by assumption) (by assumption)
    | with_reducible refine sX1_highOf ?_
    | with_reducible refine sX1_with ?_
    | with_reducible refine sX1_lowOf ?_
    | with_reducible refine sX1_holdersOf (by first | assumption | exact CC.ext (by assumption) (by assumption)) ?_
    | with_reducible refine go_R (by first | assumption | exact hgc _ _ (by assumption) | exact hgl _ _ (by assumption) | exact isR.ext (by assumption) (by assumption)) ?_
    | with_reducible exact hQ _
    | simp only [eX1_withNumber_0, eX1_withNumber_1, eX1_withNumber_2, eX1_withNumber_5, eX1_withNumber_6, eX1_withNumber_9, eX1_withNumber_11, eX1_withNumber_13, eX1_withNumber_14, eX1_withNumber_17, eX1_withNumber_18, eX1_withNumber_21, eX1_withNumber_23, eX1_withNumber_25, eX1_withNumber_25N, eX1_withNumber_26, eX1_withNumber_27, eX1_withNumber_28, eX1_withNumber_31, eX1_withNumber_32, eX1_withNumber_35, eX1_withNumber_37, eX1_withNumber_39, eX1_withNumber_39N, eX1_withNumber_40, eX1_withNumber_41, eX1_withNumber_42, eX1_withNumber_45, eX1_withNumber_46, eX1_withNumber_49, rx, rn, rc, rl, hx, hn, hc, hl, d1, d2, d3, d4, d5, d6, d7, d8, d9, d10, d11, d12, rd_n, upw_n, ite_le, n45, n54, true_or, or_true, false_or, or_false, false_and, and_false, kx_l, kx_r, go_s, gl_s, gi_s, gb_s2, gb_s3, gq_s, wt_nil, wt_int, wt_long, wt_ref, wt_null, nl_int, nl_long, nl_ref, nl_null, nl_none, rf_n, rf_s, rf_st, tl_s, tl_n, g0, gS, ex1, nb_b, nb_0, nb_1, nf_i, nf_l, nf_ra, nf_ro, nf_na, nf_no, nf_b0, nf_z0, t45_4, t45_5, true_and, and_true, List.set_cons_zero, List.set_cons_succ, List.length_cons, List.length_nil, rd_s, upw_s, ne_eq, not_false_eq_true, Nat.zero_add, Nat.add_zero]
    | split
    | with_reducible intro _
    | omega
set_option maxHeartbeats 4000000 in
theorem lX1_withEnds_5 {a0 : Int64} {a1 : Nat} (h1 : isR w a1) (hQ : ∀ v : Int64, Q (.inl (some (.long v))) w) : ∀ (d : Nat) (i3 : Int64) (i5 : Int32) (i6 : Option Value) (i7 : Option Value) (k m : Nat), ¬ i5 < 0 → (4 : Int32).toInt - i5.toInt ≤ (d : Int) → k ≤ 0 → m ≤ 0 → WP (MX1_withEnds g) Q (5, [some (.long a0), none, some (.ref a1), some (.long i3), none, some (.int i5), i6, i7], [], w, k, m) := by
  intro d
  induction d with
  | zero =>
    intro i3 i5 i6 i7 k m z0 hm hk hs
    rw [eX1_withEnds_5]
    repeat' first
      | with_reducible assumption
      | with_reducible refine And.intro ?_ ?_
      | with_reducible exact vpi6 (by assumption) (by assumption)
      | with_reducible exact vpi8 (by assumption) (by assumption)
      | with_reducible exact (ic_z (by assumption) (by assumption)).elim
      | with_reducible exact vpi12 (by assumption) (by assumption) (by assumption)
      | with_reducible refine sX0_endAt (by first | assumption | exact hgc _ _ (by assumption) | exact hgl _ _ (by assumption) | exact isR.ext (by assumption) (by assumption)) ?_
      | with_reducible refine sX1_highOf ?_
      | with_reducible refine sX1_with ?_
      | with_reducible refine sX1_lowOf ?_
      | with_reducible refine sX1_neighboursIn (by first | assumption | exact hgc _ _ (by assumption) | exact hgl _ _ (by assumption) | exact isR.ext (by assumption) (by assumption)) ?_
      | with_reducible refine go_R (by assumption) ?_
      | with_reducible exact hQ _
      | simp only [eX1_withEnds_0, eX1_withEnds_1, eX1_withEnds_2, eX1_withEnds_3, eX1_withEnds_7, eX1_withEnds_8, eX1_withEnds_11, eX1_withEnds_11N, eX1_withEnds_12, eX1_withEnds_14, eX1_withEnds_17, eX1_withEnds_19, eX1_withEnds_20, eX1_withEnds_22, eX1_withEnds_25, eX1_withEnds_26, eX1_withEnds_29, eX1_withEnds_30, eX1_withEnds_31, eX1_withEnds_33, eX1_withEnds_36, eX1_withEnds_37, eX1_withEnds_40, eX1_withEnds_41, eX1_withEnds_42, eX1_withEnds_42N, eX1_withEnds_43, eX1_withEnds_45, eX1_withEnds_46R, eX1_withEnds_46N, eX1_withEnds_49, eX1_withEnds_50, eX1_withEnds_53, eX1_withEnds_54, eX1_withEnds_55, eX1_withEnds_55N, eX1_withEnds_56, eX1_withEnds_58, eX1_withEnds_59R, eX1_withEnds_59N, eX1_withEnds_62, eX1_withEnds_63, eX1_withEnds_66, eX1_withEnds_67, eX1_withEnds_70, eX1_withEnds_73, eX1_withEnds_74, ite_le, n45, n54, true_or, or_true, false_or, or_false, false_and, and_false, kx_l, kx_r, go_s, gl_s, gi_s, gb_s2, gb_s3, gq_s, wt_nil, wt_int, wt_long, wt_ref, wt_null, nl_int, nl_long, nl_ref, nl_null, nl_none, rf_n, rf_s, rf_st, tl_s, tl_n, g0, gS, ex1, nb_b, nb_0, nb_1, nf_i, nf_l, nf_ra, nf_ro, nf_na, nf_no, nf_b0, nf_z0, t45_4, t45_5, true_and, and_true, List.set_cons_zero, List.set_cons_succ, List.length_cons, List.length_nil, rd_s, upw_s, ne_eq, not_false_eq_true, Nat.zero_add, Nat.add_zero]
      | split
      | with_reducible intro _
      | omega
  | succ d ih =>
    intro i3 i5 i6 i7 k m z0 hm hk hs
    rw [eX1_withEnds_5]
    repeat' first
      | with_reducible assumption
      | with_reducible refine And.intro ?_ ?_
      | with_reducible exact vpi6 (by assumption) (by assumption)
      | with_reducible exact vpi8 (by assumption) (by assumption)
      | with_reducible exact ih _ _ _ _ _ _ (ic_p (by assumption) (by assumption)) (ic_s (by assumption) (by assumption)) (by first | assumption | omega) (by first | assumption | omega)
      | with_reducible exact vpi12 (by assumption) (by assumption) (by assumption)
      | with_reducible refine sX0_endAt (by first | assumption | exact hgc _ _ (by assumption) | exact hgl _ _ (by assumption) | exact isR.ext (by assumption) (by assumption)) ?_
      | with_reducible refine sX1_highOf ?_
      | with_reducible refine sX1_with ?_
      | with_reducible refine sX1_lowOf ?_
      | with_reducible refine sX1_neighboursIn (by first | assumption | exact hgc _ _ (by assumption) | exact hgl _ _ (by assumption) | exact isR.ext (by assumption) (by assumption)) ?_
      | with_reducible refine go_R (by assumption) ?_
      | with_reducible exact hQ _
      | simp only [eX1_withEnds_0, eX1_withEnds_1, eX1_withEnds_2, eX1_withEnds_3, eX1_withEnds_7, eX1_withEnds_8, eX1_withEnds_11, eX1_withEnds_11N, eX1_withEnds_12, eX1_withEnds_14, eX1_withEnds_17, eX1_withEnds_19, eX1_withEnds_20, eX1_withEnds_22, eX1_withEnds_25, eX1_withEnds_26, eX1_withEnds_29, eX1_withEnds_30, eX1_withEnds_31, eX1_withEnds_33, eX1_withEnds_36, eX1_withEnds_37, eX1_withEnds_40, eX1_withEnds_41, eX1_withEnds_42, eX1_withEnds_42N, eX1_withEnds_43, eX1_withEnds_45, eX1_withEnds_46R, eX1_withEnds_46N, eX1_withEnds_49, eX1_withEnds_50, eX1_withEnds_53, eX1_withEnds_54, eX1_withEnds_55, eX1_withEnds_55N, eX1_withEnds_56, eX1_withEnds_58, eX1_withEnds_59R, eX1_withEnds_59N, eX1_withEnds_62, eX1_withEnds_63, eX1_withEnds_66, eX1_withEnds_67, eX1_withEnds_70, eX1_withEnds_73, eX1_withEnds_74, ite_le, n45, n54, true_or, or_true, false_or, or_false, false_and, and_false, kx_l, kx_r, go_s, gl_s, gi_s, gb_s2, gb_s3, gq_s, wt_nil, wt_int, wt_long, wt_ref, wt_null, nl_int, nl_long, nl_ref, nl_null, nl_none, rf_n, rf_s, rf_st, tl_s, tl_n, g0, gS, ex1, nb_b, nb_0, nb_1, nf_i, nf_l, nf_ra, nf_ro, nf_na, nf_no, nf_b0, nf_z0, t45_4, t45_5, true_and, and_true, List.set_cons_zero, List.set_cons_succ, List.length_cons, List.length_nil, rd_s, upw_s, ne_eq, not_false_eq_true, Nat.zero_add, Nat.add_zero]
      | split
      | with_reducible intro _
      | omega
set_option maxHeartbeats 4000000 in
theorem sX1_withEnds {a0 : Int64} {a1 : Nat} (h1 : isR w a1) (hQ : ∀ v : Int64, Q (.inl (some (.long v))) w) : WP (MX1_withEnds g) Q (0, [some (.long a0), none, some (.ref a1), none, none, none, none, none], [], w, 0, 0) := by
  repeat' first
    | with_reducible assumption
    | with_reducible refine And.intro ?_ ?_
    | with_reducible exact vpi6 (by assumption) (by assumption)
    | with_reducible exact vpi8 (by assumption) (by assumption)
    | with_reducible exact lX1_withEnds_5 h1 hQ 70 _ _ _ _ _ _ (by first | decide | assumption) (by first | decide | exact n12 (by assumption) | exact n60 (by assumption)) (by first | decide | omega) (by first | decide | omega)
    | with_reducible refine sX0_endAt (by first | assumption | exact hgc _ _ (by assumption) | exact hgl _ _ (by assumption) | exact isR.ext (by assumption) (by assumption)) ?_
    | with_reducible refine sX1_highOf ?_
    | with_reducible refine sX1_with ?_
    | with_reducible refine sX1_lowOf ?_
    | with_reducible refine sX1_neighboursIn (by first | assumption | exact hgc _ _ (by assumption) | exact hgl _ _ (by assumption) | exact isR.ext (by assumption) (by assumption)) ?_
    | with_reducible refine go_R (by assumption) ?_
    | with_reducible exact hQ _
    | simp only [eX1_withEnds_0, eX1_withEnds_1, eX1_withEnds_2, eX1_withEnds_3, eX1_withEnds_7, eX1_withEnds_8, eX1_withEnds_11, eX1_withEnds_11N, eX1_withEnds_12, eX1_withEnds_14, eX1_withEnds_17, eX1_withEnds_19, eX1_withEnds_20, eX1_withEnds_22, eX1_withEnds_25, eX1_withEnds_26, eX1_withEnds_29, eX1_withEnds_30, eX1_withEnds_31, eX1_withEnds_33, eX1_withEnds_36, eX1_withEnds_37, eX1_withEnds_40, eX1_withEnds_41, eX1_withEnds_42, eX1_withEnds_42N, eX1_withEnds_43, eX1_withEnds_45, eX1_withEnds_46R, eX1_withEnds_46N, eX1_withEnds_49, eX1_withEnds_50, eX1_withEnds_53, eX1_withEnds_54, eX1_withEnds_55, eX1_withEnds_55N, eX1_withEnds_56, eX1_withEnds_58, eX1_withEnds_59R, eX1_withEnds_59N, eX1_withEnds_62, eX1_withEnds_63, eX1_withEnds_66, eX1_withEnds_67, eX1_withEnds_70, eX1_withEnds_73, eX1_withEnds_74, ite_le, n45, n54, true_or, or_true, false_or, or_false, false_and, and_false, kx_l, kx_r, go_s, gl_s, gi_s, gb_s2, gb_s3, gq_s, wt_nil, wt_int, wt_long, wt_ref, wt_null, nl_int, nl_long, nl_ref, nl_null, nl_none, rf_n, rf_s, rf_st, tl_s, tl_n, g0, gS, ex1, nb_b, nb_0, nb_1, nf_i, nf_l, nf_ra, nf_ro, nf_na, nf_no, nf_b0, nf_z0, t45_4, t45_5, true_and, and_true, List.set_cons_zero, List.set_cons_succ, List.length_cons, List.length_nil, rd_s, upw_s, ne_eq, not_false_eq_true, Nat.zero_add, Nat.add_zero]
    | split
    | with_reducible intro _
    | omega
end
end
/-! 67.22.class6.lean.txt -/
section
section
variable {g : RO} {Q : Ot → Hw → Prop} {w0 w : Hw} {x nA cA lA : Nat} {kn : Int32}
set_option maxHeartbeats 4000000 in
theorem lX1_withCard_106R {a0 : Int64} {a1 : Nat} (hC : CC g w0 x nA cA lA kn w) (h1 : isR w a1) (hQ : ∀ v : Int64, Q (.inl (some (.long v))) w) : ∀ (n rf md : Int32) (f : Nat → Int64) (gc gl : Nat → Option Nat), RO5 g w x nA cA lA n rf kn md f gc gl → ∀ (d : Nat) (i4 : Int64) (i6 : Int32) (k m : Nat), (1 : Int32).toInt + 1 - i6.toInt ≤ (d : Int) → k ≤ 0 → m ≤ 0 → WP (MX1_withCard g) Q (106, [some (.ref x), some (.long a0), none, some (.ref a1), some (.long i4), none, some (.int i6)], [], w, k, m) := by
  rintro n rf md f gc gl ⟨hx, hn, hc, hl, hgc, hgl, hn0, hn1, rx, rn, rc, rl, ⟨d1, d2, d3, d4, d5, d6⟩, ⟨d7, d8, d9, d10, d11, d12⟩⟩ d
  induction d with
  | zero =>
    intro i4 i6 k m hm hk hs
    rw [eX1_withCard_106]
    repeat' first
      | with_reducible assumption
      | with_reducible refine And.intro ?_ ?_
      | with_reducible exact vpi6 (by assumption) (by assumption)
      | with_reducible exact vpi8 (by assumption) (by assumption)
      | with_reducible exact (ic_zl (by assumption) (by assumption)).elim
      | with_reducible exact vpi12 (by assumption) (by assumption) (by assumption)
      | with_reducible refine sX1_with ?_
      | with_reducible refine sX1_withEnds (by first | assumption | exact hgc _ _ (by assumption) | exact hgl _ _ (by assumption) | exact isR.ext (by assumption) (by assumption)) ?_
      | with_reducible refine sX0_isSettled (by first | assumption | exact hgc _ _ (by assumption) | exact hgl _ _ (by assumption) | exact isR.ext (by assumption) (by assumption)) ?_
      | with_reducible refine sX1_asNumber ?_
      | with_reducible refine sX0_fitsSmall (by first | assumption | exact hgc _ _ (by assumption) | exact hgl _ _ (by assumption) | exact isR.ext (by assumption) (by assumption)) ?_
      | with_reducible refine sX1_cardsLike (by first | assumption | exact CC.ext (by assumption) (by assumption)) (by first | assumption | exact hgc _ _ (by assumption) | exact hgl _ _ (by assumption) | exact isR.ext (by assumption) (by assumption)) ?_
      | with_reducible refine sX1_firstPlaceOf (by first | assumption | exact CC.ext (by assumption) (by assumption)) (by first | assumption | exact hgc _ _ (by assumption) | exact hgl _ _ (by assumption) | exact isR.ext (by assumption) (by assumption)) ?_
      | with_reducible refine sX1_lastPlaceOf (by first | assumption | exact CC.ext (by assumption) (by assumption)) (by first | assumption | exact hgc _ _ (by assumption) | exact hgl _ _ (by assumption) | exact isR.ext (by assumption) (by assumption)) ?_
      | with_reducible refine sX1_timesLaid (by first | assumption | exact CC.ext (by assumption) (by assumption)) (by first | assumption | exact hgc _ _ (by assumption) | exact hgl _ _ (by assumption) | exact isR.ext (by assumption) (by assumption)) ?_
      | with_reducible refine sX1_validityIn (by first | assumption | exact hgc _ _ (by assumption) | exact hgl _ _ (by assumption) | exact isR.ext (by assumption) (by assumption)) ?_
      | with_reducible refine go_R (by first | assumption | exact hgc _ _ (by assumption) | exact hgl _ _ (by assumption) | exact isR.ext (by assumption) (by assumption)) ?_
      | with_reducible exact hQ _
      | simp only [eX1_withCard_0, eX1_withCard_0N, eX1_withCard_1R, eX1_withCard_1N, eX1_withCard_4, eX1_withCard_5, eX1_withCard_6, eX1_withCard_9, eX1_withCard_10, eX1_withCard_11, eX1_withCard_12, eX1_withCard_15, eX1_withCard_15N, eX1_withCard_16R, eX1_withCard_16N, eX1_withCard_19, eX1_withCard_21, eX1_withCard_23, eX1_withCard_23N, eX1_withCard_24, eX1_withCard_27, eX1_withCard_30, eX1_withCard_31, eX1_withCard_34, eX1_withCard_36, eX1_withCard_38, eX1_withCard_38N, eX1_withCard_39, eX1_withCard_42, eX1_withCard_45, eX1_withCard_46, eX1_withCard_49, eX1_withCard_51, eX1_withCard_53, eX1_withCard_53N, eX1_withCard_54, eX1_withCard_54N, eX1_withCard_55R, eX1_withCard_55N, eX1_withCard_58, eX1_withCard_59, eX1_withCard_62, eX1_withCard_64, eX1_withCard_66, eX1_withCard_66N, eX1_withCard_67, eX1_withCard_67N, eX1_withCard_68R, eX1_withCard_68N, eX1_withCard_71, eX1_withCard_72, eX1_withCard_75, eX1_withCard_77, eX1_withCard_79, eX1_withCard_79N, eX1_withCard_80, eX1_withCard_80N, eX1_withCard_81R, eX1_withCard_81N, eX1_withCard_84, eX1_withCard_85, eX1_withCard_88, eX1_withCard_90, eX1_withCard_92, eX1_withCard_92N, eX1_withCard_93, eX1_withCard_93N, eX1_withCard_94R, eX1_withCard_94N, eX1_withCard_97, eX1_withCard_98, eX1_withCard_101, eX1_withCard_103, eX1_withCard_104, eX1_withCard_108, eX1_withCard_109, eX1_withCard_112, eX1_withCard_114, eX1_withCard_114N, eX1_withCard_115, eX1_withCard_117, eX1_withCard_118R, eX1_withCard_118N, eX1_withCard_121, eX1_withCard_122, eX1_withCard_125, eX1_withCard_127, eX1_withCard_130, eX1_withCard_133, eX1_withCard_135, rx, rn, rc, rl, hx, hn, hc, hl, d1, d2, d3, d4, d5, d6, d7, d8, d9, d10, d11, d12, rd_n, upw_n, ite_le, n45, n54, true_or, or_true, false_or, or_false, false_and, and_false, kx_l, kx_r, go_s, gl_s, gi_s, gb_s2, gb_s3, gq_s, wt_nil, wt_int, wt_long, wt_ref, wt_null, nl_int, nl_long, nl_ref, nl_null, nl_none, rf_n, rf_s, rf_st, tl_s, tl_n, g0, gS, ex1, nb_b, nb_0, nb_1, nf_i, nf_l, nf_ra, nf_ro, nf_na, nf_no, nf_b0, nf_z0, t45_4, t45_5, true_and, and_true, List.set_cons_zero, List.set_cons_succ, List.length_cons, List.length_nil, rd_s, upw_s, ne_eq, not_false_eq_true, Nat.zero_add, Nat.add_zero]
      | split
      | with_reducible intro _
      | omega
  | succ d ih =>
    intro i4 i6 k m hm hk hs
    rw [eX1_withCard_106]
    repeat' first
      | with_reducible assumption
      | with_reducible refine And.intro ?_ ?_
      | with_reducible exact vpi6 (by assumption) (by assumption)
      | with_reducible exact vpi8 (by assumption) (by assumption)
      | with_reducible exact ih _ _ _ _ (ic_sl (by assumption) (by assumption) (by decide)) (by first | assumption | omega) (by first | assumption | omega)
      | with_reducible exact vpi12 (by assumption) (by assumption) (by assumption)
      | with_reducible refine sX1_with ?_
      | with_reducible refine sX1_withEnds (by first | assumption | exact hgc _ _ (by assumption) | exact hgl _ _ (by assumption) | exact isR.ext (by assumption) (by assumption)) ?_
      | with_reducible refine sX0_isSettled (by first | assumption | exact hgc _ _ (by assumption) | exact hgl _ _ (by assumption) | exact isR.ext (by assumption) (by assumption)) ?_
      | with_reducible refine sX1_asNumber ?_
      | with_reducible refine sX0_fitsSmall (by first | assumption | exact hgc _ _ (by assumption) | exact hgl _ _ (by assumption) | exact isR.ext (by assumption) (by assumption)) ?_
      | with_reducible refine sX1_cardsLike (by first | assumption | exact CC.ext (by assumption) (by assumption)) (by first | assumption | exact hgc _ _ (by assumption) | exact hgl _ _ (by assumption) | exact isR.ext (by assumption) (by assumption)) ?_
      | with_reducible refine sX1_firstPlaceOf (by first | assumption | exact CC.ext (by assumption) (by assumption)) (by first | assumption | exact hgc _ _ (by assumption) | exact hgl _ _ (by assumption) | exact isR.ext (by assumption) (by assumption)) ?_
      | with_reducible refine sX1_lastPlaceOf (by first | assumption | exact CC.ext (by assumption) (by assumption)) (by first | assumption | exact hgc _ _ (by assumption) | exact hgl _ _ (by assumption) | exact isR.ext (by assumption) (by assumption)) ?_
      | with_reducible refine sX1_timesLaid (by first | assumption | exact CC.ext (by assumption) (by assumption)) (by first | assumption | exact hgc _ _ (by assumption) | exact hgl _ _ (by assumption) | exact isR.ext (by assumption) (by assumption)) ?_
      | with_reducible refine sX1_validityIn (by first | assumption | exact hgc _ _ (by assumption) | exact hgl _ _ (by assumption) | exact isR.ext (by assumption) (by assumption)) ?_
      | with_reducible refine go_R (by first | assumption | exact hgc _ _ (by assumption) | exact hgl _ _ (by assumption) | exact isR.ext (by assumption) (by assumption)) ?_
      | with_reducible exact hQ _
      | simp only [eX1_withCard_0, eX1_withCard_0N, eX1_withCard_1R, eX1_withCard_1N, eX1_withCard_4, eX1_withCard_5, eX1_withCard_6, eX1_withCard_9, eX1_withCard_10, eX1_withCard_11, eX1_withCard_12, eX1_withCard_15, eX1_withCard_15N, eX1_withCard_16R, eX1_withCard_16N, eX1_withCard_19, eX1_withCard_21, eX1_withCard_23, eX1_withCard_23N, eX1_withCard_24, eX1_withCard_27, eX1_withCard_30, eX1_withCard_31, eX1_withCard_34, eX1_withCard_36, eX1_withCard_38, eX1_withCard_38N, eX1_withCard_39, eX1_withCard_42, eX1_withCard_45, eX1_withCard_46, eX1_withCard_49, eX1_withCard_51, eX1_withCard_53, eX1_withCard_53N, eX1_withCard_54, eX1_withCard_54N, eX1_withCard_55R, eX1_withCard_55N, eX1_withCard_58, eX1_withCard_59, eX1_withCard_62, eX1_withCard_64, eX1_withCard_66, eX1_withCard_66N, eX1_withCard_67, eX1_withCard_67N, eX1_withCard_68R, eX1_withCard_68N, eX1_withCard_71, eX1_withCard_72, eX1_withCard_75, eX1_withCard_77, eX1_withCard_79, eX1_withCard_79N, eX1_withCard_80, eX1_withCard_80N, eX1_withCard_81R, eX1_withCard_81N, eX1_withCard_84, eX1_withCard_85, eX1_withCard_88, eX1_withCard_90, eX1_withCard_92, eX1_withCard_92N, eX1_withCard_93, eX1_withCard_93N, eX1_withCard_94R, eX1_withCard_94N, eX1_withCard_97, eX1_withCard_98, eX1_withCard_101, eX1_withCard_103, eX1_withCard_104, eX1_withCard_108, eX1_withCard_109, eX1_withCard_112, eX1_withCard_114, eX1_withCard_114N, eX1_withCard_115, eX1_withCard_117, eX1_withCard_118R, eX1_withCard_118N, eX1_withCard_121, eX1_withCard_122, eX1_withCard_125, eX1_withCard_127, eX1_withCard_130, eX1_withCard_133, eX1_withCard_135, rx, rn, rc, rl, hx, hn, hc, hl, d1, d2, d3, d4, d5, d6, d7, d8, d9, d10, d11, d12, rd_n, upw_n, ite_le, n45, n54, true_or, or_true, false_or, or_false, false_and, and_false, kx_l, kx_r, go_s, gl_s, gi_s, gb_s2, gb_s3, gq_s, wt_nil, wt_int, wt_long, wt_ref, wt_null, nl_int, nl_long, nl_ref, nl_null, nl_none, rf_n, rf_s, rf_st, tl_s, tl_n, g0, gS, ex1, nb_b, nb_0, nb_1, nf_i, nf_l, nf_ra, nf_ro, nf_na, nf_no, nf_b0, nf_z0, t45_4, t45_5, true_and, and_true, List.set_cons_zero, List.set_cons_succ, List.length_cons, List.length_nil, rd_s, upw_s, ne_eq, not_false_eq_true, Nat.zero_add, Nat.add_zero]
      | split
      | with_reducible intro _
      | omega
set_option maxHeartbeats 4000000 in
theorem sX1_withCardR {a0 : Int64} {a1 : Nat} (hC : CC g w0 x nA cA lA kn w) (h1 : isR w a1) (hQ : ∀ v : Int64, Q (.inl (some (.long v))) w) : WP (MX1_withCard g) Q (0, [some (.ref x), some (.long a0), none, some (.ref a1), none, none, none], [], w, 0, 0) := by
  obtain ⟨n, rf, md, f, gc, gl, hx, hn, hc, hl, hgc, hgl, hn0, hn1, rx, rn, rc, rl, ⟨d1, d2, d3, d4, d5, d6⟩, ⟨d7, d8, d9, d10, d11, d12⟩⟩ := hC.1.opn g
  repeat' first
    | with_reducible assumption
    | with_reducible refine And.intro ?_ ?_
    | with_reducible exact vpi6 (by assumption) (by assumption)
    | with_reducible exact vpi8 (by assumption) (by assumption)
    | with_reducible exact lX1_withCard_106R hC h1 hQ _ _ _ _ _ _ ⟨hx, hn, hc, hl, hgc, hgl, hn0, hn1, rx, rn, rc, rl, ⟨d1, d2, d3, d4, d5, d6⟩, ⟨d7, d8, d9, d10, d11, d12⟩⟩ 70 _ _ _ _ (by first | decide | exact n12 (by assumption) | exact n60 (by assumption)) (by first | decide | omega) (by first | decide | omega)
    | with_reducible refine sX1_with ?_
    | with_reducible refine sX1_withEnds (by first | assumption | exact hgc _ _ (by assumption) | exact hgl _ _ (by assumption) | exact isR.ext (by assumption) (by assumption)) ?_
    | with_reducible refine sX0_isSettled (by first | assumption | exact hgc _ _ (by assumption) | exact hgl _ _ (by assumption) | exact isR.ext (by assumption) (by assumption)) ?_
    | with_reducible refine sX1_asNumber ?_
    | with_reducible refine sX0_fitsSmall (by first | assumption | exact hgc _ _ (by assumption) | exact hgl _ _ (by assumption) | exact isR.ext (by assumption) (by assumption)) ?_
    | with_reducible refine sX1_cardsLike (by first | assumption | exact CC.ext (by assumption) (by assumption)) (by first | assumption | exact hgc _ _ (by assumption) | exact hgl _ _ (by assumption) | exact isR.ext (by assumption) (by assumption)) ?_
    | with_reducible refine sX1_firstPlaceOf (by first | assumption | exact CC.ext (by assumption) (by assumption)) (by first | assumption | exact hgc _ _ (by assumption) | exact hgl _ _ (by assumption) | exact isR.ext (by assumption) (by assumption)) ?_
    | with_reducible refine sX1_lastPlaceOf (by first | assumption | exact CC.ext (by assumption) (by assumption)) (by first | assumption | exact hgc _ _ (by assumption) | exact hgl _ _ (by assumption) | exact isR.ext (by assumption) (by assumption)) ?_
    | with_reducible refine sX1_timesLaid (by first | assumption | exact CC.ext (by assumption) (by assumption)) (by first | assumption | exact hgc _ _ (by assumption) | exact hgl _ _ (by assumption) | exact isR.ext (by assumption) (by assumption)) ?_
    | with_reducible refine sX1_validityIn (by first | assumption | exact hgc _ _ (by assumption) | exact hgl _ _ (by assumption) | exact isR.ext (by assumption) (by assumption)) ?_
    | with_reducible refine go_R (by first | assumption | exact hgc _ _ (by assumption) | exact hgl _ _ (by assumption) | exact isR.ext (by assumption) (by assumption)) ?_
    | with_reducible exact hQ _
    | simp only [eX1_withCard_0, eX1_withCard_0N, eX1_withCard_1R, eX1_withCard_1N, eX1_withCard_4, eX1_withCard_5, eX1_withCard_6, eX1_withCard_9, eX1_withCard_10, eX1_withCard_11, eX1_withCard_12, eX1_withCard_15, eX1_withCard_15N, eX1_withCard_16R, eX1_withCard_16N, eX1_withCard_19, eX1_withCard_21, eX1_withCard_23, eX1_withCard_23N, eX1_withCard_24, eX1_withCard_27, eX1_withCard_30, eX1_withCard_31, eX1_withCard_34, eX1_withCard_36, eX1_withCard_38, eX1_withCard_38N, eX1_withCard_39, eX1_withCard_42, eX1_withCard_45, eX1_withCard_46, eX1_withCard_49, eX1_withCard_51, eX1_withCard_53, eX1_withCard_53N, eX1_withCard_54, eX1_withCard_54N, eX1_withCard_55R, eX1_withCard_55N, eX1_withCard_58, eX1_withCard_59, eX1_withCard_62, eX1_withCard_64, eX1_withCard_66, eX1_withCard_66N, eX1_withCard_67, eX1_withCard_67N, eX1_withCard_68R, eX1_withCard_68N, eX1_withCard_71, eX1_withCard_72, eX1_withCard_75, eX1_withCard_77, eX1_withCard_79, eX1_withCard_79N, eX1_withCard_80, eX1_withCard_80N, eX1_withCard_81R, eX1_withCard_81N, eX1_withCard_84, eX1_withCard_85, eX1_withCard_88, eX1_withCard_90, eX1_withCard_92, eX1_withCard_92N, eX1_withCard_93, eX1_withCard_93N, eX1_withCard_94R, eX1_withCard_94N, eX1_withCard_97, eX1_withCard_98, eX1_withCard_101, eX1_withCard_103, eX1_withCard_104, eX1_withCard_108, eX1_withCard_109, eX1_withCard_112, eX1_withCard_114, eX1_withCard_114N, eX1_withCard_115, eX1_withCard_117, eX1_withCard_118R, eX1_withCard_118N, eX1_withCard_121, eX1_withCard_122, eX1_withCard_125, eX1_withCard_127, eX1_withCard_130, eX1_withCard_133, eX1_withCard_135, rx, rn, rc, rl, hx, hn, hc, hl, d1, d2, d3, d4, d5, d6, d7, d8, d9, d10, d11, d12, rd_n, upw_n, ite_le, n45, n54, true_or, or_true, false_or, or_false, false_and, and_false, kx_l, kx_r, go_s, gl_s, gi_s, gb_s2, gb_s3, gq_s, wt_nil, wt_int, wt_long, wt_ref, wt_null, nl_int, nl_long, nl_ref, nl_null, nl_none, rf_n, rf_s, rf_st, tl_s, tl_n, g0, gS, ex1, nb_b, nb_0, nb_1, nf_i, nf_l, nf_ra, nf_ro, nf_na, nf_no, nf_b0, nf_z0, t45_4, t45_5, true_and, and_true, List.set_cons_zero, List.set_cons_succ, List.length_cons, List.length_nil, rd_s, upw_s, ne_eq, not_false_eq_true, Nat.zero_add, Nat.add_zero]
    | split
    | with_reducible intro _
    | omega
set_option maxHeartbeats 4000000 in
theorem sX1_withCardN {a0 : Int64} (hC : CC g w0 x nA cA lA kn w) (hQ : ∀ v : Int64, Q (.inl (some (.long v))) w) : WP (MX1_withCard g) Q (0, [some (.ref x), some (.long a0), none, some .null, none, none, none], [], w, 0, 0) := by
  obtain ⟨n, rf, md, f, gc, gl, hx, hn, hc, hl, hgc, hgl, hn0, hn1, rx, rn, rc, rl, ⟨d1, d2, d3, d4, d5, d6⟩, ⟨d7, d8, d9, d10, d11, d12⟩⟩ := hC.1.opn g
  repeat' first
    | with_reducible assumption
    | with_reducible refine And.intro ?_ ?_
    | with_reducible exact vpi6 (by assumption) (by assumption)
    | with_reducible exact vpi8 (by assumption) (by assumption)
    | with_reducible refine sX1_with ?_
    | with_reducible refine sX1_withEnds (by first | assumption | exact hgc _ _ (by assumption) | exact hgl _ _ (by assumption) | exact isR.ext (by assumption) (by assumption)) ?_
    | with_reducible refine sX0_isSettled (by first | assumption | exact hgc _ _ (by assumption) | exact hgl _ _ (by assumption) | exact isR.ext (by assumption) (by assumption)) ?_
    | with_reducible refine sX1_asNumber ?_
    | with_reducible refine sX0_fitsSmall (by first | assumption | exact hgc _ _ (by assumption) | exact hgl _ _ (by assumption) | exact isR.ext (by assumption) (by assumption)) ?_
    | with_reducible refine sX1_cardsLike (by first | assumption | exact CC.ext (by assumption) (by assumption)) (by first | assumption | exact hgc _ _ (by assumption) | exact hgl _ _ (by assumption) | exact isR.ext (by assumption) (by assumption)) ?_
    | with_reducible refine sX1_firstPlaceOf (by first | assumption | exact CC.ext (by assumption) (by assumption)) (by first | assumption | exact hgc _ _ (by assumption) | exact hgl _ _ (by assumption) | exact isR.ext (by assumption) (by assumption)) ?_
    | with_reducible refine sX1_lastPlaceOf (by first | assumption | exact CC.ext (by assumption) (by assumption)) (by first | assumption | exact hgc _ _ (by assumption) | exact hgl _ _ (by assumption) | exact isR.ext (by assumption) (by assumption)) ?_
    | with_reducible refine sX1_timesLaid (by first | assumption | exact CC.ext (by assumption) (by assumption)) (by first | assumption | exact hgc _ _ (by assumption) | exact hgl _ _ (by assumption) | exact isR.ext (by assumption) (by assumption)) ?_
    | with_reducible refine sX1_validityIn (by first | assumption | exact hgc _ _ (by assumption) | exact hgl _ _ (by assumption) | exact isR.ext (by assumption) (by assumption)) ?_
    | with_reducible refine go_R (by first | assumption | exact hgc _ _ (by assumption) | exact hgl _ _ (by assumption) | exact isR.ext (by assumption) (by assumption)) ?_
    | with_reducible exact hQ _
    | simp only [eX1_withCard_0, eX1_withCard_0N, eX1_withCard_1R, eX1_withCard_1N, eX1_withCard_4, eX1_withCard_5, eX1_withCard_6, eX1_withCard_9, eX1_withCard_10, eX1_withCard_11, eX1_withCard_12, eX1_withCard_15, eX1_withCard_15N, eX1_withCard_16R, eX1_withCard_16N, eX1_withCard_19, eX1_withCard_21, eX1_withCard_23, eX1_withCard_23N, eX1_withCard_24, eX1_withCard_27, eX1_withCard_30, eX1_withCard_31, eX1_withCard_34, eX1_withCard_36, eX1_withCard_38, eX1_withCard_38N, eX1_withCard_39, eX1_withCard_42, eX1_withCard_45, eX1_withCard_46, eX1_withCard_49, eX1_withCard_51, eX1_withCard_53, eX1_withCard_53N, eX1_withCard_54, eX1_withCard_54N, eX1_withCard_55R, eX1_withCard_55N, eX1_withCard_58, eX1_withCard_59, eX1_withCard_62, eX1_withCard_64, eX1_withCard_66, eX1_withCard_66N, eX1_withCard_67, eX1_withCard_67N, eX1_withCard_68R, eX1_withCard_68N, eX1_withCard_71, eX1_withCard_72, eX1_withCard_75, eX1_withCard_77, eX1_withCard_79, eX1_withCard_79N, eX1_withCard_80, eX1_withCard_80N, eX1_withCard_81R, eX1_withCard_81N, eX1_withCard_84, eX1_withCard_85, eX1_withCard_88, eX1_withCard_90, eX1_withCard_92, eX1_withCard_92N, eX1_withCard_93, eX1_withCard_93N, eX1_withCard_94R, eX1_withCard_94N, eX1_withCard_97, eX1_withCard_98, eX1_withCard_101, eX1_withCard_103, eX1_withCard_104, eX1_withCard_108, eX1_withCard_109, eX1_withCard_112, eX1_withCard_114, eX1_withCard_114N, eX1_withCard_115, eX1_withCard_117, eX1_withCard_118R, eX1_withCard_118N, eX1_withCard_121, eX1_withCard_122, eX1_withCard_125, eX1_withCard_127, eX1_withCard_130, eX1_withCard_133, eX1_withCard_135, rx, rn, rc, rl, hx, hn, hc, hl, d1, d2, d3, d4, d5, d6, d7, d8, d9, d10, d11, d12, rd_n, upw_n, ite_le, n45, n54, true_or, or_true, false_or, or_false, false_and, and_false, kx_l, kx_r, go_s, gl_s, gi_s, gb_s2, gb_s3, gq_s, wt_nil, wt_int, wt_long, wt_ref, wt_null, nl_int, nl_long, nl_ref, nl_null, nl_none, rf_n, rf_s, rf_st, tl_s, tl_n, g0, gS, ex1, nb_b, nb_0, nb_1, nf_i, nf_l, nf_ra, nf_ro, nf_na, nf_no, nf_b0, nf_z0, t45_4, t45_5, true_and, and_true, List.set_cons_zero, List.set_cons_succ, List.length_cons, List.length_nil, rd_s, upw_s, ne_eq, not_false_eq_true, Nat.zero_add, Nat.add_zero]
    | split
    | with_reducible intro _
    | omega
end
end
/-! 67.22.class7.lean.txt -/
section
section
variable {g : RO} {Q : Ot → Hw → Prop} {w0 w : Hw} {x nA cA lA : Nat} {kn : Int32}
theorem vp08 : vp_in 0 8 := vpi8 (by decide) (by decide)
theorem go_C (h : CC g w0 x nA cA lA kn w) : go (rd g w x) 5 (fun _ => True) := by
  obtain ⟨n, rf, md, f, gc, gl, hx, hn, hc, hl, hgc, hgl, hn0, hn1, rx, rn, rc, rl, ⟨d1, d2, d3, d4, d5, d6⟩, ⟨d7, d8, d9, d10, d11, d12⟩⟩ := h.1.opn g
  rw [rx, go_s]
  trivial
theorem isR.mono {w1 w2 : Hw} {b : Nat} (hm : ∀ b, isR w1 b → isR w2 b) (h : isR w1 b) : isR w2 b := hm b h
set_option maxHeartbeats 4000000 in
theorem lX1_withWhichAndPile_32 {a0 : Int64} (hC : CC g w0 x nA cA lA kn w) (hQ : ∀ v : Int64, Q (.inl (some (.long v))) w) : ∀ (n rf md : Int32) (f : Nat → Int64) (gc gl : Nat → Option Nat), RO5 g w x nA cA lA n rf kn md f gc gl → ∀ (d : Nat) (i3 : Int64) (i5 : Int32) (k m : Nat), ¬ i5 < 0 → (5 : Int32).toInt + 1 - i5.toInt ≤ (d : Int) → k ≤ 0 → m ≤ 0 → WP (MX1_withWhichAndPile g) Q (32, [some (.ref x), some (.long a0), none, some (.long i3), none, some (.int i5)], [], w, k, m) := by
  rintro n rf md f gc gl ⟨hx, hn, hc, hl, hgc, hgl, hn0, hn1, rx, rn, rc, rl, ⟨d1, d2, d3, d4, d5, d6⟩, ⟨d7, d8, d9, d10, d11, d12⟩⟩ d
  induction d with
  | zero =>
    intro i3 i5 k m z0 hm hk hs
    rw [eX1_withWhichAndPile_32]
    repeat' first
      | with_reducible assumption
      | with_reducible refine And.intro ?_ ?_
      | with_reducible exact vpi6 (by assumption) (by assumption)
      | with_reducible exact vpi8 (by assumption) (by assumption)
      | with_reducible exact (ic_zl (by assumption) (by assumption)).elim
      | with_reducible exact vpi12 (by assumption) (by assumption) (by assumption)
      | with_reducible refine sX1_cardsThatAre (by first | assumption | exact CC.ext (by assumption) (by assumption)) ?_ (by first | assumption | decide) (by first | assumption | decide)
      | with_reducible refine sX1_with ?_
      | with_reducible refine sX1_pileCount (by first | assumption | exact CC.ext (by assumption) (by assumption)) ?_
      | with_reducible refine go_R (by first | assumption | exact hgc _ _ (by assumption) | exact hgl _ _ (by assumption) | exact isR.ext (by assumption) (by assumption) | exact isR.mono (by assumption) (by first | assumption | exact isR.ext (by assumption) (by assumption))) ?_
      | with_reducible exact vp08
      | with_reducible exact hQ _
      | simp only [eX1_withWhichAndPile_0, eX1_withWhichAndPile_1, eX1_withWhichAndPile_2, eX1_withWhichAndPile_3, eX1_withWhichAndPile_7, eX1_withWhichAndPile_8, eX1_withWhichAndPile_11, eX1_withWhichAndPile_12, eX1_withWhichAndPile_12N, eX1_withWhichAndPile_13, eX1_withWhichAndPile_15, eX1_withWhichAndPile_18, eX1_withWhichAndPile_19, eX1_withWhichAndPile_22, eX1_withWhichAndPile_23, eX1_withWhichAndPile_26, eX1_withWhichAndPile_29, eX1_withWhichAndPile_30, eX1_withWhichAndPile_34, eX1_withWhichAndPile_35, eX1_withWhichAndPile_38, eX1_withWhichAndPile_39, eX1_withWhichAndPile_39N, eX1_withWhichAndPile_40, eX1_withWhichAndPile_40N, eX1_withWhichAndPile_41, eX1_withWhichAndPile_44, eX1_withWhichAndPile_45, eX1_withWhichAndPile_46, eX1_withWhichAndPile_48, eX1_withWhichAndPile_51, eX1_withWhichAndPile_52, eX1_withWhichAndPile_55, eX1_withWhichAndPile_56, eX1_withWhichAndPile_59, eX1_withWhichAndPile_62, eX1_withWhichAndPile_63, rx, rn, rc, rl, hx, hn, hc, hl, d1, d2, d3, d4, d5, d6, d7, d8, d9, d10, d11, d12, rd_n, upw_n, ite_le, n45, n54, true_or, or_true, false_or, or_false, false_and, and_false, kx_l, kx_r, go_s, gl_s, gi_s, gb_s2, gb_s3, gq_s, wt_nil, wt_int, wt_long, wt_ref, wt_null, nl_int, nl_long, nl_ref, nl_null, nl_none, rf_n, rf_s, rf_st, tl_s, tl_n, g0, gS, ex1, nb_b, nb_0, nb_1, nf_i, nf_l, nf_ra, nf_ro, nf_na, nf_no, nf_b0, nf_z0, t45_4, t45_5, true_and, and_true, List.set_cons_zero, List.set_cons_succ, List.length_cons, List.length_nil, rd_s, upw_s, ne_eq, not_false_eq_true, Nat.zero_add, Nat.add_zero]
      | split
      | with_reducible intro _
      | omega
  | succ d ih =>
    intro i3 i5 k m z0 hm hk hs
    rw [eX1_withWhichAndPile_32]
    repeat' first
      | with_reducible assumption
      | with_reducible refine And.intro ?_ ?_
      | with_reducible exact vpi6 (by assumption) (by assumption)
      | with_reducible exact vpi8 (by assumption) (by assumption)
      | with_reducible exact ih _ _ _ _ (ic_pl (by assumption) (by assumption) (by decide)) (ic_sl (by assumption) (by assumption) (by decide)) (by first | assumption | omega) (by first | assumption | omega)
      | with_reducible exact vpi12 (by assumption) (by assumption) (by assumption)
      | with_reducible refine sX1_cardsThatAre (by first | assumption | exact CC.ext (by assumption) (by assumption)) ?_ (by first | assumption | decide) (by first | assumption | decide)
      | with_reducible refine sX1_with ?_
      | with_reducible refine sX1_pileCount (by first | assumption | exact CC.ext (by assumption) (by assumption)) ?_
      | with_reducible refine go_R (by first | assumption | exact hgc _ _ (by assumption) | exact hgl _ _ (by assumption) | exact isR.ext (by assumption) (by assumption) | exact isR.mono (by assumption) (by first | assumption | exact isR.ext (by assumption) (by assumption))) ?_
      | with_reducible exact vp08
      | with_reducible exact hQ _
      | simp only [eX1_withWhichAndPile_0, eX1_withWhichAndPile_1, eX1_withWhichAndPile_2, eX1_withWhichAndPile_3, eX1_withWhichAndPile_7, eX1_withWhichAndPile_8, eX1_withWhichAndPile_11, eX1_withWhichAndPile_12, eX1_withWhichAndPile_12N, eX1_withWhichAndPile_13, eX1_withWhichAndPile_15, eX1_withWhichAndPile_18, eX1_withWhichAndPile_19, eX1_withWhichAndPile_22, eX1_withWhichAndPile_23, eX1_withWhichAndPile_26, eX1_withWhichAndPile_29, eX1_withWhichAndPile_30, eX1_withWhichAndPile_34, eX1_withWhichAndPile_35, eX1_withWhichAndPile_38, eX1_withWhichAndPile_39, eX1_withWhichAndPile_39N, eX1_withWhichAndPile_40, eX1_withWhichAndPile_40N, eX1_withWhichAndPile_41, eX1_withWhichAndPile_44, eX1_withWhichAndPile_45, eX1_withWhichAndPile_46, eX1_withWhichAndPile_48, eX1_withWhichAndPile_51, eX1_withWhichAndPile_52, eX1_withWhichAndPile_55, eX1_withWhichAndPile_56, eX1_withWhichAndPile_59, eX1_withWhichAndPile_62, eX1_withWhichAndPile_63, rx, rn, rc, rl, hx, hn, hc, hl, d1, d2, d3, d4, d5, d6, d7, d8, d9, d10, d11, d12, rd_n, upw_n, ite_le, n45, n54, true_or, or_true, false_or, or_false, false_and, and_false, kx_l, kx_r, go_s, gl_s, gi_s, gb_s2, gb_s3, gq_s, wt_nil, wt_int, wt_long, wt_ref, wt_null, nl_int, nl_long, nl_ref, nl_null, nl_none, rf_n, rf_s, rf_st, tl_s, tl_n, g0, gS, ex1, nb_b, nb_0, nb_1, nf_i, nf_l, nf_ra, nf_ro, nf_na, nf_no, nf_b0, nf_z0, t45_4, t45_5, true_and, and_true, List.set_cons_zero, List.set_cons_succ, List.length_cons, List.length_nil, rd_s, upw_s, ne_eq, not_false_eq_true, Nat.zero_add, Nat.add_zero]
      | split
      | with_reducible intro _
      | omega
set_option maxHeartbeats 4000000 in
theorem lX1_withWhichAndPile_5 {a0 : Int64} (hC : CC g w0 x nA cA lA kn w) (hQ : ∀ v : Int64, Q (.inl (some (.long v))) w) : ∀ (n rf md : Int32) (f : Nat → Int64) (gc gl : Nat → Option Nat), RO5 g w x nA cA lA n rf kn md f gc gl → ∀ (d : Nat) (i3 : Int64) (i5 : Int32) (k m : Nat), ¬ i5 < 0 → (2 : Int32).toInt + 1 - i5.toInt ≤ (d : Int) → k ≤ 0 → m ≤ 0 → WP (MX1_withWhichAndPile g) Q (5, [some (.ref x), some (.long a0), none, some (.long i3), none, some (.int i5)], [], w, k, m) := by
  rintro n rf md f gc gl ⟨hx, hn, hc, hl, hgc, hgl, hn0, hn1, rx, rn, rc, rl, ⟨d1, d2, d3, d4, d5, d6⟩, ⟨d7, d8, d9, d10, d11, d12⟩⟩ d
  induction d with
  | zero =>
    intro i3 i5 k m z0 hm hk hs
    rw [eX1_withWhichAndPile_5]
    repeat' first
      | with_reducible assumption
      | with_reducible refine And.intro ?_ ?_
      | with_reducible exact vpi6 (by assumption) (by assumption)
      | with_reducible exact vpi8 (by assumption) (by assumption)
      | with_reducible exact (ic_zl (by assumption) (by assumption)).elim
      | with_reducible exact vpi12 (by assumption) (by assumption) (by assumption)
      | with_reducible refine sX1_cardsThatAre (by first | assumption | exact CC.ext (by assumption) (by assumption)) ?_ (by first | assumption | decide) (by first | assumption | decide)
      | with_reducible refine sX1_with ?_
      | with_reducible refine sX1_pileCount (by first | assumption | exact CC.ext (by assumption) (by assumption)) ?_
      | with_reducible refine go_R (by first | assumption | exact hgc _ _ (by assumption) | exact hgl _ _ (by assumption) | exact isR.ext (by assumption) (by assumption) | exact isR.mono (by assumption) (by first | assumption | exact isR.ext (by assumption) (by assumption))) ?_
      | with_reducible exact vp08
      | with_reducible exact lX1_withWhichAndPile_32 hC hQ _ _ _ _ _ _ ⟨hx, hn, hc, hl, hgc, hgl, hn0, hn1, rx, rn, rc, rl, ⟨d1, d2, d3, d4, d5, d6⟩, ⟨d7, d8, d9, d10, d11, d12⟩⟩ 70 _ _ _ _ (by first | decide | assumption) (by first | decide | exact n12 (by assumption) | exact n60 (by assumption)) (by first | decide | omega) (by first | decide | omega)
      | with_reducible exact hQ _
      | simp only [eX1_withWhichAndPile_0, eX1_withWhichAndPile_1, eX1_withWhichAndPile_2, eX1_withWhichAndPile_3, eX1_withWhichAndPile_7, eX1_withWhichAndPile_8, eX1_withWhichAndPile_11, eX1_withWhichAndPile_12, eX1_withWhichAndPile_12N, eX1_withWhichAndPile_13, eX1_withWhichAndPile_15, eX1_withWhichAndPile_18, eX1_withWhichAndPile_19, eX1_withWhichAndPile_22, eX1_withWhichAndPile_23, eX1_withWhichAndPile_26, eX1_withWhichAndPile_29, eX1_withWhichAndPile_30, eX1_withWhichAndPile_34, eX1_withWhichAndPile_35, eX1_withWhichAndPile_38, eX1_withWhichAndPile_39, eX1_withWhichAndPile_39N, eX1_withWhichAndPile_40, eX1_withWhichAndPile_40N, eX1_withWhichAndPile_41, eX1_withWhichAndPile_44, eX1_withWhichAndPile_45, eX1_withWhichAndPile_46, eX1_withWhichAndPile_48, eX1_withWhichAndPile_51, eX1_withWhichAndPile_52, eX1_withWhichAndPile_55, eX1_withWhichAndPile_56, eX1_withWhichAndPile_59, eX1_withWhichAndPile_62, eX1_withWhichAndPile_63, rx, rn, rc, rl, hx, hn, hc, hl, d1, d2, d3, d4, d5, d6, d7, d8, d9, d10, d11, d12, rd_n, upw_n, ite_le, n45, n54, true_or, or_true, false_or, or_false, false_and, and_false, kx_l, kx_r, go_s, gl_s, gi_s, gb_s2, gb_s3, gq_s, wt_nil, wt_int, wt_long, wt_ref, wt_null, nl_int, nl_long, nl_ref, nl_null, nl_none, rf_n, rf_s, rf_st, tl_s, tl_n, g0, gS, ex1, nb_b, nb_0, nb_1, nf_i, nf_l, nf_ra, nf_ro, nf_na, nf_no, nf_b0, nf_z0, t45_4, t45_5, true_and, and_true, List.set_cons_zero, List.set_cons_succ, List.length_cons, List.length_nil, rd_s, upw_s, ne_eq, not_false_eq_true, Nat.zero_add, Nat.add_zero]
      | split
      | with_reducible intro _
      | omega
  | succ d ih =>
    intro i3 i5 k m z0 hm hk hs
    rw [eX1_withWhichAndPile_5]
    repeat' first
      | with_reducible assumption
      | with_reducible refine And.intro ?_ ?_
      | with_reducible exact vpi6 (by assumption) (by assumption)
      | with_reducible exact vpi8 (by assumption) (by assumption)
      | with_reducible exact ih _ _ _ _ (ic_pl (by assumption) (by assumption) (by decide)) (ic_sl (by assumption) (by assumption) (by decide)) (by first | assumption | omega) (by first | assumption | omega)
      | with_reducible exact vpi12 (by assumption) (by assumption) (by assumption)
      | with_reducible refine sX1_cardsThatAre (by first | assumption | exact CC.ext (by assumption) (by assumption)) ?_ (by first | assumption | decide) (by first | assumption | decide)
      | with_reducible refine sX1_with ?_
      | with_reducible refine sX1_pileCount (by first | assumption | exact CC.ext (by assumption) (by assumption)) ?_
      | with_reducible refine go_R (by first | assumption | exact hgc _ _ (by assumption) | exact hgl _ _ (by assumption) | exact isR.ext (by assumption) (by assumption) | exact isR.mono (by assumption) (by first | assumption | exact isR.ext (by assumption) (by assumption))) ?_
      | with_reducible exact vp08
      | with_reducible exact lX1_withWhichAndPile_32 hC hQ _ _ _ _ _ _ ⟨hx, hn, hc, hl, hgc, hgl, hn0, hn1, rx, rn, rc, rl, ⟨d1, d2, d3, d4, d5, d6⟩, ⟨d7, d8, d9, d10, d11, d12⟩⟩ 70 _ _ _ _ (by first | decide | assumption) (by first | decide | exact n12 (by assumption) | exact n60 (by assumption)) (by first | decide | omega) (by first | decide | omega)
      | with_reducible exact hQ _
      | simp only [eX1_withWhichAndPile_0, eX1_withWhichAndPile_1, eX1_withWhichAndPile_2, eX1_withWhichAndPile_3, eX1_withWhichAndPile_7, eX1_withWhichAndPile_8, eX1_withWhichAndPile_11, eX1_withWhichAndPile_12, eX1_withWhichAndPile_12N, eX1_withWhichAndPile_13, eX1_withWhichAndPile_15, eX1_withWhichAndPile_18, eX1_withWhichAndPile_19, eX1_withWhichAndPile_22, eX1_withWhichAndPile_23, eX1_withWhichAndPile_26, eX1_withWhichAndPile_29, eX1_withWhichAndPile_30, eX1_withWhichAndPile_34, eX1_withWhichAndPile_35, eX1_withWhichAndPile_38, eX1_withWhichAndPile_39, eX1_withWhichAndPile_39N, eX1_withWhichAndPile_40, eX1_withWhichAndPile_40N, eX1_withWhichAndPile_41, eX1_withWhichAndPile_44, eX1_withWhichAndPile_45, eX1_withWhichAndPile_46, eX1_withWhichAndPile_48, eX1_withWhichAndPile_51, eX1_withWhichAndPile_52, eX1_withWhichAndPile_55, eX1_withWhichAndPile_56, eX1_withWhichAndPile_59, eX1_withWhichAndPile_62, eX1_withWhichAndPile_63, rx, rn, rc, rl, hx, hn, hc, hl, d1, d2, d3, d4, d5, d6, d7, d8, d9, d10, d11, d12, rd_n, upw_n, ite_le, n45, n54, true_or, or_true, false_or, or_false, false_and, and_false, kx_l, kx_r, go_s, gl_s, gi_s, gb_s2, gb_s3, gq_s, wt_nil, wt_int, wt_long, wt_ref, wt_null, nl_int, nl_long, nl_ref, nl_null, nl_none, rf_n, rf_s, rf_st, tl_s, tl_n, g0, gS, ex1, nb_b, nb_0, nb_1, nf_i, nf_l, nf_ra, nf_ro, nf_na, nf_no, nf_b0, nf_z0, t45_4, t45_5, true_and, and_true, List.set_cons_zero, List.set_cons_succ, List.length_cons, List.length_nil, rd_s, upw_s, ne_eq, not_false_eq_true, Nat.zero_add, Nat.add_zero]
      | split
      | with_reducible intro _
      | omega
set_option maxHeartbeats 4000000 in
theorem sX1_withWhichAndPile {a0 : Int64} (hC : CC g w0 x nA cA lA kn w) (hQ : ∀ v : Int64, Q (.inl (some (.long v))) w) : WP (MX1_withWhichAndPile g) Q (0, [some (.ref x), some (.long a0), none, none, none, none], [], w, 0, 0) := by
  obtain ⟨n, rf, md, f, gc, gl, hx, hn, hc, hl, hgc, hgl, hn0, hn1, rx, rn, rc, rl, ⟨d1, d2, d3, d4, d5, d6⟩, ⟨d7, d8, d9, d10, d11, d12⟩⟩ := hC.1.opn g
  repeat' first
    | with_reducible assumption
    | with_reducible refine And.intro ?_ ?_
    | with_reducible exact vpi6 (by assumption) (by assumption)
    | with_reducible exact vpi8 (by assumption) (by assumption)
    | with_reducible exact lX1_withWhichAndPile_32 hC hQ _ _ _ _ _ _ ⟨hx, hn, hc, hl, hgc, hgl, hn0, hn1, rx, rn, rc, rl, ⟨d1, d2, d3, d4, d5, d6⟩, ⟨d7, d8, d9, d10, d11, d12⟩⟩ 70 _ _ _ _ (by first | decide | assumption) (by first | decide | exact n12 (by assumption) | exact n60 (by assumption)) (by first | decide | omega) (by first | decide | omega)
    | with_reducible exact lX1_withWhichAndPile_5 hC hQ _ _ _ _ _ _ ⟨hx, hn, hc, hl, hgc, hgl, hn0, hn1, rx, rn, rc, rl, ⟨d1, d2, d3, d4, d5, d6⟩, ⟨d7, d8, d9, d10, d11, d12⟩⟩ 70 _ _ _ _ (by first | decide | assumption) (by first | decide | exact n12 (by assumption) | exact n60 (by assumption)) (by first | decide | omega) (by first | decide | omega)
    | with_reducible refine sX1_cardsThatAre (by first | assumption | exact CC.ext (by assumption) (by assumption)) ?_ (by first | assumption | decide) (by first | assumption | decide)
    | with_reducible refine sX1_with ?_
    | with_reducible refine sX1_pileCount (by first | assumption | exact CC.ext (by assumption) (by assumption)) ?_
    | with_reducible refine go_R (by first | assumption | exact hgc _ _ (by assumption) | exact hgl _ _ (by assumption) | exact isR.ext (by assumption) (by assumption) | exact isR.mono (by assumption) (by first | assumption | exact isR.ext (by assumption) (by assumption))) ?_
    | with_reducible exact hQ _
    | simp only [eX1_withWhichAndPile_0, eX1_withWhichAndPile_1, eX1_withWhichAndPile_2, eX1_withWhichAndPile_3, eX1_withWhichAndPile_7, eX1_withWhichAndPile_8, eX1_withWhichAndPile_11, eX1_withWhichAndPile_12, eX1_withWhichAndPile_12N, eX1_withWhichAndPile_13, eX1_withWhichAndPile_15, eX1_withWhichAndPile_18, eX1_withWhichAndPile_19, eX1_withWhichAndPile_22, eX1_withWhichAndPile_23, eX1_withWhichAndPile_26, eX1_withWhichAndPile_29, eX1_withWhichAndPile_30, eX1_withWhichAndPile_34, eX1_withWhichAndPile_35, eX1_withWhichAndPile_38, eX1_withWhichAndPile_39, eX1_withWhichAndPile_39N, eX1_withWhichAndPile_40, eX1_withWhichAndPile_40N, eX1_withWhichAndPile_41, eX1_withWhichAndPile_44, eX1_withWhichAndPile_45, eX1_withWhichAndPile_46, eX1_withWhichAndPile_48, eX1_withWhichAndPile_51, eX1_withWhichAndPile_52, eX1_withWhichAndPile_55, eX1_withWhichAndPile_56, eX1_withWhichAndPile_59, eX1_withWhichAndPile_62, eX1_withWhichAndPile_63, rx, rn, rc, rl, hx, hn, hc, hl, d1, d2, d3, d4, d5, d6, d7, d8, d9, d10, d11, d12, rd_n, upw_n, ite_le, n45, n54, true_or, or_true, false_or, or_false, false_and, and_false, kx_l, kx_r, go_s, gl_s, gi_s, gb_s2, gb_s3, gq_s, wt_nil, wt_int, wt_long, wt_ref, wt_null, nl_int, nl_long, nl_ref, nl_null, nl_none, rf_n, rf_s, rf_st, tl_s, tl_n, g0, gS, ex1, nb_b, nb_0, nb_1, nf_i, nf_l, nf_ra, nf_ro, nf_na, nf_no, nf_b0, nf_z0, t45_4, t45_5, true_and, and_true, List.set_cons_zero, List.set_cons_succ, List.length_cons, List.length_nil, rd_s, upw_s, ne_eq, not_false_eq_true, Nat.zero_add, Nat.add_zero]
    | split
    | with_reducible intro _
    | omega
end
end
/-! 67.23.pub2.lean.txt -/
section
section
variable {g : RO} {Q : Ot → Hw → Prop} {w0 w : Hw} {x nA cA lA : Nat} {kn : Int32}
theorem sX1_rangeOf2 {a0 : Int32} (hC : CC g w0 x nA cA lA kn w) (hXo : Q (.inr "java/lang/IndexOutOfBoundsException") w) (hXs : Q (.inr "java/lang/IllegalStateException") w) (hQ : ∀ b, ¬ a0 < 0 → a0 < 6 → isR w b → Q (.inl (some (.ref b))) w) : WP (MX1_rangeOf g) Q (0, [some (.ref x), some (.int a0), none], [], w, 0, 0) := by
  obtain ⟨n, rf, md, f, gc, gl, hx, hn, hc, hl, hgc, hgl, hn0, hn1, rx, rn, rc, rl, ⟨d1, d2, d3, d4, d5, d6⟩, ⟨d7, d8, d9, d10, d11, d12⟩⟩ := hC.1.opn g
  repeat' first
    | with_reducible assumption
    | with_reducible refine And.intro ?_ ?_
    | with_reducible exact vpi6 (by assumption) (by assumption)
    | with_reducible exact vpi8 (by assumption) (by assumption)
    | with_reducible exact hQ _ (by assumption) (by assumption) (hgc _ _ (by assumption))
    | with_reducible refine sX1_needCard ?_ ?_
    | simp only [eX1_rangeOf_0, eX1_rangeOf_1, eX1_rangeOf_4, eX1_rangeOf_4N, eX1_rangeOf_5, eX1_rangeOf_8, eX1_rangeOf_9, eX1_rangeOf_10, eX1_rangeOf_10N, eX1_rangeOf_11, eX1_rangeOf_11N, eX1_rangeOf_12R, eX1_rangeOf_12N, eX1_rangeOf_15, eX1_rangeOf_25, eX1_rangeOf_25N, eX1_rangeOf_26, eX1_rangeOf_26N, rx, rn, rc, rl, hx, hn, hc, hl, d1, d2, d3, d4, d5, d6, d7, d8, d9, d10, d11, d12, rd_n, upw_n, ite_le, n45, n54, true_or, or_true, false_or, or_false, false_and, and_false, kx_l, kx_r, go_s, gl_s, gi_s, gb_s2, gb_s3, gq_s, wt_nil, wt_int, wt_long, wt_ref, wt_null, nl_int, nl_long, nl_ref, nl_null, nl_none, rf_n, rf_s, rf_st, tl_s, tl_n, g0, gS, ex1, nb_b, nb_0, nb_1, nf_i, nf_l, nf_ra, nf_ro, nf_na, nf_no, nf_b0, nf_z0, t45_4, t45_5, true_and, and_true, List.set_cons_zero, List.set_cons_succ, List.length_cons, List.length_nil, rd_s, upw_s, ne_eq, not_false_eq_true, Nat.zero_add, Nat.add_zero]
    | split
    | with_reducible intro _
    | omega
end
end
/-! 67.23.pub3.lean.txt -/
section
section
variable {g : RO} {Q : Ot → Hw → Prop} {w0 w : Hw} {x nA cA lA : Nat} {kn : Int32}
set_option maxHeartbeats 4000000 in
theorem lX1_count_38 {a0 : Int32} {a1 : Int32} {a2 : Int32} {b4 : Nat} (hC : CC g w0 x nA cA lA kn w) (hb4 : isR w b4) (hXo : Q (.inr "java/lang/IndexOutOfBoundsException") w) (hXa : Q (.inr "java/lang/IllegalArgumentException") w) (hXs : Q (.inr "java/lang/IllegalStateException") w) (hQ : ∀ v : Int32, Q (.inl (some (.int v))) w) : ∀ (n rf md : Int32) (f : Nat → Int64) (gc gl : Nat → Option Nat), RO5 g w x nA cA lA n rf kn md f gc gl → ∀ (d : Nat) (i5 : Int32) (i6 : Int32) (k m : Nat), ¬ i6 < 0 → (a2 : Int32).toInt - i6.toInt ≤ (d : Int) → k ≤ 4 → m ≤ 24 → WP (MX1_count g) Q (38, [some (.ref x), some (.int a0), some (.int a1), some (.int a2), some (.ref b4), some (.int i5), some (.int i6)], [], w, k, m) := by
  rintro n rf md f gc gl ⟨hx, hn, hc, hl, hgc, hgl, hn0, hn1, rx, rn, rc, rl, ⟨d1, d2, d3, d4, d5, d6⟩, ⟨d7, d8, d9, d10, d11, d12⟩⟩ d
  induction d with
  | zero =>
    intro i5 i6 k m z0 hm hk hs
    rw [eX1_count_38]
    repeat' first
      | with_reducible assumption
      | with_reducible refine And.intro ?_ ?_
      | with_reducible exact vpi6 (by assumption) (by assumption)
      | with_reducible exact vpi8 (by assumption) (by assumption)
      | with_reducible exact (ic_z (by assumption) (by assumption)).elim
      | with_reducible exact vpi12 (by assumption) (by assumption) (by assumption)
      | with_reducible refine sX1_needCard ?_ ?_
      | with_reducible refine sX1_rangeOf2 (by first | assumption | exact CC.ext (by assumption) (by assumption)) ?_ ?_ ?_
      | with_reducible refine sX0_holds (by first | assumption | exact hgc _ _ (by assumption) | exact hgl _ _ (by assumption) | exact isR.ext (by assumption) (by assumption) | exact isR.mono (by assumption) (by first | assumption | exact isR.ext (by assumption) (by assumption)) | exact isR_up2 (by first | assumption | exact hgc _ _ (by assumption)) hc (by simp)) ?_
      | with_reducible refine sX1_asNumber ?_
      | with_reducible refine go_R (by first | assumption | exact hgc _ _ (by assumption) | exact hgl _ _ (by assumption) | exact isR.ext (by assumption) (by assumption) | exact isR.mono (by assumption) (by first | assumption | exact isR.ext (by assumption) (by assumption)) | exact isR_up2 (by first | assumption | exact hgc _ _ (by assumption)) hc (by simp)) ?_
      | with_reducible exact hQ _
      | simp only [eX1_count_0, eX1_count_1, eX1_count_4, eX1_count_5, eX1_count_6, eX1_count_9, eX1_count_10, eX1_count_12, eX1_count_15, eX1_count_25, eX1_count_25N, eX1_count_26, eX1_count_27, eX1_count_30, eX1_count_30N, eX1_count_32, eX1_count_33, eX1_count_35, eX1_count_36, eX1_count_40, eX1_count_41, eX1_count_44, eX1_count_46, eX1_count_46N, eX1_count_48, eX1_count_49, eX1_count_50, eX1_count_52, eX1_count_53, eX1_count_54, eX1_count_57, eX1_count_60, eX1_count_61, eX1_count_63, eX1_count_66, eX1_count_69, eX1_count_71, rx, rn, rc, rl, hx, hn, hc, hl, d1, d2, d3, d4, d5, d6, d7, d8, d9, d10, d11, d12, rd_n, upw_n, ite_le, n45, n54, true_or, or_true, false_or, or_false, false_and, and_false, kx_l, kx_r, go_s, gl_s, gi_s, gb_s2, gb_s3, gq_s, wt_nil, wt_int, wt_long, wt_ref, wt_null, nl_int, nl_long, nl_ref, nl_null, nl_none, rf_n, rf_s, rf_st, tl_s, tl_n, g0, gS, ex1, nb_b, nb_0, nb_1, nf_i, nf_l, nf_ra, nf_ro, nf_na, nf_no, nf_b0, nf_z0, t45_4, t45_5, true_and, and_true, List.set_cons_zero, List.set_cons_succ, List.length_cons, List.length_nil, rd_s, upw_s, ne_eq, not_false_eq_true, Nat.zero_add, Nat.add_zero]
      | split
      | with_reducible intro _
      | omega
  | succ d ih =>
    intro i5 i6 k m z0 hm hk hs
    rw [eX1_count_38]
    repeat' first
      | with_reducible assumption
      | with_reducible refine And.intro ?_ ?_
      | with_reducible exact vpi6 (by assumption) (by assumption)
      | with_reducible exact vpi8 (by assumption) (by assumption)
      | with_reducible exact ih _ _ _ _ (ic_p (by assumption) (by assumption)) (ic_s (by assumption) (by assumption)) (by first | assumption | omega) (by first | assumption | omega)
      | with_reducible exact vpi12 (by assumption) (by assumption) (by assumption)
      | with_reducible refine sX1_needCard ?_ ?_
      | with_reducible refine sX1_rangeOf2 (by first | assumption | exact CC.ext (by assumption) (by assumption)) ?_ ?_ ?_
      | with_reducible refine sX0_holds (by first | assumption | exact hgc _ _ (by assumption) | exact hgl _ _ (by assumption) | exact isR.ext (by assumption) (by assumption) | exact isR.mono (by assumption) (by first | assumption | exact isR.ext (by assumption) (by assumption)) | exact isR_up2 (by first | assumption | exact hgc _ _ (by assumption)) hc (by simp)) ?_
      | with_reducible refine sX1_asNumber ?_
      | with_reducible refine go_R (by first | assumption | exact hgc _ _ (by assumption) | exact hgl _ _ (by assumption) | exact isR.ext (by assumption) (by assumption) | exact isR.mono (by assumption) (by first | assumption | exact isR.ext (by assumption) (by assumption)) | exact isR_up2 (by first | assumption | exact hgc _ _ (by assumption)) hc (by simp)) ?_
      | with_reducible exact hQ _
      | simp only [eX1_count_0, eX1_count_1, eX1_count_4, eX1_count_5, eX1_count_6, eX1_count_9, eX1_count_10, eX1_count_12, eX1_count_15, eX1_count_25, eX1_count_25N, eX1_count_26, eX1_count_27, eX1_count_30, eX1_count_30N, eX1_count_32, eX1_count_33, eX1_count_35, eX1_count_36, eX1_count_40, eX1_count_41, eX1_count_44, eX1_count_46, eX1_count_46N, eX1_count_48, eX1_count_49, eX1_count_50, eX1_count_52, eX1_count_53, eX1_count_54, eX1_count_57, eX1_count_60, eX1_count_61, eX1_count_63, eX1_count_66, eX1_count_69, eX1_count_71, rx, rn, rc, rl, hx, hn, hc, hl, d1, d2, d3, d4, d5, d6, d7, d8, d9, d10, d11, d12, rd_n, upw_n, ite_le, n45, n54, true_or, or_true, false_or, or_false, false_and, and_false, kx_l, kx_r, go_s, gl_s, gi_s, gb_s2, gb_s3, gq_s, wt_nil, wt_int, wt_long, wt_ref, wt_null, nl_int, nl_long, nl_ref, nl_null, nl_none, rf_n, rf_s, rf_st, tl_s, tl_n, g0, gS, ex1, nb_b, nb_0, nb_1, nf_i, nf_l, nf_ra, nf_ro, nf_na, nf_no, nf_b0, nf_z0, t45_4, t45_5, true_and, and_true, List.set_cons_zero, List.set_cons_succ, List.length_cons, List.length_nil, rd_s, upw_s, ne_eq, not_false_eq_true, Nat.zero_add, Nat.add_zero]
      | split
      | with_reducible intro _
      | omega
set_option maxHeartbeats 4000000 in
theorem sX1_count {a0 : Int32} {a1 : Int32} {a2 : Int32} (hC : CC g w0 x nA cA lA kn w) (hXo : Q (.inr "java/lang/IndexOutOfBoundsException") w) (hXa : Q (.inr "java/lang/IllegalArgumentException") w) (hXs : Q (.inr "java/lang/IllegalStateException") w) (hQ : ∀ v : Int32, Q (.inl (some (.int v))) w) : WP (MX1_count g) Q (0, [some (.ref x), some (.int a0), some (.int a1), some (.int a2), none, none, none], [], w, 0, 0) := by
  obtain ⟨n, rf, md, f, gc, gl, hx, hn, hc, hl, hgc, hgl, hn0, hn1, rx, rn, rc, rl, ⟨d1, d2, d3, d4, d5, d6⟩, ⟨d7, d8, d9, d10, d11, d12⟩⟩ := hC.1.opn g
  repeat' first
    | with_reducible assumption
    | with_reducible refine And.intro ?_ ?_
    | with_reducible exact vpi6 (by assumption) (by assumption)
    | with_reducible exact vpi8 (by assumption) (by assumption)
    | with_reducible exact lX1_count_38 hC (by first | assumption | exact hgc _ _ (by assumption) | exact hgl _ _ (by assumption) | exact isR.ext (by assumption) (by assumption) | exact isR.mono (by assumption) (by first | assumption | exact isR.ext (by assumption) (by assumption)) | exact isR_up2 (by first | assumption | exact hgc _ _ (by assumption)) hc (by simp)) hXo hXa hXs hQ _ _ _ _ _ _ ⟨hx, hn, hc, hl, hgc, hgl, hn0, hn1, rx, rn, rc, rl, ⟨d1, d2, d3, d4, d5, d6⟩, ⟨d7, d8, d9, d10, d11, d12⟩⟩ 70 _ _ _ _ (by first | decide | assumption) (by first | decide | exact n12 (by assumption) | exact n60 (by assumption)) (by first | decide | omega) (by first | decide | omega)
    | with_reducible refine sX1_needCard ?_ ?_
    | with_reducible refine sX1_rangeOf2 (by first | assumption | exact CC.ext (by assumption) (by assumption)) ?_ ?_ ?_
    | with_reducible refine sX0_holds (by first | assumption | exact hgc _ _ (by assumption) | exact hgl _ _ (by assumption) | exact isR.ext (by assumption) (by assumption) | exact isR.mono (by assumption) (by first | assumption | exact isR.ext (by assumption) (by assumption)) | exact isR_up2 (by first | assumption | exact hgc _ _ (by assumption)) hc (by simp)) ?_
    | with_reducible refine sX1_asNumber ?_
    | with_reducible refine go_R (by first | assumption | exact hgc _ _ (by assumption) | exact hgl _ _ (by assumption) | exact isR.ext (by assumption) (by assumption) | exact isR.mono (by assumption) (by first | assumption | exact isR.ext (by assumption) (by assumption)) | exact isR_up2 (by first | assumption | exact hgc _ _ (by assumption)) hc (by simp)) ?_
    | with_reducible exact hQ _
    | simp only [eX1_count_0, eX1_count_1, eX1_count_4, eX1_count_5, eX1_count_6, eX1_count_9, eX1_count_10, eX1_count_12, eX1_count_15, eX1_count_25, eX1_count_25N, eX1_count_26, eX1_count_27, eX1_count_30, eX1_count_30N, eX1_count_32, eX1_count_33, eX1_count_35, eX1_count_36, eX1_count_40, eX1_count_41, eX1_count_44, eX1_count_46, eX1_count_46N, eX1_count_48, eX1_count_49, eX1_count_50, eX1_count_52, eX1_count_53, eX1_count_54, eX1_count_57, eX1_count_60, eX1_count_61, eX1_count_63, eX1_count_66, eX1_count_69, eX1_count_71, rx, rn, rc, rl, hx, hn, hc, hl, d1, d2, d3, d4, d5, d6, d7, d8, d9, d10, d11, d12, rd_n, upw_n, ite_le, n45, n54, true_or, or_true, false_or, or_false, false_and, and_false, kx_l, kx_r, go_s, gl_s, gi_s, gb_s2, gb_s3, gq_s, wt_nil, wt_int, wt_long, wt_ref, wt_null, nl_int, nl_long, nl_ref, nl_null, nl_none, rf_n, rf_s, rf_st, tl_s, tl_n, g0, gS, ex1, nb_b, nb_0, nb_1, nf_i, nf_l, nf_ra, nf_ro, nf_na, nf_no, nf_b0, nf_z0, t45_4, t45_5, true_and, and_true, List.set_cons_zero, List.set_cons_succ, List.length_cons, List.length_nil, rd_s, upw_s, ne_eq, not_false_eq_true, Nat.zero_add, Nat.add_zero]
    | split
    | with_reducible intro _
    | omega
end
end
/-! 67.23.pub4.lean.txt -/
section
section
variable {g : RO} {Q : Ot → Hw → Prop} {w0 w : Hw} {x nA cA lA : Nat} {kn : Int32}
set_option maxHeartbeats 4000000 in
theorem sX1_who {a0 : Int32} {a1 : Int32} (hC : CC g w0 x nA cA lA kn w) (hXo : Q (.inr "java/lang/IndexOutOfBoundsException") w) (hXa : Q (.inr "java/lang/IllegalArgumentException") w) (hQ : ∀ v : Int32, Q (.inl (some (.int v))) w) : WP (MX1_who g) Q (0, [some (.ref x), some (.int a0), some (.int a1)], [], w, 0, 0) := by
  obtain ⟨n, rf, md, f, gc, gl, hx, hn, hc, hl, hgc, hgl, hn0, hn1, rx, rn, rc, rl, ⟨d1, d2, d3, d4, d5, d6⟩, ⟨d7, d8, d9, d10, d11, d12⟩⟩ := hC.1.opn g
  repeat' first
    | with_reducible assumption
    | with_reducible refine And.intro ?_ ?_
    | with_reducible exact vpi6 (by assumption) (by assumption)
    | with_reducible exact vpi8 (by assumption) (by assumption)
    | with_reducible refine sX1_needNumber ?_ ?_
    | with_reducible refine sX1_needChoice ?_ ?_
    | with_reducible refine sX1_holdersOf (by first | assumption | exact CC.ext (by assumption) (by assumption)) ?_
    | with_reducible refine go_R (by first | assumption | exact hgc _ _ (by assumption) | exact hgl _ _ (by assumption) | exact isR.ext (by assumption) (by assumption) | exact isR.mono (by assumption) (by first | assumption | exact isR.ext (by assumption) (by assumption)) | exact isR_up2 (by first | assumption | exact hgc _ _ (by assumption)) hc (by simp)) ?_
    | with_reducible exact hQ _
    | simp only [eX1_who_0, eX1_who_1, eX1_who_4, eX1_who_5, eX1_who_6, eX1_who_9, eX1_who_9N, eX1_who_10, eX1_who_10N, eX1_who_11, eX1_who_14, eX1_who_15, eX1_who_16, eX1_who_17, eX1_who_18, eX1_who_21, eX1_who_22, eX1_who_25, eX1_who_26, eX1_who_29, rx, rn, rc, rl, hx, hn, hc, hl, d1, d2, d3, d4, d5, d6, d7, d8, d9, d10, d11, d12, rd_n, upw_n, ite_le, n45, n54, true_or, or_true, false_or, or_false, false_and, and_false, kx_l, kx_r, go_s, gl_s, gi_s, gb_s2, gb_s3, gq_s, wt_nil, wt_int, wt_long, wt_ref, wt_null, nl_int, nl_long, nl_ref, nl_null, nl_none, rf_n, rf_s, rf_st, tl_s, tl_n, g0, gS, ex1, nb_b, nb_0, nb_1, nf_i, nf_l, nf_ra, nf_ro, nf_na, nf_no, nf_b0, nf_z0, t45_4, t45_5, true_and, and_true, List.set_cons_zero, List.set_cons_succ, List.length_cons, List.length_nil, rd_s, upw_s, ne_eq, not_false_eq_true, Nat.zero_add, Nat.add_zero]
    | split
    | with_reducible intro _
    | omega
set_option maxHeartbeats 4000000 in
theorem sX1_which {a0 : Int32} (hC : CC g w0 x nA cA lA kn w) (hXa : Q (.inr "java/lang/IllegalArgumentException") w) (hQ : ∀ v : Int32, Q (.inl (some (.int v))) w) : WP (MX1_which g) Q (0, [some (.ref x), some (.int a0)], [], w, 0, 0) := by
  obtain ⟨n, rf, md, f, gc, gl, hx, hn, hc, hl, hgc, hgl, hn0, hn1, rx, rn, rc, rl, ⟨d1, d2, d3, d4, d5, d6⟩, ⟨d7, d8, d9, d10, d11, d12⟩⟩ := hC.1.opn g
  repeat' first
    | with_reducible assumption
    | with_reducible refine And.intro ?_ ?_
    | with_reducible exact vpi6 (by assumption) (by assumption)
    | with_reducible exact vpi8 (by assumption) (by assumption)
    | with_reducible refine sX1_needChoice ?_ ?_
    | with_reducible refine sX1_cardsThatAre (by first | assumption | exact CC.ext (by assumption) (by assumption)) ?_ (by first | assumption | decide) (by first | assumption | decide)
    | with_reducible refine go_R (by first | assumption | exact hgc _ _ (by assumption) | exact hgl _ _ (by assumption) | exact isR.ext (by assumption) (by assumption) | exact isR.mono (by assumption) (by first | assumption | exact isR.ext (by assumption) (by assumption)) | exact isR_up2 (by first | assumption | exact hgc _ _ (by assumption)) hc (by simp)) ?_
    | with_reducible exact hQ _
    | simp only [eX1_which_0, eX1_which_1, eX1_which_2, eX1_which_5, eX1_which_5N, eX1_which_6, eX1_which_7, eX1_which_10, rx, rn, rc, rl, hx, hn, hc, hl, d1, d2, d3, d4, d5, d6, d7, d8, d9, d10, d11, d12, rd_n, upw_n, ite_le, n45, n54, true_or, or_true, false_or, or_false, false_and, and_false, kx_l, kx_r, go_s, gl_s, gi_s, gb_s2, gb_s3, gq_s, wt_nil, wt_int, wt_long, wt_ref, wt_null, nl_int, nl_long, nl_ref, nl_null, nl_none, rf_n, rf_s, rf_st, tl_s, tl_n, g0, gS, ex1, nb_b, nb_0, nb_1, nf_i, nf_l, nf_ra, nf_ro, nf_na, nf_no, nf_b0, nf_z0, t45_4, t45_5, true_and, and_true, List.set_cons_zero, List.set_cons_succ, List.length_cons, List.length_nil, rd_s, upw_s, ne_eq, not_false_eq_true, Nat.zero_add, Nat.add_zero]
    | split
    | with_reducible intro _
    | omega
set_option maxHeartbeats 4000000 in
theorem sX1_likes {a0 : Int32} (hC : CC g w0 x nA cA lA kn w) (hXo : Q (.inr "java/lang/IndexOutOfBoundsException") w) (hXs : Q (.inr "java/lang/IllegalStateException") w) (hQ : ∀ v : Int32, Q (.inl (some (.int v))) w) : WP (MX1_likes g) Q (0, [some (.ref x), some (.int a0)], [], w, 0, 0) := by
  obtain ⟨n, rf, md, f, gc, gl, hx, hn, hc, hl, hgc, hgl, hn0, hn1, rx, rn, rc, rl, ⟨d1, d2, d3, d4, d5, d6⟩, ⟨d7, d8, d9, d10, d11, d12⟩⟩ := hC.1.opn g
  repeat' first
    | with_reducible assumption
    | with_reducible refine And.intro ?_ ?_
    | with_reducible exact vpi6 (by assumption) (by assumption)
    | with_reducible exact vpi8 (by assumption) (by assumption)
    | with_reducible refine sX1_rangeOf2 (by first | assumption | exact CC.ext (by assumption) (by assumption)) ?_ ?_ ?_
    | with_reducible refine sX1_cardsLike (by first | assumption | exact CC.ext (by assumption) (by assumption)) (by first | assumption | exact hgc _ _ (by assumption) | exact hgl _ _ (by assumption) | exact isR.ext (by assumption) (by assumption) | exact isR.mono (by assumption) (by first | assumption | exact isR.ext (by assumption) (by assumption)) | exact isR_up2 (by first | assumption | exact hgc _ _ (by assumption)) hc (by simp)) ?_
    | with_reducible refine go_R (by first | assumption | exact hgc _ _ (by assumption) | exact hgl _ _ (by assumption) | exact isR.ext (by assumption) (by assumption) | exact isR.mono (by assumption) (by first | assumption | exact isR.ext (by assumption) (by assumption)) | exact isR_up2 (by first | assumption | exact hgc _ _ (by assumption)) hc (by simp)) ?_
    | with_reducible exact hQ _
    | simp only [eX1_likes_0, eX1_likes_0N, eX1_likes_1, eX1_likes_1N, eX1_likes_2, eX1_likes_3, eX1_likes_6R, eX1_likes_6N, eX1_likes_9, rx, rn, rc, rl, hx, hn, hc, hl, d1, d2, d3, d4, d5, d6, d7, d8, d9, d10, d11, d12, rd_n, upw_n, ite_le, n45, n54, true_or, or_true, false_or, or_false, false_and, and_false, kx_l, kx_r, go_s, gl_s, gi_s, gb_s2, gb_s3, gq_s, wt_nil, wt_int, wt_long, wt_ref, wt_null, nl_int, nl_long, nl_ref, nl_null, nl_none, rf_n, rf_s, rf_st, tl_s, tl_n, g0, gS, ex1, nb_b, nb_0, nb_1, nf_i, nf_l, nf_ra, nf_ro, nf_na, nf_no, nf_b0, nf_z0, t45_4, t45_5, true_and, and_true, List.set_cons_zero, List.set_cons_succ, List.length_cons, List.length_nil, rd_s, upw_s, ne_eq, not_false_eq_true, Nat.zero_add, Nat.add_zero]
    | split
    | with_reducible intro _
    | omega
set_option maxHeartbeats 4000000 in
theorem sX1_pile {a0 : Int32} {a1 : Int32} (hC : CC g w0 x nA cA lA kn w) (hXo : Q (.inr "java/lang/IndexOutOfBoundsException") w) (hXa : Q (.inr "java/lang/IllegalArgumentException") w) (hQ : ∀ v : Int32, Q (.inl (some (.int v))) w) : WP (MX1_pile g) Q (0, [some (.ref x), some (.int a0), some (.int a1)], [], w, 0, 0) := by
  obtain ⟨n, rf, md, f, gc, gl, hx, hn, hc, hl, hgc, hgl, hn0, hn1, rx, rn, rc, rl, ⟨d1, d2, d3, d4, d5, d6⟩, ⟨d7, d8, d9, d10, d11, d12⟩⟩ := hC.1.opn g
  repeat' first
    | with_reducible assumption
    | with_reducible refine And.intro ?_ ?_
    | with_reducible exact vpi6 (by assumption) (by assumption)
    | with_reducible exact vpi8 (by assumption) (by assumption)
    | with_reducible refine sX1_needNumber ?_ ?_
    | with_reducible refine sX1_needChoice ?_ ?_
    | with_reducible refine sX1_pileCount (by first | assumption | exact CC.ext (by assumption) (by assumption)) ?_
    | with_reducible refine go_R (by first | assumption | exact hgc _ _ (by assumption) | exact hgl _ _ (by assumption) | exact isR.ext (by assumption) (by assumption) | exact isR.mono (by assumption) (by first | assumption | exact isR.ext (by assumption) (by assumption)) | exact isR_up2 (by first | assumption | exact hgc _ _ (by assumption)) hc (by simp)) ?_
    | with_reducible exact hQ _
    | simp only [eX1_pile_0, eX1_pile_1, eX1_pile_4, eX1_pile_5, eX1_pile_6, eX1_pile_9, eX1_pile_9N, eX1_pile_10, eX1_pile_10N, eX1_pile_11, eX1_pile_14, eX1_pile_15, eX1_pile_16, eX1_pile_17, eX1_pile_20, rx, rn, rc, rl, hx, hn, hc, hl, d1, d2, d3, d4, d5, d6, d7, d8, d9, d10, d11, d12, rd_n, upw_n, ite_le, n45, n54, true_or, or_true, false_or, or_false, false_and, and_false, kx_l, kx_r, go_s, gl_s, gi_s, gb_s2, gb_s3, gq_s, wt_nil, wt_int, wt_long, wt_ref, wt_null, nl_int, nl_long, nl_ref, nl_null, nl_none, rf_n, rf_s, rf_st, tl_s, tl_n, g0, gS, ex1, nb_b, nb_0, nb_1, nf_i, nf_l, nf_ra, nf_ro, nf_na, nf_no, nf_b0, nf_z0, t45_4, t45_5, true_and, and_true, List.set_cons_zero, List.set_cons_succ, List.length_cons, List.length_nil, rd_s, upw_s, ne_eq, not_false_eq_true, Nat.zero_add, Nat.add_zero]
    | split
    | with_reducible intro _
    | omega
set_option maxHeartbeats 4000000 in
theorem sX1_house {a0 : Int32} (hC : CC g w0 x nA cA lA kn w) (hXa : Q (.inr "java/lang/IllegalArgumentException") w) (hQ : ∀ v : Int32, Q (.inl (some (.int v))) w) : WP (MX1_house g) Q (0, [some (.ref x), some (.int a0)], [], w, 0, 0) := by
  obtain ⟨n, rf, md, f, gc, gl, hx, hn, hc, hl, hgc, hgl, hn0, hn1, rx, rn, rc, rl, ⟨d1, d2, d3, d4, d5, d6⟩, ⟨d7, d8, d9, d10, d11, d12⟩⟩ := hC.1.opn g
  repeat' first
    | with_reducible assumption
    | with_reducible refine And.intro ?_ ?_
    | with_reducible exact vpi6 (by assumption) (by assumption)
    | with_reducible exact vpi8 (by assumption) (by assumption)
    | with_reducible refine sX1_needChoice ?_ ?_
    | with_reducible refine sX1_houseCount (by first | assumption | exact CC.ext (by assumption) (by assumption)) ?_
    | with_reducible refine go_R (by first | assumption | exact hgc _ _ (by assumption) | exact hgl _ _ (by assumption) | exact isR.ext (by assumption) (by assumption) | exact isR.mono (by assumption) (by first | assumption | exact isR.ext (by assumption) (by assumption)) | exact isR_up2 (by first | assumption | exact hgc _ _ (by assumption)) hc (by simp)) ?_
    | with_reducible exact hQ _
    | simp only [eX1_house_0, eX1_house_1, eX1_house_2, eX1_house_5, eX1_house_5N, eX1_house_6, eX1_house_7, eX1_house_10, rx, rn, rc, rl, hx, hn, hc, hl, d1, d2, d3, d4, d5, d6, d7, d8, d9, d10, d11, d12, rd_n, upw_n, ite_le, n45, n54, true_or, or_true, false_or, or_false, false_and, and_false, kx_l, kx_r, go_s, gl_s, gi_s, gb_s2, gb_s3, gq_s, wt_nil, wt_int, wt_long, wt_ref, wt_null, nl_int, nl_long, nl_ref, nl_null, nl_none, rf_n, rf_s, rf_st, tl_s, tl_n, g0, gS, ex1, nb_b, nb_0, nb_1, nf_i, nf_l, nf_ra, nf_ro, nf_na, nf_no, nf_b0, nf_z0, t45_4, t45_5, true_and, and_true, List.set_cons_zero, List.set_cons_succ, List.length_cons, List.length_nil, rd_s, upw_s, ne_eq, not_false_eq_true, Nat.zero_add, Nat.add_zero]
    | split
    | with_reducible intro _
    | omega
end
end
/-! 67.24.sound0.lean.txt -/
section
section
variable {g : RO} {Q : Ot → Hw → Prop} {w0 w : Hw} {x nA cA lA : Nat} {kn : Int32}
set_option maxHeartbeats 4000000 in
theorem sX1_isLikeItsCopy {a0 : Nat} (h0 : isR w a0) (hQ : ∀ (v : Bool) (w' : Hw), ext g w w' → Q (.inl (some (.int (bI v)))) w') : WP (MX1_isLikeItsCopy g) Q (0, [some (.ref a0), none], [], w, 0, 0) := by
  have hQt : ∀ w', ext g w w' → Q (.inl (some (.int 1))) w' := hQ true
  have hQf : ∀ w', ext g w w' → Q (.inl (some (.int 0))) w' := hQ false
  repeat' first
    | with_reducible assumption
    | with_reducible refine And.intro ?_ ?_
    | with_reducible exact vpi6 (by assumption) (by assumption)
    | with_reducible exact vpi8 (by assumption) (by assumption)
    | with_reducible exact hQ _ _ (by repeat' first | assumption | exact ext.rf | refine ext.tr (by assumption) ?_)
    | with_reducible exact hQt _ (by repeat' first | assumption | exact ext.rf | refine ext.tr (by assumption) ?_)
    | with_reducible exact hQf _ (by repeat' first | assumption | exact ext.rf | refine ext.tr (by assumption) ?_)
    | with_reducible refine go_R (by first | assumption | exact hgc _ _ (by assumption) | exact hgl _ _ (by assumption) | exact isR.ext (by assumption) (by repeat' first | assumption | exact ext.rf | refine ext.tr (by assumption) ?_) | exact isR.ext (hgc _ _ (by assumption)) (by repeat' first | assumption | exact ext.rf | refine ext.tr (by assumption) ?_)) ?_
    | with_reducible refine sX1_copyOf (by first | assumption | exact hgc _ _ (by assumption) | exact hgl _ _ (by assumption) | exact isR.ext (by assumption) (by repeat' first | assumption | exact ext.rf | refine ext.tr (by assumption) ?_) | exact isR.ext (hgc _ _ (by assumption)) (by repeat' first | assumption | exact ext.rf | refine ext.tr (by assumption) ?_)) ?_ ?_
    | with_reducible refine sX0_matchesR (by first | assumption | exact hgc _ _ (by assumption) | exact hgl _ _ (by assumption) | exact isR.ext (by assumption) (by repeat' first | assumption | exact ext.rf | refine ext.tr (by assumption) ?_) | exact isR.ext (hgc _ _ (by assumption)) (by repeat' first | assumption | exact ext.rf | refine ext.tr (by assumption) ?_)) (by first | assumption | exact hgc _ _ (by assumption) | exact hgl _ _ (by assumption) | exact isR.ext (by assumption) (by repeat' first | assumption | exact ext.rf | refine ext.tr (by assumption) ?_) | exact isR.ext (hgc _ _ (by assumption)) (by repeat' first | assumption | exact ext.rf | refine ext.tr (by assumption) ?_)) ?_
    | with_reducible refine sX0_matchesN (by first | assumption | exact hgc _ _ (by assumption) | exact hgl _ _ (by assumption) | exact isR.ext (by assumption) (by repeat' first | assumption | exact ext.rf | refine ext.tr (by assumption) ?_) | exact isR.ext (hgc _ _ (by assumption)) (by repeat' first | assumption | exact ext.rf | refine ext.tr (by assumption) ?_)) ?_
    | with_reducible refine sX0_hash (by first | assumption | exact hgc _ _ (by assumption) | exact hgl _ _ (by assumption) | exact isR.ext (by assumption) (by repeat' first | assumption | exact ext.rf | refine ext.tr (by assumption) ?_) | exact isR.ext (hgc _ _ (by assumption)) (by repeat' first | assumption | exact ext.rf | refine ext.tr (by assumption) ?_)) ?_
    | with_reducible refine go_R (by assumption) ?_
    | with_reducible exact hQ _ _ (by first | assumption | exact ext.rf | exact ext.tr (by assumption) (by assumption))
    | with_reducible exact hQt _ (by first | assumption | exact ext.rf | exact ext.tr (by assumption) (by assumption))
    | with_reducible exact hQf _ (by first | assumption | exact ext.rf | exact ext.tr (by assumption) (by assumption))
    | simp only [eX1_isLikeItsCopy_0, eX1_isLikeItsCopy_0N, eX1_isLikeItsCopy_1R, eX1_isLikeItsCopy_1N, eX1_isLikeItsCopy_4, eX1_isLikeItsCopy_4N, eX1_isLikeItsCopy_5, eX1_isLikeItsCopy_5N, eX1_isLikeItsCopy_6R, eX1_isLikeItsCopy_6N, eX1_isLikeItsCopy_9, eX1_isLikeItsCopy_9N, eX1_isLikeItsCopy_10, eX1_isLikeItsCopy_10N, eX1_isLikeItsCopy_11R, eX1_isLikeItsCopy_11N, eX1_isLikeItsCopy_14, eX1_isLikeItsCopy_17, eX1_isLikeItsCopy_17N, eX1_isLikeItsCopy_18, eX1_isLikeItsCopy_18N, eX1_isLikeItsCopy_19R, eX1_isLikeItsCopy_19N, eX1_isLikeItsCopy_22, eX1_isLikeItsCopy_25, eX1_isLikeItsCopy_25N, eX1_isLikeItsCopy_26, eX1_isLikeItsCopy_29, eX1_isLikeItsCopy_29N, eX1_isLikeItsCopy_30, eX1_isLikeItsCopy_33, eX1_isLikeItsCopy_34, eX1_isLikeItsCopy_37, eX1_isLikeItsCopy_38, eX1_isLikeItsCopy_41, eX1_isLikeItsCopy_42, ite_le, n45, n54, true_or, or_true, false_or, or_false, false_and, and_false, kx_l, kx_r, go_s, gl_s, gi_s, gb_s2, gb_s3, gq_s, wt_nil, wt_int, wt_long, wt_ref, wt_null, nl_int, nl_long, nl_ref, nl_null, nl_none, rf_n, rf_s, rf_st, tl_s, tl_n, g0, gS, ex1, nb_b, nb_0, nb_1, nf_i, nf_l, nf_ra, nf_ro, nf_na, nf_no, nf_b0, nf_z0, t45_4, t45_5, true_and, and_true, List.set_cons_zero, List.set_cons_succ, List.length_cons, List.length_nil, rd_s, upw_s, ne_eq, not_false_eq_true, Nat.zero_add, Nat.add_zero]
    | split
    | with_reducible intro _
    | omega
set_option maxHeartbeats 4000000 in
theorem sX1_isDrawnSound {a0 : Nat} (hC : CC g w0 x nA cA lA kn w) (h0 : isR w a0) (hQ : ∀ (v : Bool) (w' : Hw), ext g w w' → Q (.inl (some (.int (bI v)))) w') : WP (MX1_isDrawnSound g) Q (0, [some (.ref x), some (.ref a0), none, none], [], w, 0, 0) := by
  obtain ⟨n, rf, md, f, gc, gl, hx, hn, hc, hl, hgc, hgl, hn0, hn1, rx, rn, rc, rl, ⟨d1, d2, d3, d4, d5, d6⟩, ⟨d7, d8, d9, d10, d11, d12⟩⟩ := hC.1.opn g
  have hQt : ∀ w', ext g w w' → Q (.inl (some (.int 1))) w' := hQ true
  have hQf : ∀ w', ext g w w' → Q (.inl (some (.int 0))) w' := hQ false
  repeat' first
    | with_reducible assumption
    | with_reducible refine And.intro ?_ ?_
    | with_reducible exact vpi6 (by assumption) (by assumption)
    | with_reducible exact vpi8 (by assumption) (by assumption)
    | with_reducible exact hQ _ _ (by repeat' first | assumption | exact ext.rf | refine ext.tr (by assumption) ?_)
    | with_reducible exact hQt _ (by repeat' first | assumption | exact ext.rf | refine ext.tr (by assumption) ?_)
    | with_reducible exact hQf _ (by repeat' first | assumption | exact ext.rf | refine ext.tr (by assumption) ?_)
    | with_reducible exact go_C (by first | assumption | exact CC.ext hC (by repeat' first | assumption | exact ext.rf | refine ext.tr (by assumption) ?_))
    | with_reducible refine go_R (by first | assumption | exact hgc _ _ (by assumption) | exact hgl _ _ (by assumption) | exact isR.ext (by assumption) (by repeat' first | assumption | exact ext.rf | refine ext.tr (by assumption) ?_) | exact isR.ext (hgc _ _ (by assumption)) (by repeat' first | assumption | exact ext.rf | refine ext.tr (by assumption) ?_)) ?_
    | with_reducible refine sX0_ofFour ?_ ?_
    | with_reducible refine sX1_hasSameValidR (by first | assumption | exact CC.ext hC (by repeat' first | assumption | exact ext.rf | refine ext.tr (by assumption) ?_)) (by first | assumption | exact hgc _ _ (by assumption) | exact hgl _ _ (by assumption) | exact isR.ext (by assumption) (by repeat' first | assumption | exact ext.rf | refine ext.tr (by assumption) ?_) | exact isR.ext (hgc _ _ (by assumption)) (by repeat' first | assumption | exact ext.rf | refine ext.tr (by assumption) ?_)) (by first | assumption | exact hgc _ _ (by assumption) | exact hgl _ _ (by assumption) | exact isR.ext (by assumption) (by repeat' first | assumption | exact ext.rf | refine ext.tr (by assumption) ?_) | exact isR.ext (hgc _ _ (by assumption)) (by repeat' first | assumption | exact ext.rf | refine ext.tr (by assumption) ?_)) ?_
    | with_reducible refine sX1_hasSameValidN (by first | assumption | exact CC.ext hC (by repeat' first | assumption | exact ext.rf | refine ext.tr (by assumption) ?_)) (by first | assumption | exact hgc _ _ (by assumption) | exact hgl _ _ (by assumption) | exact isR.ext (by assumption) (by repeat' first | assumption | exact ext.rf | refine ext.tr (by assumption) ?_) | exact isR.ext (hgc _ _ (by assumption)) (by repeat' first | assumption | exact ext.rf | refine ext.tr (by assumption) ?_)) ?_
    | with_reducible refine go_R (by first | assumption | exact hgc _ _ (by assumption) | exact hgl _ _ (by assumption) | exact isR.ext (by assumption) (by repeat' first | assumption | exact ext.rf | refine ext.tr (by assumption) ?_) | exact isR.ext (hgc _ _ (by assumption)) (by repeat' first | assumption | exact ext.rf | refine ext.tr (by assumption) ?_)) ?_
    | with_reducible exact hQ _ _ (by first | assumption | exact ext.rf | exact ext.tr (by assumption) (by assumption))
    | with_reducible exact hQt _ (by first | assumption | exact ext.rf | exact ext.tr (by assumption) (by assumption))
    | with_reducible exact hQf _ (by first | assumption | exact ext.rf | exact ext.tr (by assumption) (by assumption))
    | simp only [eX1_isDrawnSound_0, eX1_isDrawnSound_0N, eX1_isDrawnSound_1, eX1_isDrawnSound_4, eX1_isDrawnSound_4N, eX1_isDrawnSound_5, eX1_isDrawnSound_8, eX1_isDrawnSound_8N, eX1_isDrawnSound_9, eX1_isDrawnSound_12, eX1_isDrawnSound_12N, eX1_isDrawnSound_13, eX1_isDrawnSound_16, eX1_isDrawnSound_19, eX1_isDrawnSound_19N, eX1_isDrawnSound_20, eX1_isDrawnSound_20N, eX1_isDrawnSound_21, eX1_isDrawnSound_24, eX1_isDrawnSound_24N, eX1_isDrawnSound_25, eX1_isDrawnSound_28, eX1_isDrawnSound_28N, eX1_isDrawnSound_29, eX1_isDrawnSound_32, eX1_isDrawnSound_32N, eX1_isDrawnSound_33, eX1_isDrawnSound_36, eX1_isDrawnSound_39, eX1_isDrawnSound_39N, eX1_isDrawnSound_40, eX1_isDrawnSound_40N, eX1_isDrawnSound_41, eX1_isDrawnSound_41N, eX1_isDrawnSound_42, eX1_isDrawnSound_42N, eX1_isDrawnSound_43RR, eX1_isDrawnSound_43NR, eX1_isDrawnSound_43RN, eX1_isDrawnSound_43NN, eX1_isDrawnSound_46, eX1_isDrawnSound_49, eX1_isDrawnSound_49N, eX1_isDrawnSound_50, eX1_isDrawnSound_50N, eX1_isDrawnSound_51, eX1_isDrawnSound_51N, eX1_isDrawnSound_52RR, eX1_isDrawnSound_52NR, eX1_isDrawnSound_52RN, eX1_isDrawnSound_52NN, eX1_isDrawnSound_55, eX1_isDrawnSound_58, eX1_isDrawnSound_59, eX1_isDrawnSound_62, eX1_isDrawnSound_63, rx, rn, rc, rl, hx, hn, hc, hl, d1, d2, d3, d4, d5, d6, d7, d8, d9, d10, d11, d12, rd_n, upw_n, ite_le, n45, n54, true_or, or_true, false_or, or_false, false_and, and_false, kx_l, kx_r, go_s, gl_s, gi_s, gb_s2, gb_s3, gq_s, wt_nil, wt_int, wt_long, wt_ref, wt_null, nl_int, nl_long, nl_ref, nl_null, nl_none, rf_n, rf_s, rf_st, tl_s, tl_n, g0, gS, ex1, nb_b, nb_0, nb_1, nf_i, nf_l, nf_ra, nf_ro, nf_na, nf_no, nf_b0, nf_z0, t45_4, t45_5, true_and, and_true, List.set_cons_zero, List.set_cons_succ, List.length_cons, List.length_nil, rd_s, upw_s, ne_eq, not_false_eq_true, Nat.zero_add, Nat.add_zero]
    | split
    | with_reducible intro _
    | omega
set_option maxHeartbeats 4000000 in
theorem sX1_isSoundAlone {a0 : Nat} (hC : CC g w0 x nA cA lA kn w) (h0 : isR w a0) (hQ : ∀ (v : Bool) (w' : Hw), ext g w w' → Q (.inl (some (.int (bI v)))) w') : WP (MX1_isSoundAlone g) Q (0, [some (.ref x), some (.ref a0)], [], w, 0, 0) := by
  obtain ⟨n, rf, md, f, gc, gl, hx, hn, hc, hl, hgc, hgl, hn0, hn1, rx, rn, rc, rl, ⟨d1, d2, d3, d4, d5, d6⟩, ⟨d7, d8, d9, d10, d11, d12⟩⟩ := hC.1.opn g
  have hQt : ∀ w', ext g w w' → Q (.inl (some (.int 1))) w' := hQ true
  have hQf : ∀ w', ext g w w' → Q (.inl (some (.int 0))) w' := hQ false
  repeat' first
    | with_reducible assumption
    | with_reducible refine And.intro ?_ ?_
    | with_reducible exact vpi6 (by assumption) (by assumption)
    | with_reducible exact vpi8 (by assumption) (by assumption)
    | with_reducible exact hQ _ _ (by repeat' first | assumption | exact ext.rf | refine ext.tr (by assumption) ?_)
    | with_reducible exact hQt _ (by repeat' first | assumption | exact ext.rf | refine ext.tr (by assumption) ?_)
    | with_reducible exact hQf _ (by repeat' first | assumption | exact ext.rf | refine ext.tr (by assumption) ?_)
    | with_reducible exact go_C (by first | assumption | exact CC.ext hC (by repeat' first | assumption | exact ext.rf | refine ext.tr (by assumption) ?_))
    | with_reducible refine go_R (by first | assumption | exact hgc _ _ (by assumption) | exact hgl _ _ (by assumption) | exact isR.ext (by assumption) (by repeat' first | assumption | exact ext.rf | refine ext.tr (by assumption) ?_) | exact isR.ext (hgc _ _ (by assumption)) (by repeat' first | assumption | exact ext.rf | refine ext.tr (by assumption) ?_)) ?_
    | with_reducible refine sX1_isLikeItsCopy (by first | assumption | exact hgc _ _ (by assumption) | exact hgl _ _ (by assumption) | exact isR.ext (by assumption) (by repeat' first | assumption | exact ext.rf | refine ext.tr (by assumption) ?_) | exact isR.ext (hgc _ _ (by assumption)) (by repeat' first | assumption | exact ext.rf | refine ext.tr (by assumption) ?_)) ?_
    | with_reducible refine sX0_isSettled (by first | assumption | exact hgc _ _ (by assumption) | exact hgl _ _ (by assumption) | exact isR.ext (by assumption) (by repeat' first | assumption | exact ext.rf | refine ext.tr (by assumption) ?_) | exact isR.ext (hgc _ _ (by assumption)) (by repeat' first | assumption | exact ext.rf | refine ext.tr (by assumption) ?_)) ?_
    | with_reducible refine sX1_outerOf (by first | assumption | exact hgc _ _ (by assumption) | exact hgl _ _ (by assumption) | exact isR.ext (by assumption) (by repeat' first | assumption | exact ext.rf | refine ext.tr (by assumption) ?_) | exact isR.ext (hgc _ _ (by assumption)) (by repeat' first | assumption | exact ext.rf | refine ext.tr (by assumption) ?_)) ?_ ?_
    | with_reducible refine sX0_matchesR (by first | assumption | exact hgc _ _ (by assumption) | exact hgl _ _ (by assumption) | exact isR.ext (by assumption) (by repeat' first | assumption | exact ext.rf | refine ext.tr (by assumption) ?_) | exact isR.ext (hgc _ _ (by assumption)) (by repeat' first | assumption | exact ext.rf | refine ext.tr (by assumption) ?_)) (by first | assumption | exact hgc _ _ (by assumption) | exact hgl _ _ (by assumption) | exact isR.ext (by assumption) (by repeat' first | assumption | exact ext.rf | refine ext.tr (by assumption) ?_) | exact isR.ext (hgc _ _ (by assumption)) (by repeat' first | assumption | exact ext.rf | refine ext.tr (by assumption) ?_)) ?_
    | with_reducible refine sX0_matchesN (by first | assumption | exact hgc _ _ (by assumption) | exact hgl _ _ (by assumption) | exact isR.ext (by assumption) (by repeat' first | assumption | exact ext.rf | refine ext.tr (by assumption) ?_) | exact isR.ext (hgc _ _ (by assumption)) (by repeat' first | assumption | exact ext.rf | refine ext.tr (by assumption) ?_)) ?_
    | with_reducible refine sX1_isOuterSound (by first | assumption | exact hgc _ _ (by assumption) | exact hgl _ _ (by assumption) | exact isR.ext (by assumption) (by repeat' first | assumption | exact ext.rf | refine ext.tr (by assumption) ?_) | exact isR.ext (hgc _ _ (by assumption)) (by repeat' first | assumption | exact ext.rf | refine ext.tr (by assumption) ?_)) ?_
    | with_reducible refine sX1_isEachEndHeld (by first | assumption | exact hgc _ _ (by assumption) | exact hgl _ _ (by assumption) | exact isR.ext (by assumption) (by repeat' first | assumption | exact ext.rf | refine ext.tr (by assumption) ?_) | exact isR.ext (hgc _ _ (by assumption)) (by repeat' first | assumption | exact ext.rf | refine ext.tr (by assumption) ?_)) ?_
    | with_reducible refine sX1_isDrawnSound (by first | assumption | exact CC.ext hC (by repeat' first | assumption | exact ext.rf | refine ext.tr (by assumption) ?_)) (by first | assumption | exact hgc _ _ (by assumption) | exact hgl _ _ (by assumption) | exact isR.ext (by assumption) (by repeat' first | assumption | exact ext.rf | refine ext.tr (by assumption) ?_) | exact isR.ext (hgc _ _ (by assumption)) (by repeat' first | assumption | exact ext.rf | refine ext.tr (by assumption) ?_)) ?_
    | with_reducible refine go_R (by first | assumption | exact hgc _ _ (by assumption) | exact hgl _ _ (by assumption) | exact isR.ext (by assumption) (by repeat' first | assumption | exact ext.rf | refine ext.tr (by assumption) ?_) | exact isR.ext (hgc _ _ (by assumption)) (by repeat' first | assumption | exact ext.rf | refine ext.tr (by assumption) ?_)) ?_
    | with_reducible exact hQ _ _ (by first | assumption | exact ext.rf | exact ext.tr (by assumption) (by assumption))
    | with_reducible exact hQt _ (by first | assumption | exact ext.rf | exact ext.tr (by assumption) (by assumption))
    | with_reducible exact hQf _ (by first | assumption | exact ext.rf | exact ext.tr (by assumption) (by assumption))
    | simp only [eX1_isSoundAlone_0, eX1_isSoundAlone_0N, eX1_isSoundAlone_1R, eX1_isSoundAlone_1N, eX1_isSoundAlone_4, eX1_isSoundAlone_7, eX1_isSoundAlone_7N, eX1_isSoundAlone_8, eX1_isSoundAlone_11, eX1_isSoundAlone_11N, eX1_isSoundAlone_12, eX1_isSoundAlone_12N, eX1_isSoundAlone_13R, eX1_isSoundAlone_13N, eX1_isSoundAlone_16R, eX1_isSoundAlone_16N, eX1_isSoundAlone_19, eX1_isSoundAlone_22, eX1_isSoundAlone_22N, eX1_isSoundAlone_23R, eX1_isSoundAlone_23N, eX1_isSoundAlone_26, eX1_isSoundAlone_29, eX1_isSoundAlone_29N, eX1_isSoundAlone_30R, eX1_isSoundAlone_30N, eX1_isSoundAlone_33, eX1_isSoundAlone_36, eX1_isSoundAlone_36N, eX1_isSoundAlone_37, eX1_isSoundAlone_37N, eX1_isSoundAlone_38R, eX1_isSoundAlone_38N, eX1_isSoundAlone_41, eX1_isSoundAlone_44, eX1_isSoundAlone_45, eX1_isSoundAlone_48, eX1_isSoundAlone_49, rx, rn, rc, rl, hx, hn, hc, hl, d1, d2, d3, d4, d5, d6, d7, d8, d9, d10, d11, d12, rd_n, upw_n, ite_le, n45, n54, true_or, or_true, false_or, or_false, false_and, and_false, kx_l, kx_r, go_s, gl_s, gi_s, gb_s2, gb_s3, gq_s, wt_nil, wt_int, wt_long, wt_ref, wt_null, nl_int, nl_long, nl_ref, nl_null, nl_none, rf_n, rf_s, rf_st, tl_s, tl_n, g0, gS, ex1, nb_b, nb_0, nb_1, nf_i, nf_l, nf_ra, nf_ro, nf_na, nf_no, nf_b0, nf_z0, t45_4, t45_5, true_and, and_true, List.set_cons_zero, List.set_cons_succ, List.length_cons, List.length_nil, rd_s, upw_s, ne_eq, not_false_eq_true, Nat.zero_add, Nat.add_zero]
    | split
    | with_reducible intro _
    | omega
end
end
