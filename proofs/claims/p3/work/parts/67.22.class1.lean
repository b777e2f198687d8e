section
variable {g : RO} {Q : Ot → Hw → Prop} {w0 w : Hw} {x nA cA lA : Nat} {kn : Int32}
set_option maxHeartbeats 4000000 in
theorem lX1_holdersOf_6 {a0 : Int64} {a1 : Int32} (hC : CC g w0 x nA cA lA kn w) (hQ : ∀ v : Int32, Q (.inl (some (.int v))) w) : ∀ (n rf md : Int32) (f : Nat → Int64) (gc gl : Nat → Option Nat), RO5 g w x nA cA lA n rf kn md f gc gl → ∀ (d : Nat) (i4 : Int32) (i5 : Int32) (i6 : Option Value) (k m : Nat), ¬ i5 < 0 → (6 : Int32).toInt - i5.toInt ≤ (d : Int) → k ≤ 0 → m ≤ 0 → WP (MX1_holdersOf g) Q (6, [some (.ref x), some (.long a0), none, some (.int a1), some (.int i4), some (.int i5), i6], [], w, k, m) := by
  rintro n rf md f gc gl ⟨hx, hn, hc, hl, hgc, hgl, hn0, hn1, rx, rn, rc, rl, ⟨d1, d2, d3, d4, d5, d6⟩, ⟨d7, d8, d9, d10, d11, d12⟩⟩ d
  induction d with
  | zero =>
    intro i4 i5 i6 k m z0 hm hk hs
    rw [eX1_holdersOf_6]
    repeat' first
      | with_reducible assumption
      | with_reducible refine And.intro ?_ ?_
      | with_reducible exact vpi6 (by assumption) (by assumption)
      | with_reducible exact vpi8 (by assumption) (by assumption)
      | with_reducible exact (ic_z (by assumption) (by assumption)).elim
      | with_reducible exact vpi12 (by assumption) (by assumption) (by assumption)
      | with_reducible refine sX0_holdsAs (by first | assumption | exact hgc _ _ (by assumption) | exact hgl _ _ (by assumption) | exact isR.ext (by assumption) (by assumption)) ?_
      | with_reducible refine go_R (by first | assumption | exact hgc _ _ (by assumption) | exact hgl _ _ (by assumption) | exact isR.ext (by assumption) (by assumption)) ?_
      | with_reducible exact hQ _
      | simp only [eX1_holdersOf_0, eX1_holdersOf_1, eX1_holdersOf_3, eX1_holdersOf_4, eX1_holdersOf_8, eX1_holdersOf_10, eX1_holdersOf_13, eX1_holdersOf_13N, eX1_holdersOf_14, eX1_holdersOf_17, eX1_holdersOf_19, eX1_holdersOf_20, eX1_holdersOf_20N, eX1_holdersOf_22, eX1_holdersOf_22N, eX1_holdersOf_24R, eX1_holdersOf_24N, eX1_holdersOf_27, eX1_holdersOf_27N, eX1_holdersOf_29, eX1_holdersOf_30, eX1_holdersOf_31, eX1_holdersOf_34, eX1_holdersOf_37, eX1_holdersOf_39, eX1_holdersOf_40, eX1_holdersOf_42, eX1_holdersOf_43, eX1_holdersOf_44, eX1_holdersOf_46, eX1_holdersOf_49, eX1_holdersOf_52, eX1_holdersOf_54, rx, rn, rc, rl, hx, hn, hc, hl, d1, d2, d3, d4, d5, d6, d7, d8, d9, d10, d11, d12, rd_n, upw_n, ite_le, n45, n54, true_or, or_true, false_or, or_false, false_and, and_false, kx_l, kx_r, go_s, gl_s, gi_s, gb_s2, gb_s3, gq_s, wt_nil, wt_int, wt_long, wt_ref, wt_null, nl_int, nl_long, nl_ref, nl_null, nl_none, rf_n, rf_s, rf_st, tl_s, tl_n, g0, gS, ex1, nb_b, nb_0, nb_1, nf_i, nf_l, nf_ra, nf_ro, nf_na, nf_no, nf_b0, nf_z0, t45_4, t45_5, true_and, and_true, List.set_cons_zero, List.set_cons_succ, List.length_cons, List.length_nil, rd_s, upw_s, ne_eq, not_false_eq_true, Nat.zero_add, Nat.add_zero]
      | split
      | with_reducible intro _
      | omega
  | succ d ih =>
    intro i4 i5 i6 k m z0 hm hk hs
    rw [eX1_holdersOf_6]
    repeat' first
      | with_reducible assumption
      | with_reducible refine And.intro ?_ ?_
      | with_reducible exact vpi6 (by assumption) (by assumption)
      | with_reducible exact vpi8 (by assumption) (by assumption)
      | with_reducible exact ih _ _ _ _ _ (ic_p (by assumption) (by assumption)) (ic_s (by assumption) (by assumption)) (by first | assumption | omega) (by first | assumption | omega)
      | with_reducible exact vpi12 (by assumption) (by assumption) (by assumption)
      | with_reducible refine sX0_holdsAs (by first | assumption | exact hgc _ _ (by assumption) | exact hgl _ _ (by assumption) | exact isR.ext (by assumption) (by assumption)) ?_
      | with_reducible refine go_R (by first | assumption | exact hgc _ _ (by assumption) | exact hgl _ _ (by assumption) | exact isR.ext (by assumption) (by assumption)) ?_
      | with_reducible exact hQ _
      | simp only [eX1_holdersOf_0, eX1_holdersOf_1, eX1_holdersOf_3, eX1_holdersOf_4, eX1_holdersOf_8, eX1_holdersOf_10, eX1_holdersOf_13, eX1_holdersOf_13N, eX1_holdersOf_14, eX1_holdersOf_17, eX1_holdersOf_19, eX1_holdersOf_20, eX1_holdersOf_20N, eX1_holdersOf_22, eX1_holdersOf_22N, eX1_holdersOf_24R, eX1_holdersOf_24N, eX1_holdersOf_27, eX1_holdersOf_27N, eX1_holdersOf_29, eX1_holdersOf_30, eX1_holdersOf_31, eX1_holdersOf_34, eX1_holdersOf_37, eX1_holdersOf_39, eX1_holdersOf_40, eX1_holdersOf_42, eX1_holdersOf_43, eX1_holdersOf_44, eX1_holdersOf_46, eX1_holdersOf_49, eX1_holdersOf_52, eX1_holdersOf_54, rx, rn, rc, rl, hx, hn, hc, hl, d1, d2, d3, d4, d5, d6, d7, d8, d9, d10, d11, d12, rd_n, upw_n, ite_le, n45, n54, true_or, or_true, false_or, or_false, false_and, and_false, kx_l, kx_r, go_s, gl_s, gi_s, gb_s2, gb_s3, gq_s, wt_nil, wt_int, wt_long, wt_ref, wt_null, nl_int, nl_long, nl_ref, nl_null, nl_none, rf_n, rf_s, rf_st, tl_s, tl_n, g0, gS, ex1, nb_b, nb_0, nb_1, nf_i, nf_l, nf_ra, nf_ro, nf_na, nf_no, nf_b0, nf_z0, t45_4, t45_5, true_and, and_true, List.set_cons_zero, List.set_cons_succ, List.length_cons, List.length_nil, rd_s, upw_s, ne_eq, not_false_eq_true, Nat.zero_add, Nat.add_zero]
      | split
      | with_reducible intro _
      | omega
set_option maxHeartbeats 4000000 in
theorem sX1_holdersOf {a0 : Int64} {a1 : Int32} (hC : CC g w0 x nA cA lA kn w) (hQ : ∀ v : Int32, Q (.inl (some (.int v))) w) : WP (MX1_holdersOf g) Q (0, [some (.ref x), some (.long a0), none, some (.int a1), none, none, none], [], w, 0, 0) := by
  obtain ⟨n, rf, md, f, gc, gl, hx, hn, hc, hl, hgc, hgl, hn0, hn1, rx, rn, rc, rl, ⟨d1, d2, d3, d4, d5, d6⟩, ⟨d7, d8, d9, d10, d11, d12⟩⟩ := hC.1.opn g
  repeat' first
    | with_reducible assumption
    | with_reducible refine And.intro ?_ ?_
    | with_reducible exact vpi6 (by assumption) (by assumption)
    | with_reducible exact vpi8 (by assumption) (by assumption)
    | with_reducible exact lX1_holdersOf_6 hC hQ _ _ _ _ _ _ ⟨hx, hn, hc, hl, hgc, hgl, hn0, hn1, rx, rn, rc, rl, ⟨d1, d2, d3, d4, d5, d6⟩, ⟨d7, d8, d9, d10, d11, d12⟩⟩ 70 _ _ _ _ _ (by first | decide | assumption) (by first | decide | exact n12 (by assumption) | exact n60 (by assumption)) (by first | decide | omega) (by first | decide | omega)
    | with_reducible refine sX0_holdsAs (by first | assumption | exact hgc _ _ (by assumption) | exact hgl _ _ (by assumption) | exact isR.ext (by assumption) (by assumption)) ?_
    | with_reducible refine go_R (by first | assumption | exact hgc _ _ (by assumption) | exact hgl _ _ (by assumption) | exact isR.ext (by assumption) (by assumption)) ?_
    | with_reducible exact hQ _
    | simp only [eX1_holdersOf_0, eX1_holdersOf_1, eX1_holdersOf_3, eX1_holdersOf_4, eX1_holdersOf_8, eX1_holdersOf_10, eX1_holdersOf_13, eX1_holdersOf_13N, eX1_holdersOf_14, eX1_holdersOf_17, eX1_holdersOf_19, eX1_holdersOf_20, eX1_holdersOf_20N, eX1_holdersOf_22, eX1_holdersOf_22N, eX1_holdersOf_24R, eX1_holdersOf_24N, eX1_holdersOf_27, eX1_holdersOf_27N, eX1_holdersOf_29, eX1_holdersOf_30, eX1_holdersOf_31, eX1_holdersOf_34, eX1_holdersOf_37, eX1_holdersOf_39, eX1_holdersOf_40, eX1_holdersOf_42, eX1_holdersOf_43, eX1_holdersOf_44, eX1_holdersOf_46, eX1_holdersOf_49, eX1_holdersOf_52, eX1_holdersOf_54, rx, rn, rc, rl, hx, hn, hc, hl, d1, d2, d3, d4, d5, d6, d7, d8, d9, d10, d11, d12, rd_n, upw_n, ite_le, n45, n54, true_or, or_true, false_or, or_false, false_and, and_false, kx_l, kx_r, go_s, gl_s, gi_s, gb_s2, gb_s3, gq_s, wt_nil, wt_int, wt_long, wt_ref, wt_null, nl_int, nl_long, nl_ref, nl_null, nl_none, rf_n, rf_s, rf_st, tl_s, tl_n, g0, gS, ex1, nb_b, nb_0, nb_1, nf_i, nf_l, nf_ra, nf_ro, nf_na, nf_no, nf_b0, nf_z0, t45_4, t45_5, true_and, and_true, List.set_cons_zero, List.set_cons_succ, List.length_cons, List.length_nil, rd_s, upw_s, ne_eq, not_false_eq_true, Nat.zero_add, Nat.add_zero]
    | split
    | with_reducible intro _
    | omega
set_option maxHeartbeats 4000000 in
theorem sX1_isSo {a0 : Nat} {a1 : Int32} (h0 : isR w a0) (k0 : ¬ a1 < 0) (k1 : ¬ 2 < a1) (hQ : ∀ v : Bool, Q (.inl (some (.int (bI v)))) w) : WP (MX1_isSo g) Q (0, [some (.ref a0), some (.int a1)], [], w, 0, 0) := by
  have hQt : Q (.inl (some (.int 1))) w := hQ true
  have hQf : Q (.inl (some (.int 0))) w := hQ false
  rcases i02 k0 k1 with rfl | rfl | rfl
  · repeat' first
      | with_reducible assumption
      | with_reducible refine And.intro ?_ ?_
      | with_reducible exact vpi6 (by assumption) (by assumption)
      | with_reducible exact vpi8 (by assumption) (by assumption)
      | with_reducible refine sX0_isSettled (by first | assumption | exact hgc _ _ (by assumption) | exact hgl _ _ (by assumption) | exact isR.ext (by assumption) (by assumption)) ?_
      | with_reducible refine sX0_fitsSmall (by first | assumption | exact hgc _ _ (by assumption) | exact hgl _ _ (by assumption) | exact isR.ext (by assumption) (by assumption)) ?_
      | with_reducible refine go_R (by assumption) ?_
      | with_reducible exact hQ _
      | with_reducible exact hQt
      | with_reducible exact hQf
      | simp only [eX1_isSo_0, eX1_isSo_1_0, eX1_isSo_1_1, eX1_isSo_1_2, eX1_isSo_1_3, eX1_isSo_1_4, eX1_isSo_28, eX1_isSo_28N, eX1_isSo_29, eX1_isSo_32, eX1_isSo_33, eX1_isSo_33N, eX1_isSo_34, eX1_isSo_37, eX1_isSo_38, eX1_isSo_39, ite_le, n45, n54, true_or, or_true, false_or, or_false, false_and, and_false, kx_l, kx_r, go_s, gl_s, gi_s, gb_s2, gb_s3, gq_s, wt_nil, wt_int, wt_long, wt_ref, wt_null, nl_int, nl_long, nl_ref, nl_null, nl_none, rf_n, rf_s, rf_st, tl_s, tl_n, g0, gS, ex1, nb_b, nb_0, nb_1, nf_i, nf_l, nf_ra, nf_ro, nf_na, nf_no, nf_b0, nf_z0, t45_4, t45_5, true_and, and_true, List.set_cons_zero, List.set_cons_succ, List.length_cons, List.length_nil, rd_s, upw_s, ne_eq, not_false_eq_true, Nat.zero_add, Nat.add_zero]
      | split
      | with_reducible intro _
      | omega
  · repeat' first
      | with_reducible assumption
      | with_reducible refine And.intro ?_ ?_
      | with_reducible exact vpi6 (by assumption) (by assumption)
      | with_reducible exact vpi8 (by assumption) (by assumption)
      | with_reducible refine sX0_isSettled (by first | assumption | exact hgc _ _ (by assumption) | exact hgl _ _ (by assumption) | exact isR.ext (by assumption) (by assumption)) ?_
      | with_reducible refine sX0_fitsSmall (by first | assumption | exact hgc _ _ (by assumption) | exact hgl _ _ (by assumption) | exact isR.ext (by assumption) (by assumption)) ?_
      | with_reducible refine go_R (by assumption) ?_
      | with_reducible exact hQ _
      | with_reducible exact hQt
      | with_reducible exact hQf
      | simp only [eX1_isSo_0, eX1_isSo_1_0, eX1_isSo_1_1, eX1_isSo_1_2, eX1_isSo_1_3, eX1_isSo_1_4, eX1_isSo_28, eX1_isSo_28N, eX1_isSo_29, eX1_isSo_32, eX1_isSo_33, eX1_isSo_33N, eX1_isSo_34, eX1_isSo_37, eX1_isSo_38, eX1_isSo_39, ite_le, n45, n54, true_or, or_true, false_or, or_false, false_and, and_false, kx_l, kx_r, go_s, gl_s, gi_s, gb_s2, gb_s3, gq_s, wt_nil, wt_int, wt_long, wt_ref, wt_null, nl_int, nl_long, nl_ref, nl_null, nl_none, rf_n, rf_s, rf_st, tl_s, tl_n, g0, gS, ex1, nb_b, nb_0, nb_1, nf_i, nf_l, nf_ra, nf_ro, nf_na, nf_no, nf_b0, nf_z0, t45_4, t45_5, true_and, and_true, List.set_cons_zero, List.set_cons_succ, List.length_cons, List.length_nil, rd_s, upw_s, ne_eq, not_false_eq_true, Nat.zero_add, Nat.add_zero]
      | split
      | with_reducible intro _
      | omega
  · repeat' first
      | with_reducible assumption
      | with_reducible refine And.intro ?_ ?_
      | with_reducible exact vpi6 (by assumption) (by assumption)
      | with_reducible exact vpi8 (by assumption) (by assumption)
      | with_reducible refine sX0_isSettled (by first | assumption | exact hgc _ _ (by assumption) | exact hgl _ _ (by assumption) | exact isR.ext (by assumption) (by assumption)) ?_
      | with_reducible refine sX0_fitsSmall (by first | assumption | exact hgc _ _ (by assumption) | exact hgl _ _ (by assumption) | exact isR.ext (by assumption) (by assumption)) ?_
      | with_reducible refine go_R (by assumption) ?_
      | with_reducible exact hQ _
      | with_reducible exact hQt
      | with_reducible exact hQf
      | simp only [eX1_isSo_0, eX1_isSo_1_0, eX1_isSo_1_1, eX1_isSo_1_2, eX1_isSo_1_3, eX1_isSo_1_4, eX1_isSo_28, eX1_isSo_28N, eX1_isSo_29, eX1_isSo_32, eX1_isSo_33, eX1_isSo_33N, eX1_isSo_34, eX1_isSo_37, eX1_isSo_38, eX1_isSo_39, ite_le, n45, n54, true_or, or_true, false_or, or_false, false_and, and_false, kx_l, kx_r, go_s, gl_s, gi_s, gb_s2, gb_s3, gq_s, wt_nil, wt_int, wt_long, wt_ref, wt_null, nl_int, nl_long, nl_ref, nl_null, nl_none, rf_n, rf_s, rf_st, tl_s, tl_n, g0, gS, ex1, nb_b, nb_0, nb_1, nf_i, nf_l, nf_ra, nf_ro, nf_na, nf_no, nf_b0, nf_z0, t45_4, t45_5, true_and, and_true, List.set_cons_zero, List.set_cons_succ, List.length_cons, List.length_nil, rd_s, upw_s, ne_eq, not_false_eq_true, Nat.zero_add, Nat.add_zero]
      | split
      | with_reducible intro _
      | omega
set_option maxHeartbeats 4000000 in
theorem lX1_cardsThatAre_4 {a0 : Int32} (hC : CC g w0 x nA cA lA kn w) (hQ : ∀ v : Int32, Q (.inl (some (.int v))) w) (k0 : ¬ a0 < 0) (k1 : ¬ 2 < a0) : ∀ (n rf md : Int32) (f : Nat → Int64) (gc gl : Nat → Option Nat), RO5 g w x nA cA lA n rf kn md f gc gl → ∀ (d : Nat) (i2 : Int32) (i3 : Int32) (i4 : Option Value) (k m : Nat), ¬ i3 < 0 → (6 : Int32).toInt - i3.toInt ≤ (d : Int) → k ≤ 0 → m ≤ 0 → WP (MX1_cardsThatAre g) Q (4, [some (.ref x), some (.int a0), some (.int i2), some (.int i3), i4], [], w, k, m) := by
  rintro n rf md f gc gl ⟨hx, hn, hc, hl, hgc, hgl, hn0, hn1, rx, rn, rc, rl, ⟨d1, d2, d3, d4, d5, d6⟩, ⟨d7, d8, d9, d10, d11, d12⟩⟩ d
  induction d with
  | zero =>
    intro i2 i3 i4 k m z0 hm hk hs
    rw [eX1_cardsThatAre_4]
    repeat' first
      | with_reducible assumption
      | with_reducible refine And.intro ?_ ?_
      | with_reducible exact vpi6 (by assumption) (by assumption)
      | with_reducible exact vpi8 (by assumption) (by assumption)
      | with_reducible exact (ic_z (by assumption) (by assumption)).elim
      | with_reducible exact vpi12 (by assumption) (by assumption) (by assumption)
      | with_reducible refine sX1_isSo (by first | assumption | exact hgc _ _ (by assumption) | exact hgl _ _ (by assumption) | exact isR.ext (by assumption) (by assumption)) (by assumption) (by assumption) ?_
      | with_reducible refine go_R (by first | assumption | exact hgc _ _ (by assumption) | exact hgl _ _ (by assumption) | exact isR.ext (by assumption) (by assumption)) ?_
      | with_reducible exact hQ _
      | simp only [eX1_cardsThatAre_0, eX1_cardsThatAre_1, eX1_cardsThatAre_2, eX1_cardsThatAre_3, eX1_cardsThatAre_5, eX1_cardsThatAre_7, eX1_cardsThatAre_10, eX1_cardsThatAre_10N, eX1_cardsThatAre_11, eX1_cardsThatAre_14, eX1_cardsThatAre_15, eX1_cardsThatAre_16, eX1_cardsThatAre_16N, eX1_cardsThatAre_18, eX1_cardsThatAre_18N, eX1_cardsThatAre_20R, eX1_cardsThatAre_20N, eX1_cardsThatAre_23, eX1_cardsThatAre_23N, eX1_cardsThatAre_25, eX1_cardsThatAre_26R, eX1_cardsThatAre_26N, eX1_cardsThatAre_29, eX1_cardsThatAre_32, eX1_cardsThatAre_33, eX1_cardsThatAre_34, eX1_cardsThatAre_35, eX1_cardsThatAre_36, eX1_cardsThatAre_37, eX1_cardsThatAre_38, eX1_cardsThatAre_41, eX1_cardsThatAre_44, eX1_cardsThatAre_45, rx, rn, rc, rl, hx, hn, hc, hl, d1, d2, d3, d4, d5, d6, d7, d8, d9, d10, d11, d12, rd_n, upw_n, ite_le, n45, n54, true_or, or_true, false_or, or_false, false_and, and_false, kx_l, kx_r, go_s, gl_s, gi_s, gb_s2, gb_s3, gq_s, wt_nil, wt_int, wt_long, wt_ref, wt_null, nl_int, nl_long, nl_ref, nl_null, nl_none, rf_n, rf_s, rf_st, tl_s, tl_n, g0, gS, ex1, nb_b, nb_0, nb_1, nf_i, nf_l, nf_ra, nf_ro, nf_na, nf_no, nf_b0, nf_z0, t45_4, t45_5, true_and, and_true, List.set_cons_zero, List.set_cons_succ, List.length_cons, List.length_nil, rd_s, upw_s, ne_eq, not_false_eq_true, Nat.zero_add, Nat.add_zero]
      | split
      | with_reducible intro _
      | omega
  | succ d ih =>
    intro i2 i3 i4 k m z0 hm hk hs
    rw [eX1_cardsThatAre_4]
    repeat' first
      | with_reducible assumption
      | with_reducible refine And.intro ?_ ?_
      | with_reducible exact vpi6 (by assumption) (by assumption)
      | with_reducible exact vpi8 (by assumption) (by assumption)
      | with_reducible exact ih _ _ _ _ _ (ic_p (by assumption) (by assumption)) (ic_s (by assumption) (by assumption)) (by first | assumption | omega) (by first | assumption | omega)
      | with_reducible exact vpi12 (by assumption) (by assumption) (by assumption)
      | with_reducible refine sX1_isSo (by first | assumption | exact hgc _ _ (by assumption) | exact hgl _ _ (by assumption) | exact isR.ext (by assumption) (by assumption)) (by assumption) (by assumption) ?_
      | with_reducible refine go_R (by first | assumption | exact hgc _ _ (by assumption) | exact hgl _ _ (by assumption) | exact isR.ext (by assumption) (by assumption)) ?_
      | with_reducible exact hQ _
      | simp only [eX1_cardsThatAre_0, eX1_cardsThatAre_1, eX1_cardsThatAre_2, eX1_cardsThatAre_3, eX1_cardsThatAre_5, eX1_cardsThatAre_7, eX1_cardsThatAre_10, eX1_cardsThatAre_10N, eX1_cardsThatAre_11, eX1_cardsThatAre_14, eX1_cardsThatAre_15, eX1_cardsThatAre_16, eX1_cardsThatAre_16N, eX1_cardsThatAre_18, eX1_cardsThatAre_18N, eX1_cardsThatAre_20R, eX1_cardsThatAre_20N, eX1_cardsThatAre_23, eX1_cardsThatAre_23N, eX1_cardsThatAre_25, eX1_cardsThatAre_26R, eX1_cardsThatAre_26N, eX1_cardsThatAre_29, eX1_cardsThatAre_32, eX1_cardsThatAre_33, eX1_cardsThatAre_34, eX1_cardsThatAre_35, eX1_cardsThatAre_36, eX1_cardsThatAre_37, eX1_cardsThatAre_38, eX1_cardsThatAre_41, eX1_cardsThatAre_44, eX1_cardsThatAre_45, rx, rn, rc, rl, hx, hn, hc, hl, d1, d2, d3, d4, d5, d6, d7, d8, d9, d10, d11, d12, rd_n, upw_n, ite_le, n45, n54, true_or, or_true, false_or, or_false, false_and, and_false, kx_l, kx_r, go_s, gl_s, gi_s, gb_s2, gb_s3, gq_s, wt_nil, wt_int, wt_long, wt_ref, wt_null, nl_int, nl_long, nl_ref, nl_null, nl_none, rf_n, rf_s, rf_st, tl_s, tl_n, g0, gS, ex1, nb_b, nb_0, nb_1, nf_i, nf_l, nf_ra, nf_ro, nf_na, nf_no, nf_b0, nf_z0, t45_4, t45_5, true_and, and_true, List.set_cons_zero, List.set_cons_succ, List.length_cons, List.length_nil, rd_s, upw_s, ne_eq, not_false_eq_true, Nat.zero_add, Nat.add_zero]
      | split
      | with_reducible intro _
      | omega
set_option maxHeartbeats 4000000 in
theorem sX1_cardsThatAre {a0 : Int32} (hC : CC g w0 x nA cA lA kn w) (hQ : ∀ v : Int32, Q (.inl (some (.int v))) w) (k0 : ¬ a0 < 0) (k1 : ¬ 2 < a0) : WP (MX1_cardsThatAre g) Q (0, [some (.ref x), some (.int a0), none, none, none], [], w, 0, 0) := by
  obtain ⟨n, rf, md, f, gc, gl, hx, hn, hc, hl, hgc, hgl, hn0, hn1, rx, rn, rc, rl, ⟨d1, d2, d3, d4, d5, d6⟩, ⟨d7, d8, d9, d10, d11, d12⟩⟩ := hC.1.opn g
  repeat' first
    | with_reducible assumption
    | with_reducible refine And.intro ?_ ?_
    | with_reducible exact vpi6 (by assumption) (by assumption)
    | with_reducible exact vpi8 (by assumption) (by assumption)
    | with_reducible exact lX1_cardsThatAre_4 hC hQ k0 k1 _ _ _ _ _ _ ⟨hx, hn, hc, hl, hgc, hgl, hn0, hn1, rx, rn, rc, rl, ⟨d1, d2, d3, d4, d5, d6⟩, ⟨d7, d8, d9, d10, d11, d12⟩⟩ 70 _ _ _ _ _ (by first | decide | assumption) (by first | decide | exact n12 (by assumption) | exact n60 (by assumption)) (by first | decide | omega) (by first | decide | omega)
    | with_reducible refine sX1_isSo (by first | assumption | exact hgc _ _ (by assumption) | exact hgl _ _ (by assumption) | exact isR.ext (by assumption) (by assumption)) (by assumption) (by assumption) ?_
    | with_reducible refine go_R (by first | assumption | exact hgc _ _ (by assumption) | exact hgl _ _ (by assumption) | exact isR.ext (by assumption) (by assumption)) ?_
    | with_reducible exact hQ _
    | simp only [eX1_cardsThatAre_0, eX1_cardsThatAre_1, eX1_cardsThatAre_2, eX1_cardsThatAre_3, eX1_cardsThatAre_5, eX1_cardsThatAre_7, eX1_cardsThatAre_10, eX1_cardsThatAre_10N, eX1_cardsThatAre_11, eX1_cardsThatAre_14, eX1_cardsThatAre_15, eX1_cardsThatAre_16, eX1_cardsThatAre_16N, eX1_cardsThatAre_18, eX1_cardsThatAre_18N, eX1_cardsThatAre_20R, eX1_cardsThatAre_20N, eX1_cardsThatAre_23, eX1_cardsThatAre_23N, eX1_cardsThatAre_25, eX1_cardsThatAre_26R, eX1_cardsThatAre_26N, eX1_cardsThatAre_29, eX1_cardsThatAre_32, eX1_cardsThatAre_33, eX1_cardsThatAre_34, eX1_cardsThatAre_35, eX1_cardsThatAre_36, eX1_cardsThatAre_37, eX1_cardsThatAre_38, eX1_cardsThatAre_41, eX1_cardsThatAre_44, eX1_cardsThatAre_45, rx, rn, rc, rl, hx, hn, hc, hl, d1, d2, d3, d4, d5, d6, d7, d8, d9, d10, d11, d12, rd_n, upw_n, ite_le, n45, n54, true_or, or_true, false_or, or_false, false_and, and_false, kx_l, kx_r, go_s, gl_s, gi_s, gb_s2, gb_s3, gq_s, wt_nil, wt_int, wt_long, wt_ref, wt_null, nl_int, nl_long, nl_ref, nl_null, nl_none, rf_n, rf_s, rf_st, tl_s, tl_n, g0, gS, ex1, nb_b, nb_0, nb_1, nf_i, nf_l, nf_ra, nf_ro, nf_na, nf_no, nf_b0, nf_z0, t45_4, t45_5, true_and, and_true, List.set_cons_zero, List.set_cons_succ, List.length_cons, List.length_nil, rd_s, upw_s, ne_eq, not_false_eq_true, Nat.zero_add, Nat.add_zero]
    | split
    | with_reducible intro _
    | omega
end
