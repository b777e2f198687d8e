section
variable {g : RO} {Q : Ot → Hw → Prop} {w0 w : Hw} {x nA cA lA : Nat} {kn : Int32}
set_option maxHeartbeats 4000000 in
theorem lX1_withHouse_5 {a0 : Int64} (hC : CC g w0 x nA cA lA kn w) (hQ : ∀ v : Int64, Q (.inl (some (.long v))) w) : ∀ (n rf md : Int32) (f : Nat → Int64) (gc gl : Nat → Option Nat), RO5 g w x nA cA lA n rf kn md f gc gl → ∀ (d : Nat) (i3 : Int64) (i5 : Int32) (k m : Nat), ¬ i5 < 0 → (4 : Int32).toInt + 1 - i5.toInt ≤ (d : Int) → k ≤ 0 → m ≤ 0 → WP (MX1_withHouse g) Q (5, [some (.ref x), some (.long a0), none, some (.long i3), none, some (.int i5)], [], w, k, m) := by
  rintro n rf md f gc gl ⟨hx, hn, hc, hl, hgc, hgl, hn0, hn1, rx, rn, rc, rl, ⟨d1, d2, d3, d4, d5, d6⟩, ⟨d7, d8, d9, d10, d11, d12⟩⟩ d
  induction d with
  | zero =>
    intro i3 i5 k m z0 hm hk hs
    rw [eX1_withHouse_5]
    repeat' first
      | with_reducible assumption
      | with_reducible refine And.intro ?_ ?_
      | with_reducible exact vpi6 (by assumption) (by assumption)
      | with_reducible exact vpi8 (by assumption) (by assumption)
      | with_reducible exact (ic_zl (by assumption) (by assumption)).elim
      | with_reducible exact vpi12 (by assumption) (by assumption) (by assumption)
      | with_reducible refine sX1_houseCount (by first | assumption | exact CC.ext (by assumption) (by assumption)) ?_
      | with_reducible refine sX1_with ?_
      | with_reducible refine go_R (by first | assumption | exact hgc _ _ (by assumption) | exact hgl _ _ (by assumption) | exact isR.ext (by assumption) (by assumption)) ?_
      | with_reducible exact hQ _
      | simp only [eX1_withHouse_0, eX1_withHouse_1, eX1_withHouse_2, eX1_withHouse_3, eX1_withHouse_7, eX1_withHouse_8, eX1_withHouse_11, eX1_withHouse_12, eX1_withHouse_12N, eX1_withHouse_13, eX1_withHouse_15, eX1_withHouse_18, eX1_withHouse_19, eX1_withHouse_22, eX1_withHouse_23, eX1_withHouse_26, eX1_withHouse_29, eX1_withHouse_30, rx, rn, rc, rl, hx, hn, hc, hl, d1, d2, d3, d4, d5, d6, d7, d8, d9, d10, d11, d12, rd_n, upw_n, ite_le, n45, n54, true_or, or_true, false_or, or_false, false_and, and_false, kx_l, kx_r, go_s, gl_s, gi_s, gb_s2, gb_s3, gq_s, wt_nil, wt_int, wt_long, wt_ref, wt_null, nl_int, nl_long, nl_ref, nl_null, nl_none, rf_n, rf_s, rf_st, tl_s, tl_n, g0, gS, ex1, nb_b, nb_0, nb_1, nf_i, nf_l, nf_ra, nf_ro, nf_na, nf_no, nf_b0, nf_z0, t45_4, t45_5, true_and, and_true, List.set_cons_zero, List.set_cons_succ, List.length_cons, List.length_nil, rd_s, upw_s, ne_eq, not_false_eq_true, Nat.zero_add, Nat.add_zero]
      | split
      | with_reducible intro _
      | omega
  | succ d ih =>
    intro i3 i5 k m z0 hm hk hs
    rw [eX1_withHouse_5]
    repeat' first
      | with_reducible assumption
      | with_reducible refine And.intro ?_ ?_
      | with_reducible exact vpi6 (by assumption) (by assumption)
      | with_reducible exact vpi8 (by assumption) (by assumption)
      | with_reducible exact ih _ _ _ _ (ic_pl (by assumption) (by assumption) (by decide)) (ic_sl (by assumption) (by assumption) (by decide)) (by first | assumption | omega) (by first | assumption | omega)
      | with_reducible exact vpi12 (by assumption) (by assumption) (by assumption)
      | with_reducible refine sX1_houseCount (by first | assumption | exact CC.ext (by assumption) (by assumption)) ?_
      | with_reducible refine sX1_with ?_
      | with_reducible refine go_R (by first | assumption | exact hgc _ _ (by assumption) | exact hgl _ _ (by assumption) | exact isR.ext (by assumption) (by assumption)) ?_
      | with_reducible exact hQ _
      | simp only [eX1_withHouse_0, eX1_withHouse_1, eX1_withHouse_2, eX1_withHouse_3, eX1_withHouse_7, eX1_withHouse_8, eX1_withHouse_11, eX1_withHouse_12, eX1_withHouse_12N, eX1_withHouse_13, eX1_withHouse_15, eX1_withHouse_18, eX1_withHouse_19, eX1_withHouse_22, eX1_withHouse_23, eX1_withHouse_26, eX1_withHouse_29, eX1_withHouse_30, rx, rn, rc, rl, hx, hn, hc, hl, d1, d2, d3, d4, d5, d6, d7, d8, d9, d10, d11, d12, rd_n, upw_n, ite_le, n45, n54, true_or, or_true, false_or, or_false, false_and, and_false, kx_l, kx_r, go_s, gl_s, gi_s, gb_s2, gb_s3, gq_s, wt_nil, wt_int, wt_long, wt_ref, wt_null, nl_int, nl_long, nl_ref, nl_null, nl_none, rf_n, rf_s, rf_st, tl_s, tl_n, g0, gS, ex1, nb_b, nb_0, nb_1, nf_i, nf_l, nf_ra, nf_ro, nf_na, nf_no, nf_b0, nf_z0, t45_4, t45_5, true_and, and_true, List.set_cons_zero, List.set_cons_succ, List.length_cons, List.length_nil, rd_s, upw_s, ne_eq, not_false_eq_true, Nat.zero_add, Nat.add_zero]
      | split
      | with_reducible intro _
      | omega
set_option maxHeartbeats 4000000 in
theorem sX1_withHouse {a0 : Int64} (hC : CC g w0 x nA cA lA kn w) (hQ : ∀ v : Int64, Q (.inl (some (.long v))) w) : WP (MX1_withHouse g) Q (0, [some (.ref x), some (.long a0), none, none, none, none], [], w, 0, 0) := by
  obtain ⟨n, rf, md, f, gc, gl, hx, hn, hc, hl, hgc, hgl, hn0, hn1, rx, rn, rc, rl, ⟨d1, d2, d3, d4, d5, d6⟩, ⟨d7, d8, d9, d10, d11, d12⟩⟩ := hC.1.opn g
  repeat' first
    | with_reducible assumption
    | with_reducible refine And.intro ?_ ?_
    | with_reducible exact vpi6 (by assumption) (by assumption)
    | with_reducible exact vpi8 (by assumption) (by assumption)
    | with_reducible exact lX1_withHouse_5 hC hQ _ _ _ _ _ _ ⟨hx, hn, hc, hl, hgc, hgl, hn0, hn1, rx, rn, rc, rl, ⟨d1, d2, d3, d4, d5, d6⟩, ⟨d7, d8, d9, d10, d11, d12⟩⟩ 70 _ _ _ _ (by first | decide | assumption) (by first | decide | exact n12 (by assumption) | exact n60 (by assumption)) (by first | decide | omega) (by first | decide | omega)
    | with_reducible refine sX1_houseCount (by first | assumption | exact CC.ext (by assumption) (by assumption)) ?_
    | with_reducible refine sX1_with ?_
    | with_reducible refine go_R (by first | assumption | exact hgc _ _ (by assumption) | exact hgl _ _ (by assumption) | exact isR.ext (by assumption) (by assumption)) ?_
    | with_reducible exact hQ _
    | simp only [eX1_withHouse_0, eX1_withHouse_1, eX1_withHouse_2, eX1_withHouse_3, eX1_withHouse_7, eX1_withHouse_8, eX1_withHouse_11, eX1_withHouse_12, eX1_withHouse_12N, eX1_withHouse_13, eX1_withHouse_15, eX1_withHouse_18, eX1_withHouse_19, eX1_withHouse_22, eX1_withHouse_23, eX1_withHouse_26, eX1_withHouse_29, eX1_withHouse_30, rx, rn, rc, rl, hx, hn, hc, hl, d1, d2, d3, d4, d5, d6, d7, d8, d9, d10, d11, d12, rd_n, upw_n, ite_le, n45, n54, true_or, or_true, false_or, or_false, false_and, and_false, kx_l, kx_r, go_s, gl_s, gi_s, gb_s2, gb_s3, gq_s, wt_nil, wt_int, wt_long, wt_ref, wt_null, nl_int, nl_long, nl_ref, nl_null, nl_none, rf_n, rf_s, rf_st, tl_s, tl_n, g0, gS, ex1, nb_b, nb_0, nb_1, nf_i, nf_l, nf_ra, nf_ro, nf_na, nf_no, nf_b0, nf_z0, t45_4, t45_5, true_and, and_true, List.set_cons_zero, List.set_cons_succ, List.length_cons, List.length_nil, rd_s, upw_s, ne_eq, not_false_eq_true, Nat.zero_add, Nat.add_zero]
    | split
    | with_reducible intro _
    | omega
set_option maxHeartbeats 4000000 in
theorem sX1_withNumber {a0 : Int64} {a1 : Int64} (hC : CC g w0 x nA cA lA kn w) (hQ : ∀ v : Int64, Q (.inl (some (.long v))) w) : WP (MX1_withNumber g) Q (0, [some (.ref x), some (.long a0), none, some (.long a1), none, none, none], [], w, 0, 0) := by
  obtain ⟨n, rf, md, f, gc, gl, hx, hn, hc, hl, hgc, hgl, hn0, hn1, rx, rn, rc, rl, ⟨d1, d2, d3, d4, d5, d6⟩, ⟨d7, d8, d9, d10, d11, d12⟩⟩ := hC.1.opn g
  repeat' first
    | with_reducible assumption
    | with_reducible refine And.intro ?_ ?_
    | with_reducible exact vpi6 (by assumption) (by assumption)
    | with_reducible exact vpi8 (by assumption) (by assumption)
    | with_reducible refine sX1_highOf ?_
    | with_reducible refine sX1_with ?_
    | with_reducible refine sX1_lowOf ?_
    | with_reducible refine sX1_holdersOf (by first | assumption | exact CC.ext (by assumption) (by assumption)) ?_
    | with_reducible refine go_R (by first | assumption | exact hgc _ _ (by assumption) | exact hgl _ _ (by assumption) | exact isR.ext (by assumption) (by assumption)) ?_
    | with_reducible exact hQ _
    | simp only [eX1_withNumber_0, eX1_withNumber_1, eX1_withNumber_2, eX1_withNumber_5, eX1_withNumber_6, eX1_withNumber_9, eX1_withNumber_11, eX1_withNumber_13, eX1_withNumber_14, eX1_withNumber_17, eX1_withNumber_18, eX1_withNumber_21, eX1_withNumber_23, eX1_withNumber_25, eX1_withNumber_25N, eX1_withNumber_26, eX1_withNumber_27, eX1_withNumber_28, eX1_withNumber_31, eX1_withNumber_32, eX1_withNumber_35, eX1_withNumber_37, eX1_withNumber_39, eX1_withNumber_39N, eX1_withNumber_40, eX1_withNumber_41, eX1_withNumber_42, eX1_withNumber_45, eX1_withNumber_46, eX1_withNumber_49, rx, rn, rc, rl, hx, hn, hc, hl, d1, d2, d3, d4, d5, d6, d7, d8, d9, d10, d11, d12, rd_n, upw_n, ite_le, n45, n54, true_or, or_true, false_or, or_false, false_and, and_false, kx_l, kx_r, go_s, gl_s, gi_s, gb_s2, gb_s3, gq_s, wt_nil, wt_int, wt_long, wt_ref, wt_null, nl_int, nl_long, nl_ref, nl_null, nl_none, rf_n, rf_s, rf_st, tl_s, tl_n, g0, gS, ex1, nb_b, nb_0, nb_1, nf_i, nf_l, nf_ra, nf_ro, nf_na, nf_no, nf_b0, nf_z0, t45_4, t45_5, true_and, and_true, List.set_cons_zero, List.set_cons_succ, List.length_cons, List.length_nil, rd_s, upw_s, ne_eq, not_false_eq_true, Nat.zero_add, Nat.add_zero]
    | split
    | with_reducible intro _
    | omega
set_option maxHeartbeats 4000000 in
theorem lX1_withEnds_5 {a0 : Int64} {a1 : Nat} (h1 : isR w a1) (hQ : ∀ v : Int64, Q (.inl (some (.long v))) w) : ∀ (d : Nat) (i3 : Int64) (i5 : Int32) (i6 : Option Value) (i7 : Option Value) (k m : Nat), ¬ i5 < 0 → (4 : Int32).toInt - i5.toInt ≤ (d : Int) → k ≤ 0 → m ≤ 0 → WP (MX1_withEnds g) Q (5, [some (.long a0), none, some (.ref a1), some (.long i3), none, some (.int i5), i6, i7], [], w, k, m) := by
  intro d
  induction d with
  | zero =>
    intro i3 i5 i6 i7 k m z0 hm hk hs
    rw [eX1_withEnds_5]
    repeat' first
      | with_reducible assumption
      | with_reducible refine And.intro ?_ ?_
      | with_reducible exact vpi6 (by assumption) (by assumption)
      | with_reducible exact vpi8 (by assumption) (by assumption)
      | with_reducible exact (ic_z (by assumption) (by assumption)).elim
      | with_reducible exact vpi12 (by assumption) (by assumption) (by assumption)
      | with_reducible refine sX0_endAt (by first | assumption | exact hgc _ _ (by assumption) | exact hgl _ _ (by assumption) | exact isR.ext (by assumption) (by assumption)) ?_
      | with_reducible refine sX1_highOf ?_
      | with_reducible refine sX1_with ?_
      | with_reducible refine sX1_lowOf ?_
      | with_reducible refine sX1_neighboursIn (by first | assumption | exact hgc _ _ (by assumption) | exact hgl _ _ (by assumption) | exact isR.ext (by assumption) (by assumption)) ?_
      | with_reducible refine go_R (by assumption) ?_
      | with_reducible exact hQ _
      | simp only [eX1_withEnds_0, eX1_withEnds_1, eX1_withEnds_2, eX1_withEnds_3, eX1_withEnds_7, eX1_withEnds_8, eX1_withEnds_11, eX1_withEnds_11N, eX1_withEnds_12, eX1_withEnds_14, eX1_withEnds_17, eX1_withEnds_19, eX1_withEnds_20, eX1_withEnds_22, eX1_withEnds_25, eX1_withEnds_26, eX1_withEnds_29, eX1_withEnds_30, eX1_withEnds_31, eX1_withEnds_33, eX1_withEnds_36, eX1_withEnds_37, eX1_withEnds_40, eX1_withEnds_41, eX1_withEnds_42, eX1_withEnds_42N, eX1_withEnds_43, eX1_withEnds_45, eX1_withEnds_46R, eX1_withEnds_46N, eX1_withEnds_49, eX1_withEnds_50, eX1_withEnds_53, eX1_withEnds_54, eX1_withEnds_55, eX1_withEnds_55N, eX1_withEnds_56, eX1_withEnds_58, eX1_withEnds_59R, eX1_withEnds_59N, eX1_withEnds_62, eX1_withEnds_63, eX1_withEnds_66, eX1_withEnds_67, eX1_withEnds_70, eX1_withEnds_73, eX1_withEnds_74, ite_le, n45, n54, true_or, or_true, false_or, or_false, false_and, and_false, kx_l, kx_r, go_s, gl_s, gi_s, gb_s2, gb_s3, gq_s, wt_nil, wt_int, wt_long, wt_ref, wt_null, nl_int, nl_long, nl_ref, nl_null, nl_none, rf_n, rf_s, rf_st, tl_s, tl_n, g0, gS, ex1, nb_b, nb_0, nb_1, nf_i, nf_l, nf_ra, nf_ro, nf_na, nf_no, nf_b0, nf_z0, t45_4, t45_5, true_and, and_true, List.set_cons_zero, List.set_cons_succ, List.length_cons, List.length_nil, rd_s, upw_s, ne_eq, not_false_eq_true, Nat.zero_add, Nat.add_zero]
      | split
      | with_reducible intro _
      | omega
  | succ d ih =>
    intro i3 i5 i6 i7 k m z0 hm hk hs
    rw [eX1_withEnds_5]
    repeat' first
      | with_reducible assumption
      | with_reducible refine And.intro ?_ ?_
      | with_reducible exact vpi6 (by assumption) (by assumption)
      | with_reducible exact vpi8 (by assumption) (by assumption)
      | with_reducible exact ih _ _ _ _ _ _ (ic_p (by assumption) (by assumption)) (ic_s (by assumption) (by assumption)) (by first | assumption | omega) (by first | assumption | omega)
      | with_reducible exact vpi12 (by assumption) (by assumption) (by assumption)
      | with_reducible refine sX0_endAt (by first | assumption | exact hgc _ _ (by assumption) | exact hgl _ _ (by assumption) | exact isR.ext (by assumption) (by assumption)) ?_
      | with_reducible refine sX1_highOf ?_
      | with_reducible refine sX1_with ?_
      | with_reducible refine sX1_lowOf ?_
      | with_reducible refine sX1_neighboursIn (by first | assumption | exact hgc _ _ (by assumption) | exact hgl _ _ (by assumption) | exact isR.ext (by assumption) (by assumption)) ?_
      | with_reducible refine go_R (by assumption) ?_
      | with_reducible exact hQ _
      | simp only [eX1_withEnds_0, eX1_withEnds_1, eX1_withEnds_2, eX1_withEnds_3, eX1_withEnds_7, eX1_withEnds_8, eX1_withEnds_11, eX1_withEnds_11N, eX1_withEnds_12, eX1_withEnds_14, eX1_withEnds_17, eX1_withEnds_19, eX1_withEnds_20, eX1_withEnds_22, eX1_withEnds_25, eX1_withEnds_26, eX1_withEnds_29, eX1_withEnds_30, eX1_withEnds_31, eX1_withEnds_33, eX1_withEnds_36, eX1_withEnds_37, eX1_withEnds_40, eX1_withEnds_41, eX1_withEnds_42, eX1_withEnds_42N, eX1_withEnds_43, eX1_withEnds_45, eX1_withEnds_46R, eX1_withEnds_46N, eX1_withEnds_49, eX1_withEnds_50, eX1_withEnds_53, eX1_withEnds_54, eX1_withEnds_55, eX1_withEnds_55N, eX1_withEnds_56, eX1_withEnds_58, eX1_withEnds_59R, eX1_withEnds_59N, eX1_withEnds_62, eX1_withEnds_63, eX1_withEnds_66, eX1_withEnds_67, eX1_withEnds_70, eX1_withEnds_73, eX1_withEnds_74, ite_le, n45, n54, true_or, or_true, false_or, or_false, false_and, and_false, kx_l, kx_r, go_s, gl_s, gi_s, gb_s2, gb_s3, gq_s, wt_nil, wt_int, wt_long, wt_ref, wt_null, nl_int, nl_long, nl_ref, nl_null, nl_none, rf_n, rf_s, rf_st, tl_s, tl_n, g0, gS, ex1, nb_b, nb_0, nb_1, nf_i, nf_l, nf_ra, nf_ro, nf_na, nf_no, nf_b0, nf_z0, t45_4, t45_5, true_and, and_true, List.set_cons_zero, List.set_cons_succ, List.length_cons, List.length_nil, rd_s, upw_s, ne_eq, not_false_eq_true, Nat.zero_add, Nat.add_zero]
      | split
      | with_reducible intro _
      | omega
set_option maxHeartbeats 4000000 in
theorem sX1_withEnds {a0 : Int64} {a1 : Nat} (h1 : isR w a1) (hQ : ∀ v : Int64, Q (.inl (some (.long v))) w) : WP (MX1_withEnds g) Q (0, [some (.long a0), none, some (.ref a1), none, none, none, none, none], [], w, 0, 0) := by
  repeat' first
    | with_reducible assumption
    | with_reducible refine And.intro ?_ ?_
    | with_reducible exact vpi6 (by assumption) (by assumption)
    | with_reducible exact vpi8 (by assumption) (by assumption)
    | with_reducible exact lX1_withEnds_5 h1 hQ 70 _ _ _ _ _ _ (by first | decide | assumption) (by first | decide | exact n12 (by assumption) | exact n60 (by assumption)) (by first | decide | omega) (by first | decide | omega)
    | with_reducible refine sX0_endAt (by first | assumption | exact hgc _ _ (by assumption) | exact hgl _ _ (by assumption) | exact isR.ext (by assumption) (by assumption)) ?_
    | with_reducible refine sX1_highOf ?_
    | with_reducible refine sX1_with ?_
    | with_reducible refine sX1_lowOf ?_
    | with_reducible refine sX1_neighboursIn (by first | assumption | exact hgc _ _ (by assumption) | exact hgl _ _ (by assumption) | exact isR.ext (by assumption) (by assumption)) ?_
    | with_reducible refine go_R (by assumption) ?_
    | with_reducible exact hQ _
    | simp only [eX1_withEnds_0, eX1_withEnds_1, eX1_withEnds_2, eX1_withEnds_3, eX1_withEnds_7, eX1_withEnds_8, eX1_withEnds_11, eX1_withEnds_11N, eX1_withEnds_12, eX1_withEnds_14, eX1_withEnds_17, eX1_withEnds_19, eX1_withEnds_20, eX1_withEnds_22, eX1_withEnds_25, eX1_withEnds_26, eX1_withEnds_29, eX1_withEnds_30, eX1_withEnds_31, eX1_withEnds_33, eX1_withEnds_36, eX1_withEnds_37, eX1_withEnds_40, eX1_withEnds_41, eX1_withEnds_42, eX1_withEnds_42N, eX1_withEnds_43, eX1_withEnds_45, eX1_withEnds_46R, eX1_withEnds_46N, eX1_withEnds_49, eX1_withEnds_50, eX1_withEnds_53, eX1_withEnds_54, eX1_withEnds_55, eX1_withEnds_55N, eX1_withEnds_56, eX1_withEnds_58, eX1_withEnds_59R, eX1_withEnds_59N, eX1_withEnds_62, eX1_withEnds_63, eX1_withEnds_66, eX1_withEnds_67, eX1_withEnds_70, eX1_withEnds_73, eX1_withEnds_74, ite_le, n45, n54, true_or, or_true, false_or, or_false, false_and, and_false, kx_l, kx_r, go_s, gl_s, gi_s, gb_s2, gb_s3, gq_s, wt_nil, wt_int, wt_long, wt_ref, wt_null, nl_int, nl_long, nl_ref, nl_null, nl_none, rf_n, rf_s, rf_st, tl_s, tl_n, g0, gS, ex1, nb_b, nb_0, nb_1, nf_i, nf_l, nf_ra, nf_ro, nf_na, nf_no, nf_b0, nf_z0, t45_4, t45_5, true_and, and_true, List.set_cons_zero, List.set_cons_succ, List.length_cons, List.length_nil, rd_s, upw_s, ne_eq, not_false_eq_true, Nat.zero_add, Nat.add_zero]
    | split
    | with_reducible intro _
    | omega
end
