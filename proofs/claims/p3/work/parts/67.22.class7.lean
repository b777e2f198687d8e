section
variable {g : RO} {Q : Ot → Hw → Prop} {w0 w : Hw} {x nA cA lA : Nat} {kn : Int32}
theorem vp08 : vp_in 0 8 := vpi8 (by decide) (by decide)
theorem go_C (h : CC g w0 x nA cA lA kn w) : go (rd g w x) 5 (fun _ => True) := by
  obtain ⟨n, rf, md, f, gc, gl, hx, hn, hc, hl, hgc, hgl, hn0, hn1, rx, rn, rc, rl, ⟨d1, d2, d3, d4, d5, d6⟩, ⟨d7, d8, d9, d10, d11, d12⟩⟩ := h.1.opn g
  rw [rx, go_s]
  trivial
theorem isR.mono {w1 w2 : Hw} {b : Nat} (hm : ∀ b, isR w1 b → isR w2 b) (h : isR w1 b) : isR w2 b := hm b h
set_option maxHeartbeats 4000000 in
theorem lX1_withWhichAndPile_32 {a0 : Int64} (hC : CC g w0 x nA cA lA kn w) (hQ : ∀ v : Int64, Q (.inl (some (.long v))) w) : ∀ (n rf md : Int32) (f : Nat → Int64) (gc gl : Nat → Option Nat), RO5 g w x nA cA lA n rf kn md f gc gl → ∀ (d : Nat) (i3 : Int64) (i5 : Int32) (k m : Nat), ¬ i5 < 0 → (5 : Int32).toInt + 1 - i5.toInt ≤ (d : Int) → k ≤ 0 → m ≤ 0 → WP (MX1_withWhichAndPile g) Q (32, [some (.ref x), some (.long a0), none, some (.long i3), none, some (.int i5)], [], w, k, m) := by
  rintro n rf md f gc gl ⟨hx, hn, hc, hl, hgc, hgl, hn0, hn1, rx, rn, rc, rl, ⟨d1, d2, d3, d4, d5, d6⟩, ⟨d7, d8, d9, d10, d11, d12⟩⟩ d
  induction d with
  | zero =>
    intro i3 i5 k m z0 hm hk hs
    rw [eX1_withWhichAndPile_32]
    repeat' first
      | with_reducible assumption
      | with_reducible refine And.intro ?_ ?_
      | with_reducible exact vpi6 (by assumption) (by assumption)
      | with_reducible exact vpi8 (by assumption) (by assumption)
      | with_reducible exact (ic_zl (by assumption) (by assumption)).elim
      | with_reducible exact vpi12 (by assumption) (by assumption) (by assumption)
      | with_reducible refine sX1_cardsThatAre (by first | assumption | exact CC.ext (by assumption) (by assumption)) ?_ (by first | assumption | decide) (by first | assumption | decide)
      | with_reducible refine sX1_with ?_
      | with_reducible refine sX1_pileCount (by first | assumption | exact CC.ext (by assumption) (by assumption)) ?_
      | with_reducible refine go_R (by first | assumption | exact hgc _ _ (by assumption) | exact hgl _ _ (by assumption) | exact isR.ext (by assumption) (by assumption) | exact isR.mono (by assumption) (by first | assumption | exact isR.ext (by assumption) (by assumption))) ?_
      | with_reducible exact vp08
      | with_reducible exact hQ _
      | simp only [eX1_withWhichAndPile_0, eX1_withWhichAndPile_1, eX1_withWhichAndPile_2, eX1_withWhichAndPile_3, eX1_withWhichAndPile_7, eX1_withWhichAndPile_8, eX1_withWhichAndPile_11, eX1_withWhichAndPile_12, eX1_withWhichAndPile_12N, eX1_withWhichAndPile_13, eX1_withWhichAndPile_15, eX1_withWhichAndPile_18, eX1_withWhichAndPile_19, eX1_withWhichAndPile_22, eX1_withWhichAndPile_23, eX1_withWhichAndPile_26, eX1_withWhichAndPile_29, eX1_withWhichAndPile_30, eX1_withWhichAndPile_34, eX1_withWhichAndPile_35, eX1_withWhichAndPile_38, eX1_withWhichAndPile_39, eX1_withWhichAndPile_39N, eX1_withWhichAndPile_40, eX1_withWhichAndPile_40N, eX1_withWhichAndPile_41, eX1_withWhichAndPile_44, eX1_withWhichAndPile_45, eX1_withWhichAndPile_46, eX1_withWhichAndPile_48, eX1_withWhichAndPile_51, eX1_withWhichAndPile_52, eX1_withWhichAndPile_55, eX1_withWhichAndPile_56, eX1_withWhichAndPile_59, eX1_withWhichAndPile_62, eX1_withWhichAndPile_63, rx, rn, rc, rl, hx, hn, hc, hl, d1, d2, d3, d4, d5, d6, d7, d8, d9, d10, d11, d12, rd_n, upw_n, ite_le, n45, n54, true_or, or_true, false_or, or_false, false_and, and_false, kx_l, kx_r, go_s, gl_s, gi_s, gb_s2, gb_s3, gq_s, wt_nil, wt_int, wt_long, wt_ref, wt_null, nl_int, nl_long, nl_ref, nl_null, nl_none, rf_n, rf_s, rf_st, tl_s, tl_n, g0, gS, ex1, nb_b, nb_0, nb_1, nf_i, nf_l, nf_ra, nf_ro, nf_na, nf_no, nf_b0, nf_z0, t45_4, t45_5, true_and, and_true, List.set_cons_zero, List.set_cons_succ, List.length_cons, List.length_nil, rd_s, upw_s, ne_eq, not_false_eq_true, Nat.zero_add, Nat.add_zero]
      | split
      | with_reducible intro _
      | omega
  | succ d ih =>
    intro i3 i5 k m z0 hm hk hs
    rw [eX1_withWhichAndPile_32]
    repeat' first
      | with_reducible assumption
      | with_reducible refine And.intro ?_ ?_
      | with_reducible exact vpi6 (by assumption) (by assumption)
      | with_reducible exact vpi8 (by assumption) (by assumption)
      | with_reducible exact ih _ _ _ _ (ic_pl (by assumption) (by assumption) (by decide)) (ic_sl (by assumption) (by assumption) (by decide)) (by first | assumption | omega) (by first | assumption | omega)
      | with_reducible exact vpi12 (by assumption) (by assumption) (by assumption)
      | with_reducible refine sX1_cardsThatAre (by first | assumption | exact CC.ext (by assumption) (by assumption)) ?_ (by first | assumption | decide) (by first | assumption | decide)
      | with_reducible refine sX1_with ?_
      | with_reducible refine sX1_pileCount (by first | assumption | exact CC.ext (by assumption) (by assumption)) ?_
      | with_reducible refine go_R (by first | assumption | exact hgc _ _ (by assumption) | exact hgl _ _ (by assumption) | exact isR.ext (by assumption) (by assumption) | exact isR.mono (by assumption) (by first | assumption | exact isR.ext (by assumption) (by assumption))) ?_
      | with_reducible exact vp08
      | with_reducible exact hQ _
      | simp only [eX1_withWhichAndPile_0, eX1_withWhichAndPile_1, eX1_withWhichAndPile_2, eX1_withWhichAndPile_3, eX1_withWhichAndPile_7, eX1_withWhichAndPile_8, eX1_withWhichAndPile_11, eX1_withWhichAndPile_12, eX1_withWhichAndPile_12N, eX1_withWhichAndPile_13, eX1_withWhichAndPile_15, eX1_withWhichAndPile_18, eX1_withWhichAndPile_19, eX1_withWhichAndPile_22, eX1_withWhichAndPile_23, eX1_withWhichAndPile_26, eX1_withWhichAndPile_29, eX1_withWhichAndPile_30, eX1_withWhichAndPile_34, eX1_withWhichAndPile_35, eX1_withWhichAndPile_38, eX1_withWhichAndPile_39, eX1_withWhichAndPile_39N, eX1_withWhichAndPile_40, eX1_withWhichAndPile_40N, eX1_withWhichAndPile_41, eX1_withWhichAndPile_44, eX1_withWhichAndPile_45, eX1_withWhichAndPile_46, eX1_withWhichAndPile_48, eX1_withWhichAndPile_51, eX1_withWhichAndPile_52, eX1_withWhichAndPile_55, eX1_withWhichAndPile_56, eX1_withWhichAndPile_59, eX1_withWhichAndPile_62, eX1_withWhichAndPile_63, rx, rn, rc, rl, hx, hn, hc, hl, d1, d2, d3, d4, d5, d6, d7, d8, d9, d10, d11, d12, rd_n, upw_n, ite_le, n45, n54, true_or, or_true, false_or, or_false, false_and, and_false, kx_l, kx_r, go_s, gl_s, gi_s, gb_s2, gb_s3, gq_s, wt_nil, wt_int, wt_long, wt_ref, wt_null, nl_int, nl_long, nl_ref, nl_null, nl_none, rf_n, rf_s, rf_st, tl_s, tl_n, g0, gS, ex1, nb_b, nb_0, nb_1, nf_i, nf_l, nf_ra, nf_ro, nf_na, nf_no, nf_b0, nf_z0, t45_4, t45_5, true_and, and_true, List.set_cons_zero, List.set_cons_succ, List.length_cons, List.length_nil, rd_s, upw_s, ne_eq, not_false_eq_true, Nat.zero_add, Nat.add_zero]
      | split
      | with_reducible intro _
      | omega
set_option maxHeartbeats 4000000 in
theorem lX1_withWhichAndPile_5 {a0 : Int64} (hC : CC g w0 x nA cA lA kn w) (hQ : ∀ v : Int64, Q (.inl (some (.long v))) w) : ∀ (n rf md : Int32) (f : Nat → Int64) (gc gl : Nat → Option Nat), RO5 g w x nA cA lA n rf kn md f gc gl → ∀ (d : Nat) (i3 : Int64) (i5 : Int32) (k m : Nat), ¬ i5 < 0 → (2 : Int32).toInt + 1 - i5.toInt ≤ (d : Int) → k ≤ 0 → m ≤ 0 → WP (MX1_withWhichAndPile g) Q (5, [some (.ref x), some (.long a0), none, some (.long i3), none, some (.int i5)], [], w, k, m) := by
  rintro n rf md f gc gl ⟨hx, hn, hc, hl, hgc, hgl, hn0, hn1, rx, rn, rc, rl, ⟨d1, d2, d3, d4, d5, d6⟩, ⟨d7, d8, d9, d10, d11, d12⟩⟩ d
  induction d with
  | zero =>
    intro i3 i5 k m z0 hm hk hs
    rw [eX1_withWhichAndPile_5]
    repeat' first
      | with_reducible assumption
      | with_reducible refine And.intro ?_ ?_
      | with_reducible exact vpi6 (by assumption) (by assumption)
      | with_reducible exact vpi8 (by assumption) (by assumption)
      | with_reducible exact (ic_zl (by assumption) (by assumption)).elim
      | with_reducible exact vpi12 (by assumption) (by assumption) (by assumption)
      | with_reducible refine sX1_cardsThatAre (by first | assumption | exact CC.ext (by assumption) (by assumption)) ?_ (by first | assumption | decide) (by first | assumption | decide)
      | with_reducible refine sX1_with ?_
      | with_reducible refine sX1_pileCount (by first | assumption | exact CC.ext (by assumption) (by assumption)) ?_
      | with_reducible refine go_R (by first | assumption | exact hgc _ _ (by assumption) | exact hgl _ _ (by assumption) | exact isR.ext (by assumption) (by assumption) | exact isR.mono (by assumption) (by first | assumption | exact isR.ext (by assumption) (by assumption))) ?_
      | with_reducible exact vp08
      | with_reducible exact lX1_withWhichAndPile_32 hC hQ _ _ _ _ _ _ ⟨hx, hn, hc, hl, hgc, hgl, hn0, hn1, rx, rn, rc, rl, ⟨d1, d2, d3, d4, d5, d6⟩, ⟨d7, d8, d9, d10, d11, d12⟩⟩ 70 _ _ _ _ (by first | decide | assumption) (by first | decide | exact n12 (by assumption) | exact n60 (by assumption)) (by first | decide | omega) (by first | decide | omega)
      | with_reducible exact hQ _
      | simp only [eX1_withWhichAndPile_0, eX1_withWhichAndPile_1, eX1_withWhichAndPile_2, eX1_withWhichAndPile_3, eX1_withWhichAndPile_7, eX1_withWhichAndPile_8, eX1_withWhichAndPile_11, eX1_withWhichAndPile_12, eX1_withWhichAndPile_12N, eX1_withWhichAndPile_13, eX1_withWhichAndPile_15, eX1_withWhichAndPile_18, eX1_withWhichAndPile_19, eX1_withWhichAndPile_22, eX1_withWhichAndPile_23, eX1_withWhichAndPile_26, eX1_withWhichAndPile_29, eX1_withWhichAndPile_30, eX1_withWhichAndPile_34, eX1_withWhichAndPile_35, eX1_withWhichAndPile_38, eX1_withWhichAndPile_39, eX1_withWhichAndPile_39N, eX1_withWhichAndPile_40, eX1_withWhichAndPile_40N, eX1_withWhichAndPile_41, eX1_withWhichAndPile_44, eX1_withWhichAndPile_45, eX1_withWhichAndPile_46, eX1_withWhichAndPile_48, eX1_withWhichAndPile_51, eX1_withWhichAndPile_52, eX1_withWhichAndPile_55, eX1_withWhichAndPile_56, eX1_withWhichAndPile_59, eX1_withWhichAndPile_62, eX1_withWhichAndPile_63, rx, rn, rc, rl, hx, hn, hc, hl, d1, d2, d3, d4, d5, d6, d7, d8, d9, d10, d11, d12, rd_n, upw_n, ite_le, n45, n54, true_or, or_true, false_or, or_false, false_and, and_false, kx_l, kx_r, go_s, gl_s, gi_s, gb_s2, gb_s3, gq_s, wt_nil, wt_int, wt_long, wt_ref, wt_null, nl_int, nl_long, nl_ref, nl_null, nl_none, rf_n, rf_s, rf_st, tl_s, tl_n, g0, gS, ex1, nb_b, nb_0, nb_1, nf_i, nf_l, nf_ra, nf_ro, nf_na, nf_no, nf_b0, nf_z0, t45_4, t45_5, true_and, and_true, List.set_cons_zero, List.set_cons_succ, List.length_cons, List.length_nil, rd_s, upw_s, ne_eq, not_false_eq_true, Nat.zero_add, Nat.add_zero]
      | split
      | with_reducible intro _
      | omega
  | succ d ih =>
    intro i3 i5 k m z0 hm hk hs
    rw [eX1_withWhichAndPile_5]
    repeat' first
      | with_reducible assumption
      | with_reducible refine And.intro ?_ ?_
      | with_reducible exact vpi6 (by assumption) (by assumption)
      | with_reducible exact vpi8 (by assumption) (by assumption)
      | with_reducible exact ih _ _ _ _ (ic_pl (by assumption) (by assumption) (by decide)) (ic_sl (by assumption) (by assumption) (by decide)) (by first | assumption | omega) (by first | assumption | omega)
      | with_reducible exact vpi12 (by assumption) (by assumption) (by assumption)
      | with_reducible refine sX1_cardsThatAre (by first | assumption | exact CC.ext (by assumption) (by assumption)) ?_ (by first | assumption | decide) (by first | assumption | decide)
      | with_reducible refine sX1_with ?_
      | with_reducible refine sX1_pileCount (by first | assumption | exact CC.ext (by assumption) (by assumption)) ?_
      | with_reducible refine go_R (by first | assumption | exact hgc _ _ (by assumption) | exact hgl _ _ (by assumption) | exact isR.ext (by assumption) (by assumption) | exact isR.mono (by assumption) (by first | assumption | exact isR.ext (by assumption) (by assumption))) ?_
      | with_reducible exact vp08
      | with_reducible exact lX1_withWhichAndPile_32 hC hQ _ _ _ _ _ _ ⟨hx, hn, hc, hl, hgc, hgl, hn0, hn1, rx, rn, rc, rl, ⟨d1, d2, d3, d4, d5, d6⟩, ⟨d7, d8, d9, d10, d11, d12⟩⟩ 70 _ _ _ _ (by first | decide | assumption) (by first | decide | exact n12 (by assumption) | exact n60 (by assumption)) (by first | decide | omega) (by first | decide | omega)
      | with_reducible exact hQ _
      | simp only [eX1_withWhichAndPile_0, eX1_withWhichAndPile_1, eX1_withWhichAndPile_2, eX1_withWhichAndPile_3, eX1_withWhichAndPile_7, eX1_withWhichAndPile_8, eX1_withWhichAndPile_11, eX1_withWhichAndPile_12, eX1_withWhichAndPile_12N, eX1_withWhichAndPile_13, eX1_withWhichAndPile_15, eX1_withWhichAndPile_18, eX1_withWhichAndPile_19, eX1_withWhichAndPile_22, eX1_withWhichAndPile_23, eX1_withWhichAndPile_26, eX1_withWhichAndPile_29, eX1_withWhichAndPile_30, eX1_withWhichAndPile_34, eX1_withWhichAndPile_35, eX1_withWhichAndPile_38, eX1_withWhichAndPile_39, eX1_withWhichAndPile_39N, eX1_withWhichAndPile_40, eX1_withWhichAndPile_40N, eX1_withWhichAndPile_41, eX1_withWhichAndPile_44, eX1_withWhichAndPile_45, eX1_withWhichAndPile_46, eX1_withWhichAndPile_48, eX1_withWhichAndPile_51, eX1_withWhichAndPile_52, eX1_withWhichAndPile_55, eX1_withWhichAndPile_56, eX1_withWhichAndPile_59, eX1_withWhichAndPile_62, eX1_withWhichAndPile_63, rx, rn, rc, rl, hx, hn, hc, hl, d1, d2, d3, d4, d5, d6, d7, d8, d9, d10, d11, d12, rd_n, upw_n, ite_le, n45, n54, true_or, or_true, false_or, or_false, false_and, and_false, kx_l, kx_r, go_s, gl_s, gi_s, gb_s2, gb_s3, gq_s, wt_nil, wt_int, wt_long, wt_ref, wt_null, nl_int, nl_long, nl_ref, nl_null, nl_none, rf_n, rf_s, rf_st, tl_s, tl_n, g0, gS, ex1, nb_b, nb_0, nb_1, nf_i, nf_l, nf_ra, nf_ro, nf_na, nf_no, nf_b0, nf_z0, t45_4, t45_5, true_and, and_true, List.set_cons_zero, List.set_cons_succ, List.length_cons, List.length_nil, rd_s, upw_s, ne_eq, not_false_eq_true, Nat.zero_add, Nat.add_zero]
      | split
      | with_reducible intro _
      | omega
set_option maxHeartbeats 4000000 in
theorem sX1_withWhichAndPile {a0 : Int64} (hC : CC g w0 x nA cA lA kn w) (hQ : ∀ v : Int64, Q (.inl (some (.long v))) w) : WP (MX1_withWhichAndPile g) Q (0, [some (.ref x), some (.long a0), none, none, none, none], [], w, 0, 0) := by
  obtain ⟨n, rf, md, f, gc, gl, hx, hn, hc, hl, hgc, hgl, hn0, hn1, rx, rn, rc, rl, ⟨d1, d2, d3, d4, d5, d6⟩, ⟨d7, d8, d9, d10, d11, d12⟩⟩ := hC.1.opn g
  repeat' first
    | with_reducible assumption
    | with_reducible refine And.intro ?_ ?_
    | with_reducible exact vpi6 (by assumption) (by assumption)
    | with_reducible exact vpi8 (by assumption) (by assumption)
    | with_reducible exact lX1_withWhichAndPile_32 hC hQ _ _ _ _ _ _ ⟨hx, hn, hc, hl, hgc, hgl, hn0, hn1, rx, rn, rc, rl, ⟨d1, d2, d3, d4, d5, d6⟩, ⟨d7, d8, d9, d10, d11, d12⟩⟩ 70 _ _ _ _ (by first | decide | assumption) (by first | decide | exact n12 (by assumption) | exact n60 (by assumption)) (by first | decide | omega) (by first | decide | omega)
    | with_reducible exact lX1_withWhichAndPile_5 hC hQ _ _ _ _ _ _ ⟨hx, hn, hc, hl, hgc, hgl, hn0, hn1, rx, rn, rc, rl, ⟨d1, d2, d3, d4, d5, d6⟩, ⟨d7, d8, d9, d10, d11, d12⟩⟩ 70 _ _ _ _ (by first | decide | assumption) (by first | decide | exact n12 (by assumption) | exact n60 (by assumption)) (by first | decide | omega) (by first | decide | omega)
    | with_reducible refine sX1_cardsThatAre (by first | assumption | exact CC.ext (by assumption) (by assumption)) ?_ (by first | assumption | decide) (by first | assumption | decide)
    | with_reducible refine sX1_with ?_
    | with_reducible refine sX1_pileCount (by first | assumption | exact CC.ext (by assumption) (by assumption)) ?_
    | with_reducible refine go_R (by first | assumption | exact hgc _ _ (by assumption) | exact hgl _ _ (by assumption) | exact isR.ext (by assumption) (by assumption) | exact isR.mono (by assumption) (by first | assumption | exact isR.ext (by assumption) (by assumption))) ?_
    | with_reducible exact hQ _
    | simp only [eX1_withWhichAndPile_0, eX1_withWhichAndPile_1, eX1_withWhichAndPile_2, eX1_withWhichAndPile_3, eX1_withWhichAndPile_7, eX1_withWhichAndPile_8, eX1_withWhichAndPile_11, eX1_withWhichAndPile_12, eX1_withWhichAndPile_12N, eX1_withWhichAndPile_13, eX1_withWhichAndPile_15, eX1_withWhichAndPile_18, eX1_withWhichAndPile_19, eX1_withWhichAndPile_22, eX1_withWhichAndPile_23, eX1_withWhichAndPile_26, eX1_withWhichAndPile_29, eX1_withWhichAndPile_30, eX1_withWhichAndPile_34, eX1_withWhichAndPile_35, eX1_withWhichAndPile_38, eX1_withWhichAndPile_39, eX1_withWhichAndPile_39N, eX1_withWhichAndPile_40, eX1_withWhichAndPile_40N, eX1_withWhichAndPile_41, eX1_withWhichAndPile_44, eX1_withWhichAndPile_45, eX1_withWhichAndPile_46, eX1_withWhichAndPile_48, eX1_withWhichAndPile_51, eX1_withWhichAndPile_52, eX1_withWhichAndPile_55, eX1_withWhichAndPile_56, eX1_withWhichAndPile_59, eX1_withWhichAndPile_62, eX1_withWhichAndPile_63, rx, rn, rc, rl, hx, hn, hc, hl, d1, d2, d3, d4, d5, d6, d7, d8, d9, d10, d11, d12, rd_n, upw_n, ite_le, n45, n54, true_or, or_true, false_or, or_false, false_and, and_false, kx_l, kx_r, go_s, gl_s, gi_s, gb_s2, gb_s3, gq_s, wt_nil, wt_int, wt_long, wt_ref, wt_null, nl_int, nl_long, nl_ref, nl_null, nl_none, rf_n, rf_s, rf_st, tl_s, tl_n, g0, gS, ex1, nb_b, nb_0, nb_1, nf_i, nf_l, nf_ra, nf_ro, nf_na, nf_no, nf_b0, nf_z0, t45_4, t45_5, true_and, and_true, List.set_cons_zero, List.set_cons_succ, List.length_cons, List.length_nil, rd_s, upw_s, ne_eq, not_false_eq_true, Nat.zero_add, Nat.add_zero]
    | split
    | with_reducible intro _
    | omega
end
