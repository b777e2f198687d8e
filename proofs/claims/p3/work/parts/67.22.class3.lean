section
variable {g : RO} {Q : Ot → Hw → Prop} {w0 w : Hw} {x nA cA lA : Nat} {kn : Int32}
set_option maxHeartbeats 4000000 in
theorem sX1_isCounted {a0 : Nat} {a1 : Int32} {a2 : Int64} {a3 : Int32} (hC : CC g w0 x nA cA lA kn w) (h0 : isR w a0) (hQ : ∀ v : Bool, Q (.inl (some (.int (bI v)))) w) : WP (MX1_isCounted g) Q (0, [some (.ref x), some (.ref a0), some (.int a1), some (.long a2), none, some (.int a3)], [], w, 0, 0) := by
  obtain ⟨n, rf, md, f, gc, gl, hx, hn, hc, hl, hgc, hgl, hn0, hn1, rx, rn, rc, rl, ⟨d1, d2, d3, d4, d5, d6⟩, ⟨d7, d8, d9, d10, d11, d12⟩⟩ := hC.1.opn g
  have hQt : Q (.inl (some (.int 1))) w := hQ true
  have hQf : Q (.inl (some (.int 0))) w := hQ false
  rcases sw15 a3 with rfl | rfl | rfl | rfl | rfl | hsw
  · repeat' first
      | with_reducible assumption
      | with_reducible refine And.intro ?_ ?_
      | with_reducible exact vpi6 (by assumption) (by assumption)
      | with_reducible exact vpi8 (by assumption) (by assumption)
      | with_reducible refine sX0_holds (by first | assumption | exact hgc _ _ (by assumption) | exact hgl _ _ (by assumption) | exact isR.ext (by assumption) (by assumption)) ?_
      | with_reducible refine sX0_holdsAsSmall (by first | assumption | exact hgc _ _ (by assumption) | exact hgl _ _ (by assumption) | exact isR.ext (by assumption) (by assumption)) ?_
      | with_reducible refine sX0_isSettled (by first | assumption | exact hgc _ _ (by assumption) | exact hgl _ _ (by assumption) | exact isR.ext (by assumption) (by assumption)) ?_
      | with_reducible refine sX0_fitsSmall (by first | assumption | exact hgc _ _ (by assumption) | exact hgl _ _ (by assumption) | exact isR.ext (by assumption) (by assumption)) ?_
      | with_reducible refine sX1_firstPlaceOf (by first | assumption | exact CC.ext (by assumption) (by assumption)) (by first | assumption | exact hgc _ _ (by assumption) | exact hgl _ _ (by assumption) | exact isR.ext (by assumption) (by assumption)) ?_
      | with_reducible refine go_R (by first | assumption | exact hgc _ _ (by assumption) | exact hgl _ _ (by assumption) | exact isR.ext (by assumption) (by assumption)) ?_
      | with_reducible exact hQ _
      | with_reducible exact hQt
      | with_reducible exact hQf
      | simp only [eX1_isCounted_0, eX1_isCounted_2_0, eX1_isCounted_2_1, eX1_isCounted_2_2, eX1_isCounted_2_3, eX1_isCounted_2_4, eX1_isCounted_2_d6, eX1_isCounted_2_d7, eX1_isCounted_36, eX1_isCounted_36N, eX1_isCounted_37, eX1_isCounted_38, eX1_isCounted_41, eX1_isCounted_42, eX1_isCounted_42N, eX1_isCounted_43, eX1_isCounted_44, eX1_isCounted_47, eX1_isCounted_48, eX1_isCounted_48N, eX1_isCounted_49, eX1_isCounted_52, eX1_isCounted_53, eX1_isCounted_53N, eX1_isCounted_54, eX1_isCounted_57, eX1_isCounted_58, eX1_isCounted_58N, eX1_isCounted_59, eX1_isCounted_59N, eX1_isCounted_60R, eX1_isCounted_60N, eX1_isCounted_63, eX1_isCounted_64, eX1_isCounted_67, eX1_isCounted_68, eX1_isCounted_71, eX1_isCounted_72, eX1_isCounted_73, eX1_isCounted_74, rx, rn, rc, rl, hx, hn, hc, hl, d1, d2, d3, d4, d5, d6, d7, d8, d9, d10, d11, d12, rd_n, upw_n, ite_le, n45, n54, true_or, or_true, false_or, or_false, false_and, and_false, kx_l, kx_r, go_s, gl_s, gi_s, gb_s2, gb_s3, gq_s, wt_nil, wt_int, wt_long, wt_ref, wt_null, nl_int, nl_long, nl_ref, nl_null, nl_none, rf_n, rf_s, rf_st, tl_s, tl_n, g0, gS, ex1, nb_b, nb_0, nb_1, nf_i, nf_l, nf_ra, nf_ro, nf_na, nf_no, nf_b0, nf_z0, t45_4, t45_5, true_and, and_true, List.set_cons_zero, List.set_cons_succ, List.length_cons, List.length_nil, rd_s, upw_s, ne_eq, not_false_eq_true, Nat.zero_add, Nat.add_zero]
      | split
      | with_reducible intro _
      | omega
  · repeat' first
      | with_reducible assumption
      | with_reducible refine And.intro ?_ ?_
      | with_reducible exact vpi6 (by assumption) (by assumption)
      | with_reducible exact vpi8 (by assumption) (by assumption)
      | with_reducible refine sX0_holds (by first | assumption | exact hgc _ _ (by assumption) | exact hgl _ _ (by assumption) | exact isR.ext (by assumption) (by assumption)) ?_
      | with_reducible refine sX0_holdsAsSmall (by first | assumption | exact hgc _ _ (by assumption) | exact hgl _ _ (by assumption) | exact isR.ext (by assumption) (by assumption)) ?_
      | with_reducible refine sX0_isSettled (by first | assumption | exact hgc _ _ (by assumption) | exact hgl _ _ (by assumption) | exact isR.ext (by assumption) (by assumption)) ?_
      | with_reducible refine sX0_fitsSmall (by first | assumption | exact hgc _ _ (by assumption) | exact hgl _ _ (by assumption) | exact isR.ext (by assumption) (by assumption)) ?_
      | with_reducible refine sX1_firstPlaceOf (by first | assumption | exact CC.ext (by assumption) (by assumption)) (by first | assumption | exact hgc _ _ (by assumption) | exact hgl _ _ (by assumption) | exact isR.ext (by assumption) (by assumption)) ?_
      | with_reducible refine go_R (by first | assumption | exact hgc _ _ (by assumption) | exact hgl _ _ (by assumption) | exact isR.ext (by assumption) (by assumption)) ?_
      | with_reducible exact hQ _
      | with_reducible exact hQt
      | with_reducible exact hQf
      | simp only [eX1_isCounted_0, eX1_isCounted_2_0, eX1_isCounted_2_1, eX1_isCounted_2_2, eX1_isCounted_2_3, eX1_isCounted_2_4, eX1_isCounted_2_d6, eX1_isCounted_2_d7, eX1_isCounted_36, eX1_isCounted_36N, eX1_isCounted_37, eX1_isCounted_38, eX1_isCounted_41, eX1_isCounted_42, eX1_isCounted_42N, eX1_isCounted_43, eX1_isCounted_44, eX1_isCounted_47, eX1_isCounted_48, eX1_isCounted_48N, eX1_isCounted_49, eX1_isCounted_52, eX1_isCounted_53, eX1_isCounted_53N, eX1_isCounted_54, eX1_isCounted_57, eX1_isCounted_58, eX1_isCounted_58N, eX1_isCounted_59, eX1_isCounted_59N, eX1_isCounted_60R, eX1_isCounted_60N, eX1_isCounted_63, eX1_isCounted_64, eX1_isCounted_67, eX1_isCounted_68, eX1_isCounted_71, eX1_isCounted_72, eX1_isCounted_73, eX1_isCounted_74, rx, rn, rc, rl, hx, hn, hc, hl, d1, d2, d3, d4, d5, d6, d7, d8, d9, d10, d11, d12, rd_n, upw_n, ite_le, n45, n54, true_or, or_true, false_or, or_false, false_and, and_false, kx_l, kx_r, go_s, gl_s, gi_s, gb_s2, gb_s3, gq_s, wt_nil, wt_int, wt_long, wt_ref, wt_null, nl_int, nl_long, nl_ref, nl_null, nl_none, rf_n, rf_s, rf_st, tl_s, tl_n, g0, gS, ex1, nb_b, nb_0, nb_1, nf_i, nf_l, nf_ra, nf_ro, nf_na, nf_no, nf_b0, nf_z0, t45_4, t45_5, true_and, and_true, List.set_cons_zero, List.set_cons_succ, List.length_cons, List.length_nil, rd_s, upw_s, ne_eq, not_false_eq_true, Nat.zero_add, Nat.add_zero]
      | split
      | with_reducible intro _
      | omega
  · repeat' first
      | with_reducible assumption
      | with_reducible refine And.intro ?_ ?_
      | with_reducible exact vpi6 (by assumption) (by assumption)
      | with_reducible exact vpi8 (by assumption) (by assumption)
      | with_reducible refine sX0_holds (by first | assumption | exact hgc _ _ (by assumption) | exact hgl _ _ (by assumption) | exact isR.ext (by assumption) (by assumption)) ?_
      | with_reducible refine sX0_holdsAsSmall (by first | assumption | exact hgc _ _ (by assumption) | exact hgl _ _ (by assumption) | exact isR.ext (by assumption) (by assumption)) ?_
      | with_reducible refine sX0_isSettled (by first | assumption | exact hgc _ _ (by assumption) | exact hgl _ _ (by assumption) | exact isR.ext (by assumption) (by assumption)) ?_
      | with_reducible refine sX0_fitsSmall (by first | assumption | exact hgc _ _ (by assumption) | exact hgl _ _ (by assumption) | exact isR.ext (by assumption) (by assumption)) ?_
      | with_reducible refine sX1_firstPlaceOf (by first | assumption | exact CC.ext (by assumption) (by assumption)) (by first | assumption | exact hgc _ _ (by assumption) | exact hgl _ _ (by assumption) | exact isR.ext (by assumption) (by assumption)) ?_
      | with_reducible refine go_R (by first | assumption | exact hgc _ _ (by assumption) | exact hgl _ _ (by assumption) | exact isR.ext (by assumption) (by assumption)) ?_
      | with_reducible exact hQ _
      | with_reducible exact hQt
      | with_reducible exact hQf
      | simp only [eX1_isCounted_0, eX1_isCounted_2_0, eX1_isCounted_2_1, eX1_isCounted_2_2, eX1_isCounted_2_3, eX1_isCounted_2_4, eX1_isCounted_2_d6, eX1_isCounted_2_d7, eX1_isCounted_36, eX1_isCounted_36N, eX1_isCounted_37, eX1_isCounted_38, eX1_isCounted_41, eX1_isCounted_42, eX1_isCounted_42N, eX1_isCounted_43, eX1_isCounted_44, eX1_isCounted_47, eX1_isCounted_48, eX1_isCounted_48N, eX1_isCounted_49, eX1_isCounted_52, eX1_isCounted_53, eX1_isCounted_53N, eX1_isCounted_54, eX1_isCounted_57, eX1_isCounted_58, eX1_isCounted_58N, eX1_isCounted_59, eX1_isCounted_59N, eX1_isCounted_60R, eX1_isCounted_60N, eX1_isCounted_63, eX1_isCounted_64, eX1_isCounted_67, eX1_isCounted_68, eX1_isCounted_71, eX1_isCounted_72, eX1_isCounted_73, eX1_isCounted_74, rx, rn, rc, rl, hx, hn, hc, hl, d1, d2, d3, d4, d5, d6, d7, d8, d9, d10, d11, d12, rd_n, upw_n, ite_le, n45, n54, true_or, or_true, false_or, or_false, false_and, and_false, kx_l, kx_r, go_s, gl_s, gi_s, gb_s2, gb_s3, gq_s, wt_nil, wt_int, wt_long, wt_ref, wt_null, nl_int, nl_long, nl_ref, nl_null, nl_none, rf_n, rf_s, rf_st, tl_s, tl_n, g0, gS, ex1, nb_b, nb_0, nb_1, nf_i, nf_l, nf_ra, nf_ro, nf_na, nf_no, nf_b0, nf_z0, t45_4, t45_5, true_and, and_true, List.set_cons_zero, List.set_cons_succ, List.length_cons, List.length_nil, rd_s, upw_s, ne_eq, not_false_eq_true, Nat.zero_add, Nat.add_zero]
      | split
      | with_reducible intro _
      | omega
  · repeat' first
      | with_reducible assumption
      | with_reducible refine And.intro ?_ ?_
      | with_reducible exact vpi6 (by assumption) (by assumption)
      | with_reducible exact vpi8 (by assumption) (by assumption)
      | with_reducible refine sX0_holds (by first | assumption | exact hgc _ _ (by assumption) | exact hgl _ _ (by assumption) | exact isR.ext (by assumption) (by assumption)) ?_
      | with_reducible refine sX0_holdsAsSmall (by first | assumption | exact hgc _ _ (by assumption) | exact hgl _ _ (by assumption) | exact isR.ext (by assumption) (by assumption)) ?_
      | with_reducible refine sX0_isSettled (by first | assumption | exact hgc _ _ (by assumption) | exact hgl _ _ (by assumption) | exact isR.ext (by assumption) (by assumption)) ?_
      | with_reducible refine sX0_fitsSmall (by first | assumption | exact hgc _ _ (by assumption) | exact hgl _ _ (by assumption) | exact isR.ext (by assumption) (by assumption)) ?_
      | with_reducible refine sX1_firstPlaceOf (by first | assumption | exact CC.ext (by assumption) (by assumption)) (by first | assumption | exact hgc _ _ (by assumption) | exact hgl _ _ (by assumption) | exact isR.ext (by assumption) (by assumption)) ?_
      | with_reducible refine go_R (by first | assumption | exact hgc _ _ (by assumption) | exact hgl _ _ (by assumption) | exact isR.ext (by assumption) (by assumption)) ?_
      | with_reducible exact hQ _
      | with_reducible exact hQt
      | with_reducible exact hQf
      | simp only [eX1_isCounted_0, eX1_isCounted_2_0, eX1_isCounted_2_1, eX1_isCounted_2_2, eX1_isCounted_2_3, eX1_isCounted_2_4, eX1_isCounted_2_d6, eX1_isCounted_2_d7, eX1_isCounted_36, eX1_isCounted_36N, eX1_isCounted_37, eX1_isCounted_38, eX1_isCounted_41, eX1_isCounted_42, eX1_isCounted_42N, eX1_isCounted_43, eX1_isCounted_44, eX1_isCounted_47, eX1_isCounted_48, eX1_isCounted_48N, eX1_isCounted_49, eX1_isCounted_52, eX1_isCounted_53, eX1_isCounted_53N, eX1_isCounted_54, eX1_isCounted_57, eX1_isCounted_58, eX1_isCounted_58N, eX1_isCounted_59, eX1_isCounted_59N, eX1_isCounted_60R, eX1_isCounted_60N, eX1_isCounted_63, eX1_isCounted_64, eX1_isCounted_67, eX1_isCounted_68, eX1_isCounted_71, eX1_isCounted_72, eX1_isCounted_73, eX1_isCounted_74, rx, rn, rc, rl, hx, hn, hc, hl, d1, d2, d3, d4, d5, d6, d7, d8, d9, d10, d11, d12, rd_n, upw_n, ite_le, n45, n54, true_or, or_true, false_or, or_false, false_and, and_false, kx_l, kx_r, go_s, gl_s, gi_s, gb_s2, gb_s3, gq_s, wt_nil, wt_int, wt_long, wt_ref, wt_null, nl_int, nl_long, nl_ref, nl_null, nl_none, rf_n, rf_s, rf_st, tl_s, tl_n, g0, gS, ex1, nb_b, nb_0, nb_1, nf_i, nf_l, nf_ra, nf_ro, nf_na, nf_no, nf_b0, nf_z0, t45_4, t45_5, true_and, and_true, List.set_cons_zero, List.set_cons_succ, List.length_cons, List.length_nil, rd_s, upw_s, ne_eq, not_false_eq_true, Nat.zero_add, Nat.add_zero]
      | split
      | with_reducible intro _
      | omega
  · repeat' first
      | with_reducible assumption
      | with_reducible refine And.intro ?_ ?_
      | with_reducible exact vpi6 (by assumption) (by assumption)
      | with_reducible exact vpi8 (by assumption) (by assumption)
      | with_reducible refine sX0_holds (by first | assumption | exact hgc _ _ (by assumption) | exact hgl _ _ (by assumption) | exact isR.ext (by assumption) (by assumption)) ?_
      | with_reducible refine sX0_holdsAsSmall (by first | assumption | exact hgc _ _ (by assumption) | exact hgl _ _ (by assumption) | exact isR.ext (by assumption) (by assumption)) ?_
      | with_reducible refine sX0_isSettled (by first | assumption | exact hgc _ _ (by assumption) | exact hgl _ _ (by assumption) | exact isR.ext (by assumption) (by assumption)) ?_
      | with_reducible refine sX0_fitsSmall (by first | assumption | exact hgc _ _ (by assumption) | exact hgl _ _ (by assumption) | exact isR.ext (by assumption) (by assumption)) ?_
      | with_reducible refine sX1_firstPlaceOf (by first | assumption | exact CC.ext (by assumption) (by assumption)) (by first | assumption | exact hgc _ _ (by assumption) | exact hgl _ _ (by assumption) | exact isR.ext (by assumption) (by assumption)) ?_
      | with_reducible refine go_R (by first | assumption | exact hgc _ _ (by assumption) | exact hgl _ _ (by assumption) | exact isR.ext (by assumption) (by assumption)) ?_
      | with_reducible exact hQ _
      | with_reducible exact hQt
      | with_reducible exact hQf
      | simp only [eX1_isCounted_0, eX1_isCounted_2_0, eX1_isCounted_2_1, eX1_isCounted_2_2, eX1_isCounted_2_3, eX1_isCounted_2_4, eX1_isCounted_2_d6, eX1_isCounted_2_d7, eX1_isCounted_36, eX1_isCounted_36N, eX1_isCounted_37, eX1_isCounted_38, eX1_isCounted_41, eX1_isCounted_42, eX1_isCounted_42N, eX1_isCounted_43, eX1_isCounted_44, eX1_isCounted_47, eX1_isCounted_48, eX1_isCounted_48N, eX1_isCounted_49, eX1_isCounted_52, eX1_isCounted_53, eX1_isCounted_53N, eX1_isCounted_54, eX1_isCounted_57, eX1_isCounted_58, eX1_isCounted_58N, eX1_isCounted_59, eX1_isCounted_59N, eX1_isCounted_60R, eX1_isCounted_60N, eX1_isCounted_63, eX1_isCounted_64, eX1_isCounted_67, eX1_isCounted_68, eX1_isCounted_71, eX1_isCounted_72, eX1_isCounted_73, eX1_isCounted_74, rx, rn, rc, rl, hx, hn, hc, hl, d1, d2, d3, d4, d5, d6, d7, d8, d9, d10, d11, d12, rd_n, upw_n, ite_le, n45, n54, true_or, or_true, false_or, or_false, false_and, and_false, kx_l, kx_r, go_s, gl_s, gi_s, gb_s2, gb_s3, gq_s, wt_nil, wt_int, wt_long, wt_ref, wt_null, nl_int, nl_long, nl_ref, nl_null, nl_none, rf_n, rf_s, rf_st, tl_s, tl_n, g0, gS, ex1, nb_b, nb_0, nb_1, nf_i, nf_l, nf_ra, nf_ro, nf_na, nf_no, nf_b0, nf_z0, t45_4, t45_5, true_and, and_true, List.set_cons_zero, List.set_cons_succ, List.length_cons, List.length_nil, rd_s, upw_s, ne_eq, not_false_eq_true, Nat.zero_add, Nat.add_zero]
      | split
      | with_reducible intro _
      | omega
  · repeat' first
      | with_reducible assumption
      | with_reducible refine And.intro ?_ ?_
      | with_reducible exact vpi6 (by assumption) (by assumption)
      | with_reducible exact vpi8 (by assumption) (by assumption)
      | with_reducible refine sX0_holds (by first | assumption | exact hgc _ _ (by assumption) | exact hgl _ _ (by assumption) | exact isR.ext (by assumption) (by assumption)) ?_
      | with_reducible refine sX0_holdsAsSmall (by first | assumption | exact hgc _ _ (by assumption) | exact hgl _ _ (by assumption) | exact isR.ext (by assumption) (by assumption)) ?_
      | with_reducible refine sX0_isSettled (by first | assumption | exact hgc _ _ (by assumption) | exact hgl _ _ (by assumption) | exact isR.ext (by assumption) (by assumption)) ?_
      | with_reducible refine sX0_fitsSmall (by first | assumption | exact hgc _ _ (by assumption) | exact hgl _ _ (by assumption) | exact isR.ext (by assumption) (by assumption)) ?_
      | with_reducible refine sX1_firstPlaceOf (by first | assumption | exact CC.ext (by assumption) (by assumption)) (by first | assumption | exact hgc _ _ (by assumption) | exact hgl _ _ (by assumption) | exact isR.ext (by assumption) (by assumption)) ?_
      | with_reducible refine go_R (by first | assumption | exact hgc _ _ (by assumption) | exact hgl _ _ (by assumption) | exact isR.ext (by assumption) (by assumption)) ?_
      | with_reducible exact hQ _
      | with_reducible exact hQt
      | with_reducible exact hQf
      | simp only [eX1_isCounted_0, eX1_isCounted_2_0, eX1_isCounted_2_1, eX1_isCounted_2_2, eX1_isCounted_2_3, eX1_isCounted_2_4, eX1_isCounted_2_d6, eX1_isCounted_2_d7, eX1_isCounted_36, eX1_isCounted_36N, eX1_isCounted_37, eX1_isCounted_38, eX1_isCounted_41, eX1_isCounted_42, eX1_isCounted_42N, eX1_isCounted_43, eX1_isCounted_44, eX1_isCounted_47, eX1_isCounted_48, eX1_isCounted_48N, eX1_isCounted_49, eX1_isCounted_52, eX1_isCounted_53, eX1_isCounted_53N, eX1_isCounted_54, eX1_isCounted_57, eX1_isCounted_58, eX1_isCounted_58N, eX1_isCounted_59, eX1_isCounted_59N, eX1_isCounted_60R, eX1_isCounted_60N, eX1_isCounted_63, eX1_isCounted_64, eX1_isCounted_67, eX1_isCounted_68, eX1_isCounted_71, eX1_isCounted_72, eX1_isCounted_73, eX1_isCounted_74, rx, rn, rc, rl, hx, hn, hc, hl, d1, d2, d3, d4, d5, d6, d7, d8, d9, d10, d11, d12, rd_n, upw_n, eX1_isCounted_2_d hsw, ite_le, n45, n54, true_or, or_true, false_or, or_false, false_and, and_false, kx_l, kx_r, go_s, gl_s, gi_s, gb_s2, gb_s3, gq_s, wt_nil, wt_int, wt_long, wt_ref, wt_null, nl_int, nl_long, nl_ref, nl_null, nl_none, rf_n, rf_s, rf_st, tl_s, tl_n, g0, gS, ex1, nb_b, nb_0, nb_1, nf_i, nf_l, nf_ra, nf_ro, nf_na, nf_no, nf_b0, nf_z0, t45_4, t45_5, true_and, and_true, List.set_cons_zero, List.set_cons_succ, List.length_cons, List.length_nil, rd_s, upw_s, ne_eq, not_false_eq_true, Nat.zero_add, Nat.add_zero]
      | split
      | with_reducible intro _
      | omega
set_option maxHeartbeats 4000000 in
theorem lX1_pileCount_6 {a0 : Int64} {a1 : Int32} (hC : CC g w0 x nA cA lA kn w) (hQ : ∀ v : Int32, Q (.inl (some (.int v))) w) : ∀ (n rf md : Int32) (f : Nat → Int64) (gc gl : Nat → Option Nat), RO5 g w x nA cA lA n rf kn md f gc gl → ∀ (d : Nat) (i4 : Int32) (i5 : Int32) (i6 : Option Value) (k m : Nat), ¬ i5 < 0 → (n : Int32).toInt - i5.toInt ≤ (d : Int) → k ≤ 0 → m ≤ 0 → WP (MX1_pileCount g) Q (6, [some (.ref x), some (.long a0), none, some (.int a1), some (.int i4), some (.int i5), i6], [], w, k, m) := by
  rintro n rf md f gc gl ⟨hx, hn, hc, hl, hgc, hgl, hn0, hn1, rx, rn, rc, rl, ⟨d1, d2, d3, d4, d5, d6⟩, ⟨d7, d8, d9, d10, d11, d12⟩⟩ d
  induction d with
  | zero =>
    intro i4 i5 i6 k m z0 hm hk hs
    rw [eX1_pileCount_6]
    repeat' first
      | with_reducible assumption
      | with_reducible refine And.intro ?_ ?_
      | with_reducible exact vpi6 (by assumption) (by assumption)
      | with_reducible exact vpi8 (by assumption) (by assumption)
      | with_reducible exact (ic_z (by assumption) (by assumption)).elim
      | with_reducible exact vpi12 (by assumption) (by assumption) (by assumption)
      | with_reducible refine sX1_isCounted (by first | assumption | exact CC.ext (by assumption) (by assumption)) (by first | assumption | exact hgc _ _ (by assumption) | exact hgl _ _ (by assumption) | exact isR.ext (by assumption) (by assumption)) ?_
      | with_reducible refine sX1_asNumber ?_
      | with_reducible refine go_R (by first | assumption | exact hgc _ _ (by assumption) | exact hgl _ _ (by assumption) | exact isR.ext (by assumption) (by assumption)) ?_
      | with_reducible exact hQ _
      | simp only [eX1_pileCount_0, eX1_pileCount_1, eX1_pileCount_3, eX1_pileCount_4, eX1_pileCount_8, eX1_pileCount_8N, eX1_pileCount_9, eX1_pileCount_12, eX1_pileCount_15, eX1_pileCount_15N, eX1_pileCount_16, eX1_pileCount_19, eX1_pileCount_21, eX1_pileCount_22, eX1_pileCount_22N, eX1_pileCount_24, eX1_pileCount_24N, eX1_pileCount_26R, eX1_pileCount_26N, eX1_pileCount_29, eX1_pileCount_31, eX1_pileCount_31N, eX1_pileCount_32, eX1_pileCount_32N, eX1_pileCount_34, eX1_pileCount_36, eX1_pileCount_37, eX1_pileCount_38R, eX1_pileCount_38N, eX1_pileCount_41, eX1_pileCount_44, eX1_pileCount_45, eX1_pileCount_47, eX1_pileCount_50, eX1_pileCount_53, eX1_pileCount_55, rx, rn, rc, rl, hx, hn, hc, hl, d1, d2, d3, d4, d5, d6, d7, d8, d9, d10, d11, d12, rd_n, upw_n, ite_le, n45, n54, true_or, or_true, false_or, or_false, false_and, and_false, kx_l, kx_r, go_s, gl_s, gi_s, gb_s2, gb_s3, gq_s, wt_nil, wt_int, wt_long, wt_ref, wt_null, nl_int, nl_long, nl_ref, nl_null, nl_none, rf_n, rf_s, rf_st, tl_s, tl_n, g0, gS, ex1, nb_b, nb_0, nb_1, nf_i, nf_l, nf_ra, nf_ro, nf_na, nf_no, nf_b0, nf_z0, t45_4, t45_5, true_and, and_true, List.set_cons_zero, List.set_cons_succ, List.length_cons, List.length_nil, rd_s, upw_s, ne_eq, not_false_eq_true, Nat.zero_add, Nat.add_zero]
      | split
      | with_reducible intro _
      | omega
  | succ d ih =>
    intro i4 i5 i6 k m z0 hm hk hs
    rw [eX1_pileCount_6]
    repeat' first
      | with_reducible assumption
      | with_reducible refine And.intro ?_ ?_
      | with_reducible exact vpi6 (by assumption) (by assumption)
      | with_reducible exact vpi8 (by assumption) (by assumption)
      | with_reducible exact ih _ _ _ _ _ (ic_p (by assumption) (by assumption)) (ic_s (by assumption) (by assumption)) (by first | assumption | omega) (by first | assumption | omega)
      | with_reducible exact vpi12 (by assumption) (by assumption) (by assumption)
      | with_reducible refine sX1_isCounted (by first | assumption | exact CC.ext (by assumption) (by assumption)) (by first | assumption | exact hgc _ _ (by assumption) | exact hgl _ _ (by assumption) | exact isR.ext (by assumption) (by assumption)) ?_
      | with_reducible refine sX1_asNumber ?_
      | with_reducible refine go_R (by first | assumption | exact hgc _ _ (by assumption) | exact hgl _ _ (by assumption) | exact isR.ext (by assumption) (by assumption)) ?_
      | with_reducible exact hQ _
      | simp only [eX1_pileCount_0, eX1_pileCount_1, eX1_pileCount_3, eX1_pileCount_4, eX1_pileCount_8, eX1_pileCount_8N, eX1_pileCount_9, eX1_pileCount_12, eX1_pileCount_15, eX1_pileCount_15N, eX1_pileCount_16, eX1_pileCount_19, eX1_pileCount_21, eX1_pileCount_22, eX1_pileCount_22N, eX1_pileCount_24, eX1_pileCount_24N, eX1_pileCount_26R, eX1_pileCount_26N, eX1_pileCount_29, eX1_pileCount_31, eX1_pileCount_31N, eX1_pileCount_32, eX1_pileCount_32N, eX1_pileCount_34, eX1_pileCount_36, eX1_pileCount_37, eX1_pileCount_38R, eX1_pileCount_38N, eX1_pileCount_41, eX1_pileCount_44, eX1_pileCount_45, eX1_pileCount_47, eX1_pileCount_50, eX1_pileCount_53, eX1_pileCount_55, rx, rn, rc, rl, hx, hn, hc, hl, d1, d2, d3, d4, d5, d6, d7, d8, d9, d10, d11, d12, rd_n, upw_n, ite_le, n45, n54, true_or, or_true, false_or, or_false, false_and, and_false, kx_l, kx_r, go_s, gl_s, gi_s, gb_s2, gb_s3, gq_s, wt_nil, wt_int, wt_long, wt_ref, wt_null, nl_int, nl_long, nl_ref, nl_null, nl_none, rf_n, rf_s, rf_st, tl_s, tl_n, g0, gS, ex1, nb_b, nb_0, nb_1, nf_i, nf_l, nf_ra, nf_ro, nf_na, nf_no, nf_b0, nf_z0, t45_4, t45_5, true_and, and_true, List.set_cons_zero, List.set_cons_succ, List.length_cons, List.length_nil, rd_s, upw_s, ne_eq, not_false_eq_true, Nat.zero_add, Nat.add_zero]
      | split
      | with_reducible intro _
      | omega
set_option maxHeartbeats 4000000 in
theorem sX1_pileCount {a0 : Int64} {a1 : Int32} (hC : CC g w0 x nA cA lA kn w) (hQ : ∀ v : Int32, Q (.inl (some (.int v))) w) : WP (MX1_pileCount g) Q (0, [some (.ref x), some (.long a0), none, some (.int a1), none, none, none], [], w, 0, 0) := by
  obtain ⟨n, rf, md, f, gc, gl, hx, hn, hc, hl, hgc, hgl, hn0, hn1, rx, rn, rc, rl, ⟨d1, d2, d3, d4, d5, d6⟩, ⟨d7, d8, d9, d10, d11, d12⟩⟩ := hC.1.opn g
  repeat' first
    | with_reducible assumption
    | with_reducible refine And.intro ?_ ?_
    | with_reducible exact vpi6 (by assumption) (by assumption)
    | with_reducible exact vpi8 (by assumption) (by assumption)
    | with_reducible exact lX1_pileCount_6 hC hQ _ _ _ _ _ _ ⟨hx, hn, hc, hl, hgc, hgl, hn0, hn1, rx, rn, rc, rl, ⟨d1, d2, d3, d4, d5, d6⟩, ⟨d7, d8, d9, d10, d11, d12⟩⟩ 70 _ _ _ _ _ (by first | decide | assumption) (by first | decide | exact n12 (by assumption) | exact n60 (by assumption)) (by first | decide | omega) (by first | decide | omega)
    | with_reducible refine sX1_isCounted (by first | assumption | exact CC.ext (by assumption) (by assumption)) (by first | assumption | exact hgc _ _ (by assumption) | exact hgl _ _ (by assumption) | exact isR.ext (by assumption) (by assumption)) ?_
    | with_reducible refine sX1_asNumber ?_
    | with_reducible refine go_R (by first | assumption | exact hgc _ _ (by assumption) | exact hgl _ _ (by assumption) | exact isR.ext (by assumption) (by assumption)) ?_
    | with_reducible exact hQ _
    | simp only [eX1_pileCount_0, eX1_pileCount_1, eX1_pileCount_3, eX1_pileCount_4, eX1_pileCount_8, eX1_pileCount_8N, eX1_pileCount_9, eX1_pileCount_12, eX1_pileCount_15, eX1_pileCount_15N, eX1_pileCount_16, eX1_pileCount_19, eX1_pileCount_21, eX1_pileCount_22, eX1_pileCount_22N, eX1_pileCount_24, eX1_pileCount_24N, eX1_pileCount_26R, eX1_pileCount_26N, eX1_pileCount_29, eX1_pileCount_31, eX1_pileCount_31N, eX1_pileCount_32, eX1_pileCount_32N, eX1_pileCount_34, eX1_pileCount_36, eX1_pileCount_37, eX1_pileCount_38R, eX1_pileCount_38N, eX1_pileCount_41, eX1_pileCount_44, eX1_pileCount_45, eX1_pileCount_47, eX1_pileCount_50, eX1_pileCount_53, eX1_pileCount_55, rx, rn, rc, rl, hx, hn, hc, hl, d1, d2, d3, d4, d5, d6, d7, d8, d9, d10, d11, d12, rd_n, upw_n, ite_le, n45, n54, true_or, or_true, false_or, or_false, false_and, and_false, kx_l, kx_r, go_s, gl_s, gi_s, gb_s2, gb_s3, gq_s, wt_nil, wt_int, wt_long, wt_ref, wt_null, nl_int, nl_long, nl_ref, nl_null, nl_none, rf_n, rf_s, rf_st, tl_s, tl_n, g0, gS, ex1, nb_b, nb_0, nb_1, nf_i, nf_l, nf_ra, nf_ro, nf_na, nf_no, nf_b0, nf_z0, t45_4, t45_5, true_and, and_true, List.set_cons_zero, List.set_cons_succ, List.length_cons, List.length_nil, rd_s, upw_s, ne_eq, not_false_eq_true, Nat.zero_add, Nat.add_zero]
    | split
    | with_reducible intro _
    | omega
set_option maxHeartbeats 4000000 in
theorem sX1_houseCount {a0 : Int32} (hC : CC g w0 x nA cA lA kn w) (hQ : ∀ v : Int32, Q (.inl (some (.int v))) w) : WP (MX1_houseCount g) Q (0, [some (.ref x), some (.int a0)], [], w, 0, 0) := by
  obtain ⟨n, rf, md, f, gc, gl, hx, hn, hc, hl, hgc, hgl, hn0, hn1, rx, rn, rc, rl, ⟨d1, d2, d3, d4, d5, d6⟩, ⟨d7, d8, d9, d10, d11, d12⟩⟩ := hC.1.opn g
  rcases sw03 a0 with rfl | rfl | rfl | rfl | hsw
  · repeat' first
      | with_reducible assumption
      | with_reducible refine And.intro ?_ ?_
      | with_reducible exact vpi6 (by assumption) (by assumption)
      | with_reducible exact vpi8 (by assumption) (by assumption)
      | with_reducible refine sX1_cardsWithRange (by first | assumption | exact CC.ext (by assumption) (by assumption)) ?_
      | with_reducible refine go_R (by first | assumption | exact hgc _ _ (by assumption) | exact hgl _ _ (by assumption) | exact isR.ext (by assumption) (by assumption)) ?_
      | with_reducible exact hQ _
      | simp only [eX1_houseCount_0, eX1_houseCount_1_0, eX1_houseCount_1_1, eX1_houseCount_1_2, eX1_houseCount_1_3, eX1_houseCount_1_d4, eX1_houseCount_1_d5, eX1_houseCount_32, eX1_houseCount_32N, eX1_houseCount_33, eX1_houseCount_36, eX1_houseCount_37, eX1_houseCount_37N, eX1_houseCount_38, eX1_houseCount_41, eX1_houseCount_42, eX1_houseCount_42N, eX1_houseCount_43, eX1_houseCount_46, eX1_houseCount_47, eX1_houseCount_47N, eX1_houseCount_48, eX1_houseCount_51, eX1_houseCount_52, eX1_houseCount_52N, eX1_houseCount_53, eX1_houseCount_56, rx, rn, rc, rl, hx, hn, hc, hl, d1, d2, d3, d4, d5, d6, d7, d8, d9, d10, d11, d12, rd_n, upw_n, ite_le, n45, n54, true_or, or_true, false_or, or_false, false_and, and_false, kx_l, kx_r, go_s, gl_s, gi_s, gb_s2, gb_s3, gq_s, wt_nil, wt_int, wt_long, wt_ref, wt_null, nl_int, nl_long, nl_ref, nl_null, nl_none, rf_n, rf_s, rf_st, tl_s, tl_n, g0, gS, ex1, nb_b, nb_0, nb_1, nf_i, nf_l, nf_ra, nf_ro, nf_na, nf_no, nf_b0, nf_z0, t45_4, t45_5, true_and, and_true, List.set_cons_zero, List.set_cons_succ, List.length_cons, List.length_nil, rd_s, upw_s, ne_eq, not_false_eq_true, Nat.zero_add, Nat.add_zero]
      | split
      | with_reducible intro _
      | omega
  · repeat' first
      | with_reducible assumption
      | with_reducible refine And.intro ?_ ?_
      | with_reducible exact vpi6 (by assumption) (by assumption)
      | with_reducible exact vpi8 (by assumption) (by assumption)
      | with_reducible refine sX1_cardsWithRange (by first | assumption | exact CC.ext (by assumption) (by assumption)) ?_
      | with_reducible refine go_R (by first | assumption | exact hgc _ _ (by assumption) | exact hgl _ _ (by assumption) | exact isR.ext (by assumption) (by assumption)) ?_
      | with_reducible exact hQ _
      | simp only [eX1_houseCount_0, eX1_houseCount_1_0, eX1_houseCount_1_1, eX1_houseCount_1_2, eX1_houseCount_1_3, eX1_houseCount_1_d4, eX1_houseCount_1_d5, eX1_houseCount_32, eX1_houseCount_32N, eX1_houseCount_33, eX1_houseCount_36, eX1_houseCount_37, eX1_houseCount_37N, eX1_houseCount_38, eX1_houseCount_41, eX1_houseCount_42, eX1_houseCount_42N, eX1_houseCount_43, eX1_houseCount_46, eX1_houseCount_47, eX1_houseCount_47N, eX1_houseCount_48, eX1_houseCount_51, eX1_houseCount_52, eX1_houseCount_52N, eX1_houseCount_53, eX1_houseCount_56, rx, rn, rc, rl, hx, hn, hc, hl, d1, d2, d3, d4, d5, d6, d7, d8, d9, d10, d11, d12, rd_n, upw_n, ite_le, n45, n54, true_or, or_true, false_or, or_false, false_and, and_false, kx_l, kx_r, go_s, gl_s, gi_s, gb_s2, gb_s3, gq_s, wt_nil, wt_int, wt_long, wt_ref, wt_null, nl_int, nl_long, nl_ref, nl_null, nl_none, rf_n, rf_s, rf_st, tl_s, tl_n, g0, gS, ex1, nb_b, nb_0, nb_1, nf_i, nf_l, nf_ra, nf_ro, nf_na, nf_no, nf_b0, nf_z0, t45_4, t45_5, true_and, and_true, List.set_cons_zero, List.set_cons_succ, List.length_cons, List.length_nil, rd_s, upw_s, ne_eq, not_false_eq_true, Nat.zero_add, Nat.add_zero]
      | split
      | with_reducible intro _
      | omega
  · repeat' first
      | with_reducible assumption
      | with_reducible refine And.intro ?_ ?_
      | with_reducible exact vpi6 (by assumption) (by assumption)
      | with_reducible exact vpi8 (by assumption) (by assumption)
      | with_reducible refine sX1_cardsWithRange (by first | assumption | exact CC.ext (by assumption) (by assumption)) ?_
      | with_reducible refine go_R (by first | assumption | exact hgc _ _ (by assumption) | exact hgl _ _ (by assumption) | exact isR.ext (by assumption) (by assumption)) ?_
      | with_reducible exact hQ _
      | simp only [eX1_houseCount_0, eX1_houseCount_1_0, eX1_houseCount_1_1, eX1_houseCount_1_2, eX1_houseCount_1_3, eX1_houseCount_1_d4, eX1_houseCount_1_d5, eX1_houseCount_32, eX1_houseCount_32N, eX1_houseCount_33, eX1_houseCount_36, eX1_houseCount_37, eX1_houseCount_37N, eX1_houseCount_38, eX1_houseCount_41, eX1_houseCount_42, eX1_houseCount_42N, eX1_houseCount_43, eX1_houseCount_46, eX1_houseCount_47, eX1_houseCount_47N, eX1_houseCount_48, eX1_houseCount_51, eX1_houseCount_52, eX1_houseCount_52N, eX1_houseCount_53, eX1_houseCount_56, rx, rn, rc, rl, hx, hn, hc, hl, d1, d2, d3, d4, d5, d6, d7, d8, d9, d10, d11, d12, rd_n, upw_n, ite_le, n45, n54, true_or, or_true, false_or, or_false, false_and, and_false, kx_l, kx_r, go_s, gl_s, gi_s, gb_s2, gb_s3, gq_s, wt_nil, wt_int, wt_long, wt_ref, wt_null, nl_int, nl_long, nl_ref, nl_null, nl_none, rf_n, rf_s, rf_st, tl_s, tl_n, g0, gS, ex1, nb_b, nb_0, nb_1, nf_i, nf_l, nf_ra, nf_ro, nf_na, nf_no, nf_b0, nf_z0, t45_4, t45_5, true_and, and_true, List.set_cons_zero, List.set_cons_succ, List.length_cons, List.length_nil, rd_s, upw_s, ne_eq, not_false_eq_true, Nat.zero_add, Nat.add_zero]
      | split
      | with_reducible intro _
      | omega
  · repeat' first
      | with_reducible assumption
      | with_reducible refine And.intro ?_ ?_
      | with_reducible exact vpi6 (by assumption) (by assumption)
      | with_reducible exact vpi8 (by assumption) (by assumption)
      | with_reducible refine sX1_cardsWithRange (by first | assumption | exact CC.ext (by assumption) (by assumption)) ?_
      | with_reducible refine go_R (by first | assumption | exact hgc _ _ (by assumption) | exact hgl _ _ (by assumption) | exact isR.ext (by assumption) (by assumption)) ?_
      | with_reducible exact hQ _
      | simp only [eX1_houseCount_0, eX1_houseCount_1_0, eX1_houseCount_1_1, eX1_houseCount_1_2, eX1_houseCount_1_3, eX1_houseCount_1_d4, eX1_houseCount_1_d5, eX1_houseCount_32, eX1_houseCount_32N, eX1_houseCount_33, eX1_houseCount_36, eX1_houseCount_37, eX1_houseCount_37N, eX1_houseCount_38, eX1_houseCount_41, eX1_houseCount_42, eX1_houseCount_42N, eX1_houseCount_43, eX1_houseCount_46, eX1_houseCount_47, eX1_houseCount_47N, eX1_houseCount_48, eX1_houseCount_51, eX1_houseCount_52, eX1_houseCount_52N, eX1_houseCount_53, eX1_houseCount_56, rx, rn, rc, rl, hx, hn, hc, hl, d1, d2, d3, d4, d5, d6, d7, d8, d9, d10, d11, d12, rd_n, upw_n, ite_le, n45, n54, true_or, or_true, false_or, or_false, false_and, and_false, kx_l, kx_r, go_s, gl_s, gi_s, gb_s2, gb_s3, gq_s, wt_nil, wt_int, wt_long, wt_ref, wt_null, nl_int, nl_long, nl_ref, nl_null, nl_none, rf_n, rf_s, rf_st, tl_s, tl_n, g0, gS, ex1, nb_b, nb_0, nb_1, nf_i, nf_l, nf_ra, nf_ro, nf_na, nf_no, nf_b0, nf_z0, t45_4, t45_5, true_and, and_true, List.set_cons_zero, List.set_cons_succ, List.length_cons, List.length_nil, rd_s, upw_s, ne_eq, not_false_eq_true, Nat.zero_add, Nat.add_zero]
      | split
      | with_reducible intro _
      | omega
  · repeat' first
      | with_reducible assumption
      | with_reducible refine And.intro ?_ ?_
      | with_reducible exact vpi6 (by assumption) (by assumption)
      | with_reducible exact vpi8 (by assumption) (by assumption)
      | with_reducible refine sX1_cardsWithRange (by first | assumption | exact CC.ext (by assumption) (by assumption)) ?_
      | with_reducible refine go_R (by first | assumption | exact hgc _ _ (by assumption) | exact hgl _ _ (by assumption) | exact isR.ext (by assumption) (by assumption)) ?_
      | with_reducible exact hQ _
      | simp only [eX1_houseCount_0, eX1_houseCount_1_0, eX1_houseCount_1_1, eX1_houseCount_1_2, eX1_houseCount_1_3, eX1_houseCount_1_d4, eX1_houseCount_1_d5, eX1_houseCount_32, eX1_houseCount_32N, eX1_houseCount_33, eX1_houseCount_36, eX1_houseCount_37, eX1_houseCount_37N, eX1_houseCount_38, eX1_houseCount_41, eX1_houseCount_42, eX1_houseCount_42N, eX1_houseCount_43, eX1_houseCount_46, eX1_houseCount_47, eX1_houseCount_47N, eX1_houseCount_48, eX1_houseCount_51, eX1_houseCount_52, eX1_houseCount_52N, eX1_houseCount_53, eX1_houseCount_56, rx, rn, rc, rl, hx, hn, hc, hl, d1, d2, d3, d4, d5, d6, d7, d8, d9, d10, d11, d12, rd_n, upw_n, eX1_houseCount_1_d hsw, ite_le, n45, n54, true_or, or_true, false_or, or_false, false_and, and_false, kx_l, kx_r, go_s, gl_s, gi_s, gb_s2, gb_s3, gq_s, wt_nil, wt_int, wt_long, wt_ref, wt_null, nl_int, nl_long, nl_ref, nl_null, nl_none, rf_n, rf_s, rf_st, tl_s, tl_n, g0, gS, ex1, nb_b, nb_0, nb_1, nf_i, nf_l, nf_ra, nf_ro, nf_na, nf_no, nf_b0, nf_z0, t45_4, t45_5, true_and, and_true, List.set_cons_zero, List.set_cons_succ, List.length_cons, List.length_nil, rd_s, upw_s, ne_eq, not_false_eq_true, Nat.zero_add, Nat.add_zero]
      | split
      | with_reducible intro _
      | omega
end
