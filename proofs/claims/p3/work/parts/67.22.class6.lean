section
variable {g : RO} {Q : Ot → Hw → Prop} {w0 w : Hw} {x nA cA lA : Nat} {kn : Int32}
set_option maxHeartbeats 4000000 in
theorem lX1_withCard_106R {a0 : Int64} {a1 : Nat} (hC : CC g w0 x nA cA lA kn w) (h1 : isR w a1) (hQ : ∀ v : Int64, Q (.inl (some (.long v))) w) : ∀ (n rf md : Int32) (f : Nat → Int64) (gc gl : Nat → Option Nat), RO5 g w x nA cA lA n rf kn md f gc gl → ∀ (d : Nat) (i4 : Int64) (i6 : Int32) (k m : Nat), (1 : Int32).toInt + 1 - i6.toInt ≤ (d : Int) → k ≤ 0 → m ≤ 0 → WP (MX1_withCard g) Q (106, [some (.ref x), some (.long a0), none, some (.ref a1), some (.long i4), none, some (.int i6)], [], w, k, m) := by
  rintro n rf md f gc gl ⟨hx, hn, hc, hl, hgc, hgl, hn0, hn1, rx, rn, rc, rl, ⟨d1, d2, d3, d4, d5, d6⟩, ⟨d7, d8, d9, d10, d11, d12⟩⟩ d
  induction d with
  | zero =>
    intro i4 i6 k m hm hk hs
    rw [eX1_withCard_106]
    repeat' first
      | with_reducible assumption
      | with_reducible refine And.intro ?_ ?_
      | with_reducible exact vpi6 (by assumption) (by assumption)
      | with_reducible exact vpi8 (by assumption) (by assumption)
      | with_reducible exact (ic_zl (by assumption) (by assumption)).elim
      | with_reducible exact vpi12 (by assumption) (by assumption) (by assumption)
      | with_reducible refine sX1_with ?_
      | with_reducible refine sX1_withEnds (by first | assumption | exact hgc _ _ (by assumption) | exact hgl _ _ (by assumption) | exact isR.ext (by assumption) (by assumption)) ?_
      | with_reducible refine sX0_isSettled (by first | assumption | exact hgc _ _ (by assumption) | exact hgl _ _ (by assumption) | exact isR.ext (by assumption) (by assumption)) ?_
      | with_reducible refine sX1_asNumber ?_
      | with_reducible refine sX0_fitsSmall (by first | assumption | exact hgc _ _ (by assumption) | exact hgl _ _ (by assumption) | exact isR.ext (by assumption) (by assumption)) ?_
      | with_reducible refine sX1_cardsLike (by first | assumption | exact CC.ext (by assumption) (by assumption)) (by first | assumption | exact hgc _ _ (by assumption) | exact hgl _ _ (by assumption) | exact isR.ext (by assumption) (by assumption)) ?_
      | with_reducible refine sX1_firstPlaceOf (by first | assumption | exact CC.ext (by assumption) (by assumption)) (by first | assumption | exact hgc _ _ (by assumption) | exact hgl _ _ (by assumption) | exact isR.ext (by assumption) (by assumption)) ?_
      | with_reducible refine sX1_lastPlaceOf (by first | assumption | exact CC.ext (by assumption) (by assumption)) (by first | assumption | exact hgc _ _ (by assumption) | exact hgl _ _ (by assumption) | exact isR.ext (by assumption) (by assumption)) ?_
      | with_reducible refine sX1_timesLaid (by first | assumption | exact CC.ext (by assumption) (by assumption)) (by first | assumption | exact hgc _ _ (by assumption) | exact hgl _ _ (by assumption) | exact isR.ext (by assumption) (by assumption)) ?_
      | with_reducible refine sX1_validityIn (by first | assumption | exact hgc _ _ (by assumption) | exact hgl _ _ (by assumption) | exact isR.ext (by assumption) (by assumption)) ?_
      | with_reducible refine go_R (by first | assumption | exact hgc _ _ (by assumption) | exact hgl _ _ (by assumption) | exact isR.ext (by assumption) (by assumption)) ?_
      | with_reducible exact hQ _
      | simp only [eX1_withCard_0, eX1_withCard_0N, eX1_withCard_1R, eX1_withCard_1N, eX1_withCard_4, eX1_withCard_5, eX1_withCard_6, eX1_withCard_9, eX1_withCard_10, eX1_withCard_11, eX1_withCard_12, eX1_withCard_15, eX1_withCard_15N, eX1_withCard_16R, eX1_withCard_16N, eX1_withCard_19, eX1_withCard_21, eX1_withCard_23, eX1_withCard_23N, eX1_withCard_24, eX1_withCard_27, eX1_withCard_30, eX1_withCard_31, eX1_withCard_34, eX1_withCard_36, eX1_withCard_38, eX1_withCard_38N, eX1_withCard_39, eX1_withCard_42, eX1_withCard_45, eX1_withCard_46, eX1_withCard_49, eX1_withCard_51, eX1_withCard_53, eX1_withCard_53N, eX1_withCard_54, eX1_withCard_54N, eX1_withCard_55R, eX1_withCard_55N, eX1_withCard_58, eX1_withCard_59, eX1_withCard_62, eX1_withCard_64, eX1_withCard_66, eX1_withCard_66N, eX1_withCard_67, eX1_withCard_67N, eX1_withCard_68R, eX1_withCard_68N, eX1_withCard_71, eX1_withCard_72, eX1_withCard_75, eX1_withCard_77, eX1_withCard_79, eX1_withCard_79N, eX1_withCard_80, eX1_withCard_80N, eX1_withCard_81R, eX1_withCard_81N, eX1_withCard_84, eX1_withCard_85, eX1_withCard_88, eX1_withCard_90, eX1_withCard_92, eX1_withCard_92N, eX1_withCard_93, eX1_withCard_93N, eX1_withCard_94R, eX1_withCard_94N, eX1_withCard_97, eX1_withCard_98, eX1_withCard_101, eX1_withCard_103, eX1_withCard_104, eX1_withCard_108, eX1_withCard_109, eX1_withCard_112, eX1_withCard_114, eX1_withCard_114N, eX1_withCard_115, eX1_withCard_117, eX1_withCard_118R, eX1_withCard_118N, eX1_withCard_121, eX1_withCard_122, eX1_withCard_125, eX1_withCard_127, eX1_withCard_130, eX1_withCard_133, eX1_withCard_135, rx, rn, rc, rl, hx, hn, hc, hl, d1, d2, d3, d4, d5, d6, d7, d8, d9, d10, d11, d12, rd_n, upw_n, ite_le, n45, n54, true_or, or_true, false_or, or_false, false_and, and_false, kx_l, kx_r, go_s, gl_s, gi_s, gb_s2, gb_s3, gq_s, wt_nil, wt_int, wt_long, wt_ref, wt_null, nl_int, nl_long, nl_ref, nl_null, nl_none, rf_n, rf_s, rf_st, tl_s, tl_n, g0, gS, ex1, nb_b, nb_0, nb_1, nf_i, nf_l, nf_ra, nf_ro, nf_na, nf_no, nf_b0, nf_z0, t45_4, t45_5, true_and, and_true, List.set_cons_zero, List.set_cons_succ, List.length_cons, List.length_nil, rd_s, upw_s, ne_eq, not_false_eq_true, Nat.zero_add, Nat.add_zero]
      | split
      | with_reducible intro _
      | omega
  | succ d ih =>
    intro i4 i6 k m hm hk hs
    rw [eX1_withCard_106]
    repeat' first
      | with_reducible assumption
      | with_reducible refine And.intro ?_ ?_
      | with_reducible exact vpi6 (by assumption) (by assumption)
      | with_reducible exact vpi8 (by assumption) (by assumption)
      | with_reducible exact ih _ _ _ _ (ic_sl (by assumption) (by assumption) (by decide)) (by first | assumption | omega) (by first | assumption | omega)
      | with_reducible exact vpi12 (by assumption) (by assumption) (by assumption)
      | with_reducible refine sX1_with ?_
      | with_reducible refine sX1_withEnds (by first | assumption | exact hgc _ _ (by assumption) | exact hgl _ _ (by assumption) | exact isR.ext (by assumption) (by assumption)) ?_
      | with_reducible refine sX0_isSettled (by first | assumption | exact hgc _ _ (by assumption) | exact hgl _ _ (by assumption) | exact isR.ext (by assumption) (by assumption)) ?_
      | with_reducible refine sX1_asNumber ?_
      | with_reducible refine sX0_fitsSmall (by first | assumption | exact hgc _ _ (by assumption) | exact hgl _ _ (by assumption) | exact isR.ext (by assumption) (by assumption)) ?_
      | with_reducible refine sX1_cardsLike (by first | assumption | exact CC.ext (by assumption) (by assumption)) (by first | assumption | exact hgc _ _ (by assumption) | exact hgl _ _ (by assumption) | exact isR.ext (by assumption) (by assumption)) ?_
      | with_reducible refine sX1_firstPlaceOf (by first | assumption | exact CC.ext (by assumption) (by assumption)) (by first | assumption | exact hgc _ _ (by assumption) | exact hgl _ _ (by assumption) | exact isR.ext (by assumption) (by assumption)) ?_
      | with_reducible refine sX1_lastPlaceOf (by first | assumption | exact CC.ext (by assumption) (by assumption)) (by first | assumption | exact hgc _ _ (by assumption) | exact hgl _ _ (by assumption) | exact isR.ext (by assumption) (by assumption)) ?_
      | with_reducible refine sX1_timesLaid (by first | assumption | exact CC.ext (by assumption) (by assumption)) (by first | assumption | exact hgc _ _ (by assumption) | exact hgl _ _ (by assumption) | exact isR.ext (by assumption) (by assumption)) ?_
      | with_reducible refine sX1_validityIn (by first | assumption | exact hgc _ _ (by assumption) | exact hgl _ _ (by assumption) | exact isR.ext (by assumption) (by assumption)) ?_
      | with_reducible refine go_R (by first | assumption | exact hgc _ _ (by assumption) | exact hgl _ _ (by assumption) | exact isR.ext (by assumption) (by assumption)) ?_
      | with_reducible exact hQ _
      | simp only [eX1_withCard_0, eX1_withCard_0N, eX1_withCard_1R, eX1_withCard_1N, eX1_withCard_4, eX1_withCard_5, eX1_withCard_6, eX1_withCard_9, eX1_withCard_10, eX1_withCard_11, eX1_withCard_12, eX1_withCard_15, eX1_withCard_15N, eX1_withCard_16R, eX1_withCard_16N, eX1_withCard_19, eX1_withCard_21, eX1_withCard_23, eX1_withCard_23N, eX1_withCard_24, eX1_withCard_27, eX1_withCard_30, eX1_withCard_31, eX1_withCard_34, eX1_withCard_36, eX1_withCard_38, eX1_withCard_38N, eX1_withCard_39, eX1_withCard_42, eX1_withCard_45, eX1_withCard_46, eX1_withCard_49, eX1_withCard_51, eX1_withCard_53, eX1_withCard_53N, eX1_withCard_54, eX1_withCard_54N, eX1_withCard_55R, eX1_withCard_55N, eX1_withCard_58, eX1_withCard_59, eX1_withCard_62, eX1_withCard_64, eX1_withCard_66, eX1_withCard_66N, eX1_withCard_67, eX1_withCard_67N, eX1_withCard_68R, eX1_withCard_68N, eX1_withCard_71, eX1_withCard_72, eX1_withCard_75, eX1_withCard_77, eX1_withCard_79, eX1_withCard_79N, eX1_withCard_80, eX1_withCard_80N, eX1_withCard_81R, eX1_withCard_81N, eX1_withCard_84, eX1_withCard_85, eX1_withCard_88, eX1_withCard_90, eX1_withCard_92, eX1_withCard_92N, eX1_withCard_93, eX1_withCard_93N, eX1_withCard_94R, eX1_withCard_94N, eX1_withCard_97, eX1_withCard_98, eX1_withCard_101, eX1_withCard_103, eX1_withCard_104, eX1_withCard_108, eX1_withCard_109, eX1_withCard_112, eX1_withCard_114, eX1_withCard_114N, eX1_withCard_115, eX1_withCard_117, eX1_withCard_118R, eX1_withCard_118N, eX1_withCard_121, eX1_withCard_122, eX1_withCard_125, eX1_withCard_127, eX1_withCard_130, eX1_withCard_133, eX1_withCard_135, rx, rn, rc, rl, hx, hn, hc, hl, d1, d2, d3, d4, d5, d6, d7, d8, d9, d10, d11, d12, rd_n, upw_n, ite_le, n45, n54, true_or, or_true, false_or, or_false, false_and, and_false, kx_l, kx_r, go_s, gl_s, gi_s, gb_s2, gb_s3, gq_s, wt_nil, wt_int, wt_long, wt_ref, wt_null, nl_int, nl_long, nl_ref, nl_null, nl_none, rf_n, rf_s, rf_st, tl_s, tl_n, g0, gS, ex1, nb_b, nb_0, nb_1, nf_i, nf_l, nf_ra, nf_ro, nf_na, nf_no, nf_b0, nf_z0, t45_4, t45_5, true_and, and_true, List.set_cons_zero, List.set_cons_succ, List.length_cons, List.length_nil, rd_s, upw_s, ne_eq, not_false_eq_true, Nat.zero_add, Nat.add_zero]
      | split
      | with_reducible intro _
      | omega
set_option maxHeartbeats 4000000 in
theorem sX1_withCardR {a0 : Int64} {a1 : Nat} (hC : CC g w0 x nA cA lA kn w) (h1 : isR w a1) (hQ : ∀ v : Int64, Q (.inl (some (.long v))) w) : WP (MX1_withCard g) Q (0, [some (.ref x), some (.long a0), none, some (.ref a1), none, none, none], [], w, 0, 0) := by
  obtain ⟨n, rf, md, f, gc, gl, hx, hn, hc, hl, hgc, hgl, hn0, hn1, rx, rn, rc, rl, ⟨d1, d2, d3, d4, d5, d6⟩, ⟨d7, d8, d9, d10, d11, d12⟩⟩ := hC.1.opn g
  repeat' first
    | with_reducible assumption
    | with_reducible refine And.intro ?_ ?_
    | with_reducible exact vpi6 (by assumption) (by assumption)
    | with_reducible exact vpi8 (by assumption) (by assumption)
    | with_reducible exact lX1_withCard_106R hC h1 hQ _ _ _ _ _ _ ⟨hx, hn, hc, hl, hgc, hgl, hn0, hn1, rx, rn, rc, rl, ⟨d1, d2, d3, d4, d5, d6⟩, ⟨d7, d8, d9, d10, d11, d12⟩⟩ 70 _ _ _ _ (by first | decide | exact n12 (by assumption) | exact n60 (by assumption)) (by first | decide | omega) (by first | decide | omega)
    | with_reducible refine sX1_with ?_
    | with_reducible refine sX1_withEnds (by first | assumption | exact hgc _ _ (by assumption) | exact hgl _ _ (by assumption) | exact isR.ext (by assumption) (by assumption)) ?_
    | with_reducible refine sX0_isSettled (by first | assumption | exact hgc _ _ (by assumption) | exact hgl _ _ (by assumption) | exact isR.ext (by assumption) (by assumption)) ?_
    | with_reducible refine sX1_asNumber ?_
    | with_reducible refine sX0_fitsSmall (by first | assumption | exact hgc _ _ (by assumption) | exact hgl _ _ (by assumption) | exact isR.ext (by assumption) (by assumption)) ?_
    | with_reducible refine sX1_cardsLike (by first | assumption | exact CC.ext (by assumption) (by assumption)) (by first | assumption | exact hgc _ _ (by assumption) | exact hgl _ _ (by assumption) | exact isR.ext (by assumption) (by assumption)) ?_
    | with_reducible refine sX1_firstPlaceOf (by first | assumption | exact CC.ext (by assumption) (by assumption)) (by first | assumption | exact hgc _ _ (by assumption) | exact hgl _ _ (by assumption) | exact isR.ext (by assumption) (by assumption)) ?_
    | with_reducible refine sX1_lastPlaceOf (by first | assumption | exact CC.ext (by assumption) (by assumption)) (by first | assumption | exact hgc _ _ (by assumption) | exact hgl _ _ (by assumption) | exact isR.ext (by assumption) (by assumption)) ?_
    | with_reducible refine sX1_timesLaid (by first | assumption | exact CC.ext (by assumption) (by assumption)) (by first | assumption | exact hgc _ _ (by assumption) | exact hgl _ _ (by assumption) | exact isR.ext (by assumption) (by assumption)) ?_
    | with_reducible refine sX1_validityIn (by first | assumption | exact hgc _ _ (by assumption) | exact hgl _ _ (by assumption) | exact isR.ext (by assumption) (by assumption)) ?_
    | with_reducible refine go_R (by first | assumption | exact hgc _ _ (by assumption) | exact hgl _ _ (by assumption) | exact isR.ext (by assumption) (by assumption)) ?_
    | with_reducible exact hQ _
    | simp only [eX1_withCard_0, eX1_withCard_0N, eX1_withCard_1R, eX1_withCard_1N, eX1_withCard_4, eX1_withCard_5, eX1_withCard_6, eX1_withCard_9, eX1_withCard_10, eX1_withCard_11, eX1_withCard_12, eX1_withCard_15, eX1_withCard_15N, eX1_withCard_16R, eX1_withCard_16N, eX1_withCard_19, eX1_withCard_21, eX1_withCard_23, eX1_withCard_23N, eX1_withCard_24, eX1_withCard_27, eX1_withCard_30, eX1_withCard_31, eX1_withCard_34, eX1_withCard_36, eX1_withCard_38, eX1_withCard_38N, eX1_withCard_39, eX1_withCard_42, eX1_withCard_45, eX1_withCard_46, eX1_withCard_49, eX1_withCard_51, eX1_withCard_53, eX1_withCard_53N, eX1_withCard_54, eX1_withCard_54N, eX1_withCard_55R, eX1_withCard_55N, eX1_withCard_58, eX1_withCard_59, eX1_withCard_62, eX1_withCard_64, eX1_withCard_66, eX1_withCard_66N, eX1_withCard_67, eX1_withCard_67N, eX1_withCard_68R, eX1_withCard_68N, eX1_withCard_71, eX1_withCard_72, eX1_withCard_75, eX1_withCard_77, eX1_withCard_79, eX1_withCard_79N, eX1_withCard_80, eX1_withCard_80N, eX1_withCard_81R, eX1_withCard_81N, eX1_withCard_84, eX1_withCard_85, eX1_withCard_88, eX1_withCard_90, eX1_withCard_92, eX1_withCard_92N, eX1_withCard_93, eX1_withCard_93N, eX1_withCard_94R, eX1_withCard_94N, eX1_withCard_97, eX1_withCard_98, eX1_withCard_101, eX1_withCard_103, eX1_withCard_104, eX1_withCard_108, eX1_withCard_109, eX1_withCard_112, eX1_withCard_114, eX1_withCard_114N, eX1_withCard_115, eX1_withCard_117, eX1_withCard_118R, eX1_withCard_118N, eX1_withCard_121, eX1_withCard_122, eX1_withCard_125, eX1_withCard_127, eX1_withCard_130, eX1_withCard_133, eX1_withCard_135, rx, rn, rc, rl, hx, hn, hc, hl, d1, d2, d3, d4, d5, d6, d7, d8, d9, d10, d11, d12, rd_n, upw_n, ite_le, n45, n54, true_or, or_true, false_or, or_false, false_and, and_false, kx_l, kx_r, go_s, gl_s, gi_s, gb_s2, gb_s3, gq_s, wt_nil, wt_int, wt_long, wt_ref, wt_null, nl_int, nl_long, nl_ref, nl_null, nl_none, rf_n, rf_s, rf_st, tl_s, tl_n, g0, gS, ex1, nb_b, nb_0, nb_1, nf_i, nf_l, nf_ra, nf_ro, nf_na, nf_no, nf_b0, nf_z0, t45_4, t45_5, true_and, and_true, List.set_cons_zero, List.set_cons_succ, List.length_cons, List.length_nil, rd_s, upw_s, ne_eq, not_false_eq_true, Nat.zero_add, Nat.add_zero]
    | split
    | with_reducible intro _
    | omega
set_option maxHeartbeats 4000000 in
theorem sX1_withCardN {a0 : Int64} (hC : CC g w0 x nA cA lA kn w) (hQ : ∀ v : Int64, Q (.inl (some (.long v))) w) : WP (MX1_withCard g) Q (0, [some (.ref x), some (.long a0), none, some .null, none, none, none], [], w, 0, 0) := by
  obtain ⟨n, rf, md, f, gc, gl, hx, hn, hc, hl, hgc, hgl, hn0, hn1, rx, rn, rc, rl, ⟨d1, d2, d3, d4, d5, d6⟩, ⟨d7, d8, d9, d10, d11, d12⟩⟩ := hC.1.opn g
  repeat' first
    | with_reducible assumption
    | with_reducible refine And.intro ?_ ?_
    | with_reducible exact vpi6 (by assumption) (by assumption)
    | with_reducible exact vpi8 (by assumption) (by assumption)
    | with_reducible refine sX1_with ?_
    | with_reducible refine sX1_withEnds (by first | assumption | exact hgc _ _ (by assumption) | exact hgl _ _ (by assumption) | exact isR.ext (by assumption) (by assumption)) ?_
    | with_reducible refine sX0_isSettled (by first | assumption | exact hgc _ _ (by assumption) | exact hgl _ _ (by assumption) | exact isR.ext (by assumption) (by assumption)) ?_
    | with_reducible refine sX1_asNumber ?_
    | with_reducible refine sX0_fitsSmall (by first | assumption | exact hgc _ _ (by assumption) | exact hgl _ _ (by assumption) | exact isR.ext (by assumption) (by assumption)) ?_
    | with_reducible refine sX1_cardsLike (by first | assumption | exact CC.ext (by assumption) (by assumption)) (by first | assumption | exact hgc _ _ (by assumption) | exact hgl _ _ (by assumption) | exact isR.ext (by assumption) (by assumption)) ?_
    | with_reducible refine sX1_firstPlaceOf (by first | assumption | exact CC.ext (by assumption) (by assumption)) (by first | assumption | exact hgc _ _ (by assumption) | exact hgl _ _ (by assumption) | exact isR.ext (by assumption) (by assumption)) ?_
    | with_reducible refine sX1_lastPlaceOf (by first | assumption | exact CC.ext (by assumption) (by assumption)) (by first | assumption | exact hgc _ _ (by assumption) | exact hgl _ _ (by assumption) | exact isR.ext (by assumption) (by assumption)) ?_
    | with_reducible refine sX1_timesLaid (by first | assumption | exact CC.ext (by assumption) (by assumption)) (by first | assumption | exact hgc _ _ (by assumption) | exact hgl _ _ (by assumption) | exact isR.ext (by assumption) (by assumption)) ?_
    | with_reducible refine sX1_validityIn (by first | assumption | exact hgc _ _ (by assumption) | exact hgl _ _ (by assumption) | exact isR.ext (by assumption) (by assumption)) ?_
    | with_reducible refine go_R (by first | assumption | exact hgc _ _ (by assumption) | exact hgl _ _ (by assumption) | exact isR.ext (by assumption) (by assumption)) ?_
    | with_reducible exact hQ _
    | simp only [eX1_withCard_0, eX1_withCard_0N, eX1_withCard_1R, eX1_withCard_1N, eX1_withCard_4, eX1_withCard_5, eX1_withCard_6, eX1_withCard_9, eX1_withCard_10, eX1_withCard_11, eX1_withCard_12, eX1_withCard_15, eX1_withCard_15N, eX1_withCard_16R, eX1_withCard_16N, eX1_withCard_19, eX1_withCard_21, eX1_withCard_23, eX1_withCard_23N, eX1_withCard_24, eX1_withCard_27, eX1_withCard_30, eX1_withCard_31, eX1_withCard_34, eX1_withCard_36, eX1_withCard_38, eX1_withCard_38N, eX1_withCard_39, eX1_withCard_42, eX1_withCard_45, eX1_withCard_46, eX1_withCard_49, eX1_withCard_51, eX1_withCard_53, eX1_withCard_53N, eX1_withCard_54, eX1_withCard_54N, eX1_withCard_55R, eX1_withCard_55N, eX1_withCard_58, eX1_withCard_59, eX1_withCard_62, eX1_withCard_64, eX1_withCard_66, eX1_withCard_66N, eX1_withCard_67, eX1_withCard_67N, eX1_withCard_68R, eX1_withCard_68N, eX1_withCard_71, eX1_withCard_72, eX1_withCard_75, eX1_withCard_77, eX1_withCard_79, eX1_withCard_79N, eX1_withCard_80, eX1_withCard_80N, eX1_withCard_81R, eX1_withCard_81N, eX1_withCard_84, eX1_withCard_85, eX1_withCard_88, eX1_withCard_90, eX1_withCard_92, eX1_withCard_92N, eX1_withCard_93, eX1_withCard_93N, eX1_withCard_94R, eX1_withCard_94N, eX1_withCard_97, eX1_withCard_98, eX1_withCard_101, eX1_withCard_103, eX1_withCard_104, eX1_withCard_108, eX1_withCard_109, eX1_withCard_112, eX1_withCard_114, eX1_withCard_114N, eX1_withCard_115, eX1_withCard_117, eX1_withCard_118R, eX1_withCard_118N, eX1_withCard_121, eX1_withCard_122, eX1_withCard_125, eX1_withCard_127, eX1_withCard_130, eX1_withCard_133, eX1_withCard_135, rx, rn, rc, rl, hx, hn, hc, hl, d1, d2, d3, d4, d5, d6, d7, d8, d9, d10, d11, d12, rd_n, upw_n, ite_le, n45, n54, true_or, or_true, false_or, or_false, false_and, and_false, kx_l, kx_r, go_s, gl_s, gi_s, gb_s2, gb_s3, gq_s, wt_nil, wt_int, wt_long, wt_ref, wt_null, nl_int, nl_long, nl_ref, nl_null, nl_none, rf_n, rf_s, rf_st, tl_s, tl_n, g0, gS, ex1, nb_b, nb_0, nb_1, nf_i, nf_l, nf_ra, nf_ro, nf_na, nf_no, nf_b0, nf_z0, t45_4, t45_5, true_and, and_true, List.set_cons_zero, List.set_cons_succ, List.length_cons, List.length_nil, rd_s, upw_s, ne_eq, not_false_eq_true, Nat.zero_add, Nat.add_zero]
    | split
    | with_reducible intro _
    | omega
end
