section
variable {g : RO} {Q : Ot → Hw → Prop} {w0 w : Hw} {x nA cA lA : Nat} {kn : Int32}
set_option maxHeartbeats 4000000 in
theorem sX1_isSameAs {a0 : Int32} {a1 : Int32} (hC : CC g w0 x nA cA lA kn w) (hXo : Q (.inr "java/lang/IndexOutOfBoundsException") w) (hXa : Q (.inr "java/lang/IllegalArgumentException") w) (hXs : Q (.inr "java/lang/IllegalStateException") w) (hQ : ∀ (v : Bool) (w' : Hw), ext g w w' → Q (.inl (some (.int (bI v)))) w') : WP (MX1_isSameAs g) Q (0, [some (.ref x), some (.int a0), some (.int a1), none], [], w, 0, 0) := by
  obtain ⟨n, rf, md, f, gc, gl, hx, hn, hc, hl, hgc, hgl, hn0, hn1, rx, rn, rc, rl, ⟨d1, d2, d3, d4, d5, d6⟩, ⟨d7, d8, d9, d10, d11, d12⟩⟩ := hC.1.opn g
  have hQt : ∀ w', ext g w w' → Q (.inl (some (.int 1))) w' := hQ true
  have hQf : ∀ w', ext g w w' → Q (.inl (some (.int 0))) w' := hQ false
  rcases sw24 a1 with rfl | rfl | rfl | hsw
  · repeat' first
      | with_reducible assumption
      | with_reducible refine And.intro ?_ ?_
      | with_reducible exact vpi6 (by assumption) (by assumption)
      | with_reducible exact vpi8 (by assumption) (by assumption)
      | with_reducible exact hQ _ _ (by repeat' first | assumption | exact ext.rf | refine ext.tr (by assumption) ?_)
      | with_reducible exact hQt _ (by repeat' first | assumption | exact ext.rf | refine ext.tr (by assumption) ?_)
      | with_reducible exact hQf _ (by repeat' first | assumption | exact ext.rf | refine ext.tr (by assumption) ?_)
      | with_reducible refine sX1_needCard ?_ ?_
      | with_reducible refine sX1_needChoice ?_ ?_
      | with_reducible refine sX1_rangeOf2 (by first | assumption | exact CC.ext (by assumption) (by assumption)) ?_ ?_ ?_
      | with_reducible refine sX1_copyOf (by first | assumption | exact hgc _ _ (by assumption) | exact hgl _ _ (by assumption) | exact isR.ext (by assumption) (by repeat' first | assumption | exact ext.rf | refine ext.tr (by assumption) ?_) | exact isR.ext (hgc _ _ (by assumption)) (by repeat' first | assumption | exact ext.rf | refine ext.tr (by assumption) ?_)) ?_ ?_
      | with_reducible refine sX0_matchesR (by first | assumption | exact hgc _ _ (by assumption) | exact hgl _ _ (by assumption) | exact isR.ext (by assumption) (by repeat' first | assumption | exact ext.rf | refine ext.tr (by assumption) ?_) | exact isR.ext (hgc _ _ (by assumption)) (by repeat' first | assumption | exact ext.rf | refine ext.tr (by assumption) ?_)) (by first | assumption | exact hgc _ _ (by assumption) | exact hgl _ _ (by assumption) | exact isR.ext (by assumption) (by repeat' first | assumption | exact ext.rf | refine ext.tr (by assumption) ?_) | exact isR.ext (hgc _ _ (by assumption)) (by repeat' first | assumption | exact ext.rf | refine ext.tr (by assumption) ?_)) ?_
      | with_reducible refine sX0_matchesN (by first | assumption | exact hgc _ _ (by assumption) | exact hgl _ _ (by assumption) | exact isR.ext (by assumption) (by repeat' first | assumption | exact ext.rf | refine ext.tr (by assumption) ?_) | exact isR.ext (hgc _ _ (by assumption)) (by repeat' first | assumption | exact ext.rf | refine ext.tr (by assumption) ?_)) ?_
      | with_reducible refine sX1_outerOf (by first | assumption | exact hgc _ _ (by assumption) | exact hgl _ _ (by assumption) | exact isR.ext (by assumption) (by repeat' first | assumption | exact ext.rf | refine ext.tr (by assumption) ?_) | exact isR.ext (hgc _ _ (by assumption)) (by repeat' first | assumption | exact ext.rf | refine ext.tr (by assumption) ?_)) ?_ ?_
      | with_reducible exact go_C (by first | assumption | exact CC.ext hC (by repeat' first | assumption | exact ext.rf | refine ext.tr (by assumption) ?_))
      | with_reducible refine go_R (by first | assumption | exact hgc _ _ (by assumption) | exact hgl _ _ (by assumption) | exact isR.ext (by assumption) (by repeat' first | assumption | exact ext.rf | refine ext.tr (by assumption) ?_) | exact isR.ext (hgc _ _ (by assumption)) (by repeat' first | assumption | exact ext.rf | refine ext.tr (by assumption) ?_)) ?_
      | simp only [eX1_isSameAs_0, eX1_isSameAs_1, eX1_isSameAs_4, eX1_isSameAs_5, eX1_isSameAs_6, eX1_isSameAs_9, eX1_isSameAs_9N, eX1_isSameAs_10, eX1_isSameAs_11, eX1_isSameAs_14, eX1_isSameAs_14N, eX1_isSameAs_15, eX1_isSameAs_16_0, eX1_isSameAs_16_1, eX1_isSameAs_16_2, eX1_isSameAs_16_d5, eX1_isSameAs_16_d6, eX1_isSameAs_44, eX1_isSameAs_44N, eX1_isSameAs_45, eX1_isSameAs_45N, eX1_isSameAs_46R, eX1_isSameAs_46N, eX1_isSameAs_49R, eX1_isSameAs_49N, eX1_isSameAs_52, eX1_isSameAs_53, eX1_isSameAs_53N, eX1_isSameAs_54, eX1_isSameAs_54N, eX1_isSameAs_55R, eX1_isSameAs_55N, eX1_isSameAs_58, eX1_isSameAs_59, eX1_isSameAs_59N, eX1_isSameAs_60, eX1_isSameAs_60N, eX1_isSameAs_61R, eX1_isSameAs_61N, eX1_isSameAs_64R, eX1_isSameAs_64N, eX1_isSameAs_67, eX1_isSameAs_68, eX1_isSameAs_69, rx, rn, rc, rl, hx, hn, hc, hl, d1, d2, d3, d4, d5, d6, d7, d8, d9, d10, d11, d12, rd_n, upw_n, ite_le, n45, n54, true_or, or_true, false_or, or_false, false_and, and_false, kx_l, kx_r, go_s, gl_s, gi_s, gb_s2, gb_s3, gq_s, wt_nil, wt_int, wt_long, wt_ref, wt_null, nl_int, nl_long, nl_ref, nl_null, nl_none, rf_n, rf_s, rf_st, tl_s, tl_n, g0, gS, ex1, nb_b, nb_0, nb_1, nf_i, nf_l, nf_ra, nf_ro, nf_na, nf_no, nf_b0, nf_z0, t45_4, t45_5, true_and, and_true, List.set_cons_zero, List.set_cons_succ, List.length_cons, List.length_nil, rd_s, upw_s, ne_eq, not_false_eq_true, Nat.zero_add, Nat.add_zero]
      | split
      | with_reducible intro _
      | omega
  · repeat' first
      | with_reducible assumption
      | with_reducible refine And.intro ?_ ?_
      | with_reducible exact vpi6 (by assumption) (by assumption)
      | with_reducible exact vpi8 (by assumption) (by assumption)
      | with_reducible exact hQ _ _ (by repeat' first | assumption | exact ext.rf | refine ext.tr (by assumption) ?_)
      | with_reducible exact hQt _ (by repeat' first | assumption | exact ext.rf | refine ext.tr (by assumption) ?_)
      | with_reducible exact hQf _ (by repeat' first | assumption | exact ext.rf | refine ext.tr (by assumption) ?_)
      | with_reducible refine sX1_needCard ?_ ?_
      | with_reducible refine sX1_needChoice ?_ ?_
      | with_reducible refine sX1_rangeOf2 (by first | assumption | exact CC.ext (by assumption) (by assumption)) ?_ ?_ ?_
      | with_reducible refine sX1_copyOf (by first | assumption | exact hgc _ _ (by assumption) | exact hgl _ _ (by assumption) | exact isR.ext (by assumption) (by repeat' first | assumption | exact ext.rf | refine ext.tr (by assumption) ?_) | exact isR.ext (hgc _ _ (by assumption)) (by repeat' first | assumption | exact ext.rf | refine ext.tr (by assumption) ?_)) ?_ ?_
      | with_reducible refine sX0_matchesR (by first | assumption | exact hgc _ _ (by assumption) | exact hgl _ _ (by assumption) | exact isR.ext (by assumption) (by repeat' first | assumption | exact ext.rf | refine ext.tr (by assumption) ?_) | exact isR.ext (hgc _ _ (by assumption)) (by repeat' first | assumption | exact ext.rf | refine ext.tr (by assumption) ?_)) (by first | assumption | exact hgc _ _ (by assumption) | exact hgl _ _ (by assumption) | exact isR.ext (by assumption) (by repeat' first | assumption | exact ext.rf | refine ext.tr (by assumption) ?_) | exact isR.ext (hgc _ _ (by assumption)) (by repeat' first | assumption | exact ext.rf | refine ext.tr (by assumption) ?_)) ?_
      | with_reducible refine sX0_matchesN (by first | assumption | exact hgc _ _ (by assumption) | exact hgl _ _ (by assumption) | exact isR.ext (by assumption) (by repeat' first | assumption | exact ext.rf | refine ext.tr (by assumption) ?_) | exact isR.ext (hgc _ _ (by assumption)) (by repeat' first | assumption | exact ext.rf | refine ext.tr (by assumption) ?_)) ?_
      | with_reducible refine sX1_outerOf (by first | assumption | exact hgc _ _ (by assumption) | exact hgl _ _ (by assumption) | exact isR.ext (by assumption) (by repeat' first | assumption | exact ext.rf | refine ext.tr (by assumption) ?_) | exact isR.ext (hgc _ _ (by assumption)) (by repeat' first | assumption | exact ext.rf | refine ext.tr (by assumption) ?_)) ?_ ?_
      | with_reducible exact go_C (by first | assumption | exact CC.ext hC (by repeat' first | assumption | exact ext.rf | refine ext.tr (by assumption) ?_))
      | with_reducible refine go_R (by first | assumption | exact hgc _ _ (by assumption) | exact hgl _ _ (by assumption) | exact isR.ext (by assumption) (by repeat' first | assumption | exact ext.rf | refine ext.tr (by assumption) ?_) | exact isR.ext (hgc _ _ (by assumption)) (by repeat' first | assumption | exact ext.rf | refine ext.tr (by assumption) ?_)) ?_
      | simp only [eX1_isSameAs_0, eX1_isSameAs_1, eX1_isSameAs_4, eX1_isSameAs_5, eX1_isSameAs_6, eX1_isSameAs_9, eX1_isSameAs_9N, eX1_isSameAs_10, eX1_isSameAs_11, eX1_isSameAs_14, eX1_isSameAs_14N, eX1_isSameAs_15, eX1_isSameAs_16_0, eX1_isSameAs_16_1, eX1_isSameAs_16_2, eX1_isSameAs_16_d5, eX1_isSameAs_16_d6, eX1_isSameAs_44, eX1_isSameAs_44N, eX1_isSameAs_45, eX1_isSameAs_45N, eX1_isSameAs_46R, eX1_isSameAs_46N, eX1_isSameAs_49R, eX1_isSameAs_49N, eX1_isSameAs_52, eX1_isSameAs_53, eX1_isSameAs_53N, eX1_isSameAs_54, eX1_isSameAs_54N, eX1_isSameAs_55R, eX1_isSameAs_55N, eX1_isSameAs_58, eX1_isSameAs_59, eX1_isSameAs_59N, eX1_isSameAs_60, eX1_isSameAs_60N, eX1_isSameAs_61R, eX1_isSameAs_61N, eX1_isSameAs_64R, eX1_isSameAs_64N, eX1_isSameAs_67, eX1_isSameAs_68, eX1_isSameAs_69, rx, rn, rc, rl, hx, hn, hc, hl, d1, d2, d3, d4, d5, d6, d7, d8, d9, d10, d11, d12, rd_n, upw_n, ite_le, n45, n54, true_or, or_true, false_or, or_false, false_and, and_false, kx_l, kx_r, go_s, gl_s, gi_s, gb_s2, gb_s3, gq_s, wt_nil, wt_int, wt_long, wt_ref, wt_null, nl_int, nl_long, nl_ref, nl_null, nl_none, rf_n, rf_s, rf_st, tl_s, tl_n, g0, gS, ex1, nb_b, nb_0, nb_1, nf_i, nf_l, nf_ra, nf_ro, nf_na, nf_no, nf_b0, nf_z0, t45_4, t45_5, true_and, and_true, List.set_cons_zero, List.set_cons_succ, List.length_cons, List.length_nil, rd_s, upw_s, ne_eq, not_false_eq_true, Nat.zero_add, Nat.add_zero]
      | split
      | with_reducible intro _
      | omega
  · repeat' first
      | with_reducible assumption
      | with_reducible refine And.intro ?_ ?_
      | with_reducible exact vpi6 (by assumption) (by assumption)
      | with_reducible exact vpi8 (by assumption) (by assumption)
      | with_reducible exact hQ _ _ (by repeat' first | assumption | exact ext.rf | refine ext.tr (by assumption) ?_)
      | with_reducible exact hQt _ (by repeat' first | assumption | exact ext.rf | refine ext.tr (by assumption) ?_)
      | with_reducible exact hQf _ (by repeat' first | assumption | exact ext.rf | refine ext.tr (by assumption) ?_)
      | with_reducible refine sX1_needCard ?_ ?_
      | with_reducible refine sX1_needChoice ?_ ?_
      | with_reducible refine sX1_rangeOf2 (by first | assumption | exact CC.ext (by assumption) (by assumption)) ?_ ?_ ?_
      | with_reducible refine sX1_copyOf (by first | assumption | exact hgc _ _ (by assumption) | exact hgl _ _ (by assumption) | exact isR.ext (by assumption) (by repeat' first | assumption | exact ext.rf | refine ext.tr (by assumption) ?_) | exact isR.ext (hgc _ _ (by assumption)) (by repeat' first | assumption | exact ext.rf | refine ext.tr (by assumption) ?_)) ?_ ?_
      | with_reducible refine sX0_matchesR (by first | assumption | exact hgc _ _ (by assumption) | exact hgl _ _ (by assumption) | exact isR.ext (by assumption) (by repeat' first | assumption | exact ext.rf | refine ext.tr (by assumption) ?_) | exact isR.ext (hgc _ _ (by assumption)) (by repeat' first | assumption | exact ext.rf | refine ext.tr (by assumption) ?_)) (by first | assumption | exact hgc _ _ (by assumption) | exact hgl _ _ (by assumption) | exact isR.ext (by assumption) (by repeat' first | assumption | exact ext.rf | refine ext.tr (by assumption) ?_) | exact isR.ext (hgc _ _ (by assumption)) (by repeat' first | assumption | exact ext.rf | refine ext.tr (by assumption) ?_)) ?_
      | with_reducible refine sX0_matchesN (by first | assumption | exact hgc _ _ (by assumption) | exact hgl _ _ (by assumption) | exact isR.ext (by assumption) (by repeat' first | assumption | exact ext.rf | refine ext.tr (by assumption) ?_) | exact isR.ext (hgc _ _ (by assumption)) (by repeat' first | assumption | exact ext.rf | refine ext.tr (by assumption) ?_)) ?_
      | with_reducible refine sX1_outerOf (by first | assumption | exact hgc _ _ (by assumption) | exact hgl _ _ (by assumption) | exact isR.ext (by assumption) (by repeat' first | assumption | exact ext.rf | refine ext.tr (by assumption) ?_) | exact isR.ext (hgc _ _ (by assumption)) (by repeat' first | assumption | exact ext.rf | refine ext.tr (by assumption) ?_)) ?_ ?_
      | with_reducible exact go_C (by first | assumption | exact CC.ext hC (by repeat' first | assumption | exact ext.rf | refine ext.tr (by assumption) ?_))
      | with_reducible refine go_R (by first | assumption | exact hgc _ _ (by assumption) | exact hgl _ _ (by assumption) | exact isR.ext (by assumption) (by repeat' first | assumption | exact ext.rf | refine ext.tr (by assumption) ?_) | exact isR.ext (hgc _ _ (by assumption)) (by repeat' first | assumption | exact ext.rf | refine ext.tr (by assumption) ?_)) ?_
      | simp only [eX1_isSameAs_0, eX1_isSameAs_1, eX1_isSameAs_4, eX1_isSameAs_5, eX1_isSameAs_6, eX1_isSameAs_9, eX1_isSameAs_9N, eX1_isSameAs_10, eX1_isSameAs_11, eX1_isSameAs_14, eX1_isSameAs_14N, eX1_isSameAs_15, eX1_isSameAs_16_0, eX1_isSameAs_16_1, eX1_isSameAs_16_2, eX1_isSameAs_16_d5, eX1_isSameAs_16_d6, eX1_isSameAs_44, eX1_isSameAs_44N, eX1_isSameAs_45, eX1_isSameAs_45N, eX1_isSameAs_46R, eX1_isSameAs_46N, eX1_isSameAs_49R, eX1_isSameAs_49N, eX1_isSameAs_52, eX1_isSameAs_53, eX1_isSameAs_53N, eX1_isSameAs_54, eX1_isSameAs_54N, eX1_isSameAs_55R, eX1_isSameAs_55N, eX1_isSameAs_58, eX1_isSameAs_59, eX1_isSameAs_59N, eX1_isSameAs_60, eX1_isSameAs_60N, eX1_isSameAs_61R, eX1_isSameAs_61N, eX1_isSameAs_64R, eX1_isSameAs_64N, eX1_isSameAs_67, eX1_isSameAs_68, eX1_isSameAs_69, rx, rn, rc, rl, hx, hn, hc, hl, d1, d2, d3, d4, d5, d6, d7, d8, d9, d10, d11, d12, rd_n, upw_n, ite_le, n45, n54, true_or, or_true, false_or, or_false, false_and, and_false, kx_l, kx_r, go_s, gl_s, gi_s, gb_s2, gb_s3, gq_s, wt_nil, wt_int, wt_long, wt_ref, wt_null, nl_int, nl_long, nl_ref, nl_null, nl_none, rf_n, rf_s, rf_st, tl_s, tl_n, g0, gS, ex1, nb_b, nb_0, nb_1, nf_i, nf_l, nf_ra, nf_ro, nf_na, nf_no, nf_b0, nf_z0, t45_4, t45_5, true_and, and_true, List.set_cons_zero, List.set_cons_succ, List.length_cons, List.length_nil, rd_s, upw_s, ne_eq, not_false_eq_true, Nat.zero_add, Nat.add_zero]
      | split
      | with_reducible intro _
      | omega
  · repeat' first
      | with_reducible assumption
      | with_reducible refine And.intro ?_ ?_
      | with_reducible exact vpi6 (by assumption) (by assumption)
      | with_reducible exact vpi8 (by assumption) (by assumption)
      | with_reducible exact hQ _ _ (by repeat' first | assumption | exact ext.rf | refine ext.tr (by assumption) ?_)
      | with_reducible exact hQt _ (by repeat' first | assumption | exact ext.rf | refine ext.tr (by assumption) ?_)
      | with_reducible exact hQf _ (by repeat' first | assumption | exact ext.rf | refine ext.tr (by assumption) ?_)
      | with_reducible refine sX1_needCard ?_ ?_
      | with_reducible refine sX1_needChoice ?_ ?_
      | with_reducible refine sX1_rangeOf2 (by first | assumption | exact CC.ext (by assumption) (by assumption)) ?_ ?_ ?_
      | with_reducible refine sX1_copyOf (by first | assumption | exact hgc _ _ (by assumption) | exact hgl _ _ (by assumption) | exact isR.ext (by assumption) (by repeat' first | assumption | exact ext.rf | refine ext.tr (by assumption) ?_) | exact isR.ext (hgc _ _ (by assumption)) (by repeat' first | assumption | exact ext.rf | refine ext.tr (by assumption) ?_)) ?_ ?_
      | with_reducible refine sX0_matchesR (by first | assumption | exact hgc _ _ (by assumption) | exact hgl _ _ (by assumption) | exact isR.ext (by assumption) (by repeat' first | assumption | exact ext.rf | refine ext.tr (by assumption) ?_) | exact isR.ext (hgc _ _ (by assumption)) (by repeat' first | assumption | exact ext.rf | refine ext.tr (by assumption) ?_)) (by first | assumption | exact hgc _ _ (by assumption) | exact hgl _ _ (by assumption) | exact isR.ext (by assumption) (by repeat' first | assumption | exact ext.rf | refine ext.tr (by assumption) ?_) | exact isR.ext (hgc _ _ (by assumption)) (by repeat' first | assumption | exact ext.rf | refine ext.tr (by assumption) ?_)) ?_
      | with_reducible refine sX0_matchesN (by first | assumption | exact hgc _ _ (by assumption) | exact hgl _ _ (by assumption) | exact isR.ext (by assumption) (by repeat' first | assumption | exact ext.rf | refine ext.tr (by assumption) ?_) | exact isR.ext (hgc _ _ (by assumption)) (by repeat' first | assumption | exact ext.rf | refine ext.tr (by assumption) ?_)) ?_
      | with_reducible refine sX1_outerOf (by first | assumption | exact hgc _ _ (by assumption) | exact hgl _ _ (by assumption) | exact isR.ext (by assumption) (by repeat' first | assumption | exact ext.rf | refine ext.tr (by assumption) ?_) | exact isR.ext (hgc _ _ (by assumption)) (by repeat' first | assumption | exact ext.rf | refine ext.tr (by assumption) ?_)) ?_ ?_
      | with_reducible exact go_C (by first | assumption | exact CC.ext hC (by repeat' first | assumption | exact ext.rf | refine ext.tr (by assumption) ?_))
      | with_reducible refine go_R (by first | assumption | exact hgc _ _ (by assumption) | exact hgl _ _ (by assumption) | exact isR.ext (by assumption) (by repeat' first | assumption | exact ext.rf | refine ext.tr (by assumption) ?_) | exact isR.ext (hgc _ _ (by assumption)) (by repeat' first | assumption | exact ext.rf | refine ext.tr (by assumption) ?_)) ?_
      | simp only [eX1_isSameAs_0, eX1_isSameAs_1, eX1_isSameAs_4, eX1_isSameAs_5, eX1_isSameAs_6, eX1_isSameAs_9, eX1_isSameAs_9N, eX1_isSameAs_10, eX1_isSameAs_11, eX1_isSameAs_14, eX1_isSameAs_14N, eX1_isSameAs_15, eX1_isSameAs_16_0, eX1_isSameAs_16_1, eX1_isSameAs_16_2, eX1_isSameAs_16_d5, eX1_isSameAs_16_d6, eX1_isSameAs_44, eX1_isSameAs_44N, eX1_isSameAs_45, eX1_isSameAs_45N, eX1_isSameAs_46R, eX1_isSameAs_46N, eX1_isSameAs_49R, eX1_isSameAs_49N, eX1_isSameAs_52, eX1_isSameAs_53, eX1_isSameAs_53N, eX1_isSameAs_54, eX1_isSameAs_54N, eX1_isSameAs_55R, eX1_isSameAs_55N, eX1_isSameAs_58, eX1_isSameAs_59, eX1_isSameAs_59N, eX1_isSameAs_60, eX1_isSameAs_60N, eX1_isSameAs_61R, eX1_isSameAs_61N, eX1_isSameAs_64R, eX1_isSameAs_64N, eX1_isSameAs_67, eX1_isSameAs_68, eX1_isSameAs_69, rx, rn, rc, rl, hx, hn, hc, hl, d1, d2, d3, d4, d5, d6, d7, d8, d9, d10, d11, d12, rd_n, upw_n, eX1_isSameAs_16_d hsw, ite_le, n45, n54, true_or, or_true, false_or, or_false, false_and, and_false, kx_l, kx_r, go_s, gl_s, gi_s, gb_s2, gb_s3, gq_s, wt_nil, wt_int, wt_long, wt_ref, wt_null, nl_int, nl_long, nl_ref, nl_null, nl_none, rf_n, rf_s, rf_st, tl_s, tl_n, g0, gS, ex1, nb_b, nb_0, nb_1, nf_i, nf_l, nf_ra, nf_ro, nf_na, nf_no, nf_b0, nf_z0, t45_4, t45_5, true_and, and_true, List.set_cons_zero, List.set_cons_succ, List.length_cons, List.length_nil, rd_s, upw_s, ne_eq, not_false_eq_true, Nat.zero_add, Nat.add_zero]
      | split
      | with_reducible intro _
      | omega
set_option maxHeartbeats 4000000 in
theorem lX1_isSound_2 (hQ : ∀ (v : Bool) (w' : Hw), ext g w w' → Q (.inl (some (.int (bI v)))) w') : ∀ (d : Nat) (i1 : Int32) (i2 : Option Value) (w1 : Hw) (k m : Nat), CC g w0 x nA cA lA kn w1 → ext g w w1 → ¬ i1 < 0 → (6 : Int32).toInt - i1.toInt ≤ (d : Int) → k + 4 * d ≤ 24 → m + 16 * d ≤ 96 → WP (MX1_isSound g) Q (2, [some (.ref x), some (.int i1), i2], [], w1, k, m) := by
  have hQt : ∀ w', ext g w w' → Q (.inl (some (.int 1))) w' := hQ true
  have hQf : ∀ w', ext g w w' → Q (.inl (some (.int 0))) w' := hQ false
  intro d
  induction d with
  | zero =>
    intro i1 i2 w1 k m hC he z0 hm hk hs
    obtain ⟨n, rf, md, f, gc, gl, hx, hn, hc, hl, hgc, hgl, hn0, hn1, rx, rn, rc, rl, ⟨d1, d2, d3, d4, d5, d6⟩, ⟨d7, d8, d9, d10, d11, d12⟩⟩ := hC.1.opn g
    rw [eX1_isSound_2]
    repeat' first
      | with_reducible assumption
      | with_reducible refine And.intro ?_ ?_
      | with_reducible exact vpi6 (by assumption) (by assumption)
      | with_reducible exact vpi8 (by assumption) (by assumption)
      | with_reducible exact (ic_z (by assumption) (by assumption)).elim
      | with_reducible exact hQ _ _ (by repeat' first | assumption | exact ext.rf | refine ext.tr (by assumption) ?_)
      | with_reducible exact hQt _ (by repeat' first | assumption | exact ext.rf | refine ext.tr (by assumption) ?_)
      | with_reducible exact hQf _ (by repeat' first | assumption | exact ext.rf | refine ext.tr (by assumption) ?_)
      | with_reducible refine sX1_isSoundAlone (by first | assumption | exact CC.ext hC (by repeat' first | assumption | exact ext.rf | refine ext.tr (by assumption) ?_)) (by first | assumption | exact hgc _ _ (by assumption) | exact hgl _ _ (by assumption) | exact isR.ext (by assumption) (by repeat' first | assumption | exact ext.rf | refine ext.tr (by assumption) ?_) | exact isR.ext (hgc _ _ (by assumption)) (by repeat' first | assumption | exact ext.rf | refine ext.tr (by assumption) ?_)) ?_
      | with_reducible refine sX1_isSameToAndFro (by first | assumption | exact CC.ext hC (by repeat' first | assumption | exact ext.rf | refine ext.tr (by assumption) ?_)) (by first | assumption | exact hgc _ _ (by assumption) | exact hgl _ _ (by assumption) | exact isR.ext (by assumption) (by repeat' first | assumption | exact ext.rf | refine ext.tr (by assumption) ?_) | exact isR.ext (hgc _ _ (by assumption)) (by repeat' first | assumption | exact ext.rf | refine ext.tr (by assumption) ?_)) ?_
      | with_reducible refine sX1_isEachFoundInPile (by first | assumption | exact CC.ext hC (by repeat' first | assumption | exact ext.rf | refine ext.tr (by assumption) ?_)) ?_
      | with_reducible exact go_C (by first | assumption | exact CC.ext hC (by repeat' first | assumption | exact ext.rf | refine ext.tr (by assumption) ?_))
      | simp only [eX1_isSound_0, eX1_isSound_1, eX1_isSound_3, eX1_isSound_5, eX1_isSound_8, eX1_isSound_8N, eX1_isSound_9, eX1_isSound_12, eX1_isSound_13, eX1_isSound_14, eX1_isSound_14N, eX1_isSound_15, eX1_isSound_15N, eX1_isSound_16R, eX1_isSound_16N, eX1_isSound_19, eX1_isSound_19N, eX1_isSound_20, eX1_isSound_20N, eX1_isSound_21R, eX1_isSound_21N, eX1_isSound_24, eX1_isSound_27, eX1_isSound_27N, eX1_isSound_28, eX1_isSound_28N, eX1_isSound_29R, eX1_isSound_29N, eX1_isSound_32, eX1_isSound_35, eX1_isSound_36, eX1_isSound_37, eX1_isSound_40, eX1_isSound_43, eX1_isSound_43N, eX1_isSound_44, eX1_isSound_47, rx, rn, rc, rl, hx, hn, hc, hl, d1, d2, d3, d4, d5, d6, d7, d8, d9, d10, d11, d12, rd_n, upw_n, ite_le, n45, n54, true_or, or_true, false_or, or_false, false_and, and_false, kx_l, kx_r, go_s, gl_s, gi_s, gb_s2, gb_s3, gq_s, wt_nil, wt_int, wt_long, wt_ref, wt_null, nl_int, nl_long, nl_ref, nl_null, nl_none, rf_n, rf_s, rf_st, tl_s, tl_n, g0, gS, ex1, nb_b, nb_0, nb_1, nf_i, nf_l, nf_ra, nf_ro, nf_na, nf_no, nf_b0, nf_z0, t45_4, t45_5, true_and, and_true, List.set_cons_zero, List.set_cons_succ, List.length_cons, List.length_nil, rd_s, upw_s, ne_eq, not_false_eq_true, Nat.zero_add, Nat.add_zero]
      | split
      | with_reducible intro _
      | omega
  | succ d ih =>
    intro i1 i2 w1 k m hC he z0 hm hk hs
    obtain ⟨n, rf, md, f, gc, gl, hx, hn, hc, hl, hgc, hgl, hn0, hn1, rx, rn, rc, rl, ⟨d1, d2, d3, d4, d5, d6⟩, ⟨d7, d8, d9, d10, d11, d12⟩⟩ := hC.1.opn g
    rw [eX1_isSound_2]
    repeat' first
      | with_reducible assumption
      | with_reducible refine And.intro ?_ ?_
      | with_reducible exact vpi6 (by assumption) (by assumption)
      | with_reducible exact vpi8 (by assumption) (by assumption)
      | with_reducible exact ih _ _ _ _ _ (by first | assumption | exact CC.ext hC (by repeat' first | assumption | exact ext.rf | refine ext.tr (by assumption) ?_)) (by repeat' first | assumption | exact ext.rf | refine ext.tr (by assumption) ?_) (ic_p (by assumption) (by assumption)) (ic_s (by assumption) (by assumption)) (by omega) (by omega)
      | with_reducible exact hQ _ _ (by repeat' first | assumption | exact ext.rf | refine ext.tr (by assumption) ?_)
      | with_reducible exact hQt _ (by repeat' first | assumption | exact ext.rf | refine ext.tr (by assumption) ?_)
      | with_reducible exact hQf _ (by repeat' first | assumption | exact ext.rf | refine ext.tr (by assumption) ?_)
      | with_reducible refine sX1_isSoundAlone (by first | assumption | exact CC.ext hC (by repeat' first | assumption | exact ext.rf | refine ext.tr (by assumption) ?_)) (by first | assumption | exact hgc _ _ (by assumption) | exact hgl _ _ (by assumption) | exact isR.ext (by assumption) (by repeat' first | assumption | exact ext.rf | refine ext.tr (by assumption) ?_) | exact isR.ext (hgc _ _ (by assumption)) (by repeat' first | assumption | exact ext.rf | refine ext.tr (by assumption) ?_)) ?_
      | with_reducible refine sX1_isSameToAndFro (by first | assumption | exact CC.ext hC (by repeat' first | assumption | exact ext.rf | refine ext.tr (by assumption) ?_)) (by first | assumption | exact hgc _ _ (by assumption) | exact hgl _ _ (by assumption) | exact isR.ext (by assumption) (by repeat' first | assumption | exact ext.rf | refine ext.tr (by assumption) ?_) | exact isR.ext (hgc _ _ (by assumption)) (by repeat' first | assumption | exact ext.rf | refine ext.tr (by assumption) ?_)) ?_
      | with_reducible refine sX1_isEachFoundInPile (by first | assumption | exact CC.ext hC (by repeat' first | assumption | exact ext.rf | refine ext.tr (by assumption) ?_)) ?_
      | with_reducible exact go_C (by first | assumption | exact CC.ext hC (by repeat' first | assumption | exact ext.rf | refine ext.tr (by assumption) ?_))
      | simp only [eX1_isSound_0, eX1_isSound_1, eX1_isSound_3, eX1_isSound_5, eX1_isSound_8, eX1_isSound_8N, eX1_isSound_9, eX1_isSound_12, eX1_isSound_13, eX1_isSound_14, eX1_isSound_14N, eX1_isSound_15, eX1_isSound_15N, eX1_isSound_16R, eX1_isSound_16N, eX1_isSound_19, eX1_isSound_19N, eX1_isSound_20, eX1_isSound_20N, eX1_isSound_21R, eX1_isSound_21N, eX1_isSound_24, eX1_isSound_27, eX1_isSound_27N, eX1_isSound_28, eX1_isSound_28N, eX1_isSound_29R, eX1_isSound_29N, eX1_isSound_32, eX1_isSound_35, eX1_isSound_36, eX1_isSound_37, eX1_isSound_40, eX1_isSound_43, eX1_isSound_43N, eX1_isSound_44, eX1_isSound_47, rx, rn, rc, rl, hx, hn, hc, hl, d1, d2, d3, d4, d5, d6, d7, d8, d9, d10, d11, d12, rd_n, upw_n, ite_le, n45, n54, true_or, or_true, false_or, or_false, false_and, and_false, kx_l, kx_r, go_s, gl_s, gi_s, gb_s2, gb_s3, gq_s, wt_nil, wt_int, wt_long, wt_ref, wt_null, nl_int, nl_long, nl_ref, nl_null, nl_none, rf_n, rf_s, rf_st, tl_s, tl_n, g0, gS, ex1, nb_b, nb_0, nb_1, nf_i, nf_l, nf_ra, nf_ro, nf_na, nf_no, nf_b0, nf_z0, t45_4, t45_5, true_and, and_true, List.set_cons_zero, List.set_cons_succ, List.length_cons, List.length_nil, rd_s, upw_s, ne_eq, not_false_eq_true, Nat.zero_add, Nat.add_zero]
      | split
      | with_reducible intro _
      | omega
set_option maxHeartbeats 4000000 in
theorem sX1_isSound  (hC : CC g w0 x nA cA lA kn w) (hQ : ∀ (v : Bool) (w' : Hw), ext g w w' → Q (.inl (some (.int (bI v)))) w') : WP (MX1_isSound g) Q (0, [some (.ref x), none, none], [], w, 0, 0) := by
  obtain ⟨n, rf, md, f, gc, gl, hx, hn, hc, hl, hgc, hgl, hn0, hn1, rx, rn, rc, rl, ⟨d1, d2, d3, d4, d5, d6⟩, ⟨d7, d8, d9, d10, d11, d12⟩⟩ := hC.1.opn g
  have hQt : ∀ w', ext g w w' → Q (.inl (some (.int 1))) w' := hQ true
  have hQf : ∀ w', ext g w w' → Q (.inl (some (.int 0))) w' := hQ false
  repeat' first
    | with_reducible assumption
    | with_reducible refine And.intro ?_ ?_
    | with_reducible exact vpi6 (by assumption) (by assumption)
    | with_reducible exact vpi8 (by assumption) (by assumption)
    | with_reducible exact lX1_isSound_2 hQ 6 _ _ _ _ _ hC ext.rf (by decide) (by decide) (by decide) (by decide)
    | with_reducible refine sX1_isSoundAlone (by first | assumption | exact CC.ext hC (by repeat' first | assumption | exact ext.rf | refine ext.tr (by assumption) ?_)) (by first | assumption | exact hgc _ _ (by assumption) | exact hgl _ _ (by assumption) | exact isR.ext (by assumption) (by repeat' first | assumption | exact ext.rf | refine ext.tr (by assumption) ?_) | exact isR.ext (hgc _ _ (by assumption)) (by repeat' first | assumption | exact ext.rf | refine ext.tr (by assumption) ?_)) ?_
    | with_reducible refine sX1_isSameToAndFro (by first | assumption | exact CC.ext hC (by repeat' first | assumption | exact ext.rf | refine ext.tr (by assumption) ?_)) (by first | assumption | exact hgc _ _ (by assumption) | exact hgl _ _ (by assumption) | exact isR.ext (by assumption) (by repeat' first | assumption | exact ext.rf | refine ext.tr (by assumption) ?_) | exact isR.ext (hgc _ _ (by assumption)) (by repeat' first | assumption | exact ext.rf | refine ext.tr (by assumption) ?_)) ?_
    | with_reducible refine sX1_isEachFoundInPile (by first | assumption | exact CC.ext hC (by repeat' first | assumption | exact ext.rf | refine ext.tr (by assumption) ?_)) ?_
    | with_reducible refine go_R (by first | assumption | exact hgc _ _ (by assumption) | exact hgl _ _ (by assumption) | exact isR.ext (by assumption) (by repeat' first | assumption | exact ext.rf | refine ext.tr (by assumption) ?_) | exact isR.ext (hgc _ _ (by assumption)) (by repeat' first | assumption | exact ext.rf | refine ext.tr (by assumption) ?_)) ?_
    | with_reducible exact hQ _ _ (by first | assumption | exact ext.rf | exact ext.tr (by assumption) (by assumption))
    | with_reducible exact hQt _ (by first | assumption | exact ext.rf | exact ext.tr (by assumption) (by assumption))
    | with_reducible exact hQf _ (by first | assumption | exact ext.rf | exact ext.tr (by assumption) (by assumption))
    | simp only [eX1_isSound_0, eX1_isSound_1, eX1_isSound_3, eX1_isSound_5, eX1_isSound_8, eX1_isSound_8N, eX1_isSound_9, eX1_isSound_12, eX1_isSound_13, eX1_isSound_14, eX1_isSound_14N, eX1_isSound_15, eX1_isSound_15N, eX1_isSound_16R, eX1_isSound_16N, eX1_isSound_19, eX1_isSound_19N, eX1_isSound_20, eX1_isSound_20N, eX1_isSound_21R, eX1_isSound_21N, eX1_isSound_24, eX1_isSound_27, eX1_isSound_27N, eX1_isSound_28, eX1_isSound_28N, eX1_isSound_29R, eX1_isSound_29N, eX1_isSound_32, eX1_isSound_35, eX1_isSound_36, eX1_isSound_37, eX1_isSound_40, eX1_isSound_43, eX1_isSound_43N, eX1_isSound_44, eX1_isSound_47, rx, rn, rc, rl, hx, hn, hc, hl, d1, d2, d3, d4, d5, d6, d7, d8, d9, d10, d11, d12, rd_n, upw_n, ite_le, n45, n54, true_or, or_true, false_or, or_false, false_and, and_false, kx_l, kx_r, go_s, gl_s, gi_s, gb_s2, gb_s3, gq_s, wt_nil, wt_int, wt_long, wt_ref, wt_null, nl_int, nl_long, nl_ref, nl_null, nl_none, rf_n, rf_s, rf_st, tl_s, tl_n, g0, gS, ex1, nb_b, nb_0, nb_1, nf_i, nf_l, nf_ra, nf_ro, nf_na, nf_no, nf_b0, nf_z0, t45_4, t45_5, true_and, and_true, List.set_cons_zero, List.set_cons_succ, List.length_cons, List.length_nil, rd_s, upw_s, ne_eq, not_false_eq_true, Nat.zero_add, Nat.add_zero]
    | split
    | with_reducible intro _
    | omega
end
