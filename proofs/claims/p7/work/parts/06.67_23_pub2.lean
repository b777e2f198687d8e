/-! 67.23.pub2.lean.txt -/
section
section
variable {g : RO} {Q : Ot → Hw → Prop} {w0 w : Hw} {x nA cA lA : Nat} {kn : Int32}
theorem sX1_rangeOf2 {a0 : Int32} (hC : CC g w0 x nA cA lA kn w) (hXo : Q (.inr "java/lang/IndexOutOfBoundsException") w) (hXs : Q (.inr "java/lang/IllegalStateException") w) (hQ : ∀ b, ¬ a0 < 0 → a0 < 6 → isR w b → Q (.inl (some (.ref b))) w) : WP (MX1_rangeOf g) Q (0, [some (.ref x), some (.int a0), none], [], w, 0, 0) := by
  obtain ⟨n, rf, md, f, gc, gl, hx, hn, hc, hl, hgc, hgl, hn0, hn1, rx, rn, rc, rl, ⟨d1, d2, d3, d4, d5, d6⟩, ⟨d7, d8, d9, d10, d11, d12⟩⟩ := hC.1.opn g
  repeat' first
    | with_reducible assumption
    | with_reducible refine And.intro ?_ ?_
    | with_reducible exact vpi6 (by assumption) (by assumption)
    | with_reducible exact vpi8 (by assumption) (by assumption)
    | with_reducible exact hQ _ (by assumption) (by assumption) (hgc _ _ (by assumption))
    | with_reducible refine sX1_needCard ?_ ?_
    | simp only [eX1_rangeOf_0, eX1_rangeOf_1, eX1_rangeOf_4, eX1_rangeOf_4N, eX1_rangeOf_5, eX1_rangeOf_8, eX1_rangeOf_9, eX1_rangeOf_10, eX1_rangeOf_10N, eX1_rangeOf_11, eX1_rangeOf_11N, eX1_rangeOf_12R, eX1_rangeOf_12N, eX1_rangeOf_15, eX1_rangeOf_25, eX1_rangeOf_25N, eX1_rangeOf_26, eX1_rangeOf_26N, rx, rn, rc, rl, hx, hn, hc, hl, d1, d2, d3, d4, d5, d6, d7, d8, d9, d10, d11, d12, rd_n, upw_n, ite_le, n45, n54, true_or, or_true, false_or, or_false, false_and, and_false, kx_l, kx_r, go_s, gl_s, gi_s, gb_s2, gb_s3, gq_s, wt_nil, wt_int, wt_long, wt_ref, wt_null, nl_int, nl_long, nl_ref, nl_null, nl_none, rf_n, rf_s, rf_st, tl_s, tl_n, g0, gS, ex1, nb_b, nb_0, nb_1, nf_i, nf_l, nf_ra, nf_ro, nf_na, nf_no, nf_b0, nf_z0, t45_4, t45_5, true_and, and_true, List.set_cons_zero, List.set_cons_succ, List.length_cons, List.length_nil, rd_s, upw_s, ne_eq, not_false_eq_true, Nat.zero_add, Nat.add_zero]
    | split
    | with_reducible intro _
    | omega
end
end
/-! 67.23.pub3.lean.txt -/
section
section
variable {g : RO} {Q : Ot → Hw → Prop} {w0 w : Hw} {x nA cA lA : Nat} {kn : Int32}
set_option maxHeartbeats 4000000 in
theorem lX1_count_38 {a0 : Int32} {a1 : Int32} {a2 : Int32} {b4 : Nat} (hC : CC g w0 x nA cA lA kn w) (hb4 : isR w b4) (hXo : Q (.inr "java/lang/IndexOutOfBoundsException") w) (hXa : Q (.inr "java/lang/IllegalArgumentException") w) (hXs : Q (.inr "java/lang/IllegalStateException") w) (hQ : ∀ v : Int32, Q (.inl (some (.int v))) w) : ∀ (n rf md : Int32) (f : Nat → Int64) (gc gl : Nat → Option Nat), RO5 g w x nA cA lA n rf kn md f gc gl → ∀ (d : Nat) (i5 : Int32) (i6 : Int32) (k m : Nat), ¬ i6 < 0 → (a2 : Int32).toInt - i6.toInt ≤ (d : Int) → k ≤ 4 → m ≤ 24 → WP (MX1_count g) Q (38, [some (.ref x), some (.int a0), some (.int a1), some (.int a2), some (.ref b4), some (.int i5), some (.int i6)], [], w, k, m) := by
  rintro n rf md f gc gl ⟨hx, hn, hc, hl, hgc, hgl, hn0, hn1, rx, rn, rc, rl, ⟨d1, d2, d3, d4, d5, d6⟩, ⟨d7, d8, d9, d10, d11, d12⟩⟩ d
  induction d with
  | zero =>
    intro i5 i6 k m z0 hm hk hs
    rw [eX1_count_38]
    repeat' first
      | with_reducible assumption
      | with_reducible refine And.intro ?_ ?_
      | with_reducible exact vpi6 (by assumption) (by assumption)
      | with_reducible exact vpi8 (by assumption) (by assumption)
      | with_reducible exact (ic_z (by assumption) (by assumption)).elim
      | with_reducible exact vpi12 (by assumption) (by assumption) (by assumption)
      | with_reducible refine sX1_needCard ?_ ?_
      | with_reducible refine sX1_rangeOf2 (by first | assumption | exact CC.ext (by assumption) (by assumption)) ?_ ?_ ?_
      | with_reducible refine sX0_holds (by first | assumption | exact hgc _ _ (by assumption) | exact hgl _ _ (by assumption) | exact isR.ext (by assumption) (by assumption) | exact isR.mono (by assumption) (by first | assumption | exact isR.ext (by assumption) (by assumption)) | exact isR_up2 (by first | assumption | exact hgc _ _ (by assumption)) hc (by simp)) ?_
      | with_reducible refine sX1_asNumber ?_
      | with_reducible refine go_R (by first | assumption | exact hgc _ _ (by assumption) | exact hgl _ _ (by assumption) | exact isR.ext (by assumption) (by assumption) | exact isR.mono (by assumption) (by first | assumption | exact isR.ext (by assumption) (by assumption)) | exact isR_up2 (by first | assumption | exact hgc _ _ (by assumption)) hc (by simp)) ?_
      | with_reducible exact hQ _
      | simp only [eX1_count_0, eX1_count_1, eX1_count_4, eX1_count_5, eX1_count_6, eX1_count_9, eX1_count_10, eX1_count_12, eX1_count_15, eX1_count_25, eX1_count_25N, eX1_count_26, eX1_count_27, eX1_count_30, eX1_count_30N, eX1_count_32, eX1_count_33, eX1_count_35, eX1_count_36, eX1_count_40, eX1_count_41, eX1_count_44, eX1_count_46, eX1_count_46N, eX1_count_48, eX1_count_49, eX1_count_50, eX1_count_52, eX1_count_53, eX1_count_54, eX1_count_57, eX1_count_60, eX1_count_61, eX1_count_63, eX1_count_66, eX1_count_69, eX1_count_71, rx, rn, rc, rl, hx, hn, hc, hl, d1, d2, d3, d4, d5, d6, d7, d8, d9, d10, d11, d12, rd_n, upw_n, ite_le, n45, n54, true_or, or_true, false_or, or_false, false_and, and_false, kx_l, kx_r, go_s, gl_s, gi_s, gb_s2, gb_s3, gq_s, wt_nil, wt_int, wt_long, wt_ref, wt_null, nl_int, nl_long, nl_ref, nl_null, nl_none, rf_n, rf_s, rf_st, tl_s, tl_n, g0, gS, ex1, nb_b, nb_0, nb_1, nf_i, nf_l, nf_ra, nf_ro, nf_na, nf_no, nf_b0, nf_z0, t45_4, t45_5, true_and, and_true, List.set_cons_zero, List.set_cons_succ, List.length_cons, List.length_nil, rd_s, upw_s, ne_eq, not_false_eq_true, Nat.zero_add, Nat.add_zero]
      | split
      | with_reducible intro _
      | omega
  | succ d ih =>
    intro i5 i6 k m z0 hm hk hs
    rw [eX1_count_38]
    repeat' first
      | with_reducible assumption
      | with_reducible refine And.intro ?_ ?_
      | with_reducible exact vpi6 (by assumption) (by assumption)
      | with_reducible exact vpi8 (by assumption) (by assumption)
      | with_reducible exact ih _ _ _ _ (ic_p (by assumption) (by assumption)) (ic_s (by assumption) (by assumption)) (by first | assumption | omega) (by first | assumption | omega)
      | with_reducible exact vpi12 (by assumption) (by assumption) (by assumption)
      | with_reducible refine sX1_needCard ?_ ?_
      | with_reducible refine sX1_rangeOf2 (by first | assumption | exact CC.ext (by assumption) (by assumption)) ?_ ?_ ?_
      | with_reducible refine sX0_holds (by first | assumption | exact hgc _ _ (by assumption) | exact hgl _ _ (by assumption) | exact isR.ext (by assumption) (by assumption) | exact isR.mono (by assumption) (by first | assumption | exact isR.ext (by assumption) (by assumption)) | exact isR_up2 (by first | assumption | exact hgc _ _ (by assumption)) hc (by simp)) ?_
      | with_reducible refine sX1_asNumber ?_
      | with_reducible refine go_R (by first | assumption | exact hgc _ _ (by assumption) | exact hgl _ _ (by assumption) | exact isR.ext (by assumption) (by assumption) | exact isR.mono (by assumption) (by first | assumption | exact isR.ext (by assumption) (by assumption)) | exact isR_up2 (by first | assumption | exact hgc _ _ (by assumption)) hc (by simp)) ?_
      | with_reducible exact hQ _
      | simp only [eX1_count_0, eX1_count_1, eX1_count_4, eX1_count_5, eX1_count_6, eX1_count_9, eX1_count_10, eX1_count_12, eX1_count_15, eX1_count_25, eX1_count_25N, eX1_count_26, eX1_count_27, eX1_count_30, eX1_count_30N, eX1_count_32, eX1_count_33, eX1_count_35, eX1_count_36, eX1_count_40, eX1_count_41, eX1_count_44, eX1_count_46, eX1_count_46N, eX1_count_48, eX1_count_49, eX1_count_50, eX1_count_52, eX1_count_53, eX1_count_54, eX1_count_57, eX1_count_60, eX1_count_61, eX1_count_63, eX1_count_66, eX1_count_69, eX1_count_71, rx, rn, rc, rl, hx, hn, hc, hl, d1, d2, d3, d4, d5, d6, d7, d8, d9, d10, d11, d12, rd_n, upw_n, ite_le, n45, n54, true_or, or_true, false_or, or_false, false_and, and_false, kx_l, kx_r, go_s, gl_s, gi_s, gb_s2, gb_s3, gq_s, wt_nil, wt_int, wt_long, wt_ref, wt_null, nl_int, nl_long, nl_ref, nl_null, nl_none, rf_n, rf_s, rf_st, tl_s, tl_n, g0, gS, ex1, nb_b, nb_0, nb_1, nf_i, nf_l, nf_ra, nf_ro, nf_na, nf_no, nf_b0, nf_z0, t45_4, t45_5, true_and, and_true, List.set_cons_zero, List.set_cons_succ, List.length_cons, List.length_nil, rd_s, upw_s, ne_eq, not_false_eq_true, Nat.zero_add, Nat.add_zero]
      | split
      | with_reducible intro _
      | omega
set_option maxHeartbeats 4000000 in
theorem sX1_count {a0 : Int32} {a1 : Int32} {a2 : Int32} (hC : CC g w0 x nA cA lA kn w) (hXo : Q (.inr "java/lang/IndexOutOfBoundsException") w) (hXa : Q (.inr "java/lang/IllegalArgumentException") w) (hXs : Q (.inr "java/lang/IllegalStateException") w) (hQ : ∀ v : Int32, Q (.inl (some (.int v))) w) : WP (MX1_count g) Q (0, [some (.ref x), some (.int a0), some (.int a1), some (.int a2), none, none, none], [], w, 0, 0) := by
  obtain ⟨n, rf, md, f, gc, gl, hx, hn, hc, hl, hgc, hgl, hn0, hn1, rx, rn, rc, rl, ⟨d1, d2, d3, d4, d5, d6⟩, ⟨d7, d8, d9, d10, d11, d12⟩⟩ := hC.1.opn g
  repeat' first
    | with_reducible assumption
    | with_reducible refine And.intro ?_ ?_
    | with_reducible exact vpi6 (by assumption) (by assumption)
    | with_reducible exact vpi8 (by assumption) (by assumption)
    | with_reducible exact lX1_count_38 hC (by first | assumption | exact hgc _ _ (by assumption) | exact hgl _ _ (by assumption) | exact isR.ext (by assumption) (by assumption) | exact isR.mono (by assumption) (by first | assumption | exact isR.ext (by assumption) (by assumption)) | exact isR_up2 (by first | assumption | exact hgc _ _ (by assumption)) hc (by simp)) hXo hXa hXs hQ _ _ _ _ _ _ ⟨hx, hn, hc, hl, hgc, hgl, hn0, hn1, rx, rn, rc, rl, ⟨d1, d2, d3, d4, d5, d6⟩, ⟨d7, d8, d9, d10, d11, d12⟩⟩ 70 _ _ _ _ (by first | decide | assumption) (by first | decide | exact n12 (by assumption) | exact n60 (by assumption)) (by first | decide | omega) (by first | decide | omega)
    | with_reducible refine sX1_needCard ?_ ?_
    | with_reducible refine sX1_rangeOf2 (by first | assumption | exact CC.ext (by assumption) (by assumption)) ?_ ?_ ?_
    | with_reducible refine sX0_holds (by first | assumption | exact hgc _ _ (by assumption) | exact hgl _ _ (by assumption) | exact isR.ext (by assumption) (by assumption) | exact isR.mono (by assumption) (by first | assumption | exact isR.ext (by assumption) (by assumption)) | exact isR_up2 (by first | assumption | exact hgc _ _ (by assumption)) hc (by simp)) ?_
    | with_reducible refine sX1_asNumber ?_
    | with_reducible refine go_R (by first | assumption | exact hgc _ _ (by assumption) | exact hgl _ _ (by assumption) | exact isR.ext (by assumption) (by assumption) | exact isR.mono (by assumption) (by first | assumption | exact isR.ext (by assumption) (by assumption)) | exact isR_up2 (by first | assumption | exact hgc _ _ (by assumption)) hc (by simp)) ?_
    | with_reducible exact hQ _
    | simp only [eX1_count_0, eX1_count_1, eX1_count_4, eX1_count_5, eX1_count_6, eX1_count_9, eX1_count_10, eX1_count_12, eX1_count_15, eX1_count_25, eX1_count_25N, eX1_count_26, eX1_count_27, eX1_count_30, eX1_count_30N, eX1_count_32, eX1_count_33, eX1_count_35, eX1_count_36, eX1_count_40, eX1_count_41, eX1_count_44, eX1_count_46, eX1_count_46N, eX1_count_48, eX1_count_49, eX1_count_50, eX1_count_52, eX1_count_53, eX1_count_54, eX1_count_57, eX1_count_60, eX1_count_61, eX1_count_63, eX1_count_66, eX1_count_69, eX1_count_71, rx, rn, rc, rl, hx, hn, hc, hl, d1, d2, d3, d4, d5, d6, d7, d8, d9, d10, d11, d12, rd_n, upw_n, ite_le, n45, n54, true_or, or_true, false_or, or_false, false_and, and_false, kx_l, kx_r, go_s, gl_s, gi_s, gb_s2, gb_s3, gq_s, wt_nil, wt_int, wt_long, wt_ref, wt_null, nl_int, nl_long, nl_ref, nl_null, nl_none, rf_n, rf_s, rf_st, tl_s, tl_n, g0, gS, ex1, nb_b, nb_0, nb_1, nf_i, nf_l, nf_ra, nf_ro, nf_na, nf_no, nf_b0, nf_z0, t45_4, t45_5, true_and, and_true, List.set_cons_zero, List.set_cons_succ, List.length_cons, List.length_nil, rd_s, upw_s, ne_eq, not_false_eq_true, Nat.zero_add, Nat.add_zero]
    | split
    | with_reducible intro _
    | omega
end
end
/-! 67.23.pub4.lean.txt -/
section
section
variable {g : RO} {Q : Ot → Hw → Prop} {w0 w : Hw} {x nA cA lA : Nat} {kn : Int32}
set_option maxHeartbeats 4000000 in
theorem sX1_who {a0 : Int32} {a1 : Int32} (hC : CC g w0 x nA cA lA kn w) (hXo : Q (.inr "java/lang/IndexOutOfBoundsException") w) (hXa : Q (.inr "java/lang/IllegalArgumentException") w) (hQ : ∀ v : Int32, Q (.inl (some (.int v))) w) : WP (MX1_who g) Q (0, [some (.ref x), some (.int a0), some (.int a1)], [], w, 0, 0) := by
  obtain ⟨n, rf, md, f, gc, gl, hx, hn, hc, hl, hgc, hgl, hn0, hn1, rx, rn, rc, rl, ⟨d1, d2, d3, d4, d5, d6⟩, ⟨d7, d8, d9, d10, d11, d12⟩⟩ := hC.1.opn g
  repeat' first
    | with_reducible assumption
    | with_reducible refine And.intro ?_ ?_
    | with_reducible exact vpi6 (by assumption) (by assumption)
    | with_reducible exact vpi8 (by assumption) (by assumption)
    | with_reducible refine sX1_needNumber ?_ ?_
    | with_reducible refine sX1_needChoice ?_ ?_
    | with_reducible refine sX1_holdersOf (by first | assumption | exact CC.ext (by assumption) (by assumption)) ?_
    | with_reducible refine go_R (by first | assumption | exact hgc _ _ (by assumption) | exact hgl _ _ (by assumption) | exact isR.ext (by assumption) (by assumption) | exact isR.mono (by assumption) (by first | assumption | exact isR.ext (by assumption) (by assumption)) | exact isR_up2 (by first | assumption | exact hgc _ _ (by assumption)) hc (by simp)) ?_
    | with_reducible exact hQ _
    | simp only [eX1_who_0, eX1_who_1, eX1_who_4, eX1_who_5, eX1_who_6, eX1_who_9, eX1_who_9N, eX1_who_10, eX1_who_10N, eX1_who_11, eX1_who_14, eX1_who_15, eX1_who_16, eX1_who_17, eX1_who_18, eX1_who_21, eX1_who_22, eX1_who_25, eX1_who_26, eX1_who_29, rx, rn, rc, rl, hx, hn, hc, hl, d1, d2, d3, d4, d5, d6, d7, d8, d9, d10, d11, d12, rd_n, upw_n, ite_le, n45, n54, true_or, or_true, false_or, or_false, false_and, and_false, kx_l, kx_r, go_s, gl_s, gi_s, gb_s2, gb_s3, gq_s, wt_nil, wt_int, wt_long, wt_ref, wt_null, nl_int, nl_long, nl_ref, nl_null, nl_none, rf_n, rf_s, rf_st, tl_s, tl_n, g0, gS, ex1, nb_b, nb_0, nb_1, nf_i, nf_l, nf_ra, nf_ro, nf_na, nf_no, nf_b0, nf_z0, t45_4, t45_5, true_and, and_true, List.set_cons_zero, List.set_cons_succ, List.length_cons, List.length_nil, rd_s, upw_s, ne_eq, not_false_eq_true, Nat.zero_add, Nat.add_zero]
    | split
    | with_reducible intro _
    | omega
set_option maxHeartbeats 4000000 in
theorem sX1_which {a0 : Int32} (hC : CC g w0 x nA cA lA kn w) (hXa : Q (.inr "java/lang/IllegalArgumentException") w) (hQ : ∀ v : Int32, Q (.inl (some (.int v))) w) : WP (MX1_which g) Q (0, [some (.ref x), some (.int a0)], [], w, 0, 0) := by
  obtain ⟨n, rf, md, f, gc, gl, hx, hn, hc, hl, hgc, hgl, hn0, hn1, rx, rn, rc, rl, ⟨d1, d2, d3, d4, d5, d6⟩, ⟨d7, d8, d9, d10, d11, d12⟩⟩ := hC.1.opn g
  repeat' first
    | with_reducible assumption
    | with_reducible refine And.intro ?_ ?_
    | with_reducible exact vpi6 (by assumption) (by assumption)
    | with_reducible exact vpi8 (by assumption) (by assumption)
    | with_reducible refine sX1_needChoice ?_ ?_
    | with_reducible refine sX1_cardsThatAre (by first | assumption | exact CC.ext (by assumption) (by assumption)) ?_ (by first | assumption | decide) (by first | assumption | decide)
    | with_reducible refine go_R (by first | assumption | exact hgc _ _ (by assumption) | exact hgl _ _ (by assumption) | exact isR.ext (by assumption) (by assumption) | exact isR.mono (by assumption) (by first | assumption | exact isR.ext (by assumption) (by assumption)) | exact isR_up2 (by first | assumption | exact hgc _ _ (by assumption)) hc (by simp)) ?_
    | with_reducible exact hQ _
    | simp only [eX1_which_0, eX1_which_1, eX1_which_2, eX1_which_5, eX1_which_5N, eX1_which_6, eX1_which_7, eX1_which_10, rx, rn, rc, rl, hx, hn, hc, hl, d1, d2, d3, d4, d5, d6, d7, d8, d9, d10, d11, d12, rd_n, upw_n, ite_le, n45, n54, true_or, or_true, false_or, or_false, false_and, and_false, kx_l, kx_r, go_s, gl_s, gi_s, gb_s2, gb_s3, gq_s, wt_nil, wt_int, wt_long, wt_ref, wt_null, nl_int, nl_long, nl_ref, nl_null, nl_none, rf_n, rf_s, rf_st, tl_s, tl_n, g0, gS, ex1, nb_b, nb_0, nb_1, nf_i, nf_l, nf_ra, nf_ro, nf_na, nf_no, nf_b0, nf_z0, t45_4, t45_5, true_and, and_true, List.set_cons_zero, List.set_cons_succ, List.length_cons, List.length_nil, rd_s, upw_s, ne_eq, not_false_eq_true, Nat.zero_add, Nat.add_zero]
    | split
    | with_reducible intro _
    | omega
set_option maxHeartbeats 4000000 in
theorem sX1_likes {a0 : Int32} (hC : CC g w0 x nA cA lA kn w) (hXo : Q (.inr "java/lang/IndexOutOfBoundsException") w) (hXs : Q (.inr "java/lang/IllegalStateException") w) (hQ : ∀ v : Int32, Q (.inl (some (.int v))) w) : WP (MX1_likes g) Q (0, [some (.ref x), some (.int a0)], [], w, 0, 0) := by
  obtain ⟨n, rf, md, f, gc, gl, hx, hn, hc, hl, hgc, hgl, hn0, hn1, rx, rn, rc, rl, ⟨d1, d2, d3, d4, d5, d6⟩, ⟨d7, d8, d9, d10, d11, d12⟩⟩ := hC.1.opn g
  repeat' first
    | with_reducible assumption
    | with_reducible refine And.intro ?_ ?_
    | with_reducible exact vpi6 (by assumption) (by assumption)
    | with_reducible exact vpi8 (by assumption) (by assumption)
    | with_reducible refine sX1_rangeOf2 (by first | assumption | exact CC.ext (by assumption) (by assumption)) ?_ ?_ ?_
    | with_reducible refine sX1_cardsLike (by first | assumption | exact CC.ext (by assumption) (by assumption)) (by first | assumption | exact hgc _ _ (by assumption) | exact hgl _ _ (by assumption) | exact isR.ext (by assumption) (by assumption) | exact isR.mono (by assumption) (by first | assumption | exact isR.ext (by assumption) (by assumption)) | exact isR_up2 (by first | assumption | exact hgc _ _ (by assumption)) hc (by simp)) ?_
    | with_reducible refine go_R (by first | assumption | exact hgc _ _ (by assumption) | exact hgl _ _ (by assumption) | exact isR.ext (by assumption) (by assumption) | exact isR.mono (by assumption) (by first | assumption | exact isR.ext (by assumption) (by assumption)) | exact isR_up2 (by first | assumption | exact hgc _ _ (by assumption)) hc (by simp)) ?_
    | with_reducible exact hQ _
    | simp only [eX1_likes_0, eX1_likes_0N, eX1_likes_1, eX1_likes_1N, eX1_likes_2, eX1_likes_3, eX1_likes_6R, eX1_likes_6N, eX1_likes_9, rx, rn, rc, rl, hx, hn, hc, hl, d1, d2, d3, d4, d5, d6, d7, d8, d9, d10, d11, d12, rd_n, upw_n, ite_le, n45, n54, true_or, or_true, false_or, or_false, false_and, and_false, kx_l, kx_r, go_s, gl_s, gi_s, gb_s2, gb_s3, gq_s, wt_nil, wt_int, wt_long, wt_ref, wt_null, nl_int, nl_long, nl_ref, nl_null, nl_none, rf_n, rf_s, rf_st, tl_s, tl_n, g0, gS, ex1, nb_b, nb_0, nb_1, nf_i, nf_l, nf_ra, nf_ro, nf_na, nf_no, nf_b0, nf_z0, t45_4, t45_5, true_and, and_true, List.set_cons_zero, List.set_cons_succ, List.length_cons, List.length_nil, rd_s, upw_s, ne_eq, not_false_eq_true, Nat.zero_add, Nat.add_zero]
    | split
    | with_reducible intro _
    | omega
set_option maxHeartbeats 4000000 in
theorem sX1_pile {a0 : Int32} {a1 : Int32} (hC : CC g w0 x nA cA lA kn w) (hXo : Q (.inr "java/lang/IndexOutOfBoundsException") w) (hXa : Q (.inr "java/lang/IllegalArgumentException") w) (hQ : ∀ v : Int32, Q (.inl (some (.int v))) w) : WP (MX1_pile g) Q (0, [some (.ref x), some (.int a0), some (.int a1)], [], w, 0, 0) := by
  obtain ⟨n, rf, md, f, gc, gl, hx, hn, hc, hl, hgc, hgl, hn0, hn1, rx, rn, rc, rl, ⟨d1, d2, d3, d4, d5, d6⟩, ⟨d7, d8, d9, d10, d11, d12⟩⟩ := hC.1.opn g
  repeat' first
    | with_reducible assumption
    | with_reducible refine And.intro ?_ ?_
    | with_reducible exact vpi6 (by assumption) (by assumption)
    | with_reducible exact vpi8 (by assumption) (by assumption)
    | with_reducible refine sX1_needNumber ?_ ?_
    | with_reducible refine sX1_needChoice ?_ ?_
    | with_reducible refine sX1_pileCount (by first | assumption | exact CC.ext (by assumption) (by assumption)) ?_
    | with_reducible refine go_R (by first | assumption | exact hgc _ _ (by assumption) | exact hgl _ _ (by assumption) | exact isR.ext (by assumption) (by assumption) | exact isR.mono (by assumption) (by first | assumption | exact isR.ext (by assumption) (by assumption)) | exact isR_up2 (by first | assumption | exact hgc _ _ (by assumption)) hc (by simp)) ?_
    | with_reducible exact hQ _
    | simp only [eX1_pile_0, eX1_pile_1, eX1_pile_4, eX1_pile_5, eX1_pile_6, eX1_pile_9, eX1_pile_9N, eX1_pile_10, eX1_pile_10N, eX1_pile_11, eX1_pile_14, eX1_pile_15, eX1_pile_16, eX1_pile_17, eX1_pile_20, rx, rn, rc, rl, hx, hn, hc, hl, d1, d2, d3, d4, d5, d6, d7, d8, d9, d10, d11, d12, rd_n, upw_n, ite_le, n45, n54, true_or, or_true, false_or, or_false, false_and, and_false, kx_l, kx_r, go_s, gl_s, gi_s, gb_s2, gb_s3, gq_s, wt_nil, wt_int, wt_long, wt_ref, wt_null, nl_int, nl_long, nl_ref, nl_null, nl_none, rf_n, rf_s, rf_st, tl_s, tl_n, g0, gS, ex1, nb_b, nb_0, nb_1, nf_i, nf_l, nf_ra, nf_ro, nf_na, nf_no, nf_b0, nf_z0, t45_4, t45_5, true_and, and_true, List.set_cons_zero, List.set_cons_succ, List.length_cons, List.length_nil, rd_s, upw_s, ne_eq, not_false_eq_true, Nat.zero_add, Nat.add_zero]
    | split
    | with_reducible intro _
    | omega
set_option maxHeartbeats 4000000 in
theorem sX1_house {a0 : Int32} (hC : CC g w0 x nA cA lA kn w) (hXa : Q (.inr "java/lang/IllegalArgumentException") w) (hQ : ∀ v : Int32, Q (.inl (some (.int v))) w) : WP (MX1_house g) Q (0, [some (.ref x), some (.int a0)], [], w, 0, 0) := by
  obtain ⟨n, rf, md, f, gc, gl, hx, hn, hc, hl, hgc, hgl, hn0, hn1, rx, rn, rc, rl, ⟨d1, d2, d3, d4, d5, d6⟩, ⟨d7, d8, d9, d10, d11, d12⟩⟩ := hC.1.opn g
  repeat' first
    | with_reducible assumption
    | with_reducible refine And.intro ?_ ?_
    | with_reducible exact vpi6 (by assumption) (by assumption)
    | with_reducible exact vpi8 (by assumption) (by assumption)
    | with_reducible refine sX1_needChoice ?_ ?_
    | with_reducible refine sX1_houseCount (by first | assumption | exact CC.ext (by assumption) (by assumption)) ?_
    | with_reducible refine go_R (by first | assumption | exact hgc _ _ (by assumption) | exact hgl _ _ (by assumption) | exact isR.ext (by assumption) (by assumption) | exact isR.mono (by assumption) (by first | assumption | exact isR.ext (by assumption) (by assumption)) | exact isR_up2 (by first | assumption | exact hgc _ _ (by assumption)) hc (by simp)) ?_
    | with_reducible exact hQ _
    | simp only [eX1_house_0, eX1_house_1, eX1_house_2, eX1_house_5, eX1_house_5N, eX1_house_6, eX1_house_7, eX1_house_10, rx, rn, rc, rl, hx, hn, hc, hl, d1, d2, d3, d4, d5, d6, d7, d8, d9, d10, d11, d12, rd_n, upw_n, ite_le, n45, n54, true_or, or_true, false_or, or_false, false_and, and_false, kx_l, kx_r, go_s, gl_s, gi_s, gb_s2, gb_s3, gq_s, wt_nil, wt_int, wt_long, wt_ref, wt_null, nl_int, nl_long, nl_ref, nl_null, nl_none, rf_n, rf_s, rf_st, tl_s, tl_n, g0, gS, ex1, nb_b, nb_0, nb_1, nf_i, nf_l, nf_ra, nf_ro, nf_na, nf_no, nf_b0, nf_z0, t45_4, t45_5, true_and, and_true, List.set_cons_zero, List.set_cons_succ, List.length_cons, List.length_nil, rd_s, upw_s, ne_eq, not_false_eq_true, Nat.zero_add, Nat.add_zero]
    | split
    | with_reducible intro _
    | omega
end
end
/-! 67.24.sound0.lean.txt -/
section
section
variable {g : RO} {Q : Ot → Hw → Prop} {w0 w : Hw} {x nA cA lA : Nat} {kn : Int32}
set_option maxHeartbeats 4000000 in
theorem sX1_isLikeItsCopy {a0 : Nat} (h0 : isR w a0) (hQ : ∀ (v : Bool) (w' : Hw), ext g w w' → Q (.inl (some (.int (bI v)))) w') : WP (MX1_isLikeItsCopy g) Q (0, [some (.ref a0), none], [], w, 0, 0) := by
  have hQt : ∀ w', ext g w w' → Q (.inl (some (.int 1))) w' := hQ true
  have hQf : ∀ w', ext g w w' → Q (.inl (some (.int 0))) w' := hQ false
  repeat' first
    | with_reducible assumption
    | with_reducible refine And.intro ?_ ?_
    | with_reducible exact vpi6 (by assumption) (by assumption)
    | with_reducible exact vpi8 (by assumption) (by assumption)
    | with_reducible exact hQ _ _ (by repeat' first | assumption | exact ext.rf | refine ext.tr (by assumption) ?_)
    | with_reducible exact hQt _ (by repeat' first | assumption | exact ext.rf | refine ext.tr (by assumption) ?_)
    | with_reducible exact hQf _ (by repeat' first | assumption | exact ext.rf | refine ext.tr (by assumption) ?_)
    | with_reducible refine go_R (by first | assumption | exact hgc _ _ (by assumption) | exact hgl _ _ (by assumption) | exact isR.ext (by assumption) (by repeat' first | assumption | exact ext.rf | refine ext.tr (by assumption) ?_) | exact isR.ext (hgc _ _ (by assumption)) (by repeat' first | assumption | exact ext.rf | refine ext.tr (by assumption) ?_)) ?_
    | with_reducible refine sX1_copyOf (by first | assumption | exact hgc _ _ (by assumption) | exact hgl _ _ (by assumption) | exact isR.ext (by assumption) (by repeat' first | assumption | exact ext.rf | refine ext.tr (by assumption) ?_) | exact isR.ext (hgc _ _ (by assumption)) (by repeat' first | assumption | exact ext.rf | refine ext.tr (by assumption) ?_)) ?_ ?_
    | with_reducible refine sX0_matchesR (by first | assumption | exact hgc _ _ (by assumption) | exact hgl _ _ (by assumption) | exact isR.ext (by assumption) (by repeat' first | assumption | exact ext.rf | refine ext.tr (by assumption) ?_) | exact isR.ext (hgc _ _ (by assumption)) (by repeat' first | assumption | exact ext.rf | refine ext.tr (by assumption) ?_)) (by first | assumption | exact hgc _ _ (by assumption) | exact hgl _ _ (by assumption) | exact isR.ext (by assumption) (by repeat' first | assumption | exact ext.rf | refine ext.tr (by assumption) ?_) | exact isR.ext (hgc _ _ (by assumption)) (by repeat' first | assumption | exact ext.rf | refine ext.tr (by assumption) ?_)) ?_
    | with_reducible refine sX0_matchesN (by first | assumption | exact hgc _ _ (by assumption) | exact hgl _ _ (by assumption) | exact isR.ext (by assumption) (by repeat' first | assumption | exact ext.rf | refine ext.tr (by assumption) ?_) | exact isR.ext (hgc _ _ (by assumption)) (by repeat' first | assumption | exact ext.rf | refine ext.tr (by assumption) ?_)) ?_
    | with_reducible refine sX0_hash (by first | assumption | exact hgc _ _ (by assumption) | exact hgl _ _ (by assumption) | exact isR.ext (by assumption) (by repeat' first | assumption | exact ext.rf | refine ext.tr (by assumption) ?_) | exact isR.ext (hgc _ _ (by assumption)) (by repeat' first | assumption | exact ext.rf | refine ext.tr (by assumption) ?_)) ?_
    | with_reducible refine go_R (by assumption) ?_
    | with_reducible exact hQ _ _ (by first | assumption | exact ext.rf | exact ext.tr (by assumption) (by assumption))
    | with_reducible exact hQt _ (by first | assumption | exact ext.rf | exact ext.tr (by assumption) (by assumption))
    | with_reducible exact hQf _ (by first | assumption | exact ext.rf | exact ext.tr (by assumption) (by assumption))
    | simp only [eX1_isLikeItsCopy_0, eX1_isLikeItsCopy_0N, eX1_isLikeItsCopy_1R, eX1_isLikeItsCopy_1N, eX1_isLikeItsCopy_4, eX1_isLikeItsCopy_4N, eX1_isLikeItsCopy_5, eX1_isLikeItsCopy_5N, eX1_isLikeItsCopy_6R, eX1_isLikeItsCopy_6N, eX1_isLikeItsCopy_9, eX1_isLikeItsCopy_9N, eX1_isLikeItsCopy_10, eX1_isLikeItsCopy_10N, eX1_isLikeItsCopy_11R, eX1_isLikeItsCopy_11N, eX1_isLikeItsCopy_14, eX1_isLikeItsCopy_17, eX1_isLikeItsCopy_17N, eX1_isLikeItsCopy_18, eX1_isLikeItsCopy_18N, eX1_isLikeItsCopy_19R, eX1_isLikeItsCopy_19N, eX1_isLikeItsCopy_22, eX1_isLikeItsCopy_25, eX1_isLikeItsCopy_25N, eX1_isLikeItsCopy_26, eX1_isLikeItsCopy_29, eX1_isLikeItsCopy_29N, eX1_isLikeItsCopy_30, eX1_isLikeItsCopy_33, eX1_isLikeItsCopy_34, eX1_isLikeItsCopy_37, eX1_isLikeItsCopy_38, eX1_isLikeItsCopy_41, eX1_isLikeItsCopy_42, ite_le, n45, n54, true_or, or_true, false_or, or_false, false_and, and_false, kx_l, kx_r, go_s, gl_s, gi_s, gb_s2, gb_s3, gq_s, wt_nil, wt_int, wt_long, wt_ref, wt_null, nl_int, nl_long, nl_ref, nl_null, nl_none, rf_n, rf_s, rf_st, tl_s, tl_n, g0, gS, ex1, nb_b, nb_0, nb_1, nf_i, nf_l, nf_ra, nf_ro, nf_na, nf_no, nf_b0, nf_z0, t45_4, t45_5, true_and, and_true, List.set_cons_zero, List.set_cons_succ, List.length_cons, List.length_nil, rd_s, upw_s, ne_eq, not_false_eq_true, Nat.zero_add, Nat.add_zero]
    | split
    | with_reducible intro _
    | omega
set_option maxHeartbeats 4000000 in
theorem sX1_isDrawnSound {a0 : Nat} (hC : CC g w0 x nA cA lA kn w) (h0 : isR w a0) (hQ : ∀ (v : Bool) (w' : Hw), ext g w w' → Q (.inl (some (.int (bI v)))) w') : WP (MX1_isDrawnSound g) Q (0, [some (.ref x), some (.ref a0), none, none], [], w, 0, 0) := by
  obtain ⟨n, rf, md, f, gc, gl, hx, hn, hc, hl, hgc, hgl, hn0, hn1, rx, rn, rc, rl, ⟨d1, d2, d3, d4, d5, d6⟩, ⟨d7, d8, d9, d10, d11, d12⟩⟩ := hC.1.opn g
  have hQt : ∀ w', ext g w w' → Q (.inl (some (.int 1))) w' := hQ true
  have hQf : ∀ w', ext g w w' → Q (.inl (some (.int 0))) w' := hQ false
  repeat' first
    | with_reducible assumption
    | with_reducible refine And.intro ?_ ?_
    | with_reducible exact vpi6 (by assumption) (by assumption)
    | with_reducible exact vpi8 (by assumption) (by assumption)
    | with_reducible exact hQ _ _ (by repeat' first | assumption | exact ext.rf | refine ext.tr (by assumption) ?_)
    | with_reducible exact hQt _ (by repeat' first | assumption | exact ext.rf | refine ext.tr (by assumption) ?_)
    | with_reducible exact hQf _ (by repeat' first | assumption | exact ext.rf | refine ext.tr (by assumption) ?_)
    | with_reducible exact go_C (by first | assumption | exact CC.ext hC (by repeat' first | assumption | exact ext.rf | refine ext.tr (by assumption) ?_))
    | with_reducible refine go_R (by first | assumption | exact hgc _ _ (by assumption) | exact hgl _ _ (by assumption) | exact isR.ext (by assumption) (by repeat' first | assumption | exact ext.rf | refine ext.tr (by assumption) ?_) | exact isR.ext (hgc _ _ (by assumption)) (by repeat' first | assumption | exact ext.rf | refine ext.tr (by assumption) ?_)) ?_
    | with_reducible refine sX0_ofFour ?_ ?_
    | with_reducible refine sX1_hasSameValidR (by first | assumption | exact CC.ext hC (by repeat' first | assumption | exact ext.rf | refine ext.tr (by assumption) ?_)) (by first | assumption | exact hgc _ _ (by assumption) | exact hgl _ _ (by assumption) | exact isR.ext (by assumption) (by repeat' first | assumption | exact ext.rf | refine ext.tr (by assumption) ?_) | exact isR.ext (hgc _ _ (by assumption)) (by repeat' first | assumption | exact ext.rf | refine ext.tr (by assumption) ?_)) (by first | assumption | exact hgc _ _ (by assumption) | exact hgl _ _ (by assumption) | exact isR.ext (by assumption) (by repeat' first | assumption | exact ext.rf | refine ext.tr (by assumption) ?_) | exact isR.ext (hgc _ _ (by assumption)) (by repeat' first | assumption | exact ext.rf | refine ext.tr (by assumption) ?_)) ?_
    | with_reducible refine sX1_hasSameValidN (by first | assumption | exact CC.ext hC (by repeat' first | assumption | exact ext.rf | refine ext.tr (by assumption) ?_)) (by first | assumption | exact hgc _ _ (by assumption) | exact hgl _ _ (by assumption) | exact isR.ext (by assumption) (by repeat' first | assumption | exact ext.rf | refine ext.tr (by assumption) ?_) | exact isR.ext (hgc _ _ (by assumption)) (by repeat' first | assumption | exact ext.rf | refine ext.tr (by assumption) ?_)) ?_
    | with_reducible refine go_R (by first | assumption | exact hgc _ _ (by assumption) | exact hgl _ _ (by assumption) | exact isR.ext (by assumption) (by repeat' first | assumption | exact ext.rf | refine ext.tr (by assumption) ?_) | exact isR.ext (hgc _ _ (by assumption)) (by repeat' first | assumption | exact ext.rf | refine ext.tr (by assumption) ?_)) ?_
    | with_reducible exact hQ _ _ (by first | assumption | exact ext.rf | exact ext.tr (by assumption) (by assumption))
    | with_reducible exact hQt _ (by first | assumption | exact ext.rf | exact ext.tr (by assumption) (by assumption))
    | with_reducible exact hQf _ (by first | assumption | exact ext.rf | exact ext.tr (by assumption) (by assumption))
    | simp only [eX1_isDrawnSound_0, eX1_isDrawnSound_0N, eX1_isDrawnSound_1, eX1_isDrawnSound_4, eX1_isDrawnSound_4N, eX1_isDrawnSound_5, eX1_isDrawnSound_8, eX1_isDrawnSound_8N, eX1_isDrawnSound_9, eX1_isDrawnSound_12, eX1_isDrawnSound_12N, eX1_isDrawnSound_13, eX1_isDrawnSound_16, eX1_isDrawnSound_19, eX1_isDrawnSound_19N, eX1_isDrawnSound_20, eX1_isDrawnSound_20N, eX1_isDrawnSound_21, eX1_isDrawnSound_24, eX1_isDrawnSound_24N, eX1_isDrawnSound_25, eX1_isDrawnSound_28, eX1_isDrawnSound_28N, eX1_isDrawnSound_29, eX1_isDrawnSound_32, eX1_isDrawnSound_32N, eX1_isDrawnSound_33, eX1_isDrawnSound_36, eX1_isDrawnSound_39, eX1_isDrawnSound_39N, eX1_isDrawnSound_40, eX1_isDrawnSound_40N, eX1_isDrawnSound_41, eX1_isDrawnSound_41N, eX1_isDrawnSound_42, eX1_isDrawnSound_42N, eX1_isDrawnSound_43RR, eX1_isDrawnSound_43NR, eX1_isDrawnSound_43RN, eX1_isDrawnSound_43NN, eX1_isDrawnSound_46, eX1_isDrawnSound_49, eX1_isDrawnSound_49N, eX1_isDrawnSound_50, eX1_isDrawnSound_50N, eX1_isDrawnSound_51, eX1_isDrawnSound_51N, eX1_isDrawnSound_52RR, eX1_isDrawnSound_52NR, eX1_isDrawnSound_52RN, eX1_isDrawnSound_52NN, eX1_isDrawnSound_55, eX1_isDrawnSound_58, eX1_isDrawnSound_59, eX1_isDrawnSound_62, eX1_isDrawnSound_63, rx, rn, rc, rl, hx, hn, hc, hl, d1, d2, d3, d4, d5, d6, d7, d8, d9, d10, d11, d12, rd_n, upw_n, ite_le, n45, n54, true_or, or_true, false_or, or_false, false_and, and_false, kx_l, kx_r, go_s, gl_s, gi_s, gb_s2, gb_s3, gq_s, wt_nil, wt_int, wt_long, wt_ref, wt_null, nl_int, nl_long, nl_ref, nl_null, nl_none, rf_n, rf_s, rf_st, tl_s, tl_n, g0, gS, ex1, nb_b, nb_0, nb_1, nf_i, nf_l, nf_ra, nf_ro, nf_na, nf_no, nf_b0, nf_z0, t45_4, t45_5, true_and, and_true, List.set_cons_zero, List.set_cons_succ, List.length_cons, List.length_nil, rd_s, upw_s, ne_eq, not_false_eq_true, Nat.zero_add, Nat.add_zero]
    | split
    | with_reducible intro _
    | omega
set_option maxHeartbeats 4000000 in
theorem sX1_isSoundAlone {a0 : Nat} (hC : CC g w0 x nA cA lA kn w) (h0 : isR w a0) (hQ : ∀ (v : Bool) (w' : Hw), ext g w w' → Q (.inl (some (.int (bI v)))) w') : WP (MX1_isSoundAlone g) Q (0, [some (.ref x), some (.ref a0)], [], w, 0, 0) := by
  obtain ⟨n, rf, md, f, gc, gl, hx, hn, hc, hl, hgc, hgl, hn0, hn1, rx, rn, rc, rl, ⟨d1, d2, d3, d4, d5, d6⟩, ⟨d7, d8, d9, d10, d11, d12⟩⟩ := hC.1.opn g
  have hQt : ∀ w', ext g w w' → Q (.inl (some (.int 1))) w' := hQ true
  have hQf : ∀ w', ext g w w' → Q (.inl (some (.int 0))) w' := hQ false
  repeat' first
    | with_reducible assumption
    | with_reducible refine And.intro ?_ ?_
    | with_reducible exact vpi6 (by assumption) (by assumption)
    | with_reducible exact vpi8 (by assumption) (by assumption)
    | with_reducible exact hQ _ _ (by repeat' first | assumption | exact ext.rf | refine ext.tr (by assumption) ?_)
    | with_reducible exact hQt _ (by repeat' first | assumption | exact ext.rf | refine ext.tr (by assumption) ?_)
    | with_reducible exact hQf _ (by repeat' first | assumption | exact ext.rf | refine ext.tr (by assumption) ?_)
    | with_reducible exact go_C (by first | assumption | exact CC.ext hC (by repeat' first | assumption | exact ext.rf | refine ext.tr (by assumption) ?_))
    | with_reducible refine go_R (by first | assumption | exact hgc _ _ (by assumption) | exact hgl _ _ (by assumption) | exact isR.ext (by assumption) (by repeat' first | assumption | exact ext.rf | refine ext.tr (by assumption) ?_) | exact isR.ext (hgc _ _ (by assumption)) (by repeat' first | assumption | exact ext.rf | refine ext.tr (by assumption) ?_)) ?_
    | with_reducible refine sX1_isLikeItsCopy (by first | assumption | exact hgc _ _ (by assumption) | exact hgl _ _ (by assumption) | exact isR.ext (by assumption) (by repeat' first | assumption | exact ext.rf | refine ext.tr (by assumption) ?_) | exact isR.ext (hgc _ _ (by assumption)) (by repeat' first | assumption | exact ext.rf | refine ext.tr (by assumption) ?_)) ?_
    | with_reducible refine sX0_isSettled (by first | assumption | exact hgc _ _ (by assumption) | exact hgl _ _ (by assumption) | exact isR.ext (by assumption) (by repeat' first | assumption | exact ext.rf | refine ext.tr (by assumption) ?_) | exact isR.ext (hgc _ _ (by assumption)) (by repeat' first | assumption | exact ext.rf | refine ext.tr (by assumption) ?_)) ?_
    | with_reducible refine sX1_outerOf (by first | assumption | exact hgc _ _ (by assumption) | exact hgl _ _ (by assumption) | exact isR.ext (by assumption) (by repeat' first | assumption | exact ext.rf | refine ext.tr (by assumption) ?_) | exact isR.ext (hgc _ _ (by assumption)) (by repeat' first | assumption | exact ext.rf | refine ext.tr (by assumption) ?_)) ?_ ?_
    | with_reducible refine sX0_matchesR (by first | assumption | exact hgc _ _ (by assumption) | exact hgl _ _ (by assumption) | exact isR.ext (by assumption) (by repeat' first | assumption | exact ext.rf | refine ext.tr (by assumption) ?_) | exact isR.ext (hgc _ _ (by assumption)) (by repeat' first | assumption | exact ext.rf | refine ext.tr (by assumption) ?_)) (by first | assumption | exact hgc _ _ (by assumption) | exact hgl _ _ (by assumption) | exact isR.ext (by assumption) (by repeat' first | assumption | exact ext.rf | refine ext.tr (by assumption) ?_) | exact isR.ext (hgc _ _ (by assumption)) (by repeat' first | assumption | exact ext.rf | refine ext.tr (by assumption) ?_)) ?_
    | with_reducible refine sX0_matchesN (by first | assumption | exact hgc _ _ (by assumption) | exact hgl _ _ (by assumption) | exact isR.ext (by assumption) (by repeat' first | assumption | exact ext.rf | refine ext.tr (by assumption) ?_) | exact isR.ext (hgc _ _ (by assumption)) (by repeat' first | assumption | exact ext.rf | refine ext.tr (by assumption) ?_)) ?_
    | with_reducible refine sX1_isOuterSound (by first | assumption | exact hgc _ _ (by assumption) | exact hgl _ _ (by assumption) | exact isR.ext (by assumption) (by repeat' first | assumption | exact ext.rf | refine ext.tr (by assumption) ?_) | exact isR.ext (hgc _ _ (by assumption)) (by repeat' first | assumption | exact ext.rf | refine ext.tr (by assumption) ?_)) ?_
    | with_reducible refine sX1_isEachEndHeld (by first | assumption | exact hgc _ _ (by assumption) | exact hgl _ _ (by assumption) | exact isR.ext (by assumption) (by repeat' first | assumption | exact ext.rf | refine ext.tr (by assumption) ?_) | exact isR.ext (hgc _ _ (by assumption)) (by repeat' first | assumption | exact ext.rf | refine ext.tr (by assumption) ?_)) ?_
    | with_reducible refine sX1_isDrawnSound (by first | assumption | exact CC.ext hC (by repeat' first | assumption | exact ext.rf | refine ext.tr (by assumption) ?_)) (by first | assumption | exact hgc _ _ (by assumption) | exact hgl _ _ (by assumption) | exact isR.ext (by assumption) (by repeat' first | assumption | exact ext.rf | refine ext.tr (by assumption) ?_) | exact isR.ext (hgc _ _ (by assumption)) (by repeat' first | assumption | exact ext.rf | refine ext.tr (by assumption) ?_)) ?_
    | with_reducible refine go_R (by first | assumption | exact hgc _ _ (by assumption) | exact hgl _ _ (by assumption) | exact isR.ext (by assumption) (by repeat' first | assumption | exact ext.rf | refine ext.tr (by assumption) ?_) | exact isR.ext (hgc _ _ (by assumption)) (by repeat' first | assumption | exact ext.rf | refine ext.tr (by assumption) ?_)) ?_
    | with_reducible exact hQ _ _ (by first | assumption | exact ext.rf | exact ext.tr (by assumption) (by assumption))
    | with_reducible exact hQt _ (by first | assumption | exact ext.rf | exact ext.tr (by assumption) (by assumption))
    | with_reducible exact hQf _ (by first | assumption | exact ext.rf | exact ext.tr (by assumption) (by assumption))
    | simp only [eX1_isSoundAlone_0, eX1_isSoundAlone_0N, eX1_isSoundAlone_1R, eX1_isSoundAlone_1N, eX1_isSoundAlone_4, eX1_isSoundAlone_7, eX1_isSoundAlone_7N, eX1_isSoundAlone_8, eX1_isSoundAlone_11, eX1_isSoundAlone_11N, eX1_isSoundAlone_12, eX1_isSoundAlone_12N, eX1_isSoundAlone_13R, eX1_isSoundAlone_13N, eX1_isSoundAlone_16R, eX1_isSoundAlone_16N, eX1_isSoundAlone_19, eX1_isSoundAlone_22, eX1_isSoundAlone_22N, eX1_isSoundAlone_23R, eX1_isSoundAlone_23N, eX1_isSoundAlone_26, eX1_isSoundAlone_29, eX1_isSoundAlone_29N, eX1_isSoundAlone_30R, eX1_isSoundAlone_30N, eX1_isSoundAlone_33, eX1_isSoundAlone_36, eX1_isSoundAlone_36N, eX1_isSoundAlone_37, eX1_isSoundAlone_37N, eX1_isSoundAlone_38R, eX1_isSoundAlone_38N, eX1_isSoundAlone_41, eX1_isSoundAlone_44, eX1_isSoundAlone_45, eX1_isSoundAlone_48, eX1_isSoundAlone_49, rx, rn, rc, rl, hx, hn, hc, hl, d1, d2, d3, d4, d5, d6, d7, d8, d9, d10, d11, d12, rd_n, upw_n, ite_le, n45, n54, true_or, or_true, false_or, or_false, false_and, and_false, kx_l, kx_r, go_s, gl_s, gi_s, gb_s2, gb_s3, gq_s, wt_nil, wt_int, wt_long, wt_ref, wt_null, nl_int, nl_long, nl_ref, nl_null, nl_none, rf_n, rf_s, rf_st, tl_s, tl_n, g0, gS, ex1, nb_b, nb_0, nb_1, nf_i, nf_l, nf_ra, nf_ro, nf_na, nf_no, nf_b0, nf_z0, t45_4, t45_5, true_and, and_true, List.set_cons_zero, List.set_cons_succ, List.length_cons, List.length_nil, rd_s, upw_s, ne_eq, not_false_eq_true, Nat.zero_add, Nat.add_zero]
    | split
    | with_reducible intro _
    | omega
end
end
/-! 67.24.sound1.lean.txt -/
section
section
variable {g : RO} {Q : Ot → Hw → Prop} {w0 w : Hw} {x nA cA lA : Nat} {kn : Int32}
set_option maxHeartbeats 4000000 in
theorem sX1_isSameAs {a0 : Int32} {a1 : Int32} (hC : CC g w0 x nA cA lA kn w) (hXo : Q (.inr "java/lang/IndexOutOfBoundsException") w) (hXa : Q (.inr "java/lang/IllegalArgumentException") w) (hXs : Q (.inr "java/lang/IllegalStateException") w) (hQ : ∀ (v : Bool) (w' : Hw), ext g w w' → Q (.inl (some (.int (bI v)))) w') : WP (MX1_isSameAs g) Q (0, [some (.ref x), some (.int a0), some (.int a1), none], [], w, 0, 0) := by
  obtain ⟨n, rf, md, f, gc, gl, hx, hn, hc, hl, hgc, hgl, hn0, hn1, rx, rn, rc, rl, ⟨d1, d2, d3, d4, d5, d6⟩, ⟨d7, d8, d9, d10, d11, d12⟩⟩ := hC.1.opn g
  have hQt : ∀ w', ext g w w' → Q (.inl (some (.int 1))) w' := hQ true
  have hQf : ∀ w', ext g w w' → Q (.inl (some (.int 0))) w' := hQ false
  rcases sw24 a1 with rfl | rfl | rfl | hsw
  · repeat' first
      | with_reducible assumption
      | with_reducible refine And.intro ?_ ?_
      | with_reducible exact vpi6 (by assumption) (by assumption)
      | with_reducible exact vpi8 (by assumption) (by assumption)
      | with_reducible exact hQ _ _ (by repeat' first | assumption | exact ext.rf | refine ext.tr (by assumption) ?_)
      | with_reducible exact hQt _ (by repeat' first | assumption | exact ext.rf | refine ext.tr (by assumption) ?_)
      | with_reducible exact hQf _ (by repeat' first | assumption | exact ext.rf | refine ext.tr (by assumption) ?_)
      | with_reducible refine sX1_needCard ?_ ?_
      | with_reducible refine sX1_needChoice ?_ ?_
      | with_reducible refine sX1_rangeOf2 (by first | assumption | exact CC.ext (by assumption) (by assumption)) ?_ ?_ ?_
      | with_reducible refine sX1_copyOf (by first | assumption | exact hgc _ _ (by assumption) | exact hgl _ _ (by assumption) | exact isR.ext (by assumption) (by repeat' first | assumption | exact ext.rf | refine ext.tr (by assumption) ?_) | exact isR.ext (hgc _ _ (by assumption)) (by repeat' first | assumption | exact ext.rf | refine ext.tr (by assumption) ?_)) ?_ ?_
      | with_reducible refine sX0_matchesR (by first | assumption | exact hgc _ _ (by assumption) | exact hgl _ _ (by assumption) | exact isR.ext (by assumption) (by repeat' first | assumption | exact ext.rf | refine ext.tr (by assumption) ?_) | exact isR.ext (hgc _ _ (by assumption)) (by repeat' first | assumption | exact ext.rf | refine ext.tr (by assumption) ?_)) (by first | assumption | exact hgc _ _ (by assumption) | exact hgl _ _ (by assumption) | exact isR.ext (by assumption) (by repeat' first | assumption | exact ext.rf | refine ext.tr (by assumption) ?_) | exact isR.ext (hgc _ _ (by assumption)) (by repeat' first | assumption | exact ext.rf | refine ext.tr (by assumption) ?_)) ?_
      | with_reducible refine sX0_matchesN (by first | assumption | exact hgc _ _ (by assumption) | exact hgl _ _ (by assumption) | exact isR.ext (by assumption) (by repeat' first | assumption | exact ext.rf | refine ext.tr (by assumption) ?_) | exact isR.ext (hgc _ _ (by assumption)) (by repeat' first | assumption | exact ext.rf | refine ext.tr (by assumption) ?_)) ?_
      | with_reducible refine sX1_outerOf (by first | assumption | exact hgc _ _ (by assumption) | exact hgl _ _ (by assumption) | exact isR.ext (by assumption) (by repeat' first | assumption | exact ext.rf | refine ext.tr (by assumption) ?_) | exact isR.ext (hgc _ _ (by assumption)) (by repeat' first | assumption | exact ext.rf | refine ext.tr (by assumption) ?_)) ?_ ?_
      | with_reducible exact go_C (by first | assumption | exact CC.ext hC (by repeat' first | assumption | exact ext.rf | refine ext.tr (by assumption) ?_))
      | with_reducible refine go_R (by first | assumption | exact hgc _ _ (by assumption) | exact hgl _ _ (by assumption) | exact isR.ext (by assumption) (by repeat' first | assumption | exact ext.rf | refine ext.tr (by assumption) ?_) | exact isR.ext (hgc _ _ (by assumption)) (by repeat' first | assumption | exact ext.rf | refine ext.tr (by assumption) ?_)) ?_
      | simp only [eX1_isSameAs_0, eX1_isSameAs_1, eX1_isSameAs_4, eX1_isSameAs_5, eX1_isSameAs_6, eX1_isSameAs_9, eX1_isSameAs_9N, eX1_isSameAs_10, eX1_isSameAs_11, eX1_isSameAs_14, eX1_isSameAs_14N, eX1_isSameAs_15, eX1_isSameAs_16_0, eX1_isSameAs_16_1, eX1_isSameAs_16_2, eX1_isSameAs_16_d5, eX1_isSameAs_16_d6, eX1_isSameAs_44, eX1_isSameAs_44N, eX1_isSameAs_45, eX1_isSameAs_45N, eX1_isSameAs_46R, eX1_isSameAs_46N, eX1_isSameAs_49R, eX1_isSameAs_49N, eX1_isSameAs_52, eX1_isSameAs_53, eX1_isSameAs_53N, eX1_isSameAs_54, eX1_isSameAs_54N, eX1_isSameAs_55R, eX1_isSameAs_55N, eX1_isSameAs_58, eX1_isSameAs_59, eX1_isSameAs_59N, eX1_isSameAs_60, eX1_isSameAs_60N, eX1_isSameAs_61R, eX1_isSameAs_61N, eX1_isSameAs_64R, eX1_isSameAs_64N, eX1_isSameAs_67, eX1_isSameAs_68, eX1_isSameAs_69, rx, rn, rc, rl, hx, hn, hc, hl, d1, d2, d3, d4, d5, d6, d7, d8, d9, d10, d11, d12, rd_n, upw_n, ite_le, n45, n54, true_or, or_true, false_or, or_false, false_and, and_false, kx_l, kx_r, go_s, gl_s, gi_s, gb_s2, gb_s3, gq_s, wt_nil, wt_int, wt_long, wt_ref, wt_null, nl_int, nl_long, nl_ref, nl_null, nl_none, rf_n, rf_s, rf_st, tl_s, tl_n, g0, gS, ex1, nb_b, nb_0, nb_1, nf_i, nf_l, nf_ra, nf_ro, nf_na, nf_no, nf_b0, nf_z0, t45_4, t45_5, true_and, and_true, List.set_cons_zero, List.set_cons_succ, List.length_cons, List.length_nil, rd_s, upw_s, ne_eq, not_false_eq_true, Nat.zero_add, Nat.add_zero]
      | split
      | with_reducible intro _
      | omega
  · repeat' first
      | with_reducible assumption
      | with_reducible refine And.intro ?_ ?_
      | with_reducible exact vpi6 (by assumption) (by assumption)
      | with_reducible exact vpi8 (by assumption) (by assumption)
      | with_reducible exact hQ _ _ (by repeat' first | assumption | exact ext.rf | refine ext.tr (by assumption) ?_)
      | with_reducible exact hQt _ (by repeat' first | assumption | exact ext.rf | refine ext.tr (by assumption) ?_)
      | with_reducible exact hQf _ (by repeat' first | assumption | exact ext.rf | refine ext.tr (by assumption) ?_)
      | with_reducible refine sX1_needCard ?_ ?_
      | with_reducible refine sX1_needChoice ?_ ?_
      | with_reducible refine sX1_rangeOf2 (by first | assumption | exact CC.ext (by assumption) (by assumption)) ?_ ?_ ?_
      | with_reducible refine sX1_copyOf (by first | assumption | exact hgc _ _ (by assumption) | exact hgl _ _ (by assumption) | exact isR.ext (by assumption) (by repeat' first | assumption | exact ext.rf | refine ext.tr (by assumption) ?_) | exact isR.ext (hgc _ _ (by assumption)) (by repeat' first | assumption | exact ext.rf | refine ext.tr (by assumption) ?_)) ?_ ?_
      | with_reducible refine sX0_matchesR (by first | assumption | exact hgc _ _ (by assumption) | exact hgl _ _ (by assumption) | exact isR.ext (by assumption) (by repeat' first | assumption | exact ext.rf | refine ext.tr (by assumption) ?_) | exact isR.ext (hgc _ _ (by assumption)) (by repeat' first | assumption | exact ext.rf | refine ext.tr (by assumption) ?_)) (by first | assumption | exact hgc _ _ (by assumption) | exact hgl _ _ (by assumption) | exact isR.ext (by assumption) (by repeat' first | assumption | exact ext.rf | refine ext.tr (by assumption) ?_) | exact isR.ext (hgc _ _ (by assumption)) (by repeat' first | assumption | exact ext.rf | refine ext.tr (by assumption) ?_)) ?_
      | with_reducible refine sX0_matchesN (by first | assumption | exact hgc _ _ (by assumption) | exact hgl _ _ (by assumption) | exact isR.ext (by assumption) (by repeat' first | assumption | exact ext.rf | refine ext.tr (by assumption) ?_) | exact isR.ext (hgc _ _ (by assumption)) (by repeat' first | assumption | exact ext.rf | refine ext.tr (by assumption) ?_)) ?_
      | with_reducible refine sX1_outerOf (by first | assumption | exact hgc _ _ (by assumption) | exact hgl _ _ (by assumption) | exact isR.ext (by assumption) (by repeat' first | assumption | exact ext.rf | refine ext.tr (by assumption) ?_) | exact isR.ext (hgc _ _ (by assumption)) (by repeat' first | assumption | exact ext.rf | refine ext.tr (by assumption) ?_)) ?_ ?_
      | with_reducible exact go_C (by first | assumption | exact CC.ext hC (by repeat' first | assumption | exact ext.rf | refine ext.tr (by assumption) ?_))
      | with_reducible refine go_R (by first | assumption | exact hgc _ _ (by assumption) | exact hgl _ _ (by assumption) | exact isR.ext (by assumption) (by repeat' first | assumption | exact ext.rf | refine ext.tr (by assumption) ?_) | exact isR.ext (hgc _ _ (by assumption)) (by repeat' first | assumption | exact ext.rf | refine ext.tr (by assumption) ?_)) ?_
      | simp only [eX1_isSameAs_0, eX1_isSameAs_1, eX1_isSameAs_4, eX1_isSameAs_5, eX1_isSameAs_6, eX1_isSameAs_9, eX1_isSameAs_9N, eX1_isSameAs_10, eX1_isSameAs_11, eX1_isSameAs_14, eX1_isSameAs_14N, eX1_isSameAs_15, eX1_isSameAs_16_0, eX1_isSameAs_16_1, eX1_isSameAs_16_2, eX1_isSameAs_16_d5, eX1_isSameAs_16_d6, eX1_isSameAs_44, eX1_isSameAs_44N, eX1_isSameAs_45, eX1_isSameAs_45N, eX1_isSameAs_46R, eX1_isSameAs_46N, eX1_isSameAs_49R, eX1_isSameAs_49N, eX1_isSameAs_52, eX1_isSameAs_53, eX1_isSameAs_53N, eX1_isSameAs_54, eX1_isSameAs_54N, eX1_isSameAs_55R, eX1_isSameAs_55N, eX1_isSameAs_58, eX1_isSameAs_59, eX1_isSameAs_59N, eX1_isSameAs_60, eX1_isSameAs_60N, eX1_isSameAs_61R, eX1_isSameAs_61N, eX1_isSameAs_64R, eX1_isSameAs_64N, eX1_isSameAs_67, eX1_isSameAs_68, eX1_isSameAs_69, rx, rn, rc, rl, hx, hn, hc, hl, d1, d2, d3, d4, d5, d6, d7, d8, d9, d10, d11, d12, rd_n, upw_n, ite_le, n45, n54, true_or, or_true, false_or, or_false, false_and, and_false, kx_l, kx_r, go_s, gl_s, gi_s, gb_s2, gb_s3, gq_s, wt_nil, wt_int, wt_long, wt_ref, wt_null, nl_int, nl_long, nl_ref, nl_null, nl_none, rf_n, rf_s, rf_st, tl_s, tl_n, g0, gS, ex1, nb_b, nb_0, nb_1, nf_i, nf_l, nf_ra, nf_ro, nf_na, nf_no, nf_b0, nf_z0, t45_4, t45_5, true_and, and_true, List.set_cons_zero, List.set_cons_succ, List.length_cons, List.length_nil, rd_s, upw_s, ne_eq, not_false_eq_true, Nat.zero_add, Nat.add_zero]
      | split
      | with_reducible intro _
      | omega
  · repeat' first
      | with_reducible assumption
      | with_reducible refine And.intro ?_ ?_
      | with_reducible exact vpi6 (by assumption) (by assumption)
      | with_reducible exact vpi8 (by assumption) (by assumption)
      | with_reducible exact hQ _ _ (by repeat' first | assumption | exact ext.rf | refine ext.tr (by assumption) ?_)
      | with_reducible exact hQt _ (by repeat' first | assumption | exact ext.rf | refine ext.tr (by assumption) ?_)
      | with_reducible exact hQf _ (by repeat' first | assumption | exact ext.rf | refine ext.tr (by assumption) ?_)
      | with_reducible refine sX1_needCard ?_ ?_
      | with_reducible refine sX1_needChoice ?_ ?_
      | with_reducible refine sX1_rangeOf2 (by first | assumption | exact CC.ext (by assumption) (by assumption)) ?_ ?_ ?_
      | with_reducible refine sX1_copyOf (by first | assumption | exact hgc _ _ (by assumption) | exact hgl _ _ (by assumption) | exact isR.ext (by assumption) (by repeat' first | assumption | exact ext.rf | refine ext.tr (by assumption) ?_) | exact isR.ext (hgc _ _ (by assumption)) (by repeat' first | assumption | exact ext.rf | refine ext.tr (by assumption) ?_)) ?_ ?_
      | with_reducible refine sX0_matchesR (by first | assumption | exact hgc _ _ (by assumption) | exact hgl _ _ (by assumption) | exact isR.ext (by assumption) (by repeat' first | assumption | exact ext.rf | refine ext.tr (by assumption) ?_) | exact isR.ext (hgc _ _ (by assumption)) (by repeat' first | assumption | exact ext.rf | refine ext.tr (by assumption) ?_)) (by first | assumption | exact hgc _ _ (by assumption) | exact hgl _ _ (by assumption) | exact isR.ext (by assumption) (by repeat' first | assumption | exact ext.rf | refine ext.tr (by assumption) ?_) | exact isR.ext (hgc _ _ (by assumption)) (by repeat' first | assumption | exact ext.rf | refine ext.tr (by assumption) ?_)) ?_
      | with_reducible refine sX0_matchesN (by first | assumption | exact hgc _ _ (by assumption) | exact hgl _ _ (by assumption) | exact isR.ext (by assumption) (by repeat' first | assumption | exact ext.rf | refine ext.tr (by assumption) ?_) | exact isR.ext (hgc _ _ (by assumption)) (by repeat' first | assumption | exact ext.rf | refine ext.tr (by assumption) ?_)) ?_
      | with_reducible refine sX1_outerOf (by first | assumption | exact hgc _ _ (by assumption) | exact hgl _ _ (by assumption) | exact isR.ext (by assumption) (by repeat' first | assumption | exact ext.rf | refine ext.tr (by assumption) ?_) | exact isR.ext (hgc _ _ (by assumption)) (by repeat' first | assumption | exact ext.rf | refine ext.tr (by assumption) ?_)) ?_ ?_
      | with_reducible exact go_C (by first | assumption | exact CC.ext hC (by repeat' first | assumption | exact ext.rf | refine ext.tr (by assumption) ?_))
      | with_reducible refine go_R (by first | assumption | exact hgc _ _ (by assumption) | exact hgl _ _ (by assumption) | exact isR.ext (by assumption) (by repeat' first | assumption | exact ext.rf | refine ext.tr (by assumption) ?_) | exact isR.ext (hgc _ _ (by assumption)) (by repeat' first | assumption | exact ext.rf | refine ext.tr (by assumption) ?_)) ?_
      | simp only [eX1_isSameAs_0, eX1_isSameAs_1, eX1_isSameAs_4, eX1_isSameAs_5, eX1_isSameAs_6, eX1_isSameAs_9, eX1_isSameAs_9N, eX1_isSameAs_10, eX1_isSameAs_11, eX1_isSameAs_14, eX1_isSameAs_14N, eX1_isSameAs_15, eX1_isSameAs_16_0, eX1_isSameAs_16_1, eX1_isSameAs_16_2, eX1_isSameAs_16_d5, eX1_isSameAs_16_d6, eX1_isSameAs_44, eX1_isSameAs_44N, eX1_isSameAs_45, eX1_isSameAs_45N, eX1_isSameAs_46R, eX1_isSameAs_46N, eX1_isSameAs_49R, eX1_isSameAs_49N, eX1_isSameAs_52, eX1_isSameAs_53, eX1_isSameAs_53N, eX1_isSameAs_54, eX1_isSameAs_54N, eX1_isSameAs_55R, eX1_isSameAs_55N, eX1_isSameAs_58, eX1_isSameAs_59, eX1_isSameAs_59N, eX1_isSameAs_60, eX1_isSameAs_60N, eX1_isSameAs_61R, eX1_isSameAs_61N, eX1_isSameAs_64R, eX1_isSameAs_64N, eX1_isSameAs_67, eX1_isSameAs_68, eX1_isSameAs_69, rx, rn, rc, rl, hx, hn, hc, hl, d1, d2, d3, d4, d5, d6, d7, d8, d9, d10, d11, d12, rd_n, upw_n, ite_le, n45, n54, true_or, or_true, false_or, or_false, false_and, and_false, kx_l, kx_r, go_s, gl_s, gi_s, gb_s2, gb_s3, gq_s, wt_nil, wt_int, wt_long, wt_ref, wt_null, nl_int, nl_long, nl_ref, nl_null, nl_none, rf_n, rf_s, rf_st, tl_s, tl_n, g0, gS, ex1, nb_b, nb_0, nb_1, nf_i, nf_l, nf_ra, nf_ro, nf_na, nf_no, nf_b0, nf_z0, t45_4, t45_5, true_and, and_true, List.set_cons_zero, List.set_cons_succ, List.length_cons, List.length_nil, rd_s, upw_s, ne_eq, not_false_eq_true, Nat.zero_add, Nat.add_zero]
      | split
      | with_reducible intro _
      | omega
  · repeat' first
      | with_reducible assumption
      | with_reducible refine And.intro ?_ ?_
      | with_reducible exact vpi6 (by assumption) (by assumption)
      | with_reducible exact vpi8 (by assumption) (by assumption)
      | with_reducible exact hQ _ _ (by repeat' first | assumption | exact ext.rf | refine ext.tr (by assumption) ?_)
      | with_reducible exact hQt _ (by repeat' first | assumption | exact ext.rf | refine ext.tr (by assumption) ?_)
      | with_reducible exact hQf _ (by repeat' first | assumption | exact ext.rf | refine ext.tr (by assumption) ?_)
      | with_reducible refine sX1_needCard ?_ ?_
      | with_reducible refine sX1_needChoice ?_ ?_
      | with_reducible refine sX1_rangeOf2 (by first | assumption | exact CC.ext (by assumption) (by assumption)) ?_ ?_ ?_
      | with_reducible refine sX1_copyOf (by first | assumption | exact hgc _ _ (by assumption) | exact hgl _ _ (by assumption) | exact isR.ext (by assumption) (by repeat' first | assumption | exact ext.rf | refine ext.tr (by assumption) ?_) | exact isR.ext (hgc _ _ (by assumption)) (by repeat' first | assumption | exact ext.rf | refine ext.tr (by assumption) ?_)) ?_ ?_
      | with_reducible refine sX0_matchesR (by first | assumption | exact hgc _ _ (by assumption) | exact hgl _ _ (by assumption) | exact isR.ext (by assumption) (by repeat' first | assumption | exact ext.rf | refine ext.tr (by assumption) ?_) | exact isR.ext (hgc _ _ (by assumption)) (by repeat' first | assumption | exact ext.rf | refine ext.tr (by assumption) ?_)) (by first | assumption | exact hgc _ _ (by assumption) | exact hgl _ _ (by assumption) | exact isR.ext (by assumption) (by repeat' first | assumption | exact ext.rf | refine ext.tr (by assumption) ?_) | exact isR.ext (hgc _ _ (by assumption)) (by repeat' first | assumption | exact ext.rf | refine ext.tr (by assumption) ?_)) ?_
      | with_reducible refine sX0_matchesN (by first | assumption | exact hgc _ _ (by assumption) | exact hgl _ _ (by assumption) | exact isR.ext (by assumption) (by repeat' first | assumption | exact ext.rf | refine ext.tr (by assumption) ?_) | exact isR.ext (hgc _ _ (by assumption)) (by repeat' first | assumption | exact ext.rf | refine ext.tr (by assumption) ?_)) ?_
      | with_reducible refine sX1_outerOf (by first | assumption | exact hgc _ _ (by assumption) | exact hgl _ _ (by assumption) | exact isR.ext (by assumption) (by repeat' first | assumption | exact ext.rf | refine ext.tr (by assumption) ?_) | exact isR.ext (hgc _ _ (by assumption)) (by repeat' first | assumption | exact ext.rf | refine ext.tr (by assumption) ?_)) ?_ ?_
      | with_reducible exact go_C (by first | assumption | exact CC.ext hC (by repeat' first | assumption | exact ext.rf | refine ext.tr (by assumption) ?_))
      | with_reducible refine go_R (by first | assumption | exact hgc _ _ (by assumption) | exact hgl _ _ (by assumption) | exact isR.ext (by assumption) (by repeat' first | assumption | exact ext.rf | refine ext.tr (by assumption) ?_) | exact isR.ext (hgc _ _ (by assumption)) (by repeat' first | assumption | exact ext.rf | refine ext.tr (by assumption) ?_)) ?_
      | simp only [eX1_isSameAs_0, eX1_isSameAs_1, eX1_isSameAs_4, eX1_isSameAs_5, eX1_isSameAs_6, eX1_isSameAs_9, eX1_isSameAs_9N, eX1_isSameAs_10, eX1_isSameAs_11, eX1_isSameAs_14, eX1_isSameAs_14N, eX1_isSameAs_15, eX1_isSameAs_16_0, eX1_isSameAs_16_1, eX1_isSameAs_16_2, eX1_isSameAs_16_d5, eX1_isSameAs_16_d6, eX1_isSameAs_44, eX1_isSameAs_44N, eX1_isSameAs_45, eX1_isSameAs_45N, eX1_isSameAs_46R, eX1_isSameAs_46N, eX1_isSameAs_49R, eX1_isSameAs_49N, eX1_isSameAs_52, eX1_isSameAs_53, eX1_isSameAs_53N, eX1_isSameAs_54, eX1_isSameAs_54N, eX1_isSameAs_55R, eX1_isSameAs_55N, eX1_isSameAs_58, eX1_isSameAs_59, eX1_isSameAs_59N, eX1_isSameAs_60, eX1_isSameAs_60N, eX1_isSameAs_61R, eX1_isSameAs_61N, eX1_isSameAs_64R, eX1_isSameAs_64N, eX1_isSameAs_67, eX1_isSameAs_68, eX1_isSameAs_69, rx, rn, rc, rl, hx, hn, hc, hl, d1, d2, d3, d4, d5, d6, d7, d8, d9, d10, d11, d12, rd_n, upw_n, eX1_isSameAs_16_d hsw, ite_le, n45, n54, true_or, or_true, false_or, or_false, false_and, and_false, kx_l, kx_r, go_s, gl_s, gi_s, gb_s2, gb_s3, gq_s, wt_nil, wt_int, wt_long, wt_ref, wt_null, nl_int, nl_long, nl_ref, nl_null, nl_none, rf_n, rf_s, rf_st, tl_s, tl_n, g0, gS, ex1, nb_b, nb_0, nb_1, nf_i, nf_l, nf_ra, nf_ro, nf_na, nf_no, nf_b0, nf_z0, t45_4, t45_5, true_and, and_true, List.set_cons_zero, List.set_cons_succ, List.length_cons, List.length_nil, rd_s, upw_s, ne_eq, not_false_eq_true, Nat.zero_add, Nat.add_zero]
      | split
      | with_reducible intro _
      | omega
set_option maxHeartbeats 4000000 in
theorem lX1_isSound_2 (hQ : ∀ (v : Bool) (w' : Hw), ext g w w' → Q (.inl (some (.int (bI v)))) w') : ∀ (d : Nat) (i1 : Int32) (i2 : Option Value) (w1 : Hw) (k m : Nat), CC g w0 x nA cA lA kn w1 → ext g w w1 → ¬ i1 < 0 → (6 : Int32).toInt - i1.toInt ≤ (d : Int) → k + 4 * d ≤ 24 → m + 16 * d ≤ 96 → WP (MX1_isSound g) Q (2, [some (.ref x), some (.int i1), i2], [], w1, k, m) := by
  have hQt : ∀ w', ext g w w' → Q (.inl (some (.int 1))) w' := hQ true
  have hQf : ∀ w', ext g w w' → Q (.inl (some (.int 0))) w' := hQ false
  intro d
  induction d with
  | zero =>
    intro i1 i2 w1 k m hC he z0 hm hk hs
    obtain ⟨n, rf, md, f, gc, gl, hx, hn, hc, hl, hgc, hgl, hn0, hn1, rx, rn, rc, rl, ⟨d1, d2, d3, d4, d5, d6⟩, ⟨d7, d8, d9, d10, d11, d12⟩⟩ := hC.1.opn g
    rw [eX1_isSound_2]
    repeat' first
      | with_reducible assumption
      | with_reducible refine And.intro ?_ ?_
      | with_reducible exact vpi6 (by assumption) (by assumption)
      | with_reducible exact vpi8 (by assumption) (by assumption)
      | with_reducible exact (ic_z (by assumption) (by assumption)).elim
      | with_reducible exact hQ _ _ (by repeat' first | assumption | exact ext.rf | refine ext.tr (by assumption) ?_)
      | with_reducible exact hQt _ (by repeat' first | assumption | exact ext.rf | refine ext.tr (by assumption) ?_)
      | with_reducible exact hQf _ (by repeat' first | assumption | exact ext.rf | refine ext.tr (by assumption) ?_)
      | with_reducible refine sX1_isSoundAlone (by first | assumption | exact CC.ext hC (by repeat' first | assumption | exact ext.rf | refine ext.tr (by assumption) ?_)) (by first | assumption | exact hgc _ _ (by assumption) | exact hgl _ _ (by assumption) | exact isR.ext (by assumption) (by repeat' first | assumption | exact ext.rf | refine ext.tr (by assumption) ?_) | exact isR.ext (hgc _ _ (by assumption)) (by repeat' first | assumption | exact ext.rf | refine ext.tr (by assumption) ?_)) ?_
      | with_reducible refine sX1_isSameToAndFro (by first | assumption | exact CC.ext hC (by repeat' first | assumption | exact ext.rf | refine ext.tr (by assumption) ?_)) (by first | assumption | exact hgc _ _ (by assumption) | exact hgl _ _ (by assumption) | exact isR.ext (by assumption) (by repeat' first | assumption | exact ext.rf | refine ext.tr (by assumption) ?_) | exact isR.ext (hgc _ _ (by assumption)) (by repeat' first | assumption | exact ext.rf | refine ext.tr (by assumption) ?_)) ?_
      | with_reducible refine sX1_isEachFoundInPile (by first | assumption | exact CC.ext hC (by repeat' first | assumption | exact ext.rf | refine ext.tr (by assumption) ?_)) ?_
      | with_reducible exact go_C (by first | assumption | exact CC.ext hC (by repeat' first | assumption | exact ext.rf | refine ext.tr (by assumption) ?_))
      | simp only [eX1_isSound_0, eX1_isSound_1, eX1_isSound_3, eX1_isSound_5, eX1_isSound_8, eX1_isSound_8N, eX1_isSound_9, eX1_isSound_12, eX1_isSound_13, eX1_isSound_14, eX1_isSound_14N, eX1_isSound_15, eX1_isSound_15N, eX1_isSound_16R, eX1_isSound_16N, eX1_isSound_19, eX1_isSound_19N, eX1_isSound_20, eX1_isSound_20N, eX1_isSound_21R, eX1_isSound_21N, eX1_isSound_24, eX1_isSound_27, eX1_isSound_27N, eX1_isSound_28, eX1_isSound_28N, eX1_isSound_29R, eX1_isSound_29N, eX1_isSound_32, eX1_isSound_35, eX1_isSound_36, eX1_isSound_37, eX1_isSound_40, eX1_isSound_43, eX1_isSound_43N, eX1_isSound_44, eX1_isSound_47, rx, rn, rc, rl, hx, hn, hc, hl, d1, d2, d3, d4, d5, d6, d7, d8, d9, d10, d11, d12, rd_n, upw_n, ite_le, n45, n54, true_or, or_true, false_or, or_false, false_and, and_false, kx_l, kx_r, go_s, gl_s, gi_s, gb_s2, gb_s3, gq_s, wt_nil, wt_int, wt_long, wt_ref, wt_null, nl_int, nl_long, nl_ref, nl_null, nl_none, rf_n, rf_s, rf_st, tl_s, tl_n, g0, gS, ex1, nb_b, nb_0, nb_1, nf_i, nf_l, nf_ra, nf_ro, nf_na, nf_no, nf_b0, nf_z0, t45_4, t45_5, true_and, and_true, List.set_cons_zero, List.set_cons_succ, List.length_cons, List.length_nil, rd_s, upw_s, ne_eq, not_false_eq_true, Nat.zero_add, Nat.add_zero]
      | split
      | with_reducible intro _
      | omega
  | succ d ih =>
    intro i1 i2 w1 k m hC he z0 hm hk hs
    obtain ⟨n, rf, md, f, gc, gl, hx, hn, hc, hl, hgc, hgl, hn0, hn1, rx, rn, rc, rl, ⟨d1, d2, d3, d4, d5, d6⟩, ⟨d7, d8, d9, d10, d11, d12⟩⟩ := hC.1.opn g
    rw [eX1_isSound_2]
    repeat' first
      | with_reducible assumption
      | with_reducible refine And.intro ?_ ?_
      | with_reducible exact vpi6 (by assumption) (by assumption)
      | with_reducible exact vpi8 (by assumption) (by assumption)
      | with_reducible exact ih _ _ _ _ _ (by first | assumption | exact CC.ext hC (by repeat' first | assumption | exact ext.rf | refine ext.tr (by assumption) ?_)) (by repeat' first | assumption | exact ext.rf | refine ext.tr (by assumption) ?_) (ic_p (by assumption) (by assumption)) (ic_s (by assumption) (by assumption)) (by omega) (by omega)
      | with_reducible exact hQ _ _ (by repeat' first | assumption | exact ext.rf | refine ext.tr (by assumption) ?_)
      | with_reducible exact hQt _ (by repeat' first | assumption | exact ext.rf | refine ext.tr (by assumption) ?_)
      | with_reducible exact hQf _ (by repeat' first | assumption | exact ext.rf | refine ext.tr (by assumption) ?_)
      | with_reducible refine sX1_isSoundAlone (by first | assumption | exact CC.ext hC (by repeat' first | assumption | exact ext.rf | refine ext.tr (by assumption) ?_)) (by first | assumption | exact hgc _ _ (by assumption) | exact hgl _ _ (by assumption) | exact isR.ext (by assumption) (by repeat' first | assumption | exact ext.rf | refine ext.tr (by assumption) ?_) | exact isR.ext (hgc _ _ (by assumption)) (by repeat' first | assumption | exact ext.rf | refine ext.tr (by assumption) ?_)) ?_
      | with_reducible refine sX1_isSameToAndFro (by first | assumption | exact CC.ext hC (by repeat' first | assumption | exact ext.rf | refine ext.tr (by assumption) ?_)) (by first | assumption | exact hgc _ _ (by assumption) | exact hgl _ _ (by assumption) | exact isR.ext (by assumption) (by repeat' first | assumption | exact ext.rf | refine ext.tr (by assumption) ?_) | exact isR.ext (hgc _ _ (by assumption)) (by repeat' first | assumption | exact ext.rf | refine ext.tr (by assumption) ?_)) ?_
      | with_reducible refine sX1_isEachFoundInPile (by first | assumption | exact CC.ext hC (by repeat' first | assumption | exact ext.rf | refine ext.tr (by assumption) ?_)) ?_
      | with_reducible exact go_C (by first | assumption | exact CC.ext hC (by repeat' first | assumption | exact ext.rf | refine ext.tr (by assumption) ?_))
      | simp only [eX1_isSound_0, eX1_isSound_1, eX1_isSound_3, eX1_isSound_5, eX1_isSound_8, eX1_isSound_8N, eX1_isSound_9, eX1_isSound_12, eX1_isSound_13, eX1_isSound_14, eX1_isSound_14N, eX1_isSound_15, eX1_isSound_15N, eX1_isSound_16R, eX1_isSound_16N, eX1_isSound_19, eX1_isSound_19N, eX1_isSound_20, eX1_isSound_20N, eX1_isSound_21R, eX1_isSound_21N, eX1_isSound_24, eX1_isSound_27, eX1_isSound_27N, eX1_isSound_28, eX1_isSound_28N, eX1_isSound_29R, eX1_isSound_29N, eX1_isSound_32, eX1_isSound_35, eX1_isSound_36, eX1_isSound_37, eX1_isSound_40, eX1_isSound_43, eX1_isSound_43N, eX1_isSound_44, eX1_isSound_47, rx, rn, rc, rl, hx, hn, hc, hl, d1, d2, d3, d4, d5, d6, d7, d8, d9, d10, d11, d12, rd_n, upw_n, ite_le, n45, n54, true_or, or_true, false_or, or_false, false_and, and_false, kx_l, kx_r, go_s, gl_s, gi_s, gb_s2, gb_s3, gq_s, wt_nil, wt_int, wt_long, wt_ref, wt_null, nl_int, nl_long, nl_ref, nl_null, nl_none, rf_n, rf_s, rf_st, tl_s, tl_n, g0, gS, ex1, nb_b, nb_0, nb_1, nf_i, nf_l, nf_ra, nf_ro, nf_na, nf_no, nf_b0, nf_z0, t45_4, t45_5, true_and, and_true, List.set_cons_zero, List.set_cons_succ, List.length_cons, List.length_nil, rd_s, upw_s, ne_eq, not_false_eq_true, Nat.zero_add, Nat.add_zero]
      | split
      | with_reducible intro _
      | omega
set_option maxHeartbeats 4000000 in
theorem sX1_isSound  (hC : CC g w0 x nA cA lA kn w) (hQ : ∀ (v : Bool) (w' : Hw), ext g w w' → Q (.inl (some (.int (bI v)))) w') : WP (MX1_isSound g) Q (0, [some (.ref x), none, none], [], w, 0, 0) := by
  obtain ⟨n, rf, md, f, gc, gl, hx, hn, hc, hl, hgc, hgl, hn0, hn1, rx, rn, rc, rl, ⟨d1, d2, d3, d4, d5, d6⟩, ⟨d7, d8, d9, d10, d11, d12⟩⟩ := hC.1.opn g
  have hQt : ∀ w', ext g w w' → Q (.inl (some (.int 1))) w' := hQ true
  have hQf : ∀ w', ext g w w' → Q (.inl (some (.int 0))) w' := hQ false
  repeat' first
    | with_reducible assumption
    | with_reducible refine And.intro ?_ ?_
    | with_reducible exact vpi6 (by assumption) (by assumption)
    | with_reducible exact vpi8 (by assumption) (by assumption)
    | with_reducible exact lX1_isSound_2 hQ 6 _ _ _ _ _ hC ext.rf (by decide) (by decide) (by decide) (by decide)
    | with_reducible refine sX1_isSoundAlone (by first | assumption | exact CC.ext hC (by repeat' first | assumption | exact ext.rf | refine ext.tr (by assumption) ?_)) (by first | assumption | exact hgc _ _ (by assumption) | exact hgl _ _ (by assumption) | exact isR.ext (by assumption) (by repeat' first | assumption | exact ext.rf | refine ext.tr (by assumption) ?_) | exact isR.ext (hgc _ _ (by assumption)) (by repeat' first | assumption | exact ext.rf | refine ext.tr (by assumption) ?_)) ?_
    | with_reducible refine sX1_isSameToAndFro (by first | assumption | exact CC.ext hC (by repeat' first | assumption | exact ext.rf | refine ext.tr (by assumption) ?_)) (by first | assumption | exact hgc _ _ (by assumption) | exact hgl _ _ (by assumption) | exact isR.ext (by assumption) (by repeat' first | assumption | exact ext.rf | refine ext.tr (by assumption) ?_) | exact isR.ext (hgc _ _ (by assumption)) (by repeat' first | assumption | exact ext.rf | refine ext.tr (by assumption) ?_)) ?_
    | with_reducible refine sX1_isEachFoundInPile (by first | assumption | exact CC.ext hC (by repeat' first | assumption | exact ext.rf | refine ext.tr (by assumption) ?_)) ?_
    | with_reducible refine go_R (by first | assumption | exact hgc _ _ (by assumption) | exact hgl _ _ (by assumption) | exact isR.ext (by assumption) (by repeat' first | assumption | exact ext.rf | refine ext.tr (by assumption) ?_) | exact isR.ext (hgc _ _ (by assumption)) (by repeat' first | assumption | exact ext.rf | refine ext.tr (by assumption) ?_)) ?_
    | with_reducible exact hQ _ _ (by first | assumption | exact ext.rf | exact ext.tr (by assumption) (by assumption))
    | with_reducible exact hQt _ (by first | assumption | exact ext.rf | exact ext.tr (by assumption) (by assumption))
    | with_reducible exact hQf _ (by first | assumption | exact ext.rf | exact ext.tr (by assumption) (by assumption))
    | simp only [eX1_isSound_0, eX1_isSound_1, eX1_isSound_3, eX1_isSound_5, eX1_isSound_8, eX1_isSound_8N, eX1_isSound_9, eX1_isSound_12, eX1_isSound_13, eX1_isSound_14, eX1_isSound_14N, eX1_isSound_15, eX1_isSound_15N, eX1_isSound_16R, eX1_isSound_16N, eX1_isSound_19, eX1_isSound_19N, eX1_isSound_20, eX1_isSound_20N, eX1_isSound_21R, eX1_isSound_21N, eX1_isSound_24, eX1_isSound_27, eX1_isSound_27N, eX1_isSound_28, eX1_isSound_28N, eX1_isSound_29R, eX1_isSound_29N, eX1_isSound_32, eX1_isSound_35, eX1_isSound_36, eX1_isSound_37, eX1_isSound_40, eX1_isSound_43, eX1_isSound_43N, eX1_isSound_44, eX1_isSound_47, rx, rn, rc, rl, hx, hn, hc, hl, d1, d2, d3, d4, d5, d6, d7, d8, d9, d10, d11, d12, rd_n, upw_n, ite_le, n45, n54, true_or, or_true, false_or, or_false, false_and, and_false, kx_l, kx_r, go_s, gl_s, gi_s, gb_s2, gb_s3, gq_s, wt_nil, wt_int, wt_long, wt_ref, wt_null, nl_int, nl_long, nl_ref, nl_null, nl_none, rf_n, rf_s, rf_st, tl_s, tl_n, g0, gS, ex1, nb_b, nb_0, nb_1, nf_i, nf_l, nf_ra, nf_ro, nf_na, nf_no, nf_b0, nf_z0, t45_4, t45_5, true_and, and_true, List.set_cons_zero, List.set_cons_succ, List.length_cons, List.length_nil, rd_s, upw_s, ne_eq, not_false_eq_true, Nat.zero_add, Nat.add_zero]
    | split
    | with_reducible intro _
    | omega
end
end
/-! 67.24.sound2.lean.txt -/
section
section
variable {g : RO} {Q : Ot → Hw → Prop} {w0 w : Hw} {x nA cA lA : Nat} {kn : Int32}
set_option maxHeartbeats 4000000 in
theorem lX1_digest_36  (hC : CC g w0 x nA cA lA kn w) (hQ : ∀ (v : Int64) (w' : Hw), ext g w w' → Q (.inl (some (.long v))) w') : ∀ (n rf md : Int32) (f : Nat → Int64) (gc gl : Nat → Option Nat), RO5 g w x nA cA lA n rf kn md f gc gl → ∀ (d : Nat) (i1 : Int64) (i3 : Int32) (k m : Nat), ¬ i3 < 0 → (6 : Int32).toInt - i3.toInt ≤ (d : Int) → k ≤ 0 → m ≤ 0 → WP (MX1_digest g) Q (36, [some (.ref x), some (.long i1), none, some (.int i3)], [], w, k, m) := by
  rintro n rf md f gc gl ⟨hx, hn, hc, hl, hgc, hgl, hn0, hn1, rx, rn, rc, rl, ⟨d1, d2, d3, d4, d5, d6⟩, ⟨d7, d8, d9, d10, d11, d12⟩⟩ d
  induction d with
  | zero =>
    intro i1 i3 k m z0 hm hk hs
    rw [eX1_digest_36]
    repeat' first
      | with_reducible assumption
      | with_reducible refine And.intro ?_ ?_
      | with_reducible exact vpi6 (by assumption) (by assumption)
      | with_reducible exact vpi8 (by assumption) (by assumption)
      | with_reducible exact (ic_z (by assumption) (by assumption)).elim
      | with_reducible exact vpi12 (by assumption) (by assumption) (by assumption)
      | with_reducible refine sX1_withHouse (by first | assumption | exact CC.ext hC (by repeat' first | assumption | exact ext.rf | refine ext.tr (by assumption) ?_)) ?_
      | with_reducible refine sX1_withNumber (by first | assumption | exact CC.ext hC (by repeat' first | assumption | exact ext.rf | refine ext.tr (by assumption) ?_)) ?_
      | with_reducible refine sX1_withCardR (by first | assumption | exact CC.ext hC (by repeat' first | assumption | exact ext.rf | refine ext.tr (by assumption) ?_)) (by first | assumption | exact hgc _ _ (by assumption) | exact hgl _ _ (by assumption) | exact isR.ext (by assumption) (by repeat' first | assumption | exact ext.rf | refine ext.tr (by assumption) ?_) | exact isR.ext (hgc _ _ (by assumption)) (by repeat' first | assumption | exact ext.rf | refine ext.tr (by assumption) ?_)) ?_
      | with_reducible refine sX1_withCardN (by first | assumption | exact CC.ext hC (by repeat' first | assumption | exact ext.rf | refine ext.tr (by assumption) ?_)) ?_
      | with_reducible refine sX1_withWhichAndPile (by first | assumption | exact CC.ext hC (by repeat' first | assumption | exact ext.rf | refine ext.tr (by assumption) ?_)) ?_
      | with_reducible refine sX1_isSound (by first | assumption | exact CC.ext hC (by repeat' first | assumption | exact ext.rf | refine ext.tr (by assumption) ?_)) ?_
      | with_reducible refine sX1_asNumber ?_
      | with_reducible refine sX1_with ?_
      | with_reducible refine go_R (by first | assumption | exact hgc _ _ (by assumption) | exact hgl _ _ (by assumption) | exact isR.ext (by assumption) (by repeat' first | assumption | exact ext.rf | refine ext.tr (by assumption) ?_) | exact isR.ext (hgc _ _ (by assumption)) (by repeat' first | assumption | exact ext.rf | refine ext.tr (by assumption) ?_)) ?_
      | with_reducible exact hQ _ _ (by repeat' first | assumption | exact ext.rf | refine ext.tr (by assumption) ?_)
      | with_reducible exact vpi8 (by assumption) (by assumption)
      | with_reducible exact hQ _ _ (by first | assumption | exact ext.rf | exact ext.tr (by assumption) (by assumption))
      | simp only [eX1_digest_0, eX1_digest_0N, eX1_digest_1, eX1_digest_4, eX1_digest_7, eX1_digest_8, eX1_digest_9, eX1_digest_11, eX1_digest_13, eX1_digest_16, eX1_digest_16N, eX1_digest_17, eX1_digest_18, eX1_digest_18N, eX1_digest_19, eX1_digest_22, eX1_digest_23, eX1_digest_24, eX1_digest_27, eX1_digest_28, eX1_digest_31, eX1_digest_34, eX1_digest_35, eX1_digest_37, eX1_digest_39, eX1_digest_42, eX1_digest_42N, eX1_digest_43, eX1_digest_44, eX1_digest_44N, eX1_digest_45, eX1_digest_48, eX1_digest_49, eX1_digest_50R, eX1_digest_50N, eX1_digest_53, eX1_digest_54, eX1_digest_57, eX1_digest_60, eX1_digest_60N, eX1_digest_61, eX1_digest_62, eX1_digest_65, eX1_digest_66, eX1_digest_67, eX1_digest_67N, eX1_digest_68, eX1_digest_71, eX1_digest_74, eX1_digest_75, eX1_digest_78, rx, rn, rc, rl, hx, hn, hc, hl, d1, d2, d3, d4, d5, d6, d7, d8, d9, d10, d11, d12, rd_n, upw_n, ite_le, n45, n54, true_or, or_true, false_or, or_false, false_and, and_false, kx_l, kx_r, go_s, gl_s, gi_s, gb_s2, gb_s3, gq_s, wt_nil, wt_int, wt_long, wt_ref, wt_null, nl_int, nl_long, nl_ref, nl_null, nl_none, rf_n, rf_s, rf_st, tl_s, tl_n, g0, gS, ex1, nb_b, nb_0, nb_1, nf_i, nf_l, nf_ra, nf_ro, nf_na, nf_no, nf_b0, nf_z0, t45_4, t45_5, true_and, and_true, List.set_cons_zero, List.set_cons_succ, List.length_cons, List.length_nil, rd_s, upw_s, ne_eq, not_false_eq_true, Nat.zero_add, Nat.add_zero]
      | split
      | with_reducible intro _
      | omega
  | succ d ih =>
    intro i1 i3 k m z0 hm hk hs
    rw [eX1_digest_36]
    repeat' first
      | with_reducible assumption
      | with_reducible refine And.intro ?_ ?_
      | with_reducible exact vpi6 (by assumption) (by assumption)
      | with_reducible exact vpi8 (by assumption) (by assumption)
      | with_reducible exact ih _ _ _ _ (ic_p (by assumption) (by assumption)) (ic_s (by assumption) (by assumption)) (by first | assumption | omega) (by first | assumption | omega)
      | with_reducible exact vpi12 (by assumption) (by assumption) (by assumption)
      | with_reducible refine sX1_withHouse (by first | assumption | exact CC.ext hC (by repeat' first | assumption | exact ext.rf | refine ext.tr (by assumption) ?_)) ?_
      | with_reducible refine sX1_withNumber (by first | assumption | exact CC.ext hC (by repeat' first | assumption | exact ext.rf | refine ext.tr (by assumption) ?_)) ?_
      | with_reducible refine sX1_withCardR (by first | assumption | exact CC.ext hC (by repeat' first | assumption | exact ext.rf | refine ext.tr (by assumption) ?_)) (by first | assumption | exact hgc _ _ (by assumption) | exact hgl _ _ (by assumption) | exact isR.ext (by assumption) (by repeat' first | assumption | exact ext.rf | refine ext.tr (by assumption) ?_) | exact isR.ext (hgc _ _ (by assumption)) (by repeat' first | assumption | exact ext.rf | refine ext.tr (by assumption) ?_)) ?_
      | with_reducible refine sX1_withCardN (by first | assumption | exact CC.ext hC (by repeat' first | assumption | exact ext.rf | refine ext.tr (by assumption) ?_)) ?_
      | with_reducible refine sX1_withWhichAndPile (by first | assumption | exact CC.ext hC (by repeat' first | assumption | exact ext.rf | refine ext.tr (by assumption) ?_)) ?_
      | with_reducible refine sX1_isSound (by first | assumption | exact CC.ext hC (by repeat' first | assumption | exact ext.rf | refine ext.tr (by assumption) ?_)) ?_
      | with_reducible refine sX1_asNumber ?_
      | with_reducible refine sX1_with ?_
      | with_reducible refine go_R (by first | assumption | exact hgc _ _ (by assumption) | exact hgl _ _ (by assumption) | exact isR.ext (by assumption) (by repeat' first | assumption | exact ext.rf | refine ext.tr (by assumption) ?_) | exact isR.ext (hgc _ _ (by assumption)) (by repeat' first | assumption | exact ext.rf | refine ext.tr (by assumption) ?_)) ?_
      | with_reducible exact hQ _ _ (by repeat' first | assumption | exact ext.rf | refine ext.tr (by assumption) ?_)
      | with_reducible exact vpi8 (by assumption) (by assumption)
      | with_reducible exact hQ _ _ (by first | assumption | exact ext.rf | exact ext.tr (by assumption) (by assumption))
      | simp only [eX1_digest_0, eX1_digest_0N, eX1_digest_1, eX1_digest_4, eX1_digest_7, eX1_digest_8, eX1_digest_9, eX1_digest_11, eX1_digest_13, eX1_digest_16, eX1_digest_16N, eX1_digest_17, eX1_digest_18, eX1_digest_18N, eX1_digest_19, eX1_digest_22, eX1_digest_23, eX1_digest_24, eX1_digest_27, eX1_digest_28, eX1_digest_31, eX1_digest_34, eX1_digest_35, eX1_digest_37, eX1_digest_39, eX1_digest_42, eX1_digest_42N, eX1_digest_43, eX1_digest_44, eX1_digest_44N, eX1_digest_45, eX1_digest_48, eX1_digest_49, eX1_digest_50R, eX1_digest_50N, eX1_digest_53, eX1_digest_54, eX1_digest_57, eX1_digest_60, eX1_digest_60N, eX1_digest_61, eX1_digest_62, eX1_digest_65, eX1_digest_66, eX1_digest_67, eX1_digest_67N, eX1_digest_68, eX1_digest_71, eX1_digest_74, eX1_digest_75, eX1_digest_78, rx, rn, rc, rl, hx, hn, hc, hl, d1, d2, d3, d4, d5, d6, d7, d8, d9, d10, d11, d12, rd_n, upw_n, ite_le, n45, n54, true_or, or_true, false_or, or_false, false_and, and_false, kx_l, kx_r, go_s, gl_s, gi_s, gb_s2, gb_s3, gq_s, wt_nil, wt_int, wt_long, wt_ref, wt_null, nl_int, nl_long, nl_ref, nl_null, nl_none, rf_n, rf_s, rf_st, tl_s, tl_n, g0, gS, ex1, nb_b, nb_0, nb_1, nf_i, nf_l, nf_ra, nf_ro, nf_na, nf_no, nf_b0, nf_z0, t45_4, t45_5, true_and, and_true, List.set_cons_zero, List.set_cons_succ, List.length_cons, List.length_nil, rd_s, upw_s, ne_eq, not_false_eq_true, Nat.zero_add, Nat.add_zero]
      | split
      | with_reducible intro _
      | omega
set_option maxHeartbeats 4000000 in
theorem lX1_digest_10  (hC : CC g w0 x nA cA lA kn w) (hQ : ∀ (v : Int64) (w' : Hw), ext g w w' → Q (.inl (some (.long v))) w') : ∀ (n rf md : Int32) (f : Nat → Int64) (gc gl : Nat → Option Nat), RO5 g w x nA cA lA n rf kn md f gc gl → ∀ (d : Nat) (i1 : Int64) (i3 : Int32) (k m : Nat), ¬ i3 < 0 → (8 : Int32).toInt - i3.toInt ≤ (d : Int) → k ≤ 0 → m ≤ 0 → WP (MX1_digest g) Q (10, [some (.ref x), some (.long i1), none, some (.int i3)], [], w, k, m) := by
  rintro n rf md f gc gl ⟨hx, hn, hc, hl, hgc, hgl, hn0, hn1, rx, rn, rc, rl, ⟨d1, d2, d3, d4, d5, d6⟩, ⟨d7, d8, d9, d10, d11, d12⟩⟩ d
  induction d with
  | zero =>
    intro i1 i3 k m z0 hm hk hs
    rw [eX1_digest_10]
    repeat' first
      | with_reducible assumption
      | with_reducible refine And.intro ?_ ?_
      | with_reducible exact vpi6 (by assumption) (by assumption)
      | with_reducible exact vpi8 (by assumption) (by assumption)
      | with_reducible exact (ic_z (by assumption) (by assumption)).elim
      | with_reducible exact vpi12 (by assumption) (by assumption) (by assumption)
      | with_reducible refine sX1_withHouse (by first | assumption | exact CC.ext hC (by repeat' first | assumption | exact ext.rf | refine ext.tr (by assumption) ?_)) ?_
      | with_reducible refine sX1_withNumber (by first | assumption | exact CC.ext hC (by repeat' first | assumption | exact ext.rf | refine ext.tr (by assumption) ?_)) ?_
      | with_reducible refine sX1_withCardR (by first | assumption | exact CC.ext hC (by repeat' first | assumption | exact ext.rf | refine ext.tr (by assumption) ?_)) (by first | assumption | exact hgc _ _ (by assumption) | exact hgl _ _ (by assumption) | exact isR.ext (by assumption) (by repeat' first | assumption | exact ext.rf | refine ext.tr (by assumption) ?_) | exact isR.ext (hgc _ _ (by assumption)) (by repeat' first | assumption | exact ext.rf | refine ext.tr (by assumption) ?_)) ?_
      | with_reducible refine sX1_withCardN (by first | assumption | exact CC.ext hC (by repeat' first | assumption | exact ext.rf | refine ext.tr (by assumption) ?_)) ?_
      | with_reducible refine sX1_withWhichAndPile (by first | assumption | exact CC.ext hC (by repeat' first | assumption | exact ext.rf | refine ext.tr (by assumption) ?_)) ?_
      | with_reducible refine sX1_isSound (by first | assumption | exact CC.ext hC (by repeat' first | assumption | exact ext.rf | refine ext.tr (by assumption) ?_)) ?_
      | with_reducible refine sX1_asNumber ?_
      | with_reducible refine sX1_with ?_
      | with_reducible refine go_R (by first | assumption | exact hgc _ _ (by assumption) | exact hgl _ _ (by assumption) | exact isR.ext (by assumption) (by repeat' first | assumption | exact ext.rf | refine ext.tr (by assumption) ?_) | exact isR.ext (hgc _ _ (by assumption)) (by repeat' first | assumption | exact ext.rf | refine ext.tr (by assumption) ?_)) ?_
      | with_reducible exact hQ _ _ (by repeat' first | assumption | exact ext.rf | refine ext.tr (by assumption) ?_)
      | with_reducible exact vpi8 (by assumption) (by assumption)
      | with_reducible exact lX1_digest_36 hC hQ _ _ _ _ _ _ ⟨hx, hn, hc, hl, hgc, hgl, hn0, hn1, rx, rn, rc, rl, ⟨d1, d2, d3, d4, d5, d6⟩, ⟨d7, d8, d9, d10, d11, d12⟩⟩ 70 _ _ _ _ (by first | decide | assumption) (by first | decide | exact n12 (by assumption) | exact n60 (by assumption)) (by first | decide | omega) (by first | decide | omega)
      | with_reducible exact hQ _ _ (by first | assumption | exact ext.rf | exact ext.tr (by assumption) (by assumption))
      | simp only [eX1_digest_0, eX1_digest_0N, eX1_digest_1, eX1_digest_4, eX1_digest_7, eX1_digest_8, eX1_digest_9, eX1_digest_11, eX1_digest_13, eX1_digest_16, eX1_digest_16N, eX1_digest_17, eX1_digest_18, eX1_digest_18N, eX1_digest_19, eX1_digest_22, eX1_digest_23, eX1_digest_24, eX1_digest_27, eX1_digest_28, eX1_digest_31, eX1_digest_34, eX1_digest_35, eX1_digest_37, eX1_digest_39, eX1_digest_42, eX1_digest_42N, eX1_digest_43, eX1_digest_44, eX1_digest_44N, eX1_digest_45, eX1_digest_48, eX1_digest_49, eX1_digest_50R, eX1_digest_50N, eX1_digest_53, eX1_digest_54, eX1_digest_57, eX1_digest_60, eX1_digest_60N, eX1_digest_61, eX1_digest_62, eX1_digest_65, eX1_digest_66, eX1_digest_67, eX1_digest_67N, eX1_digest_68, eX1_digest_71, eX1_digest_74, eX1_digest_75, eX1_digest_78, rx, rn, rc, rl, hx, hn, hc, hl, d1, d2, d3, d4, d5, d6, d7, d8, d9, d10, d11, d12, rd_n, upw_n, ite_le, n45, n54, true_or, or_true, false_or, or_false, false_and, and_false, kx_l, kx_r, go_s, gl_s, gi_s, gb_s2, gb_s3, gq_s, wt_nil, wt_int, wt_long, wt_ref, wt_null, nl_int, nl_long, nl_ref, nl_null, nl_none, rf_n, rf_s, rf_st, tl_s, tl_n, g0, gS, ex1, nb_b, nb_0, nb_1, nf_i, nf_l, nf_ra, nf_ro, nf_na, nf_no, nf_b0, nf_z0, t45_4, t45_5, true_and, and_true, List.set_cons_zero, List.set_cons_succ, List.length_cons, List.length_nil, rd_s, upw_s, ne_eq, not_false_eq_true, Nat.zero_add, Nat.add_zero]
      | split
      | with_reducible intro _
      | omega
  | succ d ih =>
    intro i1 i3 k m z0 hm hk hs
    rw [eX1_digest_10]
    repeat' first
      | with_reducible assumption
      | with_reducible refine And.intro ?_ ?_
      | with_reducible exact vpi6 (by assumption) (by assumption)
      | with_reducible exact vpi8 (by assumption) (by assumption)
      | with_reducible exact ih _ _ _ _ (ic_p (by assumption) (by assumption)) (ic_s (by assumption) (by assumption)) (by first | assumption | omega) (by first | assumption | omega)
      | with_reducible exact vpi12 (by assumption) (by assumption) (by assumption)
      | with_reducible refine sX1_withHouse (by first | assumption | exact CC.ext hC (by repeat' first | assumption | exact ext.rf | refine ext.tr (by assumption) ?_)) ?_
      | with_reducible refine sX1_withNumber (by first | assumption | exact CC.ext hC (by repeat' first | assumption | exact ext.rf | refine ext.tr (by assumption) ?_)) ?_
      | with_reducible refine sX1_withCardR (by first | assumption | exact CC.ext hC (by repeat' first | assumption | exact ext.rf | refine ext.tr (by assumption) ?_)) (by first | assumption | exact hgc _ _ (by assumption) | exact hgl _ _ (by assumption) | exact isR.ext (by assumption) (by repeat' first | assumption | exact ext.rf | refine ext.tr (by assumption) ?_) | exact isR.ext (hgc _ _ (by assumption)) (by repeat' first | assumption | exact ext.rf | refine ext.tr (by assumption) ?_)) ?_
      | with_reducible refine sX1_withCardN (by first | assumption | exact CC.ext hC (by repeat' first | assumption | exact ext.rf | refine ext.tr (by assumption) ?_)) ?_
      | with_reducible refine sX1_withWhichAndPile (by first | assumption | exact CC.ext hC (by repeat' first | assumption | exact ext.rf | refine ext.tr (by assumption) ?_)) ?_
      | with_reducible refine sX1_isSound (by first | assumption | exact CC.ext hC (by repeat' first | assumption | exact ext.rf | refine ext.tr (by assumption) ?_)) ?_
      | with_reducible refine sX1_asNumber ?_
      | with_reducible refine sX1_with ?_
      | with_reducible refine go_R (by first | assumption | exact hgc _ _ (by assumption) | exact hgl _ _ (by assumption) | exact isR.ext (by assumption) (by repeat' first | assumption | exact ext.rf | refine ext.tr (by assumption) ?_) | exact isR.ext (hgc _ _ (by assumption)) (by repeat' first | assumption | exact ext.rf | refine ext.tr (by assumption) ?_)) ?_
      | with_reducible exact hQ _ _ (by repeat' first | assumption | exact ext.rf | refine ext.tr (by assumption) ?_)
      | with_reducible exact vpi8 (by assumption) (by assumption)
      | with_reducible exact lX1_digest_36 hC hQ _ _ _ _ _ _ ⟨hx, hn, hc, hl, hgc, hgl, hn0, hn1, rx, rn, rc, rl, ⟨d1, d2, d3, d4, d5, d6⟩, ⟨d7, d8, d9, d10, d11, d12⟩⟩ 70 _ _ _ _ (by first | decide | assumption) (by first | decide | exact n12 (by assumption) | exact n60 (by assumption)) (by first | decide | omega) (by first | decide | omega)
      | with_reducible exact hQ _ _ (by first | assumption | exact ext.rf | exact ext.tr (by assumption) (by assumption))
      | simp only [eX1_digest_0, eX1_digest_0N, eX1_digest_1, eX1_digest_4, eX1_digest_7, eX1_digest_8, eX1_digest_9, eX1_digest_11, eX1_digest_13, eX1_digest_16, eX1_digest_16N, eX1_digest_17, eX1_digest_18, eX1_digest_18N, eX1_digest_19, eX1_digest_22, eX1_digest_23, eX1_digest_24, eX1_digest_27, eX1_digest_28, eX1_digest_31, eX1_digest_34, eX1_digest_35, eX1_digest_37, eX1_digest_39, eX1_digest_42, eX1_digest_42N, eX1_digest_43, eX1_digest_44, eX1_digest_44N, eX1_digest_45, eX1_digest_48, eX1_digest_49, eX1_digest_50R, eX1_digest_50N, eX1_digest_53, eX1_digest_54, eX1_digest_57, eX1_digest_60, eX1_digest_60N, eX1_digest_61, eX1_digest_62, eX1_digest_65, eX1_digest_66, eX1_digest_67, eX1_digest_67N, eX1_digest_68, eX1_digest_71, eX1_digest_74, eX1_digest_75, eX1_digest_78, rx, rn, rc, rl, hx, hn, hc, hl, d1, d2, d3, d4, d5, d6, d7, d8, d9, d10, d11, d12, rd_n, upw_n, ite_le, n45, n54, true_or, or_true, false_or, or_false, false_and, and_false, kx_l, kx_r, go_s, gl_s, gi_s, gb_s2, gb_s3, gq_s, wt_nil, wt_int, wt_long, wt_ref, wt_null, nl_int, nl_long, nl_ref, nl_null, nl_none, rf_n, rf_s, rf_st, tl_s, tl_n, g0, gS, ex1, nb_b, nb_0, nb_1, nf_i, nf_l, nf_ra, nf_ro, nf_na, nf_no, nf_b0, nf_z0, t45_4, t45_5, true_and, and_true, List.set_cons_zero, List.set_cons_succ, List.length_cons, List.length_nil, rd_s, upw_s, ne_eq, not_false_eq_true, Nat.zero_add, Nat.add_zero]
      | split
      | with_reducible intro _
      | omega
set_option maxHeartbeats 4000000 in
theorem sX1_digest  (hC : CC g w0 x nA cA lA kn w) (hQ : ∀ (v : Int64) (w' : Hw), ext g w w' → Q (.inl (some (.long v))) w') : WP (MX1_digest g) Q (0, [some (.ref x), none, none, none], [], w, 0, 0) := by
  obtain ⟨n, rf, md, f, gc, gl, hx, hn, hc, hl, hgc, hgl, hn0, hn1, rx, rn, rc, rl, ⟨d1, d2, d3, d4, d5, d6⟩, ⟨d7, d8, d9, d10, d11, d12⟩⟩ := hC.1.opn g
  repeat' first
    | with_reducible assumption
    | with_reducible refine And.intro ?_ ?_
    | with_reducible exact vpi6 (by assumption) (by assumption)
    | with_reducible exact vpi8 (by assumption) (by assumption)
    | with_reducible exact lX1_digest_36 hC hQ _ _ _ _ _ _ ⟨hx, hn, hc, hl, hgc, hgl, hn0, hn1, rx, rn, rc, rl, ⟨d1, d2, d3, d4, d5, d6⟩, ⟨d7, d8, d9, d10, d11, d12⟩⟩ 70 _ _ _ _ (by first | decide | assumption) (by first | decide | exact n12 (by assumption) | exact n60 (by assumption)) (by first | decide | omega) (by first | decide | omega)
    | with_reducible exact lX1_digest_10 hC hQ _ _ _ _ _ _ ⟨hx, hn, hc, hl, hgc, hgl, hn0, hn1, rx, rn, rc, rl, ⟨d1, d2, d3, d4, d5, d6⟩, ⟨d7, d8, d9, d10, d11, d12⟩⟩ 70 _ _ _ _ (by first | decide | assumption) (by first | decide | exact n12 (by assumption) | exact n60 (by assumption)) (by first | decide | omega) (by first | decide | omega)
    | with_reducible exact hQ _ _ (by repeat' first | assumption | exact ext.rf | refine ext.tr (by assumption) ?_)
    | with_reducible refine sX1_withHouse (by first | assumption | exact CC.ext hC (by repeat' first | assumption | exact ext.rf | refine ext.tr (by assumption) ?_)) ?_
    | with_reducible refine sX1_withNumber (by first | assumption | exact CC.ext hC (by repeat' first | assumption | exact ext.rf | refine ext.tr (by assumption) ?_)) ?_
    | with_reducible refine sX1_withCardR (by first | assumption | exact CC.ext hC (by repeat' first | assumption | exact ext.rf | refine ext.tr (by assumption) ?_)) (by first | assumption | exact hgc _ _ (by assumption) | exact hgl _ _ (by assumption) | exact isR.ext (by assumption) (by repeat' first | assumption | exact ext.rf | refine ext.tr (by assumption) ?_) | exact isR.ext (hgc _ _ (by assumption)) (by repeat' first | assumption | exact ext.rf | refine ext.tr (by assumption) ?_)) ?_
    | with_reducible refine sX1_withCardN (by first | assumption | exact CC.ext hC (by repeat' first | assumption | exact ext.rf | refine ext.tr (by assumption) ?_)) ?_
    | with_reducible refine sX1_withWhichAndPile (by first | assumption | exact CC.ext hC (by repeat' first | assumption | exact ext.rf | refine ext.tr (by assumption) ?_)) ?_
    | with_reducible refine sX1_isSound (by first | assumption | exact CC.ext hC (by repeat' first | assumption | exact ext.rf | refine ext.tr (by assumption) ?_)) ?_
    | with_reducible refine sX1_asNumber ?_
    | with_reducible refine sX1_with ?_
    | with_reducible refine go_R (by first | assumption | exact hgc _ _ (by assumption) | exact hgl _ _ (by assumption) | exact isR.ext (by assumption) (by repeat' first | assumption | exact ext.rf | refine ext.tr (by assumption) ?_) | exact isR.ext (hgc _ _ (by assumption)) (by repeat' first | assumption | exact ext.rf | refine ext.tr (by assumption) ?_)) ?_
    | with_reducible exact hQ _ _ (by first | assumption | exact ext.rf | exact ext.tr (by assumption) (by assumption))
    | simp only [eX1_digest_0, eX1_digest_0N, eX1_digest_1, eX1_digest_4, eX1_digest_7, eX1_digest_8, eX1_digest_9, eX1_digest_11, eX1_digest_13, eX1_digest_16, eX1_digest_16N, eX1_digest_17, eX1_digest_18, eX1_digest_18N, eX1_digest_19, eX1_digest_22, eX1_digest_23, eX1_digest_24, eX1_digest_27, eX1_digest_28, eX1_digest_31, eX1_digest_34, eX1_digest_35, eX1_digest_37, eX1_digest_39, eX1_digest_42, eX1_digest_42N, eX1_digest_43, eX1_digest_44, eX1_digest_44N, eX1_digest_45, eX1_digest_48, eX1_digest_49, eX1_digest_50R, eX1_digest_50N, eX1_digest_53, eX1_digest_54, eX1_digest_57, eX1_digest_60, eX1_digest_60N, eX1_digest_61, eX1_digest_62, eX1_digest_65, eX1_digest_66, eX1_digest_67, eX1_digest_67N, eX1_digest_68, eX1_digest_71, eX1_digest_74, eX1_digest_75, eX1_digest_78, rx, rn, rc, rl, hx, hn, hc, hl, d1, d2, d3, d4, d5, d6, d7, d8, d9, d10, d11, d12, rd_n, upw_n, ite_le, n45, n54, true_or, or_true, false_or, or_false, false_and, and_false, kx_l, kx_r, go_s, gl_s, gi_s, gb_s2, gb_s3, gq_s, wt_nil, wt_int, wt_long, wt_ref, wt_null, nl_int, nl_long, nl_ref, nl_null, nl_none, rf_n, rf_s, rf_st, tl_s, tl_n, g0, gS, ex1, nb_b, nb_0, nb_1, nf_i, nf_l, nf_ra, nf_ro, nf_na, nf_no, nf_b0, nf_z0, t45_4, t45_5, true_and, and_true, List.set_cons_zero, List.set_cons_succ, List.length_cons, List.length_nil, rd_s, upw_s, ne_eq, not_false_eq_true, Nat.zero_add, Nat.add_zero]
    | split
    | with_reducible intro _
    | omega
end
end
/-! 67.25.pile0.lean.txt -/
section
section
variable {g : RO} {Q : Ot → Hw → Prop} {w0 w : Hw} {x nA cA lA : Nat} {kn : Int32}
theorem cg_sub {i : Int32} (h : 0 < i) : (i - 1).toInt = i.toInt - 1 := by
  have h1 := i32_lt h
  have h2 := i32_bd i
  have e : (0 : Int32).toInt = 0 := rfl
  have e1 : (1 : Int32).toInt = 1 := rfl
  rw [i32_sub (by omega) (by omega), e1]
theorem cg2 {n : Int32} (h : 0 < n) (h3 : ¬ 12 < n) : vp_in (n - 1) 12 := by
  have h1 := i32_lt h
  have e : (0 : Int32).toInt = 0 := rfl
  have k := cg_sub h
  exact vpi12 (n := n) (i32_of_nlt (by rw [k, e]; omega)) (i32_of_lt (by omega)) h3
theorem cg3 {n : Int32} (h : 0 < n) : ¬ n - 1 < 0 := by
  have h1 := i32_lt h
  have e : (0 : Int32).toInt = 0 := rfl
  exact i32_of_nlt (by rw [cg_sub h, e]; omega)
theorem cg4 {n : Int32} (h : 0 < n) (h3 : ¬ 12 < n) : ¬ 12 < n - 1 := by
  have h1 := i32_nlt h3
  exact i32_of_nlt (by rw [cg_sub h]; omega)
end
end
/-! 67.25.pile1.lean.txt -/
section
section
variable {g : RO} {Q : Ot → Hw → Prop} {w0 w : Hw} {x nA cA lA : Nat} {kn : Int32}
theorem tn_2 : (¬ (2 : Int32) = 0) = True := eq_true (by decide)
end
end
/-! 67.25.pile2.lean.txt -/
section
section
variable {g : RO} {Q : Ot → Hw → Prop} {w0 w : Hw} {x nA cA lA : Nat} {kn : Int32}
theorem i8 : (8 : Int32).toNatClampNeg = 8 := rfl
theorem i6 : (6 : Int32).toNatClampNeg = 6 := rfl
theorem i12 : (12 : Int32).toNatClampNeg = 12 := rfl
theorem n8 : ((8 : Int32) < 0) = False := eq_false (by decide)
theorem n6 : ((6 : Int32) < 0) = False := eq_false (by decide)
theorem n12' : ((12 : Int32) < 0) = False := eq_false (by decide)
end
end
/-! 68.text8z.lean.txt -/
section
section
variable {g : RO} {Q : Ot → Hw → Prop} {w0 w : Hw}
theorem t10l : (¬ (10 : Int64) = 0) = True := eq_true (by decide)
theorem h45 : ((255 : Int32) < 45) = False := eq_false (by decide)
theorem h32 : ((255 : Int32) < 32) = False := eq_false (by decide)
set_option maxHeartbeats 4000000 in
theorem lX1_appendBackwards_47 {b d N k n p0 : Nat} {x y : Int64} {c i : Int32} {c0 : Int} (hS : SG g) (hD : DG g w0) (hT : TS g w0 b d N c w) (hN : CP N) (hp0 : pC N ≤ p0) (h0 : c0 ≤ c.toInt) (h1 : c.toInt < 142) (h2 : c.toInt < c0 + 20) (hk : k + pC N ≤ 3) (hn : n + pS N ≤ 246) (hQ : ∀ (d' N' : Nat) (c' : Int32) (w' : Hw), CP N' → pC N' ≤ p0 → c0 ≤ c'.toInt → c'.toInt ≤ c0 + 20 → TS g w0 b d' N' c' w' → Q (.inl none) w') : WP (MX1_appendBackwards g) Q (47, [some (.ref b), some (.long x), none, some (.long y), none, some (.int i)], [], w, k, n) := by
  obtain ⟨ml, f, hb, hd, hf, hc0, hc1, rb, rdd, n1, n2⟩ := hT.opn g
  obtain ⟨k1, k2, k3, k4⟩ := kI (i := 45) hN hb hd hc0 hc1 (by omega)
  have ek : k + kfI [.ref b, .int 45] w ≤ 3 := by omega
  have es : n + sfI [.ref b, .int 45] w ≤ 246 := by omega
  have e1 := i32_p1 hc0 (by omega)
  simp only [eX1_appendBackwards_47, eX1_appendBackwards_48, eX1_appendBackwards_49, eX1_appendBackwards_50, eX1_appendBackwards_53, eX1_appendBackwards_53N, eX1_appendBackwards_54, eX1_appendBackwards_56, ite_le, n45, n54, true_or, or_true, false_or, or_false, false_and, and_false, kx_l, kx_r, go_s, gl_s, gi_s, gb_s2, gb_s3, gq_s, wt_nil, wt_int, wt_long, wt_ref, wt_null, nl_int, nl_long, nl_ref, nl_null, nl_none, rf_n, rf_s, rf_st, tl_s, tl_n, g0, gS, ex1, nb_b, nb_0, nb_1, nf_i, nf_l, nf_ra, nf_ro, nf_na, nf_no, nf_b0, nf_z0, t45_4, t45_5, true_and, and_true, List.set_cons_zero, List.set_cons_succ, List.length_cons, List.length_nil, rd_s, upw_s, ne_eq, not_false_eq_true, Nat.zero_add, Nat.add_zero, if_true, if_false, eq_self, rb, ek, es]
  split
  · repeat' first | with_reducible refine And.intro ?_ ?_ | omega
    refine sapC hS hT hN (by omega) h45 (fun d' N' w' q1 q2 q3 q4 => ?_)
    simp only [eX1_appendBackwards_59, eX1_appendBackwards_59R, eX1_appendBackwards_59N, eX1_appendBackwards_60, ite_le, n45, n54, true_or, or_true, false_or, or_false, false_and, and_false, kx_l, kx_r, go_s, gl_s, gi_s, gb_s2, gb_s3, gq_s, wt_nil, wt_int, wt_long, wt_ref, wt_null, nl_int, nl_long, nl_ref, nl_null, nl_none, rf_n, rf_s, rf_st, tl_s, tl_n, g0, gS, ex1, nb_b, nb_0, nb_1, nf_i, nf_l, nf_ra, nf_ro, nf_na, nf_no, nf_b0, nf_z0, t45_4, t45_5, true_and, and_true, List.set_cons_zero, List.set_cons_succ, List.length_cons, List.length_nil, rd_s, upw_s, ne_eq, not_false_eq_true, Nat.zero_add, Nat.add_zero, if_true, if_false, eq_self]
    repeat' first | with_reducible refine And.intro ?_ ?_ | omega
    exact hQ _ _ _ _ q1 (by omega) (by omega) (by omega) q4
  · simp only [eX1_appendBackwards_60, ite_le, n45, n54, true_or, or_true, false_or, or_false, false_and, and_false, kx_l, kx_r, go_s, gl_s, gi_s, gb_s2, gb_s3, gq_s, wt_nil, wt_int, wt_long, wt_ref, wt_null, nl_int, nl_long, nl_ref, nl_null, nl_none, rf_n, rf_s, rf_st, tl_s, tl_n, g0, gS, ex1, nb_b, nb_0, nb_1, nf_i, nf_l, nf_ra, nf_ro, nf_na, nf_no, nf_b0, nf_z0, t45_4, t45_5, true_and, and_true, List.set_cons_zero, List.set_cons_succ, List.length_cons, List.length_nil, rd_s, upw_s, ne_eq, not_false_eq_true, Nat.zero_add, Nat.add_zero, if_true, if_false, eq_self]
    repeat' first | with_reducible refine And.intro ?_ ?_ | omega
    exact hQ _ _ _ _ hN hp0 (by omega) (by omega) hT
set_option maxHeartbeats 4000000 in
theorem lX1_appendBackwards_5 {b p0 : Nat} {x : Int64} {c0 : Int} (hS : SG g) (hD : DG g w0) (hc0 : c0 ≤ 100) (hQ : ∀ (d' N' : Nat) (c' : Int32) (w' : Hw), CP N' → pC N' ≤ p0 → c0 ≤ c'.toInt → c'.toInt ≤ c0 + 20 → TS g w0 b d' N' c' w' → Q (.inl none) w') : ∀ (e : Nat) (d N k n : Nat) (y : Int64) (c i : Int32) (w : Hw), i.toInt + e = 19 → 0 ≤ i.toInt → CP N → pC N ≤ p0 → c0 ≤ c.toInt → c.toInt ≤ c0 + i.toInt → k + pC N ≤ 3 → n + pS N ≤ 246 → TS g w0 b d N c w →
    WP (MX1_appendBackwards g) Q (5, [some (.ref b), some (.long x), none, some (.long y), none, some (.int i)], [], w, k, n) := by
  intro e
  induction e with
  | zero =>
    intro d N k n y c i w h1 h2 hN hp0 h3 h4 hk hn hT
    have e19 : (19 : Int32).toInt = 19 := rfl
    have le : ((19 : Int32) ≤ i) = True := eq_true (Int32.le_iff_toInt_le.mpr (by omega))
    rw [eX1_appendBackwards_5]
    simp only [eX1_appendBackwards_7, eX1_appendBackwards_9, ite_le, n45, n54, true_or, or_true, false_or, or_false, false_and, and_false, kx_l, kx_r, go_s, gl_s, gi_s, gb_s2, gb_s3, gq_s, wt_nil, wt_int, wt_long, wt_ref, wt_null, nl_int, nl_long, nl_ref, nl_null, nl_none, rf_n, rf_s, rf_st, tl_s, tl_n, g0, gS, ex1, nb_b, nb_0, nb_1, nf_i, nf_l, nf_ra, nf_ro, nf_na, nf_no, nf_b0, nf_z0, t45_4, t45_5, true_and, and_true, List.set_cons_zero, List.set_cons_succ, List.length_cons, List.length_nil, rd_s, upw_s, ne_eq, not_false_eq_true, Nat.zero_add, Nat.add_zero, if_true, if_false, eq_self, le]
    exact lX1_appendBackwards_47 hS hD hT hN hp0 h3 (by omega) (by omega) hk hn hQ
  | succ e ih =>
    intro d N k n y c i w h1 h2 hN hp0 h3 h4 hk hn hT
    obtain ⟨ml, f, hb, hd, hf, hc0', hc1, rb, rdd, n1, n2⟩ := hT.opn g
    have le : ((19 : Int32) ≤ i) = False := eq_false (fun h => by
      have := Int32.le_iff_toInt_le.mp h
      have e19 : (19 : Int32).toInt = 19 := rfl
      omega)
    have e1 := i32_p1 hc0' (by omega)
    have ei := i32_p1 h2 (by omega)
    obtain ⟨a, ha⟩ : ∃ a, (y - y / 10 * 10).toInt32 = a := ⟨_, rfl⟩
    obtain ⟨v, hv⟩ : ∃ v, (if 0 ≤ a then a else 0 - a) = v := ⟨_, rfl⟩
    obtain ⟨v0, v1⟩ := dig10 ha
    rw [hv] at v0 v1
    obtain ⟨k1, k2, k3, k4⟩ := kI (i := v) hN hb hd hc0' hc1 (by omega)
    have ek : k + kfI [.ref b, .int v] w ≤ 3 := by omega
    have es : n + sfI [.ref b, .int v] w ≤ 246 := by omega
    have ek2 : k ≤ 3 := by omega
    have es2 : n ≤ 246 := by omega
    rw [eX1_appendBackwards_5]
    simp only [eX1_appendBackwards_7, eX1_appendBackwards_9, eX1_appendBackwards_12, eX1_appendBackwards_12N, eX1_appendBackwards_13, eX1_appendBackwards_14, eX1_appendBackwards_17, eX1_appendBackwards_18, eX1_appendBackwards_19, eX1_appendBackwards_22, ite_le, n45, n54, true_or, or_true, false_or, or_false, false_and, and_false, kx_l, kx_r, go_s, gl_s, gi_s, gb_s2, gb_s3, gq_s, wt_nil, wt_int, wt_long, wt_ref, wt_null, nl_int, nl_long, nl_ref, nl_null, nl_none, rf_n, rf_s, rf_st, tl_s, tl_n, g0, gS, ex1, nb_b, nb_0, nb_1, nf_i, nf_l, nf_ra, nf_ro, nf_na, nf_no, nf_b0, nf_z0, t45_4, t45_5, true_and, and_true, List.set_cons_zero, List.set_cons_succ, List.length_cons, List.length_nil, rd_s, upw_s, ne_eq, not_false_eq_true, Nat.zero_add, Nat.add_zero, if_true, if_false, eq_self, le, t10l, ha, hv, rb, ek, es, ek2, es2]
    repeat' first | with_reducible refine And.intro ?_ ?_ | omega
    refine sapI hS hT hN (by omega) hD v0 v1 (fun d' N' w' q1 q2 q3 q4 => ?_)
    simp only [eX1_appendBackwards_25, eX1_appendBackwards_25R, eX1_appendBackwards_25N, eX1_appendBackwards_26, eX1_appendBackwards_27, eX1_appendBackwards_30, eX1_appendBackwards_31, eX1_appendBackwards_32, eX1_appendBackwards_33, eX1_appendBackwards_34, eX1_appendBackwards_35, eX1_appendBackwards_38, eX1_appendBackwards_41, eX1_appendBackwards_44, ite_le, n45, n54, true_or, or_true, false_or, or_false, false_and, and_false, kx_l, kx_r, go_s, gl_s, gi_s, gb_s2, gb_s3, gq_s, wt_nil, wt_int, wt_long, wt_ref, wt_null, nl_int, nl_long, nl_ref, nl_null, nl_none, rf_n, rf_s, rf_st, tl_s, tl_n, g0, gS, ex1, nb_b, nb_0, nb_1, nf_i, nf_l, nf_ra, nf_ro, nf_na, nf_no, nf_b0, nf_z0, t45_4, t45_5, true_and, and_true, List.set_cons_zero, List.set_cons_succ, List.length_cons, List.length_nil, rd_s, upw_s, ne_eq, not_false_eq_true, Nat.zero_add, Nat.add_zero, if_true, if_false, eq_self, t10l]
    split
    · exact lX1_appendBackwards_47 hS hD q4 q1 (by omega) (by omega) (by omega) (by omega) (by omega) (by omega) hQ
    · exact ih _ _ _ _ _ _ _ _ (by omega) (by omega) q1 (by omega) (by omega) (by omega) (by omega) (by omega) q4
set_option maxHeartbeats 4000000 in
theorem sX1_appendBackwards {b d N p0 : Nat} {x : Int64} {c : Int32} {c0 : Int} (hS : SG g) (hD : DG g w0) (hT : TS g w0 b d N c w) (hN : CP N) (hp0 : pC N ≤ p0) (h0 : c0 = c.toInt) (h1 : c0 ≤ 100) (hQ : ∀ (d' N' : Nat) (c' : Int32) (w' : Hw), CP N' → pC N' ≤ p0 → c0 ≤ c'.toInt → c'.toInt ≤ c0 + 20 → TS g w0 b d' N' c' w' → Q (.inl none) w') : WP (MX1_appendBackwards g) Q (0, [some (.ref b), some (.long x), none, none, none, none], [], w, 0, 0) := by
  obtain ⟨ml, f, hb, hd, hf, hc0, hc1, rb, rdd, n1, n2⟩ := hT.opn g
  have z0 : (0 : Int32).toInt = 0 := rfl
  have pk : pC N ≤ 3 := by rcases hN with rfl | rfl | rfl | rfl <;> decide
  have ps : pS N ≤ 246 := by rcases hN with rfl | rfl | rfl | rfl <;> decide
  simp only [eX1_appendBackwards_0, eX1_appendBackwards_1, eX1_appendBackwards_2, eX1_appendBackwards_3, ite_le, n45, n54, true_or, or_true, false_or, or_false, false_and, and_false, kx_l, kx_r, go_s, gl_s, gi_s, gb_s2, gb_s3, gq_s, wt_nil, wt_int, wt_long, wt_ref, wt_null, nl_int, nl_long, nl_ref, nl_null, nl_none, rf_n, rf_s, rf_st, tl_s, tl_n, g0, gS, ex1, nb_b, nb_0, nb_1, nf_i, nf_l, nf_ra, nf_ro, nf_na, nf_no, nf_b0, nf_z0, t45_4, t45_5, true_and, and_true, List.set_cons_zero, List.set_cons_succ, List.length_cons, List.length_nil, rd_s, upw_s, ne_eq, not_false_eq_true, Nat.zero_add, Nat.add_zero, if_true, if_false, eq_self]
  exact lX1_appendBackwards_5 hS hD h1 hQ 19 _ _ _ _ _ _ _ _ (by decide) (by decide) hN hp0 (by omega) (by omega) (by omega) (by omega) hT
end
end
/-! 68.text9.lean.txt -/
section
section
variable {g : RO} {Q : Ot → Hw → Prop} {w0 w : Hw}
variable {x nA cA lA : Nat} {kn : Int32}
set_option maxHeartbeats 4000000 in
theorem sX1_numberText {a0 : Int32} (hC : CC g w0 x nA cA lA kn w) (hS : SG g) (hD : DG g w) (hXo : Q (.inr "java/lang/IndexOutOfBoundsException") w) (hQ : ∀ q w', ext g w w' → Q (.inl (some (.ref q))) w') : WP (MX1_numberText g) Q (0, [some (.ref x), some (.int a0), none], [], w, 0, 0) := by
  obtain ⟨n, rf, md, f, gc, gl, hx, hn, hc, hl, hgc, hgl, hn0, hn1, rx, rn, rc, rl, ⟨d1, d2, d3, d4, d5, d6⟩, ⟨d7, d8, d9, d10, d11, d12⟩⟩ := hC.1.opn g
  simp only [eX1_numberText_0, eX1_numberText_1, ite_le, n45, n54, true_or, or_true, false_or, or_false, false_and, and_false, kx_l, kx_r, go_s, gl_s, gi_s, gb_s2, gb_s3, gq_s, wt_nil, wt_int, wt_long, wt_ref, wt_null, nl_int, nl_long, nl_ref, nl_null, nl_none, rf_n, rf_s, rf_st, tl_s, tl_n, g0, gS, ex1, nb_b, nb_0, nb_1, nf_i, nf_l, nf_ra, nf_ro, nf_na, nf_no, nf_b0, nf_z0, t45_4, t45_5, true_and, and_true, List.set_cons_zero, List.set_cons_succ, List.length_cons, List.length_nil, rd_s, upw_s, ne_eq, not_false_eq_true, Nat.zero_add, Nat.add_zero, if_true, if_false, eq_self]
  repeat' first | with_reducible refine And.intro ?_ ?_ | omega
  refine sX1_needNumber hXo (fun k0 k1 => ?_)
  have av : vp_in a0 8 := vpi8 k0 k1
  simp only [eX1_numberText_4, ite_le, n45, n54, true_or, or_true, false_or, or_false, false_and, and_false, kx_l, kx_r, go_s, gl_s, gi_s, gb_s2, gb_s3, gq_s, wt_nil, wt_int, wt_long, wt_ref, wt_null, nl_int, nl_long, nl_ref, nl_null, nl_none, rf_n, rf_s, rf_st, tl_s, tl_n, g0, gS, ex1, nb_b, nb_0, nb_1, nf_i, nf_l, nf_ra, nf_ro, nf_na, nf_no, nf_b0, nf_z0, t45_4, t45_5, true_and, and_true, List.set_cons_zero, List.set_cons_succ, List.length_cons, List.length_nil, rd_s, upw_s, ne_eq, not_false_eq_true, Nat.zero_add, Nat.add_zero, if_true, if_false, eq_self]
  repeat' first | with_reducible refine And.intro ?_ ?_ | omega
  intro b hq
  have hqn := rd_none hq
  simp only [eX1_numberText_7, eX1_numberText_7R, eX1_numberText_8, ite_le, n45, n54, true_or, or_true, false_or, or_false, false_and, and_false, kx_l, kx_r, go_s, gl_s, gi_s, gb_s2, gb_s3, gq_s, wt_nil, wt_int, wt_long, wt_ref, wt_null, nl_int, nl_long, nl_ref, nl_null, nl_none, rf_n, rf_s, rf_st, tl_s, tl_n, g0, gS, ex1, nb_b, nb_0, nb_1, nf_i, nf_l, nf_ra, nf_ro, nf_na, nf_no, nf_b0, nf_z0, t45_4, t45_5, true_and, and_true, List.set_cons_zero, List.set_cons_succ, List.length_cons, List.length_nil, rd_s, upw_s, ne_eq, not_false_eq_true, Nat.zero_add, Nat.add_zero, if_true, if_false, eq_self]
  repeat' first | with_reducible refine And.intro ?_ ?_ | omega
  refine sJ4_init_da8c8 (w0 := w) hS (ext_up2 ext.rf hq) (upw_s _ _ _) hqn (rd_ro hq) (fun d w1 hT => ?_)
  have rx1 := rd_e (g := g) (hT.1.1 _ _ hx)
  have rn1 := rd_e (g := g) (hT.1.1 _ _ hn)
  simp only [eX1_numberText_11, eX1_numberText_11N, eX1_numberText_12, eX1_numberText_12N, eX1_numberText_13, eX1_numberText_13N, eX1_numberText_14, eX1_numberText_17, eX1_numberText_18, eX1_numberText_19R, eX1_numberText_19N, ite_le, n45, n54, true_or, or_true, false_or, or_false, false_and, and_false, kx_l, kx_r, go_s, gl_s, gi_s, gb_s2, gb_s3, gq_s, wt_nil, wt_int, wt_long, wt_ref, wt_null, nl_int, nl_long, nl_ref, nl_null, nl_none, rf_n, rf_s, rf_st, tl_s, tl_n, g0, gS, ex1, nb_b, nb_0, nb_1, nf_i, nf_l, nf_ra, nf_ro, nf_na, nf_no, nf_b0, nf_z0, t45_4, t45_5, true_and, and_true, List.set_cons_zero, List.set_cons_succ, List.length_cons, List.length_nil, rd_s, upw_s, ne_eq, not_false_eq_true, Nat.zero_add, Nat.add_zero, if_true, if_false, eq_self, rx1, rn1, av]
  repeat' first | with_reducible refine And.intro ?_ ?_ | omega
  refine sX1_appendBackwards hS hD hT (Or.inl rfl) (Nat.le_refl _) rfl (by decide) (fun d' N' c' w2 q1 _ q2 q3 hT2 => ?_)
  have z0 : (0 : Int32).toInt = 0 := rfl
  obtain ⟨_, _, hb2, _, _, _, _, rb2, _⟩ := hT2.opn g
  simp only [eX1_numberText_22, eX1_numberText_22N, eX1_numberText_23, ite_le, n45, n54, true_or, or_true, false_or, or_false, false_and, and_false, kx_l, kx_r, go_s, gl_s, gi_s, gb_s2, gb_s3, gq_s, wt_nil, wt_int, wt_long, wt_ref, wt_null, nl_int, nl_long, nl_ref, nl_null, nl_none, rf_n, rf_s, rf_st, tl_s, tl_n, g0, gS, ex1, nb_b, nb_0, nb_1, nf_i, nf_l, nf_ra, nf_ro, nf_na, nf_no, nf_b0, nf_z0, t45_4, t45_5, true_and, and_true, List.set_cons_zero, List.set_cons_succ, List.length_cons, List.length_nil, rd_s, upw_s, ne_eq, not_false_eq_true, Nat.zero_add, Nat.add_zero, if_true, if_false, eq_self, rb2]
  repeat' first | with_reducible refine And.intro ?_ ?_ | omega
  refine sJ4_reverse_43fcb hS hT2 (Nat.le_trans q1.le (by decide)) (fun w3 hT3 => ?_)
  obtain ⟨_, _, hb3, _, _, _, _, rb3, _⟩ := hT3.opn g
  simp only [eX1_numberText_26, ite_le, n45, n54, true_or, or_true, false_or, or_false, false_and, and_false, kx_l, kx_r, go_s, gl_s, gi_s, gb_s2, gb_s3, gq_s, wt_nil, wt_int, wt_long, wt_ref, wt_null, nl_int, nl_long, nl_ref, nl_null, nl_none, rf_n, rf_s, rf_st, tl_s, tl_n, g0, gS, ex1, nb_b, nb_0, nb_1, nf_i, nf_l, nf_ra, nf_ro, nf_na, nf_no, nf_b0, nf_z0, t45_4, t45_5, true_and, and_true, List.set_cons_zero, List.set_cons_succ, List.length_cons, List.length_nil, rd_s, upw_s, ne_eq, not_false_eq_true, Nat.zero_add, Nat.add_zero, if_true, if_false, eq_self, rb3]
  repeat' first | with_reducible refine And.intro ?_ ?_ | omega
  refine sJ4_toString_0e30d hS hT3 (Nat.le_trans q1.le (by decide)) (by omega) (fun q w4 z => ?_)
  simp only [eX1_numberText_29, eX1_numberText_29N, ite_le, n45, n54, true_or, or_true, false_or, or_false, false_and, and_false, kx_l, kx_r, go_s, gl_s, gi_s, gb_s2, gb_s3, gq_s, wt_nil, wt_int, wt_long, wt_ref, wt_null, nl_int, nl_long, nl_ref, nl_null, nl_none, rf_n, rf_s, rf_st, tl_s, tl_n, g0, gS, ex1, nb_b, nb_0, nb_1, nf_i, nf_l, nf_ra, nf_ro, nf_na, nf_no, nf_b0, nf_z0, t45_4, t45_5, true_and, and_true, List.set_cons_zero, List.set_cons_succ, List.length_cons, List.length_nil, rd_s, upw_s, ne_eq, not_false_eq_true, Nat.zero_add, Nat.add_zero, if_true, if_false, eq_self]
  repeat' first | with_reducible refine And.intro ?_ ?_ | omega
  exact hQ _ _ z
set_option maxHeartbeats 4000000 in
theorem lX1_cardText_29 {r b : Nat} {a0 : Int32} (hS : SG g) (hD : DG g w) (hR : isR w r) (hQ : ∀ q w', ext g w w' → Q (.inl (some (.ref q))) w') : ∀ (e : Nat) (d N k n : Nat) (c i : Int32) (w1 : Hw), i.toInt + 1 ≤ e → -1 ≤ i.toInt → i.toInt ≤ 3 → CP N → k + 3 * (i.toInt + 1) + ((pC N - 1 : Nat) : Int) ≤ 17 → n + 388 * (i.toInt + 1) ≤ 1578 → n ≤ 1436 → c.toInt ≤ 21 * (3 - i.toInt) → c.toInt ≤ 83 → TS g w b d N c w1 →
    WP (MX1_cardText g) Q (29, [some (.ref x), some (.int a0), some (.ref r), some (.ref b), some (.int i)], [], w1, k, n) := by
  have fin : ∀ (d N k n : Nat) (c i : Int32) (w1 : Hw), CP N → k ≤ 17 → n ≤ 1436 → c.toInt ≤ 83 → TS g w b d N c w1 → WP (MX1_cardText g) Q (62, [some (.ref x), some (.int a0), some (.ref r), some (.ref b), some (.int i)], [], w1, k, n) := by
    intro d N k n c i w1 q1 hk hn hc hT
    obtain ⟨_, _, hb2, _, _, _, _, rb2, _⟩ := hT.opn g
    simp only [eX1_cardText_62, eX1_cardText_62N, eX1_cardText_63, ite_le, n45, n54, true_or, or_true, false_or, or_false, false_and, and_false, kx_l, kx_r, go_s, gl_s, gi_s, gb_s2, gb_s3, gq_s, wt_nil, wt_int, wt_long, wt_ref, wt_null, nl_int, nl_long, nl_ref, nl_null, nl_none, rf_n, rf_s, rf_st, tl_s, tl_n, g0, gS, ex1, nb_b, nb_0, nb_1, nf_i, nf_l, nf_ra, nf_ro, nf_na, nf_no, nf_b0, nf_z0, t45_4, t45_5, true_and, and_true, List.set_cons_zero, List.set_cons_succ, List.length_cons, List.length_nil, rd_s, upw_s, ne_eq, not_false_eq_true, Nat.zero_add, Nat.add_zero, if_true, if_false, eq_self, rb2]
    repeat' first | with_reducible refine And.intro ?_ ?_ | omega
    refine sJ4_reverse_43fcb hS hT (Nat.le_trans q1.le (by decide)) (fun w3 hT3 => ?_)
    obtain ⟨_, _, hb3, _, _, _, _, rb3, _⟩ := hT3.opn g
    simp only [eX1_cardText_66, ite_le, n45, n54, true_or, or_true, false_or, or_false, false_and, and_false, kx_l, kx_r, go_s, gl_s, gi_s, gb_s2, gb_s3, gq_s, wt_nil, wt_int, wt_long, wt_ref, wt_null, nl_int, nl_long, nl_ref, nl_null, nl_none, rf_n, rf_s, rf_st, tl_s, tl_n, g0, gS, ex1, nb_b, nb_0, nb_1, nf_i, nf_l, nf_ra, nf_ro, nf_na, nf_no, nf_b0, nf_z0, t45_4, t45_5, true_and, and_true, List.set_cons_zero, List.set_cons_succ, List.length_cons, List.length_nil, rd_s, upw_s, ne_eq, not_false_eq_true, Nat.zero_add, Nat.add_zero, if_true, if_false, eq_self, rb3]
    repeat' first | with_reducible refine And.intro ?_ ?_ | omega
    refine sJ4_toString_0e30d hS hT3 (Nat.le_trans q1.le (by decide)) (by omega) (fun q w4 z => ?_)
    simp only [eX1_cardText_69, eX1_cardText_69N, ite_le, n45, n54, true_or, or_true, false_or, or_false, false_and, and_false, kx_l, kx_r, go_s, gl_s, gi_s, gb_s2, gb_s3, gq_s, wt_nil, wt_int, wt_long, wt_ref, wt_null, nl_int, nl_long, nl_ref, nl_null, nl_none, rf_n, rf_s, rf_st, tl_s, tl_n, g0, gS, ex1, nb_b, nb_0, nb_1, nf_i, nf_l, nf_ra, nf_ro, nf_na, nf_no, nf_b0, nf_z0, t45_4, t45_5, true_and, and_true, List.set_cons_zero, List.set_cons_succ, List.length_cons, List.length_nil, rd_s, upw_s, ne_eq, not_false_eq_true, Nat.zero_add, Nat.add_zero, if_true, if_false, eq_self]
    repeat' first | with_reducible refine And.intro ?_ ?_ | omega
    exact hQ _ _ z
  intro e
  induction e with
  | zero =>
    intro d N k n c i w1 h1 h2 h3 hN hk hn hn2 hc hc2 hT
    have t : (i < 0) = True := i32_t0 (by omega)
    rw [eX1_cardText_29]
    simp only [eX1_cardText_31, ite_le, n45, n54, true_or, or_true, false_or, or_false, false_and, and_false, kx_l, kx_r, go_s, gl_s, gi_s, gb_s2, gb_s3, gq_s, wt_nil, wt_int, wt_long, wt_ref, wt_null, nl_int, nl_long, nl_ref, nl_null, nl_none, rf_n, rf_s, rf_st, tl_s, tl_n, g0, gS, ex1, nb_b, nb_0, nb_1, nf_i, nf_l, nf_ra, nf_ro, nf_na, nf_no, nf_b0, nf_z0, t45_4, t45_5, true_and, and_true, List.set_cons_zero, List.set_cons_succ, List.length_cons, List.length_nil, rd_s, upw_s, ne_eq, not_false_eq_true, Nat.zero_add, Nat.add_zero, if_true, if_false, eq_self, t]
    exact fin _ _ _ _ _ _ _ hN (by omega) hn2 hc2 hT
  | succ e ih =>
    intro d N k n c i w1 h1 h2 h3 hN hk hn hn2 hc hc2 hT
    rw [eX1_cardText_29]
    simp only [eX1_cardText_31, ite_le, n45, n54, true_or, or_true, false_or, or_false, false_and, and_false, kx_l, kx_r, go_s, gl_s, gi_s, gb_s2, gb_s3, gq_s, wt_nil, wt_int, wt_long, wt_ref, wt_null, nl_int, nl_long, nl_ref, nl_null, nl_none, rf_n, rf_s, rf_st, tl_s, tl_n, g0, gS, ex1, nb_b, nb_0, nb_1, nf_i, nf_l, nf_ra, nf_ro, nf_na, nf_no, nf_b0, nf_z0, t45_4, t45_5, true_and, and_true, List.set_cons_zero, List.set_cons_succ, List.length_cons, List.length_nil, rd_s, upw_s, ne_eq, not_false_eq_true, Nat.zero_add, Nat.add_zero, if_true, if_false, eq_self]
    split
    · exact fin _ _ _ _ _ _ _ hN (by omega) hn2 hc2 hT
    · next hi =>
      have hi := i32_0 hi
      have rR := hR.ext hT.1
      obtain ⟨_, _, hb1, hd1, _, hc0, hc1, rb1, _⟩ := hT.opn g
      simp only [eX1_cardText_34, eX1_cardText_34N, eX1_cardText_35, eX1_cardText_35N, eX1_cardText_36, eX1_cardText_38, ite_le, n45, n54, true_or, or_true, false_or, or_false, false_and, and_false, kx_l, kx_r, go_s, gl_s, gi_s, gb_s2, gb_s3, gq_s, wt_nil, wt_int, wt_long, wt_ref, wt_null, nl_int, nl_long, nl_ref, nl_null, nl_none, rf_n, rf_s, rf_st, tl_s, tl_n, g0, gS, ex1, nb_b, nb_0, nb_1, nf_i, nf_l, nf_ra, nf_ro, nf_na, nf_no, nf_b0, nf_z0, t45_4, t45_5, true_and, and_true, List.set_cons_zero, List.set_cons_succ, List.length_cons, List.length_nil, rd_s, upw_s, ne_eq, not_false_eq_true, Nat.zero_add, Nat.add_zero, if_true, if_false, eq_self]
      refine ⟨go_R rR (fun _ _ _ _ => trivial), ?_⟩
      repeat' first | with_reducible refine And.intro ?_ ?_ | omega
      refine sX0_endAt rR (fun v => ?_)
      simp only [eX1_cardText_41R, eX1_cardText_41N, ite_le, n45, n54, true_or, or_true, false_or, or_false, false_and, and_false, kx_l, kx_r, go_s, gl_s, gi_s, gb_s2, gb_s3, gq_s, wt_nil, wt_int, wt_long, wt_ref, wt_null, nl_int, nl_long, nl_ref, nl_null, nl_none, rf_n, rf_s, rf_st, tl_s, tl_n, g0, gS, ex1, nb_b, nb_0, nb_1, nf_i, nf_l, nf_ra, nf_ro, nf_na, nf_no, nf_b0, nf_z0, t45_4, t45_5, true_and, and_true, List.set_cons_zero, List.set_cons_succ, List.length_cons, List.length_nil, rd_s, upw_s, ne_eq, not_false_eq_true, Nat.zero_add, Nat.add_zero, if_true, if_false, eq_self]
      repeat' first | with_reducible refine And.intro ?_ ?_ | omega
      refine sX1_appendBackwards (p0 := pC N) hS hD hT hN (Nat.le_refl _) rfl (by omega) (fun d' N' c' w2 q1 q0 q2 q3 hT2 => ?_)
      obtain ⟨_, _, hb2, hd2, _, hc20, hc21, rb2, _⟩ := hT2.opn g
      obtain ⟨i', hi'⟩ : ∃ i', i + -1 = i' := ⟨_, rfl⟩
      have ei : i'.toInt = i.toInt - 1 := by rw [← hi']; exact i32_m1 (by omega)
      simp only [eX1_cardText_44, eX1_cardText_46, ite_le, n45, n54, true_or, or_true, false_or, or_false, false_and, and_false, kx_l, kx_r, go_s, gl_s, gi_s, gb_s2, gb_s3, gq_s, wt_nil, wt_int, wt_long, wt_ref, wt_null, nl_int, nl_long, nl_ref, nl_null, nl_none, rf_n, rf_s, rf_st, tl_s, tl_n, g0, gS, ex1, nb_b, nb_0, nb_1, nf_i, nf_l, nf_ra, nf_ro, nf_na, nf_no, nf_b0, nf_z0, t45_4, t45_5, true_and, and_true, List.set_cons_zero, List.set_cons_succ, List.length_cons, List.length_nil, rd_s, upw_s, ne_eq, not_false_eq_true, Nat.zero_add, Nat.add_zero, if_true, if_false, eq_self]
      split
      · next hz =>
        have hz : 0 < i.toInt := i32_lt hz
        obtain ⟨k1, k2, k3, k4⟩ := kI (i := 32) q1 hb2 hd2 hc20 hc21 (by omega)
        have kk : kfI [.ref b, .int 32] w2 = 1 → 2 ≤ pC N' := by
          intro z
          rcases q1 with rfl | rfl | rfl | rfl
          · decide
          · decide
          · rw [if_neg (by omega)] at k3
            omega
          · rw [if_neg (by omega)] at k3
            omega
        have k5 : kfI [.ref b, .int 32] w2 ≤ 1 := by
          rw [k3]
          split <;> omega
        have k6 : sfI [.ref b, .int 32] w2 ≤ 142 := by
          rw [k4]
          split
          · rcases q1 with rfl | rfl | rfl | rfl <;> omega
          · omega
        have k7 : k + 3 + kfI [.ref b, .int 32] w2 ≤ 19 := by omega
        have k8 : n + 246 + sfI [.ref b, .int 32] w2 ≤ 1530 := by omega
        simp only [eX1_cardText_49, eX1_cardText_49N, eX1_cardText_50, eX1_cardText_52, ite_le, n45, n54, true_or, or_true, false_or, or_false, false_and, and_false, kx_l, kx_r, go_s, gl_s, gi_s, gb_s2, gb_s3, gq_s, wt_nil, wt_int, wt_long, wt_ref, wt_null, nl_int, nl_long, nl_ref, nl_null, nl_none, rf_n, rf_s, rf_st, tl_s, tl_n, g0, gS, ex1, nb_b, nb_0, nb_1, nf_i, nf_l, nf_ra, nf_ro, nf_na, nf_no, nf_b0, nf_z0, t45_4, t45_5, true_and, and_true, List.set_cons_zero, List.set_cons_succ, List.length_cons, List.length_nil, rd_s, upw_s, ne_eq, not_false_eq_true, Nat.zero_add, Nat.add_zero, if_true, if_false, eq_self, rb2, k7, k8]
        repeat' first | with_reducible refine And.intro ?_ ?_ | omega
        refine sapC hS hT2 q1 (by omega) h32 (fun d3 N3 w3 p1 p2 p3 hT3 => ?_)
        have e1 := i32_p1 hc20 (by omega)
        obtain ⟨c3, hc3⟩ : ∃ c3, c' + 1 = c3 := ⟨_, rfl⟩
        rw [hc3] at e1 hT3
        simp only [eX1_cardText_55, eX1_cardText_55R, eX1_cardText_55N, eX1_cardText_56, eX1_cardText_59, ite_le, n45, n54, true_or, or_true, false_or, or_false, false_and, and_false, kx_l, kx_r, go_s, gl_s, gi_s, gb_s2, gb_s3, gq_s, wt_nil, wt_int, wt_long, wt_ref, wt_null, nl_int, nl_long, nl_ref, nl_null, nl_none, rf_n, rf_s, rf_st, tl_s, tl_n, g0, gS, ex1, nb_b, nb_0, nb_1, nf_i, nf_l, nf_ra, nf_ro, nf_na, nf_no, nf_b0, nf_z0, t45_4, t45_5, true_and, and_true, List.set_cons_zero, List.set_cons_succ, List.length_cons, List.length_nil, rd_s, upw_s, ne_eq, not_false_eq_true, Nat.zero_add, Nat.add_zero, if_true, if_false, eq_self, hi']
        exact ih _ _ _ _ _ _ _ (by omega) (by omega) (by omega) p1 (by omega) (by omega) (by omega) (by omega) (by omega) hT3
      · next hz =>
        have hz := i32_nlt hz
        have z0 : (0 : Int32).toInt = 0 := rfl
        simp only [eX1_cardText_56, eX1_cardText_59, ite_le, n45, n54, true_or, or_true, false_or, or_false, false_and, and_false, kx_l, kx_r, go_s, gl_s, gi_s, gb_s2, gb_s3, gq_s, wt_nil, wt_int, wt_long, wt_ref, wt_null, nl_int, nl_long, nl_ref, nl_null, nl_none, rf_n, rf_s, rf_st, tl_s, tl_n, g0, gS, ex1, nb_b, nb_0, nb_1, nf_i, nf_l, nf_ra, nf_ro, nf_na, nf_no, nf_b0, nf_z0, t45_4, t45_5, true_and, and_true, List.set_cons_zero, List.set_cons_succ, List.length_cons, List.length_nil, rd_s, upw_s, ne_eq, not_false_eq_true, Nat.zero_add, Nat.add_zero, if_true, if_false, eq_self, hi']
        exact ih _ _ _ _ _ _ _ (by omega) (by omega) (by omega) q1 (by omega) (by omega) (by omega) (by omega) (by omega) hT2
set_option maxHeartbeats 4000000 in
theorem sX1_cardText {a0 : Int32} (hC : CC g w0 x nA cA lA kn w) (hS : SG g) (hD : DG g w) (hG : ∃ s, g.1 20 = .ref s) (hXo : Q (.inr "java/lang/IndexOutOfBoundsException") w) (hQ : ∀ q w', ext g w w' → Q (.inl (some (.ref q))) w') : WP (MX1_cardText g) Q (0, [some (.ref x), some (.int a0), none, none, none], [], w, 0, 0) := by
  obtain ⟨n, rf, md, f, gc, gl, hx, hn, hc, hl, hgc, hgl, hn0, hn1, rx, rn, rc, rl, ⟨d1, d2, d3, d4, d5, d6⟩, ⟨d7, d8, d9, d10, d11, d12⟩⟩ := hC.1.opn g
  obtain ⟨s, hs⟩ := hG
  simp only [eX1_cardText_0, eX1_cardText_1, ite_le, n45, n54, true_or, or_true, false_or, or_false, false_and, and_false, kx_l, kx_r, go_s, gl_s, gi_s, gb_s2, gb_s3, gq_s, wt_nil, wt_int, wt_long, wt_ref, wt_null, nl_int, nl_long, nl_ref, nl_null, nl_none, rf_n, rf_s, rf_st, tl_s, tl_n, g0, gS, ex1, nb_b, nb_0, nb_1, nf_i, nf_l, nf_ra, nf_ro, nf_na, nf_no, nf_b0, nf_z0, t45_4, t45_5, true_and, and_true, List.set_cons_zero, List.set_cons_succ, List.length_cons, List.length_nil, rd_s, upw_s, ne_eq, not_false_eq_true, Nat.zero_add, Nat.add_zero, if_true, if_false, eq_self]
  repeat' first | with_reducible refine And.intro ?_ ?_ | omega
  refine sX1_needCard hXo (fun k0 k1 => ?_)
  have av : vp_in a0 6 := vpi6 k0 k1
  simp only [eX1_cardText_4, eX1_cardText_4N, eX1_cardText_5, eX1_cardText_8, eX1_cardText_9, ite_le, n45, n54, true_or, or_true, false_or, or_false, false_and, and_false, kx_l, kx_r, go_s, gl_s, gi_s, gb_s2, gb_s3, gq_s, wt_nil, wt_int, wt_long, wt_ref, wt_null, nl_int, nl_long, nl_ref, nl_null, nl_none, rf_n, rf_s, rf_st, tl_s, tl_n, g0, gS, ex1, nb_b, nb_0, nb_1, nf_i, nf_l, nf_ra, nf_ro, nf_na, nf_no, nf_b0, nf_z0, t45_4, t45_5, true_and, and_true, List.set_cons_zero, List.set_cons_succ, List.length_cons, List.length_nil, rd_s, upw_s, ne_eq, not_false_eq_true, Nat.zero_add, Nat.add_zero, if_true, if_false, eq_self, rx, rc, av]
  repeat' first | with_reducible refine And.intro ?_ ?_ | omega
  · intro hr
    simp only [eX1_cardText_10, eX1_cardText_10N, eX1_cardText_11, eX1_cardText_11N, eX1_cardText_12R, eX1_cardText_12N, eX1_cardText_15, eX1_cardText_17, eX1_cardText_17N, ite_le, n45, n54, true_or, or_true, false_or, or_false, false_and, and_false, kx_l, kx_r, go_s, gl_s, gi_s, gb_s2, gb_s3, gq_s, wt_nil, wt_int, wt_long, wt_ref, wt_null, nl_int, nl_long, nl_ref, nl_null, nl_none, rf_n, rf_s, rf_st, tl_s, tl_n, g0, gS, ex1, nb_b, nb_0, nb_1, nf_i, nf_l, nf_ra, nf_ro, nf_na, nf_no, nf_b0, nf_z0, t45_4, t45_5, true_and, and_true, List.set_cons_zero, List.set_cons_succ, List.length_cons, List.length_nil, rd_s, upw_s, ne_eq, not_false_eq_true, Nat.zero_add, Nat.add_zero, if_true, if_false, eq_self, hs, hr]
    repeat' first | with_reducible refine And.intro ?_ ?_ | omega
    exact hQ _ _ ext.rf
  · intro r hr
    have hR := hgc _ _ hr
    simp only [eX1_cardText_10, eX1_cardText_10N, eX1_cardText_11, eX1_cardText_11N, eX1_cardText_12R, eX1_cardText_12N, eX1_cardText_15, eX1_cardText_17, eX1_cardText_17N, eX1_cardText_18, ite_le, n45, n54, true_or, or_true, false_or, or_false, false_and, and_false, kx_l, kx_r, go_s, gl_s, gi_s, gb_s2, gb_s3, gq_s, wt_nil, wt_int, wt_long, wt_ref, wt_null, nl_int, nl_long, nl_ref, nl_null, nl_none, rf_n, rf_s, rf_st, tl_s, tl_n, g0, gS, ex1, nb_b, nb_0, nb_1, nf_i, nf_l, nf_ra, nf_ro, nf_na, nf_no, nf_b0, nf_z0, t45_4, t45_5, true_and, and_true, List.set_cons_zero, List.set_cons_succ, List.length_cons, List.length_nil, rd_s, upw_s, ne_eq, not_false_eq_true, Nat.zero_add, Nat.add_zero, if_true, if_false, eq_self, hr]
    repeat' first | with_reducible refine And.intro ?_ ?_ | omega
    intro b hq
    have hqn := rd_none hq
    simp only [eX1_cardText_21, eX1_cardText_21R, eX1_cardText_22, ite_le, n45, n54, true_or, or_true, false_or, or_false, false_and, and_false, kx_l, kx_r, go_s, gl_s, gi_s, gb_s2, gb_s3, gq_s, wt_nil, wt_int, wt_long, wt_ref, wt_null, nl_int, nl_long, nl_ref, nl_null, nl_none, rf_n, rf_s, rf_st, tl_s, tl_n, g0, gS, ex1, nb_b, nb_0, nb_1, nf_i, nf_l, nf_ra, nf_ro, nf_na, nf_no, nf_b0, nf_z0, t45_4, t45_5, true_and, and_true, List.set_cons_zero, List.set_cons_succ, List.length_cons, List.length_nil, rd_s, upw_s, ne_eq, not_false_eq_true, Nat.zero_add, Nat.add_zero, if_true, if_false, eq_self]
    repeat' first | with_reducible refine And.intro ?_ ?_ | omega
    refine sJ4_init_da8c8 (w0 := w) hS (ext_up2 ext.rf hq) (upw_s _ _ _) hqn (rd_ro hq) (fun d w1 hT => ?_)
    simp only [eX1_cardText_25, eX1_cardText_25N, eX1_cardText_26, eX1_cardText_27, ite_le, n45, n54, true_or, or_true, false_or, or_false, false_and, and_false, kx_l, kx_r, go_s, gl_s, gi_s, gb_s2, gb_s3, gq_s, wt_nil, wt_int, wt_long, wt_ref, wt_null, nl_int, nl_long, nl_ref, nl_null, nl_none, rf_n, rf_s, rf_st, tl_s, tl_n, g0, gS, ex1, nb_b, nb_0, nb_1, nf_i, nf_l, nf_ra, nf_ro, nf_na, nf_no, nf_b0, nf_z0, t45_4, t45_5, true_and, and_true, List.set_cons_zero, List.set_cons_succ, List.length_cons, List.length_nil, rd_s, upw_s, ne_eq, not_false_eq_true, Nat.zero_add, Nat.add_zero, if_true, if_false, eq_self]
    exact lX1_cardText_29 hS hD hR hQ 4 _ _ _ _ _ _ _ (by decide) (by decide) (by decide) (Or.inl rfl) (by decide) (by decide) (by decide) (by decide) (by decide) hT
end
end
/-! 69.law00.lean.txt -/
section
abbrev dX2_init_0_T : List (Nat × Instr × Nat) := [(0, .aload_n 0, 1), (1, .invokespecial 1, 3), (4, .return_, 1)]
theorem dX2_init_0_D : dtc cX2_init dX2_init_0_T = true := by decide +kernel
def MX2_init (g : RO) : MT := ((RX2, cX2_init, 1, 1, 0, 0, true, none), [], [], [], [], [], 1, [], [], [], 0, [], [], g)
section
variable {g : RO} {Q : Ot → Hw → Prop} {st : List Value} {w : Hw} {k n p q : Nat} {a b : Int32} {x y : Int64} {u v : Value} {l0 : Option Value}
theorem eX2_init_0 : WP (MX2_init g) Q (0, [some (.ref p)], st, w, k, n) = WP (MX2_init g) Q (1, [some (.ref p)], .ref p :: st, w, k, n) := alnR_e rfl (dt_q dX2_init_0_D 0 rfl) rfl
theorem eX2_init_1 : WP (MX2_init g) Q (1, [l0], .ref p :: st, w, k, n) = (wt st ≤ 8 ∧ WP (MX2_init g) Q (4, [l0], st, w, k, n)) := obj_i rfl (dt_q dX2_init_0_D 1 rfl) rfl rfl (by decide) (Nat.le_of_ble_eq_true rfl)
theorem eX2_init_4 : WP (MX2_init g) Q (4, [l0], [], w, k, n) = (k ≤ 0 ∧ n ≤ 0 ∧ Q (.inl none) w) := vret_e rfl (dt_q dX2_init_0_D 2 rfl) rfl
end
theorem wk_337 : (.methodLink RX2 1 Lib.objectInit : Jvm.Cond) ∈ WS := WS_t2 39 rfl rfl
theorem vMX2_init {l : Launch} (hl : l.stackTraces = false) (G : GT) : vM l G (MX2_init (gg G)) := vM_k RX2 cX2_init rfl rfl all_n all_n all_n all_n all_n (fun _ => wk_337) all_n all_n all_n (fun h => absurd rfl h) rfl all_n
theorem okX2_init {l : Launch} (hl : l.stackTraces = false) {G : GT} : ∀ (args : List Value) (w : Hw) (S : Ot → Hw → Prop), spOf (MX2_init (gg G)) args w S → CX l G yX2_init (.code yX2_init cX2_init 1 (none)) 1 0 0 args w S := CX_sp (M := MX2_init (gg G)) (y := yX2_init) hl (by decide) rfl (vMX2_init hl G) (fun h => rfl) rfl
abbrev dL_set_0_T : List (Nat × Instr × Nat) := [(0, .aload 4, 2), (2, .aload_n 0, 1), (3, .iload_n 1, 1), (4, .iload_n 2, 1), (5, .iload_n 3, 1), (6, .invokevirtual 7, 3), (9, .i2l, 1), (10, .putfield 13, 3), (13, .goto 7, 3), (16, .astore 5, 2), (18, .iconst 1, 1), (19, .ireturn, 1), (20, .iconst 0, 1), (21, .ireturn, 1)]
theorem dL_set_0_D : dtc cL_set dL_set_0_T = true := by decide +kernel
def ML_set (g : RO) : MT := ((RL, cL_set, 6, 8, 1, 6, false, some .int), [(13, 6, 0)], [], [], [], [], 0, [(7, 2, 4, 5, 7, (fun _ _ => 1), (fun _ _ => 6), yX1_set, spOf (MX1_set g))], [], [], 0, [(0, 13, 16, 19)], [(19, "java/lang/IndexOutOfBoundsException")], g)
section
variable {g : RO} {Q : Ot → Hw → Prop} {st : List Value} {w : Hw} {k n p q : Nat} {a b : Int32} {x y : Int64} {u v : Value} {l0 l1 l2 l3 l4 l5 : Option Value}
theorem eL_set_0 : WP (ML_set g) Q (0, [l0, l1, l2, l3, some (.ref p), l5], st, w, k, n) = WP (ML_set g) Q (2, [l0, l1, l2, l3, some (.ref p), l5], .ref p :: st, w, k, n) := alR_e rfl (dt_q dL_set_0_D 0 rfl) rfl
theorem eL_set_0N : WP (ML_set g) Q (0, [l0, l1, l2, l3, some .null, l5], st, w, k, n) = WP (ML_set g) Q (2, [l0, l1, l2, l3, some .null, l5], .null :: st, w, k, n) := alN_e rfl (dt_q dL_set_0_D 0 rfl) rfl
theorem eL_set_2 : WP (ML_set g) Q (2, [some (.ref p), l1, l2, l3, l4, l5], st, w, k, n) = WP (ML_set g) Q (3, [some (.ref p), l1, l2, l3, l4, l5], .ref p :: st, w, k, n) := alnR_e rfl (dt_q dL_set_0_D 1 rfl) rfl
theorem eL_set_2N : WP (ML_set g) Q (2, [some .null, l1, l2, l3, l4, l5], st, w, k, n) = WP (ML_set g) Q (3, [some .null, l1, l2, l3, l4, l5], .null :: st, w, k, n) := alnN_e rfl (dt_q dL_set_0_D 1 rfl) rfl
theorem eL_set_3 : WP (ML_set g) Q (3, [l0, some (.int a), l2, l3, l4, l5], st, w, k, n) = WP (ML_set g) Q (4, [l0, some (.int a), l2, l3, l4, l5], .int a :: st, w, k, n) := iln_e rfl (dt_q dL_set_0_D 2 rfl) rfl
theorem eL_set_4 : WP (ML_set g) Q (4, [l0, l1, some (.int a), l3, l4, l5], st, w, k, n) = WP (ML_set g) Q (5, [l0, l1, some (.int a), l3, l4, l5], .int a :: st, w, k, n) := iln_e rfl (dt_q dL_set_0_D 3 rfl) rfl
theorem eL_set_5 : WP (ML_set g) Q (5, [l0, l1, l2, some (.int a), l4, l5], st, w, k, n) = WP (ML_set g) Q (6, [l0, l1, l2, some (.int a), l4, l5], .int a :: st, w, k, n) := iln_e rfl (dt_q dL_set_0_D 4 rfl) rfl
theorem eL_set_6 {z0 : Int32} {z1 : Int32} {z2 : Int32} : WP (ML_set g) Q (6, [l0, l1, l2, l3, l4, l5], .int z2 :: .int z1 :: .int z0 :: .ref p :: st, w, k, n) = (go (rd g w p) 5 (fun _ => True) ∧ wt st ≤ 8 ∧ k + 1 ≤ 1 ∧ n + 6 ≤ 6 ∧ WP (MX1_set g) (kx (fun v w' => WP (ML_set g) Q (9, [l0, l1, l2, l3, l4, l5], v.toList ++ st, w', k + 1, n + 6)) (fun E w' => hgo (ML_set g) Q (WP (ML_set g) Q) 6 [l0, l1, l2, l3, l4, l5] E w' (k + 1) (n + 6))) (0, [some (.ref p), some (.int z0), some (.int z1), some (.int z2), none], [], w, 0, 0)) := csVH (M := (ML_set g)) (mc := (fun _ _ => 1)) (ms := (fun _ _ => 6)) (As := [.int z0, .int z1, .int z2]) (rest := st) (MX1_set g) rfl (dt_q dL_set_0_D 5 rfl) (by exact fun h => nomatch (show (none : Option Nat) = some 11 from h)) (by exact fun h => nomatch (show (none : Option Nat) = some 15 from h)) rfl rfl (by decide) (Nat.le_of_ble_eq_true rfl) (Nat.le_of_ble_eq_true rfl) rfl
theorem eL_set_9 : WP (ML_set g) Q (9, [l0, l1, l2, l3, l4, l5], .int a :: st, w, k, n) = WP (ML_set g) Q (10, [l0, l1, l2, l3, l4, l5], .long a.toInt64 :: st, w, k, n) := i2l_e rfl (dt_q dL_set_0_D 6 rfl)
theorem eL_set_10 : WP (ML_set g) Q (10, [l0, l1, l2, l3, l4, l5], v :: .ref p :: st, w, k, n) = go (w p) 6 fun fs => 0 < fs.length ∧ (narrow (.long) v = v ∧ fits (.long) v = true) ∧ WP (ML_set g) Q (13, [l0, l1, l2, l3, l4, l5], st, upw w p (.inr (6, fs.set 0 v)), k, n) := put_e (q := (RX2, TX2, 2)) rfl (dt_q dL_set_0_D 7 rfl) rfl rfl (tyX2_ok 0 (by decide)) (Or.inl rfl)
theorem eL_set_13 : WP (ML_set g) Q (13, [l0, l1, l2, l3, l4, l5], st, w, k, n) = WP (ML_set g) Q (20, [l0, l1, l2, l3, l4, l5], st, w, k, n) := goto_e rfl (dt_q dL_set_0_D 8 rfl) (by decide)
theorem eL_set_16 : WP (ML_set g) Q (16, [l0, l1, l2, l3, l4, l5], .ref p :: st, w, k, n) = WP (ML_set g) Q (18, [l0, l1, l2, l3, nl l4, some (.ref p)], st, w, k, n) := asR_e rfl (dt_q dL_set_0_D 9 rfl) rfl rfl
theorem eL_set_16N : WP (ML_set g) Q (16, [l0, l1, l2, l3, l4, l5], .null :: st, w, k, n) = WP (ML_set g) Q (18, [l0, l1, l2, l3, nl l4, some (.null)], st, w, k, n) := asN_e rfl (dt_q dL_set_0_D 9 rfl) rfl rfl
theorem eL_set_18 : WP (ML_set g) Q (18, [l0, l1, l2, l3, l4, l5], st, w, k, n) = WP (ML_set g) Q (19, [l0, l1, l2, l3, l4, l5], .int 1 :: st, w, k, n) := ic_1 rfl (dt_q dL_set_0_D 10 rfl)
theorem eL_set_19 : WP (ML_set g) Q (19, [l0, l1, l2, l3, l4, l5], [.int a], w, k, n) = (k ≤ 1 ∧ n ≤ 6 ∧ Q (.inl (some (.int a))) w) := iretI_e rfl (dt_q dL_set_0_D 11 rfl) rfl
theorem eL_set_20 : WP (ML_set g) Q (20, [l0, l1, l2, l3, l4, l5], st, w, k, n) = WP (ML_set g) Q (21, [l0, l1, l2, l3, l4, l5], .int 0 :: st, w, k, n) := ic_0 rfl (dt_q dL_set_0_D 12 rfl)
theorem eL_set_21 : WP (ML_set g) Q (21, [l0, l1, l2, l3, l4, l5], [.int a], w, k, n) = (k ≤ 1 ∧ n ≤ 6 ∧ Q (.inl (some (.int a))) w) := iretI_e rfl (dt_q dL_set_0_D 13 rfl) rfl
end
theorem iW_6 : ∀ w ∈ u_ws RX2 TX2 2, w ∈ WS := fun w h => (fun q => WS_in q.1 q.2) ((show ∀ w ∈ u_ws RX2 TX2 2, w ∈ lw_tbl ∧ goodWord w = true by decide +kernel) w h)
theorem vF_RL_13 : vFld RL 13 6 0 := ⟨RX2, TX2, 2, tyX2, "RangecardLaw$Out", rfl, by decide, iW_6, tyX2_ok, nmX2, Or.inl rfl, Or.inr (Or.inl ⟨rfl, ⟨"RangecardLaw", List.mem_of_getElem? (i := 338) (by decide +kernel)⟩⟩)⟩
theorem wk_352 : (.code yX1_set cX1_set 5 (some .int) : Jvm.Cond) ∈ WS := WS_t2 54 rfl rfl
theorem wk_349 : (.methodLink RL 7 yX1_set : Jvm.Cond) ∈ WS := WS_t2 51 rfl rfl
theorem wk_350 : (.instanceMethod yX1_set : Jvm.Cond) ∈ WS := WS_t2 52 rfl rfl
theorem wk_351 : (.selects RX1 yX1_set yX1_set : Jvm.Cond) ∈ WS := WS_t2 53 rfl rfl
theorem wk_348 : (.classLink RL 19 "java/lang/IndexOutOfBoundsException" : Jvm.Cond) ∈ WS := WS_t2 50 rfl rfl
theorem kc_139 {l : Launch} (hl : l.stackTraces = false) {G : GT} {own : String} {i : Nat} (hw : Jvm.Cond.methodLink own i yX1_set ∈ WS) : vCal l G own i (2, 4, 5, 7, (fun _ _ => 1), (fun _ _ => 6), yX1_set, spOf (MX1_set (gg G))) := ⟨cX1_set, 5, some .int, fun y hy => by subst hy; exact ⟨by decide, ⟨_, wk_352, okX1_set hl, Or.inl ⟨Nat.ne_of_beq_eq_false rfl, rfl⟩⟩, wk_59, nc14, ⟨(by decide +kernel : (parseMethodDescriptor yX1_set.desc).map (fun d => d.parameters.length + 1) = some 4), hw, wk_350, wk_351, (RX1, TX1, 7), rfl, rfl⟩⟩⟩
theorem vML_set {l : Launch} (hl : l.stackTraces = false) (G : GT) : vM l G (ML_set (gg G)) := vM_k RL cL_set rfl rfl (all_c (vF_RL_13) (all_n)) all_n all_n all_n all_n (fun h => absurd rfl h) (all_c (kc_139 hl wk_349) (all_n)) all_n all_n (fun h => absurd rfl h) rfl (all_c (⟨"java/lang/IndexOutOfBoundsException", by decide, rfl, by decide, wk_348⟩) (all_n))
theorem okL_set {l : Launch} (hl : l.stackTraces = false) {G : GT} : ∀ (args : List Value) (w : Hw) (S : Ot → Hw → Prop), spOf (ML_set (gg G)) args w S → CX l G yL_set (.codeWith yL_set cL_set 6 (some .int) [(0, 13, 16, 19)]) 8 1 6 args w S := CX_spH (M := ML_set (gg G)) (y := yL_set) hl (by decide) rfl (vML_set hl G) (fun h => by cases h)
abbrev dL_setSmall_0_T : List (Nat × Instr × Nat) := [(0, .aload_n 3, 1), (1, .aload_n 0, 1), (2, .iload_n 1, 1), (3, .iload_n 2, 1), (4, .invokevirtual 21, 3), (7, .i2l, 1), (8, .putfield 13, 3), (11, .goto 7, 3), (14, .astore 4, 2), (16, .iconst 1, 1), (17, .ireturn, 1), (18, .iconst 0, 1), (19, .ireturn, 1)]
theorem dL_setSmall_0_D : dtc cL_setSmall dL_setSmall_0_T = true := by decide +kernel
def ML_setSmall (g : RO) : MT := ((RL, cL_setSmall, 5, 8, 1, 6, false, some .int), [(13, 6, 0)], [], [], [], [], 0, [(21, 2, 3, 5, 7, (fun _ _ => 1), (fun _ _ => 6), yX1_setSmall, spOf (MX1_setSmall g))], [], [], 0, [(0, 11, 14, 19)], [(19, "java/lang/IndexOutOfBoundsException")], g)
section
variable {g : RO} {Q : Ot → Hw → Prop} {st : List Value} {w : Hw} {k n p q : Nat} {a b : Int32} {x y : Int64} {u v : Value} {l0 l1 l2 l3 l4 : Option Value}
theorem eL_setSmall_0 : WP (ML_setSmall g) Q (0, [l0, l1, l2, some (.ref p), l4], st, w, k, n) = WP (ML_setSmall g) Q (1, [l0, l1, l2, some (.ref p), l4], .ref p :: st, w, k, n) := alnR_e rfl (dt_q dL_setSmall_0_D 0 rfl) rfl
theorem eL_setSmall_0N : WP (ML_setSmall g) Q (0, [l0, l1, l2, some .null, l4], st, w, k, n) = WP (ML_setSmall g) Q (1, [l0, l1, l2, some .null, l4], .null :: st, w, k, n) := alnN_e rfl (dt_q dL_setSmall_0_D 0 rfl) rfl
theorem eL_setSmall_1 : WP (ML_setSmall g) Q (1, [some (.ref p), l1, l2, l3, l4], st, w, k, n) = WP (ML_setSmall g) Q (2, [some (.ref p), l1, l2, l3, l4], .ref p :: st, w, k, n) := alnR_e rfl (dt_q dL_setSmall_0_D 1 rfl) rfl
theorem eL_setSmall_1N : WP (ML_setSmall g) Q (1, [some .null, l1, l2, l3, l4], st, w, k, n) = WP (ML_setSmall g) Q (2, [some .null, l1, l2, l3, l4], .null :: st, w, k, n) := alnN_e rfl (dt_q dL_setSmall_0_D 1 rfl) rfl
theorem eL_setSmall_2 : WP (ML_setSmall g) Q (2, [l0, some (.int a), l2, l3, l4], st, w, k, n) = WP (ML_setSmall g) Q (3, [l0, some (.int a), l2, l3, l4], .int a :: st, w, k, n) := iln_e rfl (dt_q dL_setSmall_0_D 2 rfl) rfl
theorem eL_setSmall_3 : WP (ML_setSmall g) Q (3, [l0, l1, some (.int a), l3, l4], st, w, k, n) = WP (ML_setSmall g) Q (4, [l0, l1, some (.int a), l3, l4], .int a :: st, w, k, n) := iln_e rfl (dt_q dL_setSmall_0_D 3 rfl) rfl
theorem eL_setSmall_4 {z0 : Int32} {z1 : Int32} : WP (ML_setSmall g) Q (4, [l0, l1, l2, l3, l4], .int z1 :: .int z0 :: .ref p :: st, w, k, n) = (go (rd g w p) 5 (fun _ => True) ∧ wt st ≤ 8 ∧ k + 1 ≤ 1 ∧ n + 6 ≤ 6 ∧ WP (MX1_setSmall g) (kx (fun v w' => WP (ML_setSmall g) Q (7, [l0, l1, l2, l3, l4], v.toList ++ st, w', k + 1, n + 6)) (fun E w' => hgo (ML_setSmall g) Q (WP (ML_setSmall g) Q) 4 [l0, l1, l2, l3, l4] E w' (k + 1) (n + 6))) (0, [some (.ref p), some (.int z0), some (.int z1), none], [], w, 0, 0)) := csVH (M := (ML_setSmall g)) (mc := (fun _ _ => 1)) (ms := (fun _ _ => 6)) (As := [.int z0, .int z1]) (rest := st) (MX1_setSmall g) rfl (dt_q dL_setSmall_0_D 4 rfl) (by exact fun h => nomatch (show (none : Option Nat) = some 11 from h)) (by exact fun h => nomatch (show (none : Option Nat) = some 15 from h)) rfl rfl (by decide) (Nat.le_of_ble_eq_true rfl) (Nat.le_of_ble_eq_true rfl) rfl
theorem eL_setSmall_7 : WP (ML_setSmall g) Q (7, [l0, l1, l2, l3, l4], .int a :: st, w, k, n) = WP (ML_setSmall g) Q (8, [l0, l1, l2, l3, l4], .long a.toInt64 :: st, w, k, n) := i2l_e rfl (dt_q dL_setSmall_0_D 5 rfl)
theorem eL_setSmall_8 : WP (ML_setSmall g) Q (8, [l0, l1, l2, l3, l4], v :: .ref p :: st, w, k, n) = go (w p) 6 fun fs => 0 < fs.length ∧ (narrow (.long) v = v ∧ fits (.long) v = true) ∧ WP (ML_setSmall g) Q (11, [l0, l1, l2, l3, l4], st, upw w p (.inr (6, fs.set 0 v)), k, n) := put_e (q := (RX2, TX2, 2)) rfl (dt_q dL_setSmall_0_D 6 rfl) rfl rfl (tyX2_ok 0 (by decide)) (Or.inl rfl)
theorem eL_setSmall_11 : WP (ML_setSmall g) Q (11, [l0, l1, l2, l3, l4], st, w, k, n) = WP (ML_setSmall g) Q (18, [l0, l1, l2, l3, l4], st, w, k, n) := goto_e rfl (dt_q dL_setSmall_0_D 7 rfl) (by decide)
theorem eL_setSmall_14 : WP (ML_setSmall g) Q (14, [l0, l1, l2, l3, l4], .ref p :: st, w, k, n) = WP (ML_setSmall g) Q (16, [l0, l1, l2, nl l3, some (.ref p)], st, w, k, n) := asR_e rfl (dt_q dL_setSmall_0_D 8 rfl) rfl rfl
theorem eL_setSmall_14N : WP (ML_setSmall g) Q (14, [l0, l1, l2, l3, l4], .null :: st, w, k, n) = WP (ML_setSmall g) Q (16, [l0, l1, l2, nl l3, some (.null)], st, w, k, n) := asN_e rfl (dt_q dL_setSmall_0_D 8 rfl) rfl rfl
theorem eL_setSmall_16 : WP (ML_setSmall g) Q (16, [l0, l1, l2, l3, l4], st, w, k, n) = WP (ML_setSmall g) Q (17, [l0, l1, l2, l3, l4], .int 1 :: st, w, k, n) := ic_1 rfl (dt_q dL_setSmall_0_D 9 rfl)
theorem eL_setSmall_17 : WP (ML_setSmall g) Q (17, [l0, l1, l2, l3, l4], [.int a], w, k, n) = (k ≤ 1 ∧ n ≤ 6 ∧ Q (.inl (some (.int a))) w) := iretI_e rfl (dt_q dL_setSmall_0_D 10 rfl) rfl
theorem eL_setSmall_18 : WP (ML_setSmall g) Q (18, [l0, l1, l2, l3, l4], st, w, k, n) = WP (ML_setSmall g) Q (19, [l0, l1, l2, l3, l4], .int 0 :: st, w, k, n) := ic_0 rfl (dt_q dL_setSmall_0_D 11 rfl)
theorem eL_setSmall_19 : WP (ML_setSmall g) Q (19, [l0, l1, l2, l3, l4], [.int a], w, k, n) = (k ≤ 1 ∧ n ≤ 6 ∧ Q (.inl (some (.int a))) w) := iretI_e rfl (dt_q dL_setSmall_0_D 12 rfl) rfl
end
theorem wk_431 : (.code yX1_setSmall cX1_setSmall 4 (some .int) : Jvm.Cond) ∈ WS := WS_t2 133 rfl rfl
theorem wk_428 : (.methodLink RL 21 yX1_setSmall : Jvm.Cond) ∈ WS := WS_t2 130 rfl rfl
theorem wk_429 : (.instanceMethod yX1_setSmall : Jvm.Cond) ∈ WS := WS_t2 131 rfl rfl
theorem wk_430 : (.selects RX1 yX1_setSmall yX1_setSmall : Jvm.Cond) ∈ WS := WS_t2 132 rfl rfl
theorem kc_140 {l : Launch} (hl : l.stackTraces = false) {G : GT} {own : String} {i : Nat} (hw : Jvm.Cond.methodLink own i yX1_setSmall ∈ WS) : vCal l G own i (2, 3, 5, 7, (fun _ _ => 1), (fun _ _ => 6), yX1_setSmall, spOf (MX1_setSmall (gg G))) := ⟨cX1_setSmall, 4, some .int, fun y hy => by subst hy; exact ⟨by decide, ⟨_, wk_431, okX1_setSmall hl, Or.inl ⟨Nat.ne_of_beq_eq_false rfl, rfl⟩⟩, wk_59, nc14, ⟨(by decide +kernel : (parseMethodDescriptor yX1_setSmall.desc).map (fun d => d.parameters.length + 1) = some 3), hw, wk_429, wk_430, (RX1, TX1, 7), rfl, rfl⟩⟩⟩
theorem vML_setSmall {l : Launch} (hl : l.stackTraces = false) (G : GT) : vM l G (ML_setSmall (gg G)) := vM_k RL cL_setSmall rfl rfl (all_c (vF_RL_13) (all_n)) all_n all_n all_n all_n (fun h => absurd rfl h) (all_c (kc_140 hl wk_428) (all_n)) all_n all_n (fun h => absurd rfl h) rfl (all_c (⟨"java/lang/IndexOutOfBoundsException", by decide, rfl, by decide, wk_348⟩) (all_n))
theorem okL_setSmall {l : Launch} (hl : l.stackTraces = false) {G : GT} : ∀ (args : List Value) (w : Hw) (S : Ot → Hw → Prop), spOf (ML_setSmall (gg G)) args w S → CX l G yL_setSmall (.codeWith yL_setSmall cL_setSmall 5 (some .int) [(0, 11, 14, 19)]) 8 1 6 args w S := CX_spH (M := ML_setSmall (gg G)) (y := yL_setSmall) hl (by decide) rfl (vML_setSmall hl G) (fun h => by cases h)
abbrev dL_setEnd_0_T : List (Nat × Instr × Nat) := [(0, .aload_n 3, 1), (1, .aload_n 0, 1), (2, .iload_n 1, 1), (3, .iload_n 2, 1), (4, .invokevirtual 25, 3), (7, .i2l, 1), (8, .putfield 13, 3), (11, .goto 11, 3), (14, .astore 4, 2), (16, .iconst 1, 1), (17, .ireturn, 1), (18, .astore 4, 2), (20, .iconst 2, 1), (21, .ireturn, 1), (22, .iconst 0, 1), (23, .ireturn, 1)]
theorem dL_setEnd_0_D : dtc cL_setEnd dL_setEnd_0_T = true := by decide +kernel
def ML_setEnd (g : RO) : MT := ((RL, cL_setEnd, 5, 8, 2, 12, false, some .int), [(13, 6, 0)], [], [], [], [], 0, [(25, 2, 3, 5, 7, (fun _ _ => 2), (fun _ _ => 12), yX1_setEnd, spOf (MX1_setEnd g))], [], [], 0, [(0, 11, 14, 19), (0, 11, 18, 28)], [(19, "java/lang/IndexOutOfBoundsException"), (28, "java/lang/IllegalArgumentException")], g)
section
variable {g : RO} {Q : Ot → Hw → Prop} {st : List Value} {w : Hw} {k n p q : Nat} {a b : Int32} {x y : Int64} {u v : Value} {l0 l1 l2 l3 l4 : Option Value}
theorem eL_setEnd_0 : WP (ML_setEnd g) Q (0, [l0, l1, l2, some (.ref p), l4], st, w, k, n) = WP (ML_setEnd g) Q (1, [l0, l1, l2, some (.ref p), l4], .ref p :: st, w, k, n) := alnR_e rfl (dt_q dL_setEnd_0_D 0 rfl) rfl
theorem eL_setEnd_0N : WP (ML_setEnd g) Q (0, [l0, l1, l2, some .null, l4], st, w, k, n) = WP (ML_setEnd g) Q (1, [l0, l1, l2, some .null, l4], .null :: st, w, k, n) := alnN_e rfl (dt_q dL_setEnd_0_D 0 rfl) rfl
theorem eL_setEnd_1 : WP (ML_setEnd g) Q (1, [some (.ref p), l1, l2, l3, l4], st, w, k, n) = WP (ML_setEnd g) Q (2, [some (.ref p), l1, l2, l3, l4], .ref p :: st, w, k, n) := alnR_e rfl (dt_q dL_setEnd_0_D 1 rfl) rfl
theorem eL_setEnd_1N : WP (ML_setEnd g) Q (1, [some .null, l1, l2, l3, l4], st, w, k, n) = WP (ML_setEnd g) Q (2, [some .null, l1, l2, l3, l4], .null :: st, w, k, n) := alnN_e rfl (dt_q dL_setEnd_0_D 1 rfl) rfl
theorem eL_setEnd_2 : WP (ML_setEnd g) Q (2, [l0, some (.int a), l2, l3, l4], st, w, k, n) = WP (ML_setEnd g) Q (3, [l0, some (.int a), l2, l3, l4], .int a :: st, w, k, n) := iln_e rfl (dt_q dL_setEnd_0_D 2 rfl) rfl
theorem eL_setEnd_3 : WP (ML_setEnd g) Q (3, [l0, l1, some (.int a), l3, l4], st, w, k, n) = WP (ML_setEnd g) Q (4, [l0, l1, some (.int a), l3, l4], .int a :: st, w, k, n) := iln_e rfl (dt_q dL_setEnd_0_D 3 rfl) rfl
theorem eL_setEnd_4 {z0 : Int32} {z1 : Int32} : WP (ML_setEnd g) Q (4, [l0, l1, l2, l3, l4], .int z1 :: .int z0 :: .ref p :: st, w, k, n) = (go (rd g w p) 5 (fun _ => True) ∧ wt st ≤ 8 ∧ k + 2 ≤ 2 ∧ n + 12 ≤ 12 ∧ WP (MX1_setEnd g) (kx (fun v w' => WP (ML_setEnd g) Q (7, [l0, l1, l2, l3, l4], v.toList ++ st, w', k + 2, n + 12)) (fun E w' => hgo (ML_setEnd g) Q (WP (ML_setEnd g) Q) 4 [l0, l1, l2, l3, l4] E w' (k + 2) (n + 12))) (0, [some (.ref p), some (.int z0), some (.int z1)], [], w, 0, 0)) := csVH (M := (ML_setEnd g)) (mc := (fun _ _ => 2)) (ms := (fun _ _ => 12)) (As := [.int z0, .int z1]) (rest := st) (MX1_setEnd g) rfl (dt_q dL_setEnd_0_D 4 rfl) (by exact fun h => nomatch (show (none : Option Nat) = some 11 from h)) (by exact fun h => nomatch (show (none : Option Nat) = some 15 from h)) rfl rfl (by decide) (Nat.le_of_ble_eq_true rfl) (Nat.le_of_ble_eq_true rfl) rfl
theorem eL_setEnd_7 : WP (ML_setEnd g) Q (7, [l0, l1, l2, l3, l4], .int a :: st, w, k, n) = WP (ML_setEnd g) Q (8, [l0, l1, l2, l3, l4], .long a.toInt64 :: st, w, k, n) := i2l_e rfl (dt_q dL_setEnd_0_D 5 rfl)
theorem eL_setEnd_8 : WP (ML_setEnd g) Q (8, [l0, l1, l2, l3, l4], v :: .ref p :: st, w, k, n) = go (w p) 6 fun fs => 0 < fs.length ∧ (narrow (.long) v = v ∧ fits (.long) v = true) ∧ WP (ML_setEnd g) Q (11, [l0, l1, l2, l3, l4], st, upw w p (.inr (6, fs.set 0 v)), k, n) := put_e (q := (RX2, TX2, 2)) rfl (dt_q dL_setEnd_0_D 6 rfl) rfl rfl (tyX2_ok 0 (by decide)) (Or.inl rfl)
theorem eL_setEnd_11 : WP (ML_setEnd g) Q (11, [l0, l1, l2, l3, l4], st, w, k, n) = WP (ML_setEnd g) Q (22, [l0, l1, l2, l3, l4], st, w, k, n) := goto_e rfl (dt_q dL_setEnd_0_D 7 rfl) (by decide)
theorem eL_setEnd_14 : WP (ML_setEnd g) Q (14, [l0, l1, l2, l3, l4], .ref p :: st, w, k, n) = WP (ML_setEnd g) Q (16, [l0, l1, l2, nl l3, some (.ref p)], st, w, k, n) := asR_e rfl (dt_q dL_setEnd_0_D 8 rfl) rfl rfl
theorem eL_setEnd_14N : WP (ML_setEnd g) Q (14, [l0, l1, l2, l3, l4], .null :: st, w, k, n) = WP (ML_setEnd g) Q (16, [l0, l1, l2, nl l3, some (.null)], st, w, k, n) := asN_e rfl (dt_q dL_setEnd_0_D 8 rfl) rfl rfl
theorem eL_setEnd_16 : WP (ML_setEnd g) Q (16, [l0, l1, l2, l3, l4], st, w, k, n) = WP (ML_setEnd g) Q (17, [l0, l1, l2, l3, l4], .int 1 :: st, w, k, n) := ic_1 rfl (dt_q dL_setEnd_0_D 9 rfl)
theorem eL_setEnd_17 : WP (ML_setEnd g) Q (17, [l0, l1, l2, l3, l4], [.int a], w, k, n) = (k ≤ 2 ∧ n ≤ 12 ∧ Q (.inl (some (.int a))) w) := iretI_e rfl (dt_q dL_setEnd_0_D 10 rfl) rfl
theorem eL_setEnd_18 : WP (ML_setEnd g) Q (18, [l0, l1, l2, l3, l4], .ref p :: st, w, k, n) = WP (ML_setEnd g) Q (20, [l0, l1, l2, nl l3, some (.ref p)], st, w, k, n) := asR_e rfl (dt_q dL_setEnd_0_D 11 rfl) rfl rfl
theorem eL_setEnd_18N : WP (ML_setEnd g) Q (18, [l0, l1, l2, l3, l4], .null :: st, w, k, n) = WP (ML_setEnd g) Q (20, [l0, l1, l2, nl l3, some (.null)], st, w, k, n) := asN_e rfl (dt_q dL_setEnd_0_D 11 rfl) rfl rfl
theorem eL_setEnd_20 : WP (ML_setEnd g) Q (20, [l0, l1, l2, l3, l4], st, w, k, n) = WP (ML_setEnd g) Q (21, [l0, l1, l2, l3, l4], .int 2 :: st, w, k, n) := ic_2 rfl (dt_q dL_setEnd_0_D 12 rfl)
theorem eL_setEnd_21 : WP (ML_setEnd g) Q (21, [l0, l1, l2, l3, l4], [.int a], w, k, n) = (k ≤ 2 ∧ n ≤ 12 ∧ Q (.inl (some (.int a))) w) := iretI_e rfl (dt_q dL_setEnd_0_D 13 rfl) rfl
theorem eL_setEnd_22 : WP (ML_setEnd g) Q (22, [l0, l1, l2, l3, l4], st, w, k, n) = WP (ML_setEnd g) Q (23, [l0, l1, l2, l3, l4], .int 0 :: st, w, k, n) := ic_0 rfl (dt_q dL_setEnd_0_D 14 rfl)
theorem eL_setEnd_23 : WP (ML_setEnd g) Q (23, [l0, l1, l2, l3, l4], [.int a], w, k, n) = (k ≤ 2 ∧ n ≤ 12 ∧ Q (.inl (some (.int a))) w) := iretI_e rfl (dt_q dL_setEnd_0_D 15 rfl) rfl
end
theorem wk_439 : (.code yX1_setEnd cX1_setEnd 3 (some .int) : Jvm.Cond) ∈ WS := WS_t2 141 rfl rfl
theorem wk_436 : (.methodLink RL 25 yX1_setEnd : Jvm.Cond) ∈ WS := WS_t2 138 rfl rfl
theorem wk_437 : (.instanceMethod yX1_setEnd : Jvm.Cond) ∈ WS := WS_t2 139 rfl rfl
theorem wk_438 : (.selects RX1 yX1_setEnd yX1_setEnd : Jvm.Cond) ∈ WS := WS_t2 140 rfl rfl
theorem wk_435 : (.classLink RL 28 "java/lang/IllegalArgumentException" : Jvm.Cond) ∈ WS := WS_t2 137 rfl rfl
theorem kc_141 {l : Launch} (hl : l.stackTraces = false) {G : GT} {own : String} {i : Nat} (hw : Jvm.Cond.methodLink own i yX1_setEnd ∈ WS) : vCal l G own i (2, 3, 5, 7, (fun _ _ => 2), (fun _ _ => 12), yX1_setEnd, spOf (MX1_setEnd (gg G))) := ⟨cX1_setEnd, 3, some .int, fun y hy => by subst hy; exact ⟨by decide, ⟨_, wk_439, okX1_setEnd hl, Or.inl ⟨Nat.ne_of_beq_eq_false rfl, rfl⟩⟩, wk_59, nc14, ⟨(by decide +kernel : (parseMethodDescriptor yX1_setEnd.desc).map (fun d => d.parameters.length + 1) = some 3), hw, wk_437, wk_438, (RX1, TX1, 7), rfl, rfl⟩⟩⟩
theorem vML_setEnd {l : Launch} (hl : l.stackTraces = false) (G : GT) : vM l G (ML_setEnd (gg G)) := vM_k RL cL_setEnd rfl rfl (all_c (vF_RL_13) (all_n)) all_n all_n all_n all_n (fun h => absurd rfl h) (all_c (kc_141 hl wk_436) (all_n)) all_n all_n (fun h => absurd rfl h) rfl (all_c (⟨"java/lang/IndexOutOfBoundsException", by decide, rfl, by decide, wk_348⟩) (all_c (⟨"java/lang/IllegalArgumentException", by decide, rfl, by decide, wk_435⟩) (all_n)))
theorem okL_setEnd {l : Launch} (hl : l.stackTraces = false) {G : GT} : ∀ (args : List Value) (w : Hw) (S : Ot → Hw → Prop), spOf (ML_setEnd (gg G)) args w S → CX l G yL_setEnd (.codeWith yL_setEnd cL_setEnd 5 (some .int) [(0, 11, 14, 19), (0, 11, 18, 28)]) 8 2 12 args w S := CX_spH (M := ML_setEnd (gg G)) (y := yL_setEnd) hl (by decide) rfl (vML_setEnd hl G) (fun h => by cases h)
abbrev dL_move_0_T : List (Nat × Instr × Nat) := [(0, .aload_n 3, 1), (1, .aload_n 0, 1), (2, .iload_n 1, 1), (3, .iload_n 2, 1), (4, .invokevirtual 30, 3), (7, .i2l, 1), (8, .putfield 13, 3), (11, .goto 7, 3), (14, .astore 4, 2), (16, .iconst 1, 1), (17, .ireturn, 1), (18, .iconst 0, 1), (19, .ireturn, 1)]
theorem dL_move_0_D : dtc cL_move dL_move_0_T = true := by decide +kernel
def ML_move (g : RO) : MT := ((RL, cL_move, 5, 8, 1, 6, false, some .int), [(13, 6, 0)], [], [], [], [], 0, [(30, 2, 3, 5, 7, (fun _ _ => 1), (fun _ _ => 6), yX1_move, spOf (MX1_move g))], [], [], 0, [(0, 11, 14, 19)], [(19, "java/lang/IndexOutOfBoundsException")], g)
section
variable {g : RO} {Q : Ot → Hw → Prop} {st : List Value} {w : Hw} {k n p q : Nat} {a b : Int32} {x y : Int64} {u v : Value} {l0 l1 l2 l3 l4 : Option Value}
theorem eL_move_0 : WP (ML_move g) Q (0, [l0, l1, l2, some (.ref p), l4], st, w, k, n) = WP (ML_move g) Q (1, [l0, l1, l2, some (.ref p), l4], .ref p :: st, w, k, n) := alnR_e rfl (dt_q dL_move_0_D 0 rfl) rfl
theorem eL_move_0N : WP (ML_move g) Q (0, [l0, l1, l2, some .null, l4], st, w, k, n) = WP (ML_move g) Q (1, [l0, l1, l2, some .null, l4], .null :: st, w, k, n) := alnN_e rfl (dt_q dL_move_0_D 0 rfl) rfl
theorem eL_move_1 : WP (ML_move g) Q (1, [some (.ref p), l1, l2, l3, l4], st, w, k, n) = WP (ML_move g) Q (2, [some (.ref p), l1, l2, l3, l4], .ref p :: st, w, k, n) := alnR_e rfl (dt_q dL_move_0_D 1 rfl) rfl
theorem eL_move_1N : WP (ML_move g) Q (1, [some .null, l1, l2, l3, l4], st, w, k, n) = WP (ML_move g) Q (2, [some .null, l1, l2, l3, l4], .null :: st, w, k, n) := alnN_e rfl (dt_q dL_move_0_D 1 rfl) rfl
theorem eL_move_2 : WP (ML_move g) Q (2, [l0, some (.int a), l2, l3, l4], st, w, k, n) = WP (ML_move g) Q (3, [l0, some (.int a), l2, l3, l4], .int a :: st, w, k, n) := iln_e rfl (dt_q dL_move_0_D 2 rfl) rfl
theorem eL_move_3 : WP (ML_move g) Q (3, [l0, l1, some (.int a), l3, l4], st, w, k, n) = WP (ML_move g) Q (4, [l0, l1, some (.int a), l3, l4], .int a :: st, w, k, n) := iln_e rfl (dt_q dL_move_0_D 3 rfl) rfl
theorem eL_move_4 {z0 : Int32} {z1 : Int32} : WP (ML_move g) Q (4, [l0, l1, l2, l3, l4], .int z1 :: .int z0 :: .ref p :: st, w, k, n) = (go (rd g w p) 5 (fun _ => True) ∧ wt st ≤ 8 ∧ k + 1 ≤ 1 ∧ n + 6 ≤ 6 ∧ WP (MX1_move g) (kx (fun v w' => WP (ML_move g) Q (7, [l0, l1, l2, l3, l4], v.toList ++ st, w', k + 1, n + 6)) (fun E w' => hgo (ML_move g) Q (WP (ML_move g) Q) 4 [l0, l1, l2, l3, l4] E w' (k + 1) (n + 6))) (0, [some (.ref p), some (.int z0), some (.int z1)], [], w, 0, 0)) := csVH (M := (ML_move g)) (mc := (fun _ _ => 1)) (ms := (fun _ _ => 6)) (As := [.int z0, .int z1]) (rest := st) (MX1_move g) rfl (dt_q dL_move_0_D 4 rfl) (by exact fun h => nomatch (show (none : Option Nat) = some 11 from h)) (by exact fun h => nomatch (show (none : Option Nat) = some 15 from h)) rfl rfl (by decide) (Nat.le_of_ble_eq_true rfl) (Nat.le_of_ble_eq_true rfl) rfl
theorem eL_move_7 : WP (ML_move g) Q (7, [l0, l1, l2, l3, l4], .int a :: st, w, k, n) = WP (ML_move g) Q (8, [l0, l1, l2, l3, l4], .long a.toInt64 :: st, w, k, n) := i2l_e rfl (dt_q dL_move_0_D 5 rfl)
theorem eL_move_8 : WP (ML_move g) Q (8, [l0, l1, l2, l3, l4], v :: .ref p :: st, w, k, n) = go (w p) 6 fun fs => 0 < fs.length ∧ (narrow (.long) v = v ∧ fits (.long) v = true) ∧ WP (ML_move g) Q (11, [l0, l1, l2, l3, l4], st, upw w p (.inr (6, fs.set 0 v)), k, n) := put_e (q := (RX2, TX2, 2)) rfl (dt_q dL_move_0_D 6 rfl) rfl rfl (tyX2_ok 0 (by decide)) (Or.inl rfl)
theorem eL_move_11 : WP (ML_move g) Q (11, [l0, l1, l2, l3, l4], st, w, k, n) = WP (ML_move g) Q (18, [l0, l1, l2, l3, l4], st, w, k, n) := goto_e rfl (dt_q dL_move_0_D 7 rfl) (by decide)
theorem eL_move_14 : WP (ML_move g) Q (14, [l0, l1, l2, l3, l4], .ref p :: st, w, k, n) = WP (ML_move g) Q (16, [l0, l1, l2, nl l3, some (.ref p)], st, w, k, n) := asR_e rfl (dt_q dL_move_0_D 8 rfl) rfl rfl
theorem eL_move_14N : WP (ML_move g) Q (14, [l0, l1, l2, l3, l4], .null :: st, w, k, n) = WP (ML_move g) Q (16, [l0, l1, l2, nl l3, some (.null)], st, w, k, n) := asN_e rfl (dt_q dL_move_0_D 8 rfl) rfl rfl
theorem eL_move_16 : WP (ML_move g) Q (16, [l0, l1, l2, l3, l4], st, w, k, n) = WP (ML_move g) Q (17, [l0, l1, l2, l3, l4], .int 1 :: st, w, k, n) := ic_1 rfl (dt_q dL_move_0_D 9 rfl)
theorem eL_move_17 : WP (ML_move g) Q (17, [l0, l1, l2, l3, l4], [.int a], w, k, n) = (k ≤ 1 ∧ n ≤ 6 ∧ Q (.inl (some (.int a))) w) := iretI_e rfl (dt_q dL_move_0_D 10 rfl) rfl
theorem eL_move_18 : WP (ML_move g) Q (18, [l0, l1, l2, l3, l4], st, w, k, n) = WP (ML_move g) Q (19, [l0, l1, l2, l3, l4], .int 0 :: st, w, k, n) := ic_0 rfl (dt_q dL_move_0_D 11 rfl)
theorem eL_move_19 : WP (ML_move g) Q (19, [l0, l1, l2, l3, l4], [.int a], w, k, n) = (k ≤ 1 ∧ n ≤ 6 ∧ Q (.inl (some (.int a))) w) := iretI_e rfl (dt_q dL_move_0_D 12 rfl) rfl
end
theorem wk_474 : (.code yX1_move cX1_move 3 (some .int) : Jvm.Cond) ∈ WS := WS_t2 176 rfl rfl
theorem wk_471 : (.methodLink RL 30 yX1_move : Jvm.Cond) ∈ WS := WS_t2 173 rfl rfl
theorem wk_472 : (.instanceMethod yX1_move : Jvm.Cond) ∈ WS := WS_t2 174 rfl rfl
theorem wk_473 : (.selects RX1 yX1_move yX1_move : Jvm.Cond) ∈ WS := WS_t2 175 rfl rfl
theorem kc_142 {l : Launch} (hl : l.stackTraces = false) {G : GT} {own : String} {i : Nat} (hw : Jvm.Cond.methodLink own i yX1_move ∈ WS) : vCal l G own i (2, 3, 5, 7, (fun _ _ => 1), (fun _ _ => 6), yX1_move, spOf (MX1_move (gg G))) := ⟨cX1_move, 3, some .int, fun y hy => by subst hy; exact ⟨by decide, ⟨_, wk_474, okX1_move hl, Or.inl ⟨Nat.ne_of_beq_eq_false rfl, rfl⟩⟩, wk_59, nc14, ⟨(by decide +kernel : (parseMethodDescriptor yX1_move.desc).map (fun d => d.parameters.length + 1) = some 3), hw, wk_472, wk_473, (RX1, TX1, 7), rfl, rfl⟩⟩⟩
theorem vML_move {l : Launch} (hl : l.stackTraces = false) (G : GT) : vM l G (ML_move (gg G)) := vM_k RL cL_move rfl rfl (all_c (vF_RL_13) (all_n)) all_n all_n all_n all_n (fun h => absurd rfl h) (all_c (kc_142 hl wk_471) (all_n)) all_n all_n (fun h => absurd rfl h) rfl (all_c (⟨"java/lang/IndexOutOfBoundsException", by decide, rfl, by decide, wk_348⟩) (all_n))
theorem okL_move {l : Launch} (hl : l.stackTraces = false) {G : GT} : ∀ (args : List Value) (w : Hw) (S : Ot → Hw → Prop), spOf (ML_move (gg G)) args w S → CX l G yL_move (.codeWith yL_move cL_move 5 (some .int) [(0, 11, 14, 19)]) 8 1 6 args w S := CX_spH (M := ML_move (gg G)) (y := yL_move) hl (by decide) rfl (vML_move hl G) (fun h => by cases h)
abbrev dL_copy_0_T : List (Nat × Instr × Nat) := [(0, .aload_n 3, 1), (1, .aload_n 0, 1), (2, .iload_n 1, 1), (3, .iload_n 2, 1), (4, .invokevirtual 33, 3), (7, .i2l, 1), (8, .putfield 13, 3), (11, .goto 7, 3), (14, .astore 4, 2), (16, .iconst 1, 1), (17, .ireturn, 1), (18, .iconst 0, 1), (19, .ireturn, 1)]
theorem dL_copy_0_D : dtc cL_copy dL_copy_0_T = true := by decide +kernel
def ML_copy (g : RO) : MT := ((RL, cL_copy, 5, 8, 2, 12, false, some .int), [(13, 6, 0)], [], [], [], [], 0, [(33, 2, 3, 5, 7, (fun _ _ => 2), (fun _ _ => 12), yX1_copy, spOf (MX1_copy g))], [], [], 0, [(0, 11, 14, 19)], [(19, "java/lang/IndexOutOfBoundsException")], g)
section
variable {g : RO} {Q : Ot → Hw → Prop} {st : List Value} {w : Hw} {k n p q : Nat} {a b : Int32} {x y : Int64} {u v : Value} {l0 l1 l2 l3 l4 : Option Value}
theorem eL_copy_0 : WP (ML_copy g) Q (0, [l0, l1, l2, some (.ref p), l4], st, w, k, n) = WP (ML_copy g) Q (1, [l0, l1, l2, some (.ref p), l4], .ref p :: st, w, k, n) := alnR_e rfl (dt_q dL_copy_0_D 0 rfl) rfl
theorem eL_copy_0N : WP (ML_copy g) Q (0, [l0, l1, l2, some .null, l4], st, w, k, n) = WP (ML_copy g) Q (1, [l0, l1, l2, some .null, l4], .null :: st, w, k, n) := alnN_e rfl (dt_q dL_copy_0_D 0 rfl) rfl
theorem eL_copy_1 : WP (ML_copy g) Q (1, [some (.ref p), l1, l2, l3, l4], st, w, k, n) = WP (ML_copy g) Q (2, [some (.ref p), l1, l2, l3, l4], .ref p :: st, w, k, n) := alnR_e rfl (dt_q dL_copy_0_D 1 rfl) rfl
theorem eL_copy_1N : WP (ML_copy g) Q (1, [some .null, l1, l2, l3, l4], st, w, k, n) = WP (ML_copy g) Q (2, [some .null, l1, l2, l3, l4], .null :: st, w, k, n) := alnN_e rfl (dt_q dL_copy_0_D 1 rfl) rfl
theorem eL_copy_2 : WP (ML_copy g) Q (2, [l0, some (.int a), l2, l3, l4], st, w, k, n) = WP (ML_copy g) Q (3, [l0, some (.int a), l2, l3, l4], .int a :: st, w, k, n) := iln_e rfl (dt_q dL_copy_0_D 2 rfl) rfl
theorem eL_copy_3 : WP (ML_copy g) Q (3, [l0, l1, some (.int a), l3, l4], st, w, k, n) = WP (ML_copy g) Q (4, [l0, l1, some (.int a), l3, l4], .int a :: st, w, k, n) := iln_e rfl (dt_q dL_copy_0_D 3 rfl) rfl
theorem eL_copy_4 {z0 : Int32} {z1 : Int32} : WP (ML_copy g) Q (4, [l0, l1, l2, l3, l4], .int z1 :: .int z0 :: .ref p :: st, w, k, n) = (go (rd g w p) 5 (fun _ => True) ∧ wt st ≤ 8 ∧ k + 2 ≤ 2 ∧ n + 12 ≤ 12 ∧ WP (MX1_copy g) (kx (fun v w' => WP (ML_copy g) Q (7, [l0, l1, l2, l3, l4], v.toList ++ st, w', k + 2, n + 12)) (fun E w' => hgo (ML_copy g) Q (WP (ML_copy g) Q) 4 [l0, l1, l2, l3, l4] E w' (k + 2) (n + 12))) (0, [some (.ref p), some (.int z0), some (.int z1)], [], w, 0, 0)) := csVH (M := (ML_copy g)) (mc := (fun _ _ => 2)) (ms := (fun _ _ => 12)) (As := [.int z0, .int z1]) (rest := st) (MX1_copy g) rfl (dt_q dL_copy_0_D 4 rfl) (by exact fun h => nomatch (show (none : Option Nat) = some 11 from h)) (by exact fun h => nomatch (show (none : Option Nat) = some 15 from h)) rfl rfl (by decide) (Nat.le_of_ble_eq_true rfl) (Nat.le_of_ble_eq_true rfl) rfl
theorem eL_copy_7 : WP (ML_copy g) Q (7, [l0, l1, l2, l3, l4], .int a :: st, w, k, n) = WP (ML_copy g) Q (8, [l0, l1, l2, l3, l4], .long a.toInt64 :: st, w, k, n) := i2l_e rfl (dt_q dL_copy_0_D 5 rfl)
theorem eL_copy_8 : WP (ML_copy g) Q (8, [l0, l1, l2, l3, l4], v :: .ref p :: st, w, k, n) = go (w p) 6 fun fs => 0 < fs.length ∧ (narrow (.long) v = v ∧ fits (.long) v = true) ∧ WP (ML_copy g) Q (11, [l0, l1, l2, l3, l4], st, upw w p (.inr (6, fs.set 0 v)), k, n) := put_e (q := (RX2, TX2, 2)) rfl (dt_q dL_copy_0_D 6 rfl) rfl rfl (tyX2_ok 0 (by decide)) (Or.inl rfl)
theorem eL_copy_11 : WP (ML_copy g) Q (11, [l0, l1, l2, l3, l4], st, w, k, n) = WP (ML_copy g) Q (18, [l0, l1, l2, l3, l4], st, w, k, n) := goto_e rfl (dt_q dL_copy_0_D 7 rfl) (by decide)
theorem eL_copy_14 : WP (ML_copy g) Q (14, [l0, l1, l2, l3, l4], .ref p :: st, w, k, n) = WP (ML_copy g) Q (16, [l0, l1, l2, nl l3, some (.ref p)], st, w, k, n) := asR_e rfl (dt_q dL_copy_0_D 8 rfl) rfl rfl
theorem eL_copy_14N : WP (ML_copy g) Q (14, [l0, l1, l2, l3, l4], .null :: st, w, k, n) = WP (ML_copy g) Q (16, [l0, l1, l2, nl l3, some (.null)], st, w, k, n) := asN_e rfl (dt_q dL_copy_0_D 8 rfl) rfl rfl
theorem eL_copy_16 : WP (ML_copy g) Q (16, [l0, l1, l2, l3, l4], st, w, k, n) = WP (ML_copy g) Q (17, [l0, l1, l2, l3, l4], .int 1 :: st, w, k, n) := ic_1 rfl (dt_q dL_copy_0_D 9 rfl)
theorem eL_copy_17 : WP (ML_copy g) Q (17, [l0, l1, l2, l3, l4], [.int a], w, k, n) = (k ≤ 2 ∧ n ≤ 12 ∧ Q (.inl (some (.int a))) w) := iretI_e rfl (dt_q dL_copy_0_D 10 rfl) rfl
theorem eL_copy_18 : WP (ML_copy g) Q (18, [l0, l1, l2, l3, l4], st, w, k, n) = WP (ML_copy g) Q (19, [l0, l1, l2, l3, l4], .int 0 :: st, w, k, n) := ic_0 rfl (dt_q dL_copy_0_D 11 rfl)
theorem eL_copy_19 : WP (ML_copy g) Q (19, [l0, l1, l2, l3, l4], [.int a], w, k, n) = (k ≤ 2 ∧ n ≤ 12 ∧ Q (.inl (some (.int a))) w) := iretI_e rfl (dt_q dL_copy_0_D 12 rfl) rfl
end
theorem wk_481 : (.code yX1_copy cX1_copy 3 (some .int) : Jvm.Cond) ∈ WS := WS_t2 183 rfl rfl
theorem wk_478 : (.methodLink RL 33 yX1_copy : Jvm.Cond) ∈ WS := WS_t2 180 rfl rfl
theorem wk_479 : (.instanceMethod yX1_copy : Jvm.Cond) ∈ WS := WS_t2 181 rfl rfl
theorem wk_480 : (.selects RX1 yX1_copy yX1_copy : Jvm.Cond) ∈ WS := WS_t2 182 rfl rfl
theorem kc_143 {l : Launch} (hl : l.stackTraces = false) {G : GT} {own : String} {i : Nat} (hw : Jvm.Cond.methodLink own i yX1_copy ∈ WS) : vCal l G own i (2, 3, 5, 7, (fun _ _ => 2), (fun _ _ => 12), yX1_copy, spOf (MX1_copy (gg G))) := ⟨cX1_copy, 3, some .int, fun y hy => by subst hy; exact ⟨by decide, ⟨_, wk_481, okX1_copy hl, Or.inl ⟨Nat.ne_of_beq_eq_false rfl, rfl⟩⟩, wk_59, nc14, ⟨(by decide +kernel : (parseMethodDescriptor yX1_copy.desc).map (fun d => d.parameters.length + 1) = some 3), hw, wk_479, wk_480, (RX1, TX1, 7), rfl, rfl⟩⟩⟩
theorem vML_copy {l : Launch} (hl : l.stackTraces = false) (G : GT) : vM l G (ML_copy (gg G)) := vM_k RL cL_copy rfl rfl (all_c (vF_RL_13) (all_n)) all_n all_n all_n all_n (fun h => absurd rfl h) (all_c (kc_143 hl wk_478) (all_n)) all_n all_n (fun h => absurd rfl h) rfl (all_c (⟨"java/lang/IndexOutOfBoundsException", by decide, rfl, by decide, wk_348⟩) (all_n))
theorem okL_copy {l : Launch} (hl : l.stackTraces = false) {G : GT} : ∀ (args : List Value) (w : Hw) (S : Ot → Hw → Prop), spOf (ML_copy (gg G)) args w S → CX l G yL_copy (.codeWith yL_copy cL_copy 5 (some .int) [(0, 11, 14, 19)]) 8 2 12 args w S := CX_spH (M := ML_copy (gg G)) (y := yL_copy) hl (by decide) rfl (vML_copy hl G) (fun h => by cases h)
end
/-! 69.law01.lean.txt -/
section
abbrev dL_ofNumber_0_T : List (Nat × Instr × Nat) := [(0, .aload_n 3, 1), (1, .aload_n 0, 1), (2, .iload_n 1, 1), (3, .iload_n 2, 1), (4, .invokevirtual 36, 3), (7, .i2l, 1), (8, .putfield 13, 3), (11, .goto 7, 3), (14, .astore 4, 2), (16, .iconst 1, 1), (17, .ireturn, 1), (18, .iconst 0, 1), (19, .ireturn, 1)]
theorem dL_ofNumber_0_D : dtc cL_ofNumber dL_ofNumber_0_T = true := by decide +kernel
def ML_ofNumber (g : RO) : MT := ((RL, cL_ofNumber, 5, 8, 1, 6, false, some .int), [(13, 6, 0)], [], [], [], [], 0, [(36, 2, 3, 5, 7, (fun _ _ => 1), (fun _ _ => 6), yX1_ofNumber, spOf (MX1_ofNumber g))], [], [], 0, [(0, 11, 14, 19)], [(19, "java/lang/IndexOutOfBoundsException")], g)
section
variable {g : RO} {Q : Ot → Hw → Prop} {st : List Value} {w : Hw} {k n p q : Nat} {a b : Int32} {x y : Int64} {u v : Value} {l0 l1 l2 l3 l4 : Option Value}
theorem eL_ofNumber_0 : WP (ML_ofNumber g) Q (0, [l0, l1, l2, some (.ref p), l4], st, w, k, n) = WP (ML_ofNumber g) Q (1, [l0, l1, l2, some (.ref p), l4], .ref p :: st, w, k, n) := alnR_e rfl (dt_q dL_ofNumber_0_D 0 rfl) rfl
theorem eL_ofNumber_0N : WP (ML_ofNumber g) Q (0, [l0, l1, l2, some .null, l4], st, w, k, n) = WP (ML_ofNumber g) Q (1, [l0, l1, l2, some .null, l4], .null :: st, w, k, n) := alnN_e rfl (dt_q dL_ofNumber_0_D 0 rfl) rfl
theorem eL_ofNumber_1 : WP (ML_ofNumber g) Q (1, [some (.ref p), l1, l2, l3, l4], st, w, k, n) = WP (ML_ofNumber g) Q (2, [some (.ref p), l1, l2, l3, l4], .ref p :: st, w, k, n) := alnR_e rfl (dt_q dL_ofNumber_0_D 1 rfl) rfl
theorem eL_ofNumber_1N : WP (ML_ofNumber g) Q (1, [some .null, l1, l2, l3, l4], st, w, k, n) = WP (ML_ofNumber g) Q (2, [some .null, l1, l2, l3, l4], .null :: st, w, k, n) := alnN_e rfl (dt_q dL_ofNumber_0_D 1 rfl) rfl
theorem eL_ofNumber_2 : WP (ML_ofNumber g) Q (2, [l0, some (.int a), l2, l3, l4], st, w, k, n) = WP (ML_ofNumber g) Q (3, [l0, some (.int a), l2, l3, l4], .int a :: st, w, k, n) := iln_e rfl (dt_q dL_ofNumber_0_D 2 rfl) rfl
theorem eL_ofNumber_3 : WP (ML_ofNumber g) Q (3, [l0, l1, some (.int a), l3, l4], st, w, k, n) = WP (ML_ofNumber g) Q (4, [l0, l1, some (.int a), l3, l4], .int a :: st, w, k, n) := iln_e rfl (dt_q dL_ofNumber_0_D 3 rfl) rfl
theorem eL_ofNumber_4 {z0 : Int32} {z1 : Int32} : WP (ML_ofNumber g) Q (4, [l0, l1, l2, l3, l4], .int z1 :: .int z0 :: .ref p :: st, w, k, n) = (go (rd g w p) 5 (fun _ => True) ∧ wt st ≤ 8 ∧ k + 1 ≤ 1 ∧ n + 6 ≤ 6 ∧ WP (MX1_ofNumber g) (kx (fun v w' => WP (ML_ofNumber g) Q (7, [l0, l1, l2, l3, l4], v.toList ++ st, w', k + 1, n + 6)) (fun E w' => hgo (ML_ofNumber g) Q (WP (ML_ofNumber g) Q) 4 [l0, l1, l2, l3, l4] E w' (k + 1) (n + 6))) (0, [some (.ref p), some (.int z0), some (.int z1)], [], w, 0, 0)) := csVH (M := (ML_ofNumber g)) (mc := (fun _ _ => 1)) (ms := (fun _ _ => 6)) (As := [.int z0, .int z1]) (rest := st) (MX1_ofNumber g) rfl (dt_q dL_ofNumber_0_D 4 rfl) (by exact fun h => nomatch (show (none : Option Nat) = some 11 from h)) (by exact fun h => nomatch (show (none : Option Nat) = some 15 from h)) rfl rfl (by decide) (Nat.le_of_ble_eq_true rfl) (Nat.le_of_ble_eq_true rfl) rfl
theorem eL_ofNumber_7 : WP (ML_ofNumber g) Q (7, [l0, l1, l2, l3, l4], .int a :: st, w, k, n) = WP (ML_ofNumber g) Q (8, [l0, l1, l2, l3, l4], .long a.toInt64 :: st, w, k, n) := i2l_e rfl (dt_q dL_ofNumber_0_D 5 rfl)
theorem eL_ofNumber_8 : WP (ML_ofNumber g) Q (8, [l0, l1, l2, l3, l4], v :: .ref p :: st, w, k, n) = go (w p) 6 fun fs => 0 < fs.length ∧ (narrow (.long) v = v ∧ fits (.long) v = true) ∧ WP (ML_ofNumber g) Q (11, [l0, l1, l2, l3, l4], st, upw w p (.inr (6, fs.set 0 v)), k, n) := put_e (q := (RX2, TX2, 2)) rfl (dt_q dL_ofNumber_0_D 6 rfl) rfl rfl (tyX2_ok 0 (by decide)) (Or.inl rfl)
theorem eL_ofNumber_11 : WP (ML_ofNumber g) Q (11, [l0, l1, l2, l3, l4], st, w, k, n) = WP (ML_ofNumber g) Q (18, [l0, l1, l2, l3, l4], st, w, k, n) := goto_e rfl (dt_q dL_ofNumber_0_D 7 rfl) (by decide)
theorem eL_ofNumber_14 : WP (ML_ofNumber g) Q (14, [l0, l1, l2, l3, l4], .ref p :: st, w, k, n) = WP (ML_ofNumber g) Q (16, [l0, l1, l2, nl l3, some (.ref p)], st, w, k, n) := asR_e rfl (dt_q dL_ofNumber_0_D 8 rfl) rfl rfl
theorem eL_ofNumber_14N : WP (ML_ofNumber g) Q (14, [l0, l1, l2, l3, l4], .null :: st, w, k, n) = WP (ML_ofNumber g) Q (16, [l0, l1, l2, nl l3, some (.null)], st, w, k, n) := asN_e rfl (dt_q dL_ofNumber_0_D 8 rfl) rfl rfl
theorem eL_ofNumber_16 : WP (ML_ofNumber g) Q (16, [l0, l1, l2, l3, l4], st, w, k, n) = WP (ML_ofNumber g) Q (17, [l0, l1, l2, l3, l4], .int 1 :: st, w, k, n) := ic_1 rfl (dt_q dL_ofNumber_0_D 9 rfl)
theorem eL_ofNumber_17 : WP (ML_ofNumber g) Q (17, [l0, l1, l2, l3, l4], [.int a], w, k, n) = (k ≤ 1 ∧ n ≤ 6 ∧ Q (.inl (some (.int a))) w) := iretI_e rfl (dt_q dL_ofNumber_0_D 10 rfl) rfl
theorem eL_ofNumber_18 : WP (ML_ofNumber g) Q (18, [l0, l1, l2, l3, l4], st, w, k, n) = WP (ML_ofNumber g) Q (19, [l0, l1, l2, l3, l4], .int 0 :: st, w, k, n) := ic_0 rfl (dt_q dL_ofNumber_0_D 11 rfl)
theorem eL_ofNumber_19 : WP (ML_ofNumber g) Q (19, [l0, l1, l2, l3, l4], [.int a], w, k, n) = (k ≤ 1 ∧ n ≤ 6 ∧ Q (.inl (some (.int a))) w) := iretI_e rfl (dt_q dL_ofNumber_0_D 12 rfl) rfl
end
theorem wk_488 : (.code yX1_ofNumber cX1_ofNumber 3 (some .int) : Jvm.Cond) ∈ WS := WS_t2 190 rfl rfl
theorem wk_485 : (.methodLink RL 36 yX1_ofNumber : Jvm.Cond) ∈ WS := WS_t2 187 rfl rfl
theorem wk_486 : (.instanceMethod yX1_ofNumber : Jvm.Cond) ∈ WS := WS_t2 188 rfl rfl
theorem wk_487 : (.selects RX1 yX1_ofNumber yX1_ofNumber : Jvm.Cond) ∈ WS := WS_t2 189 rfl rfl
theorem kc_144 {l : Launch} (hl : l.stackTraces = false) {G : GT} {own : String} {i : Nat} (hw : Jvm.Cond.methodLink own i yX1_ofNumber ∈ WS) : vCal l G own i (2, 3, 5, 7, (fun _ _ => 1), (fun _ _ => 6), yX1_ofNumber, spOf (MX1_ofNumber (gg G))) := ⟨cX1_ofNumber, 3, some .int, fun y hy => by subst hy; exact ⟨by decide, ⟨_, wk_488, okX1_ofNumber hl, Or.inl ⟨Nat.ne_of_beq_eq_false rfl, rfl⟩⟩, wk_59, nc14, ⟨(by decide +kernel : (parseMethodDescriptor yX1_ofNumber.desc).map (fun d => d.parameters.length + 1) = some 3), hw, wk_486, wk_487, (RX1, TX1, 7), rfl, rfl⟩⟩⟩
theorem vML_ofNumber {l : Launch} (hl : l.stackTraces = false) (G : GT) : vM l G (ML_ofNumber (gg G)) := vM_k RL cL_ofNumber rfl rfl (all_c (vF_RL_13) (all_n)) all_n all_n all_n all_n (fun h => absurd rfl h) (all_c (kc_144 hl wk_485) (all_n)) all_n all_n (fun h => absurd rfl h) rfl (all_c (⟨"java/lang/IndexOutOfBoundsException", by decide, rfl, by decide, wk_348⟩) (all_n))
theorem okL_ofNumber {l : Launch} (hl : l.stackTraces = false) {G : GT} : ∀ (args : List Value) (w : Hw) (S : Ot → Hw → Prop), spOf (ML_ofNumber (gg G)) args w S → CX l G yL_ofNumber (.codeWith yL_ofNumber cL_ofNumber 5 (some .int) [(0, 11, 14, 19)]) 8 1 6 args w S := CX_spH (M := ML_ofNumber (gg G)) (y := yL_ofNumber) hl (by decide) rfl (vML_ofNumber hl G) (fun h => by cases h)
abbrev dL_numberText_0_T : List (Nat × Instr × Nat) := [(0, .aload_n 2, 1), (1, .aload_n 0, 1), (2, .iload_n 1, 1), (3, .invokevirtual 40, 3), (6, .putfield 44, 3), (9, .goto 6, 3), (12, .astore_n 3, 1), (13, .iconst 1, 1), (14, .ireturn, 1), (15, .iconst 0, 1), (16, .ireturn, 1)]
theorem dL_numberText_0_D : dtc cL_numberText dL_numberText_0_T = true := by decide +kernel
def ML_numberText (g : RO) : MT := ((RL, cL_numberText, 4, 8, 8, 366, false, some .int), [(44, 6, 1)], [], [], [], [], 0, [(40, 2, 2, 5, 7, (fun _ _ => 8), (fun _ _ => 366), yX1_numberText, spOf (MX1_numberText g))], [], [], 0, [(0, 9, 12, 19)], [(19, "java/lang/IndexOutOfBoundsException")], g)
section
variable {g : RO} {Q : Ot → Hw → Prop} {st : List Value} {w : Hw} {k n p q : Nat} {a b : Int32} {x y : Int64} {u v : Value} {l0 l1 l2 l3 : Option Value}
theorem eL_numberText_0 : WP (ML_numberText g) Q (0, [l0, l1, some (.ref p), l3], st, w, k, n) = WP (ML_numberText g) Q (1, [l0, l1, some (.ref p), l3], .ref p :: st, w, k, n) := alnR_e rfl (dt_q dL_numberText_0_D 0 rfl) rfl
theorem eL_numberText_0N : WP (ML_numberText g) Q (0, [l0, l1, some .null, l3], st, w, k, n) = WP (ML_numberText g) Q (1, [l0, l1, some .null, l3], .null :: st, w, k, n) := alnN_e rfl (dt_q dL_numberText_0_D 0 rfl) rfl
theorem eL_numberText_1 : WP (ML_numberText g) Q (1, [some (.ref p), l1, l2, l3], st, w, k, n) = WP (ML_numberText g) Q (2, [some (.ref p), l1, l2, l3], .ref p :: st, w, k, n) := alnR_e rfl (dt_q dL_numberText_0_D 1 rfl) rfl
theorem eL_numberText_1N : WP (ML_numberText g) Q (1, [some .null, l1, l2, l3], st, w, k, n) = WP (ML_numberText g) Q (2, [some .null, l1, l2, l3], .null :: st, w, k, n) := alnN_e rfl (dt_q dL_numberText_0_D 1 rfl) rfl
theorem eL_numberText_2 : WP (ML_numberText g) Q (2, [l0, some (.int a), l2, l3], st, w, k, n) = WP (ML_numberText g) Q (3, [l0, some (.int a), l2, l3], .int a :: st, w, k, n) := iln_e rfl (dt_q dL_numberText_0_D 2 rfl) rfl
theorem eL_numberText_3 {z0 : Int32} : WP (ML_numberText g) Q (3, [l0, l1, l2, l3], .int z0 :: .ref p :: st, w, k, n) = (go (rd g w p) 5 (fun _ => True) ∧ wt st ≤ 8 ∧ k + 8 ≤ 8 ∧ n + 366 ≤ 366 ∧ WP (MX1_numberText g) (kx (fun v w' => WP (ML_numberText g) Q (6, [l0, l1, l2, l3], v.toList ++ st, w', k + 8, n + 366)) (fun E w' => hgo (ML_numberText g) Q (WP (ML_numberText g) Q) 3 [l0, l1, l2, l3] E w' (k + 8) (n + 366))) (0, [some (.ref p), some (.int z0), none], [], w, 0, 0)) := csVH (M := (ML_numberText g)) (mc := (fun _ _ => 8)) (ms := (fun _ _ => 366)) (As := [.int z0]) (rest := st) (MX1_numberText g) rfl (dt_q dL_numberText_0_D 3 rfl) (by exact fun h => nomatch (show (none : Option Nat) = some 11 from h)) (by exact fun h => nomatch (show (none : Option Nat) = some 15 from h)) rfl rfl (by decide) (Nat.le_of_ble_eq_true rfl) (Nat.le_of_ble_eq_true rfl) rfl
theorem eL_numberText_6 : WP (ML_numberText g) Q (6, [l0, l1, l2, l3], v :: .ref p :: st, w, k, n) = go (w p) 6 fun fs => 1 < fs.length ∧ (narrow (tyX2 1) v = v ∧ fits (tyX2 1) v = true) ∧ WP (ML_numberText g) Q (9, [l0, l1, l2, l3], st, upw w p (.inr (6, fs.set 1 v)), k, n) := put_e (q := (RX2, TX2, 2)) rfl (dt_q dL_numberText_0_D 4 rfl) rfl rfl (tyX2_ok 1 (by decide)) (Or.inl rfl)
theorem eL_numberText_9 : WP (ML_numberText g) Q (9, [l0, l1, l2, l3], st, w, k, n) = WP (ML_numberText g) Q (15, [l0, l1, l2, l3], st, w, k, n) := goto_e rfl (dt_q dL_numberText_0_D 5 rfl) (by decide)
theorem eL_numberText_12 : WP (ML_numberText g) Q (12, [l0, l1, l2, l3], .ref p :: st, w, k, n) = WP (ML_numberText g) Q (13, [l0, l1, nl l2, some (.ref p)], st, w, k, n) := asnR_e rfl (dt_q dL_numberText_0_D 6 rfl) rfl rfl
theorem eL_numberText_12N : WP (ML_numberText g) Q (12, [l0, l1, l2, l3], .null :: st, w, k, n) = WP (ML_numberText g) Q (13, [l0, l1, nl l2, some (.null)], st, w, k, n) := asnN_e rfl (dt_q dL_numberText_0_D 6 rfl) rfl rfl
theorem eL_numberText_13 : WP (ML_numberText g) Q (13, [l0, l1, l2, l3], st, w, k, n) = WP (ML_numberText g) Q (14, [l0, l1, l2, l3], .int 1 :: st, w, k, n) := ic_1 rfl (dt_q dL_numberText_0_D 7 rfl)
theorem eL_numberText_14 : WP (ML_numberText g) Q (14, [l0, l1, l2, l3], [.int a], w, k, n) = (k ≤ 8 ∧ n ≤ 366 ∧ Q (.inl (some (.int a))) w) := iretI_e rfl (dt_q dL_numberText_0_D 8 rfl) rfl
theorem eL_numberText_15 : WP (ML_numberText g) Q (15, [l0, l1, l2, l3], st, w, k, n) = WP (ML_numberText g) Q (16, [l0, l1, l2, l3], .int 0 :: st, w, k, n) := ic_0 rfl (dt_q dL_numberText_0_D 9 rfl)
theorem eL_numberText_16 : WP (ML_numberText g) Q (16, [l0, l1, l2, l3], [.int a], w, k, n) = (k ≤ 8 ∧ n ≤ 366 ∧ Q (.inl (some (.int a))) w) := iretI_e rfl (dt_q dL_numberText_0_D 10 rfl) rfl
end
theorem vF_RL_44 : vFld RL 44 6 1 := ⟨RX2, TX2, 2, tyX2, "RangecardLaw$Out", rfl, by decide, iW_6, tyX2_ok, nmX2, Or.inl rfl, Or.inr (Or.inl ⟨rfl, ⟨"RangecardLaw", List.mem_of_getElem? (i := 339) (by decide +kernel)⟩⟩)⟩
theorem wk_498 : (.code yX1_numberText cX1_numberText 3 (some (.object "java/lang/String")) : Jvm.Cond) ∈ WS := WS_t2 200 rfl rfl
theorem wk_495 : (.methodLink RL 40 yX1_numberText : Jvm.Cond) ∈ WS := WS_t2 197 rfl rfl
theorem wk_496 : (.instanceMethod yX1_numberText : Jvm.Cond) ∈ WS := WS_t2 198 rfl rfl
theorem wk_497 : (.selects RX1 yX1_numberText yX1_numberText : Jvm.Cond) ∈ WS := WS_t2 199 rfl rfl
theorem kc_145 {l : Launch} (hl : l.stackTraces = false) {G : GT} {own : String} {i : Nat} (hw : Jvm.Cond.methodLink own i yX1_numberText ∈ WS) : vCal l G own i (2, 2, 5, 7, (fun _ _ => 8), (fun _ _ => 366), yX1_numberText, spOf (MX1_numberText (gg G))) := ⟨cX1_numberText, 3, some (.object "java/lang/String"), fun y hy => by subst hy; exact ⟨by decide, ⟨_, wk_498, okX1_numberText hl, Or.inl ⟨Nat.ne_of_beq_eq_false rfl, rfl⟩⟩, wk_59, nc14, ⟨(by decide +kernel : (parseMethodDescriptor yX1_numberText.desc).map (fun d => d.parameters.length + 1) = some 2), hw, wk_496, wk_497, (RX1, TX1, 7), rfl, rfl⟩⟩⟩
theorem vML_numberText {l : Launch} (hl : l.stackTraces = false) (G : GT) : vM l G (ML_numberText (gg G)) := vM_k RL cL_numberText rfl rfl (all_c (vF_RL_44) (all_n)) all_n all_n all_n all_n (fun h => absurd rfl h) (all_c (kc_145 hl wk_495) (all_n)) all_n all_n (fun h => absurd rfl h) rfl (all_c (⟨"java/lang/IndexOutOfBoundsException", by decide, rfl, by decide, wk_348⟩) (all_n))
theorem okL_numberText {l : Launch} (hl : l.stackTraces = false) {G : GT} : ∀ (args : List Value) (w : Hw) (S : Ot → Hw → Prop), spOf (ML_numberText (gg G)) args w S → CX l G yL_numberText (.codeWith yL_numberText cL_numberText 4 (some .int) [(0, 9, 12, 19)]) 8 8 366 args w S := CX_spH (M := ML_numberText (gg G)) (y := yL_numberText) hl (by decide) rfl (vML_numberText hl G) (fun h => by cases h)
abbrev dL_order_0_T : List (Nat × Instr × Nat) := [(0, .aload_n 3, 1), (1, .aload_n 0, 1), (2, .iload_n 1, 1), (3, .iload_n 2, 1), (4, .invokevirtual 48, 3), (7, .i2l, 1), (8, .putfield 13, 3), (11, .goto 7, 3), (14, .astore 4, 2), (16, .iconst 1, 1), (17, .ireturn, 1), (18, .iconst 0, 1), (19, .ireturn, 1)]
theorem dL_order_0_D : dtc cL_order dL_order_0_T = true := by decide +kernel
def ML_order (g : RO) : MT := ((RL, cL_order, 5, 8, 2, 12, false, some .int), [(13, 6, 0)], [], [], [], [], 0, [(48, 2, 3, 5, 7, (fun _ _ => 2), (fun _ _ => 12), yX1_order, spOf (MX1_order g))], [], [], 0, [(0, 11, 14, 19)], [(19, "java/lang/IndexOutOfBoundsException")], g)
section
variable {g : RO} {Q : Ot → Hw → Prop} {st : List Value} {w : Hw} {k n p q : Nat} {a b : Int32} {x y : Int64} {u v : Value} {l0 l1 l2 l3 l4 : Option Value}
theorem eL_order_0 : WP (ML_order g) Q (0, [l0, l1, l2, some (.ref p), l4], st, w, k, n) = WP (ML_order g) Q (1, [l0, l1, l2, some (.ref p), l4], .ref p :: st, w, k, n) := alnR_e rfl (dt_q dL_order_0_D 0 rfl) rfl
theorem eL_order_0N : WP (ML_order g) Q (0, [l0, l1, l2, some .null, l4], st, w, k, n) = WP (ML_order g) Q (1, [l0, l1, l2, some .null, l4], .null :: st, w, k, n) := alnN_e rfl (dt_q dL_order_0_D 0 rfl) rfl
theorem eL_order_1 : WP (ML_order g) Q (1, [some (.ref p), l1, l2, l3, l4], st, w, k, n) = WP (ML_order g) Q (2, [some (.ref p), l1, l2, l3, l4], .ref p :: st, w, k, n) := alnR_e rfl (dt_q dL_order_0_D 1 rfl) rfl
theorem eL_order_1N : WP (ML_order g) Q (1, [some .null, l1, l2, l3, l4], st, w, k, n) = WP (ML_order g) Q (2, [some .null, l1, l2, l3, l4], .null :: st, w, k, n) := alnN_e rfl (dt_q dL_order_0_D 1 rfl) rfl
theorem eL_order_2 : WP (ML_order g) Q (2, [l0, some (.int a), l2, l3, l4], st, w, k, n) = WP (ML_order g) Q (3, [l0, some (.int a), l2, l3, l4], .int a :: st, w, k, n) := iln_e rfl (dt_q dL_order_0_D 2 rfl) rfl
theorem eL_order_3 : WP (ML_order g) Q (3, [l0, l1, some (.int a), l3, l4], st, w, k, n) = WP (ML_order g) Q (4, [l0, l1, some (.int a), l3, l4], .int a :: st, w, k, n) := iln_e rfl (dt_q dL_order_0_D 3 rfl) rfl
theorem eL_order_4 {z0 : Int32} {z1 : Int32} : WP (ML_order g) Q (4, [l0, l1, l2, l3, l4], .int z1 :: .int z0 :: .ref p :: st, w, k, n) = (go (rd g w p) 5 (fun _ => True) ∧ wt st ≤ 8 ∧ k + 2 ≤ 2 ∧ n + 12 ≤ 12 ∧ WP (MX1_order g) (kx (fun v w' => WP (ML_order g) Q (7, [l0, l1, l2, l3, l4], v.toList ++ st, w', k + 2, n + 12)) (fun E w' => hgo (ML_order g) Q (WP (ML_order g) Q) 4 [l0, l1, l2, l3, l4] E w' (k + 2) (n + 12))) (0, [some (.ref p), some (.int z0), some (.int z1)], [], w, 0, 0)) := csVH (M := (ML_order g)) (mc := (fun _ _ => 2)) (ms := (fun _ _ => 12)) (As := [.int z0, .int z1]) (rest := st) (MX1_order g) rfl (dt_q dL_order_0_D 4 rfl) (by exact fun h => nomatch (show (none : Option Nat) = some 11 from h)) (by exact fun h => nomatch (show (none : Option Nat) = some 15 from h)) rfl rfl (by decide) (Nat.le_of_ble_eq_true rfl) (Nat.le_of_ble_eq_true rfl) rfl
theorem eL_order_7 : WP (ML_order g) Q (7, [l0, l1, l2, l3, l4], .int a :: st, w, k, n) = WP (ML_order g) Q (8, [l0, l1, l2, l3, l4], .long a.toInt64 :: st, w, k, n) := i2l_e rfl (dt_q dL_order_0_D 5 rfl)
theorem eL_order_8 : WP (ML_order g) Q (8, [l0, l1, l2, l3, l4], v :: .ref p :: st, w, k, n) = go (w p) 6 fun fs => 0 < fs.length ∧ (narrow (.long) v = v ∧ fits (.long) v = true) ∧ WP (ML_order g) Q (11, [l0, l1, l2, l3, l4], st, upw w p (.inr (6, fs.set 0 v)), k, n) := put_e (q := (RX2, TX2, 2)) rfl (dt_q dL_order_0_D 6 rfl) rfl rfl (tyX2_ok 0 (by decide)) (Or.inl rfl)
theorem eL_order_11 : WP (ML_order g) Q (11, [l0, l1, l2, l3, l4], st, w, k, n) = WP (ML_order g) Q (18, [l0, l1, l2, l3, l4], st, w, k, n) := goto_e rfl (dt_q dL_order_0_D 7 rfl) (by decide)
theorem eL_order_14 : WP (ML_order g) Q (14, [l0, l1, l2, l3, l4], .ref p :: st, w, k, n) = WP (ML_order g) Q (16, [l0, l1, l2, nl l3, some (.ref p)], st, w, k, n) := asR_e rfl (dt_q dL_order_0_D 8 rfl) rfl rfl
theorem eL_order_14N : WP (ML_order g) Q (14, [l0, l1, l2, l3, l4], .null :: st, w, k, n) = WP (ML_order g) Q (16, [l0, l1, l2, nl l3, some (.null)], st, w, k, n) := asN_e rfl (dt_q dL_order_0_D 8 rfl) rfl rfl
theorem eL_order_16 : WP (ML_order g) Q (16, [l0, l1, l2, l3, l4], st, w, k, n) = WP (ML_order g) Q (17, [l0, l1, l2, l3, l4], .int 1 :: st, w, k, n) := ic_1 rfl (dt_q dL_order_0_D 9 rfl)
theorem eL_order_17 : WP (ML_order g) Q (17, [l0, l1, l2, l3, l4], [.int a], w, k, n) = (k ≤ 2 ∧ n ≤ 12 ∧ Q (.inl (some (.int a))) w) := iretI_e rfl (dt_q dL_order_0_D 10 rfl) rfl
theorem eL_order_18 : WP (ML_order g) Q (18, [l0, l1, l2, l3, l4], st, w, k, n) = WP (ML_order g) Q (19, [l0, l1, l2, l3, l4], .int 0 :: st, w, k, n) := ic_0 rfl (dt_q dL_order_0_D 11 rfl)
theorem eL_order_19 : WP (ML_order g) Q (19, [l0, l1, l2, l3, l4], [.int a], w, k, n) = (k ≤ 2 ∧ n ≤ 12 ∧ Q (.inl (some (.int a))) w) := iretI_e rfl (dt_q dL_order_0_D 12 rfl) rfl
end
theorem wk_808 : (.code yX1_order cX1_order 3 (some .int) : Jvm.Cond) ∈ WS := WS_t4 30 rfl rfl
theorem wk_805 : (.methodLink RL 48 yX1_order : Jvm.Cond) ∈ WS := WS_t4 27 rfl rfl
theorem wk_806 : (.instanceMethod yX1_order : Jvm.Cond) ∈ WS := WS_t4 28 rfl rfl
theorem wk_807 : (.selects RX1 yX1_order yX1_order : Jvm.Cond) ∈ WS := WS_t4 29 rfl rfl
theorem kc_146 {l : Launch} (hl : l.stackTraces = false) {G : GT} {own : String} {i : Nat} (hw : Jvm.Cond.methodLink own i yX1_order ∈ WS) : vCal l G own i (2, 3, 5, 7, (fun _ _ => 2), (fun _ _ => 12), yX1_order, spOf (MX1_order (gg G))) := ⟨cX1_order, 3, some .int, fun y hy => by subst hy; exact ⟨by decide, ⟨_, wk_808, okX1_order hl, Or.inl ⟨Nat.ne_of_beq_eq_false rfl, rfl⟩⟩, wk_59, nc14, ⟨(by decide +kernel : (parseMethodDescriptor yX1_order.desc).map (fun d => d.parameters.length + 1) = some 3), hw, wk_806, wk_807, (RX1, TX1, 7), rfl, rfl⟩⟩⟩
theorem vML_order {l : Launch} (hl : l.stackTraces = false) (G : GT) : vM l G (ML_order (gg G)) := vM_k RL cL_order rfl rfl (all_c (vF_RL_13) (all_n)) all_n all_n all_n all_n (fun h => absurd rfl h) (all_c (kc_146 hl wk_805) (all_n)) all_n all_n (fun h => absurd rfl h) rfl (all_c (⟨"java/lang/IndexOutOfBoundsException", by decide, rfl, by decide, wk_348⟩) (all_n))
theorem okL_order {l : Launch} (hl : l.stackTraces = false) {G : GT} : ∀ (args : List Value) (w : Hw) (S : Ot → Hw → Prop), spOf (ML_order (gg G)) args w S → CX l G yL_order (.codeWith yL_order cL_order 5 (some .int) [(0, 11, 14, 19)]) 8 2 12 args w S := CX_spH (M := ML_order (gg G)) (y := yL_order) hl (by decide) rfl (vML_order hl G) (fun h => by cases h)
abbrev dL_two_0_T : List (Nat × Instr × Nat) := [(0, .aload 4, 2), (2, .aload_n 0, 1), (3, .iload_n 1, 1), (4, .iload_n 2, 1), (5, .iload_n 3, 1), (6, .invokevirtual 51, 3), (9, .i2l, 1), (10, .putfield 13, 3), (13, .goto 7, 3), (16, .astore 5, 2), (18, .iconst 1, 1), (19, .ireturn, 1), (20, .iconst 0, 1), (21, .ireturn, 1)]
theorem dL_two_0_D : dtc cL_two dL_two_0_T = true := by decide +kernel
def ML_two (g : RO) : MT := ((RL, cL_two, 6, 8, 4, 22, false, some .int), [(13, 6, 0)], [], [], [], [], 0, [(51, 2, 4, 5, 7, (fun _ _ => 4), (fun _ _ => 22), yX1_two, spOf (MX1_two g))], [], [], 0, [(0, 13, 16, 19)], [(19, "java/lang/IndexOutOfBoundsException")], g)
section
variable {g : RO} {Q : Ot → Hw → Prop} {st : List Value} {w : Hw} {k n p q : Nat} {a b : Int32} {x y : Int64} {u v : Value} {l0 l1 l2 l3 l4 l5 : Option Value}
theorem eL_two_0 : WP (ML_two g) Q (0, [l0, l1, l2, l3, some (.ref p), l5], st, w, k, n) = WP (ML_two g) Q (2, [l0, l1, l2, l3, some (.ref p), l5], .ref p :: st, w, k, n) := alR_e rfl (dt_q dL_two_0_D 0 rfl) rfl
theorem eL_two_0N : WP (ML_two g) Q (0, [l0, l1, l2, l3, some .null, l5], st, w, k, n) = WP (ML_two g) Q (2, [l0, l1, l2, l3, some .null, l5], .null :: st, w, k, n) := alN_e rfl (dt_q dL_two_0_D 0 rfl) rfl
theorem eL_two_2 : WP (ML_two g) Q (2, [some (.ref p), l1, l2, l3, l4, l5], st, w, k, n) = WP (ML_two g) Q (3, [some (.ref p), l1, l2, l3, l4, l5], .ref p :: st, w, k, n) := alnR_e rfl (dt_q dL_two_0_D 1 rfl) rfl
theorem eL_two_2N : WP (ML_two g) Q (2, [some .null, l1, l2, l3, l4, l5], st, w, k, n) = WP (ML_two g) Q (3, [some .null, l1, l2, l3, l4, l5], .null :: st, w, k, n) := alnN_e rfl (dt_q dL_two_0_D 1 rfl) rfl
theorem eL_two_3 : WP (ML_two g) Q (3, [l0, some (.int a), l2, l3, l4, l5], st, w, k, n) = WP (ML_two g) Q (4, [l0, some (.int a), l2, l3, l4, l5], .int a :: st, w, k, n) := iln_e rfl (dt_q dL_two_0_D 2 rfl) rfl
theorem eL_two_4 : WP (ML_two g) Q (4, [l0, l1, some (.int a), l3, l4, l5], st, w, k, n) = WP (ML_two g) Q (5, [l0, l1, some (.int a), l3, l4, l5], .int a :: st, w, k, n) := iln_e rfl (dt_q dL_two_0_D 3 rfl) rfl
theorem eL_two_5 : WP (ML_two g) Q (5, [l0, l1, l2, some (.int a), l4, l5], st, w, k, n) = WP (ML_two g) Q (6, [l0, l1, l2, some (.int a), l4, l5], .int a :: st, w, k, n) := iln_e rfl (dt_q dL_two_0_D 4 rfl) rfl
theorem eL_two_6 {z0 : Int32} {z1 : Int32} {z2 : Int32} : WP (ML_two g) Q (6, [l0, l1, l2, l3, l4, l5], .int z2 :: .int z1 :: .int z0 :: .ref p :: st, w, k, n) = (go (rd g w p) 5 (fun _ => True) ∧ wt st ≤ 8 ∧ k + 4 ≤ 4 ∧ n + 22 ≤ 22 ∧ WP (MX1_two g) (kx (fun v w' => WP (ML_two g) Q (9, [l0, l1, l2, l3, l4, l5], v.toList ++ st, w', k + 4, n + 22)) (fun E w' => hgo (ML_two g) Q (WP (ML_two g) Q) 6 [l0, l1, l2, l3, l4, l5] E w' (k + 4) (n + 22))) (0, [some (.ref p), some (.int z0), some (.int z1), some (.int z2)], [], w, 0, 0)) := csVH (M := (ML_two g)) (mc := (fun _ _ => 4)) (ms := (fun _ _ => 22)) (As := [.int z0, .int z1, .int z2]) (rest := st) (MX1_two g) rfl (dt_q dL_two_0_D 5 rfl) (by exact fun h => nomatch (show (none : Option Nat) = some 11 from h)) (by exact fun h => nomatch (show (none : Option Nat) = some 15 from h)) rfl rfl (by decide) (Nat.le_of_ble_eq_true rfl) (Nat.le_of_ble_eq_true rfl) rfl
theorem eL_two_9 : WP (ML_two g) Q (9, [l0, l1, l2, l3, l4, l5], .int a :: st, w, k, n) = WP (ML_two g) Q (10, [l0, l1, l2, l3, l4, l5], .long a.toInt64 :: st, w, k, n) := i2l_e rfl (dt_q dL_two_0_D 6 rfl)
theorem eL_two_10 : WP (ML_two g) Q (10, [l0, l1, l2, l3, l4, l5], v :: .ref p :: st, w, k, n) = go (w p) 6 fun fs => 0 < fs.length ∧ (narrow (.long) v = v ∧ fits (.long) v = true) ∧ WP (ML_two g) Q (13, [l0, l1, l2, l3, l4, l5], st, upw w p (.inr (6, fs.set 0 v)), k, n) := put_e (q := (RX2, TX2, 2)) rfl (dt_q dL_two_0_D 7 rfl) rfl rfl (tyX2_ok 0 (by decide)) (Or.inl rfl)
theorem eL_two_13 : WP (ML_two g) Q (13, [l0, l1, l2, l3, l4, l5], st, w, k, n) = WP (ML_two g) Q (20, [l0, l1, l2, l3, l4, l5], st, w, k, n) := goto_e rfl (dt_q dL_two_0_D 8 rfl) (by decide)
theorem eL_two_16 : WP (ML_two g) Q (16, [l0, l1, l2, l3, l4, l5], .ref p :: st, w, k, n) = WP (ML_two g) Q (18, [l0, l1, l2, l3, nl l4, some (.ref p)], st, w, k, n) := asR_e rfl (dt_q dL_two_0_D 9 rfl) rfl rfl
theorem eL_two_16N : WP (ML_two g) Q (16, [l0, l1, l2, l3, l4, l5], .null :: st, w, k, n) = WP (ML_two g) Q (18, [l0, l1, l2, l3, nl l4, some (.null)], st, w, k, n) := asN_e rfl (dt_q dL_two_0_D 9 rfl) rfl rfl
theorem eL_two_18 : WP (ML_two g) Q (18, [l0, l1, l2, l3, l4, l5], st, w, k, n) = WP (ML_two g) Q (19, [l0, l1, l2, l3, l4, l5], .int 1 :: st, w, k, n) := ic_1 rfl (dt_q dL_two_0_D 10 rfl)
theorem eL_two_19 : WP (ML_two g) Q (19, [l0, l1, l2, l3, l4, l5], [.int a], w, k, n) = (k ≤ 4 ∧ n ≤ 22 ∧ Q (.inl (some (.int a))) w) := iretI_e rfl (dt_q dL_two_0_D 11 rfl) rfl
theorem eL_two_20 : WP (ML_two g) Q (20, [l0, l1, l2, l3, l4, l5], st, w, k, n) = WP (ML_two g) Q (21, [l0, l1, l2, l3, l4, l5], .int 0 :: st, w, k, n) := ic_0 rfl (dt_q dL_two_0_D 12 rfl)
theorem eL_two_21 : WP (ML_two g) Q (21, [l0, l1, l2, l3, l4, l5], [.int a], w, k, n) = (k ≤ 4 ∧ n ≤ 22 ∧ Q (.inl (some (.int a))) w) := iretI_e rfl (dt_q dL_two_0_D 13 rfl) rfl
end
theorem wk_815 : (.code yX1_two cX1_two 4 (some .int) : Jvm.Cond) ∈ WS := WS_t4 37 rfl rfl
theorem wk_812 : (.methodLink RL 51 yX1_two : Jvm.Cond) ∈ WS := WS_t4 34 rfl rfl
theorem wk_813 : (.instanceMethod yX1_two : Jvm.Cond) ∈ WS := WS_t4 35 rfl rfl
theorem wk_814 : (.selects RX1 yX1_two yX1_two : Jvm.Cond) ∈ WS := WS_t4 36 rfl rfl
theorem kc_147 {l : Launch} (hl : l.stackTraces = false) {G : GT} {own : String} {i : Nat} (hw : Jvm.Cond.methodLink own i yX1_two ∈ WS) : vCal l G own i (2, 4, 5, 7, (fun _ _ => 4), (fun _ _ => 22), yX1_two, spOf (MX1_two (gg G))) := ⟨cX1_two, 4, some .int, fun y hy => by subst hy; exact ⟨by decide, ⟨_, wk_815, okX1_two hl, Or.inl ⟨Nat.ne_of_beq_eq_false rfl, rfl⟩⟩, wk_59, nc14, ⟨(by decide +kernel : (parseMethodDescriptor yX1_two.desc).map (fun d => d.parameters.length + 1) = some 4), hw, wk_813, wk_814, (RX1, TX1, 7), rfl, rfl⟩⟩⟩
theorem vML_two {l : Launch} (hl : l.stackTraces = false) (G : GT) : vM l G (ML_two (gg G)) := vM_k RL cL_two rfl rfl (all_c (vF_RL_13) (all_n)) all_n all_n all_n all_n (fun h => absurd rfl h) (all_c (kc_147 hl wk_812) (all_n)) all_n all_n (fun h => absurd rfl h) rfl (all_c (⟨"java/lang/IndexOutOfBoundsException", by decide, rfl, by decide, wk_348⟩) (all_n))
theorem okL_two {l : Launch} (hl : l.stackTraces = false) {G : GT} : ∀ (args : List Value) (w : Hw) (S : Ot → Hw → Prop), spOf (ML_two (gg G)) args w S → CX l G yL_two (.codeWith yL_two cL_two 6 (some .int) [(0, 13, 16, 19)]) 8 4 22 args w S := CX_spH (M := ML_two (gg G)) (y := yL_two) hl (by decide) rfl (vML_two hl G) (fun h => by cases h)
abbrev dL_three_0_T : List (Nat × Instr × Nat) := [(0, .aload 5, 2), (2, .aload_n 0, 1), (3, .iload_n 1, 1), (4, .iload_n 2, 1), (5, .iload_n 3, 1), (6, .iload 4, 2), (8, .invokevirtual 54, 3), (11, .i2l, 1), (12, .putfield 13, 3), (15, .goto 7, 3), (18, .astore 6, 2), (20, .iconst 1, 1), (21, .ireturn, 1), (22, .iconst 0, 1), (23, .ireturn, 1)]
theorem dL_three_0_D : dtc cL_three dL_three_0_T = true := by decide +kernel
def ML_three (g : RO) : MT := ((RL, cL_three, 7, 8, 5, 28, false, some .int), [(13, 6, 0)], [], [], [], [], 0, [(54, 2, 5, 5, 7, (fun _ _ => 5), (fun _ _ => 28), yX1_three, spOf (MX1_three g))], [], [], 0, [(0, 15, 18, 19)], [(19, "java/lang/IndexOutOfBoundsException")], g)
section
variable {g : RO} {Q : Ot → Hw → Prop} {st : List Value} {w : Hw} {k n p q : Nat} {a b : Int32} {x y : Int64} {u v : Value} {l0 l1 l2 l3 l4 l5 l6 : Option Value}
theorem eL_three_0 : WP (ML_three g) Q (0, [l0, l1, l2, l3, l4, some (.ref p), l6], st, w, k, n) = WP (ML_three g) Q (2, [l0, l1, l2, l3, l4, some (.ref p), l6], .ref p :: st, w, k, n) := alR_e rfl (dt_q dL_three_0_D 0 rfl) rfl
theorem eL_three_0N : WP (ML_three g) Q (0, [l0, l1, l2, l3, l4, some .null, l6], st, w, k, n) = WP (ML_three g) Q (2, [l0, l1, l2, l3, l4, some .null, l6], .null :: st, w, k, n) := alN_e rfl (dt_q dL_three_0_D 0 rfl) rfl
theorem eL_three_2 : WP (ML_three g) Q (2, [some (.ref p), l1, l2, l3, l4, l5, l6], st, w, k, n) = WP (ML_three g) Q (3, [some (.ref p), l1, l2, l3, l4, l5, l6], .ref p :: st, w, k, n) := alnR_e rfl (dt_q dL_three_0_D 1 rfl) rfl
theorem eL_three_2N : WP (ML_three g) Q (2, [some .null, l1, l2, l3, l4, l5, l6], st, w, k, n) = WP (ML_three g) Q (3, [some .null, l1, l2, l3, l4, l5, l6], .null :: st, w, k, n) := alnN_e rfl (dt_q dL_three_0_D 1 rfl) rfl
theorem eL_three_3 : WP (ML_three g) Q (3, [l0, some (.int a), l2, l3, l4, l5, l6], st, w, k, n) = WP (ML_three g) Q (4, [l0, some (.int a), l2, l3, l4, l5, l6], .int a :: st, w, k, n) := iln_e rfl (dt_q dL_three_0_D 2 rfl) rfl
theorem eL_three_4 : WP (ML_three g) Q (4, [l0, l1, some (.int a), l3, l4, l5, l6], st, w, k, n) = WP (ML_three g) Q (5, [l0, l1, some (.int a), l3, l4, l5, l6], .int a :: st, w, k, n) := iln_e rfl (dt_q dL_three_0_D 3 rfl) rfl
theorem eL_three_5 : WP (ML_three g) Q (5, [l0, l1, l2, some (.int a), l4, l5, l6], st, w, k, n) = WP (ML_three g) Q (6, [l0, l1, l2, some (.int a), l4, l5, l6], .int a :: st, w, k, n) := iln_e rfl (dt_q dL_three_0_D 4 rfl) rfl
theorem eL_three_6 : WP (ML_three g) Q (6, [l0, l1, l2, l3, some (.int a), l5, l6], st, w, k, n) = WP (ML_three g) Q (8, [l0, l1, l2, l3, some (.int a), l5, l6], .int a :: st, w, k, n) := il_e rfl (dt_q dL_three_0_D 5 rfl) rfl
theorem eL_three_8 {z0 : Int32} {z1 : Int32} {z2 : Int32} {z3 : Int32} : WP (ML_three g) Q (8, [l0, l1, l2, l3, l4, l5, l6], .int z3 :: .int z2 :: .int z1 :: .int z0 :: .ref p :: st, w, k, n) = (go (rd g w p) 5 (fun _ => True) ∧ wt st ≤ 8 ∧ k + 5 ≤ 5 ∧ n + 28 ≤ 28 ∧ WP (MX1_three g) (kx (fun v w' => WP (ML_three g) Q (11, [l0, l1, l2, l3, l4, l5, l6], v.toList ++ st, w', k + 5, n + 28)) (fun E w' => hgo (ML_three g) Q (WP (ML_three g) Q) 8 [l0, l1, l2, l3, l4, l5, l6] E w' (k + 5) (n + 28))) (0, [some (.ref p), some (.int z0), some (.int z1), some (.int z2), some (.int z3)], [], w, 0, 0)) := csVH (M := (ML_three g)) (mc := (fun _ _ => 5)) (ms := (fun _ _ => 28)) (As := [.int z0, .int z1, .int z2, .int z3]) (rest := st) (MX1_three g) rfl (dt_q dL_three_0_D 6 rfl) (by exact fun h => nomatch (show (none : Option Nat) = some 11 from h)) (by exact fun h => nomatch (show (none : Option Nat) = some 15 from h)) rfl rfl (by decide) (Nat.le_of_ble_eq_true rfl) (Nat.le_of_ble_eq_true rfl) rfl
theorem eL_three_11 : WP (ML_three g) Q (11, [l0, l1, l2, l3, l4, l5, l6], .int a :: st, w, k, n) = WP (ML_three g) Q (12, [l0, l1, l2, l3, l4, l5, l6], .long a.toInt64 :: st, w, k, n) := i2l_e rfl (dt_q dL_three_0_D 7 rfl)
theorem eL_three_12 : WP (ML_three g) Q (12, [l0, l1, l2, l3, l4, l5, l6], v :: .ref p :: st, w, k, n) = go (w p) 6 fun fs => 0 < fs.length ∧ (narrow (.long) v = v ∧ fits (.long) v = true) ∧ WP (ML_three g) Q (15, [l0, l1, l2, l3, l4, l5, l6], st, upw w p (.inr (6, fs.set 0 v)), k, n) := put_e (q := (RX2, TX2, 2)) rfl (dt_q dL_three_0_D 8 rfl) rfl rfl (tyX2_ok 0 (by decide)) (Or.inl rfl)
theorem eL_three_15 : WP (ML_three g) Q (15, [l0, l1, l2, l3, l4, l5, l6], st, w, k, n) = WP (ML_three g) Q (22, [l0, l1, l2, l3, l4, l5, l6], st, w, k, n) := goto_e rfl (dt_q dL_three_0_D 9 rfl) (by decide)
theorem eL_three_18 : WP (ML_three g) Q (18, [l0, l1, l2, l3, l4, l5, l6], .ref p :: st, w, k, n) = WP (ML_three g) Q (20, [l0, l1, l2, l3, l4, nl l5, some (.ref p)], st, w, k, n) := asR_e rfl (dt_q dL_three_0_D 10 rfl) rfl rfl
theorem eL_three_18N : WP (ML_three g) Q (18, [l0, l1, l2, l3, l4, l5, l6], .null :: st, w, k, n) = WP (ML_three g) Q (20, [l0, l1, l2, l3, l4, nl l5, some (.null)], st, w, k, n) := asN_e rfl (dt_q dL_three_0_D 10 rfl) rfl rfl
theorem eL_three_20 : WP (ML_three g) Q (20, [l0, l1, l2, l3, l4, l5, l6], st, w, k, n) = WP (ML_three g) Q (21, [l0, l1, l2, l3, l4, l5, l6], .int 1 :: st, w, k, n) := ic_1 rfl (dt_q dL_three_0_D 11 rfl)
theorem eL_three_21 : WP (ML_three g) Q (21, [l0, l1, l2, l3, l4, l5, l6], [.int a], w, k, n) = (k ≤ 5 ∧ n ≤ 28 ∧ Q (.inl (some (.int a))) w) := iretI_e rfl (dt_q dL_three_0_D 12 rfl) rfl
theorem eL_three_22 : WP (ML_three g) Q (22, [l0, l1, l2, l3, l4, l5, l6], st, w, k, n) = WP (ML_three g) Q (23, [l0, l1, l2, l3, l4, l5, l6], .int 0 :: st, w, k, n) := ic_0 rfl (dt_q dL_three_0_D 13 rfl)
theorem eL_three_23 : WP (ML_three g) Q (23, [l0, l1, l2, l3, l4, l5, l6], [.int a], w, k, n) = (k ≤ 5 ∧ n ≤ 28 ∧ Q (.inl (some (.int a))) w) := iretI_e rfl (dt_q dL_three_0_D 14 rfl) rfl
end
theorem wk_834 : (.code yX1_three cX1_three 5 (some .int) : Jvm.Cond) ∈ WS := WS_t4 56 rfl rfl
theorem wk_831 : (.methodLink RL 54 yX1_three : Jvm.Cond) ∈ WS := WS_t4 53 rfl rfl
theorem wk_832 : (.instanceMethod yX1_three : Jvm.Cond) ∈ WS := WS_t4 54 rfl rfl
theorem wk_833 : (.selects RX1 yX1_three yX1_three : Jvm.Cond) ∈ WS := WS_t4 55 rfl rfl
theorem kc_148 {l : Launch} (hl : l.stackTraces = false) {G : GT} {own : String} {i : Nat} (hw : Jvm.Cond.methodLink own i yX1_three ∈ WS) : vCal l G own i (2, 5, 5, 7, (fun _ _ => 5), (fun _ _ => 28), yX1_three, spOf (MX1_three (gg G))) := ⟨cX1_three, 5, some .int, fun y hy => by subst hy; exact ⟨by decide, ⟨_, wk_834, okX1_three hl, Or.inl ⟨Nat.ne_of_beq_eq_false rfl, rfl⟩⟩, wk_59, nc14, ⟨(by decide +kernel : (parseMethodDescriptor yX1_three.desc).map (fun d => d.parameters.length + 1) = some 5), hw, wk_832, wk_833, (RX1, TX1, 7), rfl, rfl⟩⟩⟩
theorem vML_three {l : Launch} (hl : l.stackTraces = false) (G : GT) : vM l G (ML_three (gg G)) := vM_k RL cL_three rfl rfl (all_c (vF_RL_13) (all_n)) all_n all_n all_n all_n (fun h => absurd rfl h) (all_c (kc_148 hl wk_831) (all_n)) all_n all_n (fun h => absurd rfl h) rfl (all_c (⟨"java/lang/IndexOutOfBoundsException", by decide, rfl, by decide, wk_348⟩) (all_n))
theorem okL_three {l : Launch} (hl : l.stackTraces = false) {G : GT} : ∀ (args : List Value) (w : Hw) (S : Ot → Hw → Prop), spOf (ML_three (gg G)) args w S → CX l G yL_three (.codeWith yL_three cL_three 7 (some .int) [(0, 15, 18, 19)]) 8 5 28 args w S := CX_spH (M := ML_three (gg G)) (y := yL_three) hl (by decide) rfl (vML_three hl G) (fun h => by cases h)
abbrev dL_four_0_T : List (Nat × Instr × Nat) := [(0, .aload 6, 2), (2, .aload_n 0, 1), (3, .iload_n 1, 1), (4, .iload_n 2, 1), (5, .iload_n 3, 1), (6, .iload 4, 2), (8, .iload 5, 2), (10, .invokevirtual 58, 3), (13, .i2l, 1), (14, .putfield 13, 3), (17, .goto 7, 3), (20, .astore 7, 2), (22, .iconst 1, 1), (23, .ireturn, 1), (24, .iconst 0, 1), (25, .ireturn, 1)]
theorem dL_four_0_D : dtc cL_four dL_four_0_T = true := by decide +kernel
def ML_four (g : RO) : MT := ((RL, cL_four, 8, 8, 6, 34, false, some .int), [(13, 6, 0)], [], [], [], [], 0, [(58, 2, 6, 5, 7, (fun _ _ => 6), (fun _ _ => 34), yX1_four, spOf (MX1_four g))], [], [], 0, [(0, 17, 20, 19)], [(19, "java/lang/IndexOutOfBoundsException")], g)
section
variable {g : RO} {Q : Ot → Hw → Prop} {st : List Value} {w : Hw} {k n p q : Nat} {a b : Int32} {x y : Int64} {u v : Value} {l0 l1 l2 l3 l4 l5 l6 l7 : Option Value}
theorem eL_four_0 : WP (ML_four g) Q (0, [l0, l1, l2, l3, l4, l5, some (.ref p), l7], st, w, k, n) = WP (ML_four g) Q (2, [l0, l1, l2, l3, l4, l5, some (.ref p), l7], .ref p :: st, w, k, n) := alR_e rfl (dt_q dL_four_0_D 0 rfl) rfl
theorem eL_four_0N : WP (ML_four g) Q (0, [l0, l1, l2, l3, l4, l5, some .null, l7], st, w, k, n) = WP (ML_four g) Q (2, [l0, l1, l2, l3, l4, l5, some .null, l7], .null :: st, w, k, n) := alN_e rfl (dt_q dL_four_0_D 0 rfl) rfl
theorem eL_four_2 : WP (ML_four g) Q (2, [some (.ref p), l1, l2, l3, l4, l5, l6, l7], st, w, k, n) = WP (ML_four g) Q (3, [some (.ref p), l1, l2, l3, l4, l5, l6, l7], .ref p :: st, w, k, n) := alnR_e rfl (dt_q dL_four_0_D 1 rfl) rfl
theorem eL_four_2N : WP (ML_four g) Q (2, [some .null, l1, l2, l3, l4, l5, l6, l7], st, w, k, n) = WP (ML_four g) Q (3, [some .null, l1, l2, l3, l4, l5, l6, l7], .null :: st, w, k, n) := alnN_e rfl (dt_q dL_four_0_D 1 rfl) rfl
theorem eL_four_3 : WP (ML_four g) Q (3, [l0, some (.int a), l2, l3, l4, l5, l6, l7], st, w, k, n) = WP (ML_four g) Q (4, [l0, some (.int a), l2, l3, l4, l5, l6, l7], .int a :: st, w, k, n) := iln_e rfl (dt_q dL_four_0_D 2 rfl) rfl
theorem eL_four_4 : WP (ML_four g) Q (4, [l0, l1, some (.int a), l3, l4, l5, l6, l7], st, w, k, n) = WP (ML_four g) Q (5, [l0, l1, some (.int a), l3, l4, l5, l6, l7], .int a :: st, w, k, n) := iln_e rfl (dt_q dL_four_0_D 3 rfl) rfl
theorem eL_four_5 : WP (ML_four g) Q (5, [l0, l1, l2, some (.int a), l4, l5, l6, l7], st, w, k, n) = WP (ML_four g) Q (6, [l0, l1, l2, some (.int a), l4, l5, l6, l7], .int a :: st, w, k, n) := iln_e rfl (dt_q dL_four_0_D 4 rfl) rfl
theorem eL_four_6 : WP (ML_four g) Q (6, [l0, l1, l2, l3, some (.int a), l5, l6, l7], st, w, k, n) = WP (ML_four g) Q (8, [l0, l1, l2, l3, some (.int a), l5, l6, l7], .int a :: st, w, k, n) := il_e rfl (dt_q dL_four_0_D 5 rfl) rfl
theorem eL_four_8 : WP (ML_four g) Q (8, [l0, l1, l2, l3, l4, some (.int a), l6, l7], st, w, k, n) = WP (ML_four g) Q (10, [l0, l1, l2, l3, l4, some (.int a), l6, l7], .int a :: st, w, k, n) := il_e rfl (dt_q dL_four_0_D 6 rfl) rfl
theorem eL_four_10 {z0 : Int32} {z1 : Int32} {z2 : Int32} {z3 : Int32} {z4 : Int32} : WP (ML_four g) Q (10, [l0, l1, l2, l3, l4, l5, l6, l7], .int z4 :: .int z3 :: .int z2 :: .int z1 :: .int z0 :: .ref p :: st, w, k, n) = (go (rd g w p) 5 (fun _ => True) ∧ wt st ≤ 8 ∧ k + 6 ≤ 6 ∧ n + 34 ≤ 34 ∧ WP (MX1_four g) (kx (fun v w' => WP (ML_four g) Q (13, [l0, l1, l2, l3, l4, l5, l6, l7], v.toList ++ st, w', k + 6, n + 34)) (fun E w' => hgo (ML_four g) Q (WP (ML_four g) Q) 10 [l0, l1, l2, l3, l4, l5, l6, l7] E w' (k + 6) (n + 34))) (0, [some (.ref p), some (.int z0), some (.int z1), some (.int z2), some (.int z3), some (.int z4)], [], w, 0, 0)) := csVH (M := (ML_four g)) (mc := (fun _ _ => 6)) (ms := (fun _ _ => 34)) (As := [.int z0, .int z1, .int z2, .int z3, .int z4]) (rest := st) (MX1_four g) rfl (dt_q dL_four_0_D 7 rfl) (by exact fun h => nomatch (show (none : Option Nat) = some 11 from h)) (by exact fun h => nomatch (show (none : Option Nat) = some 15 from h)) rfl rfl (by decide) (Nat.le_of_ble_eq_true rfl) (Nat.le_of_ble_eq_true rfl) rfl
theorem eL_four_13 : WP (ML_four g) Q (13, [l0, l1, l2, l3, l4, l5, l6, l7], .int a :: st, w, k, n) = WP (ML_four g) Q (14, [l0, l1, l2, l3, l4, l5, l6, l7], .long a.toInt64 :: st, w, k, n) := i2l_e rfl (dt_q dL_four_0_D 8 rfl)
theorem eL_four_14 : WP (ML_four g) Q (14, [l0, l1, l2, l3, l4, l5, l6, l7], v :: .ref p :: st, w, k, n) = go (w p) 6 fun fs => 0 < fs.length ∧ (narrow (.long) v = v ∧ fits (.long) v = true) ∧ WP (ML_four g) Q (17, [l0, l1, l2, l3, l4, l5, l6, l7], st, upw w p (.inr (6, fs.set 0 v)), k, n) := put_e (q := (RX2, TX2, 2)) rfl (dt_q dL_four_0_D 9 rfl) rfl rfl (tyX2_ok 0 (by decide)) (Or.inl rfl)
theorem eL_four_17 : WP (ML_four g) Q (17, [l0, l1, l2, l3, l4, l5, l6, l7], st, w, k, n) = WP (ML_four g) Q (24, [l0, l1, l2, l3, l4, l5, l6, l7], st, w, k, n) := goto_e rfl (dt_q dL_four_0_D 10 rfl) (by decide)
theorem eL_four_20 : WP (ML_four g) Q (20, [l0, l1, l2, l3, l4, l5, l6, l7], .ref p :: st, w, k, n) = WP (ML_four g) Q (22, [l0, l1, l2, l3, l4, l5, nl l6, some (.ref p)], st, w, k, n) := asR_e rfl (dt_q dL_four_0_D 11 rfl) rfl rfl
theorem eL_four_20N : WP (ML_four g) Q (20, [l0, l1, l2, l3, l4, l5, l6, l7], .null :: st, w, k, n) = WP (ML_four g) Q (22, [l0, l1, l2, l3, l4, l5, nl l6, some (.null)], st, w, k, n) := asN_e rfl (dt_q dL_four_0_D 11 rfl) rfl rfl
theorem eL_four_22 : WP (ML_four g) Q (22, [l0, l1, l2, l3, l4, l5, l6, l7], st, w, k, n) = WP (ML_four g) Q (23, [l0, l1, l2, l3, l4, l5, l6, l7], .int 1 :: st, w, k, n) := ic_1 rfl (dt_q dL_four_0_D 12 rfl)
theorem eL_four_23 : WP (ML_four g) Q (23, [l0, l1, l2, l3, l4, l5, l6, l7], [.int a], w, k, n) = (k ≤ 6 ∧ n ≤ 34 ∧ Q (.inl (some (.int a))) w) := iretI_e rfl (dt_q dL_four_0_D 13 rfl) rfl
theorem eL_four_24 : WP (ML_four g) Q (24, [l0, l1, l2, l3, l4, l5, l6, l7], st, w, k, n) = WP (ML_four g) Q (25, [l0, l1, l2, l3, l4, l5, l6, l7], .int 0 :: st, w, k, n) := ic_0 rfl (dt_q dL_four_0_D 14 rfl)
theorem eL_four_25 : WP (ML_four g) Q (25, [l0, l1, l2, l3, l4, l5, l6, l7], [.int a], w, k, n) = (k ≤ 6 ∧ n ≤ 34 ∧ Q (.inl (some (.int a))) w) := iretI_e rfl (dt_q dL_four_0_D 15 rfl) rfl
end
theorem wk_844 : (.code yX1_four cX1_four 6 (some .int) : Jvm.Cond) ∈ WS := WS_t4 66 rfl rfl
theorem wk_841 : (.methodLink RL 58 yX1_four : Jvm.Cond) ∈ WS := WS_t4 63 rfl rfl
theorem wk_842 : (.instanceMethod yX1_four : Jvm.Cond) ∈ WS := WS_t4 64 rfl rfl
theorem wk_843 : (.selects RX1 yX1_four yX1_four : Jvm.Cond) ∈ WS := WS_t4 65 rfl rfl
theorem kc_149 {l : Launch} (hl : l.stackTraces = false) {G : GT} {own : String} {i : Nat} (hw : Jvm.Cond.methodLink own i yX1_four ∈ WS) : vCal l G own i (2, 6, 5, 7, (fun _ _ => 6), (fun _ _ => 34), yX1_four, spOf (MX1_four (gg G))) := ⟨cX1_four, 6, some .int, fun y hy => by subst hy; exact ⟨by decide, ⟨_, wk_844, okX1_four hl, Or.inl ⟨Nat.ne_of_beq_eq_false rfl, rfl⟩⟩, wk_59, nc14, ⟨(by decide +kernel : (parseMethodDescriptor yX1_four.desc).map (fun d => d.parameters.length + 1) = some 6), hw, wk_842, wk_843, (RX1, TX1, 7), rfl, rfl⟩⟩⟩
theorem vML_four {l : Launch} (hl : l.stackTraces = false) (G : GT) : vM l G (ML_four (gg G)) := vM_k RL cL_four rfl rfl (all_c (vF_RL_13) (all_n)) all_n all_n all_n all_n (fun h => absurd rfl h) (all_c (kc_149 hl wk_841) (all_n)) all_n all_n (fun h => absurd rfl h) rfl (all_c (⟨"java/lang/IndexOutOfBoundsException", by decide, rfl, by decide, wk_348⟩) (all_n))
theorem okL_four {l : Launch} (hl : l.stackTraces = false) {G : GT} : ∀ (args : List Value) (w : Hw) (S : Ot → Hw → Prop), spOf (ML_four (gg G)) args w S → CX l G yL_four (.codeWith yL_four cL_four 8 (some .int) [(0, 17, 20, 19)]) 8 6 34 args w S := CX_spH (M := ML_four (gg G)) (y := yL_four) hl (by decide) rfl (vML_four hl G) (fun h => by cases h)
end
/-! 69.law02.lean.txt -/
section
abbrev dL_twoSmall_0_T : List (Nat × Instr × Nat) := [(0, .aload 4, 2), (2, .aload_n 0, 1), (3, .iload_n 1, 1), (4, .iload_n 2, 1), (5, .iload_n 3, 1), (6, .invokevirtual 62, 3), (9, .i2l, 1), (10, .putfield 13, 3), (13, .goto 7, 3), (16, .astore 5, 2), (18, .iconst 1, 1), (19, .ireturn, 1), (20, .iconst 0, 1), (21, .ireturn, 1)]
theorem dL_twoSmall_0_D : dtc cL_twoSmall dL_twoSmall_0_T = true := by decide +kernel
def ML_twoSmall (g : RO) : MT := ((RL, cL_twoSmall, 6, 8, 2, 10, false, some .int), [(13, 6, 0)], [], [], [], [], 0, [(62, 2, 4, 5, 7, (fun _ _ => 2), (fun _ _ => 10), yX1_twoSmall, spOf (MX1_twoSmall g))], [], [], 0, [(0, 13, 16, 19)], [(19, "java/lang/IndexOutOfBoundsException")], g)
section
variable {g : RO} {Q : Ot → Hw → Prop} {st : List Value} {w : Hw} {k n p q : Nat} {a b : Int32} {x y : Int64} {u v : Value} {l0 l1 l2 l3 l4 l5 : Option Value}
theorem eL_twoSmall_0 : WP (ML_twoSmall g) Q (0, [l0, l1, l2, l3, some (.ref p), l5], st, w, k, n) = WP (ML_twoSmall g) Q (2, [l0, l1, l2, l3, some (.ref p), l5], .ref p :: st, w, k, n) := alR_e rfl (dt_q dL_twoSmall_0_D 0 rfl) rfl
theorem eL_twoSmall_0N : WP (ML_twoSmall g) Q (0, [l0, l1, l2, l3, some .null, l5], st, w, k, n) = WP (ML_twoSmall g) Q (2, [l0, l1, l2, l3, some .null, l5], .null :: st, w, k, n) := alN_e rfl (dt_q dL_twoSmall_0_D 0 rfl) rfl
theorem eL_twoSmall_2 : WP (ML_twoSmall g) Q (2, [some (.ref p), l1, l2, l3, l4, l5], st, w, k, n) = WP (ML_twoSmall g) Q (3, [some (.ref p), l1, l2, l3, l4, l5], .ref p :: st, w, k, n) := alnR_e rfl (dt_q dL_twoSmall_0_D 1 rfl) rfl
theorem eL_twoSmall_2N : WP (ML_twoSmall g) Q (2, [some .null, l1, l2, l3, l4, l5], st, w, k, n) = WP (ML_twoSmall g) Q (3, [some .null, l1, l2, l3, l4, l5], .null :: st, w, k, n) := alnN_e rfl (dt_q dL_twoSmall_0_D 1 rfl) rfl
theorem eL_twoSmall_3 : WP (ML_twoSmall g) Q (3, [l0, some (.int a), l2, l3, l4, l5], st, w, k, n) = WP (ML_twoSmall g) Q (4, [l0, some (.int a), l2, l3, l4, l5], .int a :: st, w, k, n) := iln_e rfl (dt_q dL_twoSmall_0_D 2 rfl) rfl
theorem eL_twoSmall_4 : WP (ML_twoSmall g) Q (4, [l0, l1, some (.int a), l3, l4, l5], st, w, k, n) = WP (ML_twoSmall g) Q (5, [l0, l1, some (.int a), l3, l4, l5], .int a :: st, w, k, n) := iln_e rfl (dt_q dL_twoSmall_0_D 3 rfl) rfl
theorem eL_twoSmall_5 : WP (ML_twoSmall g) Q (5, [l0, l1, l2, some (.int a), l4, l5], st, w, k, n) = WP (ML_twoSmall g) Q (6, [l0, l1, l2, some (.int a), l4, l5], .int a :: st, w, k, n) := iln_e rfl (dt_q dL_twoSmall_0_D 4 rfl) rfl
theorem eL_twoSmall_6 {z0 : Int32} {z1 : Int32} {z2 : Int32} : WP (ML_twoSmall g) Q (6, [l0, l1, l2, l3, l4, l5], .int z2 :: .int z1 :: .int z0 :: .ref p :: st, w, k, n) = (go (rd g w p) 5 (fun _ => True) ∧ wt st ≤ 8 ∧ k + 2 ≤ 2 ∧ n + 10 ≤ 10 ∧ WP (MX1_twoSmall g) (kx (fun v w' => WP (ML_twoSmall g) Q (9, [l0, l1, l2, l3, l4, l5], v.toList ++ st, w', k + 2, n + 10)) (fun E w' => hgo (ML_twoSmall g) Q (WP (ML_twoSmall g) Q) 6 [l0, l1, l2, l3, l4, l5] E w' (k + 2) (n + 10))) (0, [some (.ref p), some (.int z0), some (.int z1), some (.int z2)], [], w, 0, 0)) := csVH (M := (ML_twoSmall g)) (mc := (fun _ _ => 2)) (ms := (fun _ _ => 10)) (As := [.int z0, .int z1, .int z2]) (rest := st) (MX1_twoSmall g) rfl (dt_q dL_twoSmall_0_D 5 rfl) (by exact fun h => nomatch (show (none : Option Nat) = some 11 from h)) (by exact fun h => nomatch (show (none : Option Nat) = some 15 from h)) rfl rfl (by decide) (Nat.le_of_ble_eq_true rfl) (Nat.le_of_ble_eq_true rfl) rfl
theorem eL_twoSmall_9 : WP (ML_twoSmall g) Q (9, [l0, l1, l2, l3, l4, l5], .int a :: st, w, k, n) = WP (ML_twoSmall g) Q (10, [l0, l1, l2, l3, l4, l5], .long a.toInt64 :: st, w, k, n) := i2l_e rfl (dt_q dL_twoSmall_0_D 6 rfl)
theorem eL_twoSmall_10 : WP (ML_twoSmall g) Q (10, [l0, l1, l2, l3, l4, l5], v :: .ref p :: st, w, k, n) = go (w p) 6 fun fs => 0 < fs.length ∧ (narrow (.long) v = v ∧ fits (.long) v = true) ∧ WP (ML_twoSmall g) Q (13, [l0, l1, l2, l3, l4, l5], st, upw w p (.inr (6, fs.set 0 v)), k, n) := put_e (q := (RX2, TX2, 2)) rfl (dt_q dL_twoSmall_0_D 7 rfl) rfl rfl (tyX2_ok 0 (by decide)) (Or.inl rfl)
theorem eL_twoSmall_13 : WP (ML_twoSmall g) Q (13, [l0, l1, l2, l3, l4, l5], st, w, k, n) = WP (ML_twoSmall g) Q (20, [l0, l1, l2, l3, l4, l5], st, w, k, n) := goto_e rfl (dt_q dL_twoSmall_0_D 8 rfl) (by decide)
theorem eL_twoSmall_16 : WP (ML_twoSmall g) Q (16, [l0, l1, l2, l3, l4, l5], .ref p :: st, w, k, n) = WP (ML_twoSmall g) Q (18, [l0, l1, l2, l3, nl l4, some (.ref p)], st, w, k, n) := asR_e rfl (dt_q dL_twoSmall_0_D 9 rfl) rfl rfl
theorem eL_twoSmall_16N : WP (ML_twoSmall g) Q (16, [l0, l1, l2, l3, l4, l5], .null :: st, w, k, n) = WP (ML_twoSmall g) Q (18, [l0, l1, l2, l3, nl l4, some (.null)], st, w, k, n) := asN_e rfl (dt_q dL_twoSmall_0_D 9 rfl) rfl rfl
theorem eL_twoSmall_18 : WP (ML_twoSmall g) Q (18, [l0, l1, l2, l3, l4, l5], st, w, k, n) = WP (ML_twoSmall g) Q (19, [l0, l1, l2, l3, l4, l5], .int 1 :: st, w, k, n) := ic_1 rfl (dt_q dL_twoSmall_0_D 10 rfl)
theorem eL_twoSmall_19 : WP (ML_twoSmall g) Q (19, [l0, l1, l2, l3, l4, l5], [.int a], w, k, n) = (k ≤ 2 ∧ n ≤ 10 ∧ Q (.inl (some (.int a))) w) := iretI_e rfl (dt_q dL_twoSmall_0_D 11 rfl) rfl
theorem eL_twoSmall_20 : WP (ML_twoSmall g) Q (20, [l0, l1, l2, l3, l4, l5], st, w, k, n) = WP (ML_twoSmall g) Q (21, [l0, l1, l2, l3, l4, l5], .int 0 :: st, w, k, n) := ic_0 rfl (dt_q dL_twoSmall_0_D 12 rfl)
theorem eL_twoSmall_21 : WP (ML_twoSmall g) Q (21, [l0, l1, l2, l3, l4, l5], [.int a], w, k, n) = (k ≤ 2 ∧ n ≤ 10 ∧ Q (.inl (some (.int a))) w) := iretI_e rfl (dt_q dL_twoSmall_0_D 13 rfl) rfl
end
theorem wk_851 : (.code yX1_twoSmall cX1_twoSmall 4 (some .int) : Jvm.Cond) ∈ WS := WS_t4 73 rfl rfl
theorem wk_848 : (.methodLink RL 62 yX1_twoSmall : Jvm.Cond) ∈ WS := WS_t4 70 rfl rfl
theorem wk_849 : (.instanceMethod yX1_twoSmall : Jvm.Cond) ∈ WS := WS_t4 71 rfl rfl
theorem wk_850 : (.selects RX1 yX1_twoSmall yX1_twoSmall : Jvm.Cond) ∈ WS := WS_t4 72 rfl rfl
theorem kc_150 {l : Launch} (hl : l.stackTraces = false) {G : GT} {own : String} {i : Nat} (hw : Jvm.Cond.methodLink own i yX1_twoSmall ∈ WS) : vCal l G own i (2, 4, 5, 7, (fun _ _ => 2), (fun _ _ => 10), yX1_twoSmall, spOf (MX1_twoSmall (gg G))) := ⟨cX1_twoSmall, 4, some .int, fun y hy => by subst hy; exact ⟨by decide, ⟨_, wk_851, okX1_twoSmall hl, Or.inl ⟨Nat.ne_of_beq_eq_false rfl, rfl⟩⟩, wk_59, nc14, ⟨(by decide +kernel : (parseMethodDescriptor yX1_twoSmall.desc).map (fun d => d.parameters.length + 1) = some 4), hw, wk_849, wk_850, (RX1, TX1, 7), rfl, rfl⟩⟩⟩
theorem vML_twoSmall {l : Launch} (hl : l.stackTraces = false) (G : GT) : vM l G (ML_twoSmall (gg G)) := vM_k RL cL_twoSmall rfl rfl (all_c (vF_RL_13) (all_n)) all_n all_n all_n all_n (fun h => absurd rfl h) (all_c (kc_150 hl wk_848) (all_n)) all_n all_n (fun h => absurd rfl h) rfl (all_c (⟨"java/lang/IndexOutOfBoundsException", by decide, rfl, by decide, wk_348⟩) (all_n))
theorem okL_twoSmall {l : Launch} (hl : l.stackTraces = false) {G : GT} : ∀ (args : List Value) (w : Hw) (S : Ot → Hw → Prop), spOf (ML_twoSmall (gg G)) args w S → CX l G yL_twoSmall (.codeWith yL_twoSmall cL_twoSmall 6 (some .int) [(0, 13, 16, 19)]) 8 2 10 args w S := CX_spH (M := ML_twoSmall (gg G)) (y := yL_twoSmall) hl (by decide) rfl (vML_twoSmall hl G) (fun h => by cases h)
abbrev dL_threeSmall_0_T : List (Nat × Instr × Nat) := [(0, .aload 5, 2), (2, .aload_n 0, 1), (3, .iload_n 1, 1), (4, .iload_n 2, 1), (5, .iload_n 3, 1), (6, .iload 4, 2), (8, .invokevirtual 65, 3), (11, .i2l, 1), (12, .putfield 13, 3), (15, .goto 7, 3), (18, .astore 6, 2), (20, .iconst 1, 1), (21, .ireturn, 1), (22, .iconst 0, 1), (23, .ireturn, 1)]
theorem dL_threeSmall_0_D : dtc cL_threeSmall dL_threeSmall_0_T = true := by decide +kernel
def ML_threeSmall (g : RO) : MT := ((RL, cL_threeSmall, 7, 8, 2, 10, false, some .int), [(13, 6, 0)], [], [], [], [], 0, [(65, 2, 5, 5, 7, (fun _ _ => 2), (fun _ _ => 10), yX1_threeSmall, spOf (MX1_threeSmall g))], [], [], 0, [(0, 15, 18, 19)], [(19, "java/lang/IndexOutOfBoundsException")], g)
section
variable {g : RO} {Q : Ot → Hw → Prop} {st : List Value} {w : Hw} {k n p q : Nat} {a b : Int32} {x y : Int64} {u v : Value} {l0 l1 l2 l3 l4 l5 l6 : Option Value}
theorem eL_threeSmall_0 : WP (ML_threeSmall g) Q (0, [l0, l1, l2, l3, l4, some (.ref p), l6], st, w, k, n) = WP (ML_threeSmall g) Q (2, [l0, l1, l2, l3, l4, some (.ref p), l6], .ref p :: st, w, k, n) := alR_e rfl (dt_q dL_threeSmall_0_D 0 rfl) rfl
theorem eL_threeSmall_0N : WP (ML_threeSmall g) Q (0, [l0, l1, l2, l3, l4, some .null, l6], st, w, k, n) = WP (ML_threeSmall g) Q (2, [l0, l1, l2, l3, l4, some .null, l6], .null :: st, w, k, n) := alN_e rfl (dt_q dL_threeSmall_0_D 0 rfl) rfl
theorem eL_threeSmall_2 : WP (ML_threeSmall g) Q (2, [some (.ref p), l1, l2, l3, l4, l5, l6], st, w, k, n) = WP (ML_threeSmall g) Q (3, [some (.ref p), l1, l2, l3, l4, l5, l6], .ref p :: st, w, k, n) := alnR_e rfl (dt_q dL_threeSmall_0_D 1 rfl) rfl
theorem eL_threeSmall_2N : WP (ML_threeSmall g) Q (2, [some .null, l1, l2, l3, l4, l5, l6], st, w, k, n) = WP (ML_threeSmall g) Q (3, [some .null, l1, l2, l3, l4, l5, l6], .null :: st, w, k, n) := alnN_e rfl (dt_q dL_threeSmall_0_D 1 rfl) rfl
theorem eL_threeSmall_3 : WP (ML_threeSmall g) Q (3, [l0, some (.int a), l2, l3, l4, l5, l6], st, w, k, n) = WP (ML_threeSmall g) Q (4, [l0, some (.int a), l2, l3, l4, l5, l6], .int a :: st, w, k, n) := iln_e rfl (dt_q dL_threeSmall_0_D 2 rfl) rfl
theorem eL_threeSmall_4 : WP (ML_threeSmall g) Q (4, [l0, l1, some (.int a), l3, l4, l5, l6], st, w, k, n) = WP (ML_threeSmall g) Q (5, [l0, l1, some (.int a), l3, l4, l5, l6], .int a :: st, w, k, n) := iln_e rfl (dt_q dL_threeSmall_0_D 3 rfl) rfl
theorem eL_threeSmall_5 : WP (ML_threeSmall g) Q (5, [l0, l1, l2, some (.int a), l4, l5, l6], st, w, k, n) = WP (ML_threeSmall g) Q (6, [l0, l1, l2, some (.int a), l4, l5, l6], .int a :: st, w, k, n) := iln_e rfl (dt_q dL_threeSmall_0_D 4 rfl) rfl
theorem eL_threeSmall_6 : WP (ML_threeSmall g) Q (6, [l0, l1, l2, l3, some (.int a), l5, l6], st, w, k, n) = WP (ML_threeSmall g) Q (8, [l0, l1, l2, l3, some (.int a), l5, l6], .int a :: st, w, k, n) := il_e rfl (dt_q dL_threeSmall_0_D 5 rfl) rfl
theorem eL_threeSmall_8 {z0 : Int32} {z1 : Int32} {z2 : Int32} {z3 : Int32} : WP (ML_threeSmall g) Q (8, [l0, l1, l2, l3, l4, l5, l6], .int z3 :: .int z2 :: .int z1 :: .int z0 :: .ref p :: st, w, k, n) = (go (rd g w p) 5 (fun _ => True) ∧ wt st ≤ 8 ∧ k + 2 ≤ 2 ∧ n + 10 ≤ 10 ∧ WP (MX1_threeSmall g) (kx (fun v w' => WP (ML_threeSmall g) Q (11, [l0, l1, l2, l3, l4, l5, l6], v.toList ++ st, w', k + 2, n + 10)) (fun E w' => hgo (ML_threeSmall g) Q (WP (ML_threeSmall g) Q) 8 [l0, l1, l2, l3, l4, l5, l6] E w' (k + 2) (n + 10))) (0, [some (.ref p), some (.int z0), some (.int z1), some (.int z2), some (.int z3)], [], w, 0, 0)) := csVH (M := (ML_threeSmall g)) (mc := (fun _ _ => 2)) (ms := (fun _ _ => 10)) (As := [.int z0, .int z1, .int z2, .int z3]) (rest := st) (MX1_threeSmall g) rfl (dt_q dL_threeSmall_0_D 6 rfl) (by exact fun h => nomatch (show (none : Option Nat) = some 11 from h)) (by exact fun h => nomatch (show (none : Option Nat) = some 15 from h)) rfl rfl (by decide) (Nat.le_of_ble_eq_true rfl) (Nat.le_of_ble_eq_true rfl) rfl
theorem eL_threeSmall_11 : WP (ML_threeSmall g) Q (11, [l0, l1, l2, l3, l4, l5, l6], .int a :: st, w, k, n) = WP (ML_threeSmall g) Q (12, [l0, l1, l2, l3, l4, l5, l6], .long a.toInt64 :: st, w, k, n) := i2l_e rfl (dt_q dL_threeSmall_0_D 7 rfl)
theorem eL_threeSmall_12 : WP (ML_threeSmall g) Q (12, [l0, l1, l2, l3, l4, l5, l6], v :: .ref p :: st, w, k, n) = go (w p) 6 fun fs => 0 < fs.length ∧ (narrow (.long) v = v ∧ fits (.long) v = true) ∧ WP (ML_threeSmall g) Q (15, [l0, l1, l2, l3, l4, l5, l6], st, upw w p (.inr (6, fs.set 0 v)), k, n) := put_e (q := (RX2, TX2, 2)) rfl (dt_q dL_threeSmall_0_D 8 rfl) rfl rfl (tyX2_ok 0 (by decide)) (Or.inl rfl)
theorem eL_threeSmall_15 : WP (ML_threeSmall g) Q (15, [l0, l1, l2, l3, l4, l5, l6], st, w, k, n) = WP (ML_threeSmall g) Q (22, [l0, l1, l2, l3, l4, l5, l6], st, w, k, n) := goto_e rfl (dt_q dL_threeSmall_0_D 9 rfl) (by decide)
theorem eL_threeSmall_18 : WP (ML_threeSmall g) Q (18, [l0, l1, l2, l3, l4, l5, l6], .ref p :: st, w, k, n) = WP (ML_threeSmall g) Q (20, [l0, l1, l2, l3, l4, nl l5, some (.ref p)], st, w, k, n) := asR_e rfl (dt_q dL_threeSmall_0_D 10 rfl) rfl rfl
theorem eL_threeSmall_18N : WP (ML_threeSmall g) Q (18, [l0, l1, l2, l3, l4, l5, l6], .null :: st, w, k, n) = WP (ML_threeSmall g) Q (20, [l0, l1, l2, l3, l4, nl l5, some (.null)], st, w, k, n) := asN_e rfl (dt_q dL_threeSmall_0_D 10 rfl) rfl rfl
theorem eL_threeSmall_20 : WP (ML_threeSmall g) Q (20, [l0, l1, l2, l3, l4, l5, l6], st, w, k, n) = WP (ML_threeSmall g) Q (21, [l0, l1, l2, l3, l4, l5, l6], .int 1 :: st, w, k, n) := ic_1 rfl (dt_q dL_threeSmall_0_D 11 rfl)
theorem eL_threeSmall_21 : WP (ML_threeSmall g) Q (21, [l0, l1, l2, l3, l4, l5, l6], [.int a], w, k, n) = (k ≤ 2 ∧ n ≤ 10 ∧ Q (.inl (some (.int a))) w) := iretI_e rfl (dt_q dL_threeSmall_0_D 12 rfl) rfl
theorem eL_threeSmall_22 : WP (ML_threeSmall g) Q (22, [l0, l1, l2, l3, l4, l5, l6], st, w, k, n) = WP (ML_threeSmall g) Q (23, [l0, l1, l2, l3, l4, l5, l6], .int 0 :: st, w, k, n) := ic_0 rfl (dt_q dL_threeSmall_0_D 13 rfl)
theorem eL_threeSmall_23 : WP (ML_threeSmall g) Q (23, [l0, l1, l2, l3, l4, l5, l6], [.int a], w, k, n) = (k ≤ 2 ∧ n ≤ 10 ∧ Q (.inl (some (.int a))) w) := iretI_e rfl (dt_q dL_threeSmall_0_D 14 rfl) rfl
end
theorem wk_858 : (.code yX1_threeSmall cX1_threeSmall 5 (some .int) : Jvm.Cond) ∈ WS := WS_t4 80 rfl rfl
theorem wk_855 : (.methodLink RL 65 yX1_threeSmall : Jvm.Cond) ∈ WS := WS_t4 77 rfl rfl
theorem wk_856 : (.instanceMethod yX1_threeSmall : Jvm.Cond) ∈ WS := WS_t4 78 rfl rfl
theorem wk_857 : (.selects RX1 yX1_threeSmall yX1_threeSmall : Jvm.Cond) ∈ WS := WS_t4 79 rfl rfl
theorem kc_151 {l : Launch} (hl : l.stackTraces = false) {G : GT} {own : String} {i : Nat} (hw : Jvm.Cond.methodLink own i yX1_threeSmall ∈ WS) : vCal l G own i (2, 5, 5, 7, (fun _ _ => 2), (fun _ _ => 10), yX1_threeSmall, spOf (MX1_threeSmall (gg G))) := ⟨cX1_threeSmall, 5, some .int, fun y hy => by subst hy; exact ⟨by decide, ⟨_, wk_858, okX1_threeSmall hl, Or.inl ⟨Nat.ne_of_beq_eq_false rfl, rfl⟩⟩, wk_59, nc14, ⟨(by decide +kernel : (parseMethodDescriptor yX1_threeSmall.desc).map (fun d => d.parameters.length + 1) = some 5), hw, wk_856, wk_857, (RX1, TX1, 7), rfl, rfl⟩⟩⟩
theorem vML_threeSmall {l : Launch} (hl : l.stackTraces = false) (G : GT) : vM l G (ML_threeSmall (gg G)) := vM_k RL cL_threeSmall rfl rfl (all_c (vF_RL_13) (all_n)) all_n all_n all_n all_n (fun h => absurd rfl h) (all_c (kc_151 hl wk_855) (all_n)) all_n all_n (fun h => absurd rfl h) rfl (all_c (⟨"java/lang/IndexOutOfBoundsException", by decide, rfl, by decide, wk_348⟩) (all_n))
theorem okL_threeSmall {l : Launch} (hl : l.stackTraces = false) {G : GT} : ∀ (args : List Value) (w : Hw) (S : Ot → Hw → Prop), spOf (ML_threeSmall (gg G)) args w S → CX l G yL_threeSmall (.codeWith yL_threeSmall cL_threeSmall 7 (some .int) [(0, 15, 18, 19)]) 8 2 10 args w S := CX_spH (M := ML_threeSmall (gg G)) (y := yL_threeSmall) hl (by decide) rfl (vML_threeSmall hl G) (fun h => by cases h)
abbrev dL_fourSmall_0_T : List (Nat × Instr × Nat) := [(0, .aload 6, 2), (2, .aload_n 0, 1), (3, .iload_n 1, 1), (4, .iload_n 2, 1), (5, .iload_n 3, 1), (6, .iload 4, 2), (8, .iload 5, 2), (10, .invokevirtual 68, 3), (13, .i2l, 1), (14, .putfield 13, 3), (17, .goto 7, 3), (20, .astore 7, 2), (22, .iconst 1, 1), (23, .ireturn, 1), (24, .iconst 0, 1), (25, .ireturn, 1)]
theorem dL_fourSmall_0_D : dtc cL_fourSmall dL_fourSmall_0_T = true := by decide +kernel
def ML_fourSmall (g : RO) : MT := ((RL, cL_fourSmall, 8, 8, 2, 10, false, some .int), [(13, 6, 0)], [], [], [], [], 0, [(68, 2, 6, 5, 7, (fun _ _ => 2), (fun _ _ => 10), yX1_fourSmall, spOf (MX1_fourSmall g))], [], [], 0, [(0, 17, 20, 19)], [(19, "java/lang/IndexOutOfBoundsException")], g)
section
variable {g : RO} {Q : Ot → Hw → Prop} {st : List Value} {w : Hw} {k n p q : Nat} {a b : Int32} {x y : Int64} {u v : Value} {l0 l1 l2 l3 l4 l5 l6 l7 : Option Value}
theorem eL_fourSmall_0 : WP (ML_fourSmall g) Q (0, [l0, l1, l2, l3, l4, l5, some (.ref p), l7], st, w, k, n) = WP (ML_fourSmall g) Q (2, [l0, l1, l2, l3, l4, l5, some (.ref p), l7], .ref p :: st, w, k, n) := alR_e rfl (dt_q dL_fourSmall_0_D 0 rfl) rfl
theorem eL_fourSmall_0N : WP (ML_fourSmall g) Q (0, [l0, l1, l2, l3, l4, l5, some .null, l7], st, w, k, n) = WP (ML_fourSmall g) Q (2, [l0, l1, l2, l3, l4, l5, some .null, l7], .null :: st, w, k, n) := alN_e rfl (dt_q dL_fourSmall_0_D 0 rfl) rfl
theorem eL_fourSmall_2 : WP (ML_fourSmall g) Q (2, [some (.ref p), l1, l2, l3, l4, l5, l6, l7], st, w, k, n) = WP (ML_fourSmall g) Q (3, [some (.ref p), l1, l2, l3, l4, l5, l6, l7], .ref p :: st, w, k, n) := alnR_e rfl (dt_q dL_fourSmall_0_D 1 rfl) rfl
theorem eL_fourSmall_2N : WP (ML_fourSmall g) Q (2, [some .null, l1, l2, l3, l4, l5, l6, l7], st, w, k, n) = WP (ML_fourSmall g) Q (3, [some .null, l1, l2, l3, l4, l5, l6, l7], .null :: st, w, k, n) := alnN_e rfl (dt_q dL_fourSmall_0_D 1 rfl) rfl
theorem eL_fourSmall_3 : WP (ML_fourSmall g) Q (3, [l0, some (.int a), l2, l3, l4, l5, l6, l7], st, w, k, n) = WP (ML_fourSmall g) Q (4, [l0, some (.int a), l2, l3, l4, l5, l6, l7], .int a :: st, w, k, n) := iln_e rfl (dt_q dL_fourSmall_0_D 2 rfl) rfl
theorem eL_fourSmall_4 : WP (ML_fourSmall g) Q (4, [l0, l1, some (.int a), l3, l4, l5, l6, l7], st, w, k, n) = WP (ML_fourSmall g) Q (5, [l0, l1, some (.int a), l3, l4, l5, l6, l7], .int a :: st, w, k, n) := iln_e rfl (dt_q dL_fourSmall_0_D 3 rfl) rfl
theorem eL_fourSmall_5 : WP (ML_fourSmall g) Q (5, [l0, l1, l2, some (.int a), l4, l5, l6, l7], st, w, k, n) = WP (ML_fourSmall g) Q (6, [l0, l1, l2, some (.int a), l4, l5, l6, l7], .int a :: st, w, k, n) := iln_e rfl (dt_q dL_fourSmall_0_D 4 rfl) rfl
theorem eL_fourSmall_6 : WP (ML_fourSmall g) Q (6, [l0, l1, l2, l3, some (.int a), l5, l6, l7], st, w, k, n) = WP (ML_fourSmall g) Q (8, [l0, l1, l2, l3, some (.int a), l5, l6, l7], .int a :: st, w, k, n) := il_e rfl (dt_q dL_fourSmall_0_D 5 rfl) rfl
theorem eL_fourSmall_8 : WP (ML_fourSmall g) Q (8, [l0, l1, l2, l3, l4, some (.int a), l6, l7], st, w, k, n) = WP (ML_fourSmall g) Q (10, [l0, l1, l2, l3, l4, some (.int a), l6, l7], .int a :: st, w, k, n) := il_e rfl (dt_q dL_fourSmall_0_D 6 rfl) rfl
theorem eL_fourSmall_10 {z0 : Int32} {z1 : Int32} {z2 : Int32} {z3 : Int32} {z4 : Int32} : WP (ML_fourSmall g) Q (10, [l0, l1, l2, l3, l4, l5, l6, l7], .int z4 :: .int z3 :: .int z2 :: .int z1 :: .int z0 :: .ref p :: st, w, k, n) = (go (rd g w p) 5 (fun _ => True) ∧ wt st ≤ 8 ∧ k + 2 ≤ 2 ∧ n + 10 ≤ 10 ∧ WP (MX1_fourSmall g) (kx (fun v w' => WP (ML_fourSmall g) Q (13, [l0, l1, l2, l3, l4, l5, l6, l7], v.toList ++ st, w', k + 2, n + 10)) (fun E w' => hgo (ML_fourSmall g) Q (WP (ML_fourSmall g) Q) 10 [l0, l1, l2, l3, l4, l5, l6, l7] E w' (k + 2) (n + 10))) (0, [some (.ref p), some (.int z0), some (.int z1), some (.int z2), some (.int z3), some (.int z4)], [], w, 0, 0)) := csVH (M := (ML_fourSmall g)) (mc := (fun _ _ => 2)) (ms := (fun _ _ => 10)) (As := [.int z0, .int z1, .int z2, .int z3, .int z4]) (rest := st) (MX1_fourSmall g) rfl (dt_q dL_fourSmall_0_D 7 rfl) (by exact fun h => nomatch (show (none : Option Nat) = some 11 from h)) (by exact fun h => nomatch (show (none : Option Nat) = some 15 from h)) rfl rfl (by decide) (Nat.le_of_ble_eq_true rfl) (Nat.le_of_ble_eq_true rfl) rfl
theorem eL_fourSmall_13 : WP (ML_fourSmall g) Q (13, [l0, l1, l2, l3, l4, l5, l6, l7], .int a :: st, w, k, n) = WP (ML_fourSmall g) Q (14, [l0, l1, l2, l3, l4, l5, l6, l7], .long a.toInt64 :: st, w, k, n) := i2l_e rfl (dt_q dL_fourSmall_0_D 8 rfl)
theorem eL_fourSmall_14 : WP (ML_fourSmall g) Q (14, [l0, l1, l2, l3, l4, l5, l6, l7], v :: .ref p :: st, w, k, n) = go (w p) 6 fun fs => 0 < fs.length ∧ (narrow (.long) v = v ∧ fits (.long) v = true) ∧ WP (ML_fourSmall g) Q (17, [l0, l1, l2, l3, l4, l5, l6, l7], st, upw w p (.inr (6, fs.set 0 v)), k, n) := put_e (q := (RX2, TX2, 2)) rfl (dt_q dL_fourSmall_0_D 9 rfl) rfl rfl (tyX2_ok 0 (by decide)) (Or.inl rfl)
theorem eL_fourSmall_17 : WP (ML_fourSmall g) Q (17, [l0, l1, l2, l3, l4, l5, l6, l7], st, w, k, n) = WP (ML_fourSmall g) Q (24, [l0, l1, l2, l3, l4, l5, l6, l7], st, w, k, n) := goto_e rfl (dt_q dL_fourSmall_0_D 10 rfl) (by decide)
theorem eL_fourSmall_20 : WP (ML_fourSmall g) Q (20, [l0, l1, l2, l3, l4, l5, l6, l7], .ref p :: st, w, k, n) = WP (ML_fourSmall g) Q (22, [l0, l1, l2, l3, l4, l5, nl l6, some (.ref p)], st, w, k, n) := asR_e rfl (dt_q dL_fourSmall_0_D 11 rfl) rfl rfl
theorem eL_fourSmall_20N : WP (ML_fourSmall g) Q (20, [l0, l1, l2, l3, l4, l5, l6, l7], .null :: st, w, k, n) = WP (ML_fourSmall g) Q (22, [l0, l1, l2, l3, l4, l5, nl l6, some (.null)], st, w, k, n) := asN_e rfl (dt_q dL_fourSmall_0_D 11 rfl) rfl rfl
theorem eL_fourSmall_22 : WP (ML_fourSmall g) Q (22, [l0, l1, l2, l3, l4, l5, l6, l7], st, w, k, n) = WP (ML_fourSmall g) Q (23, [l0, l1, l2, l3, l4, l5, l6, l7], .int 1 :: st, w, k, n) := ic_1 rfl (dt_q dL_fourSmall_0_D 12 rfl)
theorem eL_fourSmall_23 : WP (ML_fourSmall g) Q (23, [l0, l1, l2, l3, l4, l5, l6, l7], [.int a], w, k, n) = (k ≤ 2 ∧ n ≤ 10 ∧ Q (.inl (some (.int a))) w) := iretI_e rfl (dt_q dL_fourSmall_0_D 13 rfl) rfl
theorem eL_fourSmall_24 : WP (ML_fourSmall g) Q (24, [l0, l1, l2, l3, l4, l5, l6, l7], st, w, k, n) = WP (ML_fourSmall g) Q (25, [l0, l1, l2, l3, l4, l5, l6, l7], .int 0 :: st, w, k, n) := ic_0 rfl (dt_q dL_fourSmall_0_D 14 rfl)
theorem eL_fourSmall_25 : WP (ML_fourSmall g) Q (25, [l0, l1, l2, l3, l4, l5, l6, l7], [.int a], w, k, n) = (k ≤ 2 ∧ n ≤ 10 ∧ Q (.inl (some (.int a))) w) := iretI_e rfl (dt_q dL_fourSmall_0_D 15 rfl) rfl
end
theorem wk_865 : (.code yX1_fourSmall cX1_fourSmall 6 (some .int) : Jvm.Cond) ∈ WS := WS_t4 87 rfl rfl
theorem wk_862 : (.methodLink RL 68 yX1_fourSmall : Jvm.Cond) ∈ WS := WS_t4 84 rfl rfl
theorem wk_863 : (.instanceMethod yX1_fourSmall : Jvm.Cond) ∈ WS := WS_t4 85 rfl rfl
theorem wk_864 : (.selects RX1 yX1_fourSmall yX1_fourSmall : Jvm.Cond) ∈ WS := WS_t4 86 rfl rfl
theorem kc_152 {l : Launch} (hl : l.stackTraces = false) {G : GT} {own : String} {i : Nat} (hw : Jvm.Cond.methodLink own i yX1_fourSmall ∈ WS) : vCal l G own i (2, 6, 5, 7, (fun _ _ => 2), (fun _ _ => 10), yX1_fourSmall, spOf (MX1_fourSmall (gg G))) := ⟨cX1_fourSmall, 6, some .int, fun y hy => by subst hy; exact ⟨by decide, ⟨_, wk_865, okX1_fourSmall hl, Or.inl ⟨Nat.ne_of_beq_eq_false rfl, rfl⟩⟩, wk_59, nc14, ⟨(by decide +kernel : (parseMethodDescriptor yX1_fourSmall.desc).map (fun d => d.parameters.length + 1) = some 6), hw, wk_863, wk_864, (RX1, TX1, 7), rfl, rfl⟩⟩⟩
theorem vML_fourSmall {l : Launch} (hl : l.stackTraces = false) (G : GT) : vM l G (ML_fourSmall (gg G)) := vM_k RL cL_fourSmall rfl rfl (all_c (vF_RL_13) (all_n)) all_n all_n all_n all_n (fun h => absurd rfl h) (all_c (kc_152 hl wk_862) (all_n)) all_n all_n (fun h => absurd rfl h) rfl (all_c (⟨"java/lang/IndexOutOfBoundsException", by decide, rfl, by decide, wk_348⟩) (all_n))
theorem okL_fourSmall {l : Launch} (hl : l.stackTraces = false) {G : GT} : ∀ (args : List Value) (w : Hw) (S : Ot → Hw → Prop), spOf (ML_fourSmall (gg G)) args w S → CX l G yL_fourSmall (.codeWith yL_fourSmall cL_fourSmall 8 (some .int) [(0, 17, 20, 19)]) 8 2 10 args w S := CX_spH (M := ML_fourSmall (gg G)) (y := yL_fourSmall) hl (by decide) rfl (vML_fourSmall hl G) (fun h => by cases h)
abbrev dL_again_0_T : List (Nat × Instr × Nat) := [(0, .aload_n 3, 1), (1, .aload_n 0, 1), (2, .iload_n 1, 1), (3, .iload_n 2, 1), (4, .invokevirtual 71, 3), (7, .i2l, 1), (8, .putfield 13, 3), (11, .goto 11, 3), (14, .astore 4, 2), (16, .iconst 1, 1), (17, .ireturn, 1), (18, .astore 4, 2), (20, .iconst 2, 1), (21, .ireturn, 1), (22, .iconst 0, 1), (23, .ireturn, 1)]
theorem dL_again_0_D : dtc cL_again dL_again_0_T = true := by decide +kernel
def ML_again (g : RO) : MT := ((RL, cL_again, 5, 9, 4, 22, false, some .int), [(13, 6, 0)], [], [], [], [], 0, [(71, 2, 3, 5, 8, (fun _ _ => 4), (fun _ _ => 22), yX1_again, spOf (MX1_again g))], [], [], 0, [(0, 11, 14, 19), (0, 11, 18, 74)], [(19, "java/lang/IndexOutOfBoundsException"), (74, "java/lang/IllegalStateException")], g)
section
variable {g : RO} {Q : Ot → Hw → Prop} {st : List Value} {w : Hw} {k n p q : Nat} {a b : Int32} {x y : Int64} {u v : Value} {l0 l1 l2 l3 l4 : Option Value}
theorem eL_again_0 : WP (ML_again g) Q (0, [l0, l1, l2, some (.ref p), l4], st, w, k, n) = WP (ML_again g) Q (1, [l0, l1, l2, some (.ref p), l4], .ref p :: st, w, k, n) := alnR_e rfl (dt_q dL_again_0_D 0 rfl) rfl
theorem eL_again_0N : WP (ML_again g) Q (0, [l0, l1, l2, some .null, l4], st, w, k, n) = WP (ML_again g) Q (1, [l0, l1, l2, some .null, l4], .null :: st, w, k, n) := alnN_e rfl (dt_q dL_again_0_D 0 rfl) rfl
theorem eL_again_1 : WP (ML_again g) Q (1, [some (.ref p), l1, l2, l3, l4], st, w, k, n) = WP (ML_again g) Q (2, [some (.ref p), l1, l2, l3, l4], .ref p :: st, w, k, n) := alnR_e rfl (dt_q dL_again_0_D 1 rfl) rfl
theorem eL_again_1N : WP (ML_again g) Q (1, [some .null, l1, l2, l3, l4], st, w, k, n) = WP (ML_again g) Q (2, [some .null, l1, l2, l3, l4], .null :: st, w, k, n) := alnN_e rfl (dt_q dL_again_0_D 1 rfl) rfl
theorem eL_again_2 : WP (ML_again g) Q (2, [l0, some (.int a), l2, l3, l4], st, w, k, n) = WP (ML_again g) Q (3, [l0, some (.int a), l2, l3, l4], .int a :: st, w, k, n) := iln_e rfl (dt_q dL_again_0_D 2 rfl) rfl
theorem eL_again_3 : WP (ML_again g) Q (3, [l0, l1, some (.int a), l3, l4], st, w, k, n) = WP (ML_again g) Q (4, [l0, l1, some (.int a), l3, l4], .int a :: st, w, k, n) := iln_e rfl (dt_q dL_again_0_D 3 rfl) rfl
theorem eL_again_4 {z0 : Int32} {z1 : Int32} : WP (ML_again g) Q (4, [l0, l1, l2, l3, l4], .int z1 :: .int z0 :: .ref p :: st, w, k, n) = (go (rd g w p) 5 (fun _ => True) ∧ wt st ≤ 8 ∧ k + 4 ≤ 4 ∧ n + 22 ≤ 22 ∧ WP (MX1_again g) (kx (fun v w' => WP (ML_again g) Q (7, [l0, l1, l2, l3, l4], v.toList ++ st, w', k + 4, n + 22)) (fun E w' => hgo (ML_again g) Q (WP (ML_again g) Q) 4 [l0, l1, l2, l3, l4] E w' (k + 4) (n + 22))) (0, [some (.ref p), some (.int z0), some (.int z1), none], [], w, 0, 0)) := csVH (M := (ML_again g)) (mc := (fun _ _ => 4)) (ms := (fun _ _ => 22)) (As := [.int z0, .int z1]) (rest := st) (MX1_again g) rfl (dt_q dL_again_0_D 4 rfl) (by exact fun h => nomatch (show (none : Option Nat) = some 11 from h)) (by exact fun h => nomatch (show (none : Option Nat) = some 15 from h)) rfl rfl (by decide) (Nat.le_of_ble_eq_true rfl) (Nat.le_of_ble_eq_true rfl) rfl
theorem eL_again_7 : WP (ML_again g) Q (7, [l0, l1, l2, l3, l4], .int a :: st, w, k, n) = WP (ML_again g) Q (8, [l0, l1, l2, l3, l4], .long a.toInt64 :: st, w, k, n) := i2l_e rfl (dt_q dL_again_0_D 5 rfl)
theorem eL_again_8 : WP (ML_again g) Q (8, [l0, l1, l2, l3, l4], v :: .ref p :: st, w, k, n) = go (w p) 6 fun fs => 0 < fs.length ∧ (narrow (.long) v = v ∧ fits (.long) v = true) ∧ WP (ML_again g) Q (11, [l0, l1, l2, l3, l4], st, upw w p (.inr (6, fs.set 0 v)), k, n) := put_e (q := (RX2, TX2, 2)) rfl (dt_q dL_again_0_D 6 rfl) rfl rfl (tyX2_ok 0 (by decide)) (Or.inl rfl)
theorem eL_again_11 : WP (ML_again g) Q (11, [l0, l1, l2, l3, l4], st, w, k, n) = WP (ML_again g) Q (22, [l0, l1, l2, l3, l4], st, w, k, n) := goto_e rfl (dt_q dL_again_0_D 7 rfl) (by decide)
theorem eL_again_14 : WP (ML_again g) Q (14, [l0, l1, l2, l3, l4], .ref p :: st, w, k, n) = WP (ML_again g) Q (16, [l0, l1, l2, nl l3, some (.ref p)], st, w, k, n) := asR_e rfl (dt_q dL_again_0_D 8 rfl) rfl rfl
theorem eL_again_14N : WP (ML_again g) Q (14, [l0, l1, l2, l3, l4], .null :: st, w, k, n) = WP (ML_again g) Q (16, [l0, l1, l2, nl l3, some (.null)], st, w, k, n) := asN_e rfl (dt_q dL_again_0_D 8 rfl) rfl rfl
theorem eL_again_16 : WP (ML_again g) Q (16, [l0, l1, l2, l3, l4], st, w, k, n) = WP (ML_again g) Q (17, [l0, l1, l2, l3, l4], .int 1 :: st, w, k, n) := ic_1 rfl (dt_q dL_again_0_D 9 rfl)
theorem eL_again_17 : WP (ML_again g) Q (17, [l0, l1, l2, l3, l4], [.int a], w, k, n) = (k ≤ 4 ∧ n ≤ 22 ∧ Q (.inl (some (.int a))) w) := iretI_e rfl (dt_q dL_again_0_D 10 rfl) rfl
theorem eL_again_18 : WP (ML_again g) Q (18, [l0, l1, l2, l3, l4], .ref p :: st, w, k, n) = WP (ML_again g) Q (20, [l0, l1, l2, nl l3, some (.ref p)], st, w, k, n) := asR_e rfl (dt_q dL_again_0_D 11 rfl) rfl rfl
theorem eL_again_18N : WP (ML_again g) Q (18, [l0, l1, l2, l3, l4], .null :: st, w, k, n) = WP (ML_again g) Q (20, [l0, l1, l2, nl l3, some (.null)], st, w, k, n) := asN_e rfl (dt_q dL_again_0_D 11 rfl) rfl rfl
theorem eL_again_20 : WP (ML_again g) Q (20, [l0, l1, l2, l3, l4], st, w, k, n) = WP (ML_again g) Q (21, [l0, l1, l2, l3, l4], .int 2 :: st, w, k, n) := ic_2 rfl (dt_q dL_again_0_D 12 rfl)
theorem eL_again_21 : WP (ML_again g) Q (21, [l0, l1, l2, l3, l4], [.int a], w, k, n) = (k ≤ 4 ∧ n ≤ 22 ∧ Q (.inl (some (.int a))) w) := iretI_e rfl (dt_q dL_again_0_D 13 rfl) rfl
theorem eL_again_22 : WP (ML_again g) Q (22, [l0, l1, l2, l3, l4], st, w, k, n) = WP (ML_again g) Q (23, [l0, l1, l2, l3, l4], .int 0 :: st, w, k, n) := ic_0 rfl (dt_q dL_again_0_D 14 rfl)
theorem eL_again_23 : WP (ML_again g) Q (23, [l0, l1, l2, l3, l4], [.int a], w, k, n) = (k ≤ 4 ∧ n ≤ 22 ∧ Q (.inl (some (.int a))) w) := iretI_e rfl (dt_q dL_again_0_D 15 rfl) rfl
end
theorem wk_873 : (.code yX1_again cX1_again 4 (some .int) : Jvm.Cond) ∈ WS := WS_t4 95 rfl rfl
theorem wk_870 : (.methodLink RL 71 yX1_again : Jvm.Cond) ∈ WS := WS_t4 92 rfl rfl
theorem wk_871 : (.instanceMethod yX1_again : Jvm.Cond) ∈ WS := WS_t4 93 rfl rfl
theorem wk_872 : (.selects RX1 yX1_again yX1_again : Jvm.Cond) ∈ WS := WS_t4 94 rfl rfl
theorem wk_869 : (.classLink RL 74 "java/lang/IllegalStateException" : Jvm.Cond) ∈ WS := WS_t4 91 rfl rfl
theorem kc_153 {l : Launch} (hl : l.stackTraces = false) {G : GT} {own : String} {i : Nat} (hw : Jvm.Cond.methodLink own i yX1_again ∈ WS) : vCal l G own i (2, 3, 5, 8, (fun _ _ => 4), (fun _ _ => 22), yX1_again, spOf (MX1_again (gg G))) := ⟨cX1_again, 4, some .int, fun y hy => by subst hy; exact ⟨by decide, ⟨_, wk_873, okX1_again hl, Or.inl ⟨Nat.ne_of_beq_eq_false rfl, rfl⟩⟩, wk_59, nc14, ⟨(by decide +kernel : (parseMethodDescriptor yX1_again.desc).map (fun d => d.parameters.length + 1) = some 3), hw, wk_871, wk_872, (RX1, TX1, 7), rfl, rfl⟩⟩⟩
theorem vML_again {l : Launch} (hl : l.stackTraces = false) (G : GT) : vM l G (ML_again (gg G)) := vM_k RL cL_again rfl rfl (all_c (vF_RL_13) (all_n)) all_n all_n all_n all_n (fun h => absurd rfl h) (all_c (kc_153 hl wk_870) (all_n)) all_n all_n (fun h => absurd rfl h) rfl (all_c (⟨"java/lang/IndexOutOfBoundsException", by decide, rfl, by decide, wk_348⟩) (all_c (⟨"java/lang/IllegalStateException", by decide, rfl, by decide, wk_869⟩) (all_n)))
theorem okL_again {l : Launch} (hl : l.stackTraces = false) {G : GT} : ∀ (args : List Value) (w : Hw) (S : Ot → Hw → Prop), spOf (ML_again (gg G)) args w S → CX l G yL_again (.codeWith yL_again cL_again 5 (some .int) [(0, 11, 14, 19), (0, 11, 18, 74)]) 9 4 22 args w S := CX_spH (M := ML_again (gg G)) (y := yL_again) hl (by decide) rfl (vML_again hl G) (fun h => by cases h)
abbrev dL_same_0_T : List (Nat × Instr × Nat) := [(0, .aload_n 3, 1), (1, .aload_n 0, 1), (2, .iload_n 1, 1), (3, .iload_n 2, 1), (4, .invokevirtual 76, 3), (7, .i2l, 1), (8, .putfield 13, 3), (11, .goto 11, 3), (14, .astore 4, 2), (16, .iconst 1, 1), (17, .ireturn, 1), (18, .astore 4, 2), (20, .iconst 2, 1), (21, .ireturn, 1), (22, .iconst 0, 1), (23, .ireturn, 1)]
theorem dL_same_0_D : dtc cL_same dL_same_0_T = true := by decide +kernel
def ML_same (g : RO) : MT := ((RL, cL_same, 5, 9, 3, 18, false, some .int), [(13, 6, 0)], [], [], [], [], 0, [(76, 2, 3, 5, 8, (fun _ _ => 3), (fun _ _ => 18), yX1_same, spOf (MX1_same g))], [], [], 0, [(0, 11, 14, 19), (0, 11, 18, 74)], [(19, "java/lang/IndexOutOfBoundsException"), (74, "java/lang/IllegalStateException")], g)
section
variable {g : RO} {Q : Ot → Hw → Prop} {st : List Value} {w : Hw} {k n p q : Nat} {a b : Int32} {x y : Int64} {u v : Value} {l0 l1 l2 l3 l4 : Option Value}
theorem eL_same_0 : WP (ML_same g) Q (0, [l0, l1, l2, some (.ref p), l4], st, w, k, n) = WP (ML_same g) Q (1, [l0, l1, l2, some (.ref p), l4], .ref p :: st, w, k, n) := alnR_e rfl (dt_q dL_same_0_D 0 rfl) rfl
theorem eL_same_0N : WP (ML_same g) Q (0, [l0, l1, l2, some .null, l4], st, w, k, n) = WP (ML_same g) Q (1, [l0, l1, l2, some .null, l4], .null :: st, w, k, n) := alnN_e rfl (dt_q dL_same_0_D 0 rfl) rfl
theorem eL_same_1 : WP (ML_same g) Q (1, [some (.ref p), l1, l2, l3, l4], st, w, k, n) = WP (ML_same g) Q (2, [some (.ref p), l1, l2, l3, l4], .ref p :: st, w, k, n) := alnR_e rfl (dt_q dL_same_0_D 1 rfl) rfl
theorem eL_same_1N : WP (ML_same g) Q (1, [some .null, l1, l2, l3, l4], st, w, k, n) = WP (ML_same g) Q (2, [some .null, l1, l2, l3, l4], .null :: st, w, k, n) := alnN_e rfl (dt_q dL_same_0_D 1 rfl) rfl
theorem eL_same_2 : WP (ML_same g) Q (2, [l0, some (.int a), l2, l3, l4], st, w, k, n) = WP (ML_same g) Q (3, [l0, some (.int a), l2, l3, l4], .int a :: st, w, k, n) := iln_e rfl (dt_q dL_same_0_D 2 rfl) rfl
theorem eL_same_3 : WP (ML_same g) Q (3, [l0, l1, some (.int a), l3, l4], st, w, k, n) = WP (ML_same g) Q (4, [l0, l1, some (.int a), l3, l4], .int a :: st, w, k, n) := iln_e rfl (dt_q dL_same_0_D 3 rfl) rfl
theorem eL_same_4 {z0 : Int32} {z1 : Int32} : WP (ML_same g) Q (4, [l0, l1, l2, l3, l4], .int z1 :: .int z0 :: .ref p :: st, w, k, n) = (go (rd g w p) 5 (fun _ => True) ∧ wt st ≤ 8 ∧ k + 3 ≤ 3 ∧ n + 18 ≤ 18 ∧ WP (MX1_same g) (kx (fun v w' => WP (ML_same g) Q (7, [l0, l1, l2, l3, l4], v.toList ++ st, w', k + 3, n + 18)) (fun E w' => hgo (ML_same g) Q (WP (ML_same g) Q) 4 [l0, l1, l2, l3, l4] E w' (k + 3) (n + 18))) (0, [some (.ref p), some (.int z0), some (.int z1), none, none], [], w, 0, 0)) := csVH (M := (ML_same g)) (mc := (fun _ _ => 3)) (ms := (fun _ _ => 18)) (As := [.int z0, .int z1]) (rest := st) (MX1_same g) rfl (dt_q dL_same_0_D 4 rfl) (by exact fun h => nomatch (show (none : Option Nat) = some 11 from h)) (by exact fun h => nomatch (show (none : Option Nat) = some 15 from h)) rfl rfl (by decide) (Nat.le_of_ble_eq_true rfl) (Nat.le_of_ble_eq_true rfl) rfl
theorem eL_same_7 : WP (ML_same g) Q (7, [l0, l1, l2, l3, l4], .int a :: st, w, k, n) = WP (ML_same g) Q (8, [l0, l1, l2, l3, l4], .long a.toInt64 :: st, w, k, n) := i2l_e rfl (dt_q dL_same_0_D 5 rfl)
theorem eL_same_8 : WP (ML_same g) Q (8, [l0, l1, l2, l3, l4], v :: .ref p :: st, w, k, n) = go (w p) 6 fun fs => 0 < fs.length ∧ (narrow (.long) v = v ∧ fits (.long) v = true) ∧ WP (ML_same g) Q (11, [l0, l1, l2, l3, l4], st, upw w p (.inr (6, fs.set 0 v)), k, n) := put_e (q := (RX2, TX2, 2)) rfl (dt_q dL_same_0_D 6 rfl) rfl rfl (tyX2_ok 0 (by decide)) (Or.inl rfl)
theorem eL_same_11 : WP (ML_same g) Q (11, [l0, l1, l2, l3, l4], st, w, k, n) = WP (ML_same g) Q (22, [l0, l1, l2, l3, l4], st, w, k, n) := goto_e rfl (dt_q dL_same_0_D 7 rfl) (by decide)
theorem eL_same_14 : WP (ML_same g) Q (14, [l0, l1, l2, l3, l4], .ref p :: st, w, k, n) = WP (ML_same g) Q (16, [l0, l1, l2, nl l3, some (.ref p)], st, w, k, n) := asR_e rfl (dt_q dL_same_0_D 8 rfl) rfl rfl
theorem eL_same_14N : WP (ML_same g) Q (14, [l0, l1, l2, l3, l4], .null :: st, w, k, n) = WP (ML_same g) Q (16, [l0, l1, l2, nl l3, some (.null)], st, w, k, n) := asN_e rfl (dt_q dL_same_0_D 8 rfl) rfl rfl
theorem eL_same_16 : WP (ML_same g) Q (16, [l0, l1, l2, l3, l4], st, w, k, n) = WP (ML_same g) Q (17, [l0, l1, l2, l3, l4], .int 1 :: st, w, k, n) := ic_1 rfl (dt_q dL_same_0_D 9 rfl)
theorem eL_same_17 : WP (ML_same g) Q (17, [l0, l1, l2, l3, l4], [.int a], w, k, n) = (k ≤ 3 ∧ n ≤ 18 ∧ Q (.inl (some (.int a))) w) := iretI_e rfl (dt_q dL_same_0_D 10 rfl) rfl
theorem eL_same_18 : WP (ML_same g) Q (18, [l0, l1, l2, l3, l4], .ref p :: st, w, k, n) = WP (ML_same g) Q (20, [l0, l1, l2, nl l3, some (.ref p)], st, w, k, n) := asR_e rfl (dt_q dL_same_0_D 11 rfl) rfl rfl
theorem eL_same_18N : WP (ML_same g) Q (18, [l0, l1, l2, l3, l4], .null :: st, w, k, n) = WP (ML_same g) Q (20, [l0, l1, l2, nl l3, some (.null)], st, w, k, n) := asN_e rfl (dt_q dL_same_0_D 11 rfl) rfl rfl
theorem eL_same_20 : WP (ML_same g) Q (20, [l0, l1, l2, l3, l4], st, w, k, n) = WP (ML_same g) Q (21, [l0, l1, l2, l3, l4], .int 2 :: st, w, k, n) := ic_2 rfl (dt_q dL_same_0_D 12 rfl)
theorem eL_same_21 : WP (ML_same g) Q (21, [l0, l1, l2, l3, l4], [.int a], w, k, n) = (k ≤ 3 ∧ n ≤ 18 ∧ Q (.inl (some (.int a))) w) := iretI_e rfl (dt_q dL_same_0_D 13 rfl) rfl
theorem eL_same_22 : WP (ML_same g) Q (22, [l0, l1, l2, l3, l4], st, w, k, n) = WP (ML_same g) Q (23, [l0, l1, l2, l3, l4], .int 0 :: st, w, k, n) := ic_0 rfl (dt_q dL_same_0_D 14 rfl)
theorem eL_same_23 : WP (ML_same g) Q (23, [l0, l1, l2, l3, l4], [.int a], w, k, n) = (k ≤ 3 ∧ n ≤ 18 ∧ Q (.inl (some (.int a))) w) := iretI_e rfl (dt_q dL_same_0_D 15 rfl) rfl
end
theorem wk_906 : (.code yX1_same cX1_same 5 (some .int) : Jvm.Cond) ∈ WS := WS_t4 128 rfl rfl
theorem wk_903 : (.methodLink RL 76 yX1_same : Jvm.Cond) ∈ WS := WS_t4 125 rfl rfl
theorem wk_904 : (.instanceMethod yX1_same : Jvm.Cond) ∈ WS := WS_t4 126 rfl rfl
theorem wk_905 : (.selects RX1 yX1_same yX1_same : Jvm.Cond) ∈ WS := WS_t4 127 rfl rfl
theorem kc_154 {l : Launch} (hl : l.stackTraces = false) {G : GT} {own : String} {i : Nat} (hw : Jvm.Cond.methodLink own i yX1_same ∈ WS) : vCal l G own i (2, 3, 5, 8, (fun _ _ => 3), (fun _ _ => 18), yX1_same, spOf (MX1_same (gg G))) := ⟨cX1_same, 5, some .int, fun y hy => by subst hy; exact ⟨by decide, ⟨_, wk_906, okX1_same hl, Or.inl ⟨Nat.ne_of_beq_eq_false rfl, rfl⟩⟩, wk_59, nc14, ⟨(by decide +kernel : (parseMethodDescriptor yX1_same.desc).map (fun d => d.parameters.length + 1) = some 3), hw, wk_904, wk_905, (RX1, TX1, 7), rfl, rfl⟩⟩⟩
theorem vML_same {l : Launch} (hl : l.stackTraces = false) (G : GT) : vM l G (ML_same (gg G)) := vM_k RL cL_same rfl rfl (all_c (vF_RL_13) (all_n)) all_n all_n all_n all_n (fun h => absurd rfl h) (all_c (kc_154 hl wk_903) (all_n)) all_n all_n (fun h => absurd rfl h) rfl (all_c (⟨"java/lang/IndexOutOfBoundsException", by decide, rfl, by decide, wk_348⟩) (all_c (⟨"java/lang/IllegalStateException", by decide, rfl, by decide, wk_869⟩) (all_n)))
theorem okL_same {l : Launch} (hl : l.stackTraces = false) {G : GT} : ∀ (args : List Value) (w : Hw) (S : Ot → Hw → Prop), spOf (ML_same (gg G)) args w S → CX l G yL_same (.codeWith yL_same cL_same 5 (some .int) [(0, 11, 14, 19), (0, 11, 18, 74)]) 9 3 18 args w S := CX_spH (M := ML_same (gg G)) (y := yL_same) hl (by decide) rfl (vML_same hl G) (fun h => by cases h)
abbrev dL_outer_0_T : List (Nat × Instr × Nat) := [(0, .aload_n 3, 1), (1, .aload_n 0, 1), (2, .iload_n 1, 1), (3, .iload_n 2, 1), (4, .invokevirtual 79, 3), (7, .i2l, 1), (8, .putfield 13, 3), (11, .goto 11, 3), (14, .astore 4, 2), (16, .iconst 1, 1), (17, .ireturn, 1), (18, .astore 4, 2), (20, .iconst 2, 1), (21, .ireturn, 1), (22, .iconst 0, 1), (23, .ireturn, 1)]
theorem dL_outer_0_D : dtc cL_outer dL_outer_0_T = true := by decide +kernel
def ML_outer (g : RO) : MT := ((RL, cL_outer, 5, 9, 4, 22, false, some .int), [(13, 6, 0)], [], [], [], [], 0, [(79, 2, 3, 5, 8, (fun _ _ => 4), (fun _ _ => 22), yX1_outer, spOf (MX1_outer g))], [], [], 0, [(0, 11, 14, 19), (0, 11, 18, 74)], [(19, "java/lang/IndexOutOfBoundsException"), (74, "java/lang/IllegalStateException")], g)
section
variable {g : RO} {Q : Ot → Hw → Prop} {st : List Value} {w : Hw} {k n p q : Nat} {a b : Int32} {x y : Int64} {u v : Value} {l0 l1 l2 l3 l4 : Option Value}
theorem eL_outer_0 : WP (ML_outer g) Q (0, [l0, l1, l2, some (.ref p), l4], st, w, k, n) = WP (ML_outer g) Q (1, [l0, l1, l2, some (.ref p), l4], .ref p :: st, w, k, n) := alnR_e rfl (dt_q dL_outer_0_D 0 rfl) rfl
theorem eL_outer_0N : WP (ML_outer g) Q (0, [l0, l1, l2, some .null, l4], st, w, k, n) = WP (ML_outer g) Q (1, [l0, l1, l2, some .null, l4], .null :: st, w, k, n) := alnN_e rfl (dt_q dL_outer_0_D 0 rfl) rfl
theorem eL_outer_1 : WP (ML_outer g) Q (1, [some (.ref p), l1, l2, l3, l4], st, w, k, n) = WP (ML_outer g) Q (2, [some (.ref p), l1, l2, l3, l4], .ref p :: st, w, k, n) := alnR_e rfl (dt_q dL_outer_0_D 1 rfl) rfl
theorem eL_outer_1N : WP (ML_outer g) Q (1, [some .null, l1, l2, l3, l4], st, w, k, n) = WP (ML_outer g) Q (2, [some .null, l1, l2, l3, l4], .null :: st, w, k, n) := alnN_e rfl (dt_q dL_outer_0_D 1 rfl) rfl
theorem eL_outer_2 : WP (ML_outer g) Q (2, [l0, some (.int a), l2, l3, l4], st, w, k, n) = WP (ML_outer g) Q (3, [l0, some (.int a), l2, l3, l4], .int a :: st, w, k, n) := iln_e rfl (dt_q dL_outer_0_D 2 rfl) rfl
theorem eL_outer_3 : WP (ML_outer g) Q (3, [l0, l1, some (.int a), l3, l4], st, w, k, n) = WP (ML_outer g) Q (4, [l0, l1, some (.int a), l3, l4], .int a :: st, w, k, n) := iln_e rfl (dt_q dL_outer_0_D 3 rfl) rfl
theorem eL_outer_4 {z0 : Int32} {z1 : Int32} : WP (ML_outer g) Q (4, [l0, l1, l2, l3, l4], .int z1 :: .int z0 :: .ref p :: st, w, k, n) = (go (rd g w p) 5 (fun _ => True) ∧ wt st ≤ 8 ∧ k + 4 ≤ 4 ∧ n + 22 ≤ 22 ∧ WP (MX1_outer g) (kx (fun v w' => WP (ML_outer g) Q (7, [l0, l1, l2, l3, l4], v.toList ++ st, w', k + 4, n + 22)) (fun E w' => hgo (ML_outer g) Q (WP (ML_outer g) Q) 4 [l0, l1, l2, l3, l4] E w' (k + 4) (n + 22))) (0, [some (.ref p), some (.int z0), some (.int z1), none, none], [], w, 0, 0)) := csVH (M := (ML_outer g)) (mc := (fun _ _ => 4)) (ms := (fun _ _ => 22)) (As := [.int z0, .int z1]) (rest := st) (MX1_outer g) rfl (dt_q dL_outer_0_D 4 rfl) (by exact fun h => nomatch (show (none : Option Nat) = some 11 from h)) (by exact fun h => nomatch (show (none : Option Nat) = some 15 from h)) rfl rfl (by decide) (Nat.le_of_ble_eq_true rfl) (Nat.le_of_ble_eq_true rfl) rfl
theorem eL_outer_7 : WP (ML_outer g) Q (7, [l0, l1, l2, l3, l4], .int a :: st, w, k, n) = WP (ML_outer g) Q (8, [l0, l1, l2, l3, l4], .long a.toInt64 :: st, w, k, n) := i2l_e rfl (dt_q dL_outer_0_D 5 rfl)
theorem eL_outer_8 : WP (ML_outer g) Q (8, [l0, l1, l2, l3, l4], v :: .ref p :: st, w, k, n) = go (w p) 6 fun fs => 0 < fs.length ∧ (narrow (.long) v = v ∧ fits (.long) v = true) ∧ WP (ML_outer g) Q (11, [l0, l1, l2, l3, l4], st, upw w p (.inr (6, fs.set 0 v)), k, n) := put_e (q := (RX2, TX2, 2)) rfl (dt_q dL_outer_0_D 6 rfl) rfl rfl (tyX2_ok 0 (by decide)) (Or.inl rfl)
theorem eL_outer_11 : WP (ML_outer g) Q (11, [l0, l1, l2, l3, l4], st, w, k, n) = WP (ML_outer g) Q (22, [l0, l1, l2, l3, l4], st, w, k, n) := goto_e rfl (dt_q dL_outer_0_D 7 rfl) (by decide)
theorem eL_outer_14 : WP (ML_outer g) Q (14, [l0, l1, l2, l3, l4], .ref p :: st, w, k, n) = WP (ML_outer g) Q (16, [l0, l1, l2, nl l3, some (.ref p)], st, w, k, n) := asR_e rfl (dt_q dL_outer_0_D 8 rfl) rfl rfl
theorem eL_outer_14N : WP (ML_outer g) Q (14, [l0, l1, l2, l3, l4], .null :: st, w, k, n) = WP (ML_outer g) Q (16, [l0, l1, l2, nl l3, some (.null)], st, w, k, n) := asN_e rfl (dt_q dL_outer_0_D 8 rfl) rfl rfl
theorem eL_outer_16 : WP (ML_outer g) Q (16, [l0, l1, l2, l3, l4], st, w, k, n) = WP (ML_outer g) Q (17, [l0, l1, l2, l3, l4], .int 1 :: st, w, k, n) := ic_1 rfl (dt_q dL_outer_0_D 9 rfl)
theorem eL_outer_17 : WP (ML_outer g) Q (17, [l0, l1, l2, l3, l4], [.int a], w, k, n) = (k ≤ 4 ∧ n ≤ 22 ∧ Q (.inl (some (.int a))) w) := iretI_e rfl (dt_q dL_outer_0_D 10 rfl) rfl
theorem eL_outer_18 : WP (ML_outer g) Q (18, [l0, l1, l2, l3, l4], .ref p :: st, w, k, n) = WP (ML_outer g) Q (20, [l0, l1, l2, nl l3, some (.ref p)], st, w, k, n) := asR_e rfl (dt_q dL_outer_0_D 11 rfl) rfl rfl
theorem eL_outer_18N : WP (ML_outer g) Q (18, [l0, l1, l2, l3, l4], .null :: st, w, k, n) = WP (ML_outer g) Q (20, [l0, l1, l2, nl l3, some (.null)], st, w, k, n) := asN_e rfl (dt_q dL_outer_0_D 11 rfl) rfl rfl
theorem eL_outer_20 : WP (ML_outer g) Q (20, [l0, l1, l2, l3, l4], st, w, k, n) = WP (ML_outer g) Q (21, [l0, l1, l2, l3, l4], .int 2 :: st, w, k, n) := ic_2 rfl (dt_q dL_outer_0_D 12 rfl)
theorem eL_outer_21 : WP (ML_outer g) Q (21, [l0, l1, l2, l3, l4], [.int a], w, k, n) = (k ≤ 4 ∧ n ≤ 22 ∧ Q (.inl (some (.int a))) w) := iretI_e rfl (dt_q dL_outer_0_D 13 rfl) rfl
theorem eL_outer_22 : WP (ML_outer g) Q (22, [l0, l1, l2, l3, l4], st, w, k, n) = WP (ML_outer g) Q (23, [l0, l1, l2, l3, l4], .int 0 :: st, w, k, n) := ic_0 rfl (dt_q dL_outer_0_D 14 rfl)
theorem eL_outer_23 : WP (ML_outer g) Q (23, [l0, l1, l2, l3, l4], [.int a], w, k, n) = (k ≤ 4 ∧ n ≤ 22 ∧ Q (.inl (some (.int a))) w) := iretI_e rfl (dt_q dL_outer_0_D 15 rfl) rfl
end
theorem wk_913 : (.code yX1_outer cX1_outer 5 (some .int) : Jvm.Cond) ∈ WS := WS_t4 135 rfl rfl
theorem wk_910 : (.methodLink RL 79 yX1_outer : Jvm.Cond) ∈ WS := WS_t4 132 rfl rfl
theorem wk_911 : (.instanceMethod yX1_outer : Jvm.Cond) ∈ WS := WS_t4 133 rfl rfl
theorem wk_912 : (.selects RX1 yX1_outer yX1_outer : Jvm.Cond) ∈ WS := WS_t4 134 rfl rfl
theorem kc_155 {l : Launch} (hl : l.stackTraces = false) {G : GT} {own : String} {i : Nat} (hw : Jvm.Cond.methodLink own i yX1_outer ∈ WS) : vCal l G own i (2, 3, 5, 8, (fun _ _ => 4), (fun _ _ => 22), yX1_outer, spOf (MX1_outer (gg G))) := ⟨cX1_outer, 5, some .int, fun y hy => by subst hy; exact ⟨by decide, ⟨_, wk_913, okX1_outer hl, Or.inl ⟨Nat.ne_of_beq_eq_false rfl, rfl⟩⟩, wk_59, nc14, ⟨(by decide +kernel : (parseMethodDescriptor yX1_outer.desc).map (fun d => d.parameters.length + 1) = some 3), hw, wk_911, wk_912, (RX1, TX1, 7), rfl, rfl⟩⟩⟩
theorem vML_outer {l : Launch} (hl : l.stackTraces = false) (G : GT) : vM l G (ML_outer (gg G)) := vM_k RL cL_outer rfl rfl (all_c (vF_RL_13) (all_n)) all_n all_n all_n all_n (fun h => absurd rfl h) (all_c (kc_155 hl wk_910) (all_n)) all_n all_n (fun h => absurd rfl h) rfl (all_c (⟨"java/lang/IndexOutOfBoundsException", by decide, rfl, by decide, wk_348⟩) (all_c (⟨"java/lang/IllegalStateException", by decide, rfl, by decide, wk_869⟩) (all_n)))
theorem okL_outer {l : Launch} (hl : l.stackTraces = false) {G : GT} : ∀ (args : List Value) (w : Hw) (S : Ot → Hw → Prop), spOf (ML_outer (gg G)) args w S → CX l G yL_outer (.codeWith yL_outer cL_outer 5 (some .int) [(0, 11, 14, 19), (0, 11, 18, 74)]) 9 4 22 args w S := CX_spH (M := ML_outer (gg G)) (y := yL_outer) hl (by decide) rfl (vML_outer hl G) (fun h => by cases h)
end
/-! 69.law03.lean.txt -/
section
abbrev dL_inner_0_T : List (Nat × Instr × Nat) := [(0, .aload_n 3, 1), (1, .aload_n 0, 1), (2, .iload_n 1, 1), (3, .iload_n 2, 1), (4, .invokevirtual 82, 3), (7, .i2l, 1), (8, .putfield 13, 3), (11, .goto 11, 3), (14, .astore 4, 2), (16, .iconst 1, 1), (17, .ireturn, 1), (18, .astore 4, 2), (20, .iconst 2, 1), (21, .ireturn, 1), (22, .iconst 0, 1), (23, .ireturn, 1)]
theorem dL_inner_0_D : dtc cL_inner dL_inner_0_T = true := by decide +kernel
def ML_inner (g : RO) : MT := ((RL, cL_inner, 5, 9, 4, 22, false, some .int), [(13, 6, 0)], [], [], [], [], 0, [(82, 2, 3, 5, 8, (fun _ _ => 4), (fun _ _ => 22), yX1_inner, spOf (MX1_inner g))], [], [], 0, [(0, 11, 14, 19), (0, 11, 18, 74)], [(19, "java/lang/IndexOutOfBoundsException"), (74, "java/lang/IllegalStateException")], g)
section
variable {g : RO} {Q : Ot → Hw → Prop} {st : List Value} {w : Hw} {k n p q : Nat} {a b : Int32} {x y : Int64} {u v : Value} {l0 l1 l2 l3 l4 : Option Value}
theorem eL_inner_0 : WP (ML_inner g) Q (0, [l0, l1, l2, some (.ref p), l4], st, w, k, n) = WP (ML_inner g) Q (1, [l0, l1, l2, some (.ref p), l4], .ref p :: st, w, k, n) := alnR_e rfl (dt_q dL_inner_0_D 0 rfl) rfl
theorem eL_inner_0N : WP (ML_inner g) Q (0, [l0, l1, l2, some .null, l4], st, w, k, n) = WP (ML_inner g) Q (1, [l0, l1, l2, some .null, l4], .null :: st, w, k, n) := alnN_e rfl (dt_q dL_inner_0_D 0 rfl) rfl
theorem eL_inner_1 : WP (ML_inner g) Q (1, [some (.ref p), l1, l2, l3, l4], st, w, k, n) = WP (ML_inner g) Q (2, [some (.ref p), l1, l2, l3, l4], .ref p :: st, w, k, n) := alnR_e rfl (dt_q dL_inner_0_D 1 rfl) rfl
theorem eL_inner_1N : WP (ML_inner g) Q (1, [some .null, l1, l2, l3, l4], st, w, k, n) = WP (ML_inner g) Q (2, [some .null, l1, l2, l3, l4], .null :: st, w, k, n) := alnN_e rfl (dt_q dL_inner_0_D 1 rfl) rfl
theorem eL_inner_2 : WP (ML_inner g) Q (2, [l0, some (.int a), l2, l3, l4], st, w, k, n) = WP (ML_inner g) Q (3, [l0, some (.int a), l2, l3, l4], .int a :: st, w, k, n) := iln_e rfl (dt_q dL_inner_0_D 2 rfl) rfl
theorem eL_inner_3 : WP (ML_inner g) Q (3, [l0, l1, some (.int a), l3, l4], st, w, k, n) = WP (ML_inner g) Q (4, [l0, l1, some (.int a), l3, l4], .int a :: st, w, k, n) := iln_e rfl (dt_q dL_inner_0_D 3 rfl) rfl
theorem eL_inner_4 {z0 : Int32} {z1 : Int32} : WP (ML_inner g) Q (4, [l0, l1, l2, l3, l4], .int z1 :: .int z0 :: .ref p :: st, w, k, n) = (go (rd g w p) 5 (fun _ => True) ∧ wt st ≤ 8 ∧ k + 4 ≤ 4 ∧ n + 22 ≤ 22 ∧ WP (MX1_inner g) (kx (fun v w' => WP (ML_inner g) Q (7, [l0, l1, l2, l3, l4], v.toList ++ st, w', k + 4, n + 22)) (fun E w' => hgo (ML_inner g) Q (WP (ML_inner g) Q) 4 [l0, l1, l2, l3, l4] E w' (k + 4) (n + 22))) (0, [some (.ref p), some (.int z0), some (.int z1), none], [], w, 0, 0)) := csVH (M := (ML_inner g)) (mc := (fun _ _ => 4)) (ms := (fun _ _ => 22)) (As := [.int z0, .int z1]) (rest := st) (MX1_inner g) rfl (dt_q dL_inner_0_D 4 rfl) (by exact fun h => nomatch (show (none : Option Nat) = some 11 from h)) (by exact fun h => nomatch (show (none : Option Nat) = some 15 from h)) rfl rfl (by decide) (Nat.le_of_ble_eq_true rfl) (Nat.le_of_ble_eq_true rfl) rfl
theorem eL_inner_7 : WP (ML_inner g) Q (7, [l0, l1, l2, l3, l4], .int a :: st, w, k, n) = WP (ML_inner g) Q (8, [l0, l1, l2, l3, l4], .long a.toInt64 :: st, w, k, n) := i2l_e rfl (dt_q dL_inner_0_D 5 rfl)
theorem eL_inner_8 : WP (ML_inner g) Q (8, [l0, l1, l2, l3, l4], v :: .ref p :: st, w, k, n) = go (w p) 6 fun fs => 0 < fs.length ∧ (narrow (.long) v = v ∧ fits (.long) v = true) ∧ WP (ML_inner g) Q (11, [l0, l1, l2, l3, l4], st, upw w p (.inr (6, fs.set 0 v)), k, n) := put_e (q := (RX2, TX2, 2)) rfl (dt_q dL_inner_0_D 6 rfl) rfl rfl (tyX2_ok 0 (by decide)) (Or.inl rfl)
theorem eL_inner_11 : WP (ML_inner g) Q (11, [l0, l1, l2, l3, l4], st, w, k, n) = WP (ML_inner g) Q (22, [l0, l1, l2, l3, l4], st, w, k, n) := goto_e rfl (dt_q dL_inner_0_D 7 rfl) (by decide)
theorem eL_inner_14 : WP (ML_inner g) Q (14, [l0, l1, l2, l3, l4], .ref p :: st, w, k, n) = WP (ML_inner g) Q (16, [l0, l1, l2, nl l3, some (.ref p)], st, w, k, n) := asR_e rfl (dt_q dL_inner_0_D 8 rfl) rfl rfl
theorem eL_inner_14N : WP (ML_inner g) Q (14, [l0, l1, l2, l3, l4], .null :: st, w, k, n) = WP (ML_inner g) Q (16, [l0, l1, l2, nl l3, some (.null)], st, w, k, n) := asN_e rfl (dt_q dL_inner_0_D 8 rfl) rfl rfl
theorem eL_inner_16 : WP (ML_inner g) Q (16, [l0, l1, l2, l3, l4], st, w, k, n) = WP (ML_inner g) Q (17, [l0, l1, l2, l3, l4], .int 1 :: st, w, k, n) := ic_1 rfl (dt_q dL_inner_0_D 9 rfl)
theorem eL_inner_17 : WP (ML_inner g) Q (17, [l0, l1, l2, l3, l4], [.int a], w, k, n) = (k ≤ 4 ∧ n ≤ 22 ∧ Q (.inl (some (.int a))) w) := iretI_e rfl (dt_q dL_inner_0_D 10 rfl) rfl
theorem eL_inner_18 : WP (ML_inner g) Q (18, [l0, l1, l2, l3, l4], .ref p :: st, w, k, n) = WP (ML_inner g) Q (20, [l0, l1, l2, nl l3, some (.ref p)], st, w, k, n) := asR_e rfl (dt_q dL_inner_0_D 11 rfl) rfl rfl
theorem eL_inner_18N : WP (ML_inner g) Q (18, [l0, l1, l2, l3, l4], .null :: st, w, k, n) = WP (ML_inner g) Q (20, [l0, l1, l2, nl l3, some (.null)], st, w, k, n) := asN_e rfl (dt_q dL_inner_0_D 11 rfl) rfl rfl
theorem eL_inner_20 : WP (ML_inner g) Q (20, [l0, l1, l2, l3, l4], st, w, k, n) = WP (ML_inner g) Q (21, [l0, l1, l2, l3, l4], .int 2 :: st, w, k, n) := ic_2 rfl (dt_q dL_inner_0_D 12 rfl)
theorem eL_inner_21 : WP (ML_inner g) Q (21, [l0, l1, l2, l3, l4], [.int a], w, k, n) = (k ≤ 4 ∧ n ≤ 22 ∧ Q (.inl (some (.int a))) w) := iretI_e rfl (dt_q dL_inner_0_D 13 rfl) rfl
theorem eL_inner_22 : WP (ML_inner g) Q (22, [l0, l1, l2, l3, l4], st, w, k, n) = WP (ML_inner g) Q (23, [l0, l1, l2, l3, l4], .int 0 :: st, w, k, n) := ic_0 rfl (dt_q dL_inner_0_D 14 rfl)
theorem eL_inner_23 : WP (ML_inner g) Q (23, [l0, l1, l2, l3, l4], [.int a], w, k, n) = (k ≤ 4 ∧ n ≤ 22 ∧ Q (.inl (some (.int a))) w) := iretI_e rfl (dt_q dL_inner_0_D 15 rfl) rfl
end
theorem wk_920 : (.code yX1_inner cX1_inner 4 (some .int) : Jvm.Cond) ∈ WS := WS_t4 142 rfl rfl
theorem wk_917 : (.methodLink RL 82 yX1_inner : Jvm.Cond) ∈ WS := WS_t4 139 rfl rfl
theorem wk_918 : (.instanceMethod yX1_inner : Jvm.Cond) ∈ WS := WS_t4 140 rfl rfl
theorem wk_919 : (.selects RX1 yX1_inner yX1_inner : Jvm.Cond) ∈ WS := WS_t4 141 rfl rfl
theorem kc_156 {l : Launch} (hl : l.stackTraces = false) {G : GT} {own : String} {i : Nat} (hw : Jvm.Cond.methodLink own i yX1_inner ∈ WS) : vCal l G own i (2, 3, 5, 8, (fun _ _ => 4), (fun _ _ => 22), yX1_inner, spOf (MX1_inner (gg G))) := ⟨cX1_inner, 4, some .int, fun y hy => by subst hy; exact ⟨by decide, ⟨_, wk_920, okX1_inner hl, Or.inl ⟨Nat.ne_of_beq_eq_false rfl, rfl⟩⟩, wk_59, nc14, ⟨(by decide +kernel : (parseMethodDescriptor yX1_inner.desc).map (fun d => d.parameters.length + 1) = some 3), hw, wk_918, wk_919, (RX1, TX1, 7), rfl, rfl⟩⟩⟩
theorem vML_inner {l : Launch} (hl : l.stackTraces = false) (G : GT) : vM l G (ML_inner (gg G)) := vM_k RL cL_inner rfl rfl (all_c (vF_RL_13) (all_n)) all_n all_n all_n all_n (fun h => absurd rfl h) (all_c (kc_156 hl wk_917) (all_n)) all_n all_n (fun h => absurd rfl h) rfl (all_c (⟨"java/lang/IndexOutOfBoundsException", by decide, rfl, by decide, wk_348⟩) (all_c (⟨"java/lang/IllegalStateException", by decide, rfl, by decide, wk_869⟩) (all_n)))
theorem okL_inner {l : Launch} (hl : l.stackTraces = false) {G : GT} : ∀ (args : List Value) (w : Hw) (S : Ot → Hw → Prop), spOf (ML_inner (gg G)) args w S → CX l G yL_inner (.codeWith yL_inner cL_inner 5 (some .int) [(0, 11, 14, 19), (0, 11, 18, 74)]) 9 4 22 args w S := CX_spH (M := ML_inner (gg G)) (y := yL_inner) hl (by decide) rfl (vML_inner hl G) (fun h => by cases h)
abbrev dL_span_0_T : List (Nat × Instr × Nat) := [(0, .aload 4, 2), (2, .aload_n 0, 1), (3, .iload_n 1, 1), (4, .iload_n 2, 1), (5, .iload_n 3, 1), (6, .invokevirtual 85, 3), (9, .i2l, 1), (10, .putfield 13, 3), (13, .goto 11, 3), (16, .astore 5, 2), (18, .iconst 1, 1), (19, .ireturn, 1), (20, .astore 5, 2), (22, .iconst 2, 1), (23, .ireturn, 1), (24, .iconst 0, 1), (25, .ireturn, 1)]
theorem dL_span_0_D : dtc cL_span dL_span_0_T = true := by decide +kernel
def ML_span (g : RO) : MT := ((RL, cL_span, 6, 9, 8, 46, false, some .int), [(13, 6, 0)], [], [], [], [], 0, [(85, 2, 4, 5, 8, (fun _ _ => 8), (fun _ _ => 46), yX1_span, spOf (MX1_span g))], [], [], 0, [(0, 13, 16, 19), (0, 13, 20, 74)], [(19, "java/lang/IndexOutOfBoundsException"), (74, "java/lang/IllegalStateException")], g)
section
variable {g : RO} {Q : Ot → Hw → Prop} {st : List Value} {w : Hw} {k n p q : Nat} {a b : Int32} {x y : Int64} {u v : Value} {l0 l1 l2 l3 l4 l5 : Option Value}
theorem eL_span_0 : WP (ML_span g) Q (0, [l0, l1, l2, l3, some (.ref p), l5], st, w, k, n) = WP (ML_span g) Q (2, [l0, l1, l2, l3, some (.ref p), l5], .ref p :: st, w, k, n) := alR_e rfl (dt_q dL_span_0_D 0 rfl) rfl
theorem eL_span_0N : WP (ML_span g) Q (0, [l0, l1, l2, l3, some .null, l5], st, w, k, n) = WP (ML_span g) Q (2, [l0, l1, l2, l3, some .null, l5], .null :: st, w, k, n) := alN_e rfl (dt_q dL_span_0_D 0 rfl) rfl
theorem eL_span_2 : WP (ML_span g) Q (2, [some (.ref p), l1, l2, l3, l4, l5], st, w, k, n) = WP (ML_span g) Q (3, [some (.ref p), l1, l2, l3, l4, l5], .ref p :: st, w, k, n) := alnR_e rfl (dt_q dL_span_0_D 1 rfl) rfl
theorem eL_span_2N : WP (ML_span g) Q (2, [some .null, l1, l2, l3, l4, l5], st, w, k, n) = WP (ML_span g) Q (3, [some .null, l1, l2, l3, l4, l5], .null :: st, w, k, n) := alnN_e rfl (dt_q dL_span_0_D 1 rfl) rfl
theorem eL_span_3 : WP (ML_span g) Q (3, [l0, some (.int a), l2, l3, l4, l5], st, w, k, n) = WP (ML_span g) Q (4, [l0, some (.int a), l2, l3, l4, l5], .int a :: st, w, k, n) := iln_e rfl (dt_q dL_span_0_D 2 rfl) rfl
theorem eL_span_4 : WP (ML_span g) Q (4, [l0, l1, some (.int a), l3, l4, l5], st, w, k, n) = WP (ML_span g) Q (5, [l0, l1, some (.int a), l3, l4, l5], .int a :: st, w, k, n) := iln_e rfl (dt_q dL_span_0_D 3 rfl) rfl
theorem eL_span_5 : WP (ML_span g) Q (5, [l0, l1, l2, some (.int a), l4, l5], st, w, k, n) = WP (ML_span g) Q (6, [l0, l1, l2, some (.int a), l4, l5], .int a :: st, w, k, n) := iln_e rfl (dt_q dL_span_0_D 4 rfl) rfl
theorem eL_span_6 {z0 : Int32} {z1 : Int32} {z2 : Int32} : WP (ML_span g) Q (6, [l0, l1, l2, l3, l4, l5], .int z2 :: .int z1 :: .int z0 :: .ref p :: st, w, k, n) = (go (rd g w p) 5 (fun _ => True) ∧ wt st ≤ 8 ∧ k + 8 ≤ 8 ∧ n + 46 ≤ 46 ∧ WP (MX1_span g) (kx (fun v w' => WP (ML_span g) Q (9, [l0, l1, l2, l3, l4, l5], v.toList ++ st, w', k + 8, n + 46)) (fun E w' => hgo (ML_span g) Q (WP (ML_span g) Q) 6 [l0, l1, l2, l3, l4, l5] E w' (k + 8) (n + 46))) (0, [some (.ref p), some (.int z0), some (.int z1), some (.int z2), none, none], [], w, 0, 0)) := csVH (M := (ML_span g)) (mc := (fun _ _ => 8)) (ms := (fun _ _ => 46)) (As := [.int z0, .int z1, .int z2]) (rest := st) (MX1_span g) rfl (dt_q dL_span_0_D 5 rfl) (by exact fun h => nomatch (show (none : Option Nat) = some 11 from h)) (by exact fun h => nomatch (show (none : Option Nat) = some 15 from h)) rfl rfl (by decide) (Nat.le_of_ble_eq_true rfl) (Nat.le_of_ble_eq_true rfl) rfl
theorem eL_span_9 : WP (ML_span g) Q (9, [l0, l1, l2, l3, l4, l5], .int a :: st, w, k, n) = WP (ML_span g) Q (10, [l0, l1, l2, l3, l4, l5], .long a.toInt64 :: st, w, k, n) := i2l_e rfl (dt_q dL_span_0_D 6 rfl)
theorem eL_span_10 : WP (ML_span g) Q (10, [l0, l1, l2, l3, l4, l5], v :: .ref p :: st, w, k, n) = go (w p) 6 fun fs => 0 < fs.length ∧ (narrow (.long) v = v ∧ fits (.long) v = true) ∧ WP (ML_span g) Q (13, [l0, l1, l2, l3, l4, l5], st, upw w p (.inr (6, fs.set 0 v)), k, n) := put_e (q := (RX2, TX2, 2)) rfl (dt_q dL_span_0_D 7 rfl) rfl rfl (tyX2_ok 0 (by decide)) (Or.inl rfl)
theorem eL_span_13 : WP (ML_span g) Q (13, [l0, l1, l2, l3, l4, l5], st, w, k, n) = WP (ML_span g) Q (24, [l0, l1, l2, l3, l4, l5], st, w, k, n) := goto_e rfl (dt_q dL_span_0_D 8 rfl) (by decide)
theorem eL_span_16 : WP (ML_span g) Q (16, [l0, l1, l2, l3, l4, l5], .ref p :: st, w, k, n) = WP (ML_span g) Q (18, [l0, l1, l2, l3, nl l4, some (.ref p)], st, w, k, n) := asR_e rfl (dt_q dL_span_0_D 9 rfl) rfl rfl
theorem eL_span_16N : WP (ML_span g) Q (16, [l0, l1, l2, l3, l4, l5], .null :: st, w, k, n) = WP (ML_span g) Q (18, [l0, l1, l2, l3, nl l4, some (.null)], st, w, k, n) := asN_e rfl (dt_q dL_span_0_D 9 rfl) rfl rfl
theorem eL_span_18 : WP (ML_span g) Q (18, [l0, l1, l2, l3, l4, l5], st, w, k, n) = WP (ML_span g) Q (19, [l0, l1, l2, l3, l4, l5], .int 1 :: st, w, k, n) := ic_1 rfl (dt_q dL_span_0_D 10 rfl)
theorem eL_span_19 : WP (ML_span g) Q (19, [l0, l1, l2, l3, l4, l5], [.int a], w, k, n) = (k ≤ 8 ∧ n ≤ 46 ∧ Q (.inl (some (.int a))) w) := iretI_e rfl (dt_q dL_span_0_D 11 rfl) rfl
theorem eL_span_20 : WP (ML_span g) Q (20, [l0, l1, l2, l3, l4, l5], .ref p :: st, w, k, n) = WP (ML_span g) Q (22, [l0, l1, l2, l3, nl l4, some (.ref p)], st, w, k, n) := asR_e rfl (dt_q dL_span_0_D 12 rfl) rfl rfl
theorem eL_span_20N : WP (ML_span g) Q (20, [l0, l1, l2, l3, l4, l5], .null :: st, w, k, n) = WP (ML_span g) Q (22, [l0, l1, l2, l3, nl l4, some (.null)], st, w, k, n) := asN_e rfl (dt_q dL_span_0_D 12 rfl) rfl rfl
theorem eL_span_22 : WP (ML_span g) Q (22, [l0, l1, l2, l3, l4, l5], st, w, k, n) = WP (ML_span g) Q (23, [l0, l1, l2, l3, l4, l5], .int 2 :: st, w, k, n) := ic_2 rfl (dt_q dL_span_0_D 13 rfl)
theorem eL_span_23 : WP (ML_span g) Q (23, [l0, l1, l2, l3, l4, l5], [.int a], w, k, n) = (k ≤ 8 ∧ n ≤ 46 ∧ Q (.inl (some (.int a))) w) := iretI_e rfl (dt_q dL_span_0_D 14 rfl) rfl
theorem eL_span_24 : WP (ML_span g) Q (24, [l0, l1, l2, l3, l4, l5], st, w, k, n) = WP (ML_span g) Q (25, [l0, l1, l2, l3, l4, l5], .int 0 :: st, w, k, n) := ic_0 rfl (dt_q dL_span_0_D 15 rfl)
theorem eL_span_25 : WP (ML_span g) Q (25, [l0, l1, l2, l3, l4, l5], [.int a], w, k, n) = (k ≤ 8 ∧ n ≤ 46 ∧ Q (.inl (some (.int a))) w) := iretI_e rfl (dt_q dL_span_0_D 16 rfl) rfl
end
theorem wk_927 : (.code yX1_span cX1_span 6 (some .int) : Jvm.Cond) ∈ WS := WS_t4 149 rfl rfl
theorem wk_924 : (.methodLink RL 85 yX1_span : Jvm.Cond) ∈ WS := WS_t4 146 rfl rfl
theorem wk_925 : (.instanceMethod yX1_span : Jvm.Cond) ∈ WS := WS_t4 147 rfl rfl
theorem wk_926 : (.selects RX1 yX1_span yX1_span : Jvm.Cond) ∈ WS := WS_t4 148 rfl rfl
theorem kc_157 {l : Launch} (hl : l.stackTraces = false) {G : GT} {own : String} {i : Nat} (hw : Jvm.Cond.methodLink own i yX1_span ∈ WS) : vCal l G own i (2, 4, 5, 8, (fun _ _ => 8), (fun _ _ => 46), yX1_span, spOf (MX1_span (gg G))) := ⟨cX1_span, 6, some .int, fun y hy => by subst hy; exact ⟨by decide, ⟨_, wk_927, okX1_span hl, Or.inl ⟨Nat.ne_of_beq_eq_false rfl, rfl⟩⟩, wk_59, nc14, ⟨(by decide +kernel : (parseMethodDescriptor yX1_span.desc).map (fun d => d.parameters.length + 1) = some 4), hw, wk_925, wk_926, (RX1, TX1, 7), rfl, rfl⟩⟩⟩
theorem vML_span {l : Launch} (hl : l.stackTraces = false) (G : GT) : vM l G (ML_span (gg G)) := vM_k RL cL_span rfl rfl (all_c (vF_RL_13) (all_n)) all_n all_n all_n all_n (fun h => absurd rfl h) (all_c (kc_157 hl wk_924) (all_n)) all_n all_n (fun h => absurd rfl h) rfl (all_c (⟨"java/lang/IndexOutOfBoundsException", by decide, rfl, by decide, wk_348⟩) (all_c (⟨"java/lang/IllegalStateException", by decide, rfl, by decide, wk_869⟩) (all_n)))
theorem okL_span {l : Launch} (hl : l.stackTraces = false) {G : GT} : ∀ (args : List Value) (w : Hw) (S : Ot → Hw → Prop), spOf (ML_span (gg G)) args w S → CX l G yL_span (.codeWith yL_span cL_span 6 (some .int) [(0, 13, 16, 19), (0, 13, 20, 74)]) 9 8 46 args w S := CX_spH (M := ML_span (gg G)) (y := yL_span) hl (by decide) rfl (vML_span hl G) (fun h => by cases h)
abbrev dL_shift_0_T : List (Nat × Instr × Nat) := [(0, .aload_n 3, 1), (1, .aload_n 0, 1), (2, .iload_n 1, 1), (3, .iload_n 2, 1), (4, .invokevirtual 88, 3), (7, .i2l, 1), (8, .putfield 13, 3), (11, .goto 11, 3), (14, .astore 4, 2), (16, .iconst 1, 1), (17, .ireturn, 1), (18, .astore 4, 2), (20, .iconst 2, 1), (21, .ireturn, 1), (22, .iconst 0, 1), (23, .ireturn, 1)]
theorem dL_shift_0_D : dtc cL_shift dL_shift_0_T = true := by decide +kernel
def ML_shift (g : RO) : MT := ((RL, cL_shift, 5, 9, 3, 16, false, some .int), [(13, 6, 0)], [], [], [], [], 0, [(88, 2, 3, 5, 8, (fun _ _ => 3), (fun _ _ => 16), yX1_shift, spOf (MX1_shift g))], [], [], 0, [(0, 11, 14, 19), (0, 11, 18, 74)], [(19, "java/lang/IndexOutOfBoundsException"), (74, "java/lang/IllegalStateException")], g)
section
variable {g : RO} {Q : Ot → Hw → Prop} {st : List Value} {w : Hw} {k n p q : Nat} {a b : Int32} {x y : Int64} {u v : Value} {l0 l1 l2 l3 l4 : Option Value}
theorem eL_shift_0 : WP (ML_shift g) Q (0, [l0, l1, l2, some (.ref p), l4], st, w, k, n) = WP (ML_shift g) Q (1, [l0, l1, l2, some (.ref p), l4], .ref p :: st, w, k, n) := alnR_e rfl (dt_q dL_shift_0_D 0 rfl) rfl
theorem eL_shift_0N : WP (ML_shift g) Q (0, [l0, l1, l2, some .null, l4], st, w, k, n) = WP (ML_shift g) Q (1, [l0, l1, l2, some .null, l4], .null :: st, w, k, n) := alnN_e rfl (dt_q dL_shift_0_D 0 rfl) rfl
theorem eL_shift_1 : WP (ML_shift g) Q (1, [some (.ref p), l1, l2, l3, l4], st, w, k, n) = WP (ML_shift g) Q (2, [some (.ref p), l1, l2, l3, l4], .ref p :: st, w, k, n) := alnR_e rfl (dt_q dL_shift_0_D 1 rfl) rfl
theorem eL_shift_1N : WP (ML_shift g) Q (1, [some .null, l1, l2, l3, l4], st, w, k, n) = WP (ML_shift g) Q (2, [some .null, l1, l2, l3, l4], .null :: st, w, k, n) := alnN_e rfl (dt_q dL_shift_0_D 1 rfl) rfl
theorem eL_shift_2 : WP (ML_shift g) Q (2, [l0, some (.int a), l2, l3, l4], st, w, k, n) = WP (ML_shift g) Q (3, [l0, some (.int a), l2, l3, l4], .int a :: st, w, k, n) := iln_e rfl (dt_q dL_shift_0_D 2 rfl) rfl
theorem eL_shift_3 : WP (ML_shift g) Q (3, [l0, l1, some (.int a), l3, l4], st, w, k, n) = WP (ML_shift g) Q (4, [l0, l1, some (.int a), l3, l4], .int a :: st, w, k, n) := iln_e rfl (dt_q dL_shift_0_D 3 rfl) rfl
theorem eL_shift_4 {z0 : Int32} {z1 : Int32} : WP (ML_shift g) Q (4, [l0, l1, l2, l3, l4], .int z1 :: .int z0 :: .ref p :: st, w, k, n) = (go (rd g w p) 5 (fun _ => True) ∧ wt st ≤ 8 ∧ k + 3 ≤ 3 ∧ n + 16 ≤ 16 ∧ WP (MX1_shift g) (kx (fun v w' => WP (ML_shift g) Q (7, [l0, l1, l2, l3, l4], v.toList ++ st, w', k + 3, n + 16)) (fun E w' => hgo (ML_shift g) Q (WP (ML_shift g) Q) 4 [l0, l1, l2, l3, l4] E w' (k + 3) (n + 16))) (0, [some (.ref p), some (.int z0), some (.int z1), none], [], w, 0, 0)) := csVH (M := (ML_shift g)) (mc := (fun _ _ => 3)) (ms := (fun _ _ => 16)) (As := [.int z0, .int z1]) (rest := st) (MX1_shift g) rfl (dt_q dL_shift_0_D 4 rfl) (by exact fun h => nomatch (show (none : Option Nat) = some 11 from h)) (by exact fun h => nomatch (show (none : Option Nat) = some 15 from h)) rfl rfl (by decide) (Nat.le_of_ble_eq_true rfl) (Nat.le_of_ble_eq_true rfl) rfl
theorem eL_shift_7 : WP (ML_shift g) Q (7, [l0, l1, l2, l3, l4], .int a :: st, w, k, n) = WP (ML_shift g) Q (8, [l0, l1, l2, l3, l4], .long a.toInt64 :: st, w, k, n) := i2l_e rfl (dt_q dL_shift_0_D 5 rfl)
theorem eL_shift_8 : WP (ML_shift g) Q (8, [l0, l1, l2, l3, l4], v :: .ref p :: st, w, k, n) = go (w p) 6 fun fs => 0 < fs.length ∧ (narrow (.long) v = v ∧ fits (.long) v = true) ∧ WP (ML_shift g) Q (11, [l0, l1, l2, l3, l4], st, upw w p (.inr (6, fs.set 0 v)), k, n) := put_e (q := (RX2, TX2, 2)) rfl (dt_q dL_shift_0_D 6 rfl) rfl rfl (tyX2_ok 0 (by decide)) (Or.inl rfl)
theorem eL_shift_11 : WP (ML_shift g) Q (11, [l0, l1, l2, l3, l4], st, w, k, n) = WP (ML_shift g) Q (22, [l0, l1, l2, l3, l4], st, w, k, n) := goto_e rfl (dt_q dL_shift_0_D 7 rfl) (by decide)
theorem eL_shift_14 : WP (ML_shift g) Q (14, [l0, l1, l2, l3, l4], .ref p :: st, w, k, n) = WP (ML_shift g) Q (16, [l0, l1, l2, nl l3, some (.ref p)], st, w, k, n) := asR_e rfl (dt_q dL_shift_0_D 8 rfl) rfl rfl
theorem eL_shift_14N : WP (ML_shift g) Q (14, [l0, l1, l2, l3, l4], .null :: st, w, k, n) = WP (ML_shift g) Q (16, [l0, l1, l2, nl l3, some (.null)], st, w, k, n) := asN_e rfl (dt_q dL_shift_0_D 8 rfl) rfl rfl
theorem eL_shift_16 : WP (ML_shift g) Q (16, [l0, l1, l2, l3, l4], st, w, k, n) = WP (ML_shift g) Q (17, [l0, l1, l2, l3, l4], .int 1 :: st, w, k, n) := ic_1 rfl (dt_q dL_shift_0_D 9 rfl)
theorem eL_shift_17 : WP (ML_shift g) Q (17, [l0, l1, l2, l3, l4], [.int a], w, k, n) = (k ≤ 3 ∧ n ≤ 16 ∧ Q (.inl (some (.int a))) w) := iretI_e rfl (dt_q dL_shift_0_D 10 rfl) rfl
theorem eL_shift_18 : WP (ML_shift g) Q (18, [l0, l1, l2, l3, l4], .ref p :: st, w, k, n) = WP (ML_shift g) Q (20, [l0, l1, l2, nl l3, some (.ref p)], st, w, k, n) := asR_e rfl (dt_q dL_shift_0_D 11 rfl) rfl rfl
theorem eL_shift_18N : WP (ML_shift g) Q (18, [l0, l1, l2, l3, l4], .null :: st, w, k, n) = WP (ML_shift g) Q (20, [l0, l1, l2, nl l3, some (.null)], st, w, k, n) := asN_e rfl (dt_q dL_shift_0_D 11 rfl) rfl rfl
theorem eL_shift_20 : WP (ML_shift g) Q (20, [l0, l1, l2, l3, l4], st, w, k, n) = WP (ML_shift g) Q (21, [l0, l1, l2, l3, l4], .int 2 :: st, w, k, n) := ic_2 rfl (dt_q dL_shift_0_D 12 rfl)
theorem eL_shift_21 : WP (ML_shift g) Q (21, [l0, l1, l2, l3, l4], [.int a], w, k, n) = (k ≤ 3 ∧ n ≤ 16 ∧ Q (.inl (some (.int a))) w) := iretI_e rfl (dt_q dL_shift_0_D 13 rfl) rfl
theorem eL_shift_22 : WP (ML_shift g) Q (22, [l0, l1, l2, l3, l4], st, w, k, n) = WP (ML_shift g) Q (23, [l0, l1, l2, l3, l4], .int 0 :: st, w, k, n) := ic_0 rfl (dt_q dL_shift_0_D 14 rfl)
theorem eL_shift_23 : WP (ML_shift g) Q (23, [l0, l1, l2, l3, l4], [.int a], w, k, n) = (k ≤ 3 ∧ n ≤ 16 ∧ Q (.inl (some (.int a))) w) := iretI_e rfl (dt_q dL_shift_0_D 15 rfl) rfl
end
theorem wk_934 : (.code yX1_shift cX1_shift 4 (some .int) : Jvm.Cond) ∈ WS := WS_t4 156 rfl rfl
theorem wk_931 : (.methodLink RL 88 yX1_shift : Jvm.Cond) ∈ WS := WS_t4 153 rfl rfl
theorem wk_932 : (.instanceMethod yX1_shift : Jvm.Cond) ∈ WS := WS_t4 154 rfl rfl
theorem wk_933 : (.selects RX1 yX1_shift yX1_shift : Jvm.Cond) ∈ WS := WS_t4 155 rfl rfl
theorem kc_158 {l : Launch} (hl : l.stackTraces = false) {G : GT} {own : String} {i : Nat} (hw : Jvm.Cond.methodLink own i yX1_shift ∈ WS) : vCal l G own i (2, 3, 5, 8, (fun _ _ => 3), (fun _ _ => 16), yX1_shift, spOf (MX1_shift (gg G))) := ⟨cX1_shift, 4, some .int, fun y hy => by subst hy; exact ⟨by decide, ⟨_, wk_934, okX1_shift hl, Or.inl ⟨Nat.ne_of_beq_eq_false rfl, rfl⟩⟩, wk_59, nc14, ⟨(by decide +kernel : (parseMethodDescriptor yX1_shift.desc).map (fun d => d.parameters.length + 1) = some 3), hw, wk_932, wk_933, (RX1, TX1, 7), rfl, rfl⟩⟩⟩
theorem vML_shift {l : Launch} (hl : l.stackTraces = false) (G : GT) : vM l G (ML_shift (gg G)) := vM_k RL cL_shift rfl rfl (all_c (vF_RL_13) (all_n)) all_n all_n all_n all_n (fun h => absurd rfl h) (all_c (kc_158 hl wk_931) (all_n)) all_n all_n (fun h => absurd rfl h) rfl (all_c (⟨"java/lang/IndexOutOfBoundsException", by decide, rfl, by decide, wk_348⟩) (all_c (⟨"java/lang/IllegalStateException", by decide, rfl, by decide, wk_869⟩) (all_n)))
theorem okL_shift {l : Launch} (hl : l.stackTraces = false) {G : GT} : ∀ (args : List Value) (w : Hw) (S : Ot → Hw → Prop), spOf (ML_shift (gg G)) args w S → CX l G yL_shift (.codeWith yL_shift cL_shift 5 (some .int) [(0, 11, 14, 19), (0, 11, 18, 74)]) 9 3 16 args w S := CX_spH (M := ML_shift (gg G)) (y := yL_shift) hl (by decide) rfl (vML_shift hl G) (fun h => by cases h)
abbrev dL_drop_0_T : List (Nat × Instr × Nat) := [(0, .aload_n 2, 1), (1, .aload_n 0, 1), (2, .iload_n 1, 1), (3, .invokevirtual 91, 3), (6, .i2l, 1), (7, .putfield 13, 3), (10, .goto 6, 3), (13, .astore_n 3, 1), (14, .iconst 1, 1), (15, .ireturn, 1), (16, .iconst 0, 1), (17, .ireturn, 1)]
theorem dL_drop_0_D : dtc cL_drop dL_drop_0_T = true := by decide +kernel
def ML_drop (g : RO) : MT := ((RL, cL_drop, 4, 8, 1, 6, false, some .int), [(13, 6, 0)], [], [], [], [], 0, [(91, 2, 2, 5, 7, (fun _ _ => 1), (fun _ _ => 6), yX1_drop, spOf (MX1_drop g))], [], [], 0, [(0, 10, 13, 19)], [(19, "java/lang/IndexOutOfBoundsException")], g)
section
variable {g : RO} {Q : Ot → Hw → Prop} {st : List Value} {w : Hw} {k n p q : Nat} {a b : Int32} {x y : Int64} {u v : Value} {l0 l1 l2 l3 : Option Value}
theorem eL_drop_0 : WP (ML_drop g) Q (0, [l0, l1, some (.ref p), l3], st, w, k, n) = WP (ML_drop g) Q (1, [l0, l1, some (.ref p), l3], .ref p :: st, w, k, n) := alnR_e rfl (dt_q dL_drop_0_D 0 rfl) rfl
theorem eL_drop_0N : WP (ML_drop g) Q (0, [l0, l1, some .null, l3], st, w, k, n) = WP (ML_drop g) Q (1, [l0, l1, some .null, l3], .null :: st, w, k, n) := alnN_e rfl (dt_q dL_drop_0_D 0 rfl) rfl
theorem eL_drop_1 : WP (ML_drop g) Q (1, [some (.ref p), l1, l2, l3], st, w, k, n) = WP (ML_drop g) Q (2, [some (.ref p), l1, l2, l3], .ref p :: st, w, k, n) := alnR_e rfl (dt_q dL_drop_0_D 1 rfl) rfl
theorem eL_drop_1N : WP (ML_drop g) Q (1, [some .null, l1, l2, l3], st, w, k, n) = WP (ML_drop g) Q (2, [some .null, l1, l2, l3], .null :: st, w, k, n) := alnN_e rfl (dt_q dL_drop_0_D 1 rfl) rfl
theorem eL_drop_2 : WP (ML_drop g) Q (2, [l0, some (.int a), l2, l3], st, w, k, n) = WP (ML_drop g) Q (3, [l0, some (.int a), l2, l3], .int a :: st, w, k, n) := iln_e rfl (dt_q dL_drop_0_D 2 rfl) rfl
theorem eL_drop_3 {z0 : Int32} : WP (ML_drop g) Q (3, [l0, l1, l2, l3], .int z0 :: .ref p :: st, w, k, n) = (go (rd g w p) 5 (fun _ => True) ∧ wt st ≤ 8 ∧ k + 1 ≤ 1 ∧ n + 6 ≤ 6 ∧ WP (MX1_drop g) (kx (fun v w' => WP (ML_drop g) Q (6, [l0, l1, l2, l3], v.toList ++ st, w', k + 1, n + 6)) (fun E w' => hgo (ML_drop g) Q (WP (ML_drop g) Q) 3 [l0, l1, l2, l3] E w' (k + 1) (n + 6))) (0, [some (.ref p), some (.int z0), none], [], w, 0, 0)) := csVH (M := (ML_drop g)) (mc := (fun _ _ => 1)) (ms := (fun _ _ => 6)) (As := [.int z0]) (rest := st) (MX1_drop g) rfl (dt_q dL_drop_0_D 3 rfl) (by exact fun h => nomatch (show (none : Option Nat) = some 11 from h)) (by exact fun h => nomatch (show (none : Option Nat) = some 15 from h)) rfl rfl (by decide) (Nat.le_of_ble_eq_true rfl) (Nat.le_of_ble_eq_true rfl) rfl
theorem eL_drop_6 : WP (ML_drop g) Q (6, [l0, l1, l2, l3], .int a :: st, w, k, n) = WP (ML_drop g) Q (7, [l0, l1, l2, l3], .long a.toInt64 :: st, w, k, n) := i2l_e rfl (dt_q dL_drop_0_D 4 rfl)
theorem eL_drop_7 : WP (ML_drop g) Q (7, [l0, l1, l2, l3], v :: .ref p :: st, w, k, n) = go (w p) 6 fun fs => 0 < fs.length ∧ (narrow (.long) v = v ∧ fits (.long) v = true) ∧ WP (ML_drop g) Q (10, [l0, l1, l2, l3], st, upw w p (.inr (6, fs.set 0 v)), k, n) := put_e (q := (RX2, TX2, 2)) rfl (dt_q dL_drop_0_D 5 rfl) rfl rfl (tyX2_ok 0 (by decide)) (Or.inl rfl)
theorem eL_drop_10 : WP (ML_drop g) Q (10, [l0, l1, l2, l3], st, w, k, n) = WP (ML_drop g) Q (16, [l0, l1, l2, l3], st, w, k, n) := goto_e rfl (dt_q dL_drop_0_D 6 rfl) (by decide)
theorem eL_drop_13 : WP (ML_drop g) Q (13, [l0, l1, l2, l3], .ref p :: st, w, k, n) = WP (ML_drop g) Q (14, [l0, l1, nl l2, some (.ref p)], st, w, k, n) := asnR_e rfl (dt_q dL_drop_0_D 7 rfl) rfl rfl
theorem eL_drop_13N : WP (ML_drop g) Q (13, [l0, l1, l2, l3], .null :: st, w, k, n) = WP (ML_drop g) Q (14, [l0, l1, nl l2, some (.null)], st, w, k, n) := asnN_e rfl (dt_q dL_drop_0_D 7 rfl) rfl rfl
theorem eL_drop_14 : WP (ML_drop g) Q (14, [l0, l1, l2, l3], st, w, k, n) = WP (ML_drop g) Q (15, [l0, l1, l2, l3], .int 1 :: st, w, k, n) := ic_1 rfl (dt_q dL_drop_0_D 8 rfl)
theorem eL_drop_15 : WP (ML_drop g) Q (15, [l0, l1, l2, l3], [.int a], w, k, n) = (k ≤ 1 ∧ n ≤ 6 ∧ Q (.inl (some (.int a))) w) := iretI_e rfl (dt_q dL_drop_0_D 9 rfl) rfl
theorem eL_drop_16 : WP (ML_drop g) Q (16, [l0, l1, l2, l3], st, w, k, n) = WP (ML_drop g) Q (17, [l0, l1, l2, l3], .int 0 :: st, w, k, n) := ic_0 rfl (dt_q dL_drop_0_D 10 rfl)
theorem eL_drop_17 : WP (ML_drop g) Q (17, [l0, l1, l2, l3], [.int a], w, k, n) = (k ≤ 1 ∧ n ≤ 6 ∧ Q (.inl (some (.int a))) w) := iretI_e rfl (dt_q dL_drop_0_D 11 rfl) rfl
end
theorem wk_941 : (.code yX1_drop cX1_drop 3 (some .int) : Jvm.Cond) ∈ WS := WS_t4 163 rfl rfl
theorem wk_938 : (.methodLink RL 91 yX1_drop : Jvm.Cond) ∈ WS := WS_t4 160 rfl rfl
theorem wk_939 : (.instanceMethod yX1_drop : Jvm.Cond) ∈ WS := WS_t4 161 rfl rfl
theorem wk_940 : (.selects RX1 yX1_drop yX1_drop : Jvm.Cond) ∈ WS := WS_t4 162 rfl rfl
theorem kc_159 {l : Launch} (hl : l.stackTraces = false) {G : GT} {own : String} {i : Nat} (hw : Jvm.Cond.methodLink own i yX1_drop ∈ WS) : vCal l G own i (2, 2, 5, 7, (fun _ _ => 1), (fun _ _ => 6), yX1_drop, spOf (MX1_drop (gg G))) := ⟨cX1_drop, 3, some .int, fun y hy => by subst hy; exact ⟨by decide, ⟨_, wk_941, okX1_drop hl, Or.inl ⟨Nat.ne_of_beq_eq_false rfl, rfl⟩⟩, wk_59, nc14, ⟨(by decide +kernel : (parseMethodDescriptor yX1_drop.desc).map (fun d => d.parameters.length + 1) = some 2), hw, wk_939, wk_940, (RX1, TX1, 7), rfl, rfl⟩⟩⟩
theorem vML_drop {l : Launch} (hl : l.stackTraces = false) (G : GT) : vM l G (ML_drop (gg G)) := vM_k RL cL_drop rfl rfl (all_c (vF_RL_13) (all_n)) all_n all_n all_n all_n (fun h => absurd rfl h) (all_c (kc_159 hl wk_938) (all_n)) all_n all_n (fun h => absurd rfl h) rfl (all_c (⟨"java/lang/IndexOutOfBoundsException", by decide, rfl, by decide, wk_348⟩) (all_n))
theorem okL_drop {l : Launch} (hl : l.stackTraces = false) {G : GT} : ∀ (args : List Value) (w : Hw) (S : Ot → Hw → Prop), spOf (ML_drop (gg G)) args w S → CX l G yL_drop (.codeWith yL_drop cL_drop 4 (some .int) [(0, 10, 13, 19)]) 8 1 6 args w S := CX_spH (M := ML_drop (gg G)) (y := yL_drop) hl (by decide) rfl (vML_drop hl G) (fun h => by cases h)
abbrev dL_isThere_0_T : List (Nat × Instr × Nat) := [(0, .aload_n 2, 1), (1, .aload_n 0, 1), (2, .iload_n 1, 1), (3, .invokevirtual 95, 3), (6, .ifCond .eq 7, 3), (9, .lconst 1, 1), (10, .goto 4, 3), (13, .lconst 0, 1), (14, .putfield 13, 3), (17, .goto 6, 3), (20, .astore_n 3, 1), (21, .iconst 1, 1), (22, .ireturn, 1), (23, .iconst 0, 1), (24, .ireturn, 1)]
theorem dL_isThere_0_D : dtc cL_isThere dL_isThere_0_T = true := by decide +kernel
def ML_isThere (g : RO) : MT := ((RL, cL_isThere, 4, 8, 1, 6, false, some .int), [(13, 6, 0)], [], [], [], [], 0, [(95, 2, 2, 5, 7, (fun _ _ => 1), (fun _ _ => 6), yX1_isThere, spOf (MX1_isThere g))], [], [], 0, [(0, 17, 20, 19)], [(19, "java/lang/IndexOutOfBoundsException")], g)
section
variable {g : RO} {Q : Ot → Hw → Prop} {st : List Value} {w : Hw} {k n p q : Nat} {a b : Int32} {x y : Int64} {u v : Value} {l0 l1 l2 l3 : Option Value}
theorem eL_isThere_0 : WP (ML_isThere g) Q (0, [l0, l1, some (.ref p), l3], st, w, k, n) = WP (ML_isThere g) Q (1, [l0, l1, some (.ref p), l3], .ref p :: st, w, k, n) := alnR_e rfl (dt_q dL_isThere_0_D 0 rfl) rfl
theorem eL_isThere_0N : WP (ML_isThere g) Q (0, [l0, l1, some .null, l3], st, w, k, n) = WP (ML_isThere g) Q (1, [l0, l1, some .null, l3], .null :: st, w, k, n) := alnN_e rfl (dt_q dL_isThere_0_D 0 rfl) rfl
theorem eL_isThere_1 : WP (ML_isThere g) Q (1, [some (.ref p), l1, l2, l3], st, w, k, n) = WP (ML_isThere g) Q (2, [some (.ref p), l1, l2, l3], .ref p :: st, w, k, n) := alnR_e rfl (dt_q dL_isThere_0_D 1 rfl) rfl
theorem eL_isThere_1N : WP (ML_isThere g) Q (1, [some .null, l1, l2, l3], st, w, k, n) = WP (ML_isThere g) Q (2, [some .null, l1, l2, l3], .null :: st, w, k, n) := alnN_e rfl (dt_q dL_isThere_0_D 1 rfl) rfl
theorem eL_isThere_2 : WP (ML_isThere g) Q (2, [l0, some (.int a), l2, l3], st, w, k, n) = WP (ML_isThere g) Q (3, [l0, some (.int a), l2, l3], .int a :: st, w, k, n) := iln_e rfl (dt_q dL_isThere_0_D 2 rfl) rfl
theorem eL_isThere_3 {z0 : Int32} : WP (ML_isThere g) Q (3, [l0, l1, l2, l3], .int z0 :: .ref p :: st, w, k, n) = (go (rd g w p) 5 (fun _ => True) ∧ wt st ≤ 8 ∧ k + 1 ≤ 1 ∧ n + 6 ≤ 6 ∧ WP (MX1_isThere g) (kx (fun v w' => WP (ML_isThere g) Q (6, [l0, l1, l2, l3], v.toList ++ st, w', k + 1, n + 6)) (fun E w' => hgo (ML_isThere g) Q (WP (ML_isThere g) Q) 3 [l0, l1, l2, l3] E w' (k + 1) (n + 6))) (0, [some (.ref p), some (.int z0)], [], w, 0, 0)) := csVH (M := (ML_isThere g)) (mc := (fun _ _ => 1)) (ms := (fun _ _ => 6)) (As := [.int z0]) (rest := st) (MX1_isThere g) rfl (dt_q dL_isThere_0_D 3 rfl) (by exact fun h => nomatch (show (none : Option Nat) = some 11 from h)) (by exact fun h => nomatch (show (none : Option Nat) = some 15 from h)) rfl rfl (by decide) (Nat.le_of_ble_eq_true rfl) (Nat.le_of_ble_eq_true rfl) rfl
theorem eL_isThere_6 : WP (ML_isThere g) Q (6, [l0, l1, l2, l3], .int a :: st, w, k, n) = if a = 0 then WP (ML_isThere g) Q (13, [l0, l1, l2, l3], st, w, k, n) else WP (ML_isThere g) Q (9, [l0, l1, l2, l3], st, w, k, n) := ifc_e (a = 0) rfl (dt_q dL_isThere_0_D 4 rfl) rfl (by decide)
theorem eL_isThere_9 : WP (ML_isThere g) Q (9, [l0, l1, l2, l3], st, w, k, n) = WP (ML_isThere g) Q (10, [l0, l1, l2, l3], .long 1 :: st, w, k, n) := lconst_e rfl (dt_q dL_isThere_0_D 5 rfl) (by decide)
theorem eL_isThere_10 : WP (ML_isThere g) Q (10, [l0, l1, l2, l3], st, w, k, n) = WP (ML_isThere g) Q (14, [l0, l1, l2, l3], st, w, k, n) := goto_e rfl (dt_q dL_isThere_0_D 6 rfl) (by decide)
theorem eL_isThere_13 : WP (ML_isThere g) Q (13, [l0, l1, l2, l3], st, w, k, n) = WP (ML_isThere g) Q (14, [l0, l1, l2, l3], .long 0 :: st, w, k, n) := lconst_e rfl (dt_q dL_isThere_0_D 7 rfl) (by decide)
theorem eL_isThere_14 : WP (ML_isThere g) Q (14, [l0, l1, l2, l3], v :: .ref p :: st, w, k, n) = go (w p) 6 fun fs => 0 < fs.length ∧ (narrow (.long) v = v ∧ fits (.long) v = true) ∧ WP (ML_isThere g) Q (17, [l0, l1, l2, l3], st, upw w p (.inr (6, fs.set 0 v)), k, n) := put_e (q := (RX2, TX2, 2)) rfl (dt_q dL_isThere_0_D 8 rfl) rfl rfl (tyX2_ok 0 (by decide)) (Or.inl rfl)
theorem eL_isThere_17 : WP (ML_isThere g) Q (17, [l0, l1, l2, l3], st, w, k, n) = WP (ML_isThere g) Q (23, [l0, l1, l2, l3], st, w, k, n) := goto_e rfl (dt_q dL_isThere_0_D 9 rfl) (by decide)
theorem eL_isThere_20 : WP (ML_isThere g) Q (20, [l0, l1, l2, l3], .ref p :: st, w, k, n) = WP (ML_isThere g) Q (21, [l0, l1, nl l2, some (.ref p)], st, w, k, n) := asnR_e rfl (dt_q dL_isThere_0_D 10 rfl) rfl rfl
theorem eL_isThere_20N : WP (ML_isThere g) Q (20, [l0, l1, l2, l3], .null :: st, w, k, n) = WP (ML_isThere g) Q (21, [l0, l1, nl l2, some (.null)], st, w, k, n) := asnN_e rfl (dt_q dL_isThere_0_D 10 rfl) rfl rfl
theorem eL_isThere_21 : WP (ML_isThere g) Q (21, [l0, l1, l2, l3], st, w, k, n) = WP (ML_isThere g) Q (22, [l0, l1, l2, l3], .int 1 :: st, w, k, n) := ic_1 rfl (dt_q dL_isThere_0_D 11 rfl)
theorem eL_isThere_22 : WP (ML_isThere g) Q (22, [l0, l1, l2, l3], [.int a], w, k, n) = (k ≤ 1 ∧ n ≤ 6 ∧ Q (.inl (some (.int a))) w) := iretI_e rfl (dt_q dL_isThere_0_D 12 rfl) rfl
theorem eL_isThere_23 : WP (ML_isThere g) Q (23, [l0, l1, l2, l3], st, w, k, n) = WP (ML_isThere g) Q (24, [l0, l1, l2, l3], .int 0 :: st, w, k, n) := ic_0 rfl (dt_q dL_isThere_0_D 13 rfl)
theorem eL_isThere_24 : WP (ML_isThere g) Q (24, [l0, l1, l2, l3], [.int a], w, k, n) = (k ≤ 1 ∧ n ≤ 6 ∧ Q (.inl (some (.int a))) w) := iretI_e rfl (dt_q dL_isThere_0_D 14 rfl) rfl
end
theorem wk_948 : (.code yX1_isThere cX1_isThere 2 (some .boolean) : Jvm.Cond) ∈ WS := WS_t4 170 rfl rfl
theorem wk_945 : (.methodLink RL 95 yX1_isThere : Jvm.Cond) ∈ WS := WS_t4 167 rfl rfl
theorem wk_946 : (.instanceMethod yX1_isThere : Jvm.Cond) ∈ WS := WS_t4 168 rfl rfl
theorem wk_947 : (.selects RX1 yX1_isThere yX1_isThere : Jvm.Cond) ∈ WS := WS_t4 169 rfl rfl
theorem kc_160 {l : Launch} (hl : l.stackTraces = false) {G : GT} {own : String} {i : Nat} (hw : Jvm.Cond.methodLink own i yX1_isThere ∈ WS) : vCal l G own i (2, 2, 5, 7, (fun _ _ => 1), (fun _ _ => 6), yX1_isThere, spOf (MX1_isThere (gg G))) := ⟨cX1_isThere, 2, some .boolean, fun y hy => by subst hy; exact ⟨by decide, ⟨_, wk_948, okX1_isThere hl, Or.inl ⟨Nat.ne_of_beq_eq_false rfl, rfl⟩⟩, wk_59, nc14, ⟨(by decide +kernel : (parseMethodDescriptor yX1_isThere.desc).map (fun d => d.parameters.length + 1) = some 2), hw, wk_946, wk_947, (RX1, TX1, 7), rfl, rfl⟩⟩⟩
theorem vML_isThere {l : Launch} (hl : l.stackTraces = false) (G : GT) : vM l G (ML_isThere (gg G)) := vM_k RL cL_isThere rfl rfl (all_c (vF_RL_13) (all_n)) all_n all_n all_n all_n (fun h => absurd rfl h) (all_c (kc_160 hl wk_945) (all_n)) all_n all_n (fun h => absurd rfl h) rfl (all_c (⟨"java/lang/IndexOutOfBoundsException", by decide, rfl, by decide, wk_348⟩) (all_n))
theorem okL_isThere {l : Launch} (hl : l.stackTraces = false) {G : GT} : ∀ (args : List Value) (w : Hw) (S : Ot → Hw → Prop), spOf (ML_isThere (gg G)) args w S → CX l G yL_isThere (.codeWith yL_isThere cL_isThere 4 (some .int) [(0, 17, 20, 19)]) 8 1 6 args w S := CX_spH (M := ML_isThere (gg G)) (y := yL_isThere) hl (by decide) rfl (vML_isThere hl G) (fun h => by cases h)
abbrev dL_isFixed_0_T : List (Nat × Instr × Nat) := [(0, .aload_n 2, 1), (1, .aload_n 0, 1), (2, .iload_n 1, 1), (3, .invokevirtual 99, 3), (6, .ifCond .eq 7, 3), (9, .lconst 1, 1), (10, .goto 4, 3), (13, .lconst 0, 1), (14, .putfield 13, 3), (17, .goto 9, 3), (20, .astore_n 3, 1), (21, .iconst 1, 1), (22, .ireturn, 1), (23, .astore_n 3, 1), (24, .iconst 2, 1), (25, .ireturn, 1), (26, .iconst 0, 1), (27, .ireturn, 1)]
theorem dL_isFixed_0_D : dtc cL_isFixed dL_isFixed_0_T = true := by decide +kernel
def ML_isFixed (g : RO) : MT := ((RL, cL_isFixed, 4, 9, 2, 12, false, some .int), [(13, 6, 0)], [], [], [], [], 0, [(99, 2, 2, 5, 8, (fun _ _ => 2), (fun _ _ => 12), yX1_isFixed, spOf (MX1_isFixed g))], [], [], 0, [(0, 17, 20, 19), (0, 17, 23, 74)], [(19, "java/lang/IndexOutOfBoundsException"), (74, "java/lang/IllegalStateException")], g)
section
variable {g : RO} {Q : Ot → Hw → Prop} {st : List Value} {w : Hw} {k n p q : Nat} {a b : Int32} {x y : Int64} {u v : Value} {l0 l1 l2 l3 : Option Value}
theorem eL_isFixed_0 : WP (ML_isFixed g) Q (0, [l0, l1, some (.ref p), l3], st, w, k, n) = WP (ML_isFixed g) Q (1, [l0, l1, some (.ref p), l3], .ref p :: st, w, k, n) := alnR_e rfl (dt_q dL_isFixed_0_D 0 rfl) rfl
theorem eL_isFixed_0N : WP (ML_isFixed g) Q (0, [l0, l1, some .null, l3], st, w, k, n) = WP (ML_isFixed g) Q (1, [l0, l1, some .null, l3], .null :: st, w, k, n) := alnN_e rfl (dt_q dL_isFixed_0_D 0 rfl) rfl
theorem eL_isFixed_1 : WP (ML_isFixed g) Q (1, [some (.ref p), l1, l2, l3], st, w, k, n) = WP (ML_isFixed g) Q (2, [some (.ref p), l1, l2, l3], .ref p :: st, w, k, n) := alnR_e rfl (dt_q dL_isFixed_0_D 1 rfl) rfl
theorem eL_isFixed_1N : WP (ML_isFixed g) Q (1, [some .null, l1, l2, l3], st, w, k, n) = WP (ML_isFixed g) Q (2, [some .null, l1, l2, l3], .null :: st, w, k, n) := alnN_e rfl (dt_q dL_isFixed_0_D 1 rfl) rfl
theorem eL_isFixed_2 : WP (ML_isFixed g) Q (2, [l0, some (.int a), l2, l3], st, w, k, n) = WP (ML_isFixed g) Q (3, [l0, some (.int a), l2, l3], .int a :: st, w, k, n) := iln_e rfl (dt_q dL_isFixed_0_D 2 rfl) rfl
theorem eL_isFixed_3 {z0 : Int32} : WP (ML_isFixed g) Q (3, [l0, l1, l2, l3], .int z0 :: .ref p :: st, w, k, n) = (go (rd g w p) 5 (fun _ => True) ∧ wt st ≤ 8 ∧ k + 2 ≤ 2 ∧ n + 12 ≤ 12 ∧ WP (MX1_isFixed g) (kx (fun v w' => WP (ML_isFixed g) Q (6, [l0, l1, l2, l3], v.toList ++ st, w', k + 2, n + 12)) (fun E w' => hgo (ML_isFixed g) Q (WP (ML_isFixed g) Q) 3 [l0, l1, l2, l3] E w' (k + 2) (n + 12))) (0, [some (.ref p), some (.int z0)], [], w, 0, 0)) := csVH (M := (ML_isFixed g)) (mc := (fun _ _ => 2)) (ms := (fun _ _ => 12)) (As := [.int z0]) (rest := st) (MX1_isFixed g) rfl (dt_q dL_isFixed_0_D 3 rfl) (by exact fun h => nomatch (show (none : Option Nat) = some 11 from h)) (by exact fun h => nomatch (show (none : Option Nat) = some 15 from h)) rfl rfl (by decide) (Nat.le_of_ble_eq_true rfl) (Nat.le_of_ble_eq_true rfl) rfl
theorem eL_isFixed_6 : WP (ML_isFixed g) Q (6, [l0, l1, l2, l3], .int a :: st, w, k, n) = if a = 0 then WP (ML_isFixed g) Q (13, [l0, l1, l2, l3], st, w, k, n) else WP (ML_isFixed g) Q (9, [l0, l1, l2, l3], st, w, k, n) := ifc_e (a = 0) rfl (dt_q dL_isFixed_0_D 4 rfl) rfl (by decide)
theorem eL_isFixed_9 : WP (ML_isFixed g) Q (9, [l0, l1, l2, l3], st, w, k, n) = WP (ML_isFixed g) Q (10, [l0, l1, l2, l3], .long 1 :: st, w, k, n) := lconst_e rfl (dt_q dL_isFixed_0_D 5 rfl) (by decide)
theorem eL_isFixed_10 : WP (ML_isFixed g) Q (10, [l0, l1, l2, l3], st, w, k, n) = WP (ML_isFixed g) Q (14, [l0, l1, l2, l3], st, w, k, n) := goto_e rfl (dt_q dL_isFixed_0_D 6 rfl) (by decide)
theorem eL_isFixed_13 : WP (ML_isFixed g) Q (13, [l0, l1, l2, l3], st, w, k, n) = WP (ML_isFixed g) Q (14, [l0, l1, l2, l3], .long 0 :: st, w, k, n) := lconst_e rfl (dt_q dL_isFixed_0_D 7 rfl) (by decide)
theorem eL_isFixed_14 : WP (ML_isFixed g) Q (14, [l0, l1, l2, l3], v :: .ref p :: st, w, k, n) = go (w p) 6 fun fs => 0 < fs.length ∧ (narrow (.long) v = v ∧ fits (.long) v = true) ∧ WP (ML_isFixed g) Q (17, [l0, l1, l2, l3], st, upw w p (.inr (6, fs.set 0 v)), k, n) := put_e (q := (RX2, TX2, 2)) rfl (dt_q dL_isFixed_0_D 8 rfl) rfl rfl (tyX2_ok 0 (by decide)) (Or.inl rfl)
theorem eL_isFixed_17 : WP (ML_isFixed g) Q (17, [l0, l1, l2, l3], st, w, k, n) = WP (ML_isFixed g) Q (26, [l0, l1, l2, l3], st, w, k, n) := goto_e rfl (dt_q dL_isFixed_0_D 9 rfl) (by decide)
theorem eL_isFixed_20 : WP (ML_isFixed g) Q (20, [l0, l1, l2, l3], .ref p :: st, w, k, n) = WP (ML_isFixed g) Q (21, [l0, l1, nl l2, some (.ref p)], st, w, k, n) := asnR_e rfl (dt_q dL_isFixed_0_D 10 rfl) rfl rfl
theorem eL_isFixed_20N : WP (ML_isFixed g) Q (20, [l0, l1, l2, l3], .null :: st, w, k, n) = WP (ML_isFixed g) Q (21, [l0, l1, nl l2, some (.null)], st, w, k, n) := asnN_e rfl (dt_q dL_isFixed_0_D 10 rfl) rfl rfl
theorem eL_isFixed_21 : WP (ML_isFixed g) Q (21, [l0, l1, l2, l3], st, w, k, n) = WP (ML_isFixed g) Q (22, [l0, l1, l2, l3], .int 1 :: st, w, k, n) := ic_1 rfl (dt_q dL_isFixed_0_D 11 rfl)
theorem eL_isFixed_22 : WP (ML_isFixed g) Q (22, [l0, l1, l2, l3], [.int a], w, k, n) = (k ≤ 2 ∧ n ≤ 12 ∧ Q (.inl (some (.int a))) w) := iretI_e rfl (dt_q dL_isFixed_0_D 12 rfl) rfl
theorem eL_isFixed_23 : WP (ML_isFixed g) Q (23, [l0, l1, l2, l3], .ref p :: st, w, k, n) = WP (ML_isFixed g) Q (24, [l0, l1, nl l2, some (.ref p)], st, w, k, n) := asnR_e rfl (dt_q dL_isFixed_0_D 13 rfl) rfl rfl
theorem eL_isFixed_23N : WP (ML_isFixed g) Q (23, [l0, l1, l2, l3], .null :: st, w, k, n) = WP (ML_isFixed g) Q (24, [l0, l1, nl l2, some (.null)], st, w, k, n) := asnN_e rfl (dt_q dL_isFixed_0_D 13 rfl) rfl rfl
theorem eL_isFixed_24 : WP (ML_isFixed g) Q (24, [l0, l1, l2, l3], st, w, k, n) = WP (ML_isFixed g) Q (25, [l0, l1, l2, l3], .int 2 :: st, w, k, n) := ic_2 rfl (dt_q dL_isFixed_0_D 14 rfl)
theorem eL_isFixed_25 : WP (ML_isFixed g) Q (25, [l0, l1, l2, l3], [.int a], w, k, n) = (k ≤ 2 ∧ n ≤ 12 ∧ Q (.inl (some (.int a))) w) := iretI_e rfl (dt_q dL_isFixed_0_D 15 rfl) rfl
theorem eL_isFixed_26 : WP (ML_isFixed g) Q (26, [l0, l1, l2, l3], st, w, k, n) = WP (ML_isFixed g) Q (27, [l0, l1, l2, l3], .int 0 :: st, w, k, n) := ic_0 rfl (dt_q dL_isFixed_0_D 16 rfl)
theorem eL_isFixed_27 : WP (ML_isFixed g) Q (27, [l0, l1, l2, l3], [.int a], w, k, n) = (k ≤ 2 ∧ n ≤ 12 ∧ Q (.inl (some (.int a))) w) := iretI_e rfl (dt_q dL_isFixed_0_D 17 rfl) rfl
end
theorem wk_955 : (.code yX1_isFixed cX1_isFixed 2 (some .boolean) : Jvm.Cond) ∈ WS := WS_t4 177 rfl rfl
theorem wk_952 : (.methodLink RL 99 yX1_isFixed : Jvm.Cond) ∈ WS := WS_t4 174 rfl rfl
theorem wk_953 : (.instanceMethod yX1_isFixed : Jvm.Cond) ∈ WS := WS_t4 175 rfl rfl
theorem wk_954 : (.selects RX1 yX1_isFixed yX1_isFixed : Jvm.Cond) ∈ WS := WS_t4 176 rfl rfl
theorem kc_161 {l : Launch} (hl : l.stackTraces = false) {G : GT} {own : String} {i : Nat} (hw : Jvm.Cond.methodLink own i yX1_isFixed ∈ WS) : vCal l G own i (2, 2, 5, 8, (fun _ _ => 2), (fun _ _ => 12), yX1_isFixed, spOf (MX1_isFixed (gg G))) := ⟨cX1_isFixed, 2, some .boolean, fun y hy => by subst hy; exact ⟨by decide, ⟨_, wk_955, okX1_isFixed hl, Or.inl ⟨Nat.ne_of_beq_eq_false rfl, rfl⟩⟩, wk_59, nc14, ⟨(by decide +kernel : (parseMethodDescriptor yX1_isFixed.desc).map (fun d => d.parameters.length + 1) = some 2), hw, wk_953, wk_954, (RX1, TX1, 7), rfl, rfl⟩⟩⟩
theorem vML_isFixed {l : Launch} (hl : l.stackTraces = false) (G : GT) : vM l G (ML_isFixed (gg G)) := vM_k RL cL_isFixed rfl rfl (all_c (vF_RL_13) (all_n)) all_n all_n all_n all_n (fun h => absurd rfl h) (all_c (kc_161 hl wk_952) (all_n)) all_n all_n (fun h => absurd rfl h) rfl (all_c (⟨"java/lang/IndexOutOfBoundsException", by decide, rfl, by decide, wk_348⟩) (all_c (⟨"java/lang/IllegalStateException", by decide, rfl, by decide, wk_869⟩) (all_n)))
theorem okL_isFixed {l : Launch} (hl : l.stackTraces = false) {G : GT} : ∀ (args : List Value) (w : Hw) (S : Ot → Hw → Prop), spOf (ML_isFixed (gg G)) args w S → CX l G yL_isFixed (.codeWith yL_isFixed cL_isFixed 4 (some .int) [(0, 17, 20, 19), (0, 17, 23, 74)]) 9 2 12 args w S := CX_spH (M := ML_isFixed (gg G)) (y := yL_isFixed) hl (by decide) rfl (vML_isFixed hl G) (fun h => by cases h)
end
/-! 69.law04.lean.txt -/
section
abbrev dL_isSmall_0_T : List (Nat × Instr × Nat) := [(0, .aload_n 2, 1), (1, .aload_n 0, 1), (2, .iload_n 1, 1), (3, .invokevirtual 102, 3), (6, .ifCond .eq 7, 3), (9, .lconst 1, 1), (10, .goto 4, 3), (13, .lconst 0, 1), (14, .putfield 13, 3), (17, .goto 9, 3), (20, .astore_n 3, 1), (21, .iconst 1, 1), (22, .ireturn, 1), (23, .astore_n 3, 1), (24, .iconst 2, 1), (25, .ireturn, 1), (26, .iconst 0, 1), (27, .ireturn, 1)]
theorem dL_isSmall_0_D : dtc cL_isSmall dL_isSmall_0_T = true := by decide +kernel
def ML_isSmall (g : RO) : MT := ((RL, cL_isSmall, 4, 9, 2, 12, false, some .int), [(13, 6, 0)], [], [], [], [], 0, [(102, 2, 2, 5, 8, (fun _ _ => 2), (fun _ _ => 12), yX1_isSmall, spOf (MX1_isSmall g))], [], [], 0, [(0, 17, 20, 19), (0, 17, 23, 74)], [(19, "java/lang/IndexOutOfBoundsException"), (74, "java/lang/IllegalStateException")], g)
section
variable {g : RO} {Q : Ot → Hw → Prop} {st : List Value} {w : Hw} {k n p q : Nat} {a b : Int32} {x y : Int64} {u v : Value} {l0 l1 l2 l3 : Option Value}
theorem eL_isSmall_0 : WP (ML_isSmall g) Q (0, [l0, l1, some (.ref p), l3], st, w, k, n) = WP (ML_isSmall g) Q (1, [l0, l1, some (.ref p), l3], .ref p :: st, w, k, n) := alnR_e rfl (dt_q dL_isSmall_0_D 0 rfl) rfl
theorem eL_isSmall_0N : WP (ML_isSmall g) Q (0, [l0, l1, some .null, l3], st, w, k, n) = WP (ML_isSmall g) Q (1, [l0, l1, some .null, l3], .null :: st, w, k, n) := alnN_e rfl (dt_q dL_isSmall_0_D 0 rfl) rfl
theorem eL_isSmall_1 : WP (ML_isSmall g) Q (1, [some (.ref p), l1, l2, l3], st, w, k, n) = WP (ML_isSmall g) Q (2, [some (.ref p), l1, l2, l3], .ref p :: st, w, k, n) := alnR_e rfl (dt_q dL_isSmall_0_D 1 rfl) rfl
theorem eL_isSmall_1N : WP (ML_isSmall g) Q (1, [some .null, l1, l2, l3], st, w, k, n) = WP (ML_isSmall g) Q (2, [some .null, l1, l2, l3], .null :: st, w, k, n) := alnN_e rfl (dt_q dL_isSmall_0_D 1 rfl) rfl
theorem eL_isSmall_2 : WP (ML_isSmall g) Q (2, [l0, some (.int a), l2, l3], st, w, k, n) = WP (ML_isSmall g) Q (3, [l0, some (.int a), l2, l3], .int a :: st, w, k, n) := iln_e rfl (dt_q dL_isSmall_0_D 2 rfl) rfl
theorem eL_isSmall_3 {z0 : Int32} : WP (ML_isSmall g) Q (3, [l0, l1, l2, l3], .int z0 :: .ref p :: st, w, k, n) = (go (rd g w p) 5 (fun _ => True) ∧ wt st ≤ 8 ∧ k + 2 ≤ 2 ∧ n + 12 ≤ 12 ∧ WP (MX1_isSmall g) (kx (fun v w' => WP (ML_isSmall g) Q (6, [l0, l1, l2, l3], v.toList ++ st, w', k + 2, n + 12)) (fun E w' => hgo (ML_isSmall g) Q (WP (ML_isSmall g) Q) 3 [l0, l1, l2, l3] E w' (k + 2) (n + 12))) (0, [some (.ref p), some (.int z0)], [], w, 0, 0)) := csVH (M := (ML_isSmall g)) (mc := (fun _ _ => 2)) (ms := (fun _ _ => 12)) (As := [.int z0]) (rest := st) (MX1_isSmall g) rfl (dt_q dL_isSmall_0_D 3 rfl) (by exact fun h => nomatch (show (none : Option Nat) = some 11 from h)) (by exact fun h => nomatch (show (none : Option Nat) = some 15 from h)) rfl rfl (by decide) (Nat.le_of_ble_eq_true rfl) (Nat.le_of_ble_eq_true rfl) rfl
theorem eL_isSmall_6 : WP (ML_isSmall g) Q (6, [l0, l1, l2, l3], .int a :: st, w, k, n) = if a = 0 then WP (ML_isSmall g) Q (13, [l0, l1, l2, l3], st, w, k, n) else WP (ML_isSmall g) Q (9, [l0, l1, l2, l3], st, w, k, n) := ifc_e (a = 0) rfl (dt_q dL_isSmall_0_D 4 rfl) rfl (by decide)
theorem eL_isSmall_9 : WP (ML_isSmall g) Q (9, [l0, l1, l2, l3], st, w, k, n) = WP (ML_isSmall g) Q (10, [l0, l1, l2, l3], .long 1 :: st, w, k, n) := lconst_e rfl (dt_q dL_isSmall_0_D 5 rfl) (by decide)
theorem eL_isSmall_10 : WP (ML_isSmall g) Q (10, [l0, l1, l2, l3], st, w, k, n) = WP (ML_isSmall g) Q (14, [l0, l1, l2, l3], st, w, k, n) := goto_e rfl (dt_q dL_isSmall_0_D 6 rfl) (by decide)
theorem eL_isSmall_13 : WP (ML_isSmall g) Q (13, [l0, l1, l2, l3], st, w, k, n) = WP (ML_isSmall g) Q (14, [l0, l1, l2, l3], .long 0 :: st, w, k, n) := lconst_e rfl (dt_q dL_isSmall_0_D 7 rfl) (by decide)
theorem eL_isSmall_14 : WP (ML_isSmall g) Q (14, [l0, l1, l2, l3], v :: .ref p :: st, w, k, n) = go (w p) 6 fun fs => 0 < fs.length ∧ (narrow (.long) v = v ∧ fits (.long) v = true) ∧ WP (ML_isSmall g) Q (17, [l0, l1, l2, l3], st, upw w p (.inr (6, fs.set 0 v)), k, n) := put_e (q := (RX2, TX2, 2)) rfl (dt_q dL_isSmall_0_D 8 rfl) rfl rfl (tyX2_ok 0 (by decide)) (Or.inl rfl)
theorem eL_isSmall_17 : WP (ML_isSmall g) Q (17, [l0, l1, l2, l3], st, w, k, n) = WP (ML_isSmall g) Q (26, [l0, l1, l2, l3], st, w, k, n) := goto_e rfl (dt_q dL_isSmall_0_D 9 rfl) (by decide)
theorem eL_isSmall_20 : WP (ML_isSmall g) Q (20, [l0, l1, l2, l3], .ref p :: st, w, k, n) = WP (ML_isSmall g) Q (21, [l0, l1, nl l2, some (.ref p)], st, w, k, n) := asnR_e rfl (dt_q dL_isSmall_0_D 10 rfl) rfl rfl
theorem eL_isSmall_20N : WP (ML_isSmall g) Q (20, [l0, l1, l2, l3], .null :: st, w, k, n) = WP (ML_isSmall g) Q (21, [l0, l1, nl l2, some (.null)], st, w, k, n) := asnN_e rfl (dt_q dL_isSmall_0_D 10 rfl) rfl rfl
theorem eL_isSmall_21 : WP (ML_isSmall g) Q (21, [l0, l1, l2, l3], st, w, k, n) = WP (ML_isSmall g) Q (22, [l0, l1, l2, l3], .int 1 :: st, w, k, n) := ic_1 rfl (dt_q dL_isSmall_0_D 11 rfl)
theorem eL_isSmall_22 : WP (ML_isSmall g) Q (22, [l0, l1, l2, l3], [.int a], w, k, n) = (k ≤ 2 ∧ n ≤ 12 ∧ Q (.inl (some (.int a))) w) := iretI_e rfl (dt_q dL_isSmall_0_D 12 rfl) rfl
theorem eL_isSmall_23 : WP (ML_isSmall g) Q (23, [l0, l1, l2, l3], .ref p :: st, w, k, n) = WP (ML_isSmall g) Q (24, [l0, l1, nl l2, some (.ref p)], st, w, k, n) := asnR_e rfl (dt_q dL_isSmall_0_D 13 rfl) rfl rfl
theorem eL_isSmall_23N : WP (ML_isSmall g) Q (23, [l0, l1, l2, l3], .null :: st, w, k, n) = WP (ML_isSmall g) Q (24, [l0, l1, nl l2, some (.null)], st, w, k, n) := asnN_e rfl (dt_q dL_isSmall_0_D 13 rfl) rfl rfl
theorem eL_isSmall_24 : WP (ML_isSmall g) Q (24, [l0, l1, l2, l3], st, w, k, n) = WP (ML_isSmall g) Q (25, [l0, l1, l2, l3], .int 2 :: st, w, k, n) := ic_2 rfl (dt_q dL_isSmall_0_D 14 rfl)
theorem eL_isSmall_25 : WP (ML_isSmall g) Q (25, [l0, l1, l2, l3], [.int a], w, k, n) = (k ≤ 2 ∧ n ≤ 12 ∧ Q (.inl (some (.int a))) w) := iretI_e rfl (dt_q dL_isSmall_0_D 15 rfl) rfl
theorem eL_isSmall_26 : WP (ML_isSmall g) Q (26, [l0, l1, l2, l3], st, w, k, n) = WP (ML_isSmall g) Q (27, [l0, l1, l2, l3], .int 0 :: st, w, k, n) := ic_0 rfl (dt_q dL_isSmall_0_D 16 rfl)
theorem eL_isSmall_27 : WP (ML_isSmall g) Q (27, [l0, l1, l2, l3], [.int a], w, k, n) = (k ≤ 2 ∧ n ≤ 12 ∧ Q (.inl (some (.int a))) w) := iretI_e rfl (dt_q dL_isSmall_0_D 17 rfl) rfl
end
theorem wk_962 : (.code yX1_isSmall cX1_isSmall 2 (some .boolean) : Jvm.Cond) ∈ WS := WS_t4 184 rfl rfl
theorem wk_959 : (.methodLink RL 102 yX1_isSmall : Jvm.Cond) ∈ WS := WS_t4 181 rfl rfl
theorem wk_960 : (.instanceMethod yX1_isSmall : Jvm.Cond) ∈ WS := WS_t4 182 rfl rfl
theorem wk_961 : (.selects RX1 yX1_isSmall yX1_isSmall : Jvm.Cond) ∈ WS := WS_t4 183 rfl rfl
theorem kc_162 {l : Launch} (hl : l.stackTraces = false) {G : GT} {own : String} {i : Nat} (hw : Jvm.Cond.methodLink own i yX1_isSmall ∈ WS) : vCal l G own i (2, 2, 5, 8, (fun _ _ => 2), (fun _ _ => 12), yX1_isSmall, spOf (MX1_isSmall (gg G))) := ⟨cX1_isSmall, 2, some .boolean, fun y hy => by subst hy; exact ⟨by decide, ⟨_, wk_962, okX1_isSmall hl, Or.inl ⟨Nat.ne_of_beq_eq_false rfl, rfl⟩⟩, wk_59, nc14, ⟨(by decide +kernel : (parseMethodDescriptor yX1_isSmall.desc).map (fun d => d.parameters.length + 1) = some 2), hw, wk_960, wk_961, (RX1, TX1, 7), rfl, rfl⟩⟩⟩
theorem vML_isSmall {l : Launch} (hl : l.stackTraces = false) (G : GT) : vM l G (ML_isSmall (gg G)) := vM_k RL cL_isSmall rfl rfl (all_c (vF_RL_13) (all_n)) all_n all_n all_n all_n (fun h => absurd rfl h) (all_c (kc_162 hl wk_959) (all_n)) all_n all_n (fun h => absurd rfl h) rfl (all_c (⟨"java/lang/IndexOutOfBoundsException", by decide, rfl, by decide, wk_348⟩) (all_c (⟨"java/lang/IllegalStateException", by decide, rfl, by decide, wk_869⟩) (all_n)))
theorem okL_isSmall {l : Launch} (hl : l.stackTraces = false) {G : GT} : ∀ (args : List Value) (w : Hw) (S : Ot → Hw → Prop), spOf (ML_isSmall (gg G)) args w S → CX l G yL_isSmall (.codeWith yL_isSmall cL_isSmall 4 (some .int) [(0, 17, 20, 19), (0, 17, 23, 74)]) 9 2 12 args w S := CX_spH (M := ML_isSmall (gg G)) (y := yL_isSmall) hl (by decide) rfl (vML_isSmall hl G) (fun h => by cases h)
abbrev dL_end_0_T : List (Nat × Instr × Nat) := [(0, .aload 4, 2), (2, .aload_n 0, 1), (3, .iload_n 1, 1), (4, .iload_n 2, 1), (5, .iload_n 3, 1), (6, .invokevirtual 105, 3), (9, .i2l, 1), (10, .putfield 13, 3), (13, .goto 15, 3), (16, .astore 5, 2), (18, .iconst 1, 1), (19, .ireturn, 1), (20, .astore 5, 2), (22, .iconst 2, 1), (23, .ireturn, 1), (24, .astore 5, 2), (26, .iconst 3, 1), (27, .ireturn, 1), (28, .iconst 0, 1), (29, .ireturn, 1)]
theorem dL_end_0_D : dtc cL_end dL_end_0_T = true := by decide +kernel
def ML_end (g : RO) : MT := ((RL, cL_end, 6, 9, 4, 24, false, some .int), [(13, 6, 0)], [], [], [], [], 0, [(105, 2, 4, 5, 8, (fun _ _ => 4), (fun _ _ => 24), yX1_end, spOf (MX1_end g))], [], [], 0, [(0, 13, 16, 19), (0, 13, 20, 28), (0, 13, 24, 74)], [(19, "java/lang/IndexOutOfBoundsException"), (28, "java/lang/IllegalArgumentException"), (74, "java/lang/IllegalStateException")], g)
section
variable {g : RO} {Q : Ot → Hw → Prop} {st : List Value} {w : Hw} {k n p q : Nat} {a b : Int32} {x y : Int64} {u v : Value} {l0 l1 l2 l3 l4 l5 : Option Value}
theorem eL_end_0 : WP (ML_end g) Q (0, [l0, l1, l2, l3, some (.ref p), l5], st, w, k, n) = WP (ML_end g) Q (2, [l0, l1, l2, l3, some (.ref p), l5], .ref p :: st, w, k, n) := alR_e rfl (dt_q dL_end_0_D 0 rfl) rfl
theorem eL_end_0N : WP (ML_end g) Q (0, [l0, l1, l2, l3, some .null, l5], st, w, k, n) = WP (ML_end g) Q (2, [l0, l1, l2, l3, some .null, l5], .null :: st, w, k, n) := alN_e rfl (dt_q dL_end_0_D 0 rfl) rfl
theorem eL_end_2 : WP (ML_end g) Q (2, [some (.ref p), l1, l2, l3, l4, l5], st, w, k, n) = WP (ML_end g) Q (3, [some (.ref p), l1, l2, l3, l4, l5], .ref p :: st, w, k, n) := alnR_e rfl (dt_q dL_end_0_D 1 rfl) rfl
theorem eL_end_2N : WP (ML_end g) Q (2, [some .null, l1, l2, l3, l4, l5], st, w, k, n) = WP (ML_end g) Q (3, [some .null, l1, l2, l3, l4, l5], .null :: st, w, k, n) := alnN_e rfl (dt_q dL_end_0_D 1 rfl) rfl
theorem eL_end_3 : WP (ML_end g) Q (3, [l0, some (.int a), l2, l3, l4, l5], st, w, k, n) = WP (ML_end g) Q (4, [l0, some (.int a), l2, l3, l4, l5], .int a :: st, w, k, n) := iln_e rfl (dt_q dL_end_0_D 2 rfl) rfl
theorem eL_end_4 : WP (ML_end g) Q (4, [l0, l1, some (.int a), l3, l4, l5], st, w, k, n) = WP (ML_end g) Q (5, [l0, l1, some (.int a), l3, l4, l5], .int a :: st, w, k, n) := iln_e rfl (dt_q dL_end_0_D 3 rfl) rfl
theorem eL_end_5 : WP (ML_end g) Q (5, [l0, l1, l2, some (.int a), l4, l5], st, w, k, n) = WP (ML_end g) Q (6, [l0, l1, l2, some (.int a), l4, l5], .int a :: st, w, k, n) := iln_e rfl (dt_q dL_end_0_D 4 rfl) rfl
theorem eL_end_6 {z0 : Int32} {z1 : Int32} {z2 : Int32} : WP (ML_end g) Q (6, [l0, l1, l2, l3, l4, l5], .int z2 :: .int z1 :: .int z0 :: .ref p :: st, w, k, n) = (go (rd g w p) 5 (fun _ => True) ∧ wt st ≤ 8 ∧ k + 4 ≤ 4 ∧ n + 24 ≤ 24 ∧ WP (MX1_end g) (kx (fun v w' => WP (ML_end g) Q (9, [l0, l1, l2, l3, l4, l5], v.toList ++ st, w', k + 4, n + 24)) (fun E w' => hgo (ML_end g) Q (WP (ML_end g) Q) 6 [l0, l1, l2, l3, l4, l5] E w' (k + 4) (n + 24))) (0, [some (.ref p), some (.int z0), some (.int z1), some (.int z2)], [], w, 0, 0)) := csVH (M := (ML_end g)) (mc := (fun _ _ => 4)) (ms := (fun _ _ => 24)) (As := [.int z0, .int z1, .int z2]) (rest := st) (MX1_end g) rfl (dt_q dL_end_0_D 5 rfl) (by exact fun h => nomatch (show (none : Option Nat) = some 11 from h)) (by exact fun h => nomatch (show (none : Option Nat) = some 15 from h)) rfl rfl (by decide) (Nat.le_of_ble_eq_true rfl) (Nat.le_of_ble_eq_true rfl) rfl
theorem eL_end_9 : WP (ML_end g) Q (9, [l0, l1, l2, l3, l4, l5], .int a :: st, w, k, n) = WP (ML_end g) Q (10, [l0, l1, l2, l3, l4, l5], .long a.toInt64 :: st, w, k, n) := i2l_e rfl (dt_q dL_end_0_D 6 rfl)
theorem eL_end_10 : WP (ML_end g) Q (10, [l0, l1, l2, l3, l4, l5], v :: .ref p :: st, w, k, n) = go (w p) 6 fun fs => 0 < fs.length ∧ (narrow (.long) v = v ∧ fits (.long) v = true) ∧ WP (ML_end g) Q (13, [l0, l1, l2, l3, l4, l5], st, upw w p (.inr (6, fs.set 0 v)), k, n) := put_e (q := (RX2, TX2, 2)) rfl (dt_q dL_end_0_D 7 rfl) rfl rfl (tyX2_ok 0 (by decide)) (Or.inl rfl)
theorem eL_end_13 : WP (ML_end g) Q (13, [l0, l1, l2, l3, l4, l5], st, w, k, n) = WP (ML_end g) Q (28, [l0, l1, l2, l3, l4, l5], st, w, k, n) := goto_e rfl (dt_q dL_end_0_D 8 rfl) (by decide)
theorem eL_end_16 : WP (ML_end g) Q (16, [l0, l1, l2, l3, l4, l5], .ref p :: st, w, k, n) = WP (ML_end g) Q (18, [l0, l1, l2, l3, nl l4, some (.ref p)], st, w, k, n) := asR_e rfl (dt_q dL_end_0_D 9 rfl) rfl rfl
theorem eL_end_16N : WP (ML_end g) Q (16, [l0, l1, l2, l3, l4, l5], .null :: st, w, k, n) = WP (ML_end g) Q (18, [l0, l1, l2, l3, nl l4, some (.null)], st, w, k, n) := asN_e rfl (dt_q dL_end_0_D 9 rfl) rfl rfl
theorem eL_end_18 : WP (ML_end g) Q (18, [l0, l1, l2, l3, l4, l5], st, w, k, n) = WP (ML_end g) Q (19, [l0, l1, l2, l3, l4, l5], .int 1 :: st, w, k, n) := ic_1 rfl (dt_q dL_end_0_D 10 rfl)
theorem eL_end_19 : WP (ML_end g) Q (19, [l0, l1, l2, l3, l4, l5], [.int a], w, k, n) = (k ≤ 4 ∧ n ≤ 24 ∧ Q (.inl (some (.int a))) w) := iretI_e rfl (dt_q dL_end_0_D 11 rfl) rfl
theorem eL_end_20 : WP (ML_end g) Q (20, [l0, l1, l2, l3, l4, l5], .ref p :: st, w, k, n) = WP (ML_end g) Q (22, [l0, l1, l2, l3, nl l4, some (.ref p)], st, w, k, n) := asR_e rfl (dt_q dL_end_0_D 12 rfl) rfl rfl
theorem eL_end_20N : WP (ML_end g) Q (20, [l0, l1, l2, l3, l4, l5], .null :: st, w, k, n) = WP (ML_end g) Q (22, [l0, l1, l2, l3, nl l4, some (.null)], st, w, k, n) := asN_e rfl (dt_q dL_end_0_D 12 rfl) rfl rfl
theorem eL_end_22 : WP (ML_end g) Q (22, [l0, l1, l2, l3, l4, l5], st, w, k, n) = WP (ML_end g) Q (23, [l0, l1, l2, l3, l4, l5], .int 2 :: st, w, k, n) := ic_2 rfl (dt_q dL_end_0_D 13 rfl)
theorem eL_end_23 : WP (ML_end g) Q (23, [l0, l1, l2, l3, l4, l5], [.int a], w, k, n) = (k ≤ 4 ∧ n ≤ 24 ∧ Q (.inl (some (.int a))) w) := iretI_e rfl (dt_q dL_end_0_D 14 rfl) rfl
theorem eL_end_24 : WP (ML_end g) Q (24, [l0, l1, l2, l3, l4, l5], .ref p :: st, w, k, n) = WP (ML_end g) Q (26, [l0, l1, l2, l3, nl l4, some (.ref p)], st, w, k, n) := asR_e rfl (dt_q dL_end_0_D 15 rfl) rfl rfl
theorem eL_end_24N : WP (ML_end g) Q (24, [l0, l1, l2, l3, l4, l5], .null :: st, w, k, n) = WP (ML_end g) Q (26, [l0, l1, l2, l3, nl l4, some (.null)], st, w, k, n) := asN_e rfl (dt_q dL_end_0_D 15 rfl) rfl rfl
theorem eL_end_26 : WP (ML_end g) Q (26, [l0, l1, l2, l3, l4, l5], st, w, k, n) = WP (ML_end g) Q (27, [l0, l1, l2, l3, l4, l5], .int 3 :: st, w, k, n) := ic_3 rfl (dt_q dL_end_0_D 16 rfl)
theorem eL_end_27 : WP (ML_end g) Q (27, [l0, l1, l2, l3, l4, l5], [.int a], w, k, n) = (k ≤ 4 ∧ n ≤ 24 ∧ Q (.inl (some (.int a))) w) := iretI_e rfl (dt_q dL_end_0_D 17 rfl) rfl
theorem eL_end_28 : WP (ML_end g) Q (28, [l0, l1, l2, l3, l4, l5], st, w, k, n) = WP (ML_end g) Q (29, [l0, l1, l2, l3, l4, l5], .int 0 :: st, w, k, n) := ic_0 rfl (dt_q dL_end_0_D 18 rfl)
theorem eL_end_29 : WP (ML_end g) Q (29, [l0, l1, l2, l3, l4, l5], [.int a], w, k, n) = (k ≤ 4 ∧ n ≤ 24 ∧ Q (.inl (some (.int a))) w) := iretI_e rfl (dt_q dL_end_0_D 19 rfl) rfl
end
theorem wk_969 : (.code yX1_end cX1_end 4 (some .int) : Jvm.Cond) ∈ WS := WS_t4 191 rfl rfl
theorem wk_966 : (.methodLink RL 105 yX1_end : Jvm.Cond) ∈ WS := WS_t4 188 rfl rfl
theorem wk_967 : (.instanceMethod yX1_end : Jvm.Cond) ∈ WS := WS_t4 189 rfl rfl
theorem wk_968 : (.selects RX1 yX1_end yX1_end : Jvm.Cond) ∈ WS := WS_t4 190 rfl rfl
theorem kc_163 {l : Launch} (hl : l.stackTraces = false) {G : GT} {own : String} {i : Nat} (hw : Jvm.Cond.methodLink own i yX1_end ∈ WS) : vCal l G own i (2, 4, 5, 8, (fun _ _ => 4), (fun _ _ => 24), yX1_end, spOf (MX1_end (gg G))) := ⟨cX1_end, 4, some .int, fun y hy => by subst hy; exact ⟨by decide, ⟨_, wk_969, okX1_end hl, Or.inl ⟨Nat.ne_of_beq_eq_false rfl, rfl⟩⟩, wk_59, nc14, ⟨(by decide +kernel : (parseMethodDescriptor yX1_end.desc).map (fun d => d.parameters.length + 1) = some 4), hw, wk_967, wk_968, (RX1, TX1, 7), rfl, rfl⟩⟩⟩
theorem vML_end {l : Launch} (hl : l.stackTraces = false) (G : GT) : vM l G (ML_end (gg G)) := vM_k RL cL_end rfl rfl (all_c (vF_RL_13) (all_n)) all_n all_n all_n all_n (fun h => absurd rfl h) (all_c (kc_163 hl wk_966) (all_n)) all_n all_n (fun h => absurd rfl h) rfl (all_c (⟨"java/lang/IndexOutOfBoundsException", by decide, rfl, by decide, wk_348⟩) (all_c (⟨"java/lang/IllegalArgumentException", by decide, rfl, by decide, wk_435⟩) (all_c (⟨"java/lang/IllegalStateException", by decide, rfl, by decide, wk_869⟩) (all_n))))
theorem okL_end {l : Launch} (hl : l.stackTraces = false) {G : GT} : ∀ (args : List Value) (w : Hw) (S : Ot → Hw → Prop), spOf (ML_end (gg G)) args w S → CX l G yL_end (.codeWith yL_end cL_end 6 (some .int) [(0, 13, 16, 19), (0, 13, 20, 28), (0, 13, 24, 74)]) 9 4 24 args w S := CX_spH (M := ML_end (gg G)) (y := yL_end) hl (by decide) rfl (vML_end hl G) (fun h => by cases h)
abbrev dL_take_0_T : List (Nat × Instr × Nat) := [(0, .aload 4, 2), (2, .aload_n 0, 1), (3, .iload_n 1, 1), (4, .iload_n 2, 1), (5, .iload_n 3, 1), (6, .invokevirtual 109, 3), (9, .i2l, 1), (10, .putfield 13, 3), (13, .goto 15, 3), (16, .astore 5, 2), (18, .iconst 1, 1), (19, .ireturn, 1), (20, .astore 5, 2), (22, .iconst 2, 1), (23, .ireturn, 1), (24, .astore 5, 2), (26, .iconst 3, 1), (27, .ireturn, 1), (28, .iconst 0, 1), (29, .ireturn, 1)]
theorem dL_take_0_D : dtc cL_take dL_take_0_T = true := by decide +kernel
def ML_take (g : RO) : MT := ((RL, cL_take, 6, 9, 5, 30, false, some .int), [(13, 6, 0)], [], [], [], [], 0, [(109, 2, 4, 5, 8, (fun _ _ => 5), (fun _ _ => 30), yX1_take, spOf (MX1_take g))], [], [], 0, [(0, 13, 16, 19), (0, 13, 20, 28), (0, 13, 24, 74)], [(19, "java/lang/IndexOutOfBoundsException"), (28, "java/lang/IllegalArgumentException"), (74, "java/lang/IllegalStateException")], g)
section
variable {g : RO} {Q : Ot → Hw → Prop} {st : List Value} {w : Hw} {k n p q : Nat} {a b : Int32} {x y : Int64} {u v : Value} {l0 l1 l2 l3 l4 l5 : Option Value}
theorem eL_take_0 : WP (ML_take g) Q (0, [l0, l1, l2, l3, some (.ref p), l5], st, w, k, n) = WP (ML_take g) Q (2, [l0, l1, l2, l3, some (.ref p), l5], .ref p :: st, w, k, n) := alR_e rfl (dt_q dL_take_0_D 0 rfl) rfl
theorem eL_take_0N : WP (ML_take g) Q (0, [l0, l1, l2, l3, some .null, l5], st, w, k, n) = WP (ML_take g) Q (2, [l0, l1, l2, l3, some .null, l5], .null :: st, w, k, n) := alN_e rfl (dt_q dL_take_0_D 0 rfl) rfl
theorem eL_take_2 : WP (ML_take g) Q (2, [some (.ref p), l1, l2, l3, l4, l5], st, w, k, n) = WP (ML_take g) Q (3, [some (.ref p), l1, l2, l3, l4, l5], .ref p :: st, w, k, n) := alnR_e rfl (dt_q dL_take_0_D 1 rfl) rfl
theorem eL_take_2N : WP (ML_take g) Q (2, [some .null, l1, l2, l3, l4, l5], st, w, k, n) = WP (ML_take g) Q (3, [some .null, l1, l2, l3, l4, l5], .null :: st, w, k, n) := alnN_e rfl (dt_q dL_take_0_D 1 rfl) rfl
theorem eL_take_3 : WP (ML_take g) Q (3, [l0, some (.int a), l2, l3, l4, l5], st, w, k, n) = WP (ML_take g) Q (4, [l0, some (.int a), l2, l3, l4, l5], .int a :: st, w, k, n) := iln_e rfl (dt_q dL_take_0_D 2 rfl) rfl
theorem eL_take_4 : WP (ML_take g) Q (4, [l0, l1, some (.int a), l3, l4, l5], st, w, k, n) = WP (ML_take g) Q (5, [l0, l1, some (.int a), l3, l4, l5], .int a :: st, w, k, n) := iln_e rfl (dt_q dL_take_0_D 3 rfl) rfl
theorem eL_take_5 : WP (ML_take g) Q (5, [l0, l1, l2, some (.int a), l4, l5], st, w, k, n) = WP (ML_take g) Q (6, [l0, l1, l2, some (.int a), l4, l5], .int a :: st, w, k, n) := iln_e rfl (dt_q dL_take_0_D 4 rfl) rfl
theorem eL_take_6 {z0 : Int32} {z1 : Int32} {z2 : Int32} : WP (ML_take g) Q (6, [l0, l1, l2, l3, l4, l5], .int z2 :: .int z1 :: .int z0 :: .ref p :: st, w, k, n) = (go (rd g w p) 5 (fun _ => True) ∧ wt st ≤ 8 ∧ k + 5 ≤ 5 ∧ n + 30 ≤ 30 ∧ WP (MX1_take g) (kx (fun v w' => WP (ML_take g) Q (9, [l0, l1, l2, l3, l4, l5], v.toList ++ st, w', k + 5, n + 30)) (fun E w' => hgo (ML_take g) Q (WP (ML_take g) Q) 6 [l0, l1, l2, l3, l4, l5] E w' (k + 5) (n + 30))) (0, [some (.ref p), some (.int z0), some (.int z1), some (.int z2)], [], w, 0, 0)) := csVH (M := (ML_take g)) (mc := (fun _ _ => 5)) (ms := (fun _ _ => 30)) (As := [.int z0, .int z1, .int z2]) (rest := st) (MX1_take g) rfl (dt_q dL_take_0_D 5 rfl) (by exact fun h => nomatch (show (none : Option Nat) = some 11 from h)) (by exact fun h => nomatch (show (none : Option Nat) = some 15 from h)) rfl rfl (by decide) (Nat.le_of_ble_eq_true rfl) (Nat.le_of_ble_eq_true rfl) rfl
theorem eL_take_9 : WP (ML_take g) Q (9, [l0, l1, l2, l3, l4, l5], .int a :: st, w, k, n) = WP (ML_take g) Q (10, [l0, l1, l2, l3, l4, l5], .long a.toInt64 :: st, w, k, n) := i2l_e rfl (dt_q dL_take_0_D 6 rfl)
theorem eL_take_10 : WP (ML_take g) Q (10, [l0, l1, l2, l3, l4, l5], v :: .ref p :: st, w, k, n) = go (w p) 6 fun fs => 0 < fs.length ∧ (narrow (.long) v = v ∧ fits (.long) v = true) ∧ WP (ML_take g) Q (13, [l0, l1, l2, l3, l4, l5], st, upw w p (.inr (6, fs.set 0 v)), k, n) := put_e (q := (RX2, TX2, 2)) rfl (dt_q dL_take_0_D 7 rfl) rfl rfl (tyX2_ok 0 (by decide)) (Or.inl rfl)
theorem eL_take_13 : WP (ML_take g) Q (13, [l0, l1, l2, l3, l4, l5], st, w, k, n) = WP (ML_take g) Q (28, [l0, l1, l2, l3, l4, l5], st, w, k, n) := goto_e rfl (dt_q dL_take_0_D 8 rfl) (by decide)
theorem eL_take_16 : WP (ML_take g) Q (16, [l0, l1, l2, l3, l4, l5], .ref p :: st, w, k, n) = WP (ML_take g) Q (18, [l0, l1, l2, l3, nl l4, some (.ref p)], st, w, k, n) := asR_e rfl (dt_q dL_take_0_D 9 rfl) rfl rfl
theorem eL_take_16N : WP (ML_take g) Q (16, [l0, l1, l2, l3, l4, l5], .null :: st, w, k, n) = WP (ML_take g) Q (18, [l0, l1, l2, l3, nl l4, some (.null)], st, w, k, n) := asN_e rfl (dt_q dL_take_0_D 9 rfl) rfl rfl
theorem eL_take_18 : WP (ML_take g) Q (18, [l0, l1, l2, l3, l4, l5], st, w, k, n) = WP (ML_take g) Q (19, [l0, l1, l2, l3, l4, l5], .int 1 :: st, w, k, n) := ic_1 rfl (dt_q dL_take_0_D 10 rfl)
theorem eL_take_19 : WP (ML_take g) Q (19, [l0, l1, l2, l3, l4, l5], [.int a], w, k, n) = (k ≤ 5 ∧ n ≤ 30 ∧ Q (.inl (some (.int a))) w) := iretI_e rfl (dt_q dL_take_0_D 11 rfl) rfl
theorem eL_take_20 : WP (ML_take g) Q (20, [l0, l1, l2, l3, l4, l5], .ref p :: st, w, k, n) = WP (ML_take g) Q (22, [l0, l1, l2, l3, nl l4, some (.ref p)], st, w, k, n) := asR_e rfl (dt_q dL_take_0_D 12 rfl) rfl rfl
theorem eL_take_20N : WP (ML_take g) Q (20, [l0, l1, l2, l3, l4, l5], .null :: st, w, k, n) = WP (ML_take g) Q (22, [l0, l1, l2, l3, nl l4, some (.null)], st, w, k, n) := asN_e rfl (dt_q dL_take_0_D 12 rfl) rfl rfl
theorem eL_take_22 : WP (ML_take g) Q (22, [l0, l1, l2, l3, l4, l5], st, w, k, n) = WP (ML_take g) Q (23, [l0, l1, l2, l3, l4, l5], .int 2 :: st, w, k, n) := ic_2 rfl (dt_q dL_take_0_D 13 rfl)
theorem eL_take_23 : WP (ML_take g) Q (23, [l0, l1, l2, l3, l4, l5], [.int a], w, k, n) = (k ≤ 5 ∧ n ≤ 30 ∧ Q (.inl (some (.int a))) w) := iretI_e rfl (dt_q dL_take_0_D 14 rfl) rfl
theorem eL_take_24 : WP (ML_take g) Q (24, [l0, l1, l2, l3, l4, l5], .ref p :: st, w, k, n) = WP (ML_take g) Q (26, [l0, l1, l2, l3, nl l4, some (.ref p)], st, w, k, n) := asR_e rfl (dt_q dL_take_0_D 15 rfl) rfl rfl
theorem eL_take_24N : WP (ML_take g) Q (24, [l0, l1, l2, l3, l4, l5], .null :: st, w, k, n) = WP (ML_take g) Q (26, [l0, l1, l2, l3, nl l4, some (.null)], st, w, k, n) := asN_e rfl (dt_q dL_take_0_D 15 rfl) rfl rfl
theorem eL_take_26 : WP (ML_take g) Q (26, [l0, l1, l2, l3, l4, l5], st, w, k, n) = WP (ML_take g) Q (27, [l0, l1, l2, l3, l4, l5], .int 3 :: st, w, k, n) := ic_3 rfl (dt_q dL_take_0_D 16 rfl)
theorem eL_take_27 : WP (ML_take g) Q (27, [l0, l1, l2, l3, l4, l5], [.int a], w, k, n) = (k ≤ 5 ∧ n ≤ 30 ∧ Q (.inl (some (.int a))) w) := iretI_e rfl (dt_q dL_take_0_D 17 rfl) rfl
theorem eL_take_28 : WP (ML_take g) Q (28, [l0, l1, l2, l3, l4, l5], st, w, k, n) = WP (ML_take g) Q (29, [l0, l1, l2, l3, l4, l5], .int 0 :: st, w, k, n) := ic_0 rfl (dt_q dL_take_0_D 18 rfl)
theorem eL_take_29 : WP (ML_take g) Q (29, [l0, l1, l2, l3, l4, l5], [.int a], w, k, n) = (k ≤ 5 ∧ n ≤ 30 ∧ Q (.inl (some (.int a))) w) := iretI_e rfl (dt_q dL_take_0_D 19 rfl) rfl
end
theorem wk_976 : (.code yX1_take cX1_take 4 (some .int) : Jvm.Cond) ∈ WS := WS_t4 198 rfl rfl
theorem wk_973 : (.methodLink RL 109 yX1_take : Jvm.Cond) ∈ WS := WS_t4 195 rfl rfl
theorem wk_974 : (.instanceMethod yX1_take : Jvm.Cond) ∈ WS := WS_t4 196 rfl rfl
theorem wk_975 : (.selects RX1 yX1_take yX1_take : Jvm.Cond) ∈ WS := WS_t4 197 rfl rfl
theorem kc_164 {l : Launch} (hl : l.stackTraces = false) {G : GT} {own : String} {i : Nat} (hw : Jvm.Cond.methodLink own i yX1_take ∈ WS) : vCal l G own i (2, 4, 5, 8, (fun _ _ => 5), (fun _ _ => 30), yX1_take, spOf (MX1_take (gg G))) := ⟨cX1_take, 4, some .int, fun y hy => by subst hy; exact ⟨by decide, ⟨_, wk_976, okX1_take hl, Or.inl ⟨Nat.ne_of_beq_eq_false rfl, rfl⟩⟩, wk_59, nc14, ⟨(by decide +kernel : (parseMethodDescriptor yX1_take.desc).map (fun d => d.parameters.length + 1) = some 4), hw, wk_974, wk_975, (RX1, TX1, 7), rfl, rfl⟩⟩⟩
theorem vML_take {l : Launch} (hl : l.stackTraces = false) (G : GT) : vM l G (ML_take (gg G)) := vM_k RL cL_take rfl rfl (all_c (vF_RL_13) (all_n)) all_n all_n all_n all_n (fun h => absurd rfl h) (all_c (kc_164 hl wk_973) (all_n)) all_n all_n (fun h => absurd rfl h) rfl (all_c (⟨"java/lang/IndexOutOfBoundsException", by decide, rfl, by decide, wk_348⟩) (all_c (⟨"java/lang/IllegalArgumentException", by decide, rfl, by decide, wk_435⟩) (all_c (⟨"java/lang/IllegalStateException", by decide, rfl, by decide, wk_869⟩) (all_n))))
theorem okL_take {l : Launch} (hl : l.stackTraces = false) {G : GT} : ∀ (args : List Value) (w : Hw) (S : Ot → Hw → Prop), spOf (ML_take (gg G)) args w S → CX l G yL_take (.codeWith yL_take cL_take 6 (some .int) [(0, 13, 16, 19), (0, 13, 20, 28), (0, 13, 24, 74)]) 9 5 30 args w S := CX_spH (M := ML_take (gg G)) (y := yL_take) hl (by decide) rfl (vML_take hl G) (fun h => by cases h)
abbrev dL_cardText_0_T : List (Nat × Instr × Nat) := [(0, .aload_n 2, 1), (1, .aload_n 0, 1), (2, .iload_n 1, 1), (3, .invokevirtual 112, 3), (6, .putfield 44, 3), (9, .goto 6, 3), (12, .astore_n 3, 1), (13, .iconst 1, 1), (14, .ireturn, 1), (15, .iconst 0, 1), (16, .ireturn, 1)]
theorem dL_cardText_0_D : dtc cL_cardText dL_cardText_0_T = true := by decide +kernel
def ML_cardText (g : RO) : MT := ((RL, cL_cardText, 4, 8, 19, 1530, false, some .int), [(44, 6, 1)], [], [], [], [], 0, [(112, 2, 2, 5, 7, (fun _ _ => 19), (fun _ _ => 1530), yX1_cardText, spOf (MX1_cardText g))], [], [], 0, [(0, 9, 12, 19)], [(19, "java/lang/IndexOutOfBoundsException")], g)
section
variable {g : RO} {Q : Ot → Hw → Prop} {st : List Value} {w : Hw} {k n p q : Nat} {a b : Int32} {x y : Int64} {u v : Value} {l0 l1 l2 l3 : Option Value}
theorem eL_cardText_0 : WP (ML_cardText g) Q (0, [l0, l1, some (.ref p), l3], st, w, k, n) = WP (ML_cardText g) Q (1, [l0, l1, some (.ref p), l3], .ref p :: st, w, k, n) := alnR_e rfl (dt_q dL_cardText_0_D 0 rfl) rfl
theorem eL_cardText_0N : WP (ML_cardText g) Q (0, [l0, l1, some .null, l3], st, w, k, n) = WP (ML_cardText g) Q (1, [l0, l1, some .null, l3], .null :: st, w, k, n) := alnN_e rfl (dt_q dL_cardText_0_D 0 rfl) rfl
theorem eL_cardText_1 : WP (ML_cardText g) Q (1, [some (.ref p), l1, l2, l3], st, w, k, n) = WP (ML_cardText g) Q (2, [some (.ref p), l1, l2, l3], .ref p :: st, w, k, n) := alnR_e rfl (dt_q dL_cardText_0_D 1 rfl) rfl
theorem eL_cardText_1N : WP (ML_cardText g) Q (1, [some .null, l1, l2, l3], st, w, k, n) = WP (ML_cardText g) Q (2, [some .null, l1, l2, l3], .null :: st, w, k, n) := alnN_e rfl (dt_q dL_cardText_0_D 1 rfl) rfl
theorem eL_cardText_2 : WP (ML_cardText g) Q (2, [l0, some (.int a), l2, l3], st, w, k, n) = WP (ML_cardText g) Q (3, [l0, some (.int a), l2, l3], .int a :: st, w, k, n) := iln_e rfl (dt_q dL_cardText_0_D 2 rfl) rfl
theorem eL_cardText_3 {z0 : Int32} : WP (ML_cardText g) Q (3, [l0, l1, l2, l3], .int z0 :: .ref p :: st, w, k, n) = (go (rd g w p) 5 (fun _ => True) ∧ wt st ≤ 8 ∧ k + 19 ≤ 19 ∧ n + 1530 ≤ 1530 ∧ WP (MX1_cardText g) (kx (fun v w' => WP (ML_cardText g) Q (6, [l0, l1, l2, l3], v.toList ++ st, w', k + 19, n + 1530)) (fun E w' => hgo (ML_cardText g) Q (WP (ML_cardText g) Q) 3 [l0, l1, l2, l3] E w' (k + 19) (n + 1530))) (0, [some (.ref p), some (.int z0), none, none, none], [], w, 0, 0)) := csVH (M := (ML_cardText g)) (mc := (fun _ _ => 19)) (ms := (fun _ _ => 1530)) (As := [.int z0]) (rest := st) (MX1_cardText g) rfl (dt_q dL_cardText_0_D 3 rfl) (by exact fun h => nomatch (show (none : Option Nat) = some 11 from h)) (by exact fun h => nomatch (show (none : Option Nat) = some 15 from h)) rfl rfl (by decide) (Nat.le_of_ble_eq_true rfl) (Nat.le_of_ble_eq_true rfl) rfl
theorem eL_cardText_6 : WP (ML_cardText g) Q (6, [l0, l1, l2, l3], v :: .ref p :: st, w, k, n) = go (w p) 6 fun fs => 1 < fs.length ∧ (narrow (tyX2 1) v = v ∧ fits (tyX2 1) v = true) ∧ WP (ML_cardText g) Q (9, [l0, l1, l2, l3], st, upw w p (.inr (6, fs.set 1 v)), k, n) := put_e (q := (RX2, TX2, 2)) rfl (dt_q dL_cardText_0_D 4 rfl) rfl rfl (tyX2_ok 1 (by decide)) (Or.inl rfl)
theorem eL_cardText_9 : WP (ML_cardText g) Q (9, [l0, l1, l2, l3], st, w, k, n) = WP (ML_cardText g) Q (15, [l0, l1, l2, l3], st, w, k, n) := goto_e rfl (dt_q dL_cardText_0_D 5 rfl) (by decide)
theorem eL_cardText_12 : WP (ML_cardText g) Q (12, [l0, l1, l2, l3], .ref p :: st, w, k, n) = WP (ML_cardText g) Q (13, [l0, l1, nl l2, some (.ref p)], st, w, k, n) := asnR_e rfl (dt_q dL_cardText_0_D 6 rfl) rfl rfl
theorem eL_cardText_12N : WP (ML_cardText g) Q (12, [l0, l1, l2, l3], .null :: st, w, k, n) = WP (ML_cardText g) Q (13, [l0, l1, nl l2, some (.null)], st, w, k, n) := asnN_e rfl (dt_q dL_cardText_0_D 6 rfl) rfl rfl
theorem eL_cardText_13 : WP (ML_cardText g) Q (13, [l0, l1, l2, l3], st, w, k, n) = WP (ML_cardText g) Q (14, [l0, l1, l2, l3], .int 1 :: st, w, k, n) := ic_1 rfl (dt_q dL_cardText_0_D 7 rfl)
theorem eL_cardText_14 : WP (ML_cardText g) Q (14, [l0, l1, l2, l3], [.int a], w, k, n) = (k ≤ 19 ∧ n ≤ 1530 ∧ Q (.inl (some (.int a))) w) := iretI_e rfl (dt_q dL_cardText_0_D 8 rfl) rfl
theorem eL_cardText_15 : WP (ML_cardText g) Q (15, [l0, l1, l2, l3], st, w, k, n) = WP (ML_cardText g) Q (16, [l0, l1, l2, l3], .int 0 :: st, w, k, n) := ic_0 rfl (dt_q dL_cardText_0_D 9 rfl)
theorem eL_cardText_16 : WP (ML_cardText g) Q (16, [l0, l1, l2, l3], [.int a], w, k, n) = (k ≤ 19 ∧ n ≤ 1530 ∧ Q (.inl (some (.int a))) w) := iretI_e rfl (dt_q dL_cardText_0_D 10 rfl) rfl
end
theorem wk_983 : (.code yX1_cardText cX1_cardText 5 (some (.object "java/lang/String")) : Jvm.Cond) ∈ WS := WS_t4 205 rfl rfl
theorem wk_980 : (.methodLink RL 112 yX1_cardText : Jvm.Cond) ∈ WS := WS_t4 202 rfl rfl
theorem wk_981 : (.instanceMethod yX1_cardText : Jvm.Cond) ∈ WS := WS_t4 203 rfl rfl
theorem wk_982 : (.selects RX1 yX1_cardText yX1_cardText : Jvm.Cond) ∈ WS := WS_t4 204 rfl rfl
theorem kc_165 {l : Launch} (hl : l.stackTraces = false) {G : GT} {own : String} {i : Nat} (hw : Jvm.Cond.methodLink own i yX1_cardText ∈ WS) : vCal l G own i (2, 2, 5, 7, (fun _ _ => 19), (fun _ _ => 1530), yX1_cardText, spOf (MX1_cardText (gg G))) := ⟨cX1_cardText, 5, some (.object "java/lang/String"), fun y hy => by subst hy; exact ⟨by decide, ⟨_, wk_983, okX1_cardText hl, Or.inl ⟨Nat.ne_of_beq_eq_false rfl, rfl⟩⟩, wk_59, nc14, ⟨(by decide +kernel : (parseMethodDescriptor yX1_cardText.desc).map (fun d => d.parameters.length + 1) = some 2), hw, wk_981, wk_982, (RX1, TX1, 7), rfl, rfl⟩⟩⟩
theorem vML_cardText {l : Launch} (hl : l.stackTraces = false) (G : GT) : vM l G (ML_cardText (gg G)) := vM_k RL cL_cardText rfl rfl (all_c (vF_RL_44) (all_n)) all_n all_n all_n all_n (fun h => absurd rfl h) (all_c (kc_165 hl wk_980) (all_n)) all_n all_n (fun h => absurd rfl h) rfl (all_c (⟨"java/lang/IndexOutOfBoundsException", by decide, rfl, by decide, wk_348⟩) (all_n))
theorem okL_cardText {l : Launch} (hl : l.stackTraces = false) {G : GT} : ∀ (args : List Value) (w : Hw) (S : Ot → Hw → Prop), spOf (ML_cardText (gg G)) args w S → CX l G yL_cardText (.codeWith yL_cardText cL_cardText 4 (some .int) [(0, 9, 12, 19)]) 8 19 1530 args w S := CX_spH (M := ML_cardText (gg G)) (y := yL_cardText) hl (by decide) rfl (vML_cardText hl G) (fun h => by cases h)
abbrev dL_isValid_0_T : List (Nat × Instr × Nat) := [(0, .aload_n 3, 1), (1, .aload_n 0, 1), (2, .iload_n 1, 1), (3, .iload_n 2, 1), (4, .invokevirtual 115, 3), (7, .ifCond .eq 7, 3), (10, .lconst 1, 1), (11, .goto 4, 3), (14, .lconst 0, 1), (15, .putfield 13, 3), (18, .goto 11, 3), (21, .astore 4, 2), (23, .iconst 1, 1), (24, .ireturn, 1), (25, .astore 4, 2), (27, .iconst 2, 1), (28, .ireturn, 1), (29, .iconst 0, 1), (30, .ireturn, 1)]
theorem dL_isValid_0_D : dtc cL_isValid dL_isValid_0_T = true := by decide +kernel
def ML_isValid (g : RO) : MT := ((RL, cL_isValid, 5, 9, 4, 24, false, some .int), [(13, 6, 0)], [], [], [], [], 0, [(115, 2, 3, 5, 8, (fun _ _ => 4), (fun _ _ => 24), yX1_isValid, spOf (MX1_isValid g))], [], [], 0, [(0, 18, 21, 19), (0, 18, 25, 74)], [(19, "java/lang/IndexOutOfBoundsException"), (74, "java/lang/IllegalStateException")], g)
section
variable {g : RO} {Q : Ot → Hw → Prop} {st : List Value} {w : Hw} {k n p q : Nat} {a b : Int32} {x y : Int64} {u v : Value} {l0 l1 l2 l3 l4 : Option Value}
theorem eL_isValid_0 : WP (ML_isValid g) Q (0, [l0, l1, l2, some (.ref p), l4], st, w, k, n) = WP (ML_isValid g) Q (1, [l0, l1, l2, some (.ref p), l4], .ref p :: st, w, k, n) := alnR_e rfl (dt_q dL_isValid_0_D 0 rfl) rfl
theorem eL_isValid_0N : WP (ML_isValid g) Q (0, [l0, l1, l2, some .null, l4], st, w, k, n) = WP (ML_isValid g) Q (1, [l0, l1, l2, some .null, l4], .null :: st, w, k, n) := alnN_e rfl (dt_q dL_isValid_0_D 0 rfl) rfl
theorem eL_isValid_1 : WP (ML_isValid g) Q (1, [some (.ref p), l1, l2, l3, l4], st, w, k, n) = WP (ML_isValid g) Q (2, [some (.ref p), l1, l2, l3, l4], .ref p :: st, w, k, n) := alnR_e rfl (dt_q dL_isValid_0_D 1 rfl) rfl
theorem eL_isValid_1N : WP (ML_isValid g) Q (1, [some .null, l1, l2, l3, l4], st, w, k, n) = WP (ML_isValid g) Q (2, [some .null, l1, l2, l3, l4], .null :: st, w, k, n) := alnN_e rfl (dt_q dL_isValid_0_D 1 rfl) rfl
theorem eL_isValid_2 : WP (ML_isValid g) Q (2, [l0, some (.int a), l2, l3, l4], st, w, k, n) = WP (ML_isValid g) Q (3, [l0, some (.int a), l2, l3, l4], .int a :: st, w, k, n) := iln_e rfl (dt_q dL_isValid_0_D 2 rfl) rfl
theorem eL_isValid_3 : WP (ML_isValid g) Q (3, [l0, l1, some (.int a), l3, l4], st, w, k, n) = WP (ML_isValid g) Q (4, [l0, l1, some (.int a), l3, l4], .int a :: st, w, k, n) := iln_e rfl (dt_q dL_isValid_0_D 3 rfl) rfl
theorem eL_isValid_4 {z0 : Int32} {z1 : Int32} : WP (ML_isValid g) Q (4, [l0, l1, l2, l3, l4], .int z1 :: .int z0 :: .ref p :: st, w, k, n) = (go (rd g w p) 5 (fun _ => True) ∧ wt st ≤ 8 ∧ k + 4 ≤ 4 ∧ n + 24 ≤ 24 ∧ WP (MX1_isValid g) (kx (fun v w' => WP (ML_isValid g) Q (7, [l0, l1, l2, l3, l4], v.toList ++ st, w', k + 4, n + 24)) (fun E w' => hgo (ML_isValid g) Q (WP (ML_isValid g) Q) 4 [l0, l1, l2, l3, l4] E w' (k + 4) (n + 24))) (0, [some (.ref p), some (.int z0), some (.int z1)], [], w, 0, 0)) := csVH (M := (ML_isValid g)) (mc := (fun _ _ => 4)) (ms := (fun _ _ => 24)) (As := [.int z0, .int z1]) (rest := st) (MX1_isValid g) rfl (dt_q dL_isValid_0_D 4 rfl) (by exact fun h => nomatch (show (none : Option Nat) = some 11 from h)) (by exact fun h => nomatch (show (none : Option Nat) = some 15 from h)) rfl rfl (by decide) (Nat.le_of_ble_eq_true rfl) (Nat.le_of_ble_eq_true rfl) rfl
theorem eL_isValid_7 : WP (ML_isValid g) Q (7, [l0, l1, l2, l3, l4], .int a :: st, w, k, n) = if a = 0 then WP (ML_isValid g) Q (14, [l0, l1, l2, l3, l4], st, w, k, n) else WP (ML_isValid g) Q (10, [l0, l1, l2, l3, l4], st, w, k, n) := ifc_e (a = 0) rfl (dt_q dL_isValid_0_D 5 rfl) rfl (by decide)
theorem eL_isValid_10 : WP (ML_isValid g) Q (10, [l0, l1, l2, l3, l4], st, w, k, n) = WP (ML_isValid g) Q (11, [l0, l1, l2, l3, l4], .long 1 :: st, w, k, n) := lconst_e rfl (dt_q dL_isValid_0_D 6 rfl) (by decide)
theorem eL_isValid_11 : WP (ML_isValid g) Q (11, [l0, l1, l2, l3, l4], st, w, k, n) = WP (ML_isValid g) Q (15, [l0, l1, l2, l3, l4], st, w, k, n) := goto_e rfl (dt_q dL_isValid_0_D 7 rfl) (by decide)
theorem eL_isValid_14 : WP (ML_isValid g) Q (14, [l0, l1, l2, l3, l4], st, w, k, n) = WP (ML_isValid g) Q (15, [l0, l1, l2, l3, l4], .long 0 :: st, w, k, n) := lconst_e rfl (dt_q dL_isValid_0_D 8 rfl) (by decide)
theorem eL_isValid_15 : WP (ML_isValid g) Q (15, [l0, l1, l2, l3, l4], v :: .ref p :: st, w, k, n) = go (w p) 6 fun fs => 0 < fs.length ∧ (narrow (.long) v = v ∧ fits (.long) v = true) ∧ WP (ML_isValid g) Q (18, [l0, l1, l2, l3, l4], st, upw w p (.inr (6, fs.set 0 v)), k, n) := put_e (q := (RX2, TX2, 2)) rfl (dt_q dL_isValid_0_D 9 rfl) rfl rfl (tyX2_ok 0 (by decide)) (Or.inl rfl)
theorem eL_isValid_18 : WP (ML_isValid g) Q (18, [l0, l1, l2, l3, l4], st, w, k, n) = WP (ML_isValid g) Q (29, [l0, l1, l2, l3, l4], st, w, k, n) := goto_e rfl (dt_q dL_isValid_0_D 10 rfl) (by decide)
theorem eL_isValid_21 : WP (ML_isValid g) Q (21, [l0, l1, l2, l3, l4], .ref p :: st, w, k, n) = WP (ML_isValid g) Q (23, [l0, l1, l2, nl l3, some (.ref p)], st, w, k, n) := asR_e rfl (dt_q dL_isValid_0_D 11 rfl) rfl rfl
theorem eL_isValid_21N : WP (ML_isValid g) Q (21, [l0, l1, l2, l3, l4], .null :: st, w, k, n) = WP (ML_isValid g) Q (23, [l0, l1, l2, nl l3, some (.null)], st, w, k, n) := asN_e rfl (dt_q dL_isValid_0_D 11 rfl) rfl rfl
theorem eL_isValid_23 : WP (ML_isValid g) Q (23, [l0, l1, l2, l3, l4], st, w, k, n) = WP (ML_isValid g) Q (24, [l0, l1, l2, l3, l4], .int 1 :: st, w, k, n) := ic_1 rfl (dt_q dL_isValid_0_D 12 rfl)
theorem eL_isValid_24 : WP (ML_isValid g) Q (24, [l0, l1, l2, l3, l4], [.int a], w, k, n) = (k ≤ 4 ∧ n ≤ 24 ∧ Q (.inl (some (.int a))) w) := iretI_e rfl (dt_q dL_isValid_0_D 13 rfl) rfl
theorem eL_isValid_25 : WP (ML_isValid g) Q (25, [l0, l1, l2, l3, l4], .ref p :: st, w, k, n) = WP (ML_isValid g) Q (27, [l0, l1, l2, nl l3, some (.ref p)], st, w, k, n) := asR_e rfl (dt_q dL_isValid_0_D 14 rfl) rfl rfl
theorem eL_isValid_25N : WP (ML_isValid g) Q (25, [l0, l1, l2, l3, l4], .null :: st, w, k, n) = WP (ML_isValid g) Q (27, [l0, l1, l2, nl l3, some (.null)], st, w, k, n) := asN_e rfl (dt_q dL_isValid_0_D 14 rfl) rfl rfl
theorem eL_isValid_27 : WP (ML_isValid g) Q (27, [l0, l1, l2, l3, l4], st, w, k, n) = WP (ML_isValid g) Q (28, [l0, l1, l2, l3, l4], .int 2 :: st, w, k, n) := ic_2 rfl (dt_q dL_isValid_0_D 15 rfl)
theorem eL_isValid_28 : WP (ML_isValid g) Q (28, [l0, l1, l2, l3, l4], [.int a], w, k, n) = (k ≤ 4 ∧ n ≤ 24 ∧ Q (.inl (some (.int a))) w) := iretI_e rfl (dt_q dL_isValid_0_D 16 rfl) rfl
theorem eL_isValid_29 : WP (ML_isValid g) Q (29, [l0, l1, l2, l3, l4], st, w, k, n) = WP (ML_isValid g) Q (30, [l0, l1, l2, l3, l4], .int 0 :: st, w, k, n) := ic_0 rfl (dt_q dL_isValid_0_D 17 rfl)
theorem eL_isValid_30 : WP (ML_isValid g) Q (30, [l0, l1, l2, l3, l4], [.int a], w, k, n) = (k ≤ 4 ∧ n ≤ 24 ∧ Q (.inl (some (.int a))) w) := iretI_e rfl (dt_q dL_isValid_0_D 18 rfl) rfl
end
theorem wk_991 : (.code yX1_isValid cX1_isValid 3 (some .boolean) : Jvm.Cond) ∈ WS := WS_t4 213 rfl rfl
theorem wk_988 : (.methodLink RL 115 yX1_isValid : Jvm.Cond) ∈ WS := WS_t4 210 rfl rfl
theorem wk_989 : (.instanceMethod yX1_isValid : Jvm.Cond) ∈ WS := WS_t4 211 rfl rfl
theorem wk_990 : (.selects RX1 yX1_isValid yX1_isValid : Jvm.Cond) ∈ WS := WS_t4 212 rfl rfl
theorem kc_166 {l : Launch} (hl : l.stackTraces = false) {G : GT} {own : String} {i : Nat} (hw : Jvm.Cond.methodLink own i yX1_isValid ∈ WS) : vCal l G own i (2, 3, 5, 8, (fun _ _ => 4), (fun _ _ => 24), yX1_isValid, spOf (MX1_isValid (gg G))) := ⟨cX1_isValid, 3, some .boolean, fun y hy => by subst hy; exact ⟨by decide, ⟨_, wk_991, okX1_isValid hl, Or.inl ⟨Nat.ne_of_beq_eq_false rfl, rfl⟩⟩, wk_59, nc14, ⟨(by decide +kernel : (parseMethodDescriptor yX1_isValid.desc).map (fun d => d.parameters.length + 1) = some 3), hw, wk_989, wk_990, (RX1, TX1, 7), rfl, rfl⟩⟩⟩
theorem vML_isValid {l : Launch} (hl : l.stackTraces = false) (G : GT) : vM l G (ML_isValid (gg G)) := vM_k RL cL_isValid rfl rfl (all_c (vF_RL_13) (all_n)) all_n all_n all_n all_n (fun h => absurd rfl h) (all_c (kc_166 hl wk_988) (all_n)) all_n all_n (fun h => absurd rfl h) rfl (all_c (⟨"java/lang/IndexOutOfBoundsException", by decide, rfl, by decide, wk_348⟩) (all_c (⟨"java/lang/IllegalStateException", by decide, rfl, by decide, wk_869⟩) (all_n)))
theorem okL_isValid {l : Launch} (hl : l.stackTraces = false) {G : GT} : ∀ (args : List Value) (w : Hw) (S : Ot → Hw → Prop), spOf (ML_isValid (gg G)) args w S → CX l G yL_isValid (.codeWith yL_isValid cL_isValid 5 (some .int) [(0, 18, 21, 19), (0, 18, 25, 74)]) 9 4 24 args w S := CX_spH (M := ML_isValid (gg G)) (y := yL_isValid) hl (by decide) rfl (vML_isValid hl G) (fun h => by cases h)
abbrev dL_isValidSmall_0_T : List (Nat × Instr × Nat) := [(0, .aload_n 3, 1), (1, .aload_n 0, 1), (2, .iload_n 1, 1), (3, .iload_n 2, 1), (4, .invokevirtual 119, 3), (7, .ifCond .eq 7, 3), (10, .lconst 1, 1), (11, .goto 4, 3), (14, .lconst 0, 1), (15, .putfield 13, 3), (18, .goto 11, 3), (21, .astore 4, 2), (23, .iconst 1, 1), (24, .ireturn, 1), (25, .astore 4, 2), (27, .iconst 2, 1), (28, .ireturn, 1), (29, .iconst 0, 1), (30, .ireturn, 1)]
theorem dL_isValidSmall_0_D : dtc cL_isValidSmall dL_isValidSmall_0_T = true := by decide +kernel
def ML_isValidSmall (g : RO) : MT := ((RL, cL_isValidSmall, 5, 9, 4, 24, false, some .int), [(13, 6, 0)], [], [], [], [], 0, [(119, 2, 3, 5, 8, (fun _ _ => 4), (fun _ _ => 24), yX1_isValidSmall, spOf (MX1_isValidSmall g))], [], [], 0, [(0, 18, 21, 19), (0, 18, 25, 74)], [(19, "java/lang/IndexOutOfBoundsException"), (74, "java/lang/IllegalStateException")], g)
section
variable {g : RO} {Q : Ot → Hw → Prop} {st : List Value} {w : Hw} {k n p q : Nat} {a b : Int32} {x y : Int64} {u v : Value} {l0 l1 l2 l3 l4 : Option Value}
theorem eL_isValidSmall_0 : WP (ML_isValidSmall g) Q (0, [l0, l1, l2, some (.ref p), l4], st, w, k, n) = WP (ML_isValidSmall g) Q (1, [l0, l1, l2, some (.ref p), l4], .ref p :: st, w, k, n) := alnR_e rfl (dt_q dL_isValidSmall_0_D 0 rfl) rfl
theorem eL_isValidSmall_0N : WP (ML_isValidSmall g) Q (0, [l0, l1, l2, some .null, l4], st, w, k, n) = WP (ML_isValidSmall g) Q (1, [l0, l1, l2, some .null, l4], .null :: st, w, k, n) := alnN_e rfl (dt_q dL_isValidSmall_0_D 0 rfl) rfl
theorem eL_isValidSmall_1 : WP (ML_isValidSmall g) Q (1, [some (.ref p), l1, l2, l3, l4], st, w, k, n) = WP (ML_isValidSmall g) Q (2, [some (.ref p), l1, l2, l3, l4], .ref p :: st, w, k, n) := alnR_e rfl (dt_q dL_isValidSmall_0_D 1 rfl) rfl
theorem eL_isValidSmall_1N : WP (ML_isValidSmall g) Q (1, [some .null, l1, l2, l3, l4], st, w, k, n) = WP (ML_isValidSmall g) Q (2, [some .null, l1, l2, l3, l4], .null :: st, w, k, n) := alnN_e rfl (dt_q dL_isValidSmall_0_D 1 rfl) rfl
theorem eL_isValidSmall_2 : WP (ML_isValidSmall g) Q (2, [l0, some (.int a), l2, l3, l4], st, w, k, n) = WP (ML_isValidSmall g) Q (3, [l0, some (.int a), l2, l3, l4], .int a :: st, w, k, n) := iln_e rfl (dt_q dL_isValidSmall_0_D 2 rfl) rfl
theorem eL_isValidSmall_3 : WP (ML_isValidSmall g) Q (3, [l0, l1, some (.int a), l3, l4], st, w, k, n) = WP (ML_isValidSmall g) Q (4, [l0, l1, some (.int a), l3, l4], .int a :: st, w, k, n) := iln_e rfl (dt_q dL_isValidSmall_0_D 3 rfl) rfl
theorem eL_isValidSmall_4 {z0 : Int32} {z1 : Int32} : WP (ML_isValidSmall g) Q (4, [l0, l1, l2, l3, l4], .int z1 :: .int z0 :: .ref p :: st, w, k, n) = (go (rd g w p) 5 (fun _ => True) ∧ wt st ≤ 8 ∧ k + 4 ≤ 4 ∧ n + 24 ≤ 24 ∧ WP (MX1_isValidSmall g) (kx (fun v w' => WP (ML_isValidSmall g) Q (7, [l0, l1, l2, l3, l4], v.toList ++ st, w', k + 4, n + 24)) (fun E w' => hgo (ML_isValidSmall g) Q (WP (ML_isValidSmall g) Q) 4 [l0, l1, l2, l3, l4] E w' (k + 4) (n + 24))) (0, [some (.ref p), some (.int z0), some (.int z1)], [], w, 0, 0)) := csVH (M := (ML_isValidSmall g)) (mc := (fun _ _ => 4)) (ms := (fun _ _ => 24)) (As := [.int z0, .int z1]) (rest := st) (MX1_isValidSmall g) rfl (dt_q dL_isValidSmall_0_D 4 rfl) (by exact fun h => nomatch (show (none : Option Nat) = some 11 from h)) (by exact fun h => nomatch (show (none : Option Nat) = some 15 from h)) rfl rfl (by decide) (Nat.le_of_ble_eq_true rfl) (Nat.le_of_ble_eq_true rfl) rfl
theorem eL_isValidSmall_7 : WP (ML_isValidSmall g) Q (7, [l0, l1, l2, l3, l4], .int a :: st, w, k, n) = if a = 0 then WP (ML_isValidSmall g) Q (14, [l0, l1, l2, l3, l4], st, w, k, n) else WP (ML_isValidSmall g) Q (10, [l0, l1, l2, l3, l4], st, w, k, n) := ifc_e (a = 0) rfl (dt_q dL_isValidSmall_0_D 5 rfl) rfl (by decide)
theorem eL_isValidSmall_10 : WP (ML_isValidSmall g) Q (10, [l0, l1, l2, l3, l4], st, w, k, n) = WP (ML_isValidSmall g) Q (11, [l0, l1, l2, l3, l4], .long 1 :: st, w, k, n) := lconst_e rfl (dt_q dL_isValidSmall_0_D 6 rfl) (by decide)
theorem eL_isValidSmall_11 : WP (ML_isValidSmall g) Q (11, [l0, l1, l2, l3, l4], st, w, k, n) = WP (ML_isValidSmall g) Q (15, [l0, l1, l2, l3, l4], st, w, k, n) := goto_e rfl (dt_q dL_isValidSmall_0_D 7 rfl) (by decide)
theorem eL_isValidSmall_14 : WP (ML_isValidSmall g) Q (14, [l0, l1, l2, l3, l4], st, w, k, n) = WP (ML_isValidSmall g) Q (15, [l0, l1, l2, l3, l4], .long 0 :: st, w, k, n) := lconst_e rfl (dt_q dL_isValidSmall_0_D 8 rfl) (by decide)
theorem eL_isValidSmall_15 : WP (ML_isValidSmall g) Q (15, [l0, l1, l2, l3, l4], v :: .ref p :: st, w, k, n) = go (w p) 6 fun fs => 0 < fs.length ∧ (narrow (.long) v = v ∧ fits (.long) v = true) ∧ WP (ML_isValidSmall g) Q (18, [l0, l1, l2, l3, l4], st, upw w p (.inr (6, fs.set 0 v)), k, n) := put_e (q := (RX2, TX2, 2)) rfl (dt_q dL_isValidSmall_0_D 9 rfl) rfl rfl (tyX2_ok 0 (by decide)) (Or.inl rfl)
theorem eL_isValidSmall_18 : WP (ML_isValidSmall g) Q (18, [l0, l1, l2, l3, l4], st, w, k, n) = WP (ML_isValidSmall g) Q (29, [l0, l1, l2, l3, l4], st, w, k, n) := goto_e rfl (dt_q dL_isValidSmall_0_D 10 rfl) (by decide)
theorem eL_isValidSmall_21 : WP (ML_isValidSmall g) Q (21, [l0, l1, l2, l3, l4], .ref p :: st, w, k, n) = WP (ML_isValidSmall g) Q (23, [l0, l1, l2, nl l3, some (.ref p)], st, w, k, n) := asR_e rfl (dt_q dL_isValidSmall_0_D 11 rfl) rfl rfl
theorem eL_isValidSmall_21N : WP (ML_isValidSmall g) Q (21, [l0, l1, l2, l3, l4], .null :: st, w, k, n) = WP (ML_isValidSmall g) Q (23, [l0, l1, l2, nl l3, some (.null)], st, w, k, n) := asN_e rfl (dt_q dL_isValidSmall_0_D 11 rfl) rfl rfl
theorem eL_isValidSmall_23 : WP (ML_isValidSmall g) Q (23, [l0, l1, l2, l3, l4], st, w, k, n) = WP (ML_isValidSmall g) Q (24, [l0, l1, l2, l3, l4], .int 1 :: st, w, k, n) := ic_1 rfl (dt_q dL_isValidSmall_0_D 12 rfl)
theorem eL_isValidSmall_24 : WP (ML_isValidSmall g) Q (24, [l0, l1, l2, l3, l4], [.int a], w, k, n) = (k ≤ 4 ∧ n ≤ 24 ∧ Q (.inl (some (.int a))) w) := iretI_e rfl (dt_q dL_isValidSmall_0_D 13 rfl) rfl
theorem eL_isValidSmall_25 : WP (ML_isValidSmall g) Q (25, [l0, l1, l2, l3, l4], .ref p :: st, w, k, n) = WP (ML_isValidSmall g) Q (27, [l0, l1, l2, nl l3, some (.ref p)], st, w, k, n) := asR_e rfl (dt_q dL_isValidSmall_0_D 14 rfl) rfl rfl
theorem eL_isValidSmall_25N : WP (ML_isValidSmall g) Q (25, [l0, l1, l2, l3, l4], .null :: st, w, k, n) = WP (ML_isValidSmall g) Q (27, [l0, l1, l2, nl l3, some (.null)], st, w, k, n) := asN_e rfl (dt_q dL_isValidSmall_0_D 14 rfl) rfl rfl
theorem eL_isValidSmall_27 : WP (ML_isValidSmall g) Q (27, [l0, l1, l2, l3, l4], st, w, k, n) = WP (ML_isValidSmall g) Q (28, [l0, l1, l2, l3, l4], .int 2 :: st, w, k, n) := ic_2 rfl (dt_q dL_isValidSmall_0_D 15 rfl)
theorem eL_isValidSmall_28 : WP (ML_isValidSmall g) Q (28, [l0, l1, l2, l3, l4], [.int a], w, k, n) = (k ≤ 4 ∧ n ≤ 24 ∧ Q (.inl (some (.int a))) w) := iretI_e rfl (dt_q dL_isValidSmall_0_D 16 rfl) rfl
theorem eL_isValidSmall_29 : WP (ML_isValidSmall g) Q (29, [l0, l1, l2, l3, l4], st, w, k, n) = WP (ML_isValidSmall g) Q (30, [l0, l1, l2, l3, l4], .int 0 :: st, w, k, n) := ic_0 rfl (dt_q dL_isValidSmall_0_D 17 rfl)
theorem eL_isValidSmall_30 : WP (ML_isValidSmall g) Q (30, [l0, l1, l2, l3, l4], [.int a], w, k, n) = (k ≤ 4 ∧ n ≤ 24 ∧ Q (.inl (some (.int a))) w) := iretI_e rfl (dt_q dL_isValidSmall_0_D 18 rfl) rfl
end
theorem wk_998 : (.code yX1_isValidSmall cX1_isValidSmall 3 (some .boolean) : Jvm.Cond) ∈ WS := WS_t4 220 rfl rfl
theorem wk_995 : (.methodLink RL 119 yX1_isValidSmall : Jvm.Cond) ∈ WS := WS_t4 217 rfl rfl
theorem wk_996 : (.instanceMethod yX1_isValidSmall : Jvm.Cond) ∈ WS := WS_t4 218 rfl rfl
theorem wk_997 : (.selects RX1 yX1_isValidSmall yX1_isValidSmall : Jvm.Cond) ∈ WS := WS_t4 219 rfl rfl
theorem kc_167 {l : Launch} (hl : l.stackTraces = false) {G : GT} {own : String} {i : Nat} (hw : Jvm.Cond.methodLink own i yX1_isValidSmall ∈ WS) : vCal l G own i (2, 3, 5, 8, (fun _ _ => 4), (fun _ _ => 24), yX1_isValidSmall, spOf (MX1_isValidSmall (gg G))) := ⟨cX1_isValidSmall, 3, some .boolean, fun y hy => by subst hy; exact ⟨by decide, ⟨_, wk_998, okX1_isValidSmall hl, Or.inl ⟨Nat.ne_of_beq_eq_false rfl, rfl⟩⟩, wk_59, nc14, ⟨(by decide +kernel : (parseMethodDescriptor yX1_isValidSmall.desc).map (fun d => d.parameters.length + 1) = some 3), hw, wk_996, wk_997, (RX1, TX1, 7), rfl, rfl⟩⟩⟩
theorem vML_isValidSmall {l : Launch} (hl : l.stackTraces = false) (G : GT) : vM l G (ML_isValidSmall (gg G)) := vM_k RL cL_isValidSmall rfl rfl (all_c (vF_RL_13) (all_n)) all_n all_n all_n all_n (fun h => absurd rfl h) (all_c (kc_167 hl wk_995) (all_n)) all_n all_n (fun h => absurd rfl h) rfl (all_c (⟨"java/lang/IndexOutOfBoundsException", by decide, rfl, by decide, wk_348⟩) (all_c (⟨"java/lang/IllegalStateException", by decide, rfl, by decide, wk_869⟩) (all_n)))
theorem okL_isValidSmall {l : Launch} (hl : l.stackTraces = false) {G : GT} : ∀ (args : List Value) (w : Hw) (S : Ot → Hw → Prop), spOf (ML_isValidSmall (gg G)) args w S → CX l G yL_isValidSmall (.codeWith yL_isValidSmall cL_isValidSmall 5 (some .int) [(0, 18, 21, 19), (0, 18, 25, 74)]) 9 4 24 args w S := CX_spH (M := ML_isValidSmall (gg G)) (y := yL_isValidSmall) hl (by decide) rfl (vML_isValidSmall hl G) (fun h => by cases h)
end
/-! 69.law05.lean.txt -/
section
abbrev dL_whichValid_0_T : List (Nat × Instr × Nat) := [(0, .aload_n 3, 1), (1, .aload_n 0, 1), (2, .iload_n 1, 1), (3, .iload_n 2, 1), (4, .invokevirtual 122, 3), (7, .i2l, 1), (8, .putfield 13, 3), (11, .goto 11, 3), (14, .astore 4, 2), (16, .iconst 1, 1), (17, .ireturn, 1), (18, .astore 4, 2), (20, .iconst 2, 1), (21, .ireturn, 1), (22, .iconst 0, 1), (23, .ireturn, 1)]
theorem dL_whichValid_0_D : dtc cL_whichValid dL_whichValid_0_T = true := by decide +kernel
def ML_whichValid (g : RO) : MT := ((RL, cL_whichValid, 5, 9, 2, 12, false, some .int), [(13, 6, 0)], [], [], [], [], 0, [(122, 2, 3, 5, 8, (fun _ _ => 2), (fun _ _ => 12), yX1_whichValid, spOf (MX1_whichValid g))], [], [], 0, [(0, 11, 14, 19), (0, 11, 18, 74)], [(19, "java/lang/IndexOutOfBoundsException"), (74, "java/lang/IllegalStateException")], g)
section
variable {g : RO} {Q : Ot → Hw → Prop} {st : List Value} {w : Hw} {k n p q : Nat} {a b : Int32} {x y : Int64} {u v : Value} {l0 l1 l2 l3 l4 : Option Value}
theorem eL_whichValid_0 : WP (ML_whichValid g) Q (0, [l0, l1, l2, some (.ref p), l4], st, w, k, n) = WP (ML_whichValid g) Q (1, [l0, l1, l2, some (.ref p), l4], .ref p :: st, w, k, n) := alnR_e rfl (dt_q dL_whichValid_0_D 0 rfl) rfl
theorem eL_whichValid_0N : WP (ML_whichValid g) Q (0, [l0, l1, l2, some .null, l4], st, w, k, n) = WP (ML_whichValid g) Q (1, [l0, l1, l2, some .null, l4], .null :: st, w, k, n) := alnN_e rfl (dt_q dL_whichValid_0_D 0 rfl) rfl
theorem eL_whichValid_1 : WP (ML_whichValid g) Q (1, [some (.ref p), l1, l2, l3, l4], st, w, k, n) = WP (ML_whichValid g) Q (2, [some (.ref p), l1, l2, l3, l4], .ref p :: st, w, k, n) := alnR_e rfl (dt_q dL_whichValid_0_D 1 rfl) rfl
theorem eL_whichValid_1N : WP (ML_whichValid g) Q (1, [some .null, l1, l2, l3, l4], st, w, k, n) = WP (ML_whichValid g) Q (2, [some .null, l1, l2, l3, l4], .null :: st, w, k, n) := alnN_e rfl (dt_q dL_whichValid_0_D 1 rfl) rfl
theorem eL_whichValid_2 : WP (ML_whichValid g) Q (2, [l0, some (.int a), l2, l3, l4], st, w, k, n) = WP (ML_whichValid g) Q (3, [l0, some (.int a), l2, l3, l4], .int a :: st, w, k, n) := iln_e rfl (dt_q dL_whichValid_0_D 2 rfl) rfl
theorem eL_whichValid_3 : WP (ML_whichValid g) Q (3, [l0, l1, some (.int a), l3, l4], st, w, k, n) = WP (ML_whichValid g) Q (4, [l0, l1, some (.int a), l3, l4], .int a :: st, w, k, n) := iln_e rfl (dt_q dL_whichValid_0_D 3 rfl) rfl
theorem eL_whichValid_4 {z0 : Int32} {z1 : Int32} : WP (ML_whichValid g) Q (4, [l0, l1, l2, l3, l4], .int z1 :: .int z0 :: .ref p :: st, w, k, n) = (go (rd g w p) 5 (fun _ => True) ∧ wt st ≤ 8 ∧ k + 2 ≤ 2 ∧ n + 12 ≤ 12 ∧ WP (MX1_whichValid g) (kx (fun v w' => WP (ML_whichValid g) Q (7, [l0, l1, l2, l3, l4], v.toList ++ st, w', k + 2, n + 12)) (fun E w' => hgo (ML_whichValid g) Q (WP (ML_whichValid g) Q) 4 [l0, l1, l2, l3, l4] E w' (k + 2) (n + 12))) (0, [some (.ref p), some (.int z0), some (.int z1)], [], w, 0, 0)) := csVH (M := (ML_whichValid g)) (mc := (fun _ _ => 2)) (ms := (fun _ _ => 12)) (As := [.int z0, .int z1]) (rest := st) (MX1_whichValid g) rfl (dt_q dL_whichValid_0_D 4 rfl) (by exact fun h => nomatch (show (none : Option Nat) = some 11 from h)) (by exact fun h => nomatch (show (none : Option Nat) = some 15 from h)) rfl rfl (by decide) (Nat.le_of_ble_eq_true rfl) (Nat.le_of_ble_eq_true rfl) rfl
theorem eL_whichValid_7 : WP (ML_whichValid g) Q (7, [l0, l1, l2, l3, l4], .int a :: st, w, k, n) = WP (ML_whichValid g) Q (8, [l0, l1, l2, l3, l4], .long a.toInt64 :: st, w, k, n) := i2l_e rfl (dt_q dL_whichValid_0_D 5 rfl)
theorem eL_whichValid_8 : WP (ML_whichValid g) Q (8, [l0, l1, l2, l3, l4], v :: .ref p :: st, w, k, n) = go (w p) 6 fun fs => 0 < fs.length ∧ (narrow (.long) v = v ∧ fits (.long) v = true) ∧ WP (ML_whichValid g) Q (11, [l0, l1, l2, l3, l4], st, upw w p (.inr (6, fs.set 0 v)), k, n) := put_e (q := (RX2, TX2, 2)) rfl (dt_q dL_whichValid_0_D 6 rfl) rfl rfl (tyX2_ok 0 (by decide)) (Or.inl rfl)
theorem eL_whichValid_11 : WP (ML_whichValid g) Q (11, [l0, l1, l2, l3, l4], st, w, k, n) = WP (ML_whichValid g) Q (22, [l0, l1, l2, l3, l4], st, w, k, n) := goto_e rfl (dt_q dL_whichValid_0_D 7 rfl) (by decide)
theorem eL_whichValid_14 : WP (ML_whichValid g) Q (14, [l0, l1, l2, l3, l4], .ref p :: st, w, k, n) = WP (ML_whichValid g) Q (16, [l0, l1, l2, nl l3, some (.ref p)], st, w, k, n) := asR_e rfl (dt_q dL_whichValid_0_D 8 rfl) rfl rfl
theorem eL_whichValid_14N : WP (ML_whichValid g) Q (14, [l0, l1, l2, l3, l4], .null :: st, w, k, n) = WP (ML_whichValid g) Q (16, [l0, l1, l2, nl l3, some (.null)], st, w, k, n) := asN_e rfl (dt_q dL_whichValid_0_D 8 rfl) rfl rfl
theorem eL_whichValid_16 : WP (ML_whichValid g) Q (16, [l0, l1, l2, l3, l4], st, w, k, n) = WP (ML_whichValid g) Q (17, [l0, l1, l2, l3, l4], .int 1 :: st, w, k, n) := ic_1 rfl (dt_q dL_whichValid_0_D 9 rfl)
theorem eL_whichValid_17 : WP (ML_whichValid g) Q (17, [l0, l1, l2, l3, l4], [.int a], w, k, n) = (k ≤ 2 ∧ n ≤ 12 ∧ Q (.inl (some (.int a))) w) := iretI_e rfl (dt_q dL_whichValid_0_D 10 rfl) rfl
theorem eL_whichValid_18 : WP (ML_whichValid g) Q (18, [l0, l1, l2, l3, l4], .ref p :: st, w, k, n) = WP (ML_whichValid g) Q (20, [l0, l1, l2, nl l3, some (.ref p)], st, w, k, n) := asR_e rfl (dt_q dL_whichValid_0_D 11 rfl) rfl rfl
theorem eL_whichValid_18N : WP (ML_whichValid g) Q (18, [l0, l1, l2, l3, l4], .null :: st, w, k, n) = WP (ML_whichValid g) Q (20, [l0, l1, l2, nl l3, some (.null)], st, w, k, n) := asN_e rfl (dt_q dL_whichValid_0_D 11 rfl) rfl rfl
theorem eL_whichValid_20 : WP (ML_whichValid g) Q (20, [l0, l1, l2, l3, l4], st, w, k, n) = WP (ML_whichValid g) Q (21, [l0, l1, l2, l3, l4], .int 2 :: st, w, k, n) := ic_2 rfl (dt_q dL_whichValid_0_D 12 rfl)
theorem eL_whichValid_21 : WP (ML_whichValid g) Q (21, [l0, l1, l2, l3, l4], [.int a], w, k, n) = (k ≤ 2 ∧ n ≤ 12 ∧ Q (.inl (some (.int a))) w) := iretI_e rfl (dt_q dL_whichValid_0_D 13 rfl) rfl
theorem eL_whichValid_22 : WP (ML_whichValid g) Q (22, [l0, l1, l2, l3, l4], st, w, k, n) = WP (ML_whichValid g) Q (23, [l0, l1, l2, l3, l4], .int 0 :: st, w, k, n) := ic_0 rfl (dt_q dL_whichValid_0_D 14 rfl)
theorem eL_whichValid_23 : WP (ML_whichValid g) Q (23, [l0, l1, l2, l3, l4], [.int a], w, k, n) = (k ≤ 2 ∧ n ≤ 12 ∧ Q (.inl (some (.int a))) w) := iretI_e rfl (dt_q dL_whichValid_0_D 15 rfl) rfl
end
theorem wk_1005 : (.code yX1_whichValid cX1_whichValid 3 (some .int) : Jvm.Cond) ∈ WS := WS_t4 227 rfl rfl
theorem wk_1002 : (.methodLink RL 122 yX1_whichValid : Jvm.Cond) ∈ WS := WS_t4 224 rfl rfl
theorem wk_1003 : (.instanceMethod yX1_whichValid : Jvm.Cond) ∈ WS := WS_t4 225 rfl rfl
theorem wk_1004 : (.selects RX1 yX1_whichValid yX1_whichValid : Jvm.Cond) ∈ WS := WS_t4 226 rfl rfl
theorem kc_168 {l : Launch} (hl : l.stackTraces = false) {G : GT} {own : String} {i : Nat} (hw : Jvm.Cond.methodLink own i yX1_whichValid ∈ WS) : vCal l G own i (2, 3, 5, 8, (fun _ _ => 2), (fun _ _ => 12), yX1_whichValid, spOf (MX1_whichValid (gg G))) := ⟨cX1_whichValid, 3, some .int, fun y hy => by subst hy; exact ⟨by decide, ⟨_, wk_1005, okX1_whichValid hl, Or.inl ⟨Nat.ne_of_beq_eq_false rfl, rfl⟩⟩, wk_59, nc14, ⟨(by decide +kernel : (parseMethodDescriptor yX1_whichValid.desc).map (fun d => d.parameters.length + 1) = some 3), hw, wk_1003, wk_1004, (RX1, TX1, 7), rfl, rfl⟩⟩⟩
theorem vML_whichValid {l : Launch} (hl : l.stackTraces = false) (G : GT) : vM l G (ML_whichValid (gg G)) := vM_k RL cL_whichValid rfl rfl (all_c (vF_RL_13) (all_n)) all_n all_n all_n all_n (fun h => absurd rfl h) (all_c (kc_168 hl wk_1002) (all_n)) all_n all_n (fun h => absurd rfl h) rfl (all_c (⟨"java/lang/IndexOutOfBoundsException", by decide, rfl, by decide, wk_348⟩) (all_c (⟨"java/lang/IllegalStateException", by decide, rfl, by decide, wk_869⟩) (all_n)))
theorem okL_whichValid {l : Launch} (hl : l.stackTraces = false) {G : GT} : ∀ (args : List Value) (w : Hw) (S : Ot → Hw → Prop), spOf (ML_whichValid (gg G)) args w S → CX l G yL_whichValid (.codeWith yL_whichValid cL_whichValid 5 (some .int) [(0, 11, 14, 19), (0, 11, 18, 74)]) 9 2 12 args w S := CX_spH (M := ML_whichValid (gg G)) (y := yL_whichValid) hl (by decide) rfl (vML_whichValid hl G) (fun h => by cases h)
abbrev dL_around_0_T : List (Nat × Instr × Nat) := [(0, .aload 4, 2), (2, .aload_n 0, 1), (3, .iload_n 1, 1), (4, .iload_n 2, 1), (5, .iload_n 3, 1), (6, .invokevirtual 125, 3), (9, .i2l, 1), (10, .putfield 13, 3), (13, .goto 15, 3), (16, .astore 5, 2), (18, .iconst 1, 1), (19, .ireturn, 1), (20, .astore 5, 2), (22, .iconst 2, 1), (23, .ireturn, 1), (24, .astore 5, 2), (26, .iconst 3, 1), (27, .ireturn, 1), (28, .iconst 0, 1), (29, .ireturn, 1)]
theorem dL_around_0_D : dtc cL_around dL_around_0_T = true := by decide +kernel
def ML_around (g : RO) : MT := ((RL, cL_around, 6, 9, 4, 24, false, some .int), [(13, 6, 0)], [], [], [], [], 0, [(125, 2, 4, 5, 8, (fun _ _ => 4), (fun _ _ => 24), yX1_around, spOf (MX1_around g))], [], [], 0, [(0, 13, 16, 19), (0, 13, 20, 28), (0, 13, 24, 74)], [(19, "java/lang/IndexOutOfBoundsException"), (28, "java/lang/IllegalArgumentException"), (74, "java/lang/IllegalStateException")], g)
section
variable {g : RO} {Q : Ot → Hw → Prop} {st : List Value} {w : Hw} {k n p q : Nat} {a b : Int32} {x y : Int64} {u v : Value} {l0 l1 l2 l3 l4 l5 : Option Value}
theorem eL_around_0 : WP (ML_around g) Q (0, [l0, l1, l2, l3, some (.ref p), l5], st, w, k, n) = WP (ML_around g) Q (2, [l0, l1, l2, l3, some (.ref p), l5], .ref p :: st, w, k, n) := alR_e rfl (dt_q dL_around_0_D 0 rfl) rfl
theorem eL_around_0N : WP (ML_around g) Q (0, [l0, l1, l2, l3, some .null, l5], st, w, k, n) = WP (ML_around g) Q (2, [l0, l1, l2, l3, some .null, l5], .null :: st, w, k, n) := alN_e rfl (dt_q dL_around_0_D 0 rfl) rfl
theorem eL_around_2 : WP (ML_around g) Q (2, [some (.ref p), l1, l2, l3, l4, l5], st, w, k, n) = WP (ML_around g) Q (3, [some (.ref p), l1, l2, l3, l4, l5], .ref p :: st, w, k, n) := alnR_e rfl (dt_q dL_around_0_D 1 rfl) rfl
theorem eL_around_2N : WP (ML_around g) Q (2, [some .null, l1, l2, l3, l4, l5], st, w, k, n) = WP (ML_around g) Q (3, [some .null, l1, l2, l3, l4, l5], .null :: st, w, k, n) := alnN_e rfl (dt_q dL_around_0_D 1 rfl) rfl
theorem eL_around_3 : WP (ML_around g) Q (3, [l0, some (.int a), l2, l3, l4, l5], st, w, k, n) = WP (ML_around g) Q (4, [l0, some (.int a), l2, l3, l4, l5], .int a :: st, w, k, n) := iln_e rfl (dt_q dL_around_0_D 2 rfl) rfl
theorem eL_around_4 : WP (ML_around g) Q (4, [l0, l1, some (.int a), l3, l4, l5], st, w, k, n) = WP (ML_around g) Q (5, [l0, l1, some (.int a), l3, l4, l5], .int a :: st, w, k, n) := iln_e rfl (dt_q dL_around_0_D 3 rfl) rfl
theorem eL_around_5 : WP (ML_around g) Q (5, [l0, l1, l2, some (.int a), l4, l5], st, w, k, n) = WP (ML_around g) Q (6, [l0, l1, l2, some (.int a), l4, l5], .int a :: st, w, k, n) := iln_e rfl (dt_q dL_around_0_D 4 rfl) rfl
theorem eL_around_6 {z0 : Int32} {z1 : Int32} {z2 : Int32} : WP (ML_around g) Q (6, [l0, l1, l2, l3, l4, l5], .int z2 :: .int z1 :: .int z0 :: .ref p :: st, w, k, n) = (go (rd g w p) 5 (fun _ => True) ∧ wt st ≤ 8 ∧ k + 4 ≤ 4 ∧ n + 24 ≤ 24 ∧ WP (MX1_around g) (kx (fun v w' => WP (ML_around g) Q (9, [l0, l1, l2, l3, l4, l5], v.toList ++ st, w', k + 4, n + 24)) (fun E w' => hgo (ML_around g) Q (WP (ML_around g) Q) 6 [l0, l1, l2, l3, l4, l5] E w' (k + 4) (n + 24))) (0, [some (.ref p), some (.int z0), some (.int z1), some (.int z2), none], [], w, 0, 0)) := csVH (M := (ML_around g)) (mc := (fun _ _ => 4)) (ms := (fun _ _ => 24)) (As := [.int z0, .int z1, .int z2]) (rest := st) (MX1_around g) rfl (dt_q dL_around_0_D 5 rfl) (by exact fun h => nomatch (show (none : Option Nat) = some 11 from h)) (by exact fun h => nomatch (show (none : Option Nat) = some 15 from h)) rfl rfl (by decide) (Nat.le_of_ble_eq_true rfl) (Nat.le_of_ble_eq_true rfl) rfl
theorem eL_around_9 : WP (ML_around g) Q (9, [l0, l1, l2, l3, l4, l5], .int a :: st, w, k, n) = WP (ML_around g) Q (10, [l0, l1, l2, l3, l4, l5], .long a.toInt64 :: st, w, k, n) := i2l_e rfl (dt_q dL_around_0_D 6 rfl)
theorem eL_around_10 : WP (ML_around g) Q (10, [l0, l1, l2, l3, l4, l5], v :: .ref p :: st, w, k, n) = go (w p) 6 fun fs => 0 < fs.length ∧ (narrow (.long) v = v ∧ fits (.long) v = true) ∧ WP (ML_around g) Q (13, [l0, l1, l2, l3, l4, l5], st, upw w p (.inr (6, fs.set 0 v)), k, n) := put_e (q := (RX2, TX2, 2)) rfl (dt_q dL_around_0_D 7 rfl) rfl rfl (tyX2_ok 0 (by decide)) (Or.inl rfl)
theorem eL_around_13 : WP (ML_around g) Q (13, [l0, l1, l2, l3, l4, l5], st, w, k, n) = WP (ML_around g) Q (28, [l0, l1, l2, l3, l4, l5], st, w, k, n) := goto_e rfl (dt_q dL_around_0_D 8 rfl) (by decide)
theorem eL_around_16 : WP (ML_around g) Q (16, [l0, l1, l2, l3, l4, l5], .ref p :: st, w, k, n) = WP (ML_around g) Q (18, [l0, l1, l2, l3, nl l4, some (.ref p)], st, w, k, n) := asR_e rfl (dt_q dL_around_0_D 9 rfl) rfl rfl
theorem eL_around_16N : WP (ML_around g) Q (16, [l0, l1, l2, l3, l4, l5], .null :: st, w, k, n) = WP (ML_around g) Q (18, [l0, l1, l2, l3, nl l4, some (.null)], st, w, k, n) := asN_e rfl (dt_q dL_around_0_D 9 rfl) rfl rfl
theorem eL_around_18 : WP (ML_around g) Q (18, [l0, l1, l2, l3, l4, l5], st, w, k, n) = WP (ML_around g) Q (19, [l0, l1, l2, l3, l4, l5], .int 1 :: st, w, k, n) := ic_1 rfl (dt_q dL_around_0_D 10 rfl)
theorem eL_around_19 : WP (ML_around g) Q (19, [l0, l1, l2, l3, l4, l5], [.int a], w, k, n) = (k ≤ 4 ∧ n ≤ 24 ∧ Q (.inl (some (.int a))) w) := iretI_e rfl (dt_q dL_around_0_D 11 rfl) rfl
theorem eL_around_20 : WP (ML_around g) Q (20, [l0, l1, l2, l3, l4, l5], .ref p :: st, w, k, n) = WP (ML_around g) Q (22, [l0, l1, l2, l3, nl l4, some (.ref p)], st, w, k, n) := asR_e rfl (dt_q dL_around_0_D 12 rfl) rfl rfl
theorem eL_around_20N : WP (ML_around g) Q (20, [l0, l1, l2, l3, l4, l5], .null :: st, w, k, n) = WP (ML_around g) Q (22, [l0, l1, l2, l3, nl l4, some (.null)], st, w, k, n) := asN_e rfl (dt_q dL_around_0_D 12 rfl) rfl rfl
theorem eL_around_22 : WP (ML_around g) Q (22, [l0, l1, l2, l3, l4, l5], st, w, k, n) = WP (ML_around g) Q (23, [l0, l1, l2, l3, l4, l5], .int 2 :: st, w, k, n) := ic_2 rfl (dt_q dL_around_0_D 13 rfl)
theorem eL_around_23 : WP (ML_around g) Q (23, [l0, l1, l2, l3, l4, l5], [.int a], w, k, n) = (k ≤ 4 ∧ n ≤ 24 ∧ Q (.inl (some (.int a))) w) := iretI_e rfl (dt_q dL_around_0_D 14 rfl) rfl
theorem eL_around_24 : WP (ML_around g) Q (24, [l0, l1, l2, l3, l4, l5], .ref p :: st, w, k, n) = WP (ML_around g) Q (26, [l0, l1, l2, l3, nl l4, some (.ref p)], st, w, k, n) := asR_e rfl (dt_q dL_around_0_D 15 rfl) rfl rfl
theorem eL_around_24N : WP (ML_around g) Q (24, [l0, l1, l2, l3, l4, l5], .null :: st, w, k, n) = WP (ML_around g) Q (26, [l0, l1, l2, l3, nl l4, some (.null)], st, w, k, n) := asN_e rfl (dt_q dL_around_0_D 15 rfl) rfl rfl
theorem eL_around_26 : WP (ML_around g) Q (26, [l0, l1, l2, l3, l4, l5], st, w, k, n) = WP (ML_around g) Q (27, [l0, l1, l2, l3, l4, l5], .int 3 :: st, w, k, n) := ic_3 rfl (dt_q dL_around_0_D 16 rfl)
theorem eL_around_27 : WP (ML_around g) Q (27, [l0, l1, l2, l3, l4, l5], [.int a], w, k, n) = (k ≤ 4 ∧ n ≤ 24 ∧ Q (.inl (some (.int a))) w) := iretI_e rfl (dt_q dL_around_0_D 17 rfl) rfl
theorem eL_around_28 : WP (ML_around g) Q (28, [l0, l1, l2, l3, l4, l5], st, w, k, n) = WP (ML_around g) Q (29, [l0, l1, l2, l3, l4, l5], .int 0 :: st, w, k, n) := ic_0 rfl (dt_q dL_around_0_D 18 rfl)
theorem eL_around_29 : WP (ML_around g) Q (29, [l0, l1, l2, l3, l4, l5], [.int a], w, k, n) = (k ≤ 4 ∧ n ≤ 24 ∧ Q (.inl (some (.int a))) w) := iretI_e rfl (dt_q dL_around_0_D 19 rfl) rfl
end
theorem wk_1012 : (.code yX1_around cX1_around 5 (some .int) : Jvm.Cond) ∈ WS := WS_t4 234 rfl rfl
theorem wk_1009 : (.methodLink RL 125 yX1_around : Jvm.Cond) ∈ WS := WS_t4 231 rfl rfl
theorem wk_1010 : (.instanceMethod yX1_around : Jvm.Cond) ∈ WS := WS_t4 232 rfl rfl
theorem wk_1011 : (.selects RX1 yX1_around yX1_around : Jvm.Cond) ∈ WS := WS_t4 233 rfl rfl
theorem kc_169 {l : Launch} (hl : l.stackTraces = false) {G : GT} {own : String} {i : Nat} (hw : Jvm.Cond.methodLink own i yX1_around ∈ WS) : vCal l G own i (2, 4, 5, 8, (fun _ _ => 4), (fun _ _ => 24), yX1_around, spOf (MX1_around (gg G))) := ⟨cX1_around, 5, some .int, fun y hy => by subst hy; exact ⟨by decide, ⟨_, wk_1012, okX1_around hl, Or.inl ⟨Nat.ne_of_beq_eq_false rfl, rfl⟩⟩, wk_59, nc14, ⟨(by decide +kernel : (parseMethodDescriptor yX1_around.desc).map (fun d => d.parameters.length + 1) = some 4), hw, wk_1010, wk_1011, (RX1, TX1, 7), rfl, rfl⟩⟩⟩
theorem vML_around {l : Launch} (hl : l.stackTraces = false) (G : GT) : vM l G (ML_around (gg G)) := vM_k RL cL_around rfl rfl (all_c (vF_RL_13) (all_n)) all_n all_n all_n all_n (fun h => absurd rfl h) (all_c (kc_169 hl wk_1009) (all_n)) all_n all_n (fun h => absurd rfl h) rfl (all_c (⟨"java/lang/IndexOutOfBoundsException", by decide, rfl, by decide, wk_348⟩) (all_c (⟨"java/lang/IllegalArgumentException", by decide, rfl, by decide, wk_435⟩) (all_c (⟨"java/lang/IllegalStateException", by decide, rfl, by decide, wk_869⟩) (all_n))))
theorem okL_around {l : Launch} (hl : l.stackTraces = false) {G : GT} : ∀ (args : List Value) (w : Hw) (S : Ot → Hw → Prop), spOf (ML_around (gg G)) args w S → CX l G yL_around (.codeWith yL_around cL_around 6 (some .int) [(0, 13, 16, 19), (0, 13, 20, 28), (0, 13, 24, 74)]) 9 4 24 args w S := CX_spH (M := ML_around (gg G)) (y := yL_around) hl (by decide) rfl (vML_around hl G) (fun h => by cases h)
abbrev dL_count_0_T : List (Nat × Instr × Nat) := [(0, .aload 4, 2), (2, .aload_n 0, 1), (3, .iload_n 1, 1), (4, .iload_n 2, 1), (5, .iload_n 3, 1), (6, .invokevirtual 128, 3), (9, .i2l, 1), (10, .putfield 13, 3), (13, .goto 15, 3), (16, .astore 5, 2), (18, .iconst 1, 1), (19, .ireturn, 1), (20, .astore 5, 2), (22, .iconst 2, 1), (23, .ireturn, 1), (24, .astore 5, 2), (26, .iconst 3, 1), (27, .ireturn, 1), (28, .iconst 0, 1), (29, .ireturn, 1)]
theorem dL_count_0_D : dtc cL_count dL_count_0_T = true := by decide +kernel
def ML_count (g : RO) : MT := ((RL, cL_count, 6, 9, 4, 24, false, some .int), [(13, 6, 0)], [], [], [], [], 0, [(128, 2, 4, 5, 8, (fun _ _ => 4), (fun _ _ => 24), yX1_count, spOf (MX1_count g))], [], [], 0, [(0, 13, 16, 19), (0, 13, 20, 28), (0, 13, 24, 74)], [(19, "java/lang/IndexOutOfBoundsException"), (28, "java/lang/IllegalArgumentException"), (74, "java/lang/IllegalStateException")], g)
section
variable {g : RO} {Q : Ot → Hw → Prop} {st : List Value} {w : Hw} {k n p q : Nat} {a b : Int32} {x y : Int64} {u v : Value} {l0 l1 l2 l3 l4 l5 : Option Value}
theorem eL_count_0 : WP (ML_count g) Q (0, [l0, l1, l2, l3, some (.ref p), l5], st, w, k, n) = WP (ML_count g) Q (2, [l0, l1, l2, l3, some (.ref p), l5], .ref p :: st, w, k, n) := alR_e rfl (dt_q dL_count_0_D 0 rfl) rfl
theorem eL_count_0N : WP (ML_count g) Q (0, [l0, l1, l2, l3, some .null, l5], st, w, k, n) = WP (ML_count g) Q (2, [l0, l1, l2, l3, some .null, l5], .null :: st, w, k, n) := alN_e rfl (dt_q dL_count_0_D 0 rfl) rfl
theorem eL_count_2 : WP (ML_count g) Q (2, [some (.ref p), l1, l2, l3, l4, l5], st, w, k, n) = WP (ML_count g) Q (3, [some (.ref p), l1, l2, l3, l4, l5], .ref p :: st, w, k, n) := alnR_e rfl (dt_q dL_count_0_D 1 rfl) rfl
theorem eL_count_2N : WP (ML_count g) Q (2, [some .null, l1, l2, l3, l4, l5], st, w, k, n) = WP (ML_count g) Q (3, [some .null, l1, l2, l3, l4, l5], .null :: st, w, k, n) := alnN_e rfl (dt_q dL_count_0_D 1 rfl) rfl
theorem eL_count_3 : WP (ML_count g) Q (3, [l0, some (.int a), l2, l3, l4, l5], st, w, k, n) = WP (ML_count g) Q (4, [l0, some (.int a), l2, l3, l4, l5], .int a :: st, w, k, n) := iln_e rfl (dt_q dL_count_0_D 2 rfl) rfl
theorem eL_count_4 : WP (ML_count g) Q (4, [l0, l1, some (.int a), l3, l4, l5], st, w, k, n) = WP (ML_count g) Q (5, [l0, l1, some (.int a), l3, l4, l5], .int a :: st, w, k, n) := iln_e rfl (dt_q dL_count_0_D 3 rfl) rfl
theorem eL_count_5 : WP (ML_count g) Q (5, [l0, l1, l2, some (.int a), l4, l5], st, w, k, n) = WP (ML_count g) Q (6, [l0, l1, l2, some (.int a), l4, l5], .int a :: st, w, k, n) := iln_e rfl (dt_q dL_count_0_D 4 rfl) rfl
theorem eL_count_6 {z0 : Int32} {z1 : Int32} {z2 : Int32} : WP (ML_count g) Q (6, [l0, l1, l2, l3, l4, l5], .int z2 :: .int z1 :: .int z0 :: .ref p :: st, w, k, n) = (go (rd g w p) 5 (fun _ => True) ∧ wt st ≤ 8 ∧ k + 4 ≤ 4 ∧ n + 24 ≤ 24 ∧ WP (MX1_count g) (kx (fun v w' => WP (ML_count g) Q (9, [l0, l1, l2, l3, l4, l5], v.toList ++ st, w', k + 4, n + 24)) (fun E w' => hgo (ML_count g) Q (WP (ML_count g) Q) 6 [l0, l1, l2, l3, l4, l5] E w' (k + 4) (n + 24))) (0, [some (.ref p), some (.int z0), some (.int z1), some (.int z2), none, none, none], [], w, 0, 0)) := csVH (M := (ML_count g)) (mc := (fun _ _ => 4)) (ms := (fun _ _ => 24)) (As := [.int z0, .int z1, .int z2]) (rest := st) (MX1_count g) rfl (dt_q dL_count_0_D 5 rfl) (by exact fun h => nomatch (show (none : Option Nat) = some 11 from h)) (by exact fun h => nomatch (show (none : Option Nat) = some 15 from h)) rfl rfl (by decide) (Nat.le_of_ble_eq_true rfl) (Nat.le_of_ble_eq_true rfl) rfl
theorem eL_count_9 : WP (ML_count g) Q (9, [l0, l1, l2, l3, l4, l5], .int a :: st, w, k, n) = WP (ML_count g) Q (10, [l0, l1, l2, l3, l4, l5], .long a.toInt64 :: st, w, k, n) := i2l_e rfl (dt_q dL_count_0_D 6 rfl)
theorem eL_count_10 : WP (ML_count g) Q (10, [l0, l1, l2, l3, l4, l5], v :: .ref p :: st, w, k, n) = go (w p) 6 fun fs => 0 < fs.length ∧ (narrow (.long) v = v ∧ fits (.long) v = true) ∧ WP (ML_count g) Q (13, [l0, l1, l2, l3, l4, l5], st, upw w p (.inr (6, fs.set 0 v)), k, n) := put_e (q := (RX2, TX2, 2)) rfl (dt_q dL_count_0_D 7 rfl) rfl rfl (tyX2_ok 0 (by decide)) (Or.inl rfl)
theorem eL_count_13 : WP (ML_count g) Q (13, [l0, l1, l2, l3, l4, l5], st, w, k, n) = WP (ML_count g) Q (28, [l0, l1, l2, l3, l4, l5], st, w, k, n) := goto_e rfl (dt_q dL_count_0_D 8 rfl) (by decide)
theorem eL_count_16 : WP (ML_count g) Q (16, [l0, l1, l2, l3, l4, l5], .ref p :: st, w, k, n) = WP (ML_count g) Q (18, [l0, l1, l2, l3, nl l4, some (.ref p)], st, w, k, n) := asR_e rfl (dt_q dL_count_0_D 9 rfl) rfl rfl
theorem eL_count_16N : WP (ML_count g) Q (16, [l0, l1, l2, l3, l4, l5], .null :: st, w, k, n) = WP (ML_count g) Q (18, [l0, l1, l2, l3, nl l4, some (.null)], st, w, k, n) := asN_e rfl (dt_q dL_count_0_D 9 rfl) rfl rfl
theorem eL_count_18 : WP (ML_count g) Q (18, [l0, l1, l2, l3, l4, l5], st, w, k, n) = WP (ML_count g) Q (19, [l0, l1, l2, l3, l4, l5], .int 1 :: st, w, k, n) := ic_1 rfl (dt_q dL_count_0_D 10 rfl)
theorem eL_count_19 : WP (ML_count g) Q (19, [l0, l1, l2, l3, l4, l5], [.int a], w, k, n) = (k ≤ 4 ∧ n ≤ 24 ∧ Q (.inl (some (.int a))) w) := iretI_e rfl (dt_q dL_count_0_D 11 rfl) rfl
theorem eL_count_20 : WP (ML_count g) Q (20, [l0, l1, l2, l3, l4, l5], .ref p :: st, w, k, n) = WP (ML_count g) Q (22, [l0, l1, l2, l3, nl l4, some (.ref p)], st, w, k, n) := asR_e rfl (dt_q dL_count_0_D 12 rfl) rfl rfl
theorem eL_count_20N : WP (ML_count g) Q (20, [l0, l1, l2, l3, l4, l5], .null :: st, w, k, n) = WP (ML_count g) Q (22, [l0, l1, l2, l3, nl l4, some (.null)], st, w, k, n) := asN_e rfl (dt_q dL_count_0_D 12 rfl) rfl rfl
theorem eL_count_22 : WP (ML_count g) Q (22, [l0, l1, l2, l3, l4, l5], st, w, k, n) = WP (ML_count g) Q (23, [l0, l1, l2, l3, l4, l5], .int 2 :: st, w, k, n) := ic_2 rfl (dt_q dL_count_0_D 13 rfl)
theorem eL_count_23 : WP (ML_count g) Q (23, [l0, l1, l2, l3, l4, l5], [.int a], w, k, n) = (k ≤ 4 ∧ n ≤ 24 ∧ Q (.inl (some (.int a))) w) := iretI_e rfl (dt_q dL_count_0_D 14 rfl) rfl
theorem eL_count_24 : WP (ML_count g) Q (24, [l0, l1, l2, l3, l4, l5], .ref p :: st, w, k, n) = WP (ML_count g) Q (26, [l0, l1, l2, l3, nl l4, some (.ref p)], st, w, k, n) := asR_e rfl (dt_q dL_count_0_D 15 rfl) rfl rfl
theorem eL_count_24N : WP (ML_count g) Q (24, [l0, l1, l2, l3, l4, l5], .null :: st, w, k, n) = WP (ML_count g) Q (26, [l0, l1, l2, l3, nl l4, some (.null)], st, w, k, n) := asN_e rfl (dt_q dL_count_0_D 15 rfl) rfl rfl
theorem eL_count_26 : WP (ML_count g) Q (26, [l0, l1, l2, l3, l4, l5], st, w, k, n) = WP (ML_count g) Q (27, [l0, l1, l2, l3, l4, l5], .int 3 :: st, w, k, n) := ic_3 rfl (dt_q dL_count_0_D 16 rfl)
theorem eL_count_27 : WP (ML_count g) Q (27, [l0, l1, l2, l3, l4, l5], [.int a], w, k, n) = (k ≤ 4 ∧ n ≤ 24 ∧ Q (.inl (some (.int a))) w) := iretI_e rfl (dt_q dL_count_0_D 17 rfl) rfl
theorem eL_count_28 : WP (ML_count g) Q (28, [l0, l1, l2, l3, l4, l5], st, w, k, n) = WP (ML_count g) Q (29, [l0, l1, l2, l3, l4, l5], .int 0 :: st, w, k, n) := ic_0 rfl (dt_q dL_count_0_D 18 rfl)
theorem eL_count_29 : WP (ML_count g) Q (29, [l0, l1, l2, l3, l4, l5], [.int a], w, k, n) = (k ≤ 4 ∧ n ≤ 24 ∧ Q (.inl (some (.int a))) w) := iretI_e rfl (dt_q dL_count_0_D 19 rfl) rfl
end
theorem wk_1019 : (.code yX1_count cX1_count 7 (some .int) : Jvm.Cond) ∈ WS := WS_t5 1 rfl rfl
theorem wk_1016 : (.methodLink RL 128 yX1_count : Jvm.Cond) ∈ WS := WS_t4 238 rfl rfl
theorem wk_1017 : (.instanceMethod yX1_count : Jvm.Cond) ∈ WS := WS_t4 239 rfl rfl
theorem wk_1018 : (.selects RX1 yX1_count yX1_count : Jvm.Cond) ∈ WS := WS_t5 0 rfl rfl
theorem kc_170 {l : Launch} (hl : l.stackTraces = false) {G : GT} {own : String} {i : Nat} (hw : Jvm.Cond.methodLink own i yX1_count ∈ WS) : vCal l G own i (2, 4, 5, 8, (fun _ _ => 4), (fun _ _ => 24), yX1_count, spOf (MX1_count (gg G))) := ⟨cX1_count, 7, some .int, fun y hy => by subst hy; exact ⟨by decide, ⟨_, wk_1019, okX1_count hl, Or.inl ⟨Nat.ne_of_beq_eq_false rfl, rfl⟩⟩, wk_59, nc14, ⟨(by decide +kernel : (parseMethodDescriptor yX1_count.desc).map (fun d => d.parameters.length + 1) = some 4), hw, wk_1017, wk_1018, (RX1, TX1, 7), rfl, rfl⟩⟩⟩
theorem vML_count {l : Launch} (hl : l.stackTraces = false) (G : GT) : vM l G (ML_count (gg G)) := vM_k RL cL_count rfl rfl (all_c (vF_RL_13) (all_n)) all_n all_n all_n all_n (fun h => absurd rfl h) (all_c (kc_170 hl wk_1016) (all_n)) all_n all_n (fun h => absurd rfl h) rfl (all_c (⟨"java/lang/IndexOutOfBoundsException", by decide, rfl, by decide, wk_348⟩) (all_c (⟨"java/lang/IllegalArgumentException", by decide, rfl, by decide, wk_435⟩) (all_c (⟨"java/lang/IllegalStateException", by decide, rfl, by decide, wk_869⟩) (all_n))))
theorem okL_count {l : Launch} (hl : l.stackTraces = false) {G : GT} : ∀ (args : List Value) (w : Hw) (S : Ot → Hw → Prop), spOf (ML_count (gg G)) args w S → CX l G yL_count (.codeWith yL_count cL_count 6 (some .int) [(0, 13, 16, 19), (0, 13, 20, 28), (0, 13, 24, 74)]) 9 4 24 args w S := CX_spH (M := ML_count (gg G)) (y := yL_count) hl (by decide) rfl (vML_count hl G) (fun h => by cases h)
abbrev dL_who_0_T : List (Nat × Instr × Nat) := [(0, .aload_n 3, 1), (1, .aload_n 0, 1), (2, .iload_n 1, 1), (3, .iload_n 2, 1), (4, .invokevirtual 131, 3), (7, .i2l, 1), (8, .putfield 13, 3), (11, .goto 11, 3), (14, .astore 4, 2), (16, .iconst 1, 1), (17, .ireturn, 1), (18, .astore 4, 2), (20, .iconst 2, 1), (21, .ireturn, 1), (22, .iconst 0, 1), (23, .ireturn, 1)]
theorem dL_who_0_D : dtc cL_who dL_who_0_T = true := by decide +kernel
def ML_who (g : RO) : MT := ((RL, cL_who, 5, 8, 2, 12, false, some .int), [(13, 6, 0)], [], [], [], [], 0, [(131, 2, 3, 5, 7, (fun _ _ => 2), (fun _ _ => 12), yX1_who, spOf (MX1_who g))], [], [], 0, [(0, 11, 14, 19), (0, 11, 18, 28)], [(19, "java/lang/IndexOutOfBoundsException"), (28, "java/lang/IllegalArgumentException")], g)
section
variable {g : RO} {Q : Ot → Hw → Prop} {st : List Value} {w : Hw} {k n p q : Nat} {a b : Int32} {x y : Int64} {u v : Value} {l0 l1 l2 l3 l4 : Option Value}
theorem eL_who_0 : WP (ML_who g) Q (0, [l0, l1, l2, some (.ref p), l4], st, w, k, n) = WP (ML_who g) Q (1, [l0, l1, l2, some (.ref p), l4], .ref p :: st, w, k, n) := alnR_e rfl (dt_q dL_who_0_D 0 rfl) rfl
theorem eL_who_0N : WP (ML_who g) Q (0, [l0, l1, l2, some .null, l4], st, w, k, n) = WP (ML_who g) Q (1, [l0, l1, l2, some .null, l4], .null :: st, w, k, n) := alnN_e rfl (dt_q dL_who_0_D 0 rfl) rfl
theorem eL_who_1 : WP (ML_who g) Q (1, [some (.ref p), l1, l2, l3, l4], st, w, k, n) = WP (ML_who g) Q (2, [some (.ref p), l1, l2, l3, l4], .ref p :: st, w, k, n) := alnR_e rfl (dt_q dL_who_0_D 1 rfl) rfl
theorem eL_who_1N : WP (ML_who g) Q (1, [some .null, l1, l2, l3, l4], st, w, k, n) = WP (ML_who g) Q (2, [some .null, l1, l2, l3, l4], .null :: st, w, k, n) := alnN_e rfl (dt_q dL_who_0_D 1 rfl) rfl
theorem eL_who_2 : WP (ML_who g) Q (2, [l0, some (.int a), l2, l3, l4], st, w, k, n) = WP (ML_who g) Q (3, [l0, some (.int a), l2, l3, l4], .int a :: st, w, k, n) := iln_e rfl (dt_q dL_who_0_D 2 rfl) rfl
theorem eL_who_3 : WP (ML_who g) Q (3, [l0, l1, some (.int a), l3, l4], st, w, k, n) = WP (ML_who g) Q (4, [l0, l1, some (.int a), l3, l4], .int a :: st, w, k, n) := iln_e rfl (dt_q dL_who_0_D 3 rfl) rfl
theorem eL_who_4 {z0 : Int32} {z1 : Int32} : WP (ML_who g) Q (4, [l0, l1, l2, l3, l4], .int z1 :: .int z0 :: .ref p :: st, w, k, n) = (go (rd g w p) 5 (fun _ => True) ∧ wt st ≤ 8 ∧ k + 2 ≤ 2 ∧ n + 12 ≤ 12 ∧ WP (MX1_who g) (kx (fun v w' => WP (ML_who g) Q (7, [l0, l1, l2, l3, l4], v.toList ++ st, w', k + 2, n + 12)) (fun E w' => hgo (ML_who g) Q (WP (ML_who g) Q) 4 [l0, l1, l2, l3, l4] E w' (k + 2) (n + 12))) (0, [some (.ref p), some (.int z0), some (.int z1)], [], w, 0, 0)) := csVH (M := (ML_who g)) (mc := (fun _ _ => 2)) (ms := (fun _ _ => 12)) (As := [.int z0, .int z1]) (rest := st) (MX1_who g) rfl (dt_q dL_who_0_D 4 rfl) (by exact fun h => nomatch (show (none : Option Nat) = some 11 from h)) (by exact fun h => nomatch (show (none : Option Nat) = some 15 from h)) rfl rfl (by decide) (Nat.le_of_ble_eq_true rfl) (Nat.le_of_ble_eq_true rfl) rfl
theorem eL_who_7 : WP (ML_who g) Q (7, [l0, l1, l2, l3, l4], .int a :: st, w, k, n) = WP (ML_who g) Q (8, [l0, l1, l2, l3, l4], .long a.toInt64 :: st, w, k, n) := i2l_e rfl (dt_q dL_who_0_D 5 rfl)
theorem eL_who_8 : WP (ML_who g) Q (8, [l0, l1, l2, l3, l4], v :: .ref p :: st, w, k, n) = go (w p) 6 fun fs => 0 < fs.length ∧ (narrow (.long) v = v ∧ fits (.long) v = true) ∧ WP (ML_who g) Q (11, [l0, l1, l2, l3, l4], st, upw w p (.inr (6, fs.set 0 v)), k, n) := put_e (q := (RX2, TX2, 2)) rfl (dt_q dL_who_0_D 6 rfl) rfl rfl (tyX2_ok 0 (by decide)) (Or.inl rfl)
theorem eL_who_11 : WP (ML_who g) Q (11, [l0, l1, l2, l3, l4], st, w, k, n) = WP (ML_who g) Q (22, [l0, l1, l2, l3, l4], st, w, k, n) := goto_e rfl (dt_q dL_who_0_D 7 rfl) (by decide)
theorem eL_who_14 : WP (ML_who g) Q (14, [l0, l1, l2, l3, l4], .ref p :: st, w, k, n) = WP (ML_who g) Q (16, [l0, l1, l2, nl l3, some (.ref p)], st, w, k, n) := asR_e rfl (dt_q dL_who_0_D 8 rfl) rfl rfl
theorem eL_who_14N : WP (ML_who g) Q (14, [l0, l1, l2, l3, l4], .null :: st, w, k, n) = WP (ML_who g) Q (16, [l0, l1, l2, nl l3, some (.null)], st, w, k, n) := asN_e rfl (dt_q dL_who_0_D 8 rfl) rfl rfl
theorem eL_who_16 : WP (ML_who g) Q (16, [l0, l1, l2, l3, l4], st, w, k, n) = WP (ML_who g) Q (17, [l0, l1, l2, l3, l4], .int 1 :: st, w, k, n) := ic_1 rfl (dt_q dL_who_0_D 9 rfl)
theorem eL_who_17 : WP (ML_who g) Q (17, [l0, l1, l2, l3, l4], [.int a], w, k, n) = (k ≤ 2 ∧ n ≤ 12 ∧ Q (.inl (some (.int a))) w) := iretI_e rfl (dt_q dL_who_0_D 10 rfl) rfl
theorem eL_who_18 : WP (ML_who g) Q (18, [l0, l1, l2, l3, l4], .ref p :: st, w, k, n) = WP (ML_who g) Q (20, [l0, l1, l2, nl l3, some (.ref p)], st, w, k, n) := asR_e rfl (dt_q dL_who_0_D 11 rfl) rfl rfl
theorem eL_who_18N : WP (ML_who g) Q (18, [l0, l1, l2, l3, l4], .null :: st, w, k, n) = WP (ML_who g) Q (20, [l0, l1, l2, nl l3, some (.null)], st, w, k, n) := asN_e rfl (dt_q dL_who_0_D 11 rfl) rfl rfl
theorem eL_who_20 : WP (ML_who g) Q (20, [l0, l1, l2, l3, l4], st, w, k, n) = WP (ML_who g) Q (21, [l0, l1, l2, l3, l4], .int 2 :: st, w, k, n) := ic_2 rfl (dt_q dL_who_0_D 12 rfl)
theorem eL_who_21 : WP (ML_who g) Q (21, [l0, l1, l2, l3, l4], [.int a], w, k, n) = (k ≤ 2 ∧ n ≤ 12 ∧ Q (.inl (some (.int a))) w) := iretI_e rfl (dt_q dL_who_0_D 13 rfl) rfl
theorem eL_who_22 : WP (ML_who g) Q (22, [l0, l1, l2, l3, l4], st, w, k, n) = WP (ML_who g) Q (23, [l0, l1, l2, l3, l4], .int 0 :: st, w, k, n) := ic_0 rfl (dt_q dL_who_0_D 14 rfl)
theorem eL_who_23 : WP (ML_who g) Q (23, [l0, l1, l2, l3, l4], [.int a], w, k, n) = (k ≤ 2 ∧ n ≤ 12 ∧ Q (.inl (some (.int a))) w) := iretI_e rfl (dt_q dL_who_0_D 15 rfl) rfl
end
theorem wk_1027 : (.code yX1_who cX1_who 3 (some .int) : Jvm.Cond) ∈ WS := WS_t5 9 rfl rfl
theorem wk_1024 : (.methodLink RL 131 yX1_who : Jvm.Cond) ∈ WS := WS_t5 6 rfl rfl
theorem wk_1025 : (.instanceMethod yX1_who : Jvm.Cond) ∈ WS := WS_t5 7 rfl rfl
theorem wk_1026 : (.selects RX1 yX1_who yX1_who : Jvm.Cond) ∈ WS := WS_t5 8 rfl rfl
theorem kc_171 {l : Launch} (hl : l.stackTraces = false) {G : GT} {own : String} {i : Nat} (hw : Jvm.Cond.methodLink own i yX1_who ∈ WS) : vCal l G own i (2, 3, 5, 7, (fun _ _ => 2), (fun _ _ => 12), yX1_who, spOf (MX1_who (gg G))) := ⟨cX1_who, 3, some .int, fun y hy => by subst hy; exact ⟨by decide, ⟨_, wk_1027, okX1_who hl, Or.inl ⟨Nat.ne_of_beq_eq_false rfl, rfl⟩⟩, wk_59, nc14, ⟨(by decide +kernel : (parseMethodDescriptor yX1_who.desc).map (fun d => d.parameters.length + 1) = some 3), hw, wk_1025, wk_1026, (RX1, TX1, 7), rfl, rfl⟩⟩⟩
theorem vML_who {l : Launch} (hl : l.stackTraces = false) (G : GT) : vM l G (ML_who (gg G)) := vM_k RL cL_who rfl rfl (all_c (vF_RL_13) (all_n)) all_n all_n all_n all_n (fun h => absurd rfl h) (all_c (kc_171 hl wk_1024) (all_n)) all_n all_n (fun h => absurd rfl h) rfl (all_c (⟨"java/lang/IndexOutOfBoundsException", by decide, rfl, by decide, wk_348⟩) (all_c (⟨"java/lang/IllegalArgumentException", by decide, rfl, by decide, wk_435⟩) (all_n)))
theorem okL_who {l : Launch} (hl : l.stackTraces = false) {G : GT} : ∀ (args : List Value) (w : Hw) (S : Ot → Hw → Prop), spOf (ML_who (gg G)) args w S → CX l G yL_who (.codeWith yL_who cL_who 5 (some .int) [(0, 11, 14, 19), (0, 11, 18, 28)]) 8 2 12 args w S := CX_spH (M := ML_who (gg G)) (y := yL_who) hl (by decide) rfl (vML_who hl G) (fun h => by cases h)
abbrev dL_which_0_T : List (Nat × Instr × Nat) := [(0, .aload_n 2, 1), (1, .aload_n 0, 1), (2, .iload_n 1, 1), (3, .invokevirtual 134, 3), (6, .i2l, 1), (7, .putfield 13, 3), (10, .goto 6, 3), (13, .astore_n 3, 1), (14, .iconst 1, 1), (15, .ireturn, 1), (16, .iconst 0, 1), (17, .ireturn, 1)]
theorem dL_which_0_D : dtc cL_which dL_which_0_T = true := by decide +kernel
def ML_which (g : RO) : MT := ((RL, cL_which, 4, 8, 1, 6, false, some .int), [(13, 6, 0)], [], [], [], [], 0, [(134, 2, 2, 5, 7, (fun _ _ => 1), (fun _ _ => 6), yX1_which, spOf (MX1_which g))], [], [], 0, [(0, 10, 13, 28)], [(28, "java/lang/IllegalArgumentException")], g)
section
variable {g : RO} {Q : Ot → Hw → Prop} {st : List Value} {w : Hw} {k n p q : Nat} {a b : Int32} {x y : Int64} {u v : Value} {l0 l1 l2 l3 : Option Value}
theorem eL_which_0 : WP (ML_which g) Q (0, [l0, l1, some (.ref p), l3], st, w, k, n) = WP (ML_which g) Q (1, [l0, l1, some (.ref p), l3], .ref p :: st, w, k, n) := alnR_e rfl (dt_q dL_which_0_D 0 rfl) rfl
theorem eL_which_0N : WP (ML_which g) Q (0, [l0, l1, some .null, l3], st, w, k, n) = WP (ML_which g) Q (1, [l0, l1, some .null, l3], .null :: st, w, k, n) := alnN_e rfl (dt_q dL_which_0_D 0 rfl) rfl
theorem eL_which_1 : WP (ML_which g) Q (1, [some (.ref p), l1, l2, l3], st, w, k, n) = WP (ML_which g) Q (2, [some (.ref p), l1, l2, l3], .ref p :: st, w, k, n) := alnR_e rfl (dt_q dL_which_0_D 1 rfl) rfl
theorem eL_which_1N : WP (ML_which g) Q (1, [some .null, l1, l2, l3], st, w, k, n) = WP (ML_which g) Q (2, [some .null, l1, l2, l3], .null :: st, w, k, n) := alnN_e rfl (dt_q dL_which_0_D 1 rfl) rfl
theorem eL_which_2 : WP (ML_which g) Q (2, [l0, some (.int a), l2, l3], st, w, k, n) = WP (ML_which g) Q (3, [l0, some (.int a), l2, l3], .int a :: st, w, k, n) := iln_e rfl (dt_q dL_which_0_D 2 rfl) rfl
theorem eL_which_3 {z0 : Int32} : WP (ML_which g) Q (3, [l0, l1, l2, l3], .int z0 :: .ref p :: st, w, k, n) = (go (rd g w p) 5 (fun _ => True) ∧ wt st ≤ 8 ∧ k + 1 ≤ 1 ∧ n + 6 ≤ 6 ∧ WP (MX1_which g) (kx (fun v w' => WP (ML_which g) Q (6, [l0, l1, l2, l3], v.toList ++ st, w', k + 1, n + 6)) (fun E w' => hgo (ML_which g) Q (WP (ML_which g) Q) 3 [l0, l1, l2, l3] E w' (k + 1) (n + 6))) (0, [some (.ref p), some (.int z0)], [], w, 0, 0)) := csVH (M := (ML_which g)) (mc := (fun _ _ => 1)) (ms := (fun _ _ => 6)) (As := [.int z0]) (rest := st) (MX1_which g) rfl (dt_q dL_which_0_D 3 rfl) (by exact fun h => nomatch (show (none : Option Nat) = some 11 from h)) (by exact fun h => nomatch (show (none : Option Nat) = some 15 from h)) rfl rfl (by decide) (Nat.le_of_ble_eq_true rfl) (Nat.le_of_ble_eq_true rfl) rfl
theorem eL_which_6 : WP (ML_which g) Q (6, [l0, l1, l2, l3], .int a :: st, w, k, n) = WP (ML_which g) Q (7, [l0, l1, l2, l3], .long a.toInt64 :: st, w, k, n) := i2l_e rfl (dt_q dL_which_0_D 4 rfl)
theorem eL_which_7 : WP (ML_which g) Q (7, [l0, l1, l2, l3], v :: .ref p :: st, w, k, n) = go (w p) 6 fun fs => 0 < fs.length ∧ (narrow (.long) v = v ∧ fits (.long) v = true) ∧ WP (ML_which g) Q (10, [l0, l1, l2, l3], st, upw w p (.inr (6, fs.set 0 v)), k, n) := put_e (q := (RX2, TX2, 2)) rfl (dt_q dL_which_0_D 5 rfl) rfl rfl (tyX2_ok 0 (by decide)) (Or.inl rfl)
theorem eL_which_10 : WP (ML_which g) Q (10, [l0, l1, l2, l3], st, w, k, n) = WP (ML_which g) Q (16, [l0, l1, l2, l3], st, w, k, n) := goto_e rfl (dt_q dL_which_0_D 6 rfl) (by decide)
theorem eL_which_13 : WP (ML_which g) Q (13, [l0, l1, l2, l3], .ref p :: st, w, k, n) = WP (ML_which g) Q (14, [l0, l1, nl l2, some (.ref p)], st, w, k, n) := asnR_e rfl (dt_q dL_which_0_D 7 rfl) rfl rfl
theorem eL_which_13N : WP (ML_which g) Q (13, [l0, l1, l2, l3], .null :: st, w, k, n) = WP (ML_which g) Q (14, [l0, l1, nl l2, some (.null)], st, w, k, n) := asnN_e rfl (dt_q dL_which_0_D 7 rfl) rfl rfl
theorem eL_which_14 : WP (ML_which g) Q (14, [l0, l1, l2, l3], st, w, k, n) = WP (ML_which g) Q (15, [l0, l1, l2, l3], .int 1 :: st, w, k, n) := ic_1 rfl (dt_q dL_which_0_D 8 rfl)
theorem eL_which_15 : WP (ML_which g) Q (15, [l0, l1, l2, l3], [.int a], w, k, n) = (k ≤ 1 ∧ n ≤ 6 ∧ Q (.inl (some (.int a))) w) := iretI_e rfl (dt_q dL_which_0_D 9 rfl) rfl
theorem eL_which_16 : WP (ML_which g) Q (16, [l0, l1, l2, l3], st, w, k, n) = WP (ML_which g) Q (17, [l0, l1, l2, l3], .int 0 :: st, w, k, n) := ic_0 rfl (dt_q dL_which_0_D 10 rfl)
theorem eL_which_17 : WP (ML_which g) Q (17, [l0, l1, l2, l3], [.int a], w, k, n) = (k ≤ 1 ∧ n ≤ 6 ∧ Q (.inl (some (.int a))) w) := iretI_e rfl (dt_q dL_which_0_D 11 rfl) rfl
end
theorem wk_1034 : (.code yX1_which cX1_which 2 (some .int) : Jvm.Cond) ∈ WS := WS_t5 16 rfl rfl
theorem wk_1031 : (.methodLink RL 134 yX1_which : Jvm.Cond) ∈ WS := WS_t5 13 rfl rfl
theorem wk_1032 : (.instanceMethod yX1_which : Jvm.Cond) ∈ WS := WS_t5 14 rfl rfl
theorem wk_1033 : (.selects RX1 yX1_which yX1_which : Jvm.Cond) ∈ WS := WS_t5 15 rfl rfl
theorem kc_172 {l : Launch} (hl : l.stackTraces = false) {G : GT} {own : String} {i : Nat} (hw : Jvm.Cond.methodLink own i yX1_which ∈ WS) : vCal l G own i (2, 2, 5, 7, (fun _ _ => 1), (fun _ _ => 6), yX1_which, spOf (MX1_which (gg G))) := ⟨cX1_which, 2, some .int, fun y hy => by subst hy; exact ⟨by decide, ⟨_, wk_1034, okX1_which hl, Or.inl ⟨Nat.ne_of_beq_eq_false rfl, rfl⟩⟩, wk_59, nc14, ⟨(by decide +kernel : (parseMethodDescriptor yX1_which.desc).map (fun d => d.parameters.length + 1) = some 2), hw, wk_1032, wk_1033, (RX1, TX1, 7), rfl, rfl⟩⟩⟩
theorem vML_which {l : Launch} (hl : l.stackTraces = false) (G : GT) : vM l G (ML_which (gg G)) := vM_k RL cL_which rfl rfl (all_c (vF_RL_13) (all_n)) all_n all_n all_n all_n (fun h => absurd rfl h) (all_c (kc_172 hl wk_1031) (all_n)) all_n all_n (fun h => absurd rfl h) rfl (all_c (⟨"java/lang/IllegalArgumentException", by decide, rfl, by decide, wk_435⟩) (all_n))
theorem okL_which {l : Launch} (hl : l.stackTraces = false) {G : GT} : ∀ (args : List Value) (w : Hw) (S : Ot → Hw → Prop), spOf (ML_which (gg G)) args w S → CX l G yL_which (.codeWith yL_which cL_which 4 (some .int) [(0, 10, 13, 28)]) 8 1 6 args w S := CX_spH (M := ML_which (gg G)) (y := yL_which) hl (by decide) rfl (vML_which hl G) (fun h => by cases h)
abbrev dL_areSame_0_T : List (Nat × Instr × Nat) := [(0, .aload_n 3, 1), (1, .aload_n 0, 1), (2, .iload_n 1, 1), (3, .iload_n 2, 1), (4, .invokevirtual 137, 3), (7, .ifCond .eq 7, 3), (10, .lconst 1, 1), (11, .goto 4, 3), (14, .lconst 0, 1), (15, .putfield 13, 3), (18, .goto 11, 3), (21, .astore 4, 2), (23, .iconst 1, 1), (24, .ireturn, 1), (25, .astore 4, 2), (27, .iconst 2, 1), (28, .ireturn, 1), (29, .iconst 0, 1), (30, .ireturn, 1)]
theorem dL_areSame_0_D : dtc cL_areSame dL_areSame_0_T = true := by decide +kernel
def ML_areSame (g : RO) : MT := ((RL, cL_areSame, 5, 9, 6, 36, false, some .int), [(13, 6, 0)], [], [], [], [], 0, [(137, 2, 3, 5, 8, (fun _ _ => 6), (fun _ _ => 36), yX1_areSame, spOf (MX1_areSame g))], [], [], 0, [(0, 18, 21, 19), (0, 18, 25, 74)], [(19, "java/lang/IndexOutOfBoundsException"), (74, "java/lang/IllegalStateException")], g)
section
variable {g : RO} {Q : Ot → Hw → Prop} {st : List Value} {w : Hw} {k n p q : Nat} {a b : Int32} {x y : Int64} {u v : Value} {l0 l1 l2 l3 l4 : Option Value}
theorem eL_areSame_0 : WP (ML_areSame g) Q (0, [l0, l1, l2, some (.ref p), l4], st, w, k, n) = WP (ML_areSame g) Q (1, [l0, l1, l2, some (.ref p), l4], .ref p :: st, w, k, n) := alnR_e rfl (dt_q dL_areSame_0_D 0 rfl) rfl
theorem eL_areSame_0N : WP (ML_areSame g) Q (0, [l0, l1, l2, some .null, l4], st, w, k, n) = WP (ML_areSame g) Q (1, [l0, l1, l2, some .null, l4], .null :: st, w, k, n) := alnN_e rfl (dt_q dL_areSame_0_D 0 rfl) rfl
theorem eL_areSame_1 : WP (ML_areSame g) Q (1, [some (.ref p), l1, l2, l3, l4], st, w, k, n) = WP (ML_areSame g) Q (2, [some (.ref p), l1, l2, l3, l4], .ref p :: st, w, k, n) := alnR_e rfl (dt_q dL_areSame_0_D 1 rfl) rfl
theorem eL_areSame_1N : WP (ML_areSame g) Q (1, [some .null, l1, l2, l3, l4], st, w, k, n) = WP (ML_areSame g) Q (2, [some .null, l1, l2, l3, l4], .null :: st, w, k, n) := alnN_e rfl (dt_q dL_areSame_0_D 1 rfl) rfl
theorem eL_areSame_2 : WP (ML_areSame g) Q (2, [l0, some (.int a), l2, l3, l4], st, w, k, n) = WP (ML_areSame g) Q (3, [l0, some (.int a), l2, l3, l4], .int a :: st, w, k, n) := iln_e rfl (dt_q dL_areSame_0_D 2 rfl) rfl
theorem eL_areSame_3 : WP (ML_areSame g) Q (3, [l0, l1, some (.int a), l3, l4], st, w, k, n) = WP (ML_areSame g) Q (4, [l0, l1, some (.int a), l3, l4], .int a :: st, w, k, n) := iln_e rfl (dt_q dL_areSame_0_D 3 rfl) rfl
theorem eL_areSame_4 {z0 : Int32} {z1 : Int32} : WP (ML_areSame g) Q (4, [l0, l1, l2, l3, l4], .int z1 :: .int z0 :: .ref p :: st, w, k, n) = (go (rd g w p) 5 (fun _ => True) ∧ wt st ≤ 8 ∧ k + 6 ≤ 6 ∧ n + 36 ≤ 36 ∧ WP (MX1_areSame g) (kx (fun v w' => WP (ML_areSame g) Q (7, [l0, l1, l2, l3, l4], v.toList ++ st, w', k + 6, n + 36)) (fun E w' => hgo (ML_areSame g) Q (WP (ML_areSame g) Q) 4 [l0, l1, l2, l3, l4] E w' (k + 6) (n + 36))) (0, [some (.ref p), some (.int z0), some (.int z1)], [], w, 0, 0)) := csVH (M := (ML_areSame g)) (mc := (fun _ _ => 6)) (ms := (fun _ _ => 36)) (As := [.int z0, .int z1]) (rest := st) (MX1_areSame g) rfl (dt_q dL_areSame_0_D 4 rfl) (by exact fun h => nomatch (show (none : Option Nat) = some 11 from h)) (by exact fun h => nomatch (show (none : Option Nat) = some 15 from h)) rfl rfl (by decide) (Nat.le_of_ble_eq_true rfl) (Nat.le_of_ble_eq_true rfl) rfl
theorem eL_areSame_7 : WP (ML_areSame g) Q (7, [l0, l1, l2, l3, l4], .int a :: st, w, k, n) = if a = 0 then WP (ML_areSame g) Q (14, [l0, l1, l2, l3, l4], st, w, k, n) else WP (ML_areSame g) Q (10, [l0, l1, l2, l3, l4], st, w, k, n) := ifc_e (a = 0) rfl (dt_q dL_areSame_0_D 5 rfl) rfl (by decide)
theorem eL_areSame_10 : WP (ML_areSame g) Q (10, [l0, l1, l2, l3, l4], st, w, k, n) = WP (ML_areSame g) Q (11, [l0, l1, l2, l3, l4], .long 1 :: st, w, k, n) := lconst_e rfl (dt_q dL_areSame_0_D 6 rfl) (by decide)
theorem eL_areSame_11 : WP (ML_areSame g) Q (11, [l0, l1, l2, l3, l4], st, w, k, n) = WP (ML_areSame g) Q (15, [l0, l1, l2, l3, l4], st, w, k, n) := goto_e rfl (dt_q dL_areSame_0_D 7 rfl) (by decide)
theorem eL_areSame_14 : WP (ML_areSame g) Q (14, [l0, l1, l2, l3, l4], st, w, k, n) = WP (ML_areSame g) Q (15, [l0, l1, l2, l3, l4], .long 0 :: st, w, k, n) := lconst_e rfl (dt_q dL_areSame_0_D 8 rfl) (by decide)
theorem eL_areSame_15 : WP (ML_areSame g) Q (15, [l0, l1, l2, l3, l4], v :: .ref p :: st, w, k, n) = go (w p) 6 fun fs => 0 < fs.length ∧ (narrow (.long) v = v ∧ fits (.long) v = true) ∧ WP (ML_areSame g) Q (18, [l0, l1, l2, l3, l4], st, upw w p (.inr (6, fs.set 0 v)), k, n) := put_e (q := (RX2, TX2, 2)) rfl (dt_q dL_areSame_0_D 9 rfl) rfl rfl (tyX2_ok 0 (by decide)) (Or.inl rfl)
theorem eL_areSame_18 : WP (ML_areSame g) Q (18, [l0, l1, l2, l3, l4], st, w, k, n) = WP (ML_areSame g) Q (29, [l0, l1, l2, l3, l4], st, w, k, n) := goto_e rfl (dt_q dL_areSame_0_D 10 rfl) (by decide)
theorem eL_areSame_21 : WP (ML_areSame g) Q (21, [l0, l1, l2, l3, l4], .ref p :: st, w, k, n) = WP (ML_areSame g) Q (23, [l0, l1, l2, nl l3, some (.ref p)], st, w, k, n) := asR_e rfl (dt_q dL_areSame_0_D 11 rfl) rfl rfl
theorem eL_areSame_21N : WP (ML_areSame g) Q (21, [l0, l1, l2, l3, l4], .null :: st, w, k, n) = WP (ML_areSame g) Q (23, [l0, l1, l2, nl l3, some (.null)], st, w, k, n) := asN_e rfl (dt_q dL_areSame_0_D 11 rfl) rfl rfl
theorem eL_areSame_23 : WP (ML_areSame g) Q (23, [l0, l1, l2, l3, l4], st, w, k, n) = WP (ML_areSame g) Q (24, [l0, l1, l2, l3, l4], .int 1 :: st, w, k, n) := ic_1 rfl (dt_q dL_areSame_0_D 12 rfl)
theorem eL_areSame_24 : WP (ML_areSame g) Q (24, [l0, l1, l2, l3, l4], [.int a], w, k, n) = (k ≤ 6 ∧ n ≤ 36 ∧ Q (.inl (some (.int a))) w) := iretI_e rfl (dt_q dL_areSame_0_D 13 rfl) rfl
theorem eL_areSame_25 : WP (ML_areSame g) Q (25, [l0, l1, l2, l3, l4], .ref p :: st, w, k, n) = WP (ML_areSame g) Q (27, [l0, l1, l2, nl l3, some (.ref p)], st, w, k, n) := asR_e rfl (dt_q dL_areSame_0_D 14 rfl) rfl rfl
theorem eL_areSame_25N : WP (ML_areSame g) Q (25, [l0, l1, l2, l3, l4], .null :: st, w, k, n) = WP (ML_areSame g) Q (27, [l0, l1, l2, nl l3, some (.null)], st, w, k, n) := asN_e rfl (dt_q dL_areSame_0_D 14 rfl) rfl rfl
theorem eL_areSame_27 : WP (ML_areSame g) Q (27, [l0, l1, l2, l3, l4], st, w, k, n) = WP (ML_areSame g) Q (28, [l0, l1, l2, l3, l4], .int 2 :: st, w, k, n) := ic_2 rfl (dt_q dL_areSame_0_D 15 rfl)
theorem eL_areSame_28 : WP (ML_areSame g) Q (28, [l0, l1, l2, l3, l4], [.int a], w, k, n) = (k ≤ 6 ∧ n ≤ 36 ∧ Q (.inl (some (.int a))) w) := iretI_e rfl (dt_q dL_areSame_0_D 16 rfl) rfl
theorem eL_areSame_29 : WP (ML_areSame g) Q (29, [l0, l1, l2, l3, l4], st, w, k, n) = WP (ML_areSame g) Q (30, [l0, l1, l2, l3, l4], .int 0 :: st, w, k, n) := ic_0 rfl (dt_q dL_areSame_0_D 17 rfl)
theorem eL_areSame_30 : WP (ML_areSame g) Q (30, [l0, l1, l2, l3, l4], [.int a], w, k, n) = (k ≤ 6 ∧ n ≤ 36 ∧ Q (.inl (some (.int a))) w) := iretI_e rfl (dt_q dL_areSame_0_D 18 rfl) rfl
end
theorem wk_1041 : (.code yX1_areSame cX1_areSame 3 (some .boolean) : Jvm.Cond) ∈ WS := WS_t5 23 rfl rfl
theorem wk_1038 : (.methodLink RL 137 yX1_areSame : Jvm.Cond) ∈ WS := WS_t5 20 rfl rfl
theorem wk_1039 : (.instanceMethod yX1_areSame : Jvm.Cond) ∈ WS := WS_t5 21 rfl rfl
theorem wk_1040 : (.selects RX1 yX1_areSame yX1_areSame : Jvm.Cond) ∈ WS := WS_t5 22 rfl rfl
theorem kc_173 {l : Launch} (hl : l.stackTraces = false) {G : GT} {own : String} {i : Nat} (hw : Jvm.Cond.methodLink own i yX1_areSame ∈ WS) : vCal l G own i (2, 3, 5, 8, (fun _ _ => 6), (fun _ _ => 36), yX1_areSame, spOf (MX1_areSame (gg G))) := ⟨cX1_areSame, 3, some .boolean, fun y hy => by subst hy; exact ⟨by decide, ⟨_, wk_1041, okX1_areSame hl, Or.inl ⟨Nat.ne_of_beq_eq_false rfl, rfl⟩⟩, wk_59, nc14, ⟨(by decide +kernel : (parseMethodDescriptor yX1_areSame.desc).map (fun d => d.parameters.length + 1) = some 3), hw, wk_1039, wk_1040, (RX1, TX1, 7), rfl, rfl⟩⟩⟩
theorem vML_areSame {l : Launch} (hl : l.stackTraces = false) (G : GT) : vM l G (ML_areSame (gg G)) := vM_k RL cL_areSame rfl rfl (all_c (vF_RL_13) (all_n)) all_n all_n all_n all_n (fun h => absurd rfl h) (all_c (kc_173 hl wk_1038) (all_n)) all_n all_n (fun h => absurd rfl h) rfl (all_c (⟨"java/lang/IndexOutOfBoundsException", by decide, rfl, by decide, wk_348⟩) (all_c (⟨"java/lang/IllegalStateException", by decide, rfl, by decide, wk_869⟩) (all_n)))
theorem okL_areSame {l : Launch} (hl : l.stackTraces = false) {G : GT} : ∀ (args : List Value) (w : Hw) (S : Ot → Hw → Prop), spOf (ML_areSame (gg G)) args w S → CX l G yL_areSame (.codeWith yL_areSame cL_areSame 5 (some .int) [(0, 18, 21, 19), (0, 18, 25, 74)]) 9 6 36 args w S := CX_spH (M := ML_areSame (gg G)) (y := yL_areSame) hl (by decide) rfl (vML_areSame hl G) (fun h => by cases h)
end
