section
variable {g : RO} {Q : Ot → Hw → Prop} {w0 w : Hw} {x nA cA lA : Nat} {kn : Int32}
set_option maxHeartbeats 4000000 in
theorem sX1_isThere {a0 : Int32} (hC : CC g w0 x nA cA lA kn w) (hXo : Q (.inr "java/lang/IndexOutOfBoundsException") w) (hQ : ∀ v : Bool, Q (.inl (some (.int (bI v)))) w) : WP (MX1_isThere g) Q (0, [some (.ref x), some (.int a0)], [], w, 0, 0) := by
  obtain ⟨n, rf, md, f, gc, gl, hx, hn, hc, hl, hgc, hgl, hn0, hn1, rx, rn, rc, rl, ⟨d1, d2, d3, d4, d5, d6⟩, ⟨d7, d8, d9, d10, d11, d12⟩⟩ := hC.1.opn g
  have hQt : Q (.inl (some (.int 1))) w := hQ true
  have hQf : Q (.inl (some (.int 0))) w := hQ false
  repeat' first
    | with_reducible assumption
    | with_reducible refine And.intro ?_ ?_
    | with_reducible exact vpi6 (by assumption) (by assumption)
    | with_reducible exact vpi8 (by assumption) (by assumption)
    | with_reducible refine sX1_needCard ?_ ?_
    | with_reducible refine go_R (by first | assumption | exact hgc _ _ (by assumption) | exact hgl _ _ (by assumption) | exact isR.ext (by assumption) (by assumption) | exact isR.mono (by assumption) (by first | assumption | exact isR.ext (by assumption) (by assumption)) | exact isR_up2 (by first | assumption | exact hgc _ _ (by assumption)) hc (by simp)) ?_
    | with_reducible exact hQ _
    | with_reducible exact hQt
    | with_reducible exact hQf
    | simp only [eX1_isThere_0, eX1_isThere_1, eX1_isThere_4, eX1_isThere_4N, eX1_isThere_5, eX1_isThere_8, eX1_isThere_9, eX1_isThere_10R, eX1_isThere_10N, eX1_isThere_13, eX1_isThere_14, eX1_isThere_17, eX1_isThere_18, rx, rn, rc, rl, hx, hn, hc, hl, d1, d2, d3, d4, d5, d6, d7, d8, d9, d10, d11, d12, rd_n, upw_n, ite_le, n45, n54, true_or, or_true, false_or, or_false, false_and, and_false, kx_l, kx_r, go_s, gl_s, gi_s, gb_s2, gb_s3, gq_s, wt_nil, wt_int, wt_long, wt_ref, wt_null, nl_int, nl_long, nl_ref, nl_null, nl_none, rf_n, rf_s, rf_st, tl_s, tl_n, g0, gS, ex1, nb_b, nb_0, nb_1, nf_i, nf_l, nf_ra, nf_ro, nf_na, nf_no, nf_b0, nf_z0, t45_4, t45_5, true_and, and_true, List.set_cons_zero, List.set_cons_succ, List.length_cons, List.length_nil, rd_s, upw_s, ne_eq, not_false_eq_true, Nat.zero_add, Nat.add_zero]
    | split
    | with_reducible intro _
    | omega
set_option maxHeartbeats 4000000 in
theorem sX1_isFixed {a0 : Int32} (hC : CC g w0 x nA cA lA kn w) (hXo : Q (.inr "java/lang/IndexOutOfBoundsException") w) (hXs : Q (.inr "java/lang/IllegalStateException") w) (hQ : ∀ v : Bool, Q (.inl (some (.int (bI v)))) w) : WP (MX1_isFixed g) Q (0, [some (.ref x), some (.int a0)], [], w, 0, 0) := by
  obtain ⟨n, rf, md, f, gc, gl, hx, hn, hc, hl, hgc, hgl, hn0, hn1, rx, rn, rc, rl, ⟨d1, d2, d3, d4, d5, d6⟩, ⟨d7, d8, d9, d10, d11, d12⟩⟩ := hC.1.opn g
  have hQt : Q (.inl (some (.int 1))) w := hQ true
  have hQf : Q (.inl (some (.int 0))) w := hQ false
  repeat' first
    | with_reducible assumption
    | with_reducible refine And.intro ?_ ?_
    | with_reducible exact vpi6 (by assumption) (by assumption)
    | with_reducible exact vpi8 (by assumption) (by assumption)
    | with_reducible refine sX1_rangeOf2 (by first | assumption | exact CC.ext (by assumption) (by assumption)) ?_ ?_ ?_
    | with_reducible refine sX0_isSettled (by first | assumption | exact hgc _ _ (by assumption) | exact hgl _ _ (by assumption) | exact isR.ext (by assumption) (by assumption) | exact isR.mono (by assumption) (by first | assumption | exact isR.ext (by assumption) (by assumption)) | exact isR_up2 (by first | assumption | exact hgc _ _ (by assumption)) hc (by simp)) ?_
    | with_reducible refine go_R (by first | assumption | exact hgc _ _ (by assumption) | exact hgl _ _ (by assumption) | exact isR.ext (by assumption) (by assumption) | exact isR.mono (by assumption) (by first | assumption | exact isR.ext (by assumption) (by assumption)) | exact isR_up2 (by first | assumption | exact hgc _ _ (by assumption)) hc (by simp)) ?_
    | with_reducible exact hQ _
    | with_reducible exact hQt
    | with_reducible exact hQf
    | simp only [eX1_isFixed_0, eX1_isFixed_0N, eX1_isFixed_1, eX1_isFixed_2, eX1_isFixed_5, eX1_isFixed_8, rx, rn, rc, rl, hx, hn, hc, hl, d1, d2, d3, d4, d5, d6, d7, d8, d9, d10, d11, d12, rd_n, upw_n, ite_le, n45, n54, true_or, or_true, false_or, or_false, false_and, and_false, kx_l, kx_r, go_s, gl_s, gi_s, gb_s2, gb_s3, gq_s, wt_nil, wt_int, wt_long, wt_ref, wt_null, nl_int, nl_long, nl_ref, nl_null, nl_none, rf_n, rf_s, rf_st, tl_s, tl_n, g0, gS, ex1, nb_b, nb_0, nb_1, nf_i, nf_l, nf_ra, nf_ro, nf_na, nf_no, nf_b0, nf_z0, t45_4, t45_5, true_and, and_true, List.set_cons_zero, List.set_cons_succ, List.length_cons, List.length_nil, rd_s, upw_s, ne_eq, not_false_eq_true, Nat.zero_add, Nat.add_zero]
    | split
    | with_reducible intro _
    | omega
set_option maxHeartbeats 4000000 in
theorem sX1_isSmall {a0 : Int32} (hC : CC g w0 x nA cA lA kn w) (hXo : Q (.inr "java/lang/IndexOutOfBoundsException") w) (hXs : Q (.inr "java/lang/IllegalStateException") w) (hQ : ∀ v : Bool, Q (.inl (some (.int (bI v)))) w) : WP (MX1_isSmall g) Q (0, [some (.ref x), some (.int a0)], [], w, 0, 0) := by
  obtain ⟨n, rf, md, f, gc, gl, hx, hn, hc, hl, hgc, hgl, hn0, hn1, rx, rn, rc, rl, ⟨d1, d2, d3, d4, d5, d6⟩, ⟨d7, d8, d9, d10, d11, d12⟩⟩ := hC.1.opn g
  have hQt : Q (.inl (some (.int 1))) w := hQ true
  have hQf : Q (.inl (some (.int 0))) w := hQ false
  repeat' first
    | with_reducible assumption
    | with_reducible refine And.intro ?_ ?_
    | with_reducible exact vpi6 (by assumption) (by assumption)
    | with_reducible exact vpi8 (by assumption) (by assumption)
    | with_reducible refine sX1_rangeOf2 (by first | assumption | exact CC.ext (by assumption) (by assumption)) ?_ ?_ ?_
    | with_reducible refine sX0_fitsSmall (by first | assumption | exact hgc _ _ (by assumption) | exact hgl _ _ (by assumption) | exact isR.ext (by assumption) (by assumption) | exact isR.mono (by assumption) (by first | assumption | exact isR.ext (by assumption) (by assumption)) | exact isR_up2 (by first | assumption | exact hgc _ _ (by assumption)) hc (by simp)) ?_
    | with_reducible refine go_R (by first | assumption | exact hgc _ _ (by assumption) | exact hgl _ _ (by assumption) | exact isR.ext (by assumption) (by assumption) | exact isR.mono (by assumption) (by first | assumption | exact isR.ext (by assumption) (by assumption)) | exact isR_up2 (by first | assumption | exact hgc _ _ (by assumption)) hc (by simp)) ?_
    | with_reducible exact hQ _
    | with_reducible exact hQt
    | with_reducible exact hQf
    | simp only [eX1_isSmall_0, eX1_isSmall_0N, eX1_isSmall_1, eX1_isSmall_2, eX1_isSmall_5, eX1_isSmall_8, rx, rn, rc, rl, hx, hn, hc, hl, d1, d2, d3, d4, d5, d6, d7, d8, d9, d10, d11, d12, rd_n, upw_n, ite_le, n45, n54, true_or, or_true, false_or, or_false, false_and, and_false, kx_l, kx_r, go_s, gl_s, gi_s, gb_s2, gb_s3, gq_s, wt_nil, wt_int, wt_long, wt_ref, wt_null, nl_int, nl_long, nl_ref, nl_null, nl_none, rf_n, rf_s, rf_st, tl_s, tl_n, g0, gS, ex1, nb_b, nb_0, nb_1, nf_i, nf_l, nf_ra, nf_ro, nf_na, nf_no, nf_b0, nf_z0, t45_4, t45_5, true_and, and_true, List.set_cons_zero, List.set_cons_succ, List.length_cons, List.length_nil, rd_s, upw_s, ne_eq, not_false_eq_true, Nat.zero_add, Nat.add_zero]
    | split
    | with_reducible intro _
    | omega
set_option maxHeartbeats 4000000 in
theorem sX1_end {a0 : Int32} {a1 : Int32} {a2 : Int32} (hC : CC g w0 x nA cA lA kn w) (hXo : Q (.inr "java/lang/IndexOutOfBoundsException") w) (hXa : Q (.inr "java/lang/IllegalArgumentException") w) (hXs : Q (.inr "java/lang/IllegalStateException") w) (hQ : ∀ v : Int32, Q (.inl (some (.int v))) w) : WP (MX1_end g) Q (0, [some (.ref x), some (.int a0), some (.int a1), some (.int a2)], [], w, 0, 0) := by
  obtain ⟨n, rf, md, f, gc, gl, hx, hn, hc, hl, hgc, hgl, hn0, hn1, rx, rn, rc, rl, ⟨d1, d2, d3, d4, d5, d6⟩, ⟨d7, d8, d9, d10, d11, d12⟩⟩ := hC.1.opn g
  repeat' first
    | with_reducible assumption
    | with_reducible refine And.intro ?_ ?_
    | with_reducible exact vpi6 (by assumption) (by assumption)
    | with_reducible exact vpi8 (by assumption) (by assumption)
    | with_reducible refine sX1_needCard ?_ ?_
    | with_reducible refine sX1_needChoice ?_ ?_
    | with_reducible refine sX1_rangeOf2 (by first | assumption | exact CC.ext (by assumption) (by assumption)) ?_ ?_ ?_
    | with_reducible refine sX0_endAt (by first | assumption | exact hgc _ _ (by assumption) | exact hgl _ _ (by assumption) | exact isR.ext (by assumption) (by assumption) | exact isR.mono (by assumption) (by first | assumption | exact isR.ext (by assumption) (by assumption)) | exact isR_up2 (by first | assumption | exact hgc _ _ (by assumption)) hc (by simp)) ?_
    | with_reducible refine sX1_halfOf ?_
    | with_reducible refine go_R (by first | assumption | exact hgc _ _ (by assumption) | exact hgl _ _ (by assumption) | exact isR.ext (by assumption) (by assumption) | exact isR.mono (by assumption) (by first | assumption | exact isR.ext (by assumption) (by assumption)) | exact isR_up2 (by first | assumption | exact hgc _ _ (by assumption)) hc (by simp)) ?_
    | with_reducible exact hQ _
    | simp only [eX1_end_0, eX1_end_1, eX1_end_4, eX1_end_5, eX1_end_6, eX1_end_9, eX1_end_9N, eX1_end_10, eX1_end_11, eX1_end_14, eX1_end_15, eX1_end_18, eX1_end_19, eX1_end_22, rx, rn, rc, rl, hx, hn, hc, hl, d1, d2, d3, d4, d5, d6, d7, d8, d9, d10, d11, d12, rd_n, upw_n, ite_le, n45, n54, true_or, or_true, false_or, or_false, false_and, and_false, kx_l, kx_r, go_s, gl_s, gi_s, gb_s2, gb_s3, gq_s, wt_nil, wt_int, wt_long, wt_ref, wt_null, nl_int, nl_long, nl_ref, nl_null, nl_none, rf_n, rf_s, rf_st, tl_s, tl_n, g0, gS, ex1, nb_b, nb_0, nb_1, nf_i, nf_l, nf_ra, nf_ro, nf_na, nf_no, nf_b0, nf_z0, t45_4, t45_5, true_and, and_true, List.set_cons_zero, List.set_cons_succ, List.length_cons, List.length_nil, rd_s, upw_s, ne_eq, not_false_eq_true, Nat.zero_add, Nat.add_zero]
    | split
    | with_reducible intro _
    | omega
set_option maxHeartbeats 4000000 in
theorem sX1_take {a0 : Int32} {a1 : Int32} {a2 : Int32} (hC : CC g w0 x nA cA lA kn w) (hXo : Q (.inr "java/lang/IndexOutOfBoundsException") w) (hXa : Q (.inr "java/lang/IllegalArgumentException") w) (hXs : Q (.inr "java/lang/IllegalStateException") w) (hQ : ∀ (v : Int32) (w' : Hw), CC g w0 x nA cA lA kn w' → Q (.inl (some (.int v))) w') : WP (MX1_take g) Q (0, [some (.ref x), some (.int a0), some (.int a1), some (.int a2)], [], w, 0, 0) := by
  obtain ⟨n, rf, md, f, gc, gl, hx, hn, hc, hl, hgc, hgl, hn0, hn1, rx, rn, rc, rl, ⟨d1, d2, d3, d4, d5, d6⟩, ⟨d7, d8, d9, d10, d11, d12⟩⟩ := hC.1.opn g
  repeat' first
    | with_reducible assumption
    | with_reducible refine And.intro ?_ ?_
    | with_reducible exact vpi6 (by assumption) (by assumption)
    | with_reducible exact vpi8 (by assumption) (by assumption)
    | with_reducible refine sX1_needCard ?_ ?_
    | with_reducible refine sX1_needNumber ?_ ?_
    | with_reducible refine sX1_needChoice ?_ ?_
    | with_reducible refine sX1_rangeOf2 (by first | assumption | exact CC.ext (by assumption) (by assumption)) ?_ ?_ ?_
    | with_reducible refine sX0_endAt (by first | assumption | exact hgc _ _ (by assumption) | exact hgl _ _ (by assumption) | exact isR.ext (by assumption) (by assumption) | exact isR.mono (by assumption) (by first | assumption | exact isR.ext (by assumption) (by assumption)) | exact isR_up2 (by first | assumption | exact hgc _ _ (by assumption)) hc (by simp)) ?_
    | with_reducible refine sX1_putNumber (by first | assumption | exact CC.ext (by assumption) (by assumption)) ?_ (by assumption) (by assumption)
    | with_reducible refine go_R (by first | assumption | exact hgc _ _ (by assumption) | exact hgl _ _ (by assumption) | exact isR.ext (by assumption) (by assumption) | exact isR.mono (by assumption) (by first | assumption | exact isR.ext (by assumption) (by assumption)) | exact isR_up2 (by first | assumption | exact hgc _ _ (by assumption)) hc (by simp)) ?_
    | with_reducible exact hQ _ _ (by first | assumption | exact CC.ext (by assumption) (by assumption))
    | simp only [eX1_take_0, eX1_take_1, eX1_take_4, eX1_take_5, eX1_take_8, eX1_take_9, eX1_take_10, eX1_take_13, eX1_take_13N, eX1_take_14, eX1_take_15, eX1_take_15N, eX1_take_16, eX1_take_17, eX1_take_20, eX1_take_21, eX1_take_24, eX1_take_27, rx, rn, rc, rl, hx, hn, hc, hl, d1, d2, d3, d4, d5, d6, d7, d8, d9, d10, d11, d12, rd_n, upw_n, ite_le, n45, n54, true_or, or_true, false_or, or_false, false_and, and_false, kx_l, kx_r, go_s, gl_s, gi_s, gb_s2, gb_s3, gq_s, wt_nil, wt_int, wt_long, wt_ref, wt_null, nl_int, nl_long, nl_ref, nl_null, nl_none, rf_n, rf_s, rf_st, tl_s, tl_n, g0, gS, ex1, nb_b, nb_0, nb_1, nf_i, nf_l, nf_ra, nf_ro, nf_na, nf_no, nf_b0, nf_z0, t45_4, t45_5, true_and, and_true, List.set_cons_zero, List.set_cons_succ, List.length_cons, List.length_nil, rd_s, upw_s, ne_eq, not_false_eq_true, Nat.zero_add, Nat.add_zero]
    | split
    | with_reducible intro _
    | omega
set_option maxHeartbeats 4000000 in
theorem sX1_isValid {a0 : Int32} {a1 : Int32} (hC : CC g w0 x nA cA lA kn w) (hXo : Q (.inr "java/lang/IndexOutOfBoundsException") w) (hXs : Q (.inr "java/lang/IllegalStateException") w) (hQ : ∀ v : Bool, Q (.inl (some (.int (bI v)))) w) : WP (MX1_isValid g) Q (0, [some (.ref x), some (.int a0), some (.int a1)], [], w, 0, 0) := by
  obtain ⟨n, rf, md, f, gc, gl, hx, hn, hc, hl, hgc, hgl, hn0, hn1, rx, rn, rc, rl, ⟨d1, d2, d3, d4, d5, d6⟩, ⟨d7, d8, d9, d10, d11, d12⟩⟩ := hC.1.opn g
  have hQt : Q (.inl (some (.int 1))) w := hQ true
  have hQf : Q (.inl (some (.int 0))) w := hQ false
  repeat' first
    | with_reducible assumption
    | with_reducible refine And.intro ?_ ?_
    | with_reducible exact vpi6 (by assumption) (by assumption)
    | with_reducible exact vpi8 (by assumption) (by assumption)
    | with_reducible refine sX1_needCard ?_ ?_
    | with_reducible refine sX1_needNumber ?_ ?_
    | with_reducible refine sX1_rangeOf2 (by first | assumption | exact CC.ext (by assumption) (by assumption)) ?_ ?_ ?_
    | with_reducible refine sX0_holds (by first | assumption | exact hgc _ _ (by assumption) | exact hgl _ _ (by assumption) | exact isR.ext (by assumption) (by assumption) | exact isR.mono (by assumption) (by first | assumption | exact isR.ext (by assumption) (by assumption)) | exact isR_up2 (by first | assumption | exact hgc _ _ (by assumption)) hc (by simp)) ?_
    | with_reducible refine go_R (by first | assumption | exact hgc _ _ (by assumption) | exact hgl _ _ (by assumption) | exact isR.ext (by assumption) (by assumption) | exact isR.mono (by assumption) (by first | assumption | exact isR.ext (by assumption) (by assumption)) | exact isR_up2 (by first | assumption | exact hgc _ _ (by assumption)) hc (by simp)) ?_
    | with_reducible exact hQ _
    | with_reducible exact hQt
    | with_reducible exact hQf
    | simp only [eX1_isValid_0, eX1_isValid_1, eX1_isValid_4, eX1_isValid_5, eX1_isValid_8, eX1_isValid_8N, eX1_isValid_9, eX1_isValid_10, eX1_isValid_13, eX1_isValid_13N, eX1_isValid_14, eX1_isValid_17, eX1_isValid_18, eX1_isValid_19, eX1_isValid_22, rx, rn, rc, rl, hx, hn, hc, hl, d1, d2, d3, d4, d5, d6, d7, d8, d9, d10, d11, d12, rd_n, upw_n, ite_le, n45, n54, true_or, or_true, false_or, or_false, false_and, and_false, kx_l, kx_r, go_s, gl_s, gi_s, gb_s2, gb_s3, gq_s, wt_nil, wt_int, wt_long, wt_ref, wt_null, nl_int, nl_long, nl_ref, nl_null, nl_none, rf_n, rf_s, rf_st, tl_s, tl_n, g0, gS, ex1, nb_b, nb_0, nb_1, nf_i, nf_l, nf_ra, nf_ro, nf_na, nf_no, nf_b0, nf_z0, t45_4, t45_5, true_and, and_true, List.set_cons_zero, List.set_cons_succ, List.length_cons, List.length_nil, rd_s, upw_s, ne_eq, not_false_eq_true, Nat.zero_add, Nat.add_zero]
    | split
    | with_reducible intro _
    | omega
set_option maxHeartbeats 4000000 in
theorem sX1_isValidSmall {a0 : Int32} {a1 : Int32} (hC : CC g w0 x nA cA lA kn w) (hXo : Q (.inr "java/lang/IndexOutOfBoundsException") w) (hXs : Q (.inr "java/lang/IllegalStateException") w) (hQ : ∀ v : Bool, Q (.inl (some (.int (bI v)))) w) : WP (MX1_isValidSmall g) Q (0, [some (.ref x), some (.int a0), some (.int a1)], [], w, 0, 0) := by
  obtain ⟨n, rf, md, f, gc, gl, hx, hn, hc, hl, hgc, hgl, hn0, hn1, rx, rn, rc, rl, ⟨d1, d2, d3, d4, d5, d6⟩, ⟨d7, d8, d9, d10, d11, d12⟩⟩ := hC.1.opn g
  have hQt : Q (.inl (some (.int 1))) w := hQ true
  have hQf : Q (.inl (some (.int 0))) w := hQ false
  repeat' first
    | with_reducible assumption
    | with_reducible refine And.intro ?_ ?_
    | with_reducible exact vpi6 (by assumption) (by assumption)
    | with_reducible exact vpi8 (by assumption) (by assumption)
    | with_reducible refine sX1_needCard ?_ ?_
    | with_reducible refine sX1_needNumber ?_ ?_
    | with_reducible refine sX1_rangeOf2 (by first | assumption | exact CC.ext (by assumption) (by assumption)) ?_ ?_ ?_
    | with_reducible refine sX0_holdsAsSmall (by first | assumption | exact hgc _ _ (by assumption) | exact hgl _ _ (by assumption) | exact isR.ext (by assumption) (by assumption) | exact isR.mono (by assumption) (by first | assumption | exact isR.ext (by assumption) (by assumption)) | exact isR_up2 (by first | assumption | exact hgc _ _ (by assumption)) hc (by simp)) ?_
    | with_reducible refine go_R (by first | assumption | exact hgc _ _ (by assumption) | exact hgl _ _ (by assumption) | exact isR.ext (by assumption) (by assumption) | exact isR.mono (by assumption) (by first | assumption | exact isR.ext (by assumption) (by assumption)) | exact isR_up2 (by first | assumption | exact hgc _ _ (by assumption)) hc (by simp)) ?_
    | with_reducible exact hQ _
    | with_reducible exact hQt
    | with_reducible exact hQf
    | simp only [eX1_isValidSmall_0, eX1_isValidSmall_1, eX1_isValidSmall_4, eX1_isValidSmall_5, eX1_isValidSmall_8, eX1_isValidSmall_8N, eX1_isValidSmall_9, eX1_isValidSmall_10, eX1_isValidSmall_13, eX1_isValidSmall_13N, eX1_isValidSmall_14, eX1_isValidSmall_17, eX1_isValidSmall_18, eX1_isValidSmall_19, eX1_isValidSmall_22, rx, rn, rc, rl, hx, hn, hc, hl, d1, d2, d3, d4, d5, d6, d7, d8, d9, d10, d11, d12, rd_n, upw_n, ite_le, n45, n54, true_or, or_true, false_or, or_false, false_and, and_false, kx_l, kx_r, go_s, gl_s, gi_s, gb_s2, gb_s3, gq_s, wt_nil, wt_int, wt_long, wt_ref, wt_null, nl_int, nl_long, nl_ref, nl_null, nl_none, rf_n, rf_s, rf_st, tl_s, tl_n, g0, gS, ex1, nb_b, nb_0, nb_1, nf_i, nf_l, nf_ra, nf_ro, nf_na, nf_no, nf_b0, nf_z0, t45_4, t45_5, true_and, and_true, List.set_cons_zero, List.set_cons_succ, List.length_cons, List.length_nil, rd_s, upw_s, ne_eq, not_false_eq_true, Nat.zero_add, Nat.add_zero]
    | split
    | with_reducible intro _
    | omega
set_option maxHeartbeats 4000000 in
theorem sX1_whichValid {a0 : Int32} {a1 : Int32} (hC : CC g w0 x nA cA lA kn w) (hXo : Q (.inr "java/lang/IndexOutOfBoundsException") w) (hXs : Q (.inr "java/lang/IllegalStateException") w) (hQ : ∀ v : Int32, Q (.inl (some (.int v))) w) : WP (MX1_whichValid g) Q (0, [some (.ref x), some (.int a0), some (.int a1)], [], w, 0, 0) := by
  obtain ⟨n, rf, md, f, gc, gl, hx, hn, hc, hl, hgc, hgl, hn0, hn1, rx, rn, rc, rl, ⟨d1, d2, d3, d4, d5, d6⟩, ⟨d7, d8, d9, d10, d11, d12⟩⟩ := hC.1.opn g
  repeat' first
    | with_reducible assumption
    | with_reducible refine And.intro ?_ ?_
    | with_reducible exact vpi6 (by assumption) (by assumption)
    | with_reducible exact vpi8 (by assumption) (by assumption)
    | with_reducible refine sX1_rangeOf2 (by first | assumption | exact CC.ext (by assumption) (by assumption)) ?_ ?_ ?_
    | with_reducible refine sX1_validityIn (by first | assumption | exact hgc _ _ (by assumption) | exact hgl _ _ (by assumption) | exact isR.ext (by assumption) (by assumption) | exact isR.mono (by assumption) (by first | assumption | exact isR.ext (by assumption) (by assumption)) | exact isR_up2 (by first | assumption | exact hgc _ _ (by assumption)) hc (by simp)) ?_
    | with_reducible refine go_R (by first | assumption | exact hgc _ _ (by assumption) | exact hgl _ _ (by assumption) | exact isR.ext (by assumption) (by assumption) | exact isR.mono (by assumption) (by first | assumption | exact isR.ext (by assumption) (by assumption)) | exact isR_up2 (by first | assumption | exact hgc _ _ (by assumption)) hc (by simp)) ?_
    | with_reducible exact hQ _
    | simp only [eX1_whichValid_0, eX1_whichValid_0N, eX1_whichValid_1, eX1_whichValid_2, eX1_whichValid_5, eX1_whichValid_6, eX1_whichValid_7R, eX1_whichValid_7N, eX1_whichValid_10, rx, rn, rc, rl, hx, hn, hc, hl, d1, d2, d3, d4, d5, d6, d7, d8, d9, d10, d11, d12, rd_n, upw_n, ite_le, n45, n54, true_or, or_true, false_or, or_false, false_and, and_false, kx_l, kx_r, go_s, gl_s, gi_s, gb_s2, gb_s3, gq_s, wt_nil, wt_int, wt_long, wt_ref, wt_null, nl_int, nl_long, nl_ref, nl_null, nl_none, rf_n, rf_s, rf_st, tl_s, tl_n, g0, gS, ex1, nb_b, nb_0, nb_1, nf_i, nf_l, nf_ra, nf_ro, nf_na, nf_no, nf_b0, nf_z0, t45_4, t45_5, true_and, and_true, List.set_cons_zero, List.set_cons_succ, List.length_cons, List.length_nil, rd_s, upw_s, ne_eq, not_false_eq_true, Nat.zero_add, Nat.add_zero]
    | split
    | with_reducible intro _
    | omega
set_option maxHeartbeats 4000000 in
theorem sX1_around {a0 : Int32} {a1 : Int32} {a2 : Int32} (hC : CC g w0 x nA cA lA kn w) (hXo : Q (.inr "java/lang/IndexOutOfBoundsException") w) (hXa : Q (.inr "java/lang/IllegalArgumentException") w) (hXs : Q (.inr "java/lang/IllegalStateException") w) (hQ : ∀ v : Int32, Q (.inl (some (.int v))) w) : WP (MX1_around g) Q (0, [some (.ref x), some (.int a0), some (.int a1), some (.int a2), none], [], w, 0, 0) := by
  obtain ⟨n, rf, md, f, gc, gl, hx, hn, hc, hl, hgc, hgl, hn0, hn1, rx, rn, rc, rl, ⟨d1, d2, d3, d4, d5, d6⟩, ⟨d7, d8, d9, d10, d11, d12⟩⟩ := hC.1.opn g
  repeat' first
    | with_reducible assumption
    | with_reducible refine And.intro ?_ ?_
    | with_reducible exact vpi6 (by assumption) (by assumption)
    | with_reducible exact vpi8 (by assumption) (by assumption)
    | with_reducible refine sX1_needCard ?_ ?_
    | with_reducible refine sX1_needChoice ?_ ?_
    | with_reducible refine sX1_rangeOf2 (by first | assumption | exact CC.ext (by assumption) (by assumption)) ?_ ?_ ?_
    | with_reducible refine sX0_endAt (by first | assumption | exact hgc _ _ (by assumption) | exact hgl _ _ (by assumption) | exact isR.ext (by assumption) (by assumption) | exact isR.mono (by assumption) (by first | assumption | exact isR.ext (by assumption) (by assumption)) | exact isR_up2 (by first | assumption | exact hgc _ _ (by assumption)) hc (by simp)) ?_
    | with_reducible refine sX1_neighboursIn (by first | assumption | exact hgc _ _ (by assumption) | exact hgl _ _ (by assumption) | exact isR.ext (by assumption) (by assumption) | exact isR.mono (by assumption) (by first | assumption | exact isR.ext (by assumption) (by assumption)) | exact isR_up2 (by first | assumption | exact hgc _ _ (by assumption)) hc (by simp)) ?_
    | with_reducible refine go_R (by first | assumption | exact hgc _ _ (by assumption) | exact hgl _ _ (by assumption) | exact isR.ext (by assumption) (by assumption) | exact isR.mono (by assumption) (by first | assumption | exact isR.ext (by assumption) (by assumption)) | exact isR_up2 (by first | assumption | exact hgc _ _ (by assumption)) hc (by simp)) ?_
    | with_reducible exact hQ _
    | simp only [eX1_around_0, eX1_around_1, eX1_around_4, eX1_around_5, eX1_around_6, eX1_around_9, eX1_around_9N, eX1_around_10, eX1_around_11, eX1_around_14, eX1_around_14N, eX1_around_16, eX1_around_16N, eX1_around_18, eX1_around_18N, eX1_around_20, eX1_around_21, eX1_around_24, eX1_around_25R, eX1_around_25N, eX1_around_28, rx, rn, rc, rl, hx, hn, hc, hl, d1, d2, d3, d4, d5, d6, d7, d8, d9, d10, d11, d12, rd_n, upw_n, ite_le, n45, n54, true_or, or_true, false_or, or_false, false_and, and_false, kx_l, kx_r, go_s, gl_s, gi_s, gb_s2, gb_s3, gq_s, wt_nil, wt_int, wt_long, wt_ref, wt_null, nl_int, nl_long, nl_ref, nl_null, nl_none, rf_n, rf_s, rf_st, tl_s, tl_n, g0, gS, ex1, nb_b, nb_0, nb_1, nf_i, nf_l, nf_ra, nf_ro, nf_na, nf_no, nf_b0, nf_z0, t45_4, t45_5, true_and, and_true, List.set_cons_zero, List.set_cons_succ, List.length_cons, List.length_nil, rd_s, upw_s, ne_eq, not_false_eq_true, Nat.zero_add, Nat.add_zero]
    | split
    | with_reducible intro _
    | omega
set_option maxHeartbeats 4000000 in
theorem lX1_count_38 {a0 : Int32} {a1 : Int32} {a2 : Int32} {b4 : Nat} (hC : CC g w0 x nA cA lA kn w) (hb4 : isR w b4) (hXo : Q (.inr "java/lang/IndexOutOfBoundsException") w) (hXa : Q (.inr "java/lang/IllegalArgumentException") w) (hXs : Q (.inr "java/lang/IllegalStateException") w) (hQ : ∀ v : Int32, Q (.inl (some (.int v))) w) : ∀ (n rf md : Int32) (f : Nat → Int64) (gc gl : Nat → Option Nat), RO5 g w x nA cA lA n rf kn md f gc gl → ∀ (d : Nat) (i5 : Int32) (i6 : Int32) (k m : Nat), ¬ i6 < 0 → (a2 : Int32).toInt - i6.toInt ≤ (d : Int) → k ≤ 4 → m ≤ 24 → WP (MX1_count g) Q (38, [some (.ref x), some (.int a0), some (.int a1), some (.int a2), some (.ref b4), some (.int i5), some (.int i6)], [], w, k, m) := by
  rintro n rf md f gc gl ⟨hx, hn, hc, hl, hgc, hgl, hn0, hn1, rx, rn, rc, rl, ⟨d1, d2, d3, d4, d5, d6⟩, ⟨d7, d8, d9, d10, d11, d12⟩⟩ d
  induction d with
  | zero =>
    intro i5 i6 k m z0 hm hk hs
    rw [eX1_count_38]
    repeat' first
      | with_reducible assumption
      | with_reducible refine And.intro ?_ ?_
      | with_reducible exact vpi6 (by assumption) (by assumption)
      | with_reducible exact vpi8 (by assumption) (by assumption)
      | with_reducible exact (ic_z (by assumption) (by assumption)).elim
      | with_reducible exact vpi12 (by assumption) (by assumption) (by assumption)
      | with_reducible refine sX1_needCard ?_ ?_
      | with_reducible refine sX1_rangeOf2 (by first | assumption | exact CC.ext (by assumption) (by assumption)) ?_ ?_ ?_
      | with_reducible refine sX0_holds (by first | assumption | exact hgc _ _ (by assumption) | exact hgl _ _ (by assumption) | exact isR.ext (by assumption) (by assumption) | exact isR.mono (by assumption) (by first | assumption | exact isR.ext (by assumption) (by assumption)) | exact isR_up2 (by first | assumption | exact hgc _ _ (by assumption)) hc (by simp)) ?_
      | with_reducible refine sX1_asNumber ?_
      | with_reducible refine go_R (by first | assumption | exact hgc _ _ (by assumption) | exact hgl _ _ (by assumption) | exact isR.ext (by assumption) (by assumption) | exact isR.mono (by assumption) (by first | assumption | exact isR.ext (by assumption) (by assumption)) | exact isR_up2 (by first | assumption | exact hgc _ _ (by assumption)) hc (by simp)) ?_
      | with_reducible exact hQ _
      | simp only [eX1_count_0, eX1_count_1, eX1_count_4, eX1_count_5, eX1_count_6, eX1_count_9, eX1_count_10, eX1_count_12, eX1_count_15, eX1_count_25, eX1_count_25N, eX1_count_26, eX1_count_27, eX1_count_30, eX1_count_30N, eX1_count_32, eX1_count_33, eX1_count_35, eX1_count_36, eX1_count_40, eX1_count_41, eX1_count_44, eX1_count_46, eX1_count_46N, eX1_count_48, eX1_count_49, eX1_count_50, eX1_count_52, eX1_count_53, eX1_count_54, eX1_count_57, eX1_count_60, eX1_count_61, eX1_count_63, eX1_count_66, eX1_count_69, eX1_count_71, rx, rn, rc, rl, hx, hn, hc, hl, d1, d2, d3, d4, d5, d6, d7, d8, d9, d10, d11, d12, rd_n, upw_n, ite_le, n45, n54, true_or, or_true, false_or, or_false, false_and, and_false, kx_l, kx_r, go_s, gl_s, gi_s, gb_s2, gb_s3, gq_s, wt_nil, wt_int, wt_long, wt_ref, wt_null, nl_int, nl_long, nl_ref, nl_null, nl_none, rf_n, rf_s, rf_st, tl_s, tl_n, g0, gS, ex1, nb_b, nb_0, nb_1, nf_i, nf_l, nf_ra, nf_ro, nf_na, nf_no, nf_b0, nf_z0, t45_4, t45_5, true_and, and_true, List.set_cons_zero, List.set_cons_succ, List.length_cons, List.length_nil, rd_s, upw_s, ne_eq, not_false_eq_true, Nat.zero_add, Nat.add_zero]
      | split
      | with_reducible intro _
      | omega
  | succ d ih =>
    intro i5 i6 k m z0 hm hk hs
    rw [eX1_count_38]
    repeat' first
      | with_reducible assumption
      | with_reducible refine And.intro ?_ ?_
      | with_reducible exact vpi6 (by assumption) (by assumption)
      | with_reducible exact vpi8 (by assumption) (by assumption)
      | with_reducible exact ih _ _ _ _ (ic_p (by assumption) (by assumption)) (ic_s (by assumption) (by assumption)) (by first | assumption | omega) (by first | assumption | omega)
      | with_reducible exact vpi12 (by assumption) (by assumption) (by assumption)
      | with_reducible refine sX1_needCard ?_ ?_
      | with_reducible refine sX1_rangeOf2 (by first | assumption | exact CC.ext (by assumption) (by assumption)) ?_ ?_ ?_
      | with_reducible refine sX0_holds (by first | assumption | exact hgc _ _ (by assumption) | exact hgl _ _ (by assumption) | exact isR.ext (by assumption) (by assumption) | exact isR.mono (by assumption) (by first | assumption | exact isR.ext (by assumption) (by assumption)) | exact isR_up2 (by first | assumption | exact hgc _ _ (by assumption)) hc (by simp)) ?_
      | with_reducible refine sX1_asNumber ?_
      | with_reducible refine go_R (by first | assumption | exact hgc _ _ (by assumption) | exact hgl _ _ (by assumption) | exact isR.ext (by assumption) (by assumption) | exact isR.mono (by assumption) (by first | assumption | exact isR.ext (by assumption) (by assumption)) | exact isR_up2 (by first | assumption | exact hgc _ _ (by assumption)) hc (by simp)) ?_
      | with_reducible exact hQ _
      | simp only [eX1_count_0, eX1_count_1, eX1_count_4, eX1_count_5, eX1_count_6, eX1_count_9, eX1_count_10, eX1_count_12, eX1_count_15, eX1_count_25, eX1_count_25N, eX1_count_26, eX1_count_27, eX1_count_30, eX1_count_30N, eX1_count_32, eX1_count_33, eX1_count_35, eX1_count_36, eX1_count_40, eX1_count_41, eX1_count_44, eX1_count_46, eX1_count_46N, eX1_count_48, eX1_count_49, eX1_count_50, eX1_count_52, eX1_count_53, eX1_count_54, eX1_count_57, eX1_count_60, eX1_count_61, eX1_count_63, eX1_count_66, eX1_count_69, eX1_count_71, rx, rn, rc, rl, hx, hn, hc, hl, d1, d2, d3, d4, d5, d6, d7, d8, d9, d10, d11, d12, rd_n, upw_n, ite_le, n45, n54, true_or, or_true, false_or, or_false, false_and, and_false, kx_l, kx_r, go_s, gl_s, gi_s, gb_s2, gb_s3, gq_s, wt_nil, wt_int, wt_long, wt_ref, wt_null, nl_int, nl_long, nl_ref, nl_null, nl_none, rf_n, rf_s, rf_st, tl_s, tl_n, g0, gS, ex1, nb_b, nb_0, nb_1, nf_i, nf_l, nf_ra, nf_ro, nf_na, nf_no, nf_b0, nf_z0, t45_4, t45_5, true_and, and_true, List.set_cons_zero, List.set_cons_succ, List.length_cons, List.length_nil, rd_s, upw_s, ne_eq, not_false_eq_true, Nat.zero_add, Nat.add_zero]
      | split
      | with_reducible intro _
      | omega
set_option maxHeartbeats 4000000 in
theorem sX1_count {a0 : Int32} {a1 : Int32} {a2 : Int32} (hC : CC g w0 x nA cA lA kn w) (hXo : Q (.inr "java/lang/IndexOutOfBoundsException") w) (hXa : Q (.inr "java/lang/IllegalArgumentException") w) (hXs : Q (.inr "java/lang/IllegalStateException") w) (hQ : ∀ v : Int32, Q (.inl (some (.int v))) w) : WP (MX1_count g) Q (0, [some (.ref x), some (.int a0), some (.int a1), some (.int a2), none, none, none], [], w, 0, 0) := by
  obtain ⟨n, rf, md, f, gc, gl, hx, hn, hc, hl, hgc, hgl, hn0, hn1, rx, rn, rc, rl, ⟨d1, d2, d3, d4, d5, d6⟩, ⟨d7, d8, d9, d10, d11, d12⟩⟩ := hC.1.opn g
  repeat' first
    | with_reducible assumption
    | with_reducible refine And.intro ?_ ?_
    | with_reducible exact vpi6 (by assumption) (by assumption)
    | with_reducible exact vpi8 (by assumption) (by assumption)
    | with_reducible exact lX1_count_38 hC (by first | assumption | exact hgc _ _ (by assumption) | exact hgl _ _ (by assumption) | exact isR.ext (by assumption) (by assumption) | exact isR.mono (by assumption) (by first | assumption | exact isR.ext (by assumption) (by assumption)) | exact isR_up2 (by first | assumption | exact hgc _ _ (by assumption)) hc (by simp)) hXo hXa hXs hQ _ _ _ _ _ _ ⟨hx, hn, hc, hl, hgc, hgl, hn0, hn1, rx, rn, rc, rl, ⟨d1, d2, d3, d4, d5, d6⟩, ⟨d7, d8, d9, d10, d11, d12⟩⟩ 70 _ _ _ _ (by first | decide | assumption) (by first | decide | exact n12 (by assumption) | exact n60 (by assumption)) (by first | decide | omega) (by first | decide | omega)
    | with_reducible refine sX1_needCard ?_ ?_
    | with_reducible refine sX1_rangeOf2 (by first | assumption | exact CC.ext (by assumption) (by assumption)) ?_ ?_ ?_
    | with_reducible refine sX0_holds (by first | assumption | exact hgc _ _ (by assumption) | exact hgl _ _ (by assumption) | exact isR.ext (by assumption) (by assumption) | exact isR.mono (by assumption) (by first | assumption | exact isR.ext (by assumption) (by assumption)) | exact isR_up2 (by first | assumption | exact hgc _ _ (by assumption)) hc (by simp)) ?_
    | with_reducible refine sX1_asNumber ?_
    | with_reducible refine go_R (by first | assumption | exact hgc _ _ (by assumption) | exact hgl _ _ (by assumption) | exact isR.ext (by assumption) (by assumption) | exact isR.mono (by assumption) (by first | assumption | exact isR.ext (by assumption) (by assumption)) | exact isR_up2 (by first | assumption | exact hgc _ _ (by assumption)) hc (by simp)) ?_
    | with_reducible exact hQ _
    | simp only [eX1_count_0, eX1_count_1, eX1_count_4, eX1_count_5, eX1_count_6, eX1_count_9, eX1_count_10, eX1_count_12, eX1_count_15, eX1_count_25, eX1_count_25N, eX1_count_26, eX1_count_27, eX1_count_30, eX1_count_30N, eX1_count_32, eX1_count_33, eX1_count_35, eX1_count_36, eX1_count_40, eX1_count_41, eX1_count_44, eX1_count_46, eX1_count_46N, eX1_count_48, eX1_count_49, eX1_count_50, eX1_count_52, eX1_count_53, eX1_count_54, eX1_count_57, eX1_count_60, eX1_count_61, eX1_count_63, eX1_count_66, eX1_count_69, eX1_count_71, rx, rn, rc, rl, hx, hn, hc, hl, d1, d2, d3, d4, d5, d6, d7, d8, d9, d10, d11, d12, rd_n, upw_n, ite_le, n45, n54, true_or, or_true, false_or, or_false, false_and, and_false, kx_l, kx_r, go_s, gl_s, gi_s, gb_s2, gb_s3, gq_s, wt_nil, wt_int, wt_long, wt_ref, wt_null, nl_int, nl_long, nl_ref, nl_null, nl_none, rf_n, rf_s, rf_st, tl_s, tl_n, g0, gS, ex1, nb_b, nb_0, nb_1, nf_i, nf_l, nf_ra, nf_ro, nf_na, nf_no, nf_b0, nf_z0, t45_4, t45_5, true_and, and_true, List.set_cons_zero, List.set_cons_succ, List.length_cons, List.length_nil, rd_s, upw_s, ne_eq, not_false_eq_true, Nat.zero_add, Nat.add_zero]
    | split
    | with_reducible intro _
    | omega
end
