section
variable {g : RO} {Q : Ot → Hw → Prop} {w0 w : Hw} {x nA cA lA : Nat} {kn : Int32}
theorem lay_p {n : Int32} (h0 : ¬ n < 0) (h : n < 12) : ¬ n + 1 < 0 := ic_p h0 h
theorem lay_m {n : Int32} (h : n < 12) : ¬ 12 < n + 1 := by
  refine i32_of_nlt ?_
  rw [i32_s h]
  have := i32_lt h
  show n.toInt + 1 ≤ 12
  have e : (12 : Int32).toInt = 12 := by decide
  omega
theorem vpi12l {n : Int32} (h0 : ¬ n < 0) (h : n < 12) : vp_in n 12 := vpi h0 h (by decide)
theorem of12 : Int32.ofNat 12 = 12 := rfl
set_option maxHeartbeats 4000000 in
theorem sX1_lay {a0 : Int32} (hC : CC g w0 x nA cA lA kn w) (hXo : Q (.inr "java/lang/IndexOutOfBoundsException") w) (hXs : Q (.inr "java/lang/IllegalStateException") w) (hQ : ∀ (v : Int32) (w' : Hw), CC g w0 x nA cA lA kn w' → Q (.inl (some (.int v))) w') : WP (MX1_lay g) Q (0, [some (.ref x), some (.int a0), none], [], w, 0, 0) := by
  obtain ⟨n, rf, md, f, gc, gl, hx, hn, hc, hl, hgc, hgl, hn0, hn1, rx, rn, rc, rl, ⟨d1, d2, d3, d4, d5, d6⟩, ⟨d7, d8, d9, d10, d11, d12⟩⟩ := hC.1.opn g
  repeat' first
    | with_reducible assumption
    | with_reducible refine And.intro ?_ ?_
    | with_reducible exact vpi6 (by assumption) (by assumption)
    | with_reducible exact vpi8 (by assumption) (by assumption)
    | with_reducible exact hQ _ _ ((hC.laid _ (up_ok hgl fun b z => by cases z; assumption)).obj _ _ _ _ (lay_p (by assumption) (by assumption)) (lay_m (by assumption)))
    | with_reducible refine Or.inl ?_
    | with_reducible refine go_Rw (by first | assumption | exact hgc _ _ (by assumption) | exact hgl _ _ (by assumption) | exact isR.ext (by assumption) (by assumption) | exact isR.mono (by assumption) (by first | assumption | exact isR.ext (by assumption) (by assumption)) | exact isR_up2 (by first | assumption | exact hgc _ _ (by assumption)) hc (by simp)) ?_
    | with_reducible exact vpi12l (by assumption) (by assumption)
    | with_reducible exact go_C (by first | assumption | exact CC.ext (by assumption) (by assumption))
    | with_reducible refine sX1_rangeOf2 (by first | assumption | exact CC.ext (by assumption) (by assumption)) ?_ ?_ ?_
    | with_reducible refine sX1_refuse (by first | assumption | exact CC.ext (by assumption) (by assumption)) ?_
    | with_reducible refine go_R (by first | assumption | exact hgc _ _ (by assumption) | exact hgl _ _ (by assumption) | exact isR.ext (by assumption) (by assumption) | exact isR.mono (by assumption) (by first | assumption | exact isR.ext (by assumption) (by assumption)) | exact isR_up2 (by first | assumption | exact hgc _ _ (by assumption)) hc (by simp)) ?_
    | with_reducible exact hQ _ _ (by first | assumption | exact CC.ext (by assumption) (by assumption))
    | simp only [eX1_lay_0, eX1_lay_0N, eX1_lay_1, eX1_lay_2, eX1_lay_5, eX1_lay_5N, eX1_lay_6, eX1_lay_6N, eX1_lay_7, eX1_lay_10, eX1_lay_13, eX1_lay_13N, eX1_lay_14, eX1_lay_17, eX1_lay_17N, eX1_lay_18, eX1_lay_21, eX1_lay_22, eX1_lay_25, eX1_lay_25N, eX1_lay_26, eX1_lay_29, eX1_lay_30, eX1_lay_30N, eX1_lay_31, eX1_lay_34, eX1_lay_34N, eX1_lay_35, eX1_lay_38, eX1_lay_38N, eX1_lay_39N, eX1_lay_39R, eX1_lay_40, eX1_lay_40N, eX1_lay_41, eX1_lay_41R, eX1_lay_42, eX1_lay_45, eX1_lay_46, eX1_lay_47, eX1_lay_50, eX1_lay_50N, eX1_lay_51, eX1_lay_54, rx, rn, rc, rl, hx, hn, hc, hl, d1, d2, d3, d4, d5, d6, d7, d8, d9, d10, d11, d12, rd_n, upw_n, exal, of12, ite_le, n45, n54, true_or, or_true, false_or, or_false, false_and, and_false, kx_l, kx_r, go_s, gl_s, gi_s, gb_s2, gb_s3, gq_s, wt_nil, wt_int, wt_long, wt_ref, wt_null, nl_int, nl_long, nl_ref, nl_null, nl_none, rf_n, rf_s, rf_st, tl_s, tl_n, g0, gS, ex1, nb_b, nb_0, nb_1, nf_i, nf_l, nf_ra, nf_ro, nf_na, nf_no, nf_b0, nf_z0, t45_4, t45_5, true_and, and_true, List.set_cons_zero, List.set_cons_succ, List.length_cons, List.length_nil, rd_s, upw_s, ne_eq, not_false_eq_true, Nat.zero_add, Nat.add_zero]
    | split
    | with_reducible intro _
    | omega
end
