section
variable {g : RO} {Q : Ot → Hw → Prop} {w0 w : Hw} {y nM : Nat} {kd : Int32}
/-! the model's isSound: its answer is 1 -/
set_option maxHeartbeats 4000000 in
theorem oX3_isSound (hM : MM g w0 y nM kd w) (hQ : ∀ w', MM g w0 y nM kd w' → Q (.inl (some (.int 1))) w') : WP (MX3_isSound g) Q (0, [some (.ref y)], [], w, 0, 0) := by
  repeat' first
    | with_reducible assumption
    | with_reducible refine And.intro ?_ ?_
    | with_reducible refine go_Y (by assumption) (fun _ _ _ _ _ _ => ?_)
    | with_reducible refine go_Yw (by assumption) (fun _ _ _ _ _ _ => ?_)
    | with_reducible exact hQ _ ((by assumption : ∀ (th' rf' md' : Int32), MM g w0 y nM kd (upw _ y (.inr (7, [.int th', .ref nM, .ref _, .ref _, .int rf', .int kd, .int md'])))) _ _ _)
    | simp only [eX3_isSound_0, eX3_isSound_0N, eX3_isSound_1, eX3_isSound_2, eX3_isSound_5, eX3_isSound_6, ite_le, n45, n54, true_or, or_true, false_or, or_false, false_and, and_false, kx_l, kx_r, go_s, gl_s, gi_s, gb_s2, gb_s3, gq_s, wt_nil, wt_int, wt_long, wt_ref, wt_null, nl_int, nl_long, nl_ref, nl_null, nl_none, rf_n, rf_s, rf_st, tl_s, tl_n, g0, gS, ex1, nb_b, nb_0, nb_1, nf_i, nf_l, nf_ra, nf_ro, nf_na, nf_no, nf_b0, nf_z0, t45_4, t45_5, true_and, and_true, List.set_cons_zero, List.set_cons_succ, List.length_cons, List.length_nil, rd_s, upw_s, ne_eq, not_false_eq_true, Nat.zero_add, Nat.add_zero, if_true, if_false, eq_self]
    | with_reducible intro _
    | omega
end
