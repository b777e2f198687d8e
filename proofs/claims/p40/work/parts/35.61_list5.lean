section
section
variable {g : RO} {Q : Ot → Hw → Prop} {w0 w : Hw}
set_option maxHeartbeats 4000000 in
theorem sJx4a65c_iterator_32c93 {L D cap : Nat} {n : Int32} {h : Nat → Option Nat} (hl : LL g w L D cap n h) (hQ : ∀ q mc, w L = some (.inr (3, [.int mc, .ref D, .int n])) → rd g w q = none → Q (.inl (some (.ref q))) (upw w q (.inr (2, [.int 0, .int (-1), .int mc, .ref L])))) : WP (MJx4a65c_iterator_32c93 g) Q (0, [some (.ref L)], [], w, 0, 0) := by
  obtain ⟨mc, hL, rL, rD, hn0, hn1, n1, n2⟩ := hl.opn
  simp only [eJx4a65c_iterator_32c93_0, ite_le, n45, n54, true_or, or_true, false_or, or_false, false_and, and_false, kx_l, kx_r, go_s, gl_s, gi_s, gb_s2, gb_s3, gq_s, wt_nil, wt_int, wt_long, wt_ref, wt_null, nl_int, nl_long, nl_ref, nl_null, nl_none, rf_n, rf_s, rf_st, tl_s, tl_n, g0, gS, ex1, nb_b, nb_0, nb_1, nf_i, nf_l, nf_ra, nf_ro, nf_na, nf_no, nf_b0, nf_z0, t45_4, t45_5, true_and, and_true, List.set_cons_zero, List.set_cons_succ, List.length_cons, List.length_nil, rd_s, upw_s, ne_eq, not_false_eq_true, Nat.zero_add, Nat.add_zero, if_true, if_false, eq_self]
  repeat' first | with_reducible refine And.intro ?_ ?_ | omega
  intro q hq
  have hqn := rd_none hq
  have hqL : L ≠ q := fun e => by
    rw [← e, hL] at hqn
    cases hqn
  simp only [eJx4a65c_iterator_32c93_0, eJx4a65c_iterator_32c93_3, eJx4a65c_iterator_32c93_3R, eJx4a65c_iterator_32c93_4, eJx4a65c_iterator_32c93_4N, eJx4a65c_iterator_32c93_5R, eJx4a65c_iterator_32c93_5N, eJx4a65c_iterator_32c93_8, eJx4a65c_iterator_32c93_8N, eJx35411_init_45d68_0, eJx35411_init_45d68_0N, eJx35411_init_45d68_1, eJx35411_init_45d68_1N, eJx35411_init_45d68_2, eJx35411_init_45d68_5, eJx35411_init_45d68_5N, eJx35411_init_45d68_6, eJx35411_init_45d68_9, eJx35411_init_45d68_9N, eJx35411_init_45d68_10, eJx35411_init_45d68_14, eJx35411_init_45d68_14N, eJx35411_init_45d68_15, eJx35411_init_45d68_15N, eJx35411_init_45d68_16, eJx35411_init_45d68_19, eJx35411_init_45d68_22, eJx35411_init_45d68_25, ite_le, n45, n54, true_or, or_true, false_or, or_false, false_and, and_false, kx_l, kx_r, go_s, gl_s, gi_s, gb_s2, gb_s3, gq_s, wt_nil, wt_int, wt_long, wt_ref, wt_null, nl_int, nl_long, nl_ref, nl_null, nl_none, rf_n, rf_s, rf_st, tl_s, tl_n, g0, gS, ex1, nb_b, nb_0, nb_1, nf_i, nf_l, nf_ra, nf_ro, nf_na, nf_no, nf_b0, nf_z0, t45_4, t45_5, true_and, and_true, List.set_cons_zero, List.set_cons_succ, List.length_cons, List.length_nil, rd_s, upw_s, ne_eq, not_false_eq_true, Nat.zero_add, Nat.add_zero, if_true, if_false, eq_self, hqL, rd_n, upw_n, upw2q, rL, tyJx35411, nf_ro]
  repeat' first | with_reducible refine And.intro ?_ ?_ | omega
  all_goals first | exact trivial | exact hQ q mc hL hq
set_option maxHeartbeats 4000000 in
theorem sJx35411_hasNext_aae02 {q L D cap : Nat} {c lr mx n mc : Int32} (hq : w q = some (.inr (2, [.int c, .int lr, .int mx, .ref L]))) (hL : w L = some (.inr (3, [.int mc, .ref D, .int n]))) (h0 : c = n → Q (.inl (some (.int 0))) w) (h1 : ¬ c = n → Q (.inl (some (.int 1))) w) : WP (MJx35411_hasNext_aae02 g) Q (0, [some (.ref q)], [], w, 0, 0) := by
  have rq := rd_e (g := g) hq
  have rL := rd_e (g := g) hL
  simp only [eJx35411_hasNext_aae02_0, eJx35411_hasNext_aae02_0N, eJx35411_hasNext_aae02_1, eJx35411_hasNext_aae02_4, eJx35411_hasNext_aae02_4N, eJx35411_hasNext_aae02_5, eJx35411_hasNext_aae02_8, eJx35411_hasNext_aae02_11, ite_le, n45, n54, true_or, or_true, false_or, or_false, false_and, and_false, kx_l, kx_r, go_s, gl_s, gi_s, gb_s2, gb_s3, gq_s, wt_nil, wt_int, wt_long, wt_ref, wt_null, nl_int, nl_long, nl_ref, nl_null, nl_none, rf_n, rf_s, rf_st, tl_s, tl_n, g0, gS, ex1, nb_b, nb_0, nb_1, nf_i, nf_l, nf_ra, nf_ro, nf_na, nf_no, nf_b0, nf_z0, t45_4, t45_5, true_and, and_true, List.set_cons_zero, List.set_cons_succ, List.length_cons, List.length_nil, rd_s, upw_s, ne_eq, not_false_eq_true, Nat.zero_add, Nat.add_zero, rq, rL]
  split
  · simp only [eJx35411_hasNext_aae02_14, eJx35411_hasNext_aae02_18, eJx35411_hasNext_aae02_19, ite_le, n45, n54, true_or, or_true, false_or, or_false, false_and, and_false, kx_l, kx_r, go_s, gl_s, gi_s, gb_s2, gb_s3, gq_s, wt_nil, wt_int, wt_long, wt_ref, wt_null, nl_int, nl_long, nl_ref, nl_null, nl_none, rf_n, rf_s, rf_st, tl_s, tl_n, g0, gS, ex1, nb_b, nb_0, nb_1, nf_i, nf_l, nf_ra, nf_ro, nf_na, nf_no, nf_b0, nf_z0, t45_4, t45_5, true_and, and_true, List.set_cons_zero, List.set_cons_succ, List.length_cons, List.length_nil, rd_s, upw_s, ne_eq, not_false_eq_true, Nat.zero_add, Nat.add_zero]
    repeat' first | with_reducible refine And.intro ?_ ?_ | omega
    exact h0 (by assumption)
  · simp only [eJx35411_hasNext_aae02_14, eJx35411_hasNext_aae02_18, eJx35411_hasNext_aae02_19, ite_le, n45, n54, true_or, or_true, false_or, or_false, false_and, and_false, kx_l, kx_r, go_s, gl_s, gi_s, gb_s2, gb_s3, gq_s, wt_nil, wt_int, wt_long, wt_ref, wt_null, nl_int, nl_long, nl_ref, nl_null, nl_none, rf_n, rf_s, rf_st, tl_s, tl_n, g0, gS, ex1, nb_b, nb_0, nb_1, nf_i, nf_l, nf_ra, nf_ro, nf_na, nf_no, nf_b0, nf_z0, t45_4, t45_5, true_and, and_true, List.set_cons_zero, List.set_cons_succ, List.length_cons, List.length_nil, rd_s, upw_s, ne_eq, not_false_eq_true, Nat.zero_add, Nat.add_zero]
    repeat' first | with_reducible refine And.intro ?_ ?_ | omega
    exact h1 (by assumption)
set_option maxHeartbeats 4000000 in
theorem sJx35411_next_0502b {q L D cap : Nat} {c lr n mc : Int32} {h : Nat → Option Nat} (hq : w q = some (.inr (2, [.int c, .int lr, .int mc, .ref L]))) (hL : w L = some (.inr (3, [.int mc, .ref D, .int n]))) (rD : rd g w D = some (.inl (5, cap, qc h))) (k0 : 0 ≤ c.toInt) (k1 : c.toInt < n.toInt) (hn : n.toInt ≤ (cap : Int)) (hc : cap ≤ 15) (hN : h c.toNatClampNeg = none → Q (.inl (some .null)) (upw w q (.inr (2, [.int (c + 1), .int c, .int mc, .ref L])))) (hR : ∀ b, h c.toNatClampNeg = some b → Q (.inl (some (.ref b))) (upw w q (.inr (2, [.int (c + 1), .int c, .int mc, .ref L])))) : WP (MJx35411_next_0502b g) Q (0, [some (.ref q), none, none], [], w, 0, 0) := by
  have rq := rd_e (g := g) hq
  have rL := rd_e (g := g) hL
  have nL : L ≠ q := fun e => by
    rw [e, hq] at hL
    cases hL
  have nD : D ≠ q := fun e => by
    rw [e, rq] at rD
    cases rD
  have iv : vp_in c cap := vpiM k0 (by omega)
  have eN := ofNc (N := cap) (by omega)
  simp only [eJx35411_next_0502b_0, eJx35411_next_0502b_0N, eJx35411_next_0502b_1, eJx35411_next_0502b_4, eJx35411_next_0502b_4N, eJx35411_next_0502b_5, eJx35411_next_0502b_8, eJx35411_next_0502b_10, eJx35411_next_0502b_10N, eJx35411_next_0502b_11, eJx35411_next_0502b_14, eJx35411_next_0502b_17, eJx35411_next_0502b_23, eJx35411_next_0502b_23R, eJx35411_next_0502b_28, eJx35411_next_0502b_28N, eJx35411_next_0502b_29, eJx35411_next_0502b_32, eJx35411_next_0502b_35, eJx35411_next_0502b_35N, eJx35411_next_0502b_36, eJx35411_next_0502b_37, eJx35411_next_0502b_37N, eJx35411_next_0502b_38, eJx35411_next_0502b_39, eJx35411_next_0502b_45, eJx35411_next_0502b_45R, eJx35411_next_0502b_50, eJx35411_next_0502b_50N, eJx35411_next_0502b_51, eJx35411_next_0502b_57, eJx35411_next_0502b_57N, eJx35411_next_0502b_58, eJx35411_next_0502b_58N, eJx35411_next_0502b_59, eJx35411_next_0502b_60IR, eJx35411_next_0502b_60RR, eJx35411_next_0502b_61, eJx35411_next_0502b_64, eJx35411_next_0502b_65, eJx35411_next_0502b_65N, eJx35411_checkForComodification_da8c8_0, eJx35411_checkForComodification_da8c8_0N, eJx35411_checkForComodification_da8c8_1, eJx35411_checkForComodification_da8c8_4, eJx35411_checkForComodification_da8c8_7, eJx35411_checkForComodification_da8c8_7N, eJx35411_checkForComodification_da8c8_8, eJx35411_checkForComodification_da8c8_11, eJx35411_checkForComodification_da8c8_17, eJx35411_checkForComodification_da8c8_17R, eJx35411_checkForComodification_da8c8_22, ite_le, n45, n54, true_or, or_true, false_or, or_false, false_and, and_false, kx_l, kx_r, go_s, gl_s, gi_s, gb_s2, gb_s3, gq_s, wt_nil, wt_int, wt_long, wt_ref, wt_null, nl_int, nl_long, nl_ref, nl_null, nl_none, rf_n, rf_s, rf_st, tl_s, tl_n, g0, gS, ex1, nb_b, nb_0, nb_1, nf_i, nf_l, nf_ra, nf_ro, nf_na, nf_no, nf_b0, nf_z0, t45_4, t45_5, true_and, and_true, List.set_cons_zero, List.set_cons_succ, List.length_cons, List.length_nil, rd_s, upw_s, ne_eq, not_false_eq_true, Nat.zero_add, Nat.add_zero, if_true, if_false, eq_self, rq, hq, rL, rD, nL, nD, upw_n, rd_n, upw2q, exal2, al56, i32_t k1, i32_t (show c.toInt < (Int32.ofNat cap).toInt by omega)]
  with_reducible refine And.intro ?_ ?_
  omega
  with_reducible refine And.intro ?_ ?_
  omega
  with_reducible refine And.intro ?_ ?_
  omega
  with_reducible refine And.intro ?_ ?_
  omega
  with_reducible refine And.intro ?_ ?_
  omega
  with_reducible refine And.intro ?_ ?_
  omega
  with_reducible refine And.intro ?_ ?_
  omega
  with_reducible refine And.intro ?_ ?_
  with_reducible assumption
  with_reducible refine And.intro ?_ ?_
  with_reducible intro _
  with_reducible refine And.intro ?_ ?_
  omega
  with_reducible refine And.intro ?_ ?_
  omega
  with_reducible exact hN (by assumption)
  with_reducible intro _
  with_reducible intro _
  with_reducible refine And.intro ?_ ?_
  omega
  with_reducible refine And.intro ?_ ?_
  omega
  with_reducible exact hR _ (by assumption)
end
end
