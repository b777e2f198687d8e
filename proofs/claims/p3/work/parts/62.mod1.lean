section
variable {g : RO} {Q : Ot → Hw → Prop} {w0 w : Hw}
variable {y nM : Nat} {kd : Int32}
set_option maxHeartbeats 4000000 in
theorem sX3_isIn {a b c : Int32} (h1 : ¬ a < b → ¬ c < a → Q (.inl (some (.int 1))) w) (h0 : Q (.inl (some (.int 0))) w) : WP (MX3_isIn g) Q (0, [some (.int a), some (.int b), some (.int c)], [], w, 0, 0) := by
  repeat' first
    | with_reducible assumption
    | with_reducible refine And.intro ?_ ?_
    | with_reducible exact h1 (by assumption) (by assumption)
    | simp only [eX3_isIn_0, eX3_isIn_1, eX3_isIn_2, eX3_isIn_5, eX3_isIn_6, eX3_isIn_7, eX3_isIn_10, eX3_isIn_11, eX3_isIn_14, eX3_isIn_15, ite_le, n45, n54, true_or, or_true, false_or, or_false, false_and, and_false, kx_l, kx_r, go_s, gl_s, gi_s, gb_s2, gb_s3, gq_s, wt_nil, wt_int, wt_long, wt_ref, wt_null, nl_int, nl_long, nl_ref, nl_null, nl_none, rf_n, rf_s, rf_st, tl_s, tl_n, g0, gS, ex1, nb_b, nb_0, nb_1, nf_i, nf_l, nf_ra, nf_ro, nf_na, nf_no, nf_b0, nf_z0, t45_4, t45_5, true_and, and_true, List.set_cons_zero, List.set_cons_succ, List.length_cons, List.length_nil, rd_s, upw_s, ne_eq, not_false_eq_true, Nat.zero_add, Nat.add_zero, if_true, if_false, eq_self]
    | split
    | with_reducible intro _
    | omega
theorem m10 : ((1 : Int32) = 0) = False := eq_false (by decide)
set_option maxHeartbeats 4000000 in
theorem sX3_isNoNumber {a : Int32} (h1 : Q (.inl (some (.int 1))) w) (h0 : ¬ a < 0 → ¬ 7 < a → Q (.inl (some (.int 0))) w) : WP (MX3_isNoNumber g) Q (0, [some (.int a)], [], w, 0, 0) := by
  repeat' first
    | with_reducible assumption
    | with_reducible refine And.intro ?_ ?_
    | with_reducible refine sX3_isIn (fun _ _ => ?_) ?_
    | with_reducible exact h0 (by assumption) (by assumption)
    | simp only [eX3_isNoNumber_0, eX3_isNoNumber_1, eX3_isNoNumber_2, eX3_isNoNumber_4, eX3_isNoNumber_7, eX3_isNoNumber_10, eX3_isNoNumber_11, eX3_isNoNumber_14, eX3_isNoNumber_15, ite_le, n45, n54, true_or, or_true, false_or, or_false, false_and, and_false, kx_l, kx_r, go_s, gl_s, gi_s, gb_s2, gb_s3, gq_s, wt_nil, wt_int, wt_long, wt_ref, wt_null, nl_int, nl_long, nl_ref, nl_null, nl_none, rf_n, rf_s, rf_st, tl_s, tl_n, g0, gS, ex1, nb_b, nb_0, nb_1, nf_i, nf_l, nf_ra, nf_ro, nf_na, nf_no, nf_b0, nf_z0, t45_4, t45_5, true_and, and_true, List.set_cons_zero, List.set_cons_succ, List.length_cons, List.length_nil, rd_s, upw_s, ne_eq, not_false_eq_true, Nat.zero_add, Nat.add_zero, if_true, if_false, eq_self, m10]
    | split
    | with_reducible intro _
    | omega
set_option maxHeartbeats 4000000 in
theorem sX3_isNoCard {a : Int32} (h1 : Q (.inl (some (.int 1))) w) (h0 : ¬ a < 0 → ¬ 5 < a → Q (.inl (some (.int 0))) w) : WP (MX3_isNoCard g) Q (0, [some (.int a)], [], w, 0, 0) := by
  repeat' first
    | with_reducible assumption
    | with_reducible refine And.intro ?_ ?_
    | with_reducible refine sX3_isIn (fun _ _ => ?_) ?_
    | with_reducible exact h0 (by assumption) (by assumption)
    | simp only [eX3_isNoCard_0, eX3_isNoCard_1, eX3_isNoCard_2, eX3_isNoCard_3, eX3_isNoCard_6, eX3_isNoCard_9, eX3_isNoCard_10, eX3_isNoCard_13, eX3_isNoCard_14, ite_le, n45, n54, true_or, or_true, false_or, or_false, false_and, and_false, kx_l, kx_r, go_s, gl_s, gi_s, gb_s2, gb_s3, gq_s, wt_nil, wt_int, wt_long, wt_ref, wt_null, nl_int, nl_long, nl_ref, nl_null, nl_none, rf_n, rf_s, rf_st, tl_s, tl_n, g0, gS, ex1, nb_b, nb_0, nb_1, nf_i, nf_l, nf_ra, nf_ro, nf_na, nf_no, nf_b0, nf_z0, t45_4, t45_5, true_and, and_true, List.set_cons_zero, List.set_cons_succ, List.length_cons, List.length_nil, rd_s, upw_s, ne_eq, not_false_eq_true, Nat.zero_add, Nat.add_zero, if_true, if_false, eq_self, m10]
    | split
    | with_reducible intro _
    | omega
set_option maxHeartbeats 4000000 in
theorem sX3_isNoEnd {a : Int32} (h1 : Q (.inl (some (.int 1))) w) (h0 : ¬ a < 0 → ¬ 3 < a → Q (.inl (some (.int 0))) w) : WP (MX3_isNoEnd g) Q (0, [some (.int a)], [], w, 0, 0) := by
  repeat' first
    | with_reducible assumption
    | with_reducible refine And.intro ?_ ?_
    | with_reducible refine sX3_isIn (fun _ _ => ?_) ?_
    | with_reducible exact h0 (by assumption) (by assumption)
    | simp only [eX3_isNoEnd_0, eX3_isNoEnd_1, eX3_isNoEnd_2, eX3_isNoEnd_3, eX3_isNoEnd_6, eX3_isNoEnd_9, eX3_isNoEnd_10, eX3_isNoEnd_13, eX3_isNoEnd_14, ite_le, n45, n54, true_or, or_true, false_or, or_false, false_and, and_false, kx_l, kx_r, go_s, gl_s, gi_s, gb_s2, gb_s3, gq_s, wt_nil, wt_int, wt_long, wt_ref, wt_null, nl_int, nl_long, nl_ref, nl_null, nl_none, rf_n, rf_s, rf_st, tl_s, tl_n, g0, gS, ex1, nb_b, nb_0, nb_1, nf_i, nf_l, nf_ra, nf_ro, nf_na, nf_no, nf_b0, nf_z0, t45_4, t45_5, true_and, and_true, List.set_cons_zero, List.set_cons_succ, List.length_cons, List.length_nil, rd_s, upw_s, ne_eq, not_false_eq_true, Nat.zero_add, Nat.add_zero, if_true, if_false, eq_self, m10]
    | split
    | with_reducible intro _
    | omega
/-- .. and thrown is 0 -/
def MMz (g : RO) (w0 : Hw) (y nM : Nat) (kd : Int32) (w : Hw) : Prop := MM g w0 y nM kd w ∧ ∃ (cL pL : Nat) (rf md : Int32), w y = some (.inr (7, [.int 0, .ref nM, .ref cL, .ref pL, .int rf, .int kd, .int md]))
set_option maxHeartbeats 4000000 in
theorem sX3_refuse {a c : Int32} (hZ : MMz g w0 y nM kd w) (hc : 0 < c) (h0 : a = 0 → Q (.inl (some (.int 0))) w) (h1 : ∀ w', MM g w0 y nM kd w' → Q (.inl (some (.int 1))) w') : WP (MX3_refuse g) Q (0, [some (.ref y), some (.int a), some (.int c)], [], w, 0, 0) := by
  obtain ⟨hM, cL, pL, rf, md, hy⟩ := hZ
  have ry := rd_e (g := g) hy
  have q1 : (c ≤ 0) = False := eq_false (fun h => absurd hc (Int32.not_lt.mpr h))
  have q2 : ((0 : Int32) ≤ 0) = True := eq_true (Int32.le_refl _)
  have q3 : ((0 : Int32) < 0) = False := eq_false (by decide)
  have q4 : (0 < c) = True := eq_true hc
  repeat' first
    | with_reducible assumption
    | with_reducible refine And.intro ?_ ?_
    | with_reducible exact h0 (by assumption)
    | with_reducible exact h1 _ (hM.set hy)
    | simp only [eX3_refuse_0, eX3_refuse_1, eX3_refuse_4, eX3_refuse_4N, eX3_refuse_5, eX3_refuse_8, eX3_refuse_11, eX3_refuse_11N, eX3_refuse_12, eX3_refuse_13, eX3_refuse_16, eX3_refuse_16N, eX3_refuse_17, eX3_refuse_20, eX3_refuse_23, eX3_refuse_24, eX3_refuse_27, eX3_refuse_28, ite_le, n45, n54, true_or, or_true, false_or, or_false, false_and, and_false, kx_l, kx_r, go_s, gl_s, gi_s, gb_s2, gb_s3, gq_s, wt_nil, wt_int, wt_long, wt_ref, wt_null, nl_int, nl_long, nl_ref, nl_null, nl_none, rf_n, rf_s, rf_st, tl_s, tl_n, g0, gS, ex1, nb_b, nb_0, nb_1, nf_i, nf_l, nf_ra, nf_ro, nf_na, nf_no, nf_b0, nf_z0, t45_4, t45_5, true_and, and_true, List.set_cons_zero, List.set_cons_succ, List.length_cons, List.length_nil, rd_s, upw_s, ne_eq, not_false_eq_true, Nat.zero_add, Nat.add_zero, if_true, if_false, eq_self, hy, ry, q1, q2, q3, q4]
    | split
    | with_reducible intro _
    | omega
set_option maxHeartbeats 4000000 in
theorem sX3_start {a c : Int32} (hM : MM g w0 y nM kd w) (hc : 0 < c) (h0 : a = 0 → ∀ w', MMz g w0 y nM kd w' → Q (.inl (some (.int 0))) w') (h1 : ∀ w', MM g w0 y nM kd w' → Q (.inl (some (.int 1))) w') : WP (MX3_start g) Q (0, [some (.ref y), some (.int a), some (.int c)], [], w, 0, 0) := by
  obtain ⟨cL, pL, D1, D2, c1, c2, th, rf, md, n, f, hh1, hh2, hy, hn, ry, rn, e1, e2, -⟩ := hM.1.opn g
  have hz : MMz g w0 y nM kd (upw w y (.inr (7, [.int 0, .ref nM, .ref cL, .ref pL, .int rf, .int kd, .int md]))) := ⟨hM.set hy, cL, pL, rf, md, upw_s _ _ _⟩
  repeat' first
    | with_reducible assumption
    | with_reducible refine And.intro ?_ ?_
    | with_reducible refine sX3_refuse hz hc (fun _ => ?_) (fun _ _ => ?_)
    | with_reducible exact h0 (by assumption) _ hz
    | with_reducible exact h1 _ (by assumption)
    | simp only [eX3_start_0, eX3_start_0N, eX3_start_1, eX3_start_2, eX3_start_5, eX3_start_5N, eX3_start_6, eX3_start_7, eX3_start_8, eX3_start_11, ite_le, n45, n54, true_or, or_true, false_or, or_false, false_and, and_false, kx_l, kx_r, go_s, gl_s, gi_s, gb_s2, gb_s3, gq_s, wt_nil, wt_int, wt_long, wt_ref, wt_null, nl_int, nl_long, nl_ref, nl_null, nl_none, rf_n, rf_s, rf_st, tl_s, tl_n, g0, gS, ex1, nb_b, nb_0, nb_1, nf_i, nf_l, nf_ra, nf_ro, nf_na, nf_no, nf_b0, nf_z0, t45_4, t45_5, true_and, and_true, List.set_cons_zero, List.set_cons_succ, List.length_cons, List.length_nil, rd_s, upw_s, ne_eq, not_false_eq_true, Nat.zero_add, Nat.add_zero, if_true, if_false, eq_self, hy, ry]
    | split
    | with_reducible intro _
    | omega
set_option maxHeartbeats 4000000 in
theorem sX3_no  (hM : MM g w0 y nM kd w) (hQ : ∀ w', MM g w0 y nM kd w' → Q (.inl (some (.int (-9)))) w') : WP (MX3_no g) Q (0, [some (.ref y)], [], w, 0, 0) := by
  obtain ⟨cL, pL, D1, D2, c1, c2, th, rf, md, n, f, hh1, hh2, hy, hn, ry, rn, e1, e2, -⟩ := hM.1.opn g
  repeat' first
    | with_reducible assumption
    | with_reducible refine And.intro ?_ ?_
    | with_reducible exact hQ _ (hM.set hy)
    | simp only [eX3_no_0, eX3_no_0N, eX3_no_1, eX3_no_1R, eX3_no_2, eX3_no_5, eX3_no_6, eX3_no_7, eX3_no_10, eX3_no_12, ite_le, n45, n54, true_or, or_true, false_or, or_false, false_and, and_false, kx_l, kx_r, go_s, gl_s, gi_s, gb_s2, gb_s3, gq_s, wt_nil, wt_int, wt_long, wt_ref, wt_null, nl_int, nl_long, nl_ref, nl_null, nl_none, rf_n, rf_s, rf_st, tl_s, tl_n, g0, gS, ex1, nb_b, nb_0, nb_1, nf_i, nf_l, nf_ra, nf_ro, nf_na, nf_no, nf_b0, nf_z0, t45_4, t45_5, true_and, and_true, List.set_cons_zero, List.set_cons_succ, List.length_cons, List.length_nil, rd_s, upw_s, ne_eq, not_false_eq_true, Nat.zero_add, Nat.add_zero, if_true, if_false, eq_self, hy, ry, upw2q]
    | split
    | with_reducible intro _
    | omega
set_option maxHeartbeats 4000000 in
theorem sX3_knock  (hM : MM g w0 y nM kd w) (hQ : ∀ w', MM g w0 y nM (kd + 1) w' → Q (.inl (some (.int (kd + 1)))) w') : WP (MX3_knock g) Q (0, [some (.ref y)], [], w, 0, 0) := by
  obtain ⟨cL, pL, D1, D2, c1, c2, th, rf, md, n, f, hh1, hh2, hy, hn, ry, rn, e1, e2, -⟩ := hM.1.opn g
  repeat' first
    | with_reducible assumption
    | with_reducible refine And.intro ?_ ?_
    | with_reducible exact hQ _ (hM.set hy)
    | simp only [eX3_knock_0, eX3_knock_0N, eX3_knock_1, eX3_knock_2, eX3_knock_5, eX3_knock_5N, eX3_knock_6, eX3_knock_6R, eX3_knock_7, eX3_knock_10, eX3_knock_11, eX3_knock_12, eX3_knock_15, eX3_knock_15N, eX3_knock_16, eX3_knock_19, ite_le, n45, n54, true_or, or_true, false_or, or_false, false_and, and_false, kx_l, kx_r, go_s, gl_s, gi_s, gb_s2, gb_s3, gq_s, wt_nil, wt_int, wt_long, wt_ref, wt_null, nl_int, nl_long, nl_ref, nl_null, nl_none, rf_n, rf_s, rf_st, tl_s, tl_n, g0, gS, ex1, nb_b, nb_0, nb_1, nf_i, nf_l, nf_ra, nf_ro, nf_na, nf_no, nf_b0, nf_z0, t45_4, t45_5, true_and, and_true, List.set_cons_zero, List.set_cons_succ, List.length_cons, List.length_nil, rd_s, upw_s, ne_eq, not_false_eq_true, Nat.zero_add, Nat.add_zero, if_true, if_false, eq_self, hy, ry, upw2q]
    | split
    | with_reducible intro _
    | omega
end
