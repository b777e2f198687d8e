section
variable {g : RO} {Q : Ot → Hw → Prop} {w0 w : Hw}
variable {y nM : Nat} {kd : Int32}
theorem vpi4 : vp_in 0 4 ∧ vp_in 1 4 ∧ vp_in 2 4 ∧ vp_in 3 4 := ⟨vpiM (by decide) (by decide), vpiM (by decide) (by decide), vpiM (by decide) (by decide), vpiM (by decide) (by decide)⟩
theorem MM.ext' {w' : Hw} (h : MM g w0 y nM kd w) (k : ext g w w') : MM g w0 y nM kd w' := by
  obtain ⟨cL, pL, D1, D2, c1, c2, th, rf, md, n, f, h1, h2, a1, a2, a3, a4, a5, a6, a7⟩ := h.1
  have ll : ∀ {L D cap : Nat} {n : Int32} {h : Nat → Option Nat}, LL g w L D cap n h → LL g w' L D cap n h := fun hl => hl.kp (fun fs e => k.1 _ _ e) (fun z e => k.1 _ _ e) (fun o e1 e2 => k.2 _ o e1 e2)
  exact ⟨⟨cL, pL, D1, D2, c1, c2, th, rf, md, n, f, h1, h2, k.1 _ _ a1, k.1 _ _ a2, ll a3, fun i b z => (a4 i b z).ext k, ll a5, fun i b z => (a6 i b z).ext k, a7⟩, h.2.ext k⟩
theorem MM.fr {q : Nat} {o : Ob} (h : MM g w0 y nM kd w) (hq : rd g w q = none) : MM g w0 y nM kd (upw w q o) := h.ext' (ext_up2 ext.rf hq)
set_option maxHeartbeats 4000000 in
theorem sX3_areInOrder {a b c d : Int64} (h1 : Q (.inl (some (.int 1))) w) (h0 : Q (.inl (some (.int 0))) w) : WP (MX3_areInOrder g) Q (0, [some (.long a), none, some (.long b), none, some (.long c), none, some (.long d), none], [], w, 0, 0) := by
  repeat' first
    | with_reducible assumption
    | with_reducible refine And.intro ?_ ?_
    | simp only [eX3_areInOrder_0, eX3_areInOrder_1, eX3_areInOrder_2, eX3_areInOrder_3, eX3_areInOrder_6, eX3_areInOrder_8, eX3_areInOrder_10, eX3_areInOrder_11, eX3_areInOrder_14, eX3_areInOrder_15, eX3_areInOrder_17, eX3_areInOrder_18, eX3_areInOrder_21, eX3_areInOrder_22, eX3_areInOrder_24, eX3_areInOrder_25, eX3_areInOrder_28, eX3_areInOrder_29, eX3_areInOrder_32, eX3_areInOrder_33, ite_le, n45, n54, true_or, or_true, false_or, or_false, false_and, and_false, kx_l, kx_r, go_s, gl_s, gi_s, gb_s2, gb_s3, gq_s, wt_nil, wt_int, wt_long, wt_ref, wt_null, nl_int, nl_long, nl_ref, nl_null, nl_none, rf_n, rf_s, rf_st, tl_s, tl_n, g0, gS, ex1, nb_b, nb_0, nb_1, nf_i, nf_l, nf_ra, nf_ro, nf_na, nf_no, nf_b0, nf_z0, t45_4, t45_5, true_and, and_true, List.set_cons_zero, List.set_cons_succ, List.length_cons, List.length_nil, rd_s, upw_s, ne_eq, not_false_eq_true, Nat.zero_add, Nat.add_zero, if_true, if_false, eq_self]
    | split
    | with_reducible intro _
    | omega
set_option maxHeartbeats 4000000 in
theorem sX3_fixed {p : Nat} (hp : isRow w p) (h1 : Q (.inl (some (.int 1))) w) (h0 : Q (.inl (some (.int 0))) w) : WP (MX3_fixed g) Q (0, [some (.ref p)], [], w, 0, 0) := by
  repeat' first
    | with_reducible assumption
    | with_reducible refine And.intro ?_ ?_
    | with_reducible refine gl_Row (by assumption) (fun _ => ?_)
    | with_reducible exact vpi4.1
    | with_reducible exact vpi4.2.1
    | with_reducible exact vpi4.2.2.1
    | with_reducible exact vpi4.2.2.2
    | simp only [eX3_fixed_0, eX3_fixed_0N, eX3_fixed_1, eX3_fixed_2, eX3_fixed_3, eX3_fixed_3N, eX3_fixed_4, eX3_fixed_5, eX3_fixed_6, eX3_fixed_7, eX3_fixed_10, eX3_fixed_10N, eX3_fixed_11, eX3_fixed_12, eX3_fixed_13, eX3_fixed_13N, eX3_fixed_14, eX3_fixed_15, eX3_fixed_16, eX3_fixed_17, eX3_fixed_20, eX3_fixed_21, eX3_fixed_24, eX3_fixed_25, ite_le, n45, n54, true_or, or_true, false_or, or_false, false_and, and_false, kx_l, kx_r, go_s, gl_s, gi_s, gb_s2, gb_s3, gq_s, wt_nil, wt_int, wt_long, wt_ref, wt_null, nl_int, nl_long, nl_ref, nl_null, nl_none, rf_n, rf_s, rf_st, tl_s, tl_n, g0, gS, ex1, nb_b, nb_0, nb_1, nf_i, nf_l, nf_ra, nf_ro, nf_na, nf_no, nf_b0, nf_z0, t45_4, t45_5, true_and, and_true, List.set_cons_zero, List.set_cons_succ, List.length_cons, List.length_nil, rd_s, upw_s, ne_eq, not_false_eq_true, Nat.zero_add, Nat.add_zero, if_true, if_false, eq_self]
    | split
    | with_reducible intro _
    | omega
set_option maxHeartbeats 4000000 in
theorem sX3_small {p : Nat} (hp : isRow w p) (h1 : Q (.inl (some (.int 1))) w) (h0 : Q (.inl (some (.int 0))) w) : WP (MX3_small g) Q (0, [some (.ref p)], [], w, 0, 0) := by
  repeat' first
    | with_reducible assumption
    | with_reducible refine And.intro ?_ ?_
    | with_reducible refine gl_Row (by assumption) (fun _ => ?_)
    | with_reducible exact vpi4.1
    | with_reducible exact vpi4.2.1
    | with_reducible exact vpi4.2.2.1
    | with_reducible exact vpi4.2.2.2
    | simp only [eX3_small_0, eX3_small_0N, eX3_small_1, eX3_small_2, eX3_small_3, eX3_small_6, eX3_small_7, eX3_small_10, eX3_small_10N, eX3_small_11, eX3_small_12, eX3_small_13, eX3_small_16, eX3_small_17, eX3_small_20, eX3_small_21, eX3_small_24, eX3_small_25, ite_le, n45, n54, true_or, or_true, false_or, or_false, false_and, and_false, kx_l, kx_r, go_s, gl_s, gi_s, gb_s2, gb_s3, gq_s, wt_nil, wt_int, wt_long, wt_ref, wt_null, nl_int, nl_long, nl_ref, nl_null, nl_none, rf_n, rf_s, rf_st, tl_s, tl_n, g0, gS, ex1, nb_b, nb_0, nb_1, nf_i, nf_l, nf_ra, nf_ro, nf_na, nf_no, nf_b0, nf_z0, t45_4, t45_5, true_and, and_true, List.set_cons_zero, List.set_cons_succ, List.length_cons, List.length_nil, rd_s, upw_s, ne_eq, not_false_eq_true, Nat.zero_add, Nat.add_zero, if_true, if_false, eq_self]
    | split
    | with_reducible intro _
    | omega
set_option maxHeartbeats 4000000 in
theorem sX3_valid {p : Nat} {a : Int64} {b : Int32} (hp : isRow w p) (h1 : Q (.inl (some (.int 1))) w) (h0 : Q (.inl (some (.int 0))) w) : WP (MX3_valid g) Q (0, [some (.ref p), some (.long a), none, some (.int b)], [], w, 0, 0) := by
  repeat' first
    | with_reducible assumption
    | with_reducible refine And.intro ?_ ?_
    | with_reducible refine gl_Row (by assumption) (fun _ => ?_)
    | with_reducible exact vpi4.1
    | with_reducible exact vpi4.2.1
    | with_reducible exact vpi4.2.2.1
    | with_reducible exact vpi4.2.2.2
    | with_reducible refine sX3_small (by assumption) ?_ ?_
    | simp only [eX3_valid_0, eX3_valid_1, eX3_valid_1N, eX3_valid_2, eX3_valid_3, eX3_valid_4, eX3_valid_5, eX3_valid_8, eX3_valid_9, eX3_valid_9N, eX3_valid_10, eX3_valid_11, eX3_valid_12, eX3_valid_13, eX3_valid_16, eX3_valid_17, eX3_valid_20, eX3_valid_20N, eX3_valid_21R, eX3_valid_21N, eX3_valid_24, eX3_valid_27, eX3_valid_28, eX3_valid_31, eX3_valid_32, ite_le, n45, n54, true_or, or_true, false_or, or_false, false_and, and_false, kx_l, kx_r, go_s, gl_s, gi_s, gb_s2, gb_s3, gq_s, wt_nil, wt_int, wt_long, wt_ref, wt_null, nl_int, nl_long, nl_ref, nl_null, nl_none, rf_n, rf_s, rf_st, tl_s, tl_n, g0, gS, ex1, nb_b, nb_0, nb_1, nf_i, nf_l, nf_ra, nf_ro, nf_na, nf_no, nf_b0, nf_z0, t45_4, t45_5, true_and, and_true, List.set_cons_zero, List.set_cons_succ, List.length_cons, List.length_nil, rd_s, upw_s, ne_eq, not_false_eq_true, Nat.zero_add, Nat.add_zero, if_true, if_false, eq_self]
    | split
    | with_reducible intro _
    | omega
set_option maxHeartbeats 4000000 in
theorem sX3_add {a b : Int64} (hQ : ∀ v : Int64, Q (.inl (some (.long v))) w) : WP (MX3_add g) Q (0, [some (.long a), none, some (.long b), none], [], w, 0, 0) := by
  repeat' first
    | with_reducible assumption
    | with_reducible refine And.intro ?_ ?_
    | with_reducible exact hQ _
    | simp only [eX3_add_0, eX3_add_1, eX3_add_4, eX3_add_5, eX3_add_6, eX3_add_7, ite_le, n45, n54, true_or, or_true, false_or, or_false, false_and, and_false, kx_l, kx_r, go_s, gl_s, gi_s, gb_s2, gb_s3, gq_s, wt_nil, wt_int, wt_long, wt_ref, wt_null, nl_int, nl_long, nl_ref, nl_null, nl_none, rf_n, rf_s, rf_st, tl_s, tl_n, g0, gS, ex1, nb_b, nb_0, nb_1, nf_i, nf_l, nf_ra, nf_ro, nf_na, nf_no, nf_b0, nf_z0, t45_4, t45_5, true_and, and_true, List.set_cons_zero, List.set_cons_succ, List.length_cons, List.length_nil, rd_s, upw_s, ne_eq, not_false_eq_true, Nat.zero_add, Nat.add_zero, if_true, if_false, eq_self]
    | split
    | with_reducible intro _
    | omega
set_option maxHeartbeats 4000000 in
theorem sX3_whichNow {p : Nat} {a : Int32} (hp : isRow w p) (hQ : ∀ v : Int32, Q (.inl (some (.int v))) w) : WP (MX3_whichNow g) Q (0, [some (.ref p), some (.int a)], [], w, 0, 0) := by
  repeat' first
    | with_reducible assumption
    | with_reducible refine And.intro ?_ ?_
    | with_reducible refine gl_Row (by assumption) (fun _ => ?_)
    | with_reducible exact vpi4.1
    | with_reducible exact vpi4.2.1
    | with_reducible exact vpi4.2.2.1
    | with_reducible exact vpi4.2.2.2
    | with_reducible refine sX3_valid (by assumption) ?_ ?_
    | with_reducible refine sX3_one (fun _ => ?_)
    | with_reducible exact hQ _
    | simp only [eX3_whichNow_0, eX3_whichNow_0N, eX3_whichNow_1, eX3_whichNow_2, eX3_whichNow_3, eX3_whichNow_4R, eX3_whichNow_4N, eX3_whichNow_7, eX3_whichNow_10, eX3_whichNow_10N, eX3_whichNow_11, eX3_whichNow_12, eX3_whichNow_13, eX3_whichNow_14R, eX3_whichNow_14N, eX3_whichNow_17, eX3_whichNow_20, eX3_whichNow_21, ite_le, n45, n54, true_or, or_true, false_or, or_false, false_and, and_false, kx_l, kx_r, go_s, gl_s, gi_s, gb_s2, gb_s3, gq_s, wt_nil, wt_int, wt_long, wt_ref, wt_null, nl_int, nl_long, nl_ref, nl_null, nl_none, rf_n, rf_s, rf_st, tl_s, tl_n, g0, gS, ex1, nb_b, nb_0, nb_1, nf_i, nf_l, nf_ra, nf_ro, nf_na, nf_no, nf_b0, nf_z0, t45_4, t45_5, true_and, and_true, List.set_cons_zero, List.set_cons_succ, List.length_cons, List.length_nil, rd_s, upw_s, ne_eq, not_false_eq_true, Nat.zero_add, Nat.add_zero, if_true, if_false, eq_self]
    | split
    | with_reducible intro _
    | omega
end
