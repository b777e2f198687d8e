section
section
variable {g : RO} {Q : Ot → Hw → Prop} {w0 w : Hw}
set_option maxHeartbeats 4000000 in
theorem sJx4a65c_fastRemove_b59b0 {L D cap : Nat} {mc n i : Int32} {h : Nat → Option Nat} (hL : w L = some (.inr (3, [.int mc, .ref D, .int n]))) (hD : w D = some (.inl (5, cap, qc h))) (hc : cap = 10 ∨ cap = 15) (hr : ∀ i b, h i = some b → isRow w b) (k0 : 0 ≤ i.toInt) (k1 : i.toInt < n.toInt) (hn : n.toInt ≤ (cap : Int)) (hQ : ∀ w', LPo g w w' L D (n - 1) (HRm h n.toNatClampNeg i.toNatClampNeg) → Q (.inl none) w') : WP (MJx4a65c_fastRemove_b59b0 g) Q (0, [some (.ref L), some (.ref D), some (.int i), none], [], w, 0, 0) := by
  have rL := rd_e (g := g) hL
  have rD := rd_e (g := g) hD
  have n1 : L ≠ D := fun e => by
    rw [e, hD] at hL
    cases hL
  have n2 := n1.symm
  obtain ⟨m, hm⟩ : ∃ m, n - 1 = m := ⟨_, rfl⟩
  obtain ⟨i1, hi1⟩ : ∃ i1, i + 1 = i1 := ⟨_, rfl⟩
  obtain ⟨d, hd⟩ : ∃ d, m - i = d := ⟨_, rfl⟩
  have z1 : (1 : Int32).toInt = 1 := rfl
  have e1 : m.toInt = n.toInt - 1 := by
    rw [← hm, i32_sub (by omega) (by omega), z1]
  have e2 : i1.toInt = i.toInt + 1 := by rw [← hi1]; exact i32p1 (by omega) (by omega)
  have e3 : d.toInt = m.toInt - i.toInt := by rw [← hd]; exact i32_sub (by omega) (by omega)
  have t1 : i.toNatClampNeg = i.toInt.toNat := rfl
  have t2 : i1.toNatClampNeg = i1.toInt.toNat := rfl
  have t3 : d.toNatClampNeg = d.toInt.toNat := rfl
  have t4 : m.toNatClampNeg = m.toInt.toNat := rfl
  have t5 : n.toNatClampNeg = n.toInt.toNat := rfl
  have mv : vp_in m cap := vpiM (by omega) (by omega)
  have q1 : upw w L (.inr (3, [.int (mc + 1), .ref D, .int n])) D = some (.inl (5, cap, qc h)) := by rw [upw_n n2]; exact hD
  have tr : ∀ b, isRow w b → isRow (upw w L (.inr (3, [.int (mc + 1), .ref D, .int n]))) b := fun b hb => isRow_up hb hL (fun z e => by cases e)
  rw [hm] at hQ
  simp only [eJx4a65c_fastRemove_b59b0_0, eJx4a65c_fastRemove_b59b0_0N, eJx4a65c_fastRemove_b59b0_1, eJx4a65c_fastRemove_b59b0_1R, eJx4a65c_fastRemove_b59b0_2, eJx4a65c_fastRemove_b59b0_5, eJx4a65c_fastRemove_b59b0_10, eJx4a65c_fastRemove_b59b0_10N, eJx4a65c_fastRemove_b59b0_11, eJx4a65c_fastRemove_b59b0_14, eJx4a65c_fastRemove_b59b0_16, eJx4a65c_fastRemove_b59b0_16R, eJx4a65c_fastRemove_b59b0_17, eJx4a65c_fastRemove_b59b0_18, ite_le, n45, n54, true_or, or_true, false_or, or_false, false_and, and_false, kx_l, kx_r, go_s, gl_s, gi_s, gb_s2, gb_s3, gq_s, wt_nil, wt_int, wt_long, wt_ref, wt_null, nl_int, nl_long, nl_ref, nl_null, nl_none, rf_n, rf_s, rf_st, tl_s, tl_n, g0, gS, ex1, nb_b, nb_0, nb_1, nf_i, nf_l, nf_ra, nf_ro, nf_na, nf_no, nf_b0, nf_z0, t45_4, t45_5, true_and, and_true, List.set_cons_zero, List.set_cons_succ, List.length_cons, List.length_nil, rd_s, upw_s, ne_eq, not_false_eq_true, Nat.zero_add, Nat.add_zero, if_true, if_false, eq_self, rL, hL, hm]
  repeat' first | with_reducible refine And.intro ?_ ?_ | omega
  split
  · next hle =>
    have hle := i32_lt hle
    have g1 : i1.toNatClampNeg + d.toNatClampNeg ≤ cap := by omega
    have g2 : i.toNatClampNeg + d.toNatClampNeg ≤ cap := by omega
    simp only [eJx4a65c_fastRemove_b59b0_22, eJx4a65c_fastRemove_b59b0_22N, eJx4a65c_fastRemove_b59b0_23, eJx4a65c_fastRemove_b59b0_26, eJx4a65c_fastRemove_b59b0_26N, eJx4a65c_fastRemove_b59b0_27, eJx4a65c_fastRemove_b59b0_31O, eJx4a65c_fastRemove_b59b0_31B, eJx4a65c_fastRemove_b59b0_34, eJx4a65c_fastRemove_b59b0_34N, eJx4a65c_fastRemove_b59b0_35, eJx4a65c_fastRemove_b59b0_35N, eJx4a65c_fastRemove_b59b0_36, eJx4a65c_fastRemove_b59b0_37IR, eJx4a65c_fastRemove_b59b0_37RR, eJx4a65c_fastRemove_b59b0_38, eJx4a65c_fastRemove_b59b0_41, eJx4a65c_fastRemove_b59b0_42N, eJx4a65c_fastRemove_b59b0_42R, eJx4a65c_fastRemove_b59b0_43, ite_le, n45, n54, true_or, or_true, false_or, or_false, false_and, and_false, kx_l, kx_r, go_s, gl_s, gi_s, gb_s2, gb_s3, gq_s, wt_nil, wt_int, wt_long, wt_ref, wt_null, nl_int, nl_long, nl_ref, nl_null, nl_none, rf_n, rf_s, rf_st, tl_s, tl_n, g0, gS, ex1, nb_b, nb_0, nb_1, nf_i, nf_l, nf_ra, nf_ro, nf_na, nf_no, nf_b0, nf_z0, t45_4, t45_5, true_and, and_true, List.set_cons_zero, List.set_cons_succ, List.length_cons, List.length_nil, rd_s, upw_s, ne_eq, not_false_eq_true, Nat.zero_add, Nat.add_zero, if_true, if_false, eq_self, hi1, hd, hL, n1, n2, upw_n, rd_n, hD, upw2q, i32_z k0, i32_z (show 0 ≤ i1.toInt by omega), i32_z (show 0 ≤ d.toInt by omega), eJx4a65c_fastRemove_b59b0_31O q1 q1]
    with_reducible refine And.intro ?_ ?_
    omega
    with_reducible refine And.intro ?_ ?_
    with_reducible assumption
    with_reducible refine And.intro ?_ ?_
    with_reducible assumption
    with_reducible refine And.intro ?_ ?_
    with_reducible exact fun j y _ hy => gl_Roww (tr _ (hr _ _ hy)) (fun _ => trivial)
    with_reducible refine And.intro ?_ ?_
    omega
    with_reducible refine And.intro ?_ ?_
    with_reducible assumption
    with_reducible refine And.intro ?_ ?_
    omega
    with_reducible refine And.intro ?_ ?_
    omega
    all_goals refine hQ _ (LPom (D' := D) (cap' := cap) (mc' := mc + 1) hL (by rw [upw_n n1]; exact upw_s _ _ _) (upw_s _ _ _) hc (by omega) (by omega) (fun a a1 a2 => by simp only [upw_n a1, upw_n a2]) (Or.inl ⟨rfl, cap, _, hD⟩) (va_up_row (cpy_row hr hr) (fun _ e => by cases e)) (HRm.mk1 (by omega) (by omega) (by omega) (by omega)))
  · next hle =>
    have hle := i32_nlt hle
    simp only [eJx4a65c_fastRemove_b59b0_34, eJx4a65c_fastRemove_b59b0_34N, eJx4a65c_fastRemove_b59b0_35, eJx4a65c_fastRemove_b59b0_35N, eJx4a65c_fastRemove_b59b0_36, eJx4a65c_fastRemove_b59b0_37IR, eJx4a65c_fastRemove_b59b0_37RR, eJx4a65c_fastRemove_b59b0_38, eJx4a65c_fastRemove_b59b0_41, eJx4a65c_fastRemove_b59b0_42N, eJx4a65c_fastRemove_b59b0_42R, eJx4a65c_fastRemove_b59b0_43, ite_le, n45, n54, true_or, or_true, false_or, or_false, false_and, and_false, kx_l, kx_r, go_s, gl_s, gi_s, gb_s2, gb_s3, gq_s, wt_nil, wt_int, wt_long, wt_ref, wt_null, nl_int, nl_long, nl_ref, nl_null, nl_none, rf_n, rf_s, rf_st, tl_s, tl_n, g0, gS, ex1, nb_b, nb_0, nb_1, nf_i, nf_l, nf_ra, nf_ro, nf_na, nf_no, nf_b0, nf_z0, t45_4, t45_5, true_and, and_true, List.set_cons_zero, List.set_cons_succ, List.length_cons, List.length_nil, rd_s, upw_s, ne_eq, not_false_eq_true, Nat.zero_add, Nat.add_zero, if_true, if_false, eq_self, rL, hL, hm, n1, n2, upw_n, rd_n, hD, upw2q]
    repeat' first | with_reducible assumption | with_reducible refine And.intro ?_ ?_ | omega
    all_goals refine hQ _ (LPom (D' := D) (cap' := cap) (mc' := mc + 1) hL (by rw [upw_n n1]; exact upw_s _ _ _) (upw_s _ _ _) hc (by omega) (by omega) (fun a a1 a2 => by rw [upw_n a2, upw_n a1]; first | done | (rw [upw_n a1])) (Or.inl ⟨rfl, cap, _, hD⟩) (va_up_row hr (fun _ e => by cases e)) (HRm.mk2 (by omega) (by omega) (by omega)))
set_option maxHeartbeats 4000000 in
theorem sJx4a65c_remove_915e3 {L D cap : Nat} {n i : Int32} {h : Nat → Option Nat} (hl : LL g w L D cap n h) (hr : ∀ i b, h i = some b → isRow w b) (k0 : 0 ≤ i.toInt) (k1 : i.toInt < n.toInt) (hN : h i.toNatClampNeg = none → ∀ w', LPo g w w' L D (n - 1) (HRm h n.toNatClampNeg i.toNatClampNeg) → Q (.inl (some .null)) w') (hR : ∀ b, h i.toNatClampNeg = some b → ∀ w', LPo g w w' L D (n - 1) (HRm h n.toNatClampNeg i.toNatClampNeg) → Q (.inl (some (.ref b))) w') : WP (MJx4a65c_remove_915e3 g) Q (0, [some (.ref L), some (.int i), none, none], [], w, 0, 0) := by
  obtain ⟨mc, hL, rL, rD, hn0, hn1, n1, n2⟩ := hl.opn
  have iv : vp_in i cap := vpiM k0 (by omega)
  have hD : w D = some (.inl (5, cap, qc h)) ∧ (cap = 10 ∨ cap = 15) := by
    rcases hl.2.1 with h2 | ⟨rfl, -⟩
    · exact h2
    · omega
  simp only [eJx4a65c_remove_915e3_0, eJx4a65c_remove_915e3_1, eJx4a65c_remove_915e3_1N, eJx4a65c_remove_915e3_2, eJx4a65c_remove_915e3_5, eJx4a65c_remove_915e3_8, eJx4a65c_remove_915e3_8R, eJx4a65c_remove_915e3_8N, eJx4a65c_remove_915e3_9, eJx4a65c_remove_915e3_9N, eJx4a65c_remove_915e3_10, eJx4a65c_remove_915e3_13, eJx4a65c_remove_915e3_13N, eJx4a65c_remove_915e3_14, eJx4a65c_remove_915e3_14N, eJx4a65c_remove_915e3_15, eJ15_checkIndex_7cf53_0, eJ15_checkIndex_7cf53_3R, eJ15_checkIndex_7cf53_3N, eJ15_checkIndex_7cf53_6, eJ3_checkIndex_8e157_0, eJ3_checkIndex_8e157_4, eJ3_checkIndex_8e157_9, eJ3_checkIndex_8e157_9N, eJ3_checkIndex_8e157_10, eJ3_checkIndex_8e157_16, ite_le, n45, n54, true_or, or_true, false_or, or_false, false_and, and_false, kx_l, kx_r, go_s, gl_s, gi_s, gb_s2, gb_s3, gq_s, wt_nil, wt_int, wt_long, wt_ref, wt_null, nl_int, nl_long, nl_ref, nl_null, nl_none, rf_n, rf_s, rf_st, tl_s, tl_n, g0, gS, ex1, nb_b, nb_0, nb_1, nf_i, nf_l, nf_ra, nf_ro, nf_na, nf_no, nf_b0, nf_z0, t45_4, t45_5, true_and, and_true, List.set_cons_zero, List.set_cons_succ, List.length_cons, List.length_nil, rd_s, upw_s, ne_eq, not_false_eq_true, Nat.zero_add, Nat.add_zero, if_true, if_false, eq_self, rL, rD, i32_z k0, i32_t k1]
  repeat' first | with_reducible assumption | with_reducible refine And.intro ?_ ?_ | omega
  · intro hh
    simp only [eJx4a65c_remove_915e3_17, eJx4a65c_remove_915e3_17N, eJx4a65c_remove_915e3_18, eJx4a65c_remove_915e3_18N, eJx4a65c_remove_915e3_19, eJx4a65c_remove_915e3_19N, eJx4a65c_remove_915e3_20, eJx4a65c_remove_915e3_21R, eJx4a65c_remove_915e3_21N, ite_le, n45, n54, true_or, or_true, false_or, or_false, false_and, and_false, kx_l, kx_r, go_s, gl_s, gi_s, gb_s2, gb_s3, gq_s, wt_nil, wt_int, wt_long, wt_ref, wt_null, nl_int, nl_long, nl_ref, nl_null, nl_none, rf_n, rf_s, rf_st, tl_s, tl_n, g0, gS, ex1, nb_b, nb_0, nb_1, nf_i, nf_l, nf_ra, nf_ro, nf_na, nf_no, nf_b0, nf_z0, t45_4, t45_5, true_and, and_true, List.set_cons_zero, List.set_cons_succ, List.length_cons, List.length_nil, rd_s, upw_s, ne_eq, not_false_eq_true, Nat.zero_add, Nat.add_zero, if_true, if_false, eq_self, rL]
    repeat' first | with_reducible refine And.intro ?_ ?_ | omega
    refine sJx4a65c_fastRemove_b59b0 hL hD.1 hD.2 hr k0 k1 hn1 (fun w' z => ?_)
    simp only [eJx4a65c_remove_915e3_24, eJx4a65c_remove_915e3_24N, eJx4a65c_remove_915e3_25, eJx4a65c_remove_915e3_25N, ite_le, n45, n54, true_or, or_true, false_or, or_false, false_and, and_false, kx_l, kx_r, go_s, gl_s, gi_s, gb_s2, gb_s3, gq_s, wt_nil, wt_int, wt_long, wt_ref, wt_null, nl_int, nl_long, nl_ref, nl_null, nl_none, rf_n, rf_s, rf_st, tl_s, tl_n, g0, gS, ex1, nb_b, nb_0, nb_1, nf_i, nf_l, nf_ra, nf_ro, nf_na, nf_no, nf_b0, nf_z0, t45_4, t45_5, true_and, and_true, List.set_cons_zero, List.set_cons_succ, List.length_cons, List.length_nil, rd_s, upw_s, ne_eq, not_false_eq_true, Nat.zero_add, Nat.add_zero, if_true, if_false]
    repeat' first | with_reducible refine And.intro ?_ ?_ | omega
    exact hN hh _ z
  · intro b hh
    simp only [eJx4a65c_remove_915e3_17, eJx4a65c_remove_915e3_17N, eJx4a65c_remove_915e3_18, eJx4a65c_remove_915e3_18N, eJx4a65c_remove_915e3_19, eJx4a65c_remove_915e3_19N, eJx4a65c_remove_915e3_20, eJx4a65c_remove_915e3_21R, eJx4a65c_remove_915e3_21N, ite_le, n45, n54, true_or, or_true, false_or, or_false, false_and, and_false, kx_l, kx_r, go_s, gl_s, gi_s, gb_s2, gb_s3, gq_s, wt_nil, wt_int, wt_long, wt_ref, wt_null, nl_int, nl_long, nl_ref, nl_null, nl_none, rf_n, rf_s, rf_st, tl_s, tl_n, g0, gS, ex1, nb_b, nb_0, nb_1, nf_i, nf_l, nf_ra, nf_ro, nf_na, nf_no, nf_b0, nf_z0, t45_4, t45_5, true_and, and_true, List.set_cons_zero, List.set_cons_succ, List.length_cons, List.length_nil, rd_s, upw_s, ne_eq, not_false_eq_true, Nat.zero_add, Nat.add_zero, if_true, if_false, eq_self, rL]
    repeat' first | with_reducible refine And.intro ?_ ?_ | omega
    refine sJx4a65c_fastRemove_b59b0 hL hD.1 hD.2 hr k0 k1 hn1 (fun w' z => ?_)
    simp only [eJx4a65c_remove_915e3_24, eJx4a65c_remove_915e3_24N, eJx4a65c_remove_915e3_25, eJx4a65c_remove_915e3_25N, ite_le, n45, n54, true_or, or_true, false_or, or_false, false_and, and_false, kx_l, kx_r, go_s, gl_s, gi_s, gb_s2, gb_s3, gq_s, wt_nil, wt_int, wt_long, wt_ref, wt_null, nl_int, nl_long, nl_ref, nl_null, nl_none, rf_n, rf_s, rf_st, tl_s, tl_n, g0, gS, ex1, nb_b, nb_0, nb_1, nf_i, nf_l, nf_ra, nf_ro, nf_na, nf_no, nf_b0, nf_z0, t45_4, t45_5, true_and, and_true, List.set_cons_zero, List.set_cons_succ, List.length_cons, List.length_nil, rd_s, upw_s, ne_eq, not_false_eq_true, Nat.zero_add, Nat.add_zero, if_true, if_false]
    repeat' first | with_reducible refine And.intro ?_ ?_ | omega
    exact hR b hh _ z
end
end
