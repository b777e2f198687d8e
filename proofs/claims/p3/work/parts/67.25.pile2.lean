section
variable {g : RO} {Q : Ot → Hw → Prop} {w0 w : Hw} {x nA cA lA : Nat} {kn : Int32}
theorem i8 : (8 : Int32).toNatClampNeg = 8 := rfl
theorem i6 : (6 : Int32).toNatClampNeg = 6 := rfl
theorem i12 : (12 : Int32).toNatClampNeg = 12 := rfl
theorem n8 : ((8 : Int32) < 0) = False := eq_false (by decide)
theorem n6 : ((6 : Int32) < 0) = False := eq_false (by decide)
theorem n12' : ((12 : Int32) < 0) = False := eq_false (by decide)
set_option maxHeartbeats 4000000 in
theorem sX1_init (hx : w x = some (.inr (5, [.null, .null, .null, .int 0, .int 0, .int 0, .int 0]))) (hQ : ∀ (w' : Hw) (nA cA lA : Nat), RC w' x nA cA lA 0 → (∀ (a : Nat) (o : Ob), w a = some o → a ≠ x → w' a = some o) → (∀ (a : Nat) (o : Ob), g.2 a = some o → w a = none → w' a = none) → w nA = none → Q (.inl none) w') : WP (MX1_init g) Q (0, [some (.ref x)], [], w, 0, 0) := by
  have fr : ∀ {w1 : Hw} {q : Nat} {o : Ob}, rd g w1 q = none → w1 x = some o → x ≠ q := fun h h2 e => by
    subst e
    have h3 := rd_none h
    rw [h2] at h3
    cases h3
  simp only [eX1_init_0, eX1_init_0N, eX1_init_1, eX1_init_4, eX1_init_4N, eX1_init_5, eX1_init_7, eX1_init_9, eX1_init_12, eX1_init_12N, eX1_init_13, eX1_init_15, eX1_init_18, eX1_init_21, eX1_init_21N, eX1_init_22, eX1_init_24, eX1_init_27, eX1_init_30, eX1_init_30N, eX1_init_31, eX1_init_32, eX1_init_35, eX1_init_35N, eX1_init_36, eX1_init_37, eX1_init_40, eX1_init_40N, eX1_init_41, eX1_init_42, eX1_init_45, eX1_init_45N, eX1_init_46, eX1_init_47, eX1_init_50, ite_le, n45, n54, true_or, or_true, false_or, or_false, false_and, and_false, kx_l, kx_r, go_s, gl_s, gi_s, gb_s2, gb_s3, gq_s, wt_nil, wt_int, wt_long, wt_ref, wt_null, nl_int, nl_long, nl_ref, nl_null, nl_none, rf_n, rf_s, rf_st, tl_s, tl_n, g0, gS, ex1, nb_b, nb_0, nb_1, nf_i, nf_l, nf_ra, nf_ro, nf_na, nf_no, nf_b0, nf_z0, t45_4, t45_5, true_and, and_true, List.set_cons_zero, List.set_cons_succ, List.length_cons, List.length_nil, rd_s, upw_s, ne_eq, not_false_eq_true, Nat.zero_add, Nat.add_zero, tyX1, i8, i6, i12, n8, n6, n12', upw_n, hx]
  repeat' first | with_reducible refine And.intro ?_ ?_ | omega
  intro q1 hq1
  have d1 : x ≠ q1 := fr hq1 hx
  simp only [eX1_init_0, eX1_init_0N, eX1_init_1, eX1_init_4, eX1_init_4N, eX1_init_5, eX1_init_7, eX1_init_9, eX1_init_12, eX1_init_12N, eX1_init_13, eX1_init_15, eX1_init_18, eX1_init_21, eX1_init_21N, eX1_init_22, eX1_init_24, eX1_init_27, eX1_init_30, eX1_init_30N, eX1_init_31, eX1_init_32, eX1_init_35, eX1_init_35N, eX1_init_36, eX1_init_37, eX1_init_40, eX1_init_40N, eX1_init_41, eX1_init_42, eX1_init_45, eX1_init_45N, eX1_init_46, eX1_init_47, eX1_init_50, ite_le, n45, n54, true_or, or_true, false_or, or_false, false_and, and_false, kx_l, kx_r, go_s, gl_s, gi_s, gb_s2, gb_s3, gq_s, wt_nil, wt_int, wt_long, wt_ref, wt_null, nl_int, nl_long, nl_ref, nl_null, nl_none, rf_n, rf_s, rf_st, tl_s, tl_n, g0, gS, ex1, nb_b, nb_0, nb_1, nf_i, nf_l, nf_ra, nf_ro, nf_na, nf_no, nf_b0, nf_z0, t45_4, t45_5, true_and, and_true, List.set_cons_zero, List.set_cons_succ, List.length_cons, List.length_nil, rd_s, upw_s, ne_eq, not_false_eq_true, Nat.zero_add, Nat.add_zero, tyX1, i8, i6, i12, n8, n6, n12', upw_n, hx, d1]
  repeat' first | with_reducible refine And.intro ?_ ?_ | omega
  intro q2 hq2
  obtain ⟨e1, hq2⟩ := rd_up hq2
  obtain ⟨d2, hq2⟩ := rd_up hq2
  have d3 : x ≠ q2 := fun e => e1 e.symm
  simp only [eX1_init_0, eX1_init_0N, eX1_init_1, eX1_init_4, eX1_init_4N, eX1_init_5, eX1_init_7, eX1_init_9, eX1_init_12, eX1_init_12N, eX1_init_13, eX1_init_15, eX1_init_18, eX1_init_21, eX1_init_21N, eX1_init_22, eX1_init_24, eX1_init_27, eX1_init_30, eX1_init_30N, eX1_init_31, eX1_init_32, eX1_init_35, eX1_init_35N, eX1_init_36, eX1_init_37, eX1_init_40, eX1_init_40N, eX1_init_41, eX1_init_42, eX1_init_45, eX1_init_45N, eX1_init_46, eX1_init_47, eX1_init_50, ite_le, n45, n54, true_or, or_true, false_or, or_false, false_and, and_false, kx_l, kx_r, go_s, gl_s, gi_s, gb_s2, gb_s3, gq_s, wt_nil, wt_int, wt_long, wt_ref, wt_null, nl_int, nl_long, nl_ref, nl_null, nl_none, rf_n, rf_s, rf_st, tl_s, tl_n, g0, gS, ex1, nb_b, nb_0, nb_1, nf_i, nf_l, nf_ra, nf_ro, nf_na, nf_no, nf_b0, nf_z0, t45_4, t45_5, true_and, and_true, List.set_cons_zero, List.set_cons_succ, List.length_cons, List.length_nil, rd_s, upw_s, ne_eq, not_false_eq_true, Nat.zero_add, Nat.add_zero, tyX1, i8, i6, i12, n8, n6, n12', upw_n, hx, d1, d2, d3]
  repeat' first | with_reducible refine And.intro ?_ ?_ | omega
  intro q3 hq3
  obtain ⟨e2, hq3⟩ := rd_up hq3
  obtain ⟨d4, hq3⟩ := rd_up hq3
  obtain ⟨-, hq3⟩ := rd_up hq3
  obtain ⟨d5, hq3⟩ := rd_up hq3
  have d6 : x ≠ q3 := fun e => e2 e.symm
  have d7 : q1 ≠ x := fun e => d1 e.symm
  have d8 : q1 ≠ q2 := fun e => d2 e.symm
  have d9 : q1 ≠ q3 := fun e => d5 e.symm
  have d10 : q2 ≠ q3 := fun e => d4 e.symm
  simp only [eX1_init_0, eX1_init_0N, eX1_init_1, eX1_init_4, eX1_init_4N, eX1_init_5, eX1_init_7, eX1_init_9, eX1_init_12, eX1_init_12N, eX1_init_13, eX1_init_15, eX1_init_18, eX1_init_21, eX1_init_21N, eX1_init_22, eX1_init_24, eX1_init_27, eX1_init_30, eX1_init_30N, eX1_init_31, eX1_init_32, eX1_init_35, eX1_init_35N, eX1_init_36, eX1_init_37, eX1_init_40, eX1_init_40N, eX1_init_41, eX1_init_42, eX1_init_45, eX1_init_45N, eX1_init_46, eX1_init_47, eX1_init_50, ite_le, n45, n54, true_or, or_true, false_or, or_false, false_and, and_false, kx_l, kx_r, go_s, gl_s, gi_s, gb_s2, gb_s3, gq_s, wt_nil, wt_int, wt_long, wt_ref, wt_null, nl_int, nl_long, nl_ref, nl_null, nl_none, rf_n, rf_s, rf_st, tl_s, tl_n, g0, gS, ex1, nb_b, nb_0, nb_1, nf_i, nf_l, nf_ra, nf_ro, nf_na, nf_no, nf_b0, nf_z0, t45_4, t45_5, true_and, and_true, List.set_cons_zero, List.set_cons_succ, List.length_cons, List.length_nil, rd_s, upw_s, ne_eq, not_false_eq_true, Nat.zero_add, Nat.add_zero, tyX1, i8, i6, i12, n8, n6, n12', upw_n, hx, d1, d2, d3, d4, d5, d6]
  repeat' first | with_reducible refine And.intro ?_ ?_ | omega
  refine hQ _ q1 q2 q3 ⟨0, 0, 0, fun _ => 0, fun _ => none, fun _ => none, upw_s _ _ _, ?_, ?_, ?_, (fun i b z => by cases z), (fun i b z => by cases z), by decide, by decide⟩ ?_ ?_ (rd_none hq1)
  · simp only [upw_n, upw_s, ne_eq, d1, d2, d3, d4, d5, d6, d7, d8, d9, d10, e1, e2, not_false_eq_true]
  · simp only [upw_n, upw_s, ne_eq, d1, d2, d3, d4, d5, d6, d7, d8, d9, d10, e1, e2, not_false_eq_true]
  · simp only [upw_n, upw_s, ne_eq, d1, d2, d3, d4, d5, d6, d7, d8, d9, d10, e1, e2, not_false_eq_true]
  · intro a o ha hax
    have k1 : a ≠ q1 := fun e => by
      subst e
      have h3 := rd_none hq1
      rw [ha] at h3
      cases h3
    have k2 : a ≠ q2 := fun e => by
      subst e
      have h3 := rd_none hq2
      rw [ha] at h3
      cases h3
    have k3 : a ≠ q3 := fun e => by
      subst e
      have h3 := rd_none hq3
      rw [ha] at h3
      cases h3
    simp only [upw_n, ne_eq, hax, k1, k2, k3, not_false_eq_true]
    exact ha
  · intro a o ha haw
    have k0 : a ≠ x := fun e => by
      subst e
      rw [hx] at haw
      cases haw
    have k1 : a ≠ q1 := fun e => by
      subst e
      have h3 := rd_ro hq1
      rw [ha] at h3
      cases h3
    have k2 : a ≠ q2 := fun e => by
      subst e
      have h3 := rd_ro hq2
      rw [ha] at h3
      cases h3
    have k3 : a ≠ q3 := fun e => by
      subst e
      have h3 := rd_ro hq3
      rw [ha] at h3
      cases h3
    simp only [upw_n, ne_eq, k0, k1, k2, k3, not_false_eq_true]
    exact haw
end
