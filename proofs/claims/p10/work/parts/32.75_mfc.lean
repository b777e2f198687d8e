section
section
variable {g : RO} {Q : Ot → Hw → Prop} {w0 w : Hw} {y nM : Nat} {kd th : Int32} {s : AS}
set_option maxHeartbeats 4000000 in
theorem fX1_init {x : Nat} (hx : w x = some (.inr (5, [.null, .null, .null, .int 0, .int 0, .int 0, .int 0]))) (hQ : ∀ (w' : Hw) (nA cA lA : Nat), RF w' x nA cA lA 0 S00 → (∀ (a : Nat) (o : Ob), w a = some o → a ≠ x → w' a = some o) → (∀ (a : Nat) (o : Ob), g.2 a = some o → w a = none → w' a = none) → w nA = none → Q (.inl none) w') : WP (MX1_init g) Q (0, [some (.ref x)], [], w, 0, 0) := by
  have fr : ∀ {w1 : Hw} {q : Nat} {o : Ob}, rd g w1 q = none → w1 x = some o → x ≠ q := fun h h2 e => by
    subst e
    have h3 := rd_none h
    rw [h2] at h3
    cases h3
  simp only [eX1_init_0, eX1_init_0N, eX1_init_1, eX1_init_4, eX1_init_4N, eX1_init_5, eX1_init_9, eX1_init_12, eX1_init_12N, eX1_init_13, eX1_init_18, eX1_init_21, eX1_init_21N, eX1_init_22, eX1_init_27, eX1_init_30, eX1_init_30N, eX1_init_31, eX1_init_35, eX1_init_35N, eX1_init_36, eX1_init_40, eX1_init_40N, eX1_init_41, eX1_init_45, eX1_init_45N, eX1_init_46, eX1_init_50, ite_le, n45, n54, true_or, or_true, false_or, or_false, false_and, and_false, kx_l, kx_r, go_s, gl_s, gi_s, gb_s2, gb_s3, gq_s, wt_nil, wt_int, wt_long, wt_ref, wt_null, nl_int, nl_long, nl_ref, nl_null, nl_none, rf_n, rf_s, rf_st, tl_s, tl_n, g0, gS, ex1, nb_b, nb_0, nb_1, nf_i, nf_l, nf_ra, nf_ro, nf_na, nf_no, nf_b0, nf_z0, t45_4, t45_5, true_and, and_true, List.set_cons_zero, List.set_cons_succ, List.length_cons, List.length_nil, rd_s, upw_s, ne_eq, not_false_eq_true, Nat.zero_add, Nat.add_zero, tyX1, i8, i6, i12, n8, n6, n12', upw_n, hx]
  repeat' first | with_reducible refine And.intro ?_ ?_ | omega
  intro q1 hq1
  have d1 : x ≠ q1 := fr hq1 hx
  simp only [eX1_init_0, eX1_init_0N, eX1_init_1, eX1_init_4, eX1_init_4N, eX1_init_5, eX1_init_9, eX1_init_12, eX1_init_12N, eX1_init_13, eX1_init_18, eX1_init_21, eX1_init_21N, eX1_init_22, eX1_init_27, eX1_init_30, eX1_init_30N, eX1_init_31, eX1_init_35, eX1_init_35N, eX1_init_36, eX1_init_40, eX1_init_40N, eX1_init_41, eX1_init_45, eX1_init_45N, eX1_init_46, eX1_init_50, ite_le, n45, n54, true_or, or_true, false_or, or_false, false_and, and_false, kx_l, kx_r, go_s, gl_s, gi_s, gb_s2, gb_s3, gq_s, wt_nil, wt_int, wt_long, wt_ref, wt_null, nl_int, nl_long, nl_ref, nl_null, nl_none, rf_n, rf_s, rf_st, tl_s, tl_n, g0, gS, ex1, nb_b, nb_0, nb_1, nf_i, nf_l, nf_ra, nf_ro, nf_na, nf_no, nf_b0, nf_z0, t45_4, t45_5, true_and, and_true, List.set_cons_zero, List.set_cons_succ, List.length_cons, List.length_nil, rd_s, upw_s, ne_eq, not_false_eq_true, Nat.zero_add, Nat.add_zero, tyX1, i8, i6, i12, n8, n6, n12', upw_n, hx, d1]
  repeat' first | with_reducible refine And.intro ?_ ?_ | omega
  intro q2 hq2
  obtain ⟨e1, hq2⟩ := rd_up hq2
  obtain ⟨d2, hq2⟩ := rd_up hq2
  have d3 : x ≠ q2 := fun e => e1 e.symm
  simp only [eX1_init_0, eX1_init_0N, eX1_init_1, eX1_init_4, eX1_init_4N, eX1_init_5, eX1_init_9, eX1_init_12, eX1_init_12N, eX1_init_13, eX1_init_18, eX1_init_21, eX1_init_21N, eX1_init_22, eX1_init_27, eX1_init_30, eX1_init_30N, eX1_init_31, eX1_init_35, eX1_init_35N, eX1_init_36, eX1_init_40, eX1_init_40N, eX1_init_41, eX1_init_45, eX1_init_45N, eX1_init_46, eX1_init_50, ite_le, n45, n54, true_or, or_true, false_or, or_false, false_and, and_false, kx_l, kx_r, go_s, gl_s, gi_s, gb_s2, gb_s3, gq_s, wt_nil, wt_int, wt_long, wt_ref, wt_null, nl_int, nl_long, nl_ref, nl_null, nl_none, rf_n, rf_s, rf_st, tl_s, tl_n, g0, gS, ex1, nb_b, nb_0, nb_1, nf_i, nf_l, nf_ra, nf_ro, nf_na, nf_no, nf_b0, nf_z0, t45_4, t45_5, true_and, and_true, List.set_cons_zero, List.set_cons_succ, List.length_cons, List.length_nil, rd_s, upw_s, ne_eq, not_false_eq_true, Nat.zero_add, Nat.add_zero, tyX1, i8, i6, i12, n8, n6, n12', upw_n, hx, d1, d2, d3]
  repeat' first | with_reducible refine And.intro ?_ ?_ | omega
  intro q3 hq3
  obtain ⟨e2, hq3⟩ := rd_up hq3
  obtain ⟨d4, hq3⟩ := rd_up hq3
  obtain ⟨-, hq3⟩ := rd_up hq3
  obtain ⟨d5, hq3⟩ := rd_up hq3
  have d6 : x ≠ q3 := fun e => e2 e.symm
  have d7 : q1 ≠ x := fun e => d1 e.symm
  have d8 : q1 ≠ q2 := fun e => d2 e.symm
  have d9 : q1 ≠ q3 := fun e => d5 e.symm
  have d10 : q2 ≠ q3 := fun e => d4 e.symm
  simp only [eX1_init_0, eX1_init_0N, eX1_init_1, eX1_init_4, eX1_init_4N, eX1_init_5, eX1_init_9, eX1_init_12, eX1_init_12N, eX1_init_13, eX1_init_18, eX1_init_21, eX1_init_21N, eX1_init_22, eX1_init_27, eX1_init_30, eX1_init_30N, eX1_init_31, eX1_init_35, eX1_init_35N, eX1_init_36, eX1_init_40, eX1_init_40N, eX1_init_41, eX1_init_45, eX1_init_45N, eX1_init_46, eX1_init_50, ite_le, n45, n54, true_or, or_true, false_or, or_false, false_and, and_false, kx_l, kx_r, go_s, gl_s, gi_s, gb_s2, gb_s3, gq_s, wt_nil, wt_int, wt_long, wt_ref, wt_null, nl_int, nl_long, nl_ref, nl_null, nl_none, rf_n, rf_s, rf_st, tl_s, tl_n, g0, gS, ex1, nb_b, nb_0, nb_1, nf_i, nf_l, nf_ra, nf_ro, nf_na, nf_no, nf_b0, nf_z0, t45_4, t45_5, true_and, and_true, List.set_cons_zero, List.set_cons_succ, List.length_cons, List.length_nil, rd_s, upw_s, ne_eq, not_false_eq_true, Nat.zero_add, Nat.add_zero, tyX1, i8, i6, i12, n8, n6, n12', upw_n, hx, d1, d2, d3, d4, d5, d6]
  repeat' first | with_reducible refine And.intro ?_ ?_ | omega
  refine hQ _ q1 q2 q3 ⟨fun _ => none, fun _ => none, ⟨upw_s _ _ _, ?_, ?_, ?_, (fun i b z => by cases z), (fun i b z => by cases z), show ¬ (0 : Int32) < 0 by decide, show ¬ (12 : Int32) < 0 by decide⟩, fun i hi => trivial, fun i hi => (z32 hi).elim⟩ ?_ ?_ (rd_none hq1)
  · simp only [upw_n, upw_s, ne_eq, d1, d2, d3, d4, d5, d6, d7, d8, d9, d10, e1, e2, not_false_eq_true]
  · simp only [upw_n, upw_s, ne_eq, d1, d2, d3, d4, d5, d6, d7, d8, d9, d10, e1, e2, not_false_eq_true]
  · simp only [upw_n, upw_s, ne_eq, d1, d2, d3, d4, d5, d6, d7, d8, d9, d10, e1, e2, not_false_eq_true]
  · intro a o ha hax
    have k1 : a ≠ q1 := fun e => by
      subst e
      have h3 := rd_none hq1
      rw [ha] at h3
      cases h3
    have k2 : a ≠ q2 := fun e => by
      subst e
      have h3 := rd_none hq2
      rw [ha] at h3
      cases h3
    have k3 : a ≠ q3 := fun e => by
      subst e
      have h3 := rd_none hq3
      rw [ha] at h3
      cases h3
    simp only [upw_n, ne_eq, hax, k1, k2, k3, not_false_eq_true]
    exact ha
  · intro a o ha haw
    have k0 : a ≠ x := fun e => by
      subst e
      rw [hx] at haw
      cases haw
    have k1 : a ≠ q1 := fun e => by
      subst e
      have h3 := rd_ro hq1
      rw [ha] at h3
      cases h3
    have k2 : a ≠ q2 := fun e => by
      subst e
      have h3 := rd_ro hq2
      rw [ha] at h3
      cases h3
    have k3 : a ≠ q3 := fun e => by
      subst e
      have h3 := rd_ro hq3
      rw [ha] at h3
      cases h3
    simp only [upw_n, ne_eq, k0, k1, k2, k3, not_false_eq_true]
    exact haw
theorem h0s {h1 h3 : Nat → Option Nat} {i1 : Int32} (h0n : ∀ i : Nat, (i : Int) < i1.toInt → h1 i = none) (hh : HAd h1 i1.toNatClampNeg none h3) (e1 : (i1 + 1).toInt = i1.toInt + 1) (i0 : 0 ≤ i1.toInt) {i : Nat} (hi : (i : Int) < (i1 + 1).toInt) : h3 i = none := by
  have t : i1.toNatClampNeg = i1.toInt.toNat := rfl
  rcases Nat.lt_or_ge i i1.toNatClampNeg with q | q
  · rw [hh.1 i q]
    exact h0n i (by omega)
  · have e : i = i1.toNatClampNeg := by omega
    rw [e]
    exact hh.2
set_option maxHeartbeats 4000000 in
theorem flX3_init_36 {y nM cL pL D2 : Nat} {h2 : Nat → Option Nat} (hE : EG g w) (hS : SG g) (hcl : w cL = none) (cp : cL ≠ pL) (hwn : w nM = none) (hQ : ∀ nM w', w nM = none → MF g w' y nM 0 0 S00 → FI g y w w' → Q (.inl none) w') : ∀ (d : Nat) (i1 : Int32) (w' : Hw) (D1 c1 : Nat) (h1 : Nat → Option Nat) (k m : Nat), FI g y w w' → w' y = some (.inr (7, [.int 0, .ref nM, .ref cL, .ref pL, .int 0, .int 0, .int 0])) → w' nM = some (.inl (0, 8, .inr (.inl fun _ => 0))) → LL g w' cL D1 c1 i1 h1 → (∀ i b, h1 i = some b → isRow w' b) → (∀ i : Nat, (i : Int) < i1.toInt → h1 i = none) → LL g w' pL D2 0 0 h2 → (∀ i b, h2 i = some b → isRow w' b) → w D1 = none → (6 : Int32).toInt - i1.toInt ≤ (d : Int) → i1.toInt ≤ 6 → (k : Int) ≤ 3 + i1.toInt → (m : Int) ≤ 14 + 15 * i1.toInt → WP (MX3_init g) Q (36, [some (.ref y), some (.int i1)], [], w', k, m) := by
  have z6 : (6 : Int32).toInt = 6 := rfl
  intro d
  induction d with
  | zero =>
    intro i1 w' D1 c1 h1 k m hF hy hn hl hr h0n hl2 hr2 hD hd hi km mm
    obtain rfl : i1 = 6 := Int32.toInt_inj.mp (by omega)
    have hD1 : w' D1 = some (.inl (5, c1, qc h1)) := by
      rcases hl.2.1 with ⟨z, -⟩ | ⟨z, -⟩
      · exact z
      · have k2 := hl.2.2.2
        omega
    have hD2 : w' D2 = none := by
      rcases hl2.2.1 with ⟨-, z⟩ | ⟨-, -, z, -⟩
      · omega
      · exact z
    rw [eX3_init_36]
    simp only [eX3_init_0, eX3_init_0N, eX3_init_1, eX3_init_4, eX3_init_4N, eX3_init_5, eX3_init_9, eX3_init_12, eX3_init_12N, eX3_init_13, eX3_init_16, eX3_init_16R, eX3_init_17, eX3_init_20, eX3_init_23, eX3_init_23N, eX3_init_24, eX3_init_27, eX3_init_27R, eX3_init_28, eX3_init_31, eX3_init_34, eX3_init_37, eX3_init_42, eX3_init_42N, eX3_init_43, eX3_init_46, eX3_init_47R, eX3_init_47N, eX3_init_50, eX3_init_50R, eX3_init_50N, eX3_init_51, eX3_init_57, ite_le, n45, n54, true_or, or_true, false_or, or_false, false_and, and_false, kx_l, kx_r, go_s, gl_s, gi_s, gb_s2, gb_s3, gq_s, wt_nil, wt_int, wt_long, wt_ref, wt_null, nl_int, nl_long, nl_ref, nl_null, nl_none, rf_n, rf_s, rf_st, tl_s, tl_n, g0, gS, ex1, nb_b, nb_0, nb_1, nf_i, nf_l, nf_ra, nf_ro, nf_na, nf_no, nf_b0, nf_z0, t45_4, t45_5, true_and, and_true, List.set_cons_zero, List.set_cons_succ, List.length_cons, List.length_nil, rd_s, upw_s, ne_eq, not_false_eq_true, Nat.zero_add, Nat.add_zero, if_true, if_false, eq_self, lt66]
    refine ⟨by omega, by omega, hQ nM _ hwn ⟨cL, pL, D1, D2, c1, 0, h1, h2, hy, hn, hl, hr, hl2, hr2, by decide, cp, ?_, fun i hi => ?_, fun i hi => ?_⟩ hF⟩
    · rintro rfl
      rw [hD1] at hD2
      cases hD2
    · rw [h0n i (by omega)]
      exact trivial
    · exact (z32 hi).elim
  | succ d ih =>
    intro i1 w' D1 c1 h1 k m hF hy hn hl hr h0n hl2 hr2 hD hd hi km mm
    by_cases h6 : i1.toInt = 6
    · exact ih i1 w' D1 c1 h1 k m hF hy hn hl hr h0n hl2 hr2 hD (by have := hl.2.2.1; omega) hi km mm
    have i0 := hl.2.2.1
    have lt6 : (i1 < 6) = True := i32_t (by omega)
    have e1 := i32p1 (c := i1) i0 (by omega)
    have fin : ∀ (w3 : Hw) (k' m' : Nat), LPo g w' w3 cL D1 (i1 + 1) (HAd h1 i1.toNatClampNeg none) → (k' : Int) ≤ 4 + i1.toInt → (m' : Int) ≤ 29 + 15 * i1.toInt → WP (MX3_init g) Q (36, [some (.ref y), some (.int (i1 + 1))], [], w3, k', m') := by
      intro w3 k' m' hlp kk' mm'
      obtain ⟨D3, c3, h3, l1, l2, f1, f2, fD, hh⟩ := hlp
      obtain ⟨mc, hcL⟩ := hl.1
      have nD : ∀ {a : Nat} {o : Ob}, w' a = some o → (∀ z, o ≠ .inl (5, z)) → a ≠ D1 := fun ha ho e => by
        rcases hl.2.1 with ⟨k, -⟩ | ⟨-, -, k, -⟩
        · rw [e, k] at ha
          cases ha
          exact ho _ rfl
        · rw [e, k] at ha
          cases ha
      have nDw : ∀ {a : Nat} {o : Ob}, w a = some o → a ≠ D1 := fun e z => by
        rw [z, hD] at e
        cases e
      have nLw : ∀ {a : Nat} {o : Ob}, w a = some o → a ≠ cL := fun e z => by
        rw [z, hcl] at e
        cases e
      obtain ⟨mcp, hpL⟩ := hl2.1
      refine ih _ w3 D3 c3 h3 _ _ ⟨fun a o e n => f1 _ _ (hF.1 _ _ e n) (nLw e) (nDw e), fun a o e n => f2 _ _ e (hF.2 _ _ e n)⟩ (f1 _ _ hy (ne_of hy hcL (fun e => by cases e)) (nD hy (fun _ e => by cases e))) (f1 _ _ hn (ne_of hn hcL (fun e => by cases e)) (nD hn (fun _ e => by cases e))) l1 l2 (fun i hi => h0s h0n hh e1 i0 hi) (hl2.kp (fun fs e => f1 _ _ e cp.symm (nD e (fun _ e => by cases e))) (fun z e => ?_) (fun o e n => f2 _ _ e n)) (fun i b z => ?_) ?_ (by omega) (by omega) (by omega) (by omega)
      · rcases hl2.2.1 with ⟨-, q⟩ | ⟨-, -, q, -⟩
        · omega
        · rw [q] at e
          cases e
      · obtain ⟨f0, hb⟩ := hr2 i b z
        exact ⟨f0, f1 _ _ hb (ne_of hb hcL (fun e => by cases e)) (nD hb (fun _ e => by cases e))⟩
      · rcases fD with rfl | ⟨fD, -⟩
        · exact hD
        · cases hw : w D3 with
          | none => rfl
          | some o =>
            by_cases h : D3 = y
            · rw [h, hy] at fD
              cases fD
            · rw [hF.1 _ _ hw h] at fD
              cases fD
    rw [eX3_init_36]
    simp only [eX3_init_37, eX3_init_42, eX3_init_43, eX3_init_46, eX3_init_57, ite_le, if_true, lt6]
    with_reducible refine go_YE hy ?_
    simp only [eX3_init_47N, wt_nil, g0, gS, ex1]
    with_reducible refine And.intro ?_ ?_
    with_reducible exact hl.gt
    with_reducible refine And.intro ?_ ?_
    omega
    with_reducible refine And.intro ?_ ?_
    omega
    with_reducible refine And.intro ?_ ?_
    omega
    with_reducible refine sJx4a65c_add_9ea2dN (hF.eg hE) hS hl hr (by omega) (fun _ _ => ?_)
    simp only [eX3_init_50, eX3_init_51, kx_l, nl_ref, tl_s]
    with_reducible exact fin _ _ _ (by assumption) (by omega) (by omega)
set_option maxHeartbeats 4000000 in
theorem fX3_init  (hE : EG g w) (hS : SG g) (hy : w y = some (.inr (7, [.int 0, .null, .null, .null, .int 0, .int 0, .int 0]))) (hQ : ∀ nM w', w nM = none → MF g w' y nM 0 0 S00 → FI g y w w' → Q (.inl none) w') : WP (MX3_init g) Q (0, [some (.ref y), none], [], w, 0, 0) := by
  have z0 : (0 : Int32).toInt = 0 := rfl
  have z6 : (6 : Int32).toInt = 6 := rfl
  simp only [eX3_init_0, eX3_init_0N, eX3_init_1, eX3_init_4, eX3_init_4N, eX3_init_5, ite_le, n45, n54, true_or, or_true, false_or, or_false, false_and, and_false, kx_l, kx_r, go_s, gl_s, gi_s, gb_s2, gb_s3, gq_s, wt_nil, wt_int, wt_long, wt_ref, wt_null, nl_int, nl_long, nl_ref, nl_null, nl_none, rf_n, rf_s, rf_st, tl_s, tl_n, g0, gS, ex1, nb_b, nb_0, nb_1, nf_i, nf_l, nf_ra, nf_ro, nf_na, nf_no, nf_b0, nf_z0, t45_4, t45_5, true_and, and_true, List.set_cons_zero, List.set_cons_succ, List.length_cons, List.length_nil, rd_s, upw_s, ne_eq, not_false_eq_true, Nat.zero_add, Nat.add_zero, if_true, if_false, eq_self, n8e]
  repeat' first | with_reducible refine And.intro ?_ ?_ | exact n8a | omega
  intro nM hqn
  have hqn' := rd_none hqn
  have ne : y ≠ nM := fun e => by
    rw [← e, hy] at hqn'
    cases hqn'
  simp only [eX3_init_9, ite_le, n45, n54, true_or, or_true, false_or, or_false, false_and, and_false, kx_l, kx_r, go_s, gl_s, gi_s, gb_s2, gb_s3, gq_s, wt_nil, wt_int, wt_long, wt_ref, wt_null, nl_int, nl_long, nl_ref, nl_null, nl_none, rf_n, rf_s, rf_st, tl_s, tl_n, g0, gS, ex1, nb_b, nb_0, nb_1, nf_i, nf_l, nf_ra, nf_ro, nf_na, nf_no, nf_b0, nf_z0, t45_4, t45_5, true_and, and_true, List.set_cons_zero, List.set_cons_succ, List.length_cons, List.length_nil, rd_s, upw_s, ne_eq, not_false_eq_true, Nat.zero_add, Nat.add_zero, if_true, if_false, eq_self, hy, ne, upw_n, tyX3]
  repeat' first | with_reducible refine And.intro ?_ ?_ | exact n8a | omega
  obtain ⟨w1, hw1⟩ : ∃ w1, upw (upw w nM (.inl (0, 8, .inr (.inl fun _ => 0)))) y (.inr (7, [.int 0, .ref nM, .null, .null, .int 0, .int 0, .int 0])) = w1 := ⟨_, rfl⟩
  rw [hw1]
  have hy1 : w1 y = some (.inr (7, [.int 0, .ref nM, .null, .null, .int 0, .int 0, .int 0])) := by
    rw [← hw1]
    exact upw_s _ _ _
  have hn1 : w1 nM = some (.inl (0, 8, .inr (.inl fun _ => 0))) := by
    rw [← hw1, upw_n ne.symm]
    exact upw_s _ _ _
  have hF1 : FI g y w w1 := by
    rw [← hw1]
    exact (FI.rf.ext (ext_up2 ext.rf hqn)).up (by
      rw [upw_n ne]
      exact hy)
  simp only [eX3_init_12, eX3_init_12N, eX3_init_13, eX3_init_16, eX3_init_16R, eX3_init_17, ite_le, n45, n54, true_or, or_true, false_or, or_false, false_and, and_false, kx_l, kx_r, go_s, gl_s, gi_s, gb_s2, gb_s3, gq_s, wt_nil, wt_int, wt_long, wt_ref, wt_null, nl_int, nl_long, nl_ref, nl_null, nl_none, rf_n, rf_s, rf_st, tl_s, tl_n, g0, gS, ex1, nb_b, nb_0, nb_1, nf_i, nf_l, nf_ra, nf_ro, nf_na, nf_no, nf_b0, nf_z0, t45_4, t45_5, true_and, and_true, List.set_cons_zero, List.set_cons_succ, List.length_cons, List.length_nil, rd_s, upw_s, ne_eq, not_false_eq_true, Nat.zero_add, Nat.add_zero, if_true, if_false, eq_self]
  repeat' first | with_reducible refine And.intro ?_ ?_ | exact n8a | omega
  intro cL hqc
  repeat' first | with_reducible refine And.intro ?_ ?_ | exact n8a | omega
  refine sInitF (hF1.eg hE) hqc (fun D1 w2 hk2 hl2 hd2 => ?_)
  have hy2 := hk2.1 _ _ hy1
  simp only [eX3_init_20, ite_le, n45, n54, true_or, or_true, false_or, or_false, false_and, and_false, kx_l, kx_r, go_s, gl_s, gi_s, gb_s2, gb_s3, gq_s, wt_nil, wt_int, wt_long, wt_ref, wt_null, nl_int, nl_long, nl_ref, nl_null, nl_none, rf_n, rf_s, rf_st, tl_s, tl_n, g0, gS, ex1, nb_b, nb_0, nb_1, nf_i, nf_l, nf_ra, nf_ro, nf_na, nf_no, nf_b0, nf_z0, t45_4, t45_5, true_and, and_true, List.set_cons_zero, List.set_cons_succ, List.length_cons, List.length_nil, rd_s, upw_s, ne_eq, not_false_eq_true, Nat.zero_add, Nat.add_zero, if_true, if_false, eq_self, hy2, tyX3]
  repeat' first | with_reducible refine And.intro ?_ ?_ | exact n8a | omega
  obtain ⟨w3, hw3⟩ : ∃ w3, upw w2 y (.inr (7, [.int 0, .ref nM, .ref cL, .null, .int 0, .int 0, .int 0])) = w3 := ⟨_, rfl⟩
  rw [hw3]
  have hy3 : w3 y = some (.inr (7, [.int 0, .ref nM, .ref cL, .null, .int 0, .int 0, .int 0])) := by
    rw [← hw3]
    exact upw_s _ _ _
  have hn3 : w3 nM = some (.inl (0, 8, .inr (.inl fun _ => 0))) := by
    rw [← hw3, upw_n ne.symm]
    exact hk2.1 _ _ hn1
  have hl3 : LL g w3 cL D1 0 0 (fun _ => none) := by
    rw [← hw3]
    exact hl2.up hy2 (fun _ e => by cases e) (fun _ e => by cases e)
  have hF3 : FI g y w w3 := by
    rw [← hw3]
    exact (hF1.ext hk2).up hy2
  simp only [eX3_init_23, eX3_init_23N, eX3_init_24, eX3_init_27, eX3_init_27R, eX3_init_28, ite_le, n45, n54, true_or, or_true, false_or, or_false, false_and, and_false, kx_l, kx_r, go_s, gl_s, gi_s, gb_s2, gb_s3, gq_s, wt_nil, wt_int, wt_long, wt_ref, wt_null, nl_int, nl_long, nl_ref, nl_null, nl_none, rf_n, rf_s, rf_st, tl_s, tl_n, g0, gS, ex1, nb_b, nb_0, nb_1, nf_i, nf_l, nf_ra, nf_ro, nf_na, nf_no, nf_b0, nf_z0, t45_4, t45_5, true_and, and_true, List.set_cons_zero, List.set_cons_succ, List.length_cons, List.length_nil, rd_s, upw_s, ne_eq, not_false_eq_true, Nat.zero_add, Nat.add_zero, if_true, if_false, eq_self]
  repeat' first | with_reducible refine And.intro ?_ ?_ | exact n8a | omega
  intro pL hqp
  repeat' first | with_reducible refine And.intro ?_ ?_ | exact n8a | omega
  refine sInitF (hF3.eg hE) hqp (fun D2 w4 hk4 hl4 hd4 => ?_)
  have hy4 := hk4.1 _ _ hy3
  simp only [eX3_init_31, ite_le, n45, n54, true_or, or_true, false_or, or_false, false_and, and_false, kx_l, kx_r, go_s, gl_s, gi_s, gb_s2, gb_s3, gq_s, wt_nil, wt_int, wt_long, wt_ref, wt_null, nl_int, nl_long, nl_ref, nl_null, nl_none, rf_n, rf_s, rf_st, tl_s, tl_n, g0, gS, ex1, nb_b, nb_0, nb_1, nf_i, nf_l, nf_ra, nf_ro, nf_na, nf_no, nf_b0, nf_z0, t45_4, t45_5, true_and, and_true, List.set_cons_zero, List.set_cons_succ, List.length_cons, List.length_nil, rd_s, upw_s, ne_eq, not_false_eq_true, Nat.zero_add, Nat.add_zero, if_true, if_false, eq_self, hy4, tyX3]
  repeat' first | with_reducible refine And.intro ?_ ?_ | exact n8a | omega
  obtain ⟨w5, hw5⟩ : ∃ w5, upw w4 y (.inr (7, [.int 0, .ref nM, .ref cL, .ref pL, .int 0, .int 0, .int 0])) = w5 := ⟨_, rfl⟩
  rw [hw5]
  have hy5 : w5 y = some (.inr (7, [.int 0, .ref nM, .ref cL, .ref pL, .int 0, .int 0, .int 0])) := by
    rw [← hw5]
    exact upw_s _ _ _
  have hn5 : w5 nM = some (.inl (0, 8, .inr (.inl fun _ => 0))) := by
    rw [← hw5, upw_n ne.symm]
    exact hk4.1 _ _ hn3
  have hcn : w cL = none := by
    cases e : w cL with
    | none => rfl
    | some o =>
      have q := rd_none hqc
      by_cases h : cL = y
      · rw [h, hy1] at q
        cases q
      · rw [hF1.1 _ _ e h] at q
        cases q
  have hdn : w D1 = none := by
    cases e : w D1 with
    | none => rfl
    | some o =>
      by_cases h : D1 = y
      · rw [h, hy1] at hd2
        cases hd2
      · rw [hF1.1 _ _ e h] at hd2
        cases hd2
  have cp : cL ≠ pL := fun e => by
    obtain ⟨mc, z⟩ := hl3.1
    rw [e, rd_none hqp] at z
    cases z
  simp only [eX3_init_34, ite_le, n45, n54, true_or, or_true, false_or, or_false, false_and, and_false, kx_l, kx_r, go_s, gl_s, gi_s, gb_s2, gb_s3, gq_s, wt_nil, wt_int, wt_long, wt_ref, wt_null, nl_int, nl_long, nl_ref, nl_null, nl_none, rf_n, rf_s, rf_st, tl_s, tl_n, g0, gS, ex1, nb_b, nb_0, nb_1, nf_i, nf_l, nf_ra, nf_ro, nf_na, nf_no, nf_b0, nf_z0, t45_4, t45_5, true_and, and_true, List.set_cons_zero, List.set_cons_succ, List.length_cons, List.length_nil, rd_s, upw_s, ne_eq, not_false_eq_true, Nat.zero_add, Nat.add_zero, if_true, if_false, eq_self]
  refine flX3_init_36 (D2 := D2) hE hS hcn cp hqn' hQ 6 0 w5 D1 0 (fun _ => none) _ _ ?_ hy5 hn5 ?_ nr0 (fun _ _ => rfl) ?_ nr0 hdn (by decide) (by decide) (by omega) (by omega)
  · rw [← hw5]
    exact (hF3.ext hk4).up hy4
  · rw [← hw5]
    exact (hl3.ext hk4).up hy4 (fun _ e => by cases e) (fun _ e => by cases e)
  · rw [← hw5]
    exact hl4.up hy4 (fun _ e => by cases e) (fun _ e => by cases e)
end
end
