section
variable {g : RO} {Q : Ot → Hw → Prop} {w0 w : Hw}
variable {x nA cA lA : Nat} {kn : Int32}
set_option maxHeartbeats 4000000 in
theorem sX1_numberText {a0 : Int32} (hC : CC g w0 x nA cA lA kn w) (hS : SG g) (hD : DG g w) (hXo : Q (.inr "java/lang/IndexOutOfBoundsException") w) (hQ : ∀ q w', ext g w w' → Q (.inl (some (.ref q))) w') : WP (MX1_numberText g) Q (0, [some (.ref x), some (.int a0), none], [], w, 0, 0) := by
  obtain ⟨n, rf, md, f, gc, gl, hx, hn, hc, hl, hgc, hgl, hn0, hn1, rx, rn, rc, rl, ⟨d1, d2, d3, d4, d5, d6⟩, ⟨d7, d8, d9, d10, d11, d12⟩⟩ := hC.1.opn g
  simp only [eX1_numberText_0, eX1_numberText_1, ite_le, n45, n54, true_or, or_true, false_or, or_false, false_and, and_false, kx_l, kx_r, go_s, gl_s, gi_s, gb_s2, gb_s3, gq_s, wt_nil, wt_int, wt_long, wt_ref, wt_null, nl_int, nl_long, nl_ref, nl_null, nl_none, rf_n, rf_s, rf_st, tl_s, tl_n, g0, gS, ex1, nb_b, nb_0, nb_1, nf_i, nf_l, nf_ra, nf_ro, nf_na, nf_no, nf_b0, nf_z0, t45_4, t45_5, true_and, and_true, List.set_cons_zero, List.set_cons_succ, List.length_cons, List.length_nil, rd_s, upw_s, ne_eq, not_false_eq_true, Nat.zero_add, Nat.add_zero, if_true, if_false, eq_self]
  repeat' first | with_reducible refine And.intro ?_ ?_ | omega
  refine sX1_needNumber hXo (fun k0 k1 => ?_)
  have av : vp_in a0 8 := vpi8 k0 k1
  simp only [eX1_numberText_4, ite_le, n45, n54, true_or, or_true, false_or, or_false, false_and, and_false, kx_l, kx_r, go_s, gl_s, gi_s, gb_s2, gb_s3, gq_s, wt_nil, wt_int, wt_long, wt_ref, wt_null, nl_int, nl_long, nl_ref, nl_null, nl_none, rf_n, rf_s, rf_st, tl_s, tl_n, g0, gS, ex1, nb_b, nb_0, nb_1, nf_i, nf_l, nf_ra, nf_ro, nf_na, nf_no, nf_b0, nf_z0, t45_4, t45_5, true_and, and_true, List.set_cons_zero, List.set_cons_succ, List.length_cons, List.length_nil, rd_s, upw_s, ne_eq, not_false_eq_true, Nat.zero_add, Nat.add_zero, if_true, if_false, eq_self]
  repeat' first | with_reducible refine And.intro ?_ ?_ | omega
  intro b hq
  have hqn := rd_none hq
  simp only [eX1_numberText_7, eX1_numberText_7R, eX1_numberText_8, ite_le, n45, n54, true_or, or_true, false_or, or_false, false_and, and_false, kx_l, kx_r, go_s, gl_s, gi_s, gb_s2, gb_s3, gq_s, wt_nil, wt_int, wt_long, wt_ref, wt_null, nl_int, nl_long, nl_ref, nl_null, nl_none, rf_n, rf_s, rf_st, tl_s, tl_n, g0, gS, ex1, nb_b, nb_0, nb_1, nf_i, nf_l, nf_ra, nf_ro, nf_na, nf_no, nf_b0, nf_z0, t45_4, t45_5, true_and, and_true, List.set_cons_zero, List.set_cons_succ, List.length_cons, List.length_nil, rd_s, upw_s, ne_eq, not_false_eq_true, Nat.zero_add, Nat.add_zero, if_true, if_false, eq_self]
  repeat' first | with_reducible refine And.intro ?_ ?_ | omega
  refine sJ4_init_da8c8 (w0 := w) hS (ext_up2 ext.rf hq) (upw_s _ _ _) hqn (rd_ro hq) (fun d w1 hT => ?_)
  have rx1 := rd_e (g := g) (hT.1.1 _ _ hx)
  have rn1 := rd_e (g := g) (hT.1.1 _ _ hn)
  simp only [eX1_numberText_11, eX1_numberText_11N, eX1_numberText_12, eX1_numberText_12N, eX1_numberText_13, eX1_numberText_13N, eX1_numberText_14, eX1_numberText_17, eX1_numberText_18, eX1_numberText_19R, eX1_numberText_19N, ite_le, n45, n54, true_or, or_true, false_or, or_false, false_and, and_false, kx_l, kx_r, go_s, gl_s, gi_s, gb_s2, gb_s3, gq_s, wt_nil, wt_int, wt_long, wt_ref, wt_null, nl_int, nl_long, nl_ref, nl_null, nl_none, rf_n, rf_s, rf_st, tl_s, tl_n, g0, gS, ex1, nb_b, nb_0, nb_1, nf_i, nf_l, nf_ra, nf_ro, nf_na, nf_no, nf_b0, nf_z0, t45_4, t45_5, true_and, and_true, List.set_cons_zero, List.set_cons_succ, List.length_cons, List.length_nil, rd_s, upw_s, ne_eq, not_false_eq_true, Nat.zero_add, Nat.add_zero, if_true, if_false, eq_self, rx1, rn1, av]
  repeat' first | with_reducible refine And.intro ?_ ?_ | omega
  refine sX1_appendBackwards hS hD hT (Or.inl rfl) (Nat.le_refl _) rfl (by decide) (fun d' N' c' w2 q1 _ q2 q3 hT2 => ?_)
  have z0 : (0 : Int32).toInt = 0 := rfl
  obtain ⟨_, _, hb2, _, _, _, _, rb2, _⟩ := hT2.opn g
  simp only [eX1_numberText_22, eX1_numberText_22N, eX1_numberText_23, ite_le, n45, n54, true_or, or_true, false_or, or_false, false_and, and_false, kx_l, kx_r, go_s, gl_s, gi_s, gb_s2, gb_s3, gq_s, wt_nil, wt_int, wt_long, wt_ref, wt_null, nl_int, nl_long, nl_ref, nl_null, nl_none, rf_n, rf_s, rf_st, tl_s, tl_n, g0, gS, ex1, nb_b, nb_0, nb_1, nf_i, nf_l, nf_ra, nf_ro, nf_na, nf_no, nf_b0, nf_z0, t45_4, t45_5, true_and, and_true, List.set_cons_zero, List.set_cons_succ, List.length_cons, List.length_nil, rd_s, upw_s, ne_eq, not_false_eq_true, Nat.zero_add, Nat.add_zero, if_true, if_false, eq_self, rb2]
  repeat' first | with_reducible refine And.intro ?_ ?_ | omega
  refine sJ4_reverse_43fcb hS hT2 (Nat.le_trans q1.le (by decide)) (fun w3 hT3 => ?_)
  obtain ⟨_, _, hb3, _, _, _, _, rb3, _⟩ := hT3.opn g
  simp only [eX1_numberText_26, ite_le, n45, n54, true_or, or_true, false_or, or_false, false_and, and_false, kx_l, kx_r, go_s, gl_s, gi_s, gb_s2, gb_s3, gq_s, wt_nil, wt_int, wt_long, wt_ref, wt_null, nl_int, nl_long, nl_ref, nl_null, nl_none, rf_n, rf_s, rf_st, tl_s, tl_n, g0, gS, ex1, nb_b, nb_0, nb_1, nf_i, nf_l, nf_ra, nf_ro, nf_na, nf_no, nf_b0, nf_z0, t45_4, t45_5, true_and, and_true, List.set_cons_zero, List.set_cons_succ, List.length_cons, List.length_nil, rd_s, upw_s, ne_eq, not_false_eq_true, Nat.zero_add, Nat.add_zero, if_true, if_false, eq_self, rb3]
  repeat' first | with_reducible refine And.intro ?_ ?_ | omega
  refine sJ4_toString_0e30d hS hT3 (Nat.le_trans q1.le (by decide)) (by omega) (fun q w4 z => ?_)
  simp only [eX1_numberText_29, eX1_numberText_29N, ite_le, n45, n54, true_or, or_true, false_or, or_false, false_and, and_false, kx_l, kx_r, go_s, gl_s, gi_s, gb_s2, gb_s3, gq_s, wt_nil, wt_int, wt_long, wt_ref, wt_null, nl_int, nl_long, nl_ref, nl_null, nl_none, rf_n, rf_s, rf_st, tl_s, tl_n, g0, gS, ex1, nb_b, nb_0, nb_1, nf_i, nf_l, nf_ra, nf_ro, nf_na, nf_no, nf_b0, nf_z0, t45_4, t45_5, true_and, and_true, List.set_cons_zero, List.set_cons_succ, List.length_cons, List.length_nil, rd_s, upw_s, ne_eq, not_false_eq_true, Nat.zero_add, Nat.add_zero, if_true, if_false, eq_self]
  repeat' first | with_reducible refine And.intro ?_ ?_ | omega
  exact hQ _ _ z
set_option maxHeartbeats 4000000 in
theorem lX1_cardText_29 {r b : Nat} {a0 : Int32} (hS : SG g) (hD : DG g w) (hR : isR w r) (hQ : ∀ q w', ext g w w' → Q (.inl (some (.ref q))) w') : ∀ (e : Nat) (d N k n : Nat) (c i : Int32) (w1 : Hw), i.toInt + 1 ≤ e → -1 ≤ i.toInt → i.toInt ≤ 3 → CP N → k + 3 * (i.toInt + 1) + ((pC N - 1 : Nat) : Int) ≤ 17 → n + 388 * (i.toInt + 1) ≤ 1578 → n ≤ 1436 → c.toInt ≤ 21 * (3 - i.toInt) → c.toInt ≤ 83 → TS g w b d N c w1 →
    WP (MX1_cardText g) Q (29, [some (.ref x), some (.int a0), some (.ref r), some (.ref b), some (.int i)], [], w1, k, n) := by
  have fin : ∀ (d N k n : Nat) (c i : Int32) (w1 : Hw), CP N → k ≤ 17 → n ≤ 1436 → c.toInt ≤ 83 → TS g w b d N c w1 → WP (MX1_cardText g) Q (62, [some (.ref x), some (.int a0), some (.ref r), some (.ref b), some (.int i)], [], w1, k, n) := by
    intro d N k n c i w1 q1 hk hn hc hT
    obtain ⟨_, _, hb2, _, _, _, _, rb2, _⟩ := hT.opn g
    simp only [eX1_cardText_62, eX1_cardText_62N, eX1_cardText_63, ite_le, n45, n54, true_or, or_true, false_or, or_false, false_and, and_false, kx_l, kx_r, go_s, gl_s, gi_s, gb_s2, gb_s3, gq_s, wt_nil, wt_int, wt_long, wt_ref, wt_null, nl_int, nl_long, nl_ref, nl_null, nl_none, rf_n, rf_s, rf_st, tl_s, tl_n, g0, gS, ex1, nb_b, nb_0, nb_1, nf_i, nf_l, nf_ra, nf_ro, nf_na, nf_no, nf_b0, nf_z0, t45_4, t45_5, true_and, and_true, List.set_cons_zero, List.set_cons_succ, List.length_cons, List.length_nil, rd_s, upw_s, ne_eq, not_false_eq_true, Nat.zero_add, Nat.add_zero, if_true, if_false, eq_self, rb2]
    repeat' first | with_reducible refine And.intro ?_ ?_ | omega
    refine sJ4_reverse_43fcb hS hT (Nat.le_trans q1.le (by decide)) (fun w3 hT3 => ?_)
    obtain ⟨_, _, hb3, _, _, _, _, rb3, _⟩ := hT3.opn g
    simp only [eX1_cardText_66, ite_le, n45, n54, true_or, or_true, false_or, or_false, false_and, and_false, kx_l, kx_r, go_s, gl_s, gi_s, gb_s2, gb_s3, gq_s, wt_nil, wt_int, wt_long, wt_ref, wt_null, nl_int, nl_long, nl_ref, nl_null, nl_none, rf_n, rf_s, rf_st, tl_s, tl_n, g0, gS, ex1, nb_b, nb_0, nb_1, nf_i, nf_l, nf_ra, nf_ro, nf_na, nf_no, nf_b0, nf_z0, t45_4, t45_5, true_and, and_true, List.set_cons_zero, List.set_cons_succ, List.length_cons, List.length_nil, rd_s, upw_s, ne_eq, not_false_eq_true, Nat.zero_add, Nat.add_zero, if_true, if_false, eq_self, rb3]
    repeat' first | with_reducible refine And.intro ?_ ?_ | omega
    refine sJ4_toString_0e30d hS hT3 (Nat.le_trans q1.le (by decide)) (by omega) (fun q w4 z => ?_)
    simp only [eX1_cardText_69, eX1_cardText_69N, ite_le, n45, n54, true_or, or_true, false_or, or_false, false_and, and_false, kx_l, kx_r, go_s, gl_s, gi_s, gb_s2, gb_s3, gq_s, wt_nil, wt_int, wt_long, wt_ref, wt_null, nl_int, nl_long, nl_ref, nl_null, nl_none, rf_n, rf_s, rf_st, tl_s, tl_n, g0, gS, ex1, nb_b, nb_0, nb_1, nf_i, nf_l, nf_ra, nf_ro, nf_na, nf_no, nf_b0, nf_z0, t45_4, t45_5, true_and, and_true, List.set_cons_zero, List.set_cons_succ, List.length_cons, List.length_nil, rd_s, upw_s, ne_eq, not_false_eq_true, Nat.zero_add, Nat.add_zero, if_true, if_false, eq_self]
    repeat' first | with_reducible refine And.intro ?_ ?_ | omega
    exact hQ _ _ z
  intro e
  induction e with
  | zero =>
    intro d N k n c i w1 h1 h2 h3 hN hk hn hn2 hc hc2 hT
    have t : (i < 0) = True := i32_t0 (by omega)
    rw [eX1_cardText_29]
    simp only [eX1_cardText_31, ite_le, n45, n54, true_or, or_true, false_or, or_false, false_and, and_false, kx_l, kx_r, go_s, gl_s, gi_s, gb_s2, gb_s3, gq_s, wt_nil, wt_int, wt_long, wt_ref, wt_null, nl_int, nl_long, nl_ref, nl_null, nl_none, rf_n, rf_s, rf_st, tl_s, tl_n, g0, gS, ex1, nb_b, nb_0, nb_1, nf_i, nf_l, nf_ra, nf_ro, nf_na, nf_no, nf_b0, nf_z0, t45_4, t45_5, true_and, and_true, List.set_cons_zero, List.set_cons_succ, List.length_cons, List.length_nil, rd_s, upw_s, ne_eq, not_false_eq_true, Nat.zero_add, Nat.add_zero, if_true, if_false, eq_self, t]
    exact fin _ _ _ _ _ _ _ hN (by omega) hn2 hc2 hT
  | succ e ih =>
    intro d N k n c i w1 h1 h2 h3 hN hk hn hn2 hc hc2 hT
    rw [eX1_cardText_29]
    simp only [eX1_cardText_31, ite_le, n45, n54, true_or, or_true, false_or, or_false, false_and, and_false, kx_l, kx_r, go_s, gl_s, gi_s, gb_s2, gb_s3, gq_s, wt_nil, wt_int, wt_long, wt_ref, wt_null, nl_int, nl_long, nl_ref, nl_null, nl_none, rf_n, rf_s, rf_st, tl_s, tl_n, g0, gS, ex1, nb_b, nb_0, nb_1, nf_i, nf_l, nf_ra, nf_ro, nf_na, nf_no, nf_b0, nf_z0, t45_4, t45_5, true_and, and_true, List.set_cons_zero, List.set_cons_succ, List.length_cons, List.length_nil, rd_s, upw_s, ne_eq, not_false_eq_true, Nat.zero_add, Nat.add_zero, if_true, if_false, eq_self]
    split
    · exact fin _ _ _ _ _ _ _ hN (by omega) hn2 hc2 hT
    · next hi =>
      have hi := i32_0 hi
      have rR := hR.ext hT.1
      obtain ⟨_, _, hb1, hd1, _, hc0, hc1, rb1, _⟩ := hT.opn g
      simp only [eX1_cardText_34, eX1_cardText_34N, eX1_cardText_35, eX1_cardText_35N, eX1_cardText_36, eX1_cardText_38, ite_le, n45, n54, true_or, or_true, false_or, or_false, false_and, and_false, kx_l, kx_r, go_s, gl_s, gi_s, gb_s2, gb_s3, gq_s, wt_nil, wt_int, wt_long, wt_ref, wt_null, nl_int, nl_long, nl_ref, nl_null, nl_none, rf_n, rf_s, rf_st, tl_s, tl_n, g0, gS, ex1, nb_b, nb_0, nb_1, nf_i, nf_l, nf_ra, nf_ro, nf_na, nf_no, nf_b0, nf_z0, t45_4, t45_5, true_and, and_true, List.set_cons_zero, List.set_cons_succ, List.length_cons, List.length_nil, rd_s, upw_s, ne_eq, not_false_eq_true, Nat.zero_add, Nat.add_zero, if_true, if_false, eq_self]
      refine ⟨go_R rR (fun _ _ _ _ => trivial), ?_⟩
      repeat' first | with_reducible refine And.intro ?_ ?_ | omega
      refine sX0_endAt rR (fun v => ?_)
      simp only [eX1_cardText_41R, eX1_cardText_41N, ite_le, n45, n54, true_or, or_true, false_or, or_false, false_and, and_false, kx_l, kx_r, go_s, gl_s, gi_s, gb_s2, gb_s3, gq_s, wt_nil, wt_int, wt_long, wt_ref, wt_null, nl_int, nl_long, nl_ref, nl_null, nl_none, rf_n, rf_s, rf_st, tl_s, tl_n, g0, gS, ex1, nb_b, nb_0, nb_1, nf_i, nf_l, nf_ra, nf_ro, nf_na, nf_no, nf_b0, nf_z0, t45_4, t45_5, true_and, and_true, List.set_cons_zero, List.set_cons_succ, List.length_cons, List.length_nil, rd_s, upw_s, ne_eq, not_false_eq_true, Nat.zero_add, Nat.add_zero, if_true, if_false, eq_self]
      repeat' first | with_reducible refine And.intro ?_ ?_ | omega
      refine sX1_appendBackwards (p0 := pC N) hS hD hT hN (Nat.le_refl _) rfl (by omega) (fun d' N' c' w2 q1 q0 q2 q3 hT2 => ?_)
      obtain ⟨_, _, hb2, hd2, _, hc20, hc21, rb2, _⟩ := hT2.opn g
      obtain ⟨i', hi'⟩ : ∃ i', i + -1 = i' := ⟨_, rfl⟩
      have ei : i'.toInt = i.toInt - 1 := by rw [← hi']; exact i32_m1 (by omega)
      simp only [eX1_cardText_44, eX1_cardText_46, ite_le, n45, n54, true_or, or_true, false_or, or_false, false_and, and_false, kx_l, kx_r, go_s, gl_s, gi_s, gb_s2, gb_s3, gq_s, wt_nil, wt_int, wt_long, wt_ref, wt_null, nl_int, nl_long, nl_ref, nl_null, nl_none, rf_n, rf_s, rf_st, tl_s, tl_n, g0, gS, ex1, nb_b, nb_0, nb_1, nf_i, nf_l, nf_ra, nf_ro, nf_na, nf_no, nf_b0, nf_z0, t45_4, t45_5, true_and, and_true, List.set_cons_zero, List.set_cons_succ, List.length_cons, List.length_nil, rd_s, upw_s, ne_eq, not_false_eq_true, Nat.zero_add, Nat.add_zero, if_true, if_false, eq_self]
      split
      · next hz =>
        have hz : 0 < i.toInt := i32_lt hz
        obtain ⟨k1, k2, k3, k4⟩ := kI (i := 32) q1 hb2 hd2 hc20 hc21 (by omega)
        have kk : kfI [.ref b, .int 32] w2 = 1 → 2 ≤ pC N' := by
          intro z
          rcases q1 with rfl | rfl | rfl | rfl
          · decide
          · decide
          · rw [if_neg (by omega)] at k3
            omega
          · rw [if_neg (by omega)] at k3
            omega
        have k5 : kfI [.ref b, .int 32] w2 ≤ 1 := by
          rw [k3]
          split <;> omega
        have k6 : sfI [.ref b, .int 32] w2 ≤ 142 := by
          rw [k4]
          split
          · rcases q1 with rfl | rfl | rfl | rfl <;> omega
          · omega
        have k7 : k + 3 + kfI [.ref b, .int 32] w2 ≤ 19 := by omega
        have k8 : n + 246 + sfI [.ref b, .int 32] w2 ≤ 1530 := by omega
        simp only [eX1_cardText_49, eX1_cardText_49N, eX1_cardText_50, eX1_cardText_52, ite_le, n45, n54, true_or, or_true, false_or, or_false, false_and, and_false, kx_l, kx_r, go_s, gl_s, gi_s, gb_s2, gb_s3, gq_s, wt_nil, wt_int, wt_long, wt_ref, wt_null, nl_int, nl_long, nl_ref, nl_null, nl_none, rf_n, rf_s, rf_st, tl_s, tl_n, g0, gS, ex1, nb_b, nb_0, nb_1, nf_i, nf_l, nf_ra, nf_ro, nf_na, nf_no, nf_b0, nf_z0, t45_4, t45_5, true_and, and_true, List.set_cons_zero, List.set_cons_succ, List.length_cons, List.length_nil, rd_s, upw_s, ne_eq, not_false_eq_true, Nat.zero_add, Nat.add_zero, if_true, if_false, eq_self, rb2, k7, k8]
        repeat' first | with_reducible refine And.intro ?_ ?_ | omega
        refine sapC hS hT2 q1 (by omega) h32 (fun d3 N3 w3 p1 p2 p3 hT3 => ?_)
        have e1 := i32_p1 hc20 (by omega)
        obtain ⟨c3, hc3⟩ : ∃ c3, c' + 1 = c3 := ⟨_, rfl⟩
        rw [hc3] at e1 hT3
        simp only [eX1_cardText_55, eX1_cardText_55R, eX1_cardText_55N, eX1_cardText_56, eX1_cardText_59, ite_le, n45, n54, true_or, or_true, false_or, or_false, false_and, and_false, kx_l, kx_r, go_s, gl_s, gi_s, gb_s2, gb_s3, gq_s, wt_nil, wt_int, wt_long, wt_ref, wt_null, nl_int, nl_long, nl_ref, nl_null, nl_none, rf_n, rf_s, rf_st, tl_s, tl_n, g0, gS, ex1, nb_b, nb_0, nb_1, nf_i, nf_l, nf_ra, nf_ro, nf_na, nf_no, nf_b0, nf_z0, t45_4, t45_5, true_and, and_true, List.set_cons_zero, List.set_cons_succ, List.length_cons, List.length_nil, rd_s, upw_s, ne_eq, not_false_eq_true, Nat.zero_add, Nat.add_zero, if_true, if_false, eq_self, hi']
        exact ih _ _ _ _ _ _ _ (by omega) (by omega) (by omega) p1 (by omega) (by omega) (by omega) (by omega) (by omega) hT3
      · next hz =>
        have hz := i32_nlt hz
        have z0 : (0 : Int32).toInt = 0 := rfl
        simp only [eX1_cardText_56, eX1_cardText_59, ite_le, n45, n54, true_or, or_true, false_or, or_false, false_and, and_false, kx_l, kx_r, go_s, gl_s, gi_s, gb_s2, gb_s3, gq_s, wt_nil, wt_int, wt_long, wt_ref, wt_null, nl_int, nl_long, nl_ref, nl_null, nl_none, rf_n, rf_s, rf_st, tl_s, tl_n, g0, gS, ex1, nb_b, nb_0, nb_1, nf_i, nf_l, nf_ra, nf_ro, nf_na, nf_no, nf_b0, nf_z0, t45_4, t45_5, true_and, and_true, List.set_cons_zero, List.set_cons_succ, List.length_cons, List.length_nil, rd_s, upw_s, ne_eq, not_false_eq_true, Nat.zero_add, Nat.add_zero, if_true, if_false, eq_self, hi']
        exact ih _ _ _ _ _ _ _ (by omega) (by omega) (by omega) q1 (by omega) (by omega) (by omega) (by omega) (by omega) hT2
set_option maxHeartbeats 4000000 in
theorem sX1_cardText {a0 : Int32} (hC : CC g w0 x nA cA lA kn w) (hS : SG g) (hD : DG g w) (hG : ∃ s, g.1 20 = .ref s) (hXo : Q (.inr "java/lang/IndexOutOfBoundsException") w) (hQ : ∀ q w', ext g w w' → Q (.inl (some (.ref q))) w') : WP (MX1_cardText g) Q (0, [some (.ref x), some (.int a0), none, none, none], [], w, 0, 0) := by
  obtain ⟨n, rf, md, f, gc, gl, hx, hn, hc, hl, hgc, hgl, hn0, hn1, rx, rn, rc, rl, ⟨d1, d2, d3, d4, d5, d6⟩, ⟨d7, d8, d9, d10, d11, d12⟩⟩ := hC.1.opn g
  obtain ⟨s, hs⟩ := hG
  simp only [eX1_cardText_0, eX1_cardText_1, ite_le, n45, n54, true_or, or_true, false_or, or_false, false_and, and_false, kx_l, kx_r, go_s, gl_s, gi_s, gb_s2, gb_s3, gq_s, wt_nil, wt_int, wt_long, wt_ref, wt_null, nl_int, nl_long, nl_ref, nl_null, nl_none, rf_n, rf_s, rf_st, tl_s, tl_n, g0, gS, ex1, nb_b, nb_0, nb_1, nf_i, nf_l, nf_ra, nf_ro, nf_na, nf_no, nf_b0, nf_z0, t45_4, t45_5, true_and, and_true, List.set_cons_zero, List.set_cons_succ, List.length_cons, List.length_nil, rd_s, upw_s, ne_eq, not_false_eq_true, Nat.zero_add, Nat.add_zero, if_true, if_false, eq_self]
  repeat' first | with_reducible refine And.intro ?_ ?_ | omega
  refine sX1_needCard hXo (fun k0 k1 => ?_)
  have av : vp_in a0 6 := vpi6 k0 k1
  simp only [eX1_cardText_4, eX1_cardText_4N, eX1_cardText_5, eX1_cardText_8, eX1_cardText_9, ite_le, n45, n54, true_or, or_true, false_or, or_false, false_and, and_false, kx_l, kx_r, go_s, gl_s, gi_s, gb_s2, gb_s3, gq_s, wt_nil, wt_int, wt_long, wt_ref, wt_null, nl_int, nl_long, nl_ref, nl_null, nl_none, rf_n, rf_s, rf_st, tl_s, tl_n, g0, gS, ex1, nb_b, nb_0, nb_1, nf_i, nf_l, nf_ra, nf_ro, nf_na, nf_no, nf_b0, nf_z0, t45_4, t45_5, true_and, and_true, List.set_cons_zero, List.set_cons_succ, List.length_cons, List.length_nil, rd_s, upw_s, ne_eq, not_false_eq_true, Nat.zero_add, Nat.add_zero, if_true, if_false, eq_self, rx, rc, av]
  repeat' first | with_reducible refine And.intro ?_ ?_ | omega
  · intro hr
    simp only [eX1_cardText_10, eX1_cardText_10N, eX1_cardText_11, eX1_cardText_11N, eX1_cardText_12R, eX1_cardText_12N, eX1_cardText_15, eX1_cardText_17, eX1_cardText_17N, ite_le, n45, n54, true_or, or_true, false_or, or_false, false_and, and_false, kx_l, kx_r, go_s, gl_s, gi_s, gb_s2, gb_s3, gq_s, wt_nil, wt_int, wt_long, wt_ref, wt_null, nl_int, nl_long, nl_ref, nl_null, nl_none, rf_n, rf_s, rf_st, tl_s, tl_n, g0, gS, ex1, nb_b, nb_0, nb_1, nf_i, nf_l, nf_ra, nf_ro, nf_na, nf_no, nf_b0, nf_z0, t45_4, t45_5, true_and, and_true, List.set_cons_zero, List.set_cons_succ, List.length_cons, List.length_nil, rd_s, upw_s, ne_eq, not_false_eq_true, Nat.zero_add, Nat.add_zero, if_true, if_false, eq_self, hs, hr]
    repeat' first | with_reducible refine And.intro ?_ ?_ | omega
    exact hQ _ _ ext.rf
  · intro r hr
    have hR := hgc _ _ hr
    simp only [eX1_cardText_10, eX1_cardText_10N, eX1_cardText_11, eX1_cardText_11N, eX1_cardText_12R, eX1_cardText_12N, eX1_cardText_15, eX1_cardText_17, eX1_cardText_17N, eX1_cardText_18, ite_le, n45, n54, true_or, or_true, false_or, or_false, false_and, and_false, kx_l, kx_r, go_s, gl_s, gi_s, gb_s2, gb_s3, gq_s, wt_nil, wt_int, wt_long, wt_ref, wt_null, nl_int, nl_long, nl_ref, nl_null, nl_none, rf_n, rf_s, rf_st, tl_s, tl_n, g0, gS, ex1, nb_b, nb_0, nb_1, nf_i, nf_l, nf_ra, nf_ro, nf_na, nf_no, nf_b0, nf_z0, t45_4, t45_5, true_and, and_true, List.set_cons_zero, List.set_cons_succ, List.length_cons, List.length_nil, rd_s, upw_s, ne_eq, not_false_eq_true, Nat.zero_add, Nat.add_zero, if_true, if_false, eq_self, hr]
    repeat' first | with_reducible refine And.intro ?_ ?_ | omega
    intro b hq
    have hqn := rd_none hq
    simp only [eX1_cardText_21, eX1_cardText_21R, eX1_cardText_22, ite_le, n45, n54, true_or, or_true, false_or, or_false, false_and, and_false, kx_l, kx_r, go_s, gl_s, gi_s, gb_s2, gb_s3, gq_s, wt_nil, wt_int, wt_long, wt_ref, wt_null, nl_int, nl_long, nl_ref, nl_null, nl_none, rf_n, rf_s, rf_st, tl_s, tl_n, g0, gS, ex1, nb_b, nb_0, nb_1, nf_i, nf_l, nf_ra, nf_ro, nf_na, nf_no, nf_b0, nf_z0, t45_4, t45_5, true_and, and_true, List.set_cons_zero, List.set_cons_succ, List.length_cons, List.length_nil, rd_s, upw_s, ne_eq, not_false_eq_true, Nat.zero_add, Nat.add_zero, if_true, if_false, eq_self]
    repeat' first | with_reducible refine And.intro ?_ ?_ | omega
    refine sJ4_init_da8c8 (w0 := w) hS (ext_up2 ext.rf hq) (upw_s _ _ _) hqn (rd_ro hq) (fun d w1 hT => ?_)
    simp only [eX1_cardText_25, eX1_cardText_25N, eX1_cardText_26, eX1_cardText_27, ite_le, n45, n54, true_or, or_true, false_or, or_false, false_and, and_false, kx_l, kx_r, go_s, gl_s, gi_s, gb_s2, gb_s3, gq_s, wt_nil, wt_int, wt_long, wt_ref, wt_null, nl_int, nl_long, nl_ref, nl_null, nl_none, rf_n, rf_s, rf_st, tl_s, tl_n, g0, gS, ex1, nb_b, nb_0, nb_1, nf_i, nf_l, nf_ra, nf_ro, nf_na, nf_no, nf_b0, nf_z0, t45_4, t45_5, true_and, and_true, List.set_cons_zero, List.set_cons_succ, List.length_cons, List.length_nil, rd_s, upw_s, ne_eq, not_false_eq_true, Nat.zero_add, Nat.add_zero, if_true, if_false, eq_self]
    exact lX1_cardText_29 hS hD hR hQ 4 _ _ _ _ _ _ _ (by decide) (by decide) (by decide) (Or.inl rfl) (by decide) (by decide) (by decide) (by decide) (by decide) hT
end
