section
variable {g : RO} {Q : Ot → Hw → Prop} {w0 w : Hw} {x nA cA lA : Nat} {kn : Int32}
/-! FUNCTIONAL SPECS, 4: what is made -/
theorem rAt_new {q : Nat} {a b c d : Int64} : rAt (upw w q (.inr (4, [.long a, .long b, .long c, .long d]))) q (a, b, c, d) := upw_s _ _ _
theorem go_5 {s : AS} (h : CS g w0 x nA cA lA kn s w) : go (rd g w x) 5 fun _ => True := by
  obtain ⟨gc, gl, h1, -⟩ := h.1.opn g
  rw [h1.2.2.2.2.2.2.2.2.1, go_s]
  trivial
/-- a card gets the range (refused: counted) -/
abbrev sMk (s : AS) (j : Nat) (r : R4) : AS := sM_ (sC s (va_up s.2.1 j (some r))) (s.2.2.2.2.2 + 1)
abbrev sRf (s : AS) : AS := sR_ s (s.2.2.2.2.1 + 1)
set_option maxHeartbeats 4000000 in
theorem fX1_two {s : AS} {a0 : Int32} {a1 : Int32} {a2 : Int32} (hC : CS g w0 x nA cA lA kn s w) (hX : ¬ (okC a0 ∧ okN a1 ∧ okN a2) → (Q (.inr "java/lang/IndexOutOfBoundsException") w)) (hT : okC a0 → okN a1 → okN a2 → oP (s.1 a1.toNatClampNeg) (s.1 a1.toNatClampNeg) (s.1 a2.toNatClampNeg) (s.1 a2.toNatClampNeg) → ∀ w', CS g w0 x nA cA lA kn (sMk s a0.toNatClampNeg (s.1 a1.toNatClampNeg, s.1 a1.toNatClampNeg, s.1 a2.toNatClampNeg, s.1 a2.toNatClampNeg)) w' → Q (.inl (some (.int 1))) w') (hF : okC a0 → okN a1 → okN a2 → ¬ oP (s.1 a1.toNatClampNeg) (s.1 a1.toNatClampNeg) (s.1 a2.toNatClampNeg) (s.1 a2.toNatClampNeg) → ∀ w', CS g w0 x nA cA lA kn (sRf s) w' → Q (.inl (some (.int (-9)))) w') : WP (MX1_two g) Q (0, [some (.ref x), some (.int a0), some (.int a1), some (.int a2)], [], w, 0, 0) := by
  obtain ⟨gc, gl, ⟨hx, hn, hc, hl, hgc, hgl, hn0, hn1, rx, rn, rc, rl, ⟨d1, d2, d3, d4, d5, d6⟩, ⟨d7, d8, d9, d10, d11, d12⟩⟩, hcd, hpl⟩ := hC.1.opn g
  repeat' first
    | with_reducible assumption
    | with_reducible refine And.intro ?_ ?_
    | with_reducible exact vpi6 (by assumption) (by assumption)
    | with_reducible exact vpi8 (by assumption) (by assumption)
    | with_reducible exact trivial
    | with_reducible exact hX (fun h => absurd h.1 (by assumption))
    | with_reducible exact hX (fun h => absurd h.2.1 (by assumption))
    | with_reducible exact hX (fun h => absurd h.2.2 (by assumption))
    | with_reducible refine fX1_needCard (a0 := a0) (fun _ => ?_) (fun k0 => ?_)
    | with_reducible exact vpi6 k0.1 k0.2
    | with_reducible refine fX1_needNumber (a0 := a1) (fun _ => ?_) (fun k1 => ?_)
    | with_reducible exact vpi8 k1.1 k1.2
    | with_reducible refine fX1_needNumber (a0 := a2) (fun _ => ?_) (fun k2 => ?_)
    | with_reducible exact vpi8 k2.1 k2.2
    | with_reducible refine fX0_ofTwo (fun hno => ?_) (fun hyes q hq => ?_)
    | with_reducible refine fX1_giveN hC (fun w1 g1 g2 => ?_)
    | with_reducible exact hF k0 k1 k2 hno w1 g1
    | with_reducible exact go_5 (hC.ext (ext_up2 ext.rf hq))
    | with_reducible refine fX1_giveR (hC.ext (ext_up2 ext.rf hq)) rAt_new k0.1 k0.2 (fun w1 g1 g2 => ?_)
    | with_reducible exact hT k0 k1 k2 hyes w1 g1
    | simp only [eX1_two_0, eX1_two_1, eX1_two_4, eX1_two_5, eX1_two_8, eX1_two_9, eX1_two_12, eX1_two_12N, eX1_two_13, eX1_two_14, eX1_two_14N, eX1_two_15, eX1_two_18, eX1_two_19, eX1_two_20, eX1_two_20N, eX1_two_21, eX1_two_24, eX1_two_25, eX1_two_26, eX1_two_29R, eX1_two_29N, eX1_two_32, lgp, lgn, lgz, i10, i00, if_true, if_false, eq_self, not_true, not_false_eq_true, rx, rn, rc, rl, hx, hn, hc, hl, d1, d2, d3, d4, d5, d6, d7, d8, d9, d10, d11, d12, rd_n, upw_n, ite_le, n45, n54, true_or, or_true, false_or, or_false, false_and, and_false, kx_l, kx_r, go_s, gl_s, gi_s, gb_s2, gb_s3, gq_s, wt_nil, wt_int, wt_long, wt_ref, wt_null, nl_int, nl_long, nl_ref, nl_null, nl_none, rf_n, rf_s, rf_st, tl_s, tl_n, g0, gS, ex1, nb_b, nb_0, nb_1, nf_i, nf_l, nf_ra, nf_ro, nf_na, nf_no, nf_b0, nf_z0, t45_4, t45_5, true_and, and_true, List.set_cons_zero, List.set_cons_succ, List.length_cons, List.length_nil, rd_s, upw_s, ne_eq, not_false_eq_true, Nat.zero_add, Nat.add_zero]
    | split
    | with_reducible intro _
    | omega
set_option maxHeartbeats 4000000 in
theorem fX1_three {s : AS} {a0 : Int32} {a1 : Int32} {a2 : Int32} {a3 : Int32} (hC : CS g w0 x nA cA lA kn s w) (hX : ¬ (okC a0 ∧ okN a1 ∧ okN a2 ∧ okN a3) → (Q (.inr "java/lang/IndexOutOfBoundsException") w)) (hT : okC a0 → okN a1 → okN a2 → okN a3 → oP (s.1 a1.toNatClampNeg) (s.1 a1.toNatClampNeg) (s.1 a2.toNatClampNeg) (s.1 a3.toNatClampNeg) → ∀ w', CS g w0 x nA cA lA kn (sMk s a0.toNatClampNeg (s.1 a1.toNatClampNeg, s.1 a1.toNatClampNeg, s.1 a2.toNatClampNeg, s.1 a3.toNatClampNeg)) w' → Q (.inl (some (.int 1))) w') (hF : okC a0 → okN a1 → okN a2 → okN a3 → ¬ oP (s.1 a1.toNatClampNeg) (s.1 a1.toNatClampNeg) (s.1 a2.toNatClampNeg) (s.1 a3.toNatClampNeg) → ∀ w', CS g w0 x nA cA lA kn (sRf s) w' → Q (.inl (some (.int (-9)))) w') : WP (MX1_three g) Q (0, [some (.ref x), some (.int a0), some (.int a1), some (.int a2), some (.int a3)], [], w, 0, 0) := by
  obtain ⟨gc, gl, ⟨hx, hn, hc, hl, hgc, hgl, hn0, hn1, rx, rn, rc, rl, ⟨d1, d2, d3, d4, d5, d6⟩, ⟨d7, d8, d9, d10, d11, d12⟩⟩, hcd, hpl⟩ := hC.1.opn g
  repeat' first
    | with_reducible assumption
    | with_reducible refine And.intro ?_ ?_
    | with_reducible exact vpi6 (by assumption) (by assumption)
    | with_reducible exact vpi8 (by assumption) (by assumption)
    | with_reducible exact trivial
    | with_reducible exact hX (fun h => absurd h.1 (by assumption))
    | with_reducible exact hX (fun h => absurd h.2.1 (by assumption))
    | with_reducible exact hX (fun h => absurd h.2.2.1 (by assumption))
    | with_reducible exact hX (fun h => absurd h.2.2.2 (by assumption))
    | with_reducible refine fX1_needCard (a0 := a0) (fun _ => ?_) (fun k0 => ?_)
    | with_reducible exact vpi6 k0.1 k0.2
    | with_reducible refine fX1_needNumber (a0 := a1) (fun _ => ?_) (fun k1 => ?_)
    | with_reducible exact vpi8 k1.1 k1.2
    | with_reducible refine fX1_needNumber (a0 := a2) (fun _ => ?_) (fun k2 => ?_)
    | with_reducible exact vpi8 k2.1 k2.2
    | with_reducible refine fX1_needNumber (a0 := a3) (fun _ => ?_) (fun k3 => ?_)
    | with_reducible exact vpi8 k3.1 k3.2
    | with_reducible refine fX0_ofThree (fun hno => ?_) (fun hyes q hq => ?_)
    | with_reducible refine fX1_giveN hC (fun w1 g1 g2 => ?_)
    | with_reducible exact hF k0 k1 k2 k3 hno w1 g1
    | with_reducible exact go_5 (hC.ext (ext_up2 ext.rf hq))
    | with_reducible refine fX1_giveR (hC.ext (ext_up2 ext.rf hq)) rAt_new k0.1 k0.2 (fun w1 g1 g2 => ?_)
    | with_reducible exact hT k0 k1 k2 k3 hyes w1 g1
    | simp only [eX1_three_0, eX1_three_1, eX1_three_4, eX1_three_5, eX1_three_8, eX1_three_9, eX1_three_12, eX1_three_14, eX1_three_17, eX1_three_17N, eX1_three_18, eX1_three_19, eX1_three_19N, eX1_three_20, eX1_three_23, eX1_three_24, eX1_three_25, eX1_three_25N, eX1_three_26, eX1_three_29, eX1_three_30, eX1_three_31, eX1_three_31N, eX1_three_32, eX1_three_35, eX1_three_37, eX1_three_38, eX1_three_41R, eX1_three_41N, eX1_three_44, lgp, lgn, lgz, i10, i00, if_true, if_false, eq_self, not_true, not_false_eq_true, rx, rn, rc, rl, hx, hn, hc, hl, d1, d2, d3, d4, d5, d6, d7, d8, d9, d10, d11, d12, rd_n, upw_n, ite_le, n45, n54, true_or, or_true, false_or, or_false, false_and, and_false, kx_l, kx_r, go_s, gl_s, gi_s, gb_s2, gb_s3, gq_s, wt_nil, wt_int, wt_long, wt_ref, wt_null, nl_int, nl_long, nl_ref, nl_null, nl_none, rf_n, rf_s, rf_st, tl_s, tl_n, g0, gS, ex1, nb_b, nb_0, nb_1, nf_i, nf_l, nf_ra, nf_ro, nf_na, nf_no, nf_b0, nf_z0, t45_4, t45_5, true_and, and_true, List.set_cons_zero, List.set_cons_succ, List.length_cons, List.length_nil, rd_s, upw_s, ne_eq, not_false_eq_true, Nat.zero_add, Nat.add_zero]
    | split
    | with_reducible intro _
    | omega
set_option maxHeartbeats 4000000 in
theorem fX1_four {s : AS} {a0 : Int32} {a1 : Int32} {a2 : Int32} {a3 : Int32} {a4 : Int32} (hC : CS g w0 x nA cA lA kn s w) (hX : ¬ (okC a0 ∧ okN a1 ∧ okN a2 ∧ okN a3 ∧ okN a4) → (Q (.inr "java/lang/IndexOutOfBoundsException") w)) (hT : okC a0 → okN a1 → okN a2 → okN a3 → okN a4 → oP (s.1 a1.toNatClampNeg) (s.1 a2.toNatClampNeg) (s.1 a3.toNatClampNeg) (s.1 a4.toNatClampNeg) → ∀ w', CS g w0 x nA cA lA kn (sMk s a0.toNatClampNeg (s.1 a1.toNatClampNeg, s.1 a2.toNatClampNeg, s.1 a3.toNatClampNeg, s.1 a4.toNatClampNeg)) w' → Q (.inl (some (.int 1))) w') (hF : okC a0 → okN a1 → okN a2 → okN a3 → okN a4 → ¬ oP (s.1 a1.toNatClampNeg) (s.1 a2.toNatClampNeg) (s.1 a3.toNatClampNeg) (s.1 a4.toNatClampNeg) → ∀ w', CS g w0 x nA cA lA kn (sRf s) w' → Q (.inl (some (.int (-9)))) w') : WP (MX1_four g) Q (0, [some (.ref x), some (.int a0), some (.int a1), some (.int a2), some (.int a3), some (.int a4)], [], w, 0, 0) := by
  obtain ⟨gc, gl, ⟨hx, hn, hc, hl, hgc, hgl, hn0, hn1, rx, rn, rc, rl, ⟨d1, d2, d3, d4, d5, d6⟩, ⟨d7, d8, d9, d10, d11, d12⟩⟩, hcd, hpl⟩ := hC.1.opn g
  repeat' first
    | with_reducible assumption
    | with_reducible refine And.intro ?_ ?_
    | with_reducible exact vpi6 (by assumption) (by assumption)
    | with_reducible exact vpi8 (by assumption) (by assumption)
    | with_reducible exact trivial
    | with_reducible exact hX (fun h => absurd h.1 (by assumption))
    | with_reducible exact hX (fun h => absurd h.2.1 (by assumption))
    | with_reducible exact hX (fun h => absurd h.2.2.1 (by assumption))
    | with_reducible exact hX (fun h => absurd h.2.2.2.1 (by assumption))
    | with_reducible exact hX (fun h => absurd h.2.2.2.2 (by assumption))
    | with_reducible refine fX1_needCard (a0 := a0) (fun _ => ?_) (fun k0 => ?_)
    | with_reducible exact vpi6 k0.1 k0.2
    | with_reducible refine fX1_needNumber (a0 := a1) (fun _ => ?_) (fun k1 => ?_)
    | with_reducible exact vpi8 k1.1 k1.2
    | with_reducible refine fX1_needNumber (a0 := a2) (fun _ => ?_) (fun k2 => ?_)
    | with_reducible exact vpi8 k2.1 k2.2
    | with_reducible refine fX1_needNumber (a0 := a3) (fun _ => ?_) (fun k3 => ?_)
    | with_reducible exact vpi8 k3.1 k3.2
    | with_reducible refine fX1_needNumber (a0 := a4) (fun _ => ?_) (fun k4 => ?_)
    | with_reducible exact vpi8 k4.1 k4.2
    | with_reducible refine fX0_ofFour (fun hno => ?_) (fun hyes q hq => ?_)
    | with_reducible refine fX1_giveN hC (fun w1 g1 g2 => ?_)
    | with_reducible exact hF k0 k1 k2 k3 k4 hno w1 g1
    | with_reducible exact go_5 (hC.ext (ext_up2 ext.rf hq))
    | with_reducible refine fX1_giveR (hC.ext (ext_up2 ext.rf hq)) rAt_new k0.1 k0.2 (fun w1 g1 g2 => ?_)
    | with_reducible exact hT k0 k1 k2 k3 k4 hyes w1 g1
    | simp only [eX1_four_0, eX1_four_1, eX1_four_4, eX1_four_5, eX1_four_8, eX1_four_9, eX1_four_12, eX1_four_14, eX1_four_17, eX1_four_19, eX1_four_22, eX1_four_22N, eX1_four_23, eX1_four_24, eX1_four_24N, eX1_four_25, eX1_four_28, eX1_four_29, eX1_four_30, eX1_four_30N, eX1_four_31, eX1_four_34, eX1_four_35, eX1_four_36, eX1_four_36N, eX1_four_37, eX1_four_40, eX1_four_42, eX1_four_43, eX1_four_43N, eX1_four_44, eX1_four_47, eX1_four_49, eX1_four_50, eX1_four_53R, eX1_four_53N, eX1_four_56, lgp, lgn, lgz, i10, i00, if_true, if_false, eq_self, not_true, not_false_eq_true, rx, rn, rc, rl, hx, hn, hc, hl, d1, d2, d3, d4, d5, d6, d7, d8, d9, d10, d11, d12, rd_n, upw_n, ite_le, n45, n54, true_or, or_true, false_or, or_false, false_and, and_false, kx_l, kx_r, go_s, gl_s, gi_s, gb_s2, gb_s3, gq_s, wt_nil, wt_int, wt_long, wt_ref, wt_null, nl_int, nl_long, nl_ref, nl_null, nl_none, rf_n, rf_s, rf_st, tl_s, tl_n, g0, gS, ex1, nb_b, nb_0, nb_1, nf_i, nf_l, nf_ra, nf_ro, nf_na, nf_no, nf_b0, nf_z0, t45_4, t45_5, true_and, and_true, List.set_cons_zero, List.set_cons_succ, List.length_cons, List.length_nil, rd_s, upw_s, ne_eq, not_false_eq_true, Nat.zero_add, Nat.add_zero]
    | split
    | with_reducible intro _
    | omega
set_option maxHeartbeats 4000000 in
theorem fX1_twoSmall {s : AS} {a0 : Int32} {a1 : Int32} {a2 : Int32} (hC : CS g w0 x nA cA lA kn s w) (hX : ¬ (okC a0) → (Q (.inr "java/lang/IndexOutOfBoundsException") w)) (hT : okC a0 → oP (a1.toInt64) (a1.toInt64) (a2.toInt64) (a2.toInt64) → ∀ w', CS g w0 x nA cA lA kn (sMk s a0.toNatClampNeg (a1.toInt64, a1.toInt64, a2.toInt64, a2.toInt64)) w' → Q (.inl (some (.int 1))) w') (hF : okC a0 → ¬ oP (a1.toInt64) (a1.toInt64) (a2.toInt64) (a2.toInt64) → ∀ w', CS g w0 x nA cA lA kn (sRf s) w' → Q (.inl (some (.int (-9)))) w') : WP (MX1_twoSmall g) Q (0, [some (.ref x), some (.int a0), some (.int a1), some (.int a2)], [], w, 0, 0) := by
  obtain ⟨gc, gl, ⟨hx, hn, hc, hl, hgc, hgl, hn0, hn1, rx, rn, rc, rl, ⟨d1, d2, d3, d4, d5, d6⟩, ⟨d7, d8, d9, d10, d11, d12⟩⟩, hcd, hpl⟩ := hC.1.opn g
  repeat' first
    | with_reducible assumption
    | with_reducible refine And.intro ?_ ?_
    | with_reducible exact vpi6 (by assumption) (by assumption)
    | with_reducible exact vpi8 (by assumption) (by assumption)
    | with_reducible exact trivial
    | with_reducible exact hX (fun h => absurd h (by assumption))
    | with_reducible refine fX1_needCard (a0 := a0) (fun _ => ?_) (fun k0 => ?_)
    | with_reducible exact vpi6 k0.1 k0.2
    | with_reducible refine fX0_ofTwo (fun hno => ?_) (fun hyes q hq => ?_)
    | with_reducible refine fX1_giveN hC (fun w1 g1 g2 => ?_)
    | with_reducible exact hF k0 hno w1 g1
    | with_reducible exact go_5 (hC.ext (ext_up2 ext.rf hq))
    | with_reducible refine fX1_giveR (hC.ext (ext_up2 ext.rf hq)) rAt_new k0.1 k0.2 (fun w1 g1 g2 => ?_)
    | with_reducible exact hT k0 hyes w1 g1
    | simp only [eX1_twoSmall_0, eX1_twoSmall_1, eX1_twoSmall_4, eX1_twoSmall_4N, eX1_twoSmall_5, eX1_twoSmall_6, eX1_twoSmall_7, eX1_twoSmall_8, eX1_twoSmall_9, eX1_twoSmall_10, eX1_twoSmall_13R, eX1_twoSmall_13N, eX1_twoSmall_16, lgp, lgn, lgz, i10, i00, if_true, if_false, eq_self, not_true, not_false_eq_true, rx, rn, rc, rl, hx, hn, hc, hl, d1, d2, d3, d4, d5, d6, d7, d8, d9, d10, d11, d12, rd_n, upw_n, ite_le, n45, n54, true_or, or_true, false_or, or_false, false_and, and_false, kx_l, kx_r, go_s, gl_s, gi_s, gb_s2, gb_s3, gq_s, wt_nil, wt_int, wt_long, wt_ref, wt_null, nl_int, nl_long, nl_ref, nl_null, nl_none, rf_n, rf_s, rf_st, tl_s, tl_n, g0, gS, ex1, nb_b, nb_0, nb_1, nf_i, nf_l, nf_ra, nf_ro, nf_na, nf_no, nf_b0, nf_z0, t45_4, t45_5, true_and, and_true, List.set_cons_zero, List.set_cons_succ, List.length_cons, List.length_nil, rd_s, upw_s, ne_eq, not_false_eq_true, Nat.zero_add, Nat.add_zero]
    | split
    | with_reducible intro _
    | omega
set_option maxHeartbeats 4000000 in
theorem fX1_threeSmall {s : AS} {a0 : Int32} {a1 : Int32} {a2 : Int32} {a3 : Int32} (hC : CS g w0 x nA cA lA kn s w) (hX : ¬ (okC a0) → (Q (.inr "java/lang/IndexOutOfBoundsException") w)) (hT : okC a0 → oP (a1.toInt64) (a1.toInt64) (a2.toInt64) (a3.toInt64) → ∀ w', CS g w0 x nA cA lA kn (sMk s a0.toNatClampNeg (a1.toInt64, a1.toInt64, a2.toInt64, a3.toInt64)) w' → Q (.inl (some (.int 1))) w') (hF : okC a0 → ¬ oP (a1.toInt64) (a1.toInt64) (a2.toInt64) (a3.toInt64) → ∀ w', CS g w0 x nA cA lA kn (sRf s) w' → Q (.inl (some (.int (-9)))) w') : WP (MX1_threeSmall g) Q (0, [some (.ref x), some (.int a0), some (.int a1), some (.int a2), some (.int a3)], [], w, 0, 0) := by
  obtain ⟨gc, gl, ⟨hx, hn, hc, hl, hgc, hgl, hn0, hn1, rx, rn, rc, rl, ⟨d1, d2, d3, d4, d5, d6⟩, ⟨d7, d8, d9, d10, d11, d12⟩⟩, hcd, hpl⟩ := hC.1.opn g
  repeat' first
    | with_reducible assumption
    | with_reducible refine And.intro ?_ ?_
    | with_reducible exact vpi6 (by assumption) (by assumption)
    | with_reducible exact vpi8 (by assumption) (by assumption)
    | with_reducible exact trivial
    | with_reducible exact hX (fun h => absurd h (by assumption))
    | with_reducible refine fX1_needCard (a0 := a0) (fun _ => ?_) (fun k0 => ?_)
    | with_reducible exact vpi6 k0.1 k0.2
    | with_reducible refine fX0_ofThree (fun hno => ?_) (fun hyes q hq => ?_)
    | with_reducible refine fX1_giveN hC (fun w1 g1 g2 => ?_)
    | with_reducible exact hF k0 hno w1 g1
    | with_reducible exact go_5 (hC.ext (ext_up2 ext.rf hq))
    | with_reducible refine fX1_giveR (hC.ext (ext_up2 ext.rf hq)) rAt_new k0.1 k0.2 (fun w1 g1 g2 => ?_)
    | with_reducible exact hT k0 hyes w1 g1
    | simp only [eX1_threeSmall_0, eX1_threeSmall_1, eX1_threeSmall_4, eX1_threeSmall_4N, eX1_threeSmall_5, eX1_threeSmall_6, eX1_threeSmall_7, eX1_threeSmall_8, eX1_threeSmall_9, eX1_threeSmall_10, eX1_threeSmall_12, eX1_threeSmall_13, eX1_threeSmall_16R, eX1_threeSmall_16N, eX1_threeSmall_19, lgp, lgn, lgz, i10, i00, if_true, if_false, eq_self, not_true, not_false_eq_true, rx, rn, rc, rl, hx, hn, hc, hl, d1, d2, d3, d4, d5, d6, d7, d8, d9, d10, d11, d12, rd_n, upw_n, ite_le, n45, n54, true_or, or_true, false_or, or_false, false_and, and_false, kx_l, kx_r, go_s, gl_s, gi_s, gb_s2, gb_s3, gq_s, wt_nil, wt_int, wt_long, wt_ref, wt_null, nl_int, nl_long, nl_ref, nl_null, nl_none, rf_n, rf_s, rf_st, tl_s, tl_n, g0, gS, ex1, nb_b, nb_0, nb_1, nf_i, nf_l, nf_ra, nf_ro, nf_na, nf_no, nf_b0, nf_z0, t45_4, t45_5, true_and, and_true, List.set_cons_zero, List.set_cons_succ, List.length_cons, List.length_nil, rd_s, upw_s, ne_eq, not_false_eq_true, Nat.zero_add, Nat.add_zero]
    | split
    | with_reducible intro _
    | omega
set_option maxHeartbeats 4000000 in
theorem fX1_fourSmall {s : AS} {a0 : Int32} {a1 : Int32} {a2 : Int32} {a3 : Int32} {a4 : Int32} (hC : CS g w0 x nA cA lA kn s w) (hX : ¬ (okC a0) → (Q (.inr "java/lang/IndexOutOfBoundsException") w)) (hT : okC a0 → oP (a1.toInt64) (a2.toInt64) (a3.toInt64) (a4.toInt64) → ∀ w', CS g w0 x nA cA lA kn (sMk s a0.toNatClampNeg (a1.toInt64, a2.toInt64, a3.toInt64, a4.toInt64)) w' → Q (.inl (some (.int 1))) w') (hF : okC a0 → ¬ oP (a1.toInt64) (a2.toInt64) (a3.toInt64) (a4.toInt64) → ∀ w', CS g w0 x nA cA lA kn (sRf s) w' → Q (.inl (some (.int (-9)))) w') : WP (MX1_fourSmall g) Q (0, [some (.ref x), some (.int a0), some (.int a1), some (.int a2), some (.int a3), some (.int a4)], [], w, 0, 0) := by
  obtain ⟨gc, gl, ⟨hx, hn, hc, hl, hgc, hgl, hn0, hn1, rx, rn, rc, rl, ⟨d1, d2, d3, d4, d5, d6⟩, ⟨d7, d8, d9, d10, d11, d12⟩⟩, hcd, hpl⟩ := hC.1.opn g
  repeat' first
    | with_reducible assumption
    | with_reducible refine And.intro ?_ ?_
    | with_reducible exact vpi6 (by assumption) (by assumption)
    | with_reducible exact vpi8 (by assumption) (by assumption)
    | with_reducible exact trivial
    | with_reducible exact hX (fun h => absurd h (by assumption))
    | with_reducible refine fX1_needCard (a0 := a0) (fun _ => ?_) (fun k0 => ?_)
    | with_reducible exact vpi6 k0.1 k0.2
    | with_reducible refine fX0_ofFour (fun hno => ?_) (fun hyes q hq => ?_)
    | with_reducible refine fX1_giveN hC (fun w1 g1 g2 => ?_)
    | with_reducible exact hF k0 hno w1 g1
    | with_reducible exact go_5 (hC.ext (ext_up2 ext.rf hq))
    | with_reducible refine fX1_giveR (hC.ext (ext_up2 ext.rf hq)) rAt_new k0.1 k0.2 (fun w1 g1 g2 => ?_)
    | with_reducible exact hT k0 hyes w1 g1
    | simp only [eX1_fourSmall_0, eX1_fourSmall_1, eX1_fourSmall_4, eX1_fourSmall_4N, eX1_fourSmall_5, eX1_fourSmall_6, eX1_fourSmall_7, eX1_fourSmall_8, eX1_fourSmall_9, eX1_fourSmall_10, eX1_fourSmall_12, eX1_fourSmall_13, eX1_fourSmall_15, eX1_fourSmall_16, eX1_fourSmall_19R, eX1_fourSmall_19N, eX1_fourSmall_22, lgp, lgn, lgz, i10, i00, if_true, if_false, eq_self, not_true, not_false_eq_true, rx, rn, rc, rl, hx, hn, hc, hl, d1, d2, d3, d4, d5, d6, d7, d8, d9, d10, d11, d12, rd_n, upw_n, ite_le, n45, n54, true_or, or_true, false_or, or_false, false_and, and_false, kx_l, kx_r, go_s, gl_s, gi_s, gb_s2, gb_s3, gq_s, wt_nil, wt_int, wt_long, wt_ref, wt_null, nl_int, nl_long, nl_ref, nl_null, nl_none, rf_n, rf_s, rf_st, tl_s, tl_n, g0, gS, ex1, nb_b, nb_0, nb_1, nf_i, nf_l, nf_ra, nf_ro, nf_na, nf_no, nf_b0, nf_z0, t45_4, t45_5, true_and, and_true, List.set_cons_zero, List.set_cons_succ, List.length_cons, List.length_nil, rd_s, upw_s, ne_eq, not_false_eq_true, Nat.zero_add, Nat.add_zero]
    | split
    | with_reducible intro _
    | omega
set_option maxHeartbeats 4000000 in
theorem fX1_copyOf {p : Nat} {r : R4} (hp : rAt w p r) (hN : ¬ rOk r → Q (.inl (some .null)) w) (hQ : rOk r → ∀ q, rd g w q = none → Q (.inl (some (.ref q))) (upw w q (.inr (4, [.long r.1, .long r.2.1, .long r.2.2.1, .long r.2.2.2])))) : WP (MX1_copyOf g) Q (0, [some (.ref p)], [], w, 0, 0) := by
  repeat' first
    | with_reducible assumption
    | with_reducible refine And.intro ?_ ?_
    | with_reducible exact vpi6 (by assumption) (by assumption)
    | with_reducible exact vpi8 (by assumption) (by assumption)
    | with_reducible exact trivial
    | with_reducible refine go_F (by assumption) ?_
    | with_reducible refine fX0_ofFour (fun hno => ?_) (fun hyes q hq => ?_)
    | with_reducible exact hN hno
    | with_reducible exact hQ hyes q hq
    | simp only [eX1_copyOf_0, eX1_copyOf_0N, eX1_copyOf_1, eX1_copyOf_4, eX1_copyOf_4N, eX1_copyOf_5, eX1_copyOf_8, eX1_copyOf_8N, eX1_copyOf_9, eX1_copyOf_12, eX1_copyOf_12N, eX1_copyOf_13, eX1_copyOf_16, eX1_copyOf_19, eX1_copyOf_19N, lgp, lgn, lgz, i10, i00, if_true, if_false, eq_self, not_true, not_false_eq_true, ite_le, n45, n54, true_or, or_true, false_or, or_false, false_and, and_false, kx_l, kx_r, go_s, gl_s, gi_s, gb_s2, gb_s3, gq_s, wt_nil, wt_int, wt_long, wt_ref, wt_null, nl_int, nl_long, nl_ref, nl_null, nl_none, rf_n, rf_s, rf_st, tl_s, tl_n, g0, gS, ex1, nb_b, nb_0, nb_1, nf_i, nf_l, nf_ra, nf_ro, nf_na, nf_no, nf_b0, nf_z0, t45_4, t45_5, true_and, and_true, List.set_cons_zero, List.set_cons_succ, List.length_cons, List.length_nil, rd_s, upw_s, ne_eq, not_false_eq_true, Nat.zero_add, Nat.add_zero]
    | split
    | with_reducible intro _
    | omega
set_option maxHeartbeats 4000000 in
theorem fX1_outerOf {p : Nat} {r : R4} (hp : rAt w p r) (hN : ¬ oP r.1 r.1 r.2.2.2 r.2.2.2 → Q (.inl (some .null)) w) (hQ : oP r.1 r.1 r.2.2.2 r.2.2.2 → ∀ q, rd g w q = none → Q (.inl (some (.ref q))) (upw w q (.inr (4, [.long r.1, .long r.1, .long r.2.2.2, .long r.2.2.2])))) : WP (MX1_outerOf g) Q (0, [some (.ref p)], [], w, 0, 0) := by
  repeat' first
    | with_reducible assumption
    | with_reducible refine And.intro ?_ ?_
    | with_reducible exact vpi6 (by assumption) (by assumption)
    | with_reducible exact vpi8 (by assumption) (by assumption)
    | with_reducible exact trivial
    | with_reducible refine go_F (by assumption) ?_
    | with_reducible refine fX0_ofTwo (fun hno => ?_) (fun hyes q hq => ?_)
    | with_reducible exact hN hno
    | with_reducible exact hQ hyes q hq
    | simp only [eX1_outerOf_0, eX1_outerOf_0N, eX1_outerOf_1, eX1_outerOf_4, eX1_outerOf_4N, eX1_outerOf_5, eX1_outerOf_8, eX1_outerOf_11, eX1_outerOf_11N, lgp, lgn, lgz, i10, i00, if_true, if_false, eq_self, not_true, not_false_eq_true, ite_le, n45, n54, true_or, or_true, false_or, or_false, false_and, and_false, kx_l, kx_r, go_s, gl_s, gi_s, gb_s2, gb_s3, gq_s, wt_nil, wt_int, wt_long, wt_ref, wt_null, nl_int, nl_long, nl_ref, nl_null, nl_none, rf_n, rf_s, rf_st, tl_s, tl_n, g0, gS, ex1, nb_b, nb_0, nb_1, nf_i, nf_l, nf_ra, nf_ro, nf_na, nf_no, nf_b0, nf_z0, t45_4, t45_5, true_and, and_true, List.set_cons_zero, List.set_cons_succ, List.length_cons, List.length_nil, rd_s, upw_s, ne_eq, not_false_eq_true, Nat.zero_add, Nat.add_zero]
    | split
    | with_reducible intro _
    | omega
set_option maxHeartbeats 4000000 in
theorem fX1_inner {s : AS} {a0 a1 : Int32} (hC : CS g w0 x nA cA lA kn s w) (hX : ¬ (okC a0 ∧ okC a1) → (Q (.inr "java/lang/IndexOutOfBoundsException") w)) (hS : okC a0 → okC a1 → s.2.1 a1.toNatClampNeg = none → (Q (.inr "java/lang/IllegalStateException") w)) (hT : okC a0 → okC a1 → ∀ r, s.2.1 a1.toNatClampNeg = some r → oP r.2.1 r.2.1 r.2.2.1 r.2.2.1 → ∀ w', CS g w0 x nA cA lA kn (sMk s a0.toNatClampNeg (r.2.1, r.2.1, r.2.2.1, r.2.2.1)) w' → Q (.inl (some (.int 1))) w') (hF : okC a0 → okC a1 → ∀ r, s.2.1 a1.toNatClampNeg = some r → ¬ oP r.2.1 r.2.1 r.2.2.1 r.2.2.1 → ∀ w', CS g w0 x nA cA lA kn (sRf s) w' → Q (.inl (some (.int (-9)))) w') : WP (MX1_inner g) Q (0, [some (.ref x), some (.int a0), some (.int a1), none], [], w, 0, 0) := by
  obtain ⟨gc, gl, ⟨hx, hn, hc, hl, hgc, hgl, hn0, hn1, rx, rn, rc, rl, ⟨d1, d2, d3, d4, d5, d6⟩, ⟨d7, d8, d9, d10, d11, d12⟩⟩, hcd, hpl⟩ := hC.1.opn g
  repeat' first
    | with_reducible assumption
    | with_reducible refine And.intro ?_ ?_
    | with_reducible exact vpi6 (by assumption) (by assumption)
    | with_reducible exact vpi8 (by assumption) (by assumption)
    | with_reducible exact trivial
    | with_reducible exact hX (fun h => absurd h.1 (by assumption))
    | with_reducible exact hX (fun h => absurd h.2 (by assumption))
    | with_reducible refine fX1_needCard (a0 := a0) (fun _ => ?_) (fun k0 => ?_)
    | with_reducible exact vpi6 k0.1 k0.2
    | with_reducible refine fX1_rangeOf hC (fun _ => ?_) (fun k1 e1 => ?_) (fun k1 p r e1 hp => ?_)
    | with_reducible exact hS k0 k1 e1
    | with_reducible refine go_F hp ?_
    | with_reducible exact go_F hp trivial
    | with_reducible refine fX0_ofTwo (fun hno => ?_) (fun hyes q hq => ?_)
    | with_reducible refine fX1_giveN hC (fun w1 g1 g2 => ?_)
    | with_reducible exact hF k0 k1 r e1 hno w1 g1
    | with_reducible exact go_5 (hC.ext (ext_up2 ext.rf hq))
    | with_reducible refine fX1_giveR (hC.ext (ext_up2 ext.rf hq)) rAt_new k0.1 k0.2 (fun w1 g1 g2 => ?_)
    | with_reducible exact hT k0 k1 r e1 hyes w1 g1
    | simp only [eX1_inner_0, eX1_inner_1, eX1_inner_4, eX1_inner_4N, eX1_inner_5, eX1_inner_6, eX1_inner_9, eX1_inner_9N, eX1_inner_10, eX1_inner_10N, eX1_inner_11, eX1_inner_12, eX1_inner_12N, eX1_inner_13, eX1_inner_16, eX1_inner_16N, eX1_inner_17, eX1_inner_20, eX1_inner_23R, eX1_inner_23N, eX1_inner_26, lgp, lgn, lgz, i10, i00, if_true, if_false, eq_self, not_true, not_false_eq_true, rx, rn, rc, rl, hx, hn, hc, hl, d1, d2, d3, d4, d5, d6, d7, d8, d9, d10, d11, d12, rd_n, upw_n, ite_le, n45, n54, true_or, or_true, false_or, or_false, false_and, and_false, kx_l, kx_r, go_s, gl_s, gi_s, gb_s2, gb_s3, gq_s, wt_nil, wt_int, wt_long, wt_ref, wt_null, nl_int, nl_long, nl_ref, nl_null, nl_none, rf_n, rf_s, rf_st, tl_s, tl_n, g0, gS, ex1, nb_b, nb_0, nb_1, nf_i, nf_l, nf_ra, nf_ro, nf_na, nf_no, nf_b0, nf_z0, t45_4, t45_5, true_and, and_true, List.set_cons_zero, List.set_cons_succ, List.length_cons, List.length_nil, rd_s, upw_s, ne_eq, not_false_eq_true, Nat.zero_add, Nat.add_zero]
    | split
    | with_reducible intro _
    | omega
set_option maxHeartbeats 4000000 in
theorem fX1_shift {s : AS} {a0 a1 : Int32} (hC : CS g w0 x nA cA lA kn s w) (hX : ¬ okC a0 → (Q (.inr "java/lang/IndexOutOfBoundsException") w)) (hS : okC a0 → s.2.1 a0.toNatClampNeg = none → (Q (.inr "java/lang/IllegalStateException") w)) (hT : okC a0 → ∀ r, s.2.1 a0.toNatClampNeg = some r → oP (r.1 + a1.toInt64) (r.2.1 + a1.toInt64) (r.2.2.1 + a1.toInt64) (r.2.2.2 + a1.toInt64) → ∀ w', CS g w0 x nA cA lA kn (sMk s a0.toNatClampNeg (r.1 + a1.toInt64, r.2.1 + a1.toInt64, r.2.2.1 + a1.toInt64, r.2.2.2 + a1.toInt64)) w' → Q (.inl (some (.int 1))) w') (hF : okC a0 → ∀ r, s.2.1 a0.toNatClampNeg = some r → ¬ oP (r.1 + a1.toInt64) (r.2.1 + a1.toInt64) (r.2.2.1 + a1.toInt64) (r.2.2.2 + a1.toInt64) → ∀ w', CS g w0 x nA cA lA kn (sRf s) w' → Q (.inl (some (.int (-9)))) w') : WP (MX1_shift g) Q (0, [some (.ref x), some (.int a0), some (.int a1), none], [], w, 0, 0) := by
  obtain ⟨gc, gl, ⟨hx, hn, hc, hl, hgc, hgl, hn0, hn1, rx, rn, rc, rl, ⟨d1, d2, d3, d4, d5, d6⟩, ⟨d7, d8, d9, d10, d11, d12⟩⟩, hcd, hpl⟩ := hC.1.opn g
  repeat' first
    | with_reducible assumption
    | with_reducible refine And.intro ?_ ?_
    | with_reducible exact vpi6 (by assumption) (by assumption)
    | with_reducible exact vpi8 (by assumption) (by assumption)
    | with_reducible exact trivial
    | with_reducible exact hX (by assumption)
    | with_reducible refine fX1_rangeOf hC (fun _ => ?_) (fun k0 e1 => ?_) (fun k0 p r e1 hp => ?_)
    | with_reducible exact hS k0 e1
    | with_reducible refine go_F hp ?_
    | with_reducible exact go_F hp trivial
    | with_reducible refine fX0_ofFour (fun hno => ?_) (fun hyes q hq => ?_)
    | with_reducible refine fX1_giveN hC (fun w1 g1 g2 => ?_)
    | with_reducible exact hF k0 r e1 hno w1 g1
    | with_reducible exact go_5 (hC.ext (ext_up2 ext.rf hq))
    | with_reducible refine fX1_giveR (hC.ext (ext_up2 ext.rf hq)) rAt_new k0.1 k0.2 (fun w1 g1 g2 => ?_)
    | with_reducible exact hT k0 r e1 hyes w1 g1
    | simp only [eX1_shift_0, eX1_shift_0N, eX1_shift_1, eX1_shift_2, eX1_shift_5, eX1_shift_5N, eX1_shift_6, eX1_shift_6N, eX1_shift_7, eX1_shift_8, eX1_shift_8N, eX1_shift_9, eX1_shift_12, eX1_shift_13, eX1_shift_14, eX1_shift_15, eX1_shift_15N, eX1_shift_16, eX1_shift_19, eX1_shift_20, eX1_shift_21, eX1_shift_22, eX1_shift_22N, eX1_shift_23, eX1_shift_26, eX1_shift_27, eX1_shift_28, eX1_shift_29, eX1_shift_29N, eX1_shift_30, eX1_shift_33, eX1_shift_34, eX1_shift_35, eX1_shift_36, eX1_shift_39R, eX1_shift_39N, eX1_shift_42, lgp, lgn, lgz, i10, i00, if_true, if_false, eq_self, not_true, not_false_eq_true, rx, rn, rc, rl, hx, hn, hc, hl, d1, d2, d3, d4, d5, d6, d7, d8, d9, d10, d11, d12, rd_n, upw_n, ite_le, n45, n54, true_or, or_true, false_or, or_false, false_and, and_false, kx_l, kx_r, go_s, gl_s, gi_s, gb_s2, gb_s3, gq_s, wt_nil, wt_int, wt_long, wt_ref, wt_null, nl_int, nl_long, nl_ref, nl_null, nl_none, rf_n, rf_s, rf_st, tl_s, tl_n, g0, gS, ex1, nb_b, nb_0, nb_1, nf_i, nf_l, nf_ra, nf_ro, nf_na, nf_no, nf_b0, nf_z0, t45_4, t45_5, true_and, and_true, List.set_cons_zero, List.set_cons_succ, List.length_cons, List.length_nil, rd_s, upw_s, ne_eq, not_false_eq_true, Nat.zero_add, Nat.add_zero]
    | split
    | with_reducible intro _
    | omega
set_option maxHeartbeats 4000000 in
theorem fX1_span {s : AS} {a0 a1 a2 : Int32} (hC : CS g w0 x nA cA lA kn s w) (hX : ¬ (okC a0 ∧ okC a1 ∧ okC a2) → (Q (.inr "java/lang/IndexOutOfBoundsException") w)) (hS : okC a0 → okC a1 → okC a2 → (s.2.1 a1.toNatClampNeg = none ∨ s.2.1 a2.toNatClampNeg = none) → (Q (.inr "java/lang/IllegalStateException") w)) (hT : okC a0 → okC a1 → okC a2 → ∀ r q, s.2.1 a1.toNatClampNeg = some r → s.2.1 a2.toNatClampNeg = some q → oP r.1 r.2.1 q.2.2.1 q.2.2.2 → ∀ w', CS g w0 x nA cA lA kn (sMk s a0.toNatClampNeg (r.1, r.2.1, q.2.2.1, q.2.2.2)) w' → Q (.inl (some (.int 1))) w') (hF : okC a0 → okC a1 → okC a2 → ∀ r q, s.2.1 a1.toNatClampNeg = some r → s.2.1 a2.toNatClampNeg = some q → ¬ oP r.1 r.2.1 q.2.2.1 q.2.2.2 → ∀ w', CS g w0 x nA cA lA kn (sRf s) w' → Q (.inl (some (.int (-9)))) w') : WP (MX1_span g) Q (0, [some (.ref x), some (.int a0), some (.int a1), some (.int a2), none, none], [], w, 0, 0) := by
  obtain ⟨gc, gl, ⟨hx, hn, hc, hl, hgc, hgl, hn0, hn1, rx, rn, rc, rl, ⟨d1, d2, d3, d4, d5, d6⟩, ⟨d7, d8, d9, d10, d11, d12⟩⟩, hcd, hpl⟩ := hC.1.opn g
  repeat' first
    | with_reducible assumption
    | with_reducible refine And.intro ?_ ?_
    | with_reducible exact vpi6 (by assumption) (by assumption)
    | with_reducible exact vpi8 (by assumption) (by assumption)
    | with_reducible exact trivial
    | with_reducible exact hX (fun h => absurd h.1 (by assumption))
    | with_reducible exact hX (fun h => absurd h.2.1 (by assumption))
    | with_reducible exact hX (fun h => absurd h.2.2 (by assumption))
    | with_reducible refine fX1_needCard (a0 := a0) (fun _ => ?_) (fun k0 => ?_)
    | with_reducible exact vpi6 k0.1 k0.2
    | with_reducible refine fX1_needCard (a0 := a1) (fun _ => ?_) (fun k1 => ?_)
    | with_reducible exact vpi6 k1.1 k1.2
    | with_reducible refine fX1_needCard (a0 := a2) (fun _ => ?_) (fun k2 => ?_)
    | with_reducible exact vpi6 k2.1 k2.2
    | with_reducible refine fX1_rangeOf (a0 := a1) hC (fun _ => ?_) (fun _ e1 => ?_) (fun _ p r e1 hp => ?_)
    | with_reducible refine fX1_rangeOf (a0 := a2) hC (fun _ => ?_) (fun _ e2 => ?_) (fun _ p2 r2 e2 hp2 => ?_)
    | with_reducible exact hS k0 k1 k2 (Or.inl e1)
    | with_reducible exact hS k0 k1 k2 (Or.inr e2)
    | with_reducible refine go_F hp ?_
    | with_reducible exact go_F hp trivial
    | with_reducible refine go_F hp2 ?_
    | with_reducible exact go_F hp2 trivial
    | with_reducible refine fX0_ofFour (fun hno => ?_) (fun hyes q hq => ?_)
    | with_reducible refine fX1_giveN hC (fun w1 g1 g2 => ?_)
    | with_reducible exact hF k0 k1 k2 r r2 e1 e2 hno w1 g1
    | with_reducible exact go_5 (hC.ext (ext_up2 ext.rf hq))
    | with_reducible refine fX1_giveR (hC.ext (ext_up2 ext.rf hq)) rAt_new k0.1 k0.2 (fun w1 g1 g2 => ?_)
    | with_reducible exact hT k0 k1 k2 r r2 e1 e2 hyes w1 g1
    | simp only [eX1_span_0, eX1_span_1, eX1_span_4, eX1_span_5, eX1_span_8, eX1_span_9, eX1_span_12, eX1_span_12N, eX1_span_13, eX1_span_14, eX1_span_17, eX1_span_17N, eX1_span_19, eX1_span_19N, eX1_span_20, eX1_span_21, eX1_span_24, eX1_span_24N, eX1_span_26, eX1_span_26N, eX1_span_27, eX1_span_28, eX1_span_28N, eX1_span_30, eX1_span_33, eX1_span_33N, eX1_span_35, eX1_span_38, eX1_span_38N, eX1_span_40, eX1_span_43, eX1_span_43N, eX1_span_45, eX1_span_48, eX1_span_51R, eX1_span_51N, eX1_span_54, lgp, lgn, lgz, i10, i00, if_true, if_false, eq_self, not_true, not_false_eq_true, rx, rn, rc, rl, hx, hn, hc, hl, d1, d2, d3, d4, d5, d6, d7, d8, d9, d10, d11, d12, rd_n, upw_n, ite_le, n45, n54, true_or, or_true, false_or, or_false, false_and, and_false, kx_l, kx_r, go_s, gl_s, gi_s, gb_s2, gb_s3, gq_s, wt_nil, wt_int, wt_long, wt_ref, wt_null, nl_int, nl_long, nl_ref, nl_null, nl_none, rf_n, rf_s, rf_st, tl_s, tl_n, g0, gS, ex1, nb_b, nb_0, nb_1, nf_i, nf_l, nf_ra, nf_ro, nf_na, nf_no, nf_b0, nf_z0, t45_4, t45_5, true_and, and_true, List.set_cons_zero, List.set_cons_succ, List.length_cons, List.length_nil, rd_s, upw_s, ne_eq, not_false_eq_true, Nat.zero_add, Nat.add_zero]
    | split
    | with_reducible intro _
    | omega
end
