section
variable {g : RO} {Q : Ot → Hw → Prop} {w0 w : Hw} {x nA cA lA : Nat} {kn : Int32}
set_option maxHeartbeats 4000000 in
theorem fX1_take {s : AS} {a0 a1 a2 : Int32} (hC : CS g w0 x nA cA lA kn s w) (hX : ¬ (okC a0 ∧ okN a2) → (Q (.inr "java/lang/IndexOutOfBoundsException") w)) (hW : okC a0 → okN a2 → ¬ okW a1 3 → (Q (.inr "java/lang/IllegalArgumentException") w)) (hS : okC a0 → okN a2 → okW a1 3 → s.2.1 a0.toNatClampNeg = none → (Q (.inr "java/lang/IllegalStateException") w)) (hQ : okC a0 → okN a2 → okW a1 3 → ∀ r, s.2.1 a0.toNatClampNeg = some r → ∀ w', CS g w0 x nA cA lA kn (sN s (vp_updL s.1 a2.toNatClampNeg (eV r a1))) w' → Q (.inl (some (.int (loV (eV r a1))))) w') : WP (MX1_take g) Q (0, [some (.ref x), some (.int a0), some (.int a1), some (.int a2)], [], w, 0, 0) := by
  obtain ⟨gc, gl, ⟨hx, hn, hc, hl, hgc, hgl, hn0, hn1, rx, rn, rc, rl, ⟨d1, d2, d3, d4, d5, d6⟩, ⟨d7, d8, d9, d10, d11, d12⟩⟩, hcd, hpl⟩ := hC.1.opn g
  repeat' first
    | with_reducible assumption
    | with_reducible refine And.intro ?_ ?_
    | with_reducible exact vpi6 (by assumption) (by assumption)
    | with_reducible exact vpi8 (by assumption) (by assumption)
    | with_reducible exact trivial
    | with_reducible exact hX (fun h => absurd h.1 (by assumption))
    | with_reducible exact hX (fun h => absurd h.2 (by assumption))
    | with_reducible refine fX1_needCard (a0 := a0) (fun _ => ?_) (fun k0 => ?_)
    | with_reducible exact vpi6 k0.1 k0.2
    | with_reducible refine fX1_needNumber (a0 := a2) (fun _ => ?_) (fun k2 => ?_)
    | with_reducible exact vpi8 k2.1 k2.2
    | with_reducible refine fX1_needChoice (fun hnw => ?_) (fun hw => ?_)
    | with_reducible exact hW k0 k2 hnw
    | with_reducible refine fX1_rangeOf (a0 := a0) hC (fun _ => ?_) (fun _ e1 => ?_) (fun _ p r e1 hp => ?_)
    | with_reducible refine go_F hp ?_
    | with_reducible exact go_F hp trivial
    | with_reducible exact hS k0 k2 hw e1
    | with_reducible refine fX0_endAt hp ?_
    | with_reducible refine fX1_putNumber hC k2.1 k2.2 (fun w1 g1 => ?_)
    | with_reducible exact hQ k0 k2 hw r e1 w1 g1
    | simp only [eX1_take_0, eX1_take_1, eX1_take_4, eX1_take_5, eX1_take_8, eX1_take_9, eX1_take_10, eX1_take_13, eX1_take_13N, eX1_take_14, eX1_take_15, eX1_take_15N, eX1_take_16, eX1_take_17, eX1_take_20, eX1_take_21, eX1_take_24, eX1_take_27, lgp, lgn, lgz, i10, i00, if_true, if_false, eq_self, not_true, not_false_eq_true, rx, rn, rc, rl, hx, hn, hc, hl, d1, d2, d3, d4, d5, d6, d7, d8, d9, d10, d11, d12, rd_n, upw_n, ite_le, n45, n54, true_or, or_true, false_or, or_false, false_and, and_false, kx_l, kx_r, go_s, gl_s, gi_s, gb_s2, gb_s3, gq_s, wt_nil, wt_int, wt_long, wt_ref, wt_null, nl_int, nl_long, nl_ref, nl_null, nl_none, rf_n, rf_s, rf_st, tl_s, tl_n, g0, gS, ex1, nb_b, nb_0, nb_1, nf_i, nf_l, nf_ra, nf_ro, nf_na, nf_no, nf_b0, nf_z0, t45_4, t45_5, true_and, and_true, List.set_cons_zero, List.set_cons_succ, List.length_cons, List.length_nil, rd_s, upw_s, ne_eq, not_false_eq_true, Nat.zero_add, Nat.add_zero]
    | split
    | with_reducible intro _
    | omega
set_option maxHeartbeats 4000000 in
theorem fX1_end {s : AS} {a0 a1 a2 : Int32} (hC : CS g w0 x nA cA lA kn s w) (hX : ¬ okC a0 → (Q (.inr "java/lang/IndexOutOfBoundsException") w)) (hW : okC a0 → ¬ okW a1 3 → (Q (.inr "java/lang/IllegalArgumentException") w)) (hS : okC a0 → okW a1 3 → s.2.1 a0.toNatClampNeg = none → (Q (.inr "java/lang/IllegalStateException") w)) (hQ : okC a0 → okW a1 3 → ∀ r, s.2.1 a0.toNatClampNeg = some r → Q (.inl (some (.int (hfV (eV r a1) a2)))) w) : WP (MX1_end g) Q (0, [some (.ref x), some (.int a0), some (.int a1), some (.int a2)], [], w, 0, 0) := by
  obtain ⟨gc, gl, ⟨hx, hn, hc, hl, hgc, hgl, hn0, hn1, rx, rn, rc, rl, ⟨d1, d2, d3, d4, d5, d6⟩, ⟨d7, d8, d9, d10, d11, d12⟩⟩, hcd, hpl⟩ := hC.1.opn g
  repeat' first
    | with_reducible assumption
    | with_reducible refine And.intro ?_ ?_
    | with_reducible exact vpi6 (by assumption) (by assumption)
    | with_reducible exact vpi8 (by assumption) (by assumption)
    | with_reducible exact trivial
    | with_reducible exact hX (by assumption)
    | with_reducible refine fX1_needCard (a0 := a0) (fun _ => ?_) (fun k0 => ?_)
    | with_reducible exact vpi6 k0.1 k0.2
    | with_reducible refine fX1_needChoice (fun hnw => ?_) (fun hw => ?_)
    | with_reducible exact hW k0 hnw
    | with_reducible refine fX1_rangeOf (a0 := a0) hC (fun _ => ?_) (fun _ e1 => ?_) (fun _ p r e1 hp => ?_)
    | with_reducible refine go_F hp ?_
    | with_reducible exact go_F hp trivial
    | with_reducible exact hS k0 hw e1
    | with_reducible refine fX0_endAt hp ?_
    | with_reducible refine fX1_halfOf ?_
    | with_reducible exact hQ k0 hw r e1
    | simp only [eX1_end_0, eX1_end_1, eX1_end_4, eX1_end_5, eX1_end_6, eX1_end_9, eX1_end_9N, eX1_end_10, eX1_end_11, eX1_end_14, eX1_end_15, eX1_end_18, eX1_end_19, eX1_end_22, lgp, lgn, lgz, i10, i00, if_true, if_false, eq_self, not_true, not_false_eq_true, rx, rn, rc, rl, hx, hn, hc, hl, d1, d2, d3, d4, d5, d6, d7, d8, d9, d10, d11, d12, rd_n, upw_n, ite_le, n45, n54, true_or, or_true, false_or, or_false, false_and, and_false, kx_l, kx_r, go_s, gl_s, gi_s, gb_s2, gb_s3, gq_s, wt_nil, wt_int, wt_long, wt_ref, wt_null, nl_int, nl_long, nl_ref, nl_null, nl_none, rf_n, rf_s, rf_st, tl_s, tl_n, g0, gS, ex1, nb_b, nb_0, nb_1, nf_i, nf_l, nf_ra, nf_ro, nf_na, nf_no, nf_b0, nf_z0, t45_4, t45_5, true_and, and_true, List.set_cons_zero, List.set_cons_succ, List.length_cons, List.length_nil, rd_s, upw_s, ne_eq, not_false_eq_true, Nat.zero_add, Nat.add_zero]
    | split
    | with_reducible intro _
    | omega
set_option maxHeartbeats 4000000 in
theorem fX1_isThere {s : AS} {a0 : Int32} (hC : CS g w0 x nA cA lA kn s w) (hX : ¬ okC a0 → (Q (.inr "java/lang/IndexOutOfBoundsException") w)) (hF : okC a0 → s.2.1 a0.toNatClampNeg = none → Q (.inl (some (.int 0))) w) (hT : okC a0 → ∀ r, s.2.1 a0.toNatClampNeg = some r → Q (.inl (some (.int 1))) w) : WP (MX1_isThere g) Q (0, [some (.ref x), some (.int a0)], [], w, 0, 0) := by
  obtain ⟨gc, gl, ⟨hx, hn, hc, hl, hgc, hgl, hn0, hn1, rx, rn, rc, rl, ⟨d1, d2, d3, d4, d5, d6⟩, ⟨d7, d8, d9, d10, d11, d12⟩⟩, hcd, hpl⟩ := hC.1.opn g
  repeat' first
    | with_reducible assumption
    | with_reducible refine And.intro ?_ ?_
    | with_reducible exact vpi6 (by assumption) (by assumption)
    | with_reducible exact vpi8 (by assumption) (by assumption)
    | with_reducible exact trivial
    | with_reducible exact hX (by assumption)
    | with_reducible refine fX1_needCard (a0 := a0) (fun _ => ?_) (fun k0 => ?_)
    | with_reducible exact vpi6 k0.1 k0.2
    | with_reducible exact hF k0 (cdN hcd k0 (by assumption))
    | with_reducible exact (cdS hcd k0 (by assumption)).elim (fun r h => hT k0 r h.1)
    | simp only [eX1_isThere_0, eX1_isThere_1, eX1_isThere_4, eX1_isThere_4N, eX1_isThere_5, eX1_isThere_8, eX1_isThere_9, eX1_isThere_10R, eX1_isThere_10N, eX1_isThere_13, eX1_isThere_14, eX1_isThere_17, eX1_isThere_18, lgp, lgn, lgz, i10, i00, if_true, if_false, eq_self, not_true, not_false_eq_true, rx, rn, rc, rl, hx, hn, hc, hl, d1, d2, d3, d4, d5, d6, d7, d8, d9, d10, d11, d12, rd_n, upw_n, ite_le, n45, n54, true_or, or_true, false_or, or_false, false_and, and_false, kx_l, kx_r, go_s, gl_s, gi_s, gb_s2, gb_s3, gq_s, wt_nil, wt_int, wt_long, wt_ref, wt_null, nl_int, nl_long, nl_ref, nl_null, nl_none, rf_n, rf_s, rf_st, tl_s, tl_n, g0, gS, ex1, nb_b, nb_0, nb_1, nf_i, nf_l, nf_ra, nf_ro, nf_na, nf_no, nf_b0, nf_z0, t45_4, t45_5, true_and, and_true, List.set_cons_zero, List.set_cons_succ, List.length_cons, List.length_nil, rd_s, upw_s, ne_eq, not_false_eq_true, Nat.zero_add, Nat.add_zero]
    | split
    | with_reducible intro _
    | omega
set_option maxHeartbeats 4000000 in
theorem fX1_isFixed {s : AS} {a0 : Int32} (hC : CS g w0 x nA cA lA kn s w) (hX : ¬ okC a0 → (Q (.inr "java/lang/IndexOutOfBoundsException") w)) (hS : okC a0 → s.2.1 a0.toNatClampNeg = none → (Q (.inr "java/lang/IllegalStateException") w)) (hT : okC a0 → ∀ r, s.2.1 a0.toNatClampNeg = some r → fP r → Q (.inl (some (.int 1))) w) (hF : okC a0 → ∀ r, s.2.1 a0.toNatClampNeg = some r → ¬ (fP r) → Q (.inl (some (.int 0))) w) : WP (MX1_isFixed g) Q (0, [some (.ref x), some (.int a0)], [], w, 0, 0) := by
  obtain ⟨gc, gl, ⟨hx, hn, hc, hl, hgc, hgl, hn0, hn1, rx, rn, rc, rl, ⟨d1, d2, d3, d4, d5, d6⟩, ⟨d7, d8, d9, d10, d11, d12⟩⟩, hcd, hpl⟩ := hC.1.opn g
  repeat' first
    | with_reducible assumption
    | with_reducible refine And.intro ?_ ?_
    | with_reducible exact vpi6 (by assumption) (by assumption)
    | with_reducible exact vpi8 (by assumption) (by assumption)
    | with_reducible exact trivial
    | with_reducible exact hX (by assumption)
    | with_reducible refine fX1_rangeOf (a0 := a0) hC (fun _ => ?_) (fun k0 e1 => ?_) (fun k0 p r e1 hp => ?_)
    | with_reducible refine go_F hp ?_
    | with_reducible exact go_F hp trivial
    | with_reducible exact hS k0 e1
    | with_reducible refine fX0_isSettled hp (fun hm => ?_) (fun hm => ?_)
    | with_reducible exact hT k0 r e1 hm
    | with_reducible exact hF k0 r e1 hm
    | simp only [eX1_isFixed_0, eX1_isFixed_0N, eX1_isFixed_1, eX1_isFixed_2, eX1_isFixed_5, eX1_isFixed_8, lgp, lgn, lgz, i10, i00, if_true, if_false, eq_self, not_true, not_false_eq_true, rx, rn, rc, rl, hx, hn, hc, hl, d1, d2, d3, d4, d5, d6, d7, d8, d9, d10, d11, d12, rd_n, upw_n, ite_le, n45, n54, true_or, or_true, false_or, or_false, false_and, and_false, kx_l, kx_r, go_s, gl_s, gi_s, gb_s2, gb_s3, gq_s, wt_nil, wt_int, wt_long, wt_ref, wt_null, nl_int, nl_long, nl_ref, nl_null, nl_none, rf_n, rf_s, rf_st, tl_s, tl_n, g0, gS, ex1, nb_b, nb_0, nb_1, nf_i, nf_l, nf_ra, nf_ro, nf_na, nf_no, nf_b0, nf_z0, t45_4, t45_5, true_and, and_true, List.set_cons_zero, List.set_cons_succ, List.length_cons, List.length_nil, rd_s, upw_s, ne_eq, not_false_eq_true, Nat.zero_add, Nat.add_zero]
    | split
    | with_reducible intro _
    | omega
set_option maxHeartbeats 4000000 in
theorem fX1_isSmall {s : AS} {a0 : Int32} (hC : CS g w0 x nA cA lA kn s w) (hX : ¬ okC a0 → (Q (.inr "java/lang/IndexOutOfBoundsException") w)) (hS : okC a0 → s.2.1 a0.toNatClampNeg = none → (Q (.inr "java/lang/IllegalStateException") w)) (hT : okC a0 → ∀ r, s.2.1 a0.toNatClampNeg = some r → sP r → Q (.inl (some (.int 1))) w) (hF : okC a0 → ∀ r, s.2.1 a0.toNatClampNeg = some r → ¬ (sP r) → Q (.inl (some (.int 0))) w) : WP (MX1_isSmall g) Q (0, [some (.ref x), some (.int a0)], [], w, 0, 0) := by
  obtain ⟨gc, gl, ⟨hx, hn, hc, hl, hgc, hgl, hn0, hn1, rx, rn, rc, rl, ⟨d1, d2, d3, d4, d5, d6⟩, ⟨d7, d8, d9, d10, d11, d12⟩⟩, hcd, hpl⟩ := hC.1.opn g
  repeat' first
    | with_reducible assumption
    | with_reducible refine And.intro ?_ ?_
    | with_reducible exact vpi6 (by assumption) (by assumption)
    | with_reducible exact vpi8 (by assumption) (by assumption)
    | with_reducible exact trivial
    | with_reducible exact hX (by assumption)
    | with_reducible refine fX1_rangeOf (a0 := a0) hC (fun _ => ?_) (fun k0 e1 => ?_) (fun k0 p r e1 hp => ?_)
    | with_reducible refine go_F hp ?_
    | with_reducible exact go_F hp trivial
    | with_reducible exact hS k0 e1
    | with_reducible refine fX0_fitsSmall hp (fun hm => ?_) (fun hm => ?_)
    | with_reducible exact hT k0 r e1 hm
    | with_reducible exact hF k0 r e1 hm
    | simp only [eX1_isSmall_0, eX1_isSmall_0N, eX1_isSmall_1, eX1_isSmall_2, eX1_isSmall_5, eX1_isSmall_8, lgp, lgn, lgz, i10, i00, if_true, if_false, eq_self, not_true, not_false_eq_true, rx, rn, rc, rl, hx, hn, hc, hl, d1, d2, d3, d4, d5, d6, d7, d8, d9, d10, d11, d12, rd_n, upw_n, ite_le, n45, n54, true_or, or_true, false_or, or_false, false_and, and_false, kx_l, kx_r, go_s, gl_s, gi_s, gb_s2, gb_s3, gq_s, wt_nil, wt_int, wt_long, wt_ref, wt_null, nl_int, nl_long, nl_ref, nl_null, nl_none, rf_n, rf_s, rf_st, tl_s, tl_n, g0, gS, ex1, nb_b, nb_0, nb_1, nf_i, nf_l, nf_ra, nf_ro, nf_na, nf_no, nf_b0, nf_z0, t45_4, t45_5, true_and, and_true, List.set_cons_zero, List.set_cons_succ, List.length_cons, List.length_nil, rd_s, upw_s, ne_eq, not_false_eq_true, Nat.zero_add, Nat.add_zero]
    | split
    | with_reducible intro _
    | omega
set_option maxHeartbeats 4000000 in
theorem fX1_isValid {s : AS} {a0 a1 : Int32} (hC : CS g w0 x nA cA lA kn s w) (hX : ¬ (okC a0 ∧ okN a1) → (Q (.inr "java/lang/IndexOutOfBoundsException") w)) (hS : okC a0 → okN a1 → s.2.1 a0.toNatClampNeg = none → (Q (.inr "java/lang/IllegalStateException") w)) (hT : okC a0 → okN a1 → ∀ r, s.2.1 a0.toNatClampNeg = some r → hP r (s.1 a1.toNatClampNeg) → Q (.inl (some (.int 1))) w) (hF : okC a0 → okN a1 → ∀ r, s.2.1 a0.toNatClampNeg = some r → ¬ (hP r (s.1 a1.toNatClampNeg)) → Q (.inl (some (.int 0))) w) : WP (MX1_isValid g) Q (0, [some (.ref x), some (.int a0), some (.int a1)], [], w, 0, 0) := by
  obtain ⟨gc, gl, ⟨hx, hn, hc, hl, hgc, hgl, hn0, hn1, rx, rn, rc, rl, ⟨d1, d2, d3, d4, d5, d6⟩, ⟨d7, d8, d9, d10, d11, d12⟩⟩, hcd, hpl⟩ := hC.1.opn g
  repeat' first
    | with_reducible assumption
    | with_reducible refine And.intro ?_ ?_
    | with_reducible exact vpi6 (by assumption) (by assumption)
    | with_reducible exact vpi8 (by assumption) (by assumption)
    | with_reducible exact trivial
    | with_reducible exact hX (fun h => absurd h.1 (by assumption))
    | with_reducible exact hX (fun h => absurd h.2 (by assumption))
    | with_reducible refine fX1_needCard (a0 := a0) (fun _ => ?_) (fun k0 => ?_)
    | with_reducible exact vpi6 k0.1 k0.2
    | with_reducible refine fX1_needNumber (a0 := a1) (fun _ => ?_) (fun k1 => ?_)
    | with_reducible exact vpi8 k1.1 k1.2
    | with_reducible refine fX1_rangeOf (a0 := a0) hC (fun _ => ?_) (fun _ e1 => ?_) (fun _ p r e1 hp => ?_)
    | with_reducible refine go_F hp ?_
    | with_reducible exact go_F hp trivial
    | with_reducible exact hS k0 k1 e1
    | with_reducible refine fX0_holds hp (fun hm => ?_) (fun hm => ?_)
    | with_reducible exact hT k0 k1 r e1 hm
    | with_reducible exact hF k0 k1 r e1 hm
    | simp only [eX1_isValid_0, eX1_isValid_1, eX1_isValid_4, eX1_isValid_5, eX1_isValid_8, eX1_isValid_8N, eX1_isValid_9, eX1_isValid_10, eX1_isValid_13, eX1_isValid_13N, eX1_isValid_14, eX1_isValid_17, eX1_isValid_18, eX1_isValid_19, eX1_isValid_22, lgp, lgn, lgz, i10, i00, if_true, if_false, eq_self, not_true, not_false_eq_true, rx, rn, rc, rl, hx, hn, hc, hl, d1, d2, d3, d4, d5, d6, d7, d8, d9, d10, d11, d12, rd_n, upw_n, ite_le, n45, n54, true_or, or_true, false_or, or_false, false_and, and_false, kx_l, kx_r, go_s, gl_s, gi_s, gb_s2, gb_s3, gq_s, wt_nil, wt_int, wt_long, wt_ref, wt_null, nl_int, nl_long, nl_ref, nl_null, nl_none, rf_n, rf_s, rf_st, tl_s, tl_n, g0, gS, ex1, nb_b, nb_0, nb_1, nf_i, nf_l, nf_ra, nf_ro, nf_na, nf_no, nf_b0, nf_z0, t45_4, t45_5, true_and, and_true, List.set_cons_zero, List.set_cons_succ, List.length_cons, List.length_nil, rd_s, upw_s, ne_eq, not_false_eq_true, Nat.zero_add, Nat.add_zero]
    | split
    | with_reducible intro _
    | omega
set_option maxHeartbeats 4000000 in
theorem fX1_isValidSmall {s : AS} {a0 a1 : Int32} (hC : CS g w0 x nA cA lA kn s w) (hX : ¬ (okC a0 ∧ okN a1) → (Q (.inr "java/lang/IndexOutOfBoundsException") w)) (hS : okC a0 → okN a1 → s.2.1 a0.toNatClampNeg = none → (Q (.inr "java/lang/IllegalStateException") w)) (hT : okC a0 → okN a1 → ∀ r, s.2.1 a0.toNatClampNeg = some r → (sP r ∧ hP r (s.1 a1.toNatClampNeg)) → Q (.inl (some (.int 1))) w) (hF : okC a0 → okN a1 → ∀ r, s.2.1 a0.toNatClampNeg = some r → ¬ ((sP r ∧ hP r (s.1 a1.toNatClampNeg))) → Q (.inl (some (.int 0))) w) : WP (MX1_isValidSmall g) Q (0, [some (.ref x), some (.int a0), some (.int a1)], [], w, 0, 0) := by
  obtain ⟨gc, gl, ⟨hx, hn, hc, hl, hgc, hgl, hn0, hn1, rx, rn, rc, rl, ⟨d1, d2, d3, d4, d5, d6⟩, ⟨d7, d8, d9, d10, d11, d12⟩⟩, hcd, hpl⟩ := hC.1.opn g
  repeat' first
    | with_reducible assumption
    | with_reducible refine And.intro ?_ ?_
    | with_reducible exact vpi6 (by assumption) (by assumption)
    | with_reducible exact vpi8 (by assumption) (by assumption)
    | with_reducible exact trivial
    | with_reducible exact hX (fun h => absurd h.1 (by assumption))
    | with_reducible exact hX (fun h => absurd h.2 (by assumption))
    | with_reducible refine fX1_needCard (a0 := a0) (fun _ => ?_) (fun k0 => ?_)
    | with_reducible exact vpi6 k0.1 k0.2
    | with_reducible refine fX1_needNumber (a0 := a1) (fun _ => ?_) (fun k1 => ?_)
    | with_reducible exact vpi8 k1.1 k1.2
    | with_reducible refine fX1_rangeOf (a0 := a0) hC (fun _ => ?_) (fun _ e1 => ?_) (fun _ p r e1 hp => ?_)
    | with_reducible refine go_F hp ?_
    | with_reducible exact go_F hp trivial
    | with_reducible exact hS k0 k1 e1
    | with_reducible refine fX0_holdsAsSmall hp (fun hm => ?_) (fun hm => ?_)
    | with_reducible exact hT k0 k1 r e1 hm
    | with_reducible exact hF k0 k1 r e1 hm
    | simp only [eX1_isValidSmall_0, eX1_isValidSmall_1, eX1_isValidSmall_4, eX1_isValidSmall_5, eX1_isValidSmall_8, eX1_isValidSmall_8N, eX1_isValidSmall_9, eX1_isValidSmall_10, eX1_isValidSmall_13, eX1_isValidSmall_13N, eX1_isValidSmall_14, eX1_isValidSmall_17, eX1_isValidSmall_18, eX1_isValidSmall_19, eX1_isValidSmall_22, lgp, lgn, lgz, i10, i00, if_true, if_false, eq_self, not_true, not_false_eq_true, rx, rn, rc, rl, hx, hn, hc, hl, d1, d2, d3, d4, d5, d6, d7, d8, d9, d10, d11, d12, rd_n, upw_n, ite_le, n45, n54, true_or, or_true, false_or, or_false, false_and, and_false, kx_l, kx_r, go_s, gl_s, gi_s, gb_s2, gb_s3, gq_s, wt_nil, wt_int, wt_long, wt_ref, wt_null, nl_int, nl_long, nl_ref, nl_null, nl_none, rf_n, rf_s, rf_st, tl_s, tl_n, g0, gS, ex1, nb_b, nb_0, nb_1, nf_i, nf_l, nf_ra, nf_ro, nf_na, nf_no, nf_b0, nf_z0, t45_4, t45_5, true_and, and_true, List.set_cons_zero, List.set_cons_succ, List.length_cons, List.length_nil, rd_s, upw_s, ne_eq, not_false_eq_true, Nat.zero_add, Nat.add_zero]
    | split
    | with_reducible intro _
    | omega
def wV (r : R4) (v : Int64) : Int32 := bI (decide (hP r v)) + bI (decide (sP r ∧ hP r v))
def nV (r : R4) (v : Int64) (a : Int32) : Int32 := bI (decide ((a = 0 ∨ sP r) ∧ hP r (v - 1))) + 2 * bI (decide ((a = 0 ∨ sP r) ∧ hP r v)) + 4 * bI (decide ((a = 0 ∨ sP r) ∧ hP r (v + 1)))
set_option maxHeartbeats 4000000 in
theorem fX1_validityIn {p : Nat} {r : R4} {a0 : Int64} (hp : rAt w p r) (hQ : Q (.inl (some (.int (wV r a0)))) w) : WP (MX1_validityIn g) Q (0, [some (.ref p), some (.long a0), none], [], w, 0, 0) := by
  repeat' first
    | with_reducible assumption
    | with_reducible refine And.intro ?_ ?_
    | with_reducible exact vpi6 (by assumption) (by assumption)
    | with_reducible exact vpi8 (by assumption) (by assumption)
    | with_reducible exact trivial
    | with_reducible exact go_F (by assumption) trivial
    | with_reducible refine vX0_holds hp ?_
    | with_reducible refine vX0_holdsAsSmall hp ?_
    | with_reducible refine fX1_asNumber (bI01 _) ?_
    | ((with_reducible refine isQ (Q := Q) ?_); exact hQ)
    | simp only [eX1_validityIn_0, eX1_validityIn_0N, eX1_validityIn_1, eX1_validityIn_2, eX1_validityIn_5, eX1_validityIn_8, eX1_validityIn_8N, eX1_validityIn_9, eX1_validityIn_10, eX1_validityIn_13, eX1_validityIn_16, eX1_validityIn_17, lgp, lgn, lgz, i10, i00, if_true, if_false, eq_self, not_true, not_false_eq_true, ite_le, n45, n54, true_or, or_true, false_or, or_false, false_and, and_false, kx_l, kx_r, go_s, gl_s, gi_s, gb_s2, gb_s3, gq_s, wt_nil, wt_int, wt_long, wt_ref, wt_null, nl_int, nl_long, nl_ref, nl_null, nl_none, rf_n, rf_s, rf_st, tl_s, tl_n, g0, gS, ex1, nb_b, nb_0, nb_1, nf_i, nf_l, nf_ra, nf_ro, nf_na, nf_no, nf_b0, nf_z0, t45_4, t45_5, true_and, and_true, List.set_cons_zero, List.set_cons_succ, List.length_cons, List.length_nil, rd_s, upw_s, ne_eq, not_false_eq_true, Nat.zero_add, Nat.add_zero]
    | split
    | with_reducible intro _
    | omega
set_option maxHeartbeats 4000000 in
theorem fX1_neighboursIn {p : Nat} {r : R4} {a0 : Int64} {a1 : Int32} (hp : rAt w p r) (hQ : Q (.inl (some (.int (nV r a0 a1)))) w) : WP (MX1_neighboursIn g) Q (0, [some (.ref p), some (.long a0), none, some (.int a1)], [], w, 0, 0) := by
  repeat' first
    | with_reducible assumption
    | with_reducible refine And.intro ?_ ?_
    | with_reducible exact vpi6 (by assumption) (by assumption)
    | with_reducible exact vpi8 (by assumption) (by assumption)
    | with_reducible exact trivial
    | with_reducible exact go_F (by assumption) trivial
    | with_reducible refine vX0_holdsAs hp ?_
    | with_reducible refine fX1_asNumber (bI01 _) ?_
    | ((with_reducible refine isQ (Q := Q) ?_); exact hQ)
    | simp only [eX1_neighboursIn_0, eX1_neighboursIn_0N, eX1_neighboursIn_1, eX1_neighboursIn_2, eX1_neighboursIn_3, eX1_neighboursIn_4, eX1_neighboursIn_5, eX1_neighboursIn_8, eX1_neighboursIn_11, eX1_neighboursIn_12, eX1_neighboursIn_12N, eX1_neighboursIn_13, eX1_neighboursIn_14, eX1_neighboursIn_15, eX1_neighboursIn_18, eX1_neighboursIn_21, eX1_neighboursIn_22, eX1_neighboursIn_23, eX1_neighboursIn_24, eX1_neighboursIn_24N, eX1_neighboursIn_25, eX1_neighboursIn_26, eX1_neighboursIn_27, eX1_neighboursIn_28, eX1_neighboursIn_29, eX1_neighboursIn_32, eX1_neighboursIn_35, eX1_neighboursIn_36, eX1_neighboursIn_37, lgp, lgn, lgz, i10, i00, if_true, if_false, eq_self, not_true, not_false_eq_true, ite_le, n45, n54, true_or, or_true, false_or, or_false, false_and, and_false, kx_l, kx_r, go_s, gl_s, gi_s, gb_s2, gb_s3, gq_s, wt_nil, wt_int, wt_long, wt_ref, wt_null, nl_int, nl_long, nl_ref, nl_null, nl_none, rf_n, rf_s, rf_st, tl_s, tl_n, g0, gS, ex1, nb_b, nb_0, nb_1, nf_i, nf_l, nf_ra, nf_ro, nf_na, nf_no, nf_b0, nf_z0, t45_4, t45_5, true_and, and_true, List.set_cons_zero, List.set_cons_succ, List.length_cons, List.length_nil, rd_s, upw_s, ne_eq, not_false_eq_true, Nat.zero_add, Nat.add_zero]
    | split
    | with_reducible intro _
    | omega
set_option maxHeartbeats 4000000 in
theorem fX1_whichValid {s : AS} {a0 a1 : Int32} (hC : CS g w0 x nA cA lA kn s w) (hX : ¬ okC a0 → (Q (.inr "java/lang/IndexOutOfBoundsException") w)) (hS : okC a0 → s.2.1 a0.toNatClampNeg = none → (Q (.inr "java/lang/IllegalStateException") w)) (hQ : okC a0 → ∀ r, s.2.1 a0.toNatClampNeg = some r → Q (.inl (some (.int (wV r a1.toInt64)))) w) : WP (MX1_whichValid g) Q (0, [some (.ref x), some (.int a0), some (.int a1)], [], w, 0, 0) := by
  obtain ⟨gc, gl, ⟨hx, hn, hc, hl, hgc, hgl, hn0, hn1, rx, rn, rc, rl, ⟨d1, d2, d3, d4, d5, d6⟩, ⟨d7, d8, d9, d10, d11, d12⟩⟩, hcd, hpl⟩ := hC.1.opn g
  repeat' first
    | with_reducible assumption
    | with_reducible refine And.intro ?_ ?_
    | with_reducible exact vpi6 (by assumption) (by assumption)
    | with_reducible exact vpi8 (by assumption) (by assumption)
    | with_reducible exact trivial
    | with_reducible exact hX (by assumption)
    | with_reducible refine fX1_rangeOf (a0 := a0) hC (fun _ => ?_) (fun k0 e1 => ?_) (fun k0 p r e1 hp => ?_)
    | with_reducible refine go_F hp ?_
    | with_reducible exact go_F hp trivial
    | with_reducible exact hS k0 e1
    | with_reducible refine fX1_validityIn hp ?_
    | with_reducible exact hQ k0 r e1
    | simp only [eX1_whichValid_0, eX1_whichValid_0N, eX1_whichValid_1, eX1_whichValid_2, eX1_whichValid_5, eX1_whichValid_6, eX1_whichValid_7R, eX1_whichValid_7N, eX1_whichValid_10, lgp, lgn, lgz, i10, i00, if_true, if_false, eq_self, not_true, not_false_eq_true, rx, rn, rc, rl, hx, hn, hc, hl, d1, d2, d3, d4, d5, d6, d7, d8, d9, d10, d11, d12, rd_n, upw_n, ite_le, n45, n54, true_or, or_true, false_or, or_false, false_and, and_false, kx_l, kx_r, go_s, gl_s, gi_s, gb_s2, gb_s3, gq_s, wt_nil, wt_int, wt_long, wt_ref, wt_null, nl_int, nl_long, nl_ref, nl_null, nl_none, rf_n, rf_s, rf_st, tl_s, tl_n, g0, gS, ex1, nb_b, nb_0, nb_1, nf_i, nf_l, nf_ra, nf_ro, nf_na, nf_no, nf_b0, nf_z0, t45_4, t45_5, true_and, and_true, List.set_cons_zero, List.set_cons_succ, List.length_cons, List.length_nil, rd_s, upw_s, ne_eq, not_false_eq_true, Nat.zero_add, Nat.add_zero]
    | split
    | with_reducible intro _
    | omega
set_option maxHeartbeats 4000000 in
theorem fX1_around {s : AS} {a0 a1 a2 : Int32} (hC : CS g w0 x nA cA lA kn s w) (hX : ¬ okC a0 → (Q (.inr "java/lang/IndexOutOfBoundsException") w)) (hW : okC a0 → ¬ okW a1 3 → (Q (.inr "java/lang/IllegalArgumentException") w)) (hS : okC a0 → okW a1 3 → s.2.1 a0.toNatClampNeg = none → (Q (.inr "java/lang/IllegalStateException") w)) (hQ : okC a0 → okW a1 3 → ∀ r, s.2.1 a0.toNatClampNeg = some r → Q (.inl (some (.int (nV r (eV r a1) a2)))) w) : WP (MX1_around g) Q (0, [some (.ref x), some (.int a0), some (.int a1), some (.int a2), none], [], w, 0, 0) := by
  obtain ⟨gc, gl, ⟨hx, hn, hc, hl, hgc, hgl, hn0, hn1, rx, rn, rc, rl, ⟨d1, d2, d3, d4, d5, d6⟩, ⟨d7, d8, d9, d10, d11, d12⟩⟩, hcd, hpl⟩ := hC.1.opn g
  repeat' first
    | with_reducible assumption
    | with_reducible refine And.intro ?_ ?_
    | with_reducible exact vpi6 (by assumption) (by assumption)
    | with_reducible exact vpi8 (by assumption) (by assumption)
    | with_reducible exact trivial
    | with_reducible exact hX (by assumption)
    | with_reducible refine fX1_needCard (a0 := a0) (fun _ => ?_) (fun k0 => ?_)
    | with_reducible exact vpi6 k0.1 k0.2
    | with_reducible refine fX1_needChoice (fun hnw => ?_) (fun hw => ?_)
    | with_reducible exact hW k0 hnw
    | with_reducible refine fX1_rangeOf (a0 := a0) hC (fun _ => ?_) (fun _ e1 => ?_) (fun _ p r e1 hp => ?_)
    | with_reducible refine go_F hp ?_
    | with_reducible exact go_F hp trivial
    | with_reducible exact hS k0 hw e1
    | with_reducible refine fX0_endAt hp ?_
    | with_reducible refine fX1_neighboursIn hp ?_
    | with_reducible exact hQ k0 hw r e1
    | simp only [eX1_around_0, eX1_around_1, eX1_around_4, eX1_around_5, eX1_around_6, eX1_around_9, eX1_around_9N, eX1_around_10, eX1_around_11, eX1_around_14, eX1_around_14N, eX1_around_16, eX1_around_16N, eX1_around_18, eX1_around_18N, eX1_around_20, eX1_around_21, eX1_around_24, eX1_around_25R, eX1_around_25N, eX1_around_28, lgp, lgn, lgz, i10, i00, if_true, if_false, eq_self, not_true, not_false_eq_true, rx, rn, rc, rl, hx, hn, hc, hl, d1, d2, d3, d4, d5, d6, d7, d8, d9, d10, d11, d12, rd_n, upw_n, ite_le, n45, n54, true_or, or_true, false_or, or_false, false_and, and_false, kx_l, kx_r, go_s, gl_s, gi_s, gb_s2, gb_s3, gq_s, wt_nil, wt_int, wt_long, wt_ref, wt_null, nl_int, nl_long, nl_ref, nl_null, nl_none, rf_n, rf_s, rf_st, tl_s, tl_n, g0, gS, ex1, nb_b, nb_0, nb_1, nf_i, nf_l, nf_ra, nf_ro, nf_na, nf_no, nf_b0, nf_z0, t45_4, t45_5, true_and, and_true, List.set_cons_zero, List.set_cons_succ, List.length_cons, List.length_nil, rd_s, upw_s, ne_eq, not_false_eq_true, Nat.zero_add, Nat.add_zero]
    | split
    | with_reducible intro _
    | omega
set_option maxHeartbeats 4000000 in
theorem fX1_areSame {s : AS} {a0 a1 : Int32} (hC : CS g w0 x nA cA lA kn s w) (hX : ¬ (okC a0 ∧ okC a1) → (Q (.inr "java/lang/IndexOutOfBoundsException") w)) (hS : okC a0 → okC a1 → (s.2.1 a0.toNatClampNeg = none ∨ s.2.1 a1.toNatClampNeg = none) → (Q (.inr "java/lang/IllegalStateException") w)) (hT : okC a0 → okC a1 → ∀ r q, s.2.1 a0.toNatClampNeg = some r → s.2.1 a1.toNatClampNeg = some q → mP r q → Q (.inl (some (.int 1))) w) (hF : okC a0 → okC a1 → ∀ r q, s.2.1 a0.toNatClampNeg = some r → s.2.1 a1.toNatClampNeg = some q → ¬ mP r q → Q (.inl (some (.int 0))) w) : WP (MX1_areSame g) Q (0, [some (.ref x), some (.int a0), some (.int a1)], [], w, 0, 0) := by
  obtain ⟨gc, gl, ⟨hx, hn, hc, hl, hgc, hgl, hn0, hn1, rx, rn, rc, rl, ⟨d1, d2, d3, d4, d5, d6⟩, ⟨d7, d8, d9, d10, d11, d12⟩⟩, hcd, hpl⟩ := hC.1.opn g
  repeat' first
    | with_reducible assumption
    | with_reducible refine And.intro ?_ ?_
    | with_reducible exact vpi6 (by assumption) (by assumption)
    | with_reducible exact vpi8 (by assumption) (by assumption)
    | with_reducible exact trivial
    | with_reducible exact hX (fun h => absurd h.1 (by assumption))
    | with_reducible exact hX (fun h => absurd h.2 (by assumption))
    | with_reducible refine fX1_needCard (a0 := a0) (fun _ => ?_) (fun k0 => ?_)
    | with_reducible exact vpi6 k0.1 k0.2
    | with_reducible refine fX1_needCard (a0 := a1) (fun _ => ?_) (fun k1 => ?_)
    | with_reducible exact vpi6 k1.1 k1.2
    | with_reducible refine fX1_rangeOf (a0 := a0) hC (fun _ => ?_) (fun _ e1 => ?_) (fun _ p r e1 hp => ?_)
    | with_reducible refine go_F hp ?_
    | with_reducible exact go_F hp trivial
    | with_reducible refine fX1_rangeOf (a0 := a1) hC (fun _ => ?_) (fun _ e2 => ?_) (fun _ p2 r2 e2 hp2 => ?_)
    | with_reducible refine go_F hp2 ?_
    | with_reducible exact go_F hp2 trivial
    | with_reducible exact hS k0 k1 (Or.inl e1)
    | with_reducible exact hS k0 k1 (Or.inr e2)
    | with_reducible refine fX0_matchesR hp hp2 (fun hm => ?_) (fun hm => ?_)
    | with_reducible exact hT k0 k1 r r2 e1 e2 hm
    | with_reducible exact hF k0 k1 r r2 e1 e2 hm
    | simp only [eX1_areSame_0, eX1_areSame_1, eX1_areSame_4, eX1_areSame_5, eX1_areSame_8, eX1_areSame_8N, eX1_areSame_9, eX1_areSame_10, eX1_areSame_13, eX1_areSame_13N, eX1_areSame_14, eX1_areSame_15, eX1_areSame_18R, eX1_areSame_18N, eX1_areSame_21, lgp, lgn, lgz, i10, i00, if_true, if_false, eq_self, not_true, not_false_eq_true, rx, rn, rc, rl, hx, hn, hc, hl, d1, d2, d3, d4, d5, d6, d7, d8, d9, d10, d11, d12, rd_n, upw_n, ite_le, n45, n54, true_or, or_true, false_or, or_false, false_and, and_false, kx_l, kx_r, go_s, gl_s, gi_s, gb_s2, gb_s3, gq_s, wt_nil, wt_int, wt_long, wt_ref, wt_null, nl_int, nl_long, nl_ref, nl_null, nl_none, rf_n, rf_s, rf_st, tl_s, tl_n, g0, gS, ex1, nb_b, nb_0, nb_1, nf_i, nf_l, nf_ra, nf_ro, nf_na, nf_no, nf_b0, nf_z0, t45_4, t45_5, true_and, and_true, List.set_cons_zero, List.set_cons_succ, List.length_cons, List.length_nil, rd_s, upw_s, ne_eq, not_false_eq_true, Nat.zero_add, Nat.add_zero]
    | split
    | with_reducible intro _
    | omega
end
