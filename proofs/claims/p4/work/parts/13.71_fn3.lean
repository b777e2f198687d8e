/-! 71.fn3.lean.txt -/
section
section
variable {g : RO} {Q : Ot → Hw → Prop} {w0 w : Hw} {x nA cA lA : Nat} {kn : Int32}
set_option maxHeartbeats 4000000 in
theorem fX1_setEnd {s : AS} {a0 a1 : Int32} (hC : CS g w0 x nA cA lA kn s w) (hX : ¬ okN a0 → (Q (.inr "java/lang/IndexOutOfBoundsException") w)) (hW : okN a0 → ¬ okW a1 3 → (Q (.inr "java/lang/IllegalArgumentException") w)) (hQ : okN a0 → okW a1 3 → ∀ w', CS g w0 x nA cA lA kn (sN s (vp_updL s.1 a0.toNatClampNeg (frV a1))) w' → Q (.inl (some (.int (loV (frV a1))))) w') : WP (MX1_setEnd g) Q (0, [some (.ref x), some (.int a0), some (.int a1)], [], w, 0, 0) := by
  obtain ⟨gc, gl, ⟨hx, hn, hc, hl, hgc, hgl, hn0, hn1, rx, rn, rc, rl, ⟨d1, d2, d3, d4, d5, d6⟩, ⟨d7, d8, d9, d10, d11, d12⟩⟩, hcd, hpl⟩ := hC.1.opn g
  repeat' first
    | with_reducible assumption
    | with_reducible refine And.intro ?_ ?_
    | with_reducible exact vpi6 (by assumption) (by assumption)
    | with_reducible exact vpi8 (by assumption) (by assumption)
    | with_reducible exact trivial
    | with_reducible exact hX (by assumption)
    | with_reducible exact vpi8 hok.1 hok.2
    | with_reducible refine fX1_needNumber (fun _ => ?_) (fun hok => ?_)
    | with_reducible refine fX1_needChoice (fun hnw => ?_) (fun hw => ?_)
    | with_reducible exact hW hok hnw
    | with_reducible refine fX1_farNumber ?_
    | with_reducible refine fX1_putNumber hC hok.1 hok.2 (fun w1 h1 => ?_)
    | with_reducible exact hQ hok hw _ h1
    | simp only [eX1_setEnd_0, eX1_setEnd_1, eX1_setEnd_4, eX1_setEnd_5, eX1_setEnd_6, eX1_setEnd_9, eX1_setEnd_9N, eX1_setEnd_10, eX1_setEnd_11, eX1_setEnd_12, eX1_setEnd_15, eX1_setEnd_18, lgp, lgn, lgz, i10, i00, if_true, if_false, eq_self, not_true, not_false_eq_true, rx, rn, rc, rl, hx, hn, hc, hl, d1, d2, d3, d4, d5, d6, d7, d8, d9, d10, d11, d12, rd_n, upw_n, ite_le, n45, n54, true_or, or_true, false_or, or_false, false_and, and_false, kx_l, kx_r, go_s, gl_s, gi_s, gb_s2, gb_s3, gq_s, wt_nil, wt_int, wt_long, wt_ref, wt_null, nl_int, nl_long, nl_ref, nl_null, nl_none, rf_n, rf_s, rf_st, tl_s, tl_n, g0, gS, ex1, nb_b, nb_0, nb_1, nf_i, nf_l, nf_ra, nf_ro, nf_na, nf_no, nf_b0, nf_z0, t45_4, t45_5, true_and, and_true, List.set_cons_zero, List.set_cons_succ, List.length_cons, List.length_nil, rd_s, upw_s, ne_eq, not_false_eq_true, Nat.zero_add, Nat.add_zero]
    | split
    | with_reducible intro _
    | omega
set_option maxHeartbeats 4000000 in
theorem fX1_move {s : AS} {a0 a1 : Int32} (hC : CS g w0 x nA cA lA kn s w) (hX : ¬ okN a0 → (Q (.inr "java/lang/IndexOutOfBoundsException") w)) (hQ : okN a0 → ∀ w', CS g w0 x nA cA lA kn (sN s (vp_updL s.1 a0.toNatClampNeg (s.1 a0.toNatClampNeg + a1.toInt64))) w' → Q (.inl (some (.int (loV (s.1 a0.toNatClampNeg + a1.toInt64))))) w') : WP (MX1_move g) Q (0, [some (.ref x), some (.int a0), some (.int a1)], [], w, 0, 0) := by
  obtain ⟨gc, gl, ⟨hx, hn, hc, hl, hgc, hgl, hn0, hn1, rx, rn, rc, rl, ⟨d1, d2, d3, d4, d5, d6⟩, ⟨d7, d8, d9, d10, d11, d12⟩⟩, hcd, hpl⟩ := hC.1.opn g
  repeat' first
    | with_reducible assumption
    | with_reducible refine And.intro ?_ ?_
    | with_reducible exact vpi6 (by assumption) (by assumption)
    | with_reducible exact vpi8 (by assumption) (by assumption)
    | with_reducible exact trivial
    | with_reducible exact hX (by assumption)
    | with_reducible exact vpi8 hok.1 hok.2
    | with_reducible refine fX1_needNumber (fun _ => ?_) (fun hok => ?_)
    | with_reducible refine fX1_putNumber hC hok.1 hok.2 (fun w1 h1 => ?_)
    | with_reducible exact hQ hok _ h1
    | simp only [eX1_move_0, eX1_move_1, eX1_move_4, eX1_move_4N, eX1_move_5, eX1_move_6, eX1_move_6N, eX1_move_7, eX1_move_10, eX1_move_11, eX1_move_12, eX1_move_13, eX1_move_14, eX1_move_15, eX1_move_18, lgp, lgn, lgz, i10, i00, if_true, if_false, eq_self, not_true, not_false_eq_true, rx, rn, rc, rl, hx, hn, hc, hl, d1, d2, d3, d4, d5, d6, d7, d8, d9, d10, d11, d12, rd_n, upw_n, ite_le, n45, n54, true_or, or_true, false_or, or_false, false_and, and_false, kx_l, kx_r, go_s, gl_s, gi_s, gb_s2, gb_s3, gq_s, wt_nil, wt_int, wt_long, wt_ref, wt_null, nl_int, nl_long, nl_ref, nl_null, nl_none, rf_n, rf_s, rf_st, tl_s, tl_n, g0, gS, ex1, nb_b, nb_0, nb_1, nf_i, nf_l, nf_ra, nf_ro, nf_na, nf_no, nf_b0, nf_z0, t45_4, t45_5, true_and, and_true, List.set_cons_zero, List.set_cons_succ, List.length_cons, List.length_nil, rd_s, upw_s, ne_eq, not_false_eq_true, Nat.zero_add, Nat.add_zero]
    | split
    | with_reducible intro _
    | omega
set_option maxHeartbeats 4000000 in
theorem fX1_copy {s : AS} {a0 a1 : Int32} (hC : CS g w0 x nA cA lA kn s w) (hX : ¬ (okN a0 ∧ okN a1) → (Q (.inr "java/lang/IndexOutOfBoundsException") w)) (hQ : okN a0 → okN a1 → ∀ w', CS g w0 x nA cA lA kn (sN s (vp_updL s.1 a0.toNatClampNeg (s.1 a1.toNatClampNeg))) w' → Q (.inl (some (.int (loV (s.1 a1.toNatClampNeg))))) w') : WP (MX1_copy g) Q (0, [some (.ref x), some (.int a0), some (.int a1)], [], w, 0, 0) := by
  obtain ⟨gc, gl, ⟨hx, hn, hc, hl, hgc, hgl, hn0, hn1, rx, rn, rc, rl, ⟨d1, d2, d3, d4, d5, d6⟩, ⟨d7, d8, d9, d10, d11, d12⟩⟩, hcd, hpl⟩ := hC.1.opn g
  repeat' first
    | with_reducible assumption
    | with_reducible refine And.intro ?_ ?_
    | with_reducible exact vpi6 (by assumption) (by assumption)
    | with_reducible exact vpi8 (by assumption) (by assumption)
    | with_reducible exact trivial
    | with_reducible exact hQ ha hb _ h1
    | with_reducible exact vpi8 ha.1 ha.2
    | with_reducible exact vpi8 hb.1 hb.2
    | with_reducible exact hX (fun h => absurd h.1 (by assumption))
    | with_reducible exact hX (fun h => absurd h.2 (by assumption))
    | with_reducible refine fX1_needNumber (a0 := a0) (fun _ => ?_) (fun ha => ?_)
    | with_reducible refine fX1_needNumber (a0 := a1) (fun _ => ?_) (fun hb => ?_)
    | with_reducible refine fX1_putNumber hC ha.1 ha.2 (fun w1 h1 => ?_)
    | simp only [eX1_copy_0, eX1_copy_1, eX1_copy_4, eX1_copy_5, eX1_copy_8, eX1_copy_8N, eX1_copy_9, eX1_copy_10, eX1_copy_10N, eX1_copy_11, eX1_copy_14, eX1_copy_15, eX1_copy_16, eX1_copy_19, lgp, lgn, lgz, i10, i00, if_true, if_false, eq_self, not_true, not_false_eq_true, rx, rn, rc, rl, hx, hn, hc, hl, d1, d2, d3, d4, d5, d6, d7, d8, d9, d10, d11, d12, rd_n, upw_n, ite_le, n45, n54, true_or, or_true, false_or, or_false, false_and, and_false, kx_l, kx_r, go_s, gl_s, gi_s, gb_s2, gb_s3, gq_s, wt_nil, wt_int, wt_long, wt_ref, wt_null, nl_int, nl_long, nl_ref, nl_null, nl_none, rf_n, rf_s, rf_st, tl_s, tl_n, g0, gS, ex1, nb_b, nb_0, nb_1, nf_i, nf_l, nf_ra, nf_ro, nf_na, nf_no, nf_b0, nf_z0, t45_4, t45_5, true_and, and_true, List.set_cons_zero, List.set_cons_succ, List.length_cons, List.length_nil, rd_s, upw_s, ne_eq, not_false_eq_true, Nat.zero_add, Nat.add_zero]
    | split
    | with_reducible intro _
    | omega
set_option maxHeartbeats 4000000 in
theorem fX1_ofNumber {s : AS} {a0 a1 : Int32} (hC : CS g w0 x nA cA lA kn s w) (hX : ¬ okN a0 → (Q (.inr "java/lang/IndexOutOfBoundsException") w)) (hQ : okN a0 → Q (.inl (some (.int (hfV (s.1 a0.toNatClampNeg) a1)))) w) : WP (MX1_ofNumber g) Q (0, [some (.ref x), some (.int a0), some (.int a1)], [], w, 0, 0) := by
  obtain ⟨gc, gl, ⟨hx, hn, hc, hl, hgc, hgl, hn0, hn1, rx, rn, rc, rl, ⟨d1, d2, d3, d4, d5, d6⟩, ⟨d7, d8, d9, d10, d11, d12⟩⟩, hcd, hpl⟩ := hC.1.opn g
  repeat' first
    | with_reducible assumption
    | with_reducible refine And.intro ?_ ?_
    | with_reducible exact vpi6 (by assumption) (by assumption)
    | with_reducible exact vpi8 (by assumption) (by assumption)
    | with_reducible exact trivial
    | with_reducible exact hX (by assumption)
    | with_reducible exact vpi8 hok.1 hok.2
    | with_reducible refine fX1_needNumber (fun _ => ?_) (fun hok => ?_)
    | with_reducible refine fX1_halfOf ?_
    | with_reducible exact hQ hok
    | simp only [eX1_ofNumber_0, eX1_ofNumber_1, eX1_ofNumber_4, eX1_ofNumber_4N, eX1_ofNumber_5, eX1_ofNumber_8, eX1_ofNumber_9, eX1_ofNumber_10, eX1_ofNumber_11, eX1_ofNumber_14, lgp, lgn, lgz, i10, i00, if_true, if_false, eq_self, not_true, not_false_eq_true, rx, rn, rc, rl, hx, hn, hc, hl, d1, d2, d3, d4, d5, d6, d7, d8, d9, d10, d11, d12, rd_n, upw_n, ite_le, n45, n54, true_or, or_true, false_or, or_false, false_and, and_false, kx_l, kx_r, go_s, gl_s, gi_s, gb_s2, gb_s3, gq_s, wt_nil, wt_int, wt_long, wt_ref, wt_null, nl_int, nl_long, nl_ref, nl_null, nl_none, rf_n, rf_s, rf_st, tl_s, tl_n, g0, gS, ex1, nb_b, nb_0, nb_1, nf_i, nf_l, nf_ra, nf_ro, nf_na, nf_no, nf_b0, nf_z0, t45_4, t45_5, true_and, and_true, List.set_cons_zero, List.set_cons_succ, List.length_cons, List.length_nil, rd_s, upw_s, ne_eq, not_false_eq_true, Nat.zero_add, Nat.add_zero]
    | split
    | with_reducible intro _
    | omega
def orV (a b : Int64) : Int32 := if a.toInt < b.toInt then -1 else if b.toInt < a.toInt then 1 else 0
theorem orV_1 {a b : Int64} (h : a.toInt < b.toInt) : orV a b = -1 := if_pos h
theorem orV_2 {a b : Int64} (h : ¬ a.toInt < b.toInt) (k : b.toInt < a.toInt) : orV a b = 1 := by
  unfold orV
  rw [if_neg h, if_pos k]
theorem orV_3 {a b : Int64} (h : ¬ a.toInt < b.toInt) (k : ¬ b.toInt < a.toInt) : orV a b = 0 := by
  unfold orV
  rw [if_neg h, if_neg k]
set_option maxHeartbeats 4000000 in
theorem fX1_order {s : AS} {a0 a1 : Int32} (hC : CS g w0 x nA cA lA kn s w) (hX : ¬ (okN a0 ∧ okN a1) → (Q (.inr "java/lang/IndexOutOfBoundsException") w)) (hQ : okN a0 → okN a1 → Q (.inl (some (.int (orV (s.1 a0.toNatClampNeg) (s.1 a1.toNatClampNeg))))) w) : WP (MX1_order g) Q (0, [some (.ref x), some (.int a0), some (.int a1)], [], w, 0, 0) := by
  obtain ⟨gc, gl, ⟨hx, hn, hc, hl, hgc, hgl, hn0, hn1, rx, rn, rc, rl, ⟨d1, d2, d3, d4, d5, d6⟩, ⟨d7, d8, d9, d10, d11, d12⟩⟩, hcd, hpl⟩ := hC.1.opn g
  repeat' first
    | with_reducible assumption
    | with_reducible refine And.intro ?_ ?_
    | with_reducible exact vpi6 (by assumption) (by assumption)
    | with_reducible exact vpi8 (by assumption) (by assumption)
    | with_reducible exact trivial
    | with_reducible exact vpi8 ha.1 ha.2
    | with_reducible exact vpi8 hb.1 hb.2
    | with_reducible exact hX (fun h => absurd h.1 (by assumption))
    | with_reducible exact hX (fun h => absurd h.2 (by assumption))
    | with_reducible refine fX1_needNumber (a0 := a0) (fun _ => ?_) (fun ha => ?_)
    | with_reducible refine fX1_needNumber (a0 := a1) (fun _ => ?_) (fun hb => ?_)
    | (rw [orV_1 (by assumption)] at hQ; exact hQ ha hb)
    | (rw [orV_2 (by assumption) (by assumption)] at hQ; exact hQ ha hb)
    | (rw [orV_3 (by assumption) (by assumption)] at hQ; exact hQ ha hb)
    | simp only [eX1_order_0, eX1_order_1, eX1_order_4, eX1_order_5, eX1_order_8, eX1_order_8N, eX1_order_9, eX1_order_12, eX1_order_13, eX1_order_14, eX1_order_14N, eX1_order_15, eX1_order_18, eX1_order_19, eX1_order_20, eX1_order_21, eX1_order_24, eX1_order_25, eX1_order_26, eX1_order_26N, eX1_order_27, eX1_order_30, eX1_order_31, eX1_order_32, eX1_order_32N, eX1_order_33, eX1_order_36, eX1_order_37, eX1_order_38, eX1_order_39, eX1_order_42, eX1_order_43, eX1_order_46, eX1_order_47, lgp, lgn, lgz, i10, i00, if_true, if_false, eq_self, not_true, not_false_eq_true, rx, rn, rc, rl, hx, hn, hc, hl, d1, d2, d3, d4, d5, d6, d7, d8, d9, d10, d11, d12, rd_n, upw_n, ite_le, n45, n54, true_or, or_true, false_or, or_false, false_and, and_false, kx_l, kx_r, go_s, gl_s, gi_s, gb_s2, gb_s3, gq_s, wt_nil, wt_int, wt_long, wt_ref, wt_null, nl_int, nl_long, nl_ref, nl_null, nl_none, rf_n, rf_s, rf_st, tl_s, tl_n, g0, gS, ex1, nb_b, nb_0, nb_1, nf_i, nf_l, nf_ra, nf_ro, nf_na, nf_no, nf_b0, nf_z0, t45_4, t45_5, true_and, and_true, List.set_cons_zero, List.set_cons_succ, List.length_cons, List.length_nil, rd_s, upw_s, ne_eq, not_false_eq_true, Nat.zero_add, Nat.add_zero]
    | split
    | with_reducible intro _
    | omega
set_option maxHeartbeats 4000000 in
theorem fX1_knock {s : AS} (hC : CS g w0 x nA cA lA kn s w) (hQ : ∀ w', CS g w0 x nA cA lA (kn + 1) s w' → Q (.inl (some (.int (kn + 1)))) w') : WP (MX1_knock g) Q (0, [some (.ref x)], [], w, 0, 0) := by
  obtain ⟨gc, gl, ⟨hx, hn, hc, hl, hgc, hgl, hn0, hn1, rx, rn, rc, rl, ⟨d1, d2, d3, d4, d5, d6⟩, ⟨d7, d8, d9, d10, d11, d12⟩⟩, hcd, hpl⟩ := hC.1.opn g
  repeat' first
    | with_reducible assumption
    | with_reducible refine And.intro ?_ ?_
    | with_reducible exact vpi6 (by assumption) (by assumption)
    | with_reducible exact vpi8 (by assumption) (by assumption)
    | with_reducible exact trivial
    | with_reducible exact hQ _ (hC.obj _ _ _)
    | simp only [eX1_knock_0, eX1_knock_0N, eX1_knock_1, eX1_knock_1R, eX1_knock_2, eX1_knock_5, eX1_knock_6, eX1_knock_7, eX1_knock_10, eX1_knock_10N, eX1_knock_11, eX1_knock_14, lgp, lgn, lgz, i10, i00, if_true, if_false, eq_self, not_true, not_false_eq_true, rx, rn, rc, rl, hx, hn, hc, hl, d1, d2, d3, d4, d5, d6, d7, d8, d9, d10, d11, d12, rd_n, upw_n, ite_le, n45, n54, true_or, or_true, false_or, or_false, false_and, and_false, kx_l, kx_r, go_s, gl_s, gi_s, gb_s2, gb_s3, gq_s, wt_nil, wt_int, wt_long, wt_ref, wt_null, nl_int, nl_long, nl_ref, nl_null, nl_none, rf_n, rf_s, rf_st, tl_s, tl_n, g0, gS, ex1, nb_b, nb_0, nb_1, nf_i, nf_l, nf_ra, nf_ro, nf_na, nf_no, nf_b0, nf_z0, t45_4, t45_5, true_and, and_true, List.set_cons_zero, List.set_cons_succ, List.length_cons, List.length_nil, rd_s, upw_s, ne_eq, not_false_eq_true, Nat.zero_add, Nat.add_zero]
    | split
    | with_reducible intro _
    | omega
set_option maxHeartbeats 4000000 in
theorem fX1_refuse {s : AS} (hC : CS g w0 x nA cA lA kn s w) (hQ : ∀ w', CS g w0 x nA cA lA kn (sR_ s (s.2.2.2.2.1 + 1)) w' → (∀ b r, rAt w b r → rAt w' b r) → Q (.inl (some (.int (-9)))) w') : WP (MX1_refuse g) Q (0, [some (.ref x)], [], w, 0, 0) := by
  obtain ⟨gc, gl, ⟨hx, hn, hc, hl, hgc, hgl, hn0, hn1, rx, rn, rc, rl, ⟨d1, d2, d3, d4, d5, d6⟩, ⟨d7, d8, d9, d10, d11, d12⟩⟩, hcd, hpl⟩ := hC.1.opn g
  repeat' first
    | with_reducible assumption
    | with_reducible refine And.intro ?_ ?_
    | with_reducible exact vpi6 (by assumption) (by assumption)
    | with_reducible exact vpi8 (by assumption) (by assumption)
    | with_reducible exact trivial
    | with_reducible exact hQ _ (hC.obj _ _ _) (fun b r hb => rAt_up2 hb hx (by simp))
    | simp only [eX1_refuse_0, eX1_refuse_0N, eX1_refuse_1, eX1_refuse_1R, eX1_refuse_2, eX1_refuse_5, eX1_refuse_6, eX1_refuse_7, eX1_refuse_10, eX1_refuse_12, lgp, lgn, lgz, i10, i00, if_true, if_false, eq_self, not_true, not_false_eq_true, rx, rn, rc, rl, hx, hn, hc, hl, d1, d2, d3, d4, d5, d6, d7, d8, d9, d10, d11, d12, rd_n, upw_n, ite_le, n45, n54, true_or, or_true, false_or, or_false, false_and, and_false, kx_l, kx_r, go_s, gl_s, gi_s, gb_s2, gb_s3, gq_s, wt_nil, wt_int, wt_long, wt_ref, wt_null, nl_int, nl_long, nl_ref, nl_null, nl_none, rf_n, rf_s, rf_st, tl_s, tl_n, g0, gS, ex1, nb_b, nb_0, nb_1, nf_i, nf_l, nf_ra, nf_ro, nf_na, nf_no, nf_b0, nf_z0, t45_4, t45_5, true_and, and_true, List.set_cons_zero, List.set_cons_succ, List.length_cons, List.length_nil, rd_s, upw_s, ne_eq, not_false_eq_true, Nat.zero_add, Nat.add_zero]
    | split
    | with_reducible intro _
    | omega
theorem go_Fw {b : Nat} {r : R4} {K : List Value → Prop} (h : rAt w b r) (k : K [.long r.1, .long r.2.1, .long r.2.2.1, .long r.2.2.2]) : go (w b) 4 K := by
  rw [h, go_s]
  exact k
theorem c6 {a : Int32} (h : okC a) : a.toNatClampNeg < 6 := by
  have h1 := i32_0 h.1
  have h2 := i32_lt h.2
  have z : (6 : Int32).toInt = 6 := rfl
  have e : a.toNatClampNeg = a.toInt.toNat := rfl
  omega
theorem cdN {gc : Nat → Option Nat} {s : AS} {a : Int32} (hcd : ∀ i, i < 6 → cM w (gc i) (s.2.1 i)) (hok : okC a) (h : gc a.toNatClampNeg = none) : s.2.1 a.toNatClampNeg = none := by
  have k := hcd _ (c6 hok)
  rw [h] at k
  exact k.n
theorem cdS {gc : Nat → Option Nat} {s : AS} {a : Int32} {b : Nat} (hcd : ∀ i, i < 6 → cM w (gc i) (s.2.1 i)) (hok : okC a) (h : gc a.toNatClampNeg = some b) : ∃ r, s.2.1 a.toNatClampNeg = some r ∧ rAt w b r := by
  have k := hcd _ (c6 hok)
  rw [h] at k
  exact k.s
set_option maxHeartbeats 4000000 in
theorem fX1_giveR {s : AS} {a0 : Int32} {a1 : Nat} {r : R4} (hC : CS g w0 x nA cA lA kn s w) (h1 : rAt w a1 r) (k0 : ¬ a0 < 0) (k1 : a0 < 6) (hQ : ∀ w', CS g w0 x nA cA lA kn (sM_ (sC s (va_up s.2.1 a0.toNatClampNeg (some r))) (s.2.2.2.2.2 + 1)) w' → (∀ b r, rAt w b r → rAt w' b r) → Q (.inl (some (.int 1))) w') : WP (MX1_give g) Q (0, [some (.ref x), some (.int a0), some (.ref a1)], [], w, 0, 0) := by
  obtain ⟨gc, gl, ⟨hx, hn, hc, hl, hgc, hgl, hn0, hn1, rx, rn, rc, rl, ⟨d1, d2, d3, d4, d5, d6⟩, ⟨d7, d8, d9, d10, d11, d12⟩⟩, hcd, hpl⟩ := hC.1.opn g
  repeat' first
    | with_reducible assumption
    | with_reducible refine And.intro ?_ ?_
    | with_reducible exact vpi6 (by assumption) (by assumption)
    | with_reducible exact vpi8 (by assumption) (by assumption)
    | with_reducible exact trivial
    | with_reducible exact vpi6 k0 k1
    | with_reducible refine Or.inl ?_
    | with_reducible exact go_Fw h1 trivial
    | ((with_reducible refine isQ (Q := Q) ?_); exact hQ _ ((hC.card gc hc a0.toNatClampNeg (some a1) (some r) h1).obj _ _ _) (fun b q hb => rAt_up2 (rAt_up2 hb hc (by simp)) (by rw [upw_n d2]; exact hx) (by simp)))
    | simp only [eX1_give_0, eX1_give_0N, eX1_give_1R, eX1_give_1N, eX1_give_4, eX1_give_4N, eX1_give_5, eX1_give_8, eX1_give_9, eX1_give_9N, eX1_give_10, eX1_give_13, eX1_give_14, eX1_give_14N, eX1_give_15N, eX1_give_15R, eX1_give_16, eX1_give_16N, eX1_give_17, eX1_give_17R, eX1_give_18, eX1_give_21, eX1_give_22, eX1_give_23, eX1_give_26, eX1_give_27, lgp, lgn, lgz, i10, i00, if_true, if_false, eq_self, not_true, not_false_eq_true, rx, rn, rc, rl, hx, hn, hc, hl, d1, d2, d3, d4, d5, d6, d7, d8, d9, d10, d11, d12, rd_n, upw_n, ite_le, n45, n54, true_or, or_true, false_or, or_false, false_and, and_false, kx_l, kx_r, go_s, gl_s, gi_s, gb_s2, gb_s3, gq_s, wt_nil, wt_int, wt_long, wt_ref, wt_null, nl_int, nl_long, nl_ref, nl_null, nl_none, rf_n, rf_s, rf_st, tl_s, tl_n, g0, gS, ex1, nb_b, nb_0, nb_1, nf_i, nf_l, nf_ra, nf_ro, nf_na, nf_no, nf_b0, nf_z0, t45_4, t45_5, true_and, and_true, List.set_cons_zero, List.set_cons_succ, List.length_cons, List.length_nil, rd_s, upw_s, ne_eq, not_false_eq_true, Nat.zero_add, Nat.add_zero]
    | split
    | with_reducible intro _
    | omega
set_option maxHeartbeats 4000000 in
theorem fX1_giveN {s : AS} {a0 : Int32} (hC : CS g w0 x nA cA lA kn s w) (hQ : ∀ w', CS g w0 x nA cA lA kn (sR_ s (s.2.2.2.2.1 + 1)) w' → (∀ b r, rAt w b r → rAt w' b r) → Q (.inl (some (.int (-9)))) w') : WP (MX1_give g) Q (0, [some (.ref x), some (.int a0), some .null], [], w, 0, 0) := by
  obtain ⟨gc, gl, ⟨hx, hn, hc, hl, hgc, hgl, hn0, hn1, rx, rn, rc, rl, ⟨d1, d2, d3, d4, d5, d6⟩, ⟨d7, d8, d9, d10, d11, d12⟩⟩, hcd, hpl⟩ := hC.1.opn g
  repeat' first
    | with_reducible assumption
    | with_reducible refine And.intro ?_ ?_
    | with_reducible exact vpi6 (by assumption) (by assumption)
    | with_reducible exact vpi8 (by assumption) (by assumption)
    | with_reducible exact trivial
    | with_reducible exact hQ _ (by assumption) (by assumption)
    | with_reducible refine fX1_refuse hC (fun w1 h1 h2 => ?_)
    | simp only [eX1_give_0, eX1_give_0N, eX1_give_1R, eX1_give_1N, eX1_give_4, eX1_give_4N, eX1_give_5, eX1_give_8, eX1_give_9, eX1_give_9N, eX1_give_10, eX1_give_13, eX1_give_14, eX1_give_14N, eX1_give_15N, eX1_give_15R, eX1_give_16, eX1_give_16N, eX1_give_17, eX1_give_17R, eX1_give_18, eX1_give_21, eX1_give_22, eX1_give_23, eX1_give_26, eX1_give_27, lgp, lgn, lgz, i10, i00, if_true, if_false, eq_self, not_true, not_false_eq_true, rx, rn, rc, rl, hx, hn, hc, hl, d1, d2, d3, d4, d5, d6, d7, d8, d9, d10, d11, d12, rd_n, upw_n, ite_le, n45, n54, true_or, or_true, false_or, or_false, false_and, and_false, kx_l, kx_r, go_s, gl_s, gi_s, gb_s2, gb_s3, gq_s, wt_nil, wt_int, wt_long, wt_ref, wt_null, nl_int, nl_long, nl_ref, nl_null, nl_none, rf_n, rf_s, rf_st, tl_s, tl_n, g0, gS, ex1, nb_b, nb_0, nb_1, nf_i, nf_l, nf_ra, nf_ro, nf_na, nf_no, nf_b0, nf_z0, t45_4, t45_5, true_and, and_true, List.set_cons_zero, List.set_cons_succ, List.length_cons, List.length_nil, rd_s, upw_s, ne_eq, not_false_eq_true, Nat.zero_add, Nat.add_zero]
    | split
    | with_reducible intro _
    | omega
set_option maxHeartbeats 4000000 in
theorem fX1_rangeOf {s : AS} {a0 : Int32} (hC : CS g w0 x nA cA lA kn s w) (hX : ¬ okC a0 → (Q (.inr "java/lang/IndexOutOfBoundsException") w)) (hS : okC a0 → s.2.1 a0.toNatClampNeg = none → (Q (.inr "java/lang/IllegalStateException") w)) (hQ : okC a0 → ∀ b r, s.2.1 a0.toNatClampNeg = some r → rAt w b r → Q (.inl (some (.ref b))) w) : WP (MX1_rangeOf g) Q (0, [some (.ref x), some (.int a0), none], [], w, 0, 0) := by
  obtain ⟨gc, gl, ⟨hx, hn, hc, hl, hgc, hgl, hn0, hn1, rx, rn, rc, rl, ⟨d1, d2, d3, d4, d5, d6⟩, ⟨d7, d8, d9, d10, d11, d12⟩⟩, hcd, hpl⟩ := hC.1.opn g
  repeat' first
    | with_reducible assumption
    | with_reducible refine And.intro ?_ ?_
    | with_reducible exact vpi6 (by assumption) (by assumption)
    | with_reducible exact vpi8 (by assumption) (by assumption)
    | with_reducible exact trivial
    | with_reducible exact hX (by assumption)
    | with_reducible refine fX1_needCard (fun _ => ?_) (fun hok => ?_)
    | with_reducible exact vpi6 hok.1 hok.2
    | with_reducible exact hS hok (cdN hcd hok (by assumption))
    | with_reducible exact (cdS hcd hok (by assumption)).elim (fun r h => hQ hok _ r h.1 h.2)
    | simp only [eX1_rangeOf_0, eX1_rangeOf_1, eX1_rangeOf_4, eX1_rangeOf_4N, eX1_rangeOf_5, eX1_rangeOf_8, eX1_rangeOf_9, eX1_rangeOf_10, eX1_rangeOf_10N, eX1_rangeOf_11, eX1_rangeOf_11N, eX1_rangeOf_12R, eX1_rangeOf_12N, eX1_rangeOf_15, eX1_rangeOf_25, eX1_rangeOf_25N, eX1_rangeOf_26, eX1_rangeOf_26N, lgp, lgn, lgz, i10, i00, if_true, if_false, eq_self, not_true, not_false_eq_true, rx, rn, rc, rl, hx, hn, hc, hl, d1, d2, d3, d4, d5, d6, d7, d8, d9, d10, d11, d12, rd_n, upw_n, ite_le, n45, n54, true_or, or_true, false_or, or_false, false_and, and_false, kx_l, kx_r, go_s, gl_s, gi_s, gb_s2, gb_s3, gq_s, wt_nil, wt_int, wt_long, wt_ref, wt_null, nl_int, nl_long, nl_ref, nl_null, nl_none, rf_n, rf_s, rf_st, tl_s, tl_n, g0, gS, ex1, nb_b, nb_0, nb_1, nf_i, nf_l, nf_ra, nf_ro, nf_na, nf_no, nf_b0, nf_z0, t45_4, t45_5, true_and, and_true, List.set_cons_zero, List.set_cons_succ, List.length_cons, List.length_nil, rd_s, upw_s, ne_eq, not_false_eq_true, Nat.zero_add, Nat.add_zero]
    | split
    | with_reducible intro _
    | omega
end
end
/-! 71.fn4.lean.txt -/
section
section
variable {g : RO} {Q : Ot → Hw → Prop} {w0 w : Hw} {x nA cA lA : Nat} {kn : Int32}
/-! FUNCTIONAL SPECS, 4: what is made -/
theorem rAt_new {q : Nat} {a b c d : Int64} : rAt (upw w q (.inr (4, [.long a, .long b, .long c, .long d]))) q (a, b, c, d) := upw_s _ _ _
theorem go_5 {s : AS} (h : CS g w0 x nA cA lA kn s w) : go (rd g w x) 5 fun _ => True := by
  obtain ⟨gc, gl, h1, -⟩ := h.1.opn g
  rw [h1.2.2.2.2.2.2.2.2.1, go_s]
  trivial
/-- a card gets the range (refused: counted) -/
abbrev sMk (s : AS) (j : Nat) (r : R4) : AS := sM_ (sC s (va_up s.2.1 j (some r))) (s.2.2.2.2.2 + 1)
abbrev sRf (s : AS) : AS := sR_ s (s.2.2.2.2.1 + 1)
set_option maxHeartbeats 4000000 in
theorem fX1_two {s : AS} {a0 : Int32} {a1 : Int32} {a2 : Int32} (hC : CS g w0 x nA cA lA kn s w) (hX : ¬ (okC a0 ∧ okN a1 ∧ okN a2) → (Q (.inr "java/lang/IndexOutOfBoundsException") w)) (hT : okC a0 → okN a1 → okN a2 → oP (s.1 a1.toNatClampNeg) (s.1 a1.toNatClampNeg) (s.1 a2.toNatClampNeg) (s.1 a2.toNatClampNeg) → ∀ w', CS g w0 x nA cA lA kn (sMk s a0.toNatClampNeg (s.1 a1.toNatClampNeg, s.1 a1.toNatClampNeg, s.1 a2.toNatClampNeg, s.1 a2.toNatClampNeg)) w' → Q (.inl (some (.int 1))) w') (hF : okC a0 → okN a1 → okN a2 → ¬ oP (s.1 a1.toNatClampNeg) (s.1 a1.toNatClampNeg) (s.1 a2.toNatClampNeg) (s.1 a2.toNatClampNeg) → ∀ w', CS g w0 x nA cA lA kn (sRf s) w' → Q (.inl (some (.int (-9)))) w') : WP (MX1_two g) Q (0, [some (.ref x), some (.int a0), some (.int a1), some (.int a2)], [], w, 0, 0) := by
  obtain ⟨gc, gl, ⟨hx, hn, hc, hl, hgc, hgl, hn0, hn1, rx, rn, rc, rl, ⟨d1, d2, d3, d4, d5, d6⟩, ⟨d7, d8, d9, d10, d11, d12⟩⟩, hcd, hpl⟩ := hC.1.opn g
  repeat' first
    | with_reducible assumption
    | with_reducible refine And.intro ?_ ?_
    | with_reducible exact vpi6 (by assumption) (by assumption)
    | with_reducible exact vpi8 (by assumption) (by assumption)
    | with_reducible exact trivial
    | with_reducible exact hX (fun h => absurd h.1 (by assumption))
    | with_reducible exact hX (fun h => absurd h.2.1 (by assumption))
    | with_reducible exact hX (fun h => absurd h.2.2 (by assumption))
    | with_reducible refine fX1_needCard (a0 := a0) (fun _ => ?_) (fun k0 => ?_)
    | with_reducible exact vpi6 k0.1 k0.2
    | with_reducible refine fX1_needNumber (a0 := a1) (fun _ => ?_) (fun k1 => ?_)
    | with_reducible exact vpi8 k1.1 k1.2
    | with_reducible refine fX1_needNumber (a0 := a2) (fun _ => ?_) (fun k2 => ?_)
    | with_reducible exact vpi8 k2.1 k2.2
    | with_reducible refine fX0_ofTwo (fun hno => ?_) (fun hyes q hq => ?_)
    | with_reducible refine fX1_giveN hC (fun w1 g1 g2 => ?_)
    | with_reducible exact hF k0 k1 k2 hno w1 g1
    | with_reducible exact go_5 (hC.ext (ext_up2 ext.rf hq))
    | with_reducible refine fX1_giveR (hC.ext (ext_up2 ext.rf hq)) rAt_new k0.1 k0.2 (fun w1 g1 g2 => ?_)
    | with_reducible exact hT k0 k1 k2 hyes w1 g1
    | simp only [eX1_two_0, eX1_two_1, eX1_two_4, eX1_two_5, eX1_two_8, eX1_two_9, eX1_two_12, eX1_two_12N, eX1_two_13, eX1_two_14, eX1_two_14N, eX1_two_15, eX1_two_18, eX1_two_19, eX1_two_20, eX1_two_20N, eX1_two_21, eX1_two_24, eX1_two_25, eX1_two_26, eX1_two_29R, eX1_two_29N, eX1_two_32, lgp, lgn, lgz, i10, i00, if_true, if_false, eq_self, not_true, not_false_eq_true, rx, rn, rc, rl, hx, hn, hc, hl, d1, d2, d3, d4, d5, d6, d7, d8, d9, d10, d11, d12, rd_n, upw_n, ite_le, n45, n54, true_or, or_true, false_or, or_false, false_and, and_false, kx_l, kx_r, go_s, gl_s, gi_s, gb_s2, gb_s3, gq_s, wt_nil, wt_int, wt_long, wt_ref, wt_null, nl_int, nl_long, nl_ref, nl_null, nl_none, rf_n, rf_s, rf_st, tl_s, tl_n, g0, gS, ex1, nb_b, nb_0, nb_1, nf_i, nf_l, nf_ra, nf_ro, nf_na, nf_no, nf_b0, nf_z0, t45_4, t45_5, true_and, and_true, List.set_cons_zero, List.set_cons_succ, List.length_cons, List.length_nil, rd_s, upw_s, ne_eq, not_false_eq_true, Nat.zero_add, Nat.add_zero]
    | split
    | with_reducible intro _
    | omega
set_option maxHeartbeats 4000000 in
theorem fX1_three {s : AS} {a0 : Int32} {a1 : Int32} {a2 : Int32} {a3 : Int32} (hC : CS g w0 x nA cA lA kn s w) (hX : ¬ (okC a0 ∧ okN a1 ∧ okN a2 ∧ okN a3) → (Q (.inr "java/lang/IndexOutOfBoundsException") w)) (hT : okC a0 → okN a1 → okN a2 → okN a3 → oP (s.1 a1.toNatClampNeg) (s.1 a1.toNatClampNeg) (s.1 a2.toNatClampNeg) (s.1 a3.toNatClampNeg) → ∀ w', CS g w0 x nA cA lA kn (sMk s a0.toNatClampNeg (s.1 a1.toNatClampNeg, s.1 a1.toNatClampNeg, s.1 a2.toNatClampNeg, s.1 a3.toNatClampNeg)) w' → Q (.inl (some (.int 1))) w') (hF : okC a0 → okN a1 → okN a2 → okN a3 → ¬ oP (s.1 a1.toNatClampNeg) (s.1 a1.toNatClampNeg) (s.1 a2.toNatClampNeg) (s.1 a3.toNatClampNeg) → ∀ w', CS g w0 x nA cA lA kn (sRf s) w' → Q (.inl (some (.int (-9)))) w') : WP (MX1_three g) Q (0, [some (.ref x), some (.int a0), some (.int a1), some (.int a2), some (.int a3)], [], w, 0, 0) := by
  obtain ⟨gc, gl, ⟨hx, hn, hc, hl, hgc, hgl, hn0, hn1, rx, rn, rc, rl, ⟨d1, d2, d3, d4, d5, d6⟩, ⟨d7, d8, d9, d10, d11, d12⟩⟩, hcd, hpl⟩ := hC.1.opn g
  repeat' first
    | with_reducible assumption
    | with_reducible refine And.intro ?_ ?_
    | with_reducible exact vpi6 (by assumption) (by assumption)
    | with_reducible exact vpi8 (by assumption) (by assumption)
    | with_reducible exact trivial
    | with_reducible exact hX (fun h => absurd h.1 (by assumption))
    | with_reducible exact hX (fun h => absurd h.2.1 (by assumption))
    | with_reducible exact hX (fun h => absurd h.2.2.1 (by assumption))
    | with_reducible exact hX (fun h => absurd h.2.2.2 (by assumption))
    | with_reducible refine fX1_needCard (a0 := a0) (fun _ => ?_) (fun k0 => ?_)
    | with_reducible exact vpi6 k0.1 k0.2
    | with_reducible refine fX1_needNumber (a0 := a1) (fun _ => ?_) (fun k1 => ?_)
    | with_reducible exact vpi8 k1.1 k1.2
    | with_reducible refine fX1_needNumber (a0 := a2) (fun _ => ?_) (fun k2 => ?_)
    | with_reducible exact vpi8 k2.1 k2.2
    | with_reducible refine fX1_needNumber (a0 := a3) (fun _ => ?_) (fun k3 => ?_)
    | with_reducible exact vpi8 k3.1 k3.2
    | with_reducible refine fX0_ofThree (fun hno => ?_) (fun hyes q hq => ?_)
    | with_reducible refine fX1_giveN hC (fun w1 g1 g2 => ?_)
    | with_reducible exact hF k0 k1 k2 k3 hno w1 g1
    | with_reducible exact go_5 (hC.ext (ext_up2 ext.rf hq))
    | with_reducible refine fX1_giveR (hC.ext (ext_up2 ext.rf hq)) rAt_new k0.1 k0.2 (fun w1 g1 g2 => ?_)
    | with_reducible exact hT k0 k1 k2 k3 hyes w1 g1
    | simp only [eX1_three_0, eX1_three_1, eX1_three_4, eX1_three_5, eX1_three_8, eX1_three_9, eX1_three_12, eX1_three_14, eX1_three_17, eX1_three_17N, eX1_three_18, eX1_three_19, eX1_three_19N, eX1_three_20, eX1_three_23, eX1_three_24, eX1_three_25, eX1_three_25N, eX1_three_26, eX1_three_29, eX1_three_30, eX1_three_31, eX1_three_31N, eX1_three_32, eX1_three_35, eX1_three_37, eX1_three_38, eX1_three_41R, eX1_three_41N, eX1_three_44, lgp, lgn, lgz, i10, i00, if_true, if_false, eq_self, not_true, not_false_eq_true, rx, rn, rc, rl, hx, hn, hc, hl, d1, d2, d3, d4, d5, d6, d7, d8, d9, d10, d11, d12, rd_n, upw_n, ite_le, n45, n54, true_or, or_true, false_or, or_false, false_and, and_false, kx_l, kx_r, go_s, gl_s, gi_s, gb_s2, gb_s3, gq_s, wt_nil, wt_int, wt_long, wt_ref, wt_null, nl_int, nl_long, nl_ref, nl_null, nl_none, rf_n, rf_s, rf_st, tl_s, tl_n, g0, gS, ex1, nb_b, nb_0, nb_1, nf_i, nf_l, nf_ra, nf_ro, nf_na, nf_no, nf_b0, nf_z0, t45_4, t45_5, true_and, and_true, List.set_cons_zero, List.set_cons_succ, List.length_cons, List.length_nil, rd_s, upw_s, ne_eq, not_false_eq_true, Nat.zero_add, Nat.add_zero]
    | split
    | with_reducible intro _
    | omega
set_option maxHeartbeats 4000000 in
theorem fX1_four {s : AS} {a0 : Int32} {a1 : Int32} {a2 : Int32} {a3 : Int32} {a4 : Int32} (hC : CS g w0 x nA cA lA kn s w) (hX : ¬ (okC a0 ∧ okN a1 ∧ okN a2 ∧ okN a3 ∧ okN a4) → (Q (.inr "java/lang/IndexOutOfBoundsException") w)) (hT : okC a0 → okN a1 → okN a2 → okN a3 → okN a4 → oP (s.1 a1.toNatClampNeg) (s.1 a2.toNatClampNeg) (s.1 a3.toNatClampNeg) (s.1 a4.toNatClampNeg) → ∀ w', CS g w0 x nA cA lA kn (sMk s a0.toNatClampNeg (s.1 a1.toNatClampNeg, s.1 a2.toNatClampNeg, s.1 a3.toNatClampNeg, s.1 a4.toNatClampNeg)) w' → Q (.inl (some (.int 1))) w') (hF : okC a0 → okN a1 → okN a2 → okN a3 → okN a4 → ¬ oP (s.1 a1.toNatClampNeg) (s.1 a2.toNatClampNeg) (s.1 a3.toNatClampNeg) (s.1 a4.toNatClampNeg) → ∀ w', CS g w0 x nA cA lA kn (sRf s) w' → Q (.inl (some (.int (-9)))) w') : WP (MX1_four g) Q (0, [some (.ref x), some (.int a0), some (.int a1), some (.int a2), some (.int a3), some (.int a4)], [], w, 0, 0) := by
  obtain ⟨gc, gl, ⟨hx, hn, hc, hl, hgc, hgl, hn0, hn1, rx, rn, rc, rl, ⟨d1, d2, d3, d4, d5, d6⟩, ⟨d7, d8, d9, d10, d11, d12⟩⟩, hcd, hpl⟩ := hC.1.opn g
  repeat' first
    | with_reducible assumption
    | with_reducible refine And.intro ?_ ?_
    | with_reducible exact vpi6 (by assumption) (by assumption)
    | with_reducible exact vpi8 (by assumption) (by assumption)
    | with_reducible exact trivial
    | with_reducible exact hX (fun h => absurd h.1 (by assumption))
    | with_reducible exact hX (fun h => absurd h.2.1 (by assumption))
    | with_reducible exact hX (fun h => absurd h.2.2.1 (by assumption))
    | with_reducible exact hX (fun h => absurd h.2.2.2.1 (by assumption))
    | with_reducible exact hX (fun h => absurd h.2.2.2.2 (by assumption))
    | with_reducible refine fX1_needCard (a0 := a0) (fun _ => ?_) (fun k0 => ?_)
    | with_reducible exact vpi6 k0.1 k0.2
    | with_reducible refine fX1_needNumber (a0 := a1) (fun _ => ?_) (fun k1 => ?_)
    | with_reducible exact vpi8 k1.1 k1.2
    | with_reducible refine fX1_needNumber (a0 := a2) (fun _ => ?_) (fun k2 => ?_)
    | with_reducible exact vpi8 k2.1 k2.2
    | with_reducible refine fX1_needNumber (a0 := a3) (fun _ => ?_) (fun k3 => ?_)
    | with_reducible exact vpi8 k3.1 k3.2
    | with_reducible refine fX1_needNumber (a0 := a4) (fun _ => ?_) (fun k4 => ?_)
    | with_reducible exact vpi8 k4.1 k4.2
    | with_reducible refine fX0_ofFour (fun hno => ?_) (fun hyes q hq => ?_)
    | with_reducible refine fX1_giveN hC (fun w1 g1 g2 => ?_)
    | with_reducible exact hF k0 k1 k2 k3 k4 hno w1 g1
    | with_reducible exact go_5 (hC.ext (ext_up2 ext.rf hq))
    | with_reducible refine fX1_giveR (hC.ext (ext_up2 ext.rf hq)) rAt_new k0.1 k0.2 (fun w1 g1 g2 => ?_)
    | with_reducible exact hT k0 k1 k2 k3 k4 hyes w1 g1
    | simp only [eX1_four_0, eX1_four_1, eX1_four_4, eX1_four_5, eX1_four_8, eX1_four_9, eX1_four_12, eX1_four_14, eX1_four_17, eX1_four_19, eX1_four_22, eX1_four_22N, eX1_four_23, eX1_four_24, eX1_four_24N, eX1_four_25, eX1_four_28, eX1_four_29, eX1_four_30, eX1_four_30N, eX1_four_31, eX1_four_34, eX1_four_35, eX1_four_36, eX1_four_36N, eX1_four_37, eX1_four_40, eX1_four_42, eX1_four_43, eX1_four_43N, eX1_four_44, eX1_four_47, eX1_four_49, eX1_four_50, eX1_four_53R, eX1_four_53N, eX1_four_56, lgp, lgn, lgz, i10, i00, if_true, if_false, eq_self, not_true, not_false_eq_true, rx, rn, rc, rl, hx, hn, hc, hl, d1, d2, d3, d4, d5, d6, d7, d8, d9, d10, d11, d12, rd_n, upw_n, ite_le, n45, n54, true_or, or_true, false_or, or_false, false_and, and_false, kx_l, kx_r, go_s, gl_s, gi_s, gb_s2, gb_s3, gq_s, wt_nil, wt_int, wt_long, wt_ref, wt_null, nl_int, nl_long, nl_ref, nl_null, nl_none, rf_n, rf_s, rf_st, tl_s, tl_n, g0, gS, ex1, nb_b, nb_0, nb_1, nf_i, nf_l, nf_ra, nf_ro, nf_na, nf_no, nf_b0, nf_z0, t45_4, t45_5, true_and, and_true, List.set_cons_zero, List.set_cons_succ, List.length_cons, List.length_nil, rd_s, upw_s, ne_eq, not_false_eq_true, Nat.zero_add, Nat.add_zero]
    | split
    | with_reducible intro _
    | omega
set_option maxHeartbeats 4000000 in
theorem fX1_twoSmall {s : AS} {a0 : Int32} {a1 : Int32} {a2 : Int32} (hC : CS g w0 x nA cA lA kn s w) (hX : ¬ (okC a0) → (Q (.inr "java/lang/IndexOutOfBoundsException") w)) (hT : okC a0 → oP (a1.toInt64) (a1.toInt64) (a2.toInt64) (a2.toInt64) → ∀ w', CS g w0 x nA cA lA kn (sMk s a0.toNatClampNeg (a1.toInt64, a1.toInt64, a2.toInt64, a2.toInt64)) w' → Q (.inl (some (.int 1))) w') (hF : okC a0 → ¬ oP (a1.toInt64) (a1.toInt64) (a2.toInt64) (a2.toInt64) → ∀ w', CS g w0 x nA cA lA kn (sRf s) w' → Q (.inl (some (.int (-9)))) w') : WP (MX1_twoSmall g) Q (0, [some (.ref x), some (.int a0), some (.int a1), some (.int a2)], [], w, 0, 0) := by
  obtain ⟨gc, gl, ⟨hx, hn, hc, hl, hgc, hgl, hn0, hn1, rx, rn, rc, rl, ⟨d1, d2, d3, d4, d5, d6⟩, ⟨d7, d8, d9, d10, d11, d12⟩⟩, hcd, hpl⟩ := hC.1.opn g
  repeat' first
    | with_reducible assumption
    | with_reducible refine And.intro ?_ ?_
    | with_reducible exact vpi6 (by assumption) (by assumption)
    | with_reducible exact vpi8 (by assumption) (by assumption)
    | with_reducible exact trivial
    | with_reducible exact hX (fun h => absurd h (by assumption))
    | with_reducible refine fX1_needCard (a0 := a0) (fun _ => ?_) (fun k0 => ?_)
    | with_reducible exact vpi6 k0.1 k0.2
    | with_reducible refine fX0_ofTwo (fun hno => ?_) (fun hyes q hq => ?_)
    | with_reducible refine fX1_giveN hC (fun w1 g1 g2 => ?_)
    | with_reducible exact hF k0 hno w1 g1
    | with_reducible exact go_5 (hC.ext (ext_up2 ext.rf hq))
    | with_reducible refine fX1_giveR (hC.ext (ext_up2 ext.rf hq)) rAt_new k0.1 k0.2 (fun w1 g1 g2 => ?_)
    | with_reducible exact hT k0 hyes w1 g1
    | simp only [eX1_twoSmall_0, eX1_twoSmall_1, eX1_twoSmall_4, eX1_twoSmall_4N, eX1_twoSmall_5, eX1_twoSmall_6, eX1_twoSmall_7, eX1_twoSmall_8, eX1_twoSmall_9, eX1_twoSmall_10, eX1_twoSmall_13R, eX1_twoSmall_13N, eX1_twoSmall_16, lgp, lgn, lgz, i10, i00, if_true, if_false, eq_self, not_true, not_false_eq_true, rx, rn, rc, rl, hx, hn, hc, hl, d1, d2, d3, d4, d5, d6, d7, d8, d9, d10, d11, d12, rd_n, upw_n, ite_le, n45, n54, true_or, or_true, false_or, or_false, false_and, and_false, kx_l, kx_r, go_s, gl_s, gi_s, gb_s2, gb_s3, gq_s, wt_nil, wt_int, wt_long, wt_ref, wt_null, nl_int, nl_long, nl_ref, nl_null, nl_none, rf_n, rf_s, rf_st, tl_s, tl_n, g0, gS, ex1, nb_b, nb_0, nb_1, nf_i, nf_l, nf_ra, nf_ro, nf_na, nf_no, nf_b0, nf_z0, t45_4, t45_5, true_and, and_true, List.set_cons_zero, List.set_cons_succ, List.length_cons, List.length_nil, rd_s, upw_s, ne_eq, not_false_eq_true, Nat.zero_add, Nat.add_zero]
    | split
    | with_reducible intro _
    | omega
set_option maxHeartbeats 4000000 in
theorem fX1_threeSmall {s : AS} {a0 : Int32} {a1 : Int32} {a2 : Int32} {a3 : Int32} (hC : CS g w0 x nA cA lA kn s w) (hX : ¬ (okC a0) → (Q (.inr "java/lang/IndexOutOfBoundsException") w)) (hT : okC a0 → oP (a1.toInt64) (a1.toInt64) (a2.toInt64) (a3.toInt64) → ∀ w', CS g w0 x nA cA lA kn (sMk s a0.toNatClampNeg (a1.toInt64, a1.toInt64, a2.toInt64, a3.toInt64)) w' → Q (.inl (some (.int 1))) w') (hF : okC a0 → ¬ oP (a1.toInt64) (a1.toInt64) (a2.toInt64) (a3.toInt64) → ∀ w', CS g w0 x nA cA lA kn (sRf s) w' → Q (.inl (some (.int (-9)))) w') : WP (MX1_threeSmall g) Q (0, [some (.ref x), some (.int a0), some (.int a1), some (.int a2), some (.int a3)], [], w, 0, 0) := by
  obtain ⟨gc, gl, ⟨hx, hn, hc, hl, hgc, hgl, hn0, hn1, rx, rn, rc, rl, ⟨d1, d2, d3, d4, d5, d6⟩, ⟨d7, d8, d9, d10, d11, d12⟩⟩, hcd, hpl⟩ := hC.1.opn g
  repeat' first
    | with_reducible assumption
    | with_reducible refine And.intro ?_ ?_
    | with_reducible exact vpi6 (by assumption) (by assumption)
    | with_reducible exact vpi8 (by assumption) (by assumption)
    | with_reducible exact trivial
    | with_reducible exact hX (fun h => absurd h (by assumption))
    | with_reducible refine fX1_needCard (a0 := a0) (fun _ => ?_) (fun k0 => ?_)
    | with_reducible exact vpi6 k0.1 k0.2
    | with_reducible refine fX0_ofThree (fun hno => ?_) (fun hyes q hq => ?_)
    | with_reducible refine fX1_giveN hC (fun w1 g1 g2 => ?_)
    | with_reducible exact hF k0 hno w1 g1
    | with_reducible exact go_5 (hC.ext (ext_up2 ext.rf hq))
    | with_reducible refine fX1_giveR (hC.ext (ext_up2 ext.rf hq)) rAt_new k0.1 k0.2 (fun w1 g1 g2 => ?_)
    | with_reducible exact hT k0 hyes w1 g1
    | simp only [eX1_threeSmall_0, eX1_threeSmall_1, eX1_threeSmall_4, eX1_threeSmall_4N, eX1_threeSmall_5, eX1_threeSmall_6, eX1_threeSmall_7, eX1_threeSmall_8, eX1_threeSmall_9, eX1_threeSmall_10, eX1_threeSmall_12, eX1_threeSmall_13, eX1_threeSmall_16R, eX1_threeSmall_16N, eX1_threeSmall_19, lgp, lgn, lgz, i10, i00, if_true, if_false, eq_self, not_true, not_false_eq_true, rx, rn, rc, rl, hx, hn, hc, hl, d1, d2, d3, d4, d5, d6, d7, d8, d9, d10, d11, d12, rd_n, upw_n, ite_le, n45, n54, true_or, or_true, false_or, or_false, false_and, and_false, kx_l, kx_r, go_s, gl_s, gi_s, gb_s2, gb_s3, gq_s, wt_nil, wt_int, wt_long, wt_ref, wt_null, nl_int, nl_long, nl_ref, nl_null, nl_none, rf_n, rf_s, rf_st, tl_s, tl_n, g0, gS, ex1, nb_b, nb_0, nb_1, nf_i, nf_l, nf_ra, nf_ro, nf_na, nf_no, nf_b0, nf_z0, t45_4, t45_5, true_and, and_true, List.set_cons_zero, List.set_cons_succ, List.length_cons, List.length_nil, rd_s, upw_s, ne_eq, not_false_eq_true, Nat.zero_add, Nat.add_zero]
    | split
    | with_reducible intro _
    | omega
set_option maxHeartbeats 4000000 in
theorem fX1_fourSmall {s : AS} {a0 : Int32} {a1 : Int32} {a2 : Int32} {a3 : Int32} {a4 : Int32} (hC : CS g w0 x nA cA lA kn s w) (hX : ¬ (okC a0) → (Q (.inr "java/lang/IndexOutOfBoundsException") w)) (hT : okC a0 → oP (a1.toInt64) (a2.toInt64) (a3.toInt64) (a4.toInt64) → ∀ w', CS g w0 x nA cA lA kn (sMk s a0.toNatClampNeg (a1.toInt64, a2.toInt64, a3.toInt64, a4.toInt64)) w' → Q (.inl (some (.int 1))) w') (hF : okC a0 → ¬ oP (a1.toInt64) (a2.toInt64) (a3.toInt64) (a4.toInt64) → ∀ w', CS g w0 x nA cA lA kn (sRf s) w' → Q (.inl (some (.int (-9)))) w') : WP (MX1_fourSmall g) Q (0, [some (.ref x), some (.int a0), some (.int a1), some (.int a2), some (.int a3), some (.int a4)], [], w, 0, 0) := by
  obtain ⟨gc, gl, ⟨hx, hn, hc, hl, hgc, hgl, hn0, hn1, rx, rn, rc, rl, ⟨d1, d2, d3, d4, d5, d6⟩, ⟨d7, d8, d9, d10, d11, d12⟩⟩, hcd, hpl⟩ := hC.1.opn g
  repeat' first
    | with_reducible assumption
    | with_reducible refine And.intro ?_ ?_
    | with_reducible exact vpi6 (by assumption) (by assumption)
    | with_reducible exact vpi8 (by assumption) (by assumption)
    | with_reducible exact trivial
    | with_reducible exact hX (fun h => absurd h (by assumption))
    | with_reducible refine fX1_needCard (a0 := a0) (fun _ => ?_) (fun k0 => ?_)
    | with_reducible exact vpi6 k0.1 k0.2
    | with_reducible refine fX0_ofFour (fun hno => ?_) (fun hyes q hq => ?_)
    | with_reducible refine fX1_giveN hC (fun w1 g1 g2 => ?_)
    | with_reducible exact hF k0 hno w1 g1
    | with_reducible exact go_5 (hC.ext (ext_up2 ext.rf hq))
    | with_reducible refine fX1_giveR (hC.ext (ext_up2 ext.rf hq)) rAt_new k0.1 k0.2 (fun w1 g1 g2 => ?_)
    | with_reducible exact hT k0 hyes w1 g1
    | simp only [eX1_fourSmall_0, eX1_fourSmall_1, eX1_fourSmall_4, eX1_fourSmall_4N, eX1_fourSmall_5, eX1_fourSmall_6, eX1_fourSmall_7, eX1_fourSmall_8, eX1_fourSmall_9, eX1_fourSmall_10, eX1_fourSmall_12, eX1_fourSmall_13, eX1_fourSmall_15, eX1_fourSmall_16, eX1_fourSmall_19R, eX1_fourSmall_19N, eX1_fourSmall_22, lgp, lgn, lgz, i10, i00, if_true, if_false, eq_self, not_true, not_false_eq_true, rx, rn, rc, rl, hx, hn, hc, hl, d1, d2, d3, d4, d5, d6, d7, d8, d9, d10, d11, d12, rd_n, upw_n, ite_le, n45, n54, true_or, or_true, false_or, or_false, false_and, and_false, kx_l, kx_r, go_s, gl_s, gi_s, gb_s2, gb_s3, gq_s, wt_nil, wt_int, wt_long, wt_ref, wt_null, nl_int, nl_long, nl_ref, nl_null, nl_none, rf_n, rf_s, rf_st, tl_s, tl_n, g0, gS, ex1, nb_b, nb_0, nb_1, nf_i, nf_l, nf_ra, nf_ro, nf_na, nf_no, nf_b0, nf_z0, t45_4, t45_5, true_and, and_true, List.set_cons_zero, List.set_cons_succ, List.length_cons, List.length_nil, rd_s, upw_s, ne_eq, not_false_eq_true, Nat.zero_add, Nat.add_zero]
    | split
    | with_reducible intro _
    | omega
set_option maxHeartbeats 4000000 in
theorem fX1_copyOf {p : Nat} {r : R4} (hp : rAt w p r) (hN : ¬ rOk r → Q (.inl (some .null)) w) (hQ : rOk r → ∀ q, rd g w q = none → Q (.inl (some (.ref q))) (upw w q (.inr (4, [.long r.1, .long r.2.1, .long r.2.2.1, .long r.2.2.2])))) : WP (MX1_copyOf g) Q (0, [some (.ref p)], [], w, 0, 0) := by
  repeat' first
    | with_reducible assumption
    | with_reducible refine And.intro ?_ ?_
    | with_reducible exact vpi6 (by assumption) (by assumption)
    | with_reducible exact vpi8 (by assumption) (by assumption)
    | with_reducible exact trivial
    | with_reducible refine go_F (by assumption) ?_
    | with_reducible refine fX0_ofFour (fun hno => ?_) (fun hyes q hq => ?_)
    | with_reducible exact hN hno
    | with_reducible exact hQ hyes q hq
    | simp only [eX1_copyOf_0, eX1_copyOf_0N, eX1_copyOf_1, eX1_copyOf_4, eX1_copyOf_4N, eX1_copyOf_5, eX1_copyOf_8, eX1_copyOf_8N, eX1_copyOf_9, eX1_copyOf_12, eX1_copyOf_12N, eX1_copyOf_13, eX1_copyOf_16, eX1_copyOf_19, eX1_copyOf_19N, lgp, lgn, lgz, i10, i00, if_true, if_false, eq_self, not_true, not_false_eq_true, ite_le, n45, n54, true_or, or_true, false_or, or_false, false_and, and_false, kx_l, kx_r, go_s, gl_s, gi_s, gb_s2, gb_s3, gq_s, wt_nil, wt_int, wt_long, wt_ref, wt_null, nl_int, nl_long, nl_ref, nl_null, nl_none, rf_n, rf_s, rf_st, tl_s, tl_n, g0, gS, ex1, nb_b, nb_0, nb_1, nf_i, nf_l, nf_ra, nf_ro, nf_na, nf_no, nf_b0, nf_z0, t45_4, t45_5, true_and, and_true, List.set_cons_zero, List.set_cons_succ, List.length_cons, List.length_nil, rd_s, upw_s, ne_eq, not_false_eq_true, Nat.zero_add, Nat.add_zero]
    | split
    | with_reducible intro _
    | omega
set_option maxHeartbeats 4000000 in
theorem fX1_outerOf {p : Nat} {r : R4} (hp : rAt w p r) (hN : ¬ oP r.1 r.1 r.2.2.2 r.2.2.2 → Q (.inl (some .null)) w) (hQ : oP r.1 r.1 r.2.2.2 r.2.2.2 → ∀ q, rd g w q = none → Q (.inl (some (.ref q))) (upw w q (.inr (4, [.long r.1, .long r.1, .long r.2.2.2, .long r.2.2.2])))) : WP (MX1_outerOf g) Q (0, [some (.ref p)], [], w, 0, 0) := by
  repeat' first
    | with_reducible assumption
    | with_reducible refine And.intro ?_ ?_
    | with_reducible exact vpi6 (by assumption) (by assumption)
    | with_reducible exact vpi8 (by assumption) (by assumption)
    | with_reducible exact trivial
    | with_reducible refine go_F (by assumption) ?_
    | with_reducible refine fX0_ofTwo (fun hno => ?_) (fun hyes q hq => ?_)
    | with_reducible exact hN hno
    | with_reducible exact hQ hyes q hq
    | simp only [eX1_outerOf_0, eX1_outerOf_0N, eX1_outerOf_1, eX1_outerOf_4, eX1_outerOf_4N, eX1_outerOf_5, eX1_outerOf_8, eX1_outerOf_11, eX1_outerOf_11N, lgp, lgn, lgz, i10, i00, if_true, if_false, eq_self, not_true, not_false_eq_true, ite_le, n45, n54, true_or, or_true, false_or, or_false, false_and, and_false, kx_l, kx_r, go_s, gl_s, gi_s, gb_s2, gb_s3, gq_s, wt_nil, wt_int, wt_long, wt_ref, wt_null, nl_int, nl_long, nl_ref, nl_null, nl_none, rf_n, rf_s, rf_st, tl_s, tl_n, g0, gS, ex1, nb_b, nb_0, nb_1, nf_i, nf_l, nf_ra, nf_ro, nf_na, nf_no, nf_b0, nf_z0, t45_4, t45_5, true_and, and_true, List.set_cons_zero, List.set_cons_succ, List.length_cons, List.length_nil, rd_s, upw_s, ne_eq, not_false_eq_true, Nat.zero_add, Nat.add_zero]
    | split
    | with_reducible intro _
    | omega
set_option maxHeartbeats 4000000 in
theorem fX1_inner {s : AS} {a0 a1 : Int32} (hC : CS g w0 x nA cA lA kn s w) (hX : ¬ (okC a0 ∧ okC a1) → (Q (.inr "java/lang/IndexOutOfBoundsException") w)) (hS : okC a0 → okC a1 → s.2.1 a1.toNatClampNeg = none → (Q (.inr "java/lang/IllegalStateException") w)) (hT : okC a0 → okC a1 → ∀ r, s.2.1 a1.toNatClampNeg = some r → oP r.2.1 r.2.1 r.2.2.1 r.2.2.1 → ∀ w', CS g w0 x nA cA lA kn (sMk s a0.toNatClampNeg (r.2.1, r.2.1, r.2.2.1, r.2.2.1)) w' → Q (.inl (some (.int 1))) w') (hF : okC a0 → okC a1 → ∀ r, s.2.1 a1.toNatClampNeg = some r → ¬ oP r.2.1 r.2.1 r.2.2.1 r.2.2.1 → ∀ w', CS g w0 x nA cA lA kn (sRf s) w' → Q (.inl (some (.int (-9)))) w') : WP (MX1_inner g) Q (0, [some (.ref x), some (.int a0), some (.int a1), none], [], w, 0, 0) := by
  obtain ⟨gc, gl, ⟨hx, hn, hc, hl, hgc, hgl, hn0, hn1, rx, rn, rc, rl, ⟨d1, d2, d3, d4, d5, d6⟩, ⟨d7, d8, d9, d10, d11, d12⟩⟩, hcd, hpl⟩ := hC.1.opn g
  repeat' first
    | with_reducible assumption
    | with_reducible refine And.intro ?_ ?_
    | with_reducible exact vpi6 (by assumption) (by assumption)
    | with_reducible exact vpi8 (by assumption) (by assumption)
    | with_reducible exact trivial
    | with_reducible exact hX (fun h => absurd h.1 (by assumption))
    | with_reducible exact hX (fun h => absurd h.2 (by assumption))
    | with_reducible refine fX1_needCard (a0 := a0) (fun _ => ?_) (fun k0 => ?_)
    | with_reducible exact vpi6 k0.1 k0.2
    | with_reducible refine fX1_rangeOf hC (fun _ => ?_) (fun k1 e1 => ?_) (fun k1 p r e1 hp => ?_)
    | with_reducible exact hS k0 k1 e1
    | with_reducible refine go_F hp ?_
    | with_reducible exact go_F hp trivial
    | with_reducible refine fX0_ofTwo (fun hno => ?_) (fun hyes q hq => ?_)
    | with_reducible refine fX1_giveN hC (fun w1 g1 g2 => ?_)
    | with_reducible exact hF k0 k1 r e1 hno w1 g1
    | with_reducible exact go_5 (hC.ext (ext_up2 ext.rf hq))
    | with_reducible refine fX1_giveR (hC.ext (ext_up2 ext.rf hq)) rAt_new k0.1 k0.2 (fun w1 g1 g2 => ?_)
    | with_reducible exact hT k0 k1 r e1 hyes w1 g1
    | simp only [eX1_inner_0, eX1_inner_1, eX1_inner_4, eX1_inner_4N, eX1_inner_5, eX1_inner_6, eX1_inner_9, eX1_inner_9N, eX1_inner_10, eX1_inner_10N, eX1_inner_11, eX1_inner_12, eX1_inner_12N, eX1_inner_13, eX1_inner_16, eX1_inner_16N, eX1_inner_17, eX1_inner_20, eX1_inner_23R, eX1_inner_23N, eX1_inner_26, lgp, lgn, lgz, i10, i00, if_true, if_false, eq_self, not_true, not_false_eq_true, rx, rn, rc, rl, hx, hn, hc, hl, d1, d2, d3, d4, d5, d6, d7, d8, d9, d10, d11, d12, rd_n, upw_n, ite_le, n45, n54, true_or, or_true, false_or, or_false, false_and, and_false, kx_l, kx_r, go_s, gl_s, gi_s, gb_s2, gb_s3, gq_s, wt_nil, wt_int, wt_long, wt_ref, wt_null, nl_int, nl_long, nl_ref, nl_null, nl_none, rf_n, rf_s, rf_st, tl_s, tl_n, g0, gS, ex1, nb_b, nb_0, nb_1, nf_i, nf_l, nf_ra, nf_ro, nf_na, nf_no, nf_b0, nf_z0, t45_4, t45_5, true_and, and_true, List.set_cons_zero, List.set_cons_succ, List.length_cons, List.length_nil, rd_s, upw_s, ne_eq, not_false_eq_true, Nat.zero_add, Nat.add_zero]
    | split
    | with_reducible intro _
    | omega
set_option maxHeartbeats 4000000 in
theorem fX1_shift {s : AS} {a0 a1 : Int32} (hC : CS g w0 x nA cA lA kn s w) (hX : ¬ okC a0 → (Q (.inr "java/lang/IndexOutOfBoundsException") w)) (hS : okC a0 → s.2.1 a0.toNatClampNeg = none → (Q (.inr "java/lang/IllegalStateException") w)) (hT : okC a0 → ∀ r, s.2.1 a0.toNatClampNeg = some r → oP (r.1 + a1.toInt64) (r.2.1 + a1.toInt64) (r.2.2.1 + a1.toInt64) (r.2.2.2 + a1.toInt64) → ∀ w', CS g w0 x nA cA lA kn (sMk s a0.toNatClampNeg (r.1 + a1.toInt64, r.2.1 + a1.toInt64, r.2.2.1 + a1.toInt64, r.2.2.2 + a1.toInt64)) w' → Q (.inl (some (.int 1))) w') (hF : okC a0 → ∀ r, s.2.1 a0.toNatClampNeg = some r → ¬ oP (r.1 + a1.toInt64) (r.2.1 + a1.toInt64) (r.2.2.1 + a1.toInt64) (r.2.2.2 + a1.toInt64) → ∀ w', CS g w0 x nA cA lA kn (sRf s) w' → Q (.inl (some (.int (-9)))) w') : WP (MX1_shift g) Q (0, [some (.ref x), some (.int a0), some (.int a1), none], [], w, 0, 0) := by
  obtain ⟨gc, gl, ⟨hx, hn, hc, hl, hgc, hgl, hn0, hn1, rx, rn, rc, rl, ⟨d1, d2, d3, d4, d5, d6⟩, ⟨d7, d8, d9, d10, d11, d12⟩⟩, hcd, hpl⟩ := hC.1.opn g
  repeat' first
    | with_reducible assumption
    | with_reducible refine And.intro ?_ ?_
    | with_reducible exact vpi6 (by assumption) (by assumption)
    | with_reducible exact vpi8 (by assumption) (by assumption)
    | with_reducible exact trivial
    | with_reducible exact hX (by assumption)
    | with_reducible refine fX1_rangeOf hC (fun _ => ?_) (fun k0 e1 => ?_) (fun k0 p r e1 hp => ?_)
    | with_reducible exact hS k0 e1
    | with_reducible refine go_F hp ?_
    | with_reducible exact go_F hp trivial
    | with_reducible refine fX0_ofFour (fun hno => ?_) (fun hyes q hq => ?_)
    | with_reducible refine fX1_giveN hC (fun w1 g1 g2 => ?_)
    | with_reducible exact hF k0 r e1 hno w1 g1
    | with_reducible exact go_5 (hC.ext (ext_up2 ext.rf hq))
    | with_reducible refine fX1_giveR (hC.ext (ext_up2 ext.rf hq)) rAt_new k0.1 k0.2 (fun w1 g1 g2 => ?_)
    | with_reducible exact hT k0 r e1 hyes w1 g1
    | simp only [eX1_shift_0, eX1_shift_0N, eX1_shift_1, eX1_shift_2, eX1_shift_5, eX1_shift_5N, eX1_shift_6, eX1_shift_6N, eX1_shift_7, eX1_shift_8, eX1_shift_8N, eX1_shift_9, eX1_shift_12, eX1_shift_13, eX1_shift_14, eX1_shift_15, eX1_shift_15N, eX1_shift_16, eX1_shift_19, eX1_shift_20, eX1_shift_21, eX1_shift_22, eX1_shift_22N, eX1_shift_23, eX1_shift_26, eX1_shift_27, eX1_shift_28, eX1_shift_29, eX1_shift_29N, eX1_shift_30, eX1_shift_33, eX1_shift_34, eX1_shift_35, eX1_shift_36, eX1_shift_39R, eX1_shift_39N, eX1_shift_42, lgp, lgn, lgz, i10, i00, if_true, if_false, eq_self, not_true, not_false_eq_true, rx, rn, rc, rl, hx, hn, hc, hl, d1, d2, d3, d4, d5, d6, d7, d8, d9, d10, d11, d12, rd_n, upw_n, ite_le, n45, n54, true_or, or_true, false_or, or_false, false_and, and_false, kx_l, kx_r, go_s, gl_s, gi_s, gb_s2, gb_s3, gq_s, wt_nil, wt_int, wt_long, wt_ref, wt_null, nl_int, nl_long, nl_ref, nl_null, nl_none, rf_n, rf_s, rf_st, tl_s, tl_n, g0, gS, ex1, nb_b, nb_0, nb_1, nf_i, nf_l, nf_ra, nf_ro, nf_na, nf_no, nf_b0, nf_z0, t45_4, t45_5, true_and, and_true, List.set_cons_zero, List.set_cons_succ, List.length_cons, List.length_nil, rd_s, upw_s, ne_eq, not_false_eq_true, Nat.zero_add, Nat.add_zero]
    | split
    | with_reducible intro _
    | omega
set_option maxHeartbeats 4000000 in
theorem fX1_span {s : AS} {a0 a1 a2 : Int32} (hC : CS g w0 x nA cA lA kn s w) (hX : ¬ (okC a0 ∧ okC a1 ∧ okC a2) → (Q (.inr "java/lang/IndexOutOfBoundsException") w)) (hS : okC a0 → okC a1 → okC a2 → (s.2.1 a1.toNatClampNeg = none ∨ s.2.1 a2.toNatClampNeg = none) → (Q (.inr "java/lang/IllegalStateException") w)) (hT : okC a0 → okC a1 → okC a2 → ∀ r q, s.2.1 a1.toNatClampNeg = some r → s.2.1 a2.toNatClampNeg = some q → oP r.1 r.2.1 q.2.2.1 q.2.2.2 → ∀ w', CS g w0 x nA cA lA kn (sMk s a0.toNatClampNeg (r.1, r.2.1, q.2.2.1, q.2.2.2)) w' → Q (.inl (some (.int 1))) w') (hF : okC a0 → okC a1 → okC a2 → ∀ r q, s.2.1 a1.toNatClampNeg = some r → s.2.1 a2.toNatClampNeg = some q → ¬ oP r.1 r.2.1 q.2.2.1 q.2.2.2 → ∀ w', CS g w0 x nA cA lA kn (sRf s) w' → Q (.inl (some (.int (-9)))) w') : WP (MX1_span g) Q (0, [some (.ref x), some (.int a0), some (.int a1), some (.int a2), none, none], [], w, 0, 0) := by
  obtain ⟨gc, gl, ⟨hx, hn, hc, hl, hgc, hgl, hn0, hn1, rx, rn, rc, rl, ⟨d1, d2, d3, d4, d5, d6⟩, ⟨d7, d8, d9, d10, d11, d12⟩⟩, hcd, hpl⟩ := hC.1.opn g
  repeat' first
    | with_reducible assumption
    | with_reducible refine And.intro ?_ ?_
    | with_reducible exact vpi6 (by assumption) (by assumption)
    | with_reducible exact vpi8 (by assumption) (by assumption)
    | with_reducible exact trivial
    | with_reducible exact hX (fun h => absurd h.1 (by assumption))
    | with_reducible exact hX (fun h => absurd h.2.1 (by assumption))
    | with_reducible exact hX (fun h => absurd h.2.2 (by assumption))
    | with_reducible refine fX1_needCard (a0 := a0) (fun _ => ?_) (fun k0 => ?_)
    | with_reducible exact vpi6 k0.1 k0.2
    | with_reducible refine fX1_needCard (a0 := a1) (fun _ => ?_) (fun k1 => ?_)
    | with_reducible exact vpi6 k1.1 k1.2
    | with_reducible refine fX1_needCard (a0 := a2) (fun _ => ?_) (fun k2 => ?_)
    | with_reducible exact vpi6 k2.1 k2.2
    | with_reducible refine fX1_rangeOf (a0 := a1) hC (fun _ => ?_) (fun _ e1 => ?_) (fun _ p r e1 hp => ?_)
    | with_reducible refine fX1_rangeOf (a0 := a2) hC (fun _ => ?_) (fun _ e2 => ?_) (fun _ p2 r2 e2 hp2 => ?_)
    | with_reducible exact hS k0 k1 k2 (Or.inl e1)
    | with_reducible exact hS k0 k1 k2 (Or.inr e2)
    | with_reducible refine go_F hp ?_
    | with_reducible exact go_F hp trivial
    | with_reducible refine go_F hp2 ?_
    | with_reducible exact go_F hp2 trivial
    | with_reducible refine fX0_ofFour (fun hno => ?_) (fun hyes q hq => ?_)
    | with_reducible refine fX1_giveN hC (fun w1 g1 g2 => ?_)
    | with_reducible exact hF k0 k1 k2 r r2 e1 e2 hno w1 g1
    | with_reducible exact go_5 (hC.ext (ext_up2 ext.rf hq))
    | with_reducible refine fX1_giveR (hC.ext (ext_up2 ext.rf hq)) rAt_new k0.1 k0.2 (fun w1 g1 g2 => ?_)
    | with_reducible exact hT k0 k1 k2 r r2 e1 e2 hyes w1 g1
    | simp only [eX1_span_0, eX1_span_1, eX1_span_4, eX1_span_5, eX1_span_8, eX1_span_9, eX1_span_12, eX1_span_12N, eX1_span_13, eX1_span_14, eX1_span_17, eX1_span_17N, eX1_span_19, eX1_span_19N, eX1_span_20, eX1_span_21, eX1_span_24, eX1_span_24N, eX1_span_26, eX1_span_26N, eX1_span_27, eX1_span_28, eX1_span_28N, eX1_span_30, eX1_span_33, eX1_span_33N, eX1_span_35, eX1_span_38, eX1_span_38N, eX1_span_40, eX1_span_43, eX1_span_43N, eX1_span_45, eX1_span_48, eX1_span_51R, eX1_span_51N, eX1_span_54, lgp, lgn, lgz, i10, i00, if_true, if_false, eq_self, not_true, not_false_eq_true, rx, rn, rc, rl, hx, hn, hc, hl, d1, d2, d3, d4, d5, d6, d7, d8, d9, d10, d11, d12, rd_n, upw_n, ite_le, n45, n54, true_or, or_true, false_or, or_false, false_and, and_false, kx_l, kx_r, go_s, gl_s, gi_s, gb_s2, gb_s3, gq_s, wt_nil, wt_int, wt_long, wt_ref, wt_null, nl_int, nl_long, nl_ref, nl_null, nl_none, rf_n, rf_s, rf_st, tl_s, tl_n, g0, gS, ex1, nb_b, nb_0, nb_1, nf_i, nf_l, nf_ra, nf_ro, nf_na, nf_no, nf_b0, nf_z0, t45_4, t45_5, true_and, and_true, List.set_cons_zero, List.set_cons_succ, List.length_cons, List.length_nil, rd_s, upw_s, ne_eq, not_false_eq_true, Nat.zero_add, Nat.add_zero]
    | split
    | with_reducible intro _
    | omega
end
end
/-! 71.fn5.lean.txt -/
section
section
variable {g : RO} {Q : Ot → Hw → Prop} {w0 w : Hw} {x nA cA lA : Nat} {kn : Int32}
/-! FUNCTIONAL SPECS, 5: loops -/
def fsum (f : Nat → Int32) : Nat → Int32
  | 0 => 0
  | n + 1 => fsum f n + f n
theorem bI01 (b : Bool) : bI b = 0 ∨ bI b = 1 := by cases b <;> first | exact Or.inl rfl | exact Or.inr rfl
theorem oN1 {j : Nat} : Int32.ofNat j + 1 = Int32.ofNat (j + 1) := (nI_succ j).symm
theorem oNt {j : Nat} (h : j < 1000) : (Int32.ofNat j).toInt = (j : Int) := nI_toInt (by omega)
theorem oNc {j : Nat} (h : j < 1000) : (Int32.ofNat j).toNatClampNeg = j := nI_clamp (by omega)
theorem oN0 {j : Nat} (h : j < 1000) : ¬ Int32.ofNat j < 0 := i32_of_nlt (by
  rw [oNt h]
  show (0 : Int) ≤ (j : Int)
  omega)
theorem oNl {j : Nat} {b : Int32} {B : Nat} (h : j < 1000) (e : b.toInt = (B : Int)) (k : j < B) : Int32.ofNat j < b := i32_of_lt (by rw [oNt h, e]; omega)
theorem oNg {j : Nat} {b : Int32} {B : Nat} (h : j < 1000) (e : b.toInt = (B : Int)) (k : B ≤ j) : ¬ Int32.ofNat j < b := i32_of_nlt (by rw [oNt h, e]; omega)
theorem vX0_holds {p : Nat} {r : R4} {a0 : Int64} (hp : rAt w p r) (hQ : Q (.inl (some (.int (bI (decide (hP r a0)))))) w) : WP (MX0_holds g) Q (0, [some (.ref p), some (.long a0), none], [], w, 0, 0) := fX0_holds hp (fun h => by rw [decide_eq_true h] at hQ; exact hQ) (fun h => by rw [decide_eq_false h] at hQ; exact hQ)
theorem vX0_holdsAsSmall {p : Nat} {r : R4} {a0 : Int64} (hp : rAt w p r) (hQ : Q (.inl (some (.int (bI (decide (sP r ∧ hP r a0)))))) w) : WP (MX0_holdsAsSmall g) Q (0, [some (.ref p), some (.long a0), none], [], w, 0, 0) := fX0_holdsAsSmall hp (fun h => by rw [decide_eq_true h] at hQ; exact hQ) (fun h => by rw [decide_eq_false h] at hQ; exact hQ)
theorem vX0_holdsAs {p : Nat} {r : R4} {a0 : Int64} {a1 : Int32} (hp : rAt w p r) (hQ : Q (.inl (some (.int (bI (decide ((a1 = 0 ∨ sP r) ∧ hP r a0)))))) w) : WP (MX0_holdsAs g) Q (0, [some (.ref p), some (.long a0), none, some (.int a1)], [], w, 0, 0) := fX0_holdsAs hp (fun h => by rw [decide_eq_true h] at hQ; exact hQ) (fun h => by rw [decide_eq_false h] at hQ; exact hQ)
theorem vX1_isSmallNumber {a0 : Int64} (hQ : Q (.inl (some (.int (bI (decide (-2147483648 ≤ a0.toInt ∧ a0.toInt ≤ 2147483647)))))) w) : WP (MX1_isSmallNumber g) Q (0, [some (.long a0), none], [], w, 0, 0) := fX1_isSmallNumber (fun h => by rw [decide_eq_true h] at hQ; exact hQ) (fun h => by rw [decide_eq_false h] at hQ; exact hQ)
/-- how many ends are small numbers -/
def seV (r : R4) : Int32 := fsum (fun j => bI (decide (-2147483648 ≤ (eV r (Int32.ofNat j)).toInt ∧ (eV r (Int32.ofNat j)).toInt ≤ 2147483647))) 4
set_option maxHeartbeats 4000000 in
theorem flX1_smallEnds_4 {p : Nat} {r : R4} (hp : rAt w p r) (hQ : Q (.inl (some (.int (seV r)))) w) : ∀ (d j : Nat)  (k m : Nat), j + d = 4 → k ≤ 0 → m ≤ 0 → WP (MX1_smallEnds g) Q (4, [some (.ref p), some (.int (fsum (fun j => bI (decide (-2147483648 ≤ (eV r (Int32.ofNat j)).toInt ∧ (eV r (Int32.ofNat j)).toInt ≤ 2147483647))) j)), some (.int (Int32.ofNat j))], [], w, k, m) := by
  intro d
  induction d with
  | zero =>
    intro j  k m hjd hk hm
    have h9 : j < 1000 := (by omega)
    have hlt : ¬ Int32.ofNat j < 4 := oNg (B := 4) h9 rfl (by omega)
    have hnn := oN0 h9
    have hcl := oNc h9
    obtain rfl : j = 4 := by omega
    rw [eX1_smallEnds_4]
    repeat' first
      | with_reducible assumption
      | with_reducible refine And.intro ?_ ?_
      | with_reducible exact vpi6 (by assumption) (by assumption)
      | with_reducible exact vpi8 (by assumption) (by assumption)
      | with_reducible exact trivial
      | with_reducible exact go_F hp trivial
      | with_reducible refine fX0_endAt hp ?_
      | with_reducible refine vX1_isSmallNumber ?_
      | with_reducible refine fX1_asNumber (bI01 _) ?_
      | ((with_reducible refine isQ (Q := Q) ?_); exact hQ)
      | simp only [eX1_smallEnds_0, eX1_smallEnds_1, eX1_smallEnds_2, eX1_smallEnds_3, eX1_smallEnds_5, eX1_smallEnds_6, eX1_smallEnds_9, eX1_smallEnds_10, eX1_smallEnds_10N, eX1_smallEnds_11, eX1_smallEnds_12, eX1_smallEnds_15, eX1_smallEnds_18, eX1_smallEnds_21, eX1_smallEnds_22, eX1_smallEnds_23, eX1_smallEnds_26, eX1_smallEnds_29, eX1_smallEnds_30, lgp, lgn, lgz, i10, i00, if_true, if_false, eq_self, not_true, not_false_eq_true, hlt, hcl, ite_le, n45, n54, true_or, or_true, false_or, or_false, false_and, and_false, kx_l, kx_r, go_s, gl_s, gi_s, gb_s2, gb_s3, gq_s, wt_nil, wt_int, wt_long, wt_ref, wt_null, nl_int, nl_long, nl_ref, nl_null, nl_none, rf_n, rf_s, rf_st, tl_s, tl_n, g0, gS, ex1, nb_b, nb_0, nb_1, nf_i, nf_l, nf_ra, nf_ro, nf_na, nf_no, nf_b0, nf_z0, t45_4, t45_5, true_and, and_true, List.set_cons_zero, List.set_cons_succ, List.length_cons, List.length_nil, rd_s, upw_s, ne_eq, not_false_eq_true, Nat.zero_add, Nat.add_zero]
      | split
      | with_reducible intro _
      | omega
  | succ d ih =>
    intro j  k m hjd hk hm
    have h9 : j < 1000 := (by omega)
    have hlt : Int32.ofNat j < 4 := oNl (B := 4) h9 rfl (by omega)
    have hnn := oN0 h9
    have hcl := oNc h9
    rw [eX1_smallEnds_4]
    repeat' first
      | with_reducible assumption
      | with_reducible refine And.intro ?_ ?_
      | with_reducible exact vpi6 (by assumption) (by assumption)
      | with_reducible exact vpi8 (by assumption) (by assumption)
      | with_reducible exact trivial
      | (rw [oN1]; exact ih (j + 1)  _ _ (by omega) (by first | assumption | omega) (by first | assumption | omega))
      | with_reducible exact go_F hp trivial
      | with_reducible refine fX0_endAt hp ?_
      | with_reducible refine vX1_isSmallNumber ?_
      | with_reducible refine fX1_asNumber (bI01 _) ?_
      | ((with_reducible refine isQ (Q := Q) ?_); exact hQ)
      | simp only [eX1_smallEnds_0, eX1_smallEnds_1, eX1_smallEnds_2, eX1_smallEnds_3, eX1_smallEnds_5, eX1_smallEnds_6, eX1_smallEnds_9, eX1_smallEnds_10, eX1_smallEnds_10N, eX1_smallEnds_11, eX1_smallEnds_12, eX1_smallEnds_15, eX1_smallEnds_18, eX1_smallEnds_21, eX1_smallEnds_22, eX1_smallEnds_23, eX1_smallEnds_26, eX1_smallEnds_29, eX1_smallEnds_30, lgp, lgn, lgz, i10, i00, if_true, if_false, eq_self, not_true, not_false_eq_true, hlt, hcl, ite_le, n45, n54, true_or, or_true, false_or, or_false, false_and, and_false, kx_l, kx_r, go_s, gl_s, gi_s, gb_s2, gb_s3, gq_s, wt_nil, wt_int, wt_long, wt_ref, wt_null, nl_int, nl_long, nl_ref, nl_null, nl_none, rf_n, rf_s, rf_st, tl_s, tl_n, g0, gS, ex1, nb_b, nb_0, nb_1, nf_i, nf_l, nf_ra, nf_ro, nf_na, nf_no, nf_b0, nf_z0, t45_4, t45_5, true_and, and_true, List.set_cons_zero, List.set_cons_succ, List.length_cons, List.length_nil, rd_s, upw_s, ne_eq, not_false_eq_true, Nat.zero_add, Nat.add_zero]
      | split
      | with_reducible intro _
      | omega
set_option maxHeartbeats 4000000 in
theorem fX1_smallEnds {p : Nat} {r : R4} (hp : rAt w p r) (hQ : Q (.inl (some (.int (seV r)))) w) : WP (MX1_smallEnds g) Q (0, [some (.ref p), none, none], [], w, 0, 0) := by
  repeat' first
    | with_reducible assumption
    | with_reducible refine And.intro ?_ ?_
    | with_reducible exact vpi6 (by assumption) (by assumption)
    | with_reducible exact vpi8 (by assumption) (by assumption)
    | with_reducible exact trivial
    | ((with_reducible refine isWP (pc := 4) ?_); exact flX1_smallEnds_4 hp hQ 4 0 _ _ rfl (by decide) (by decide))
    | simp only [eX1_smallEnds_0, eX1_smallEnds_1, eX1_smallEnds_2, eX1_smallEnds_3, eX1_smallEnds_5, eX1_smallEnds_6, eX1_smallEnds_9, eX1_smallEnds_10, eX1_smallEnds_10N, eX1_smallEnds_11, eX1_smallEnds_12, eX1_smallEnds_15, eX1_smallEnds_18, eX1_smallEnds_21, eX1_smallEnds_22, eX1_smallEnds_23, eX1_smallEnds_26, eX1_smallEnds_29, eX1_smallEnds_30, lgp, lgn, lgz, i10, i00, if_true, if_false, eq_self, not_true, not_false_eq_true, ite_le, n45, n54, true_or, or_true, false_or, or_false, false_and, and_false, kx_l, kx_r, go_s, gl_s, gi_s, gb_s2, gb_s3, gq_s, wt_nil, wt_int, wt_long, wt_ref, wt_null, nl_int, nl_long, nl_ref, nl_null, nl_none, rf_n, rf_s, rf_st, tl_s, tl_n, g0, gS, ex1, nb_b, nb_0, nb_1, nf_i, nf_l, nf_ra, nf_ro, nf_na, nf_no, nf_b0, nf_z0, t45_4, t45_5, true_and, and_true, List.set_cons_zero, List.set_cons_succ, List.length_cons, List.length_nil, rd_s, upw_s, ne_eq, not_false_eq_true, Nat.zero_add, Nat.add_zero]
    | split
    | with_reducible intro _
    | omega
end
end
/-! 71.fn6.lean.txt -/
section
section
variable {g : RO} {Q : Ot → Hw → Prop} {w0 w : Hw} {x nA cA lA : Nat} {kn : Int32}
/-! FUNCTIONAL SPECS, 6: cards, given and asked -/
theorem sOk.c {s : AS} {a : Int32} {r : R4} (h : sOk s) (k : okC a) (e : s.2.1 a.toNatClampNeg = some r) : rOk r := h.1 _ _ (c6 k) e
theorem oOut {r : R4} (h : rOk r) : oP r.1 r.1 r.2.2.2 r.2.2.2 := by
  obtain ⟨h1, h2, h3, h4⟩ := h
  exact ⟨Int.le_refl _, Int.le_refl _, by omega, by omega⟩
theorem mOut {r : R4} (h : mP r (r.1, r.1, r.2.2.2, r.2.2.2)) : fP r := ⟨h.2.1.symm, h.2.2.1⟩
theorem mOutN {r : R4} (h : ¬ mP r (r.1, r.1, r.2.2.2, r.2.2.2)) : ¬ fP r := fun k => h ⟨rfl, k.1.symm, k.2, rfl⟩
set_option maxHeartbeats 4000000 in
theorem fX1_again {s : AS} {a0 a1 : Int32} (hC : CS g w0 x nA cA lA kn s w) (ho : sOk s) (hX : ¬ (okC a0 ∧ okC a1) → (Q (.inr "java/lang/IndexOutOfBoundsException") w)) (hS : okC a0 → okC a1 → s.2.1 a1.toNatClampNeg = none → (Q (.inr "java/lang/IllegalStateException") w)) (hQ : okC a0 → okC a1 → ∀ r, s.2.1 a1.toNatClampNeg = some r → ∀ w', CS g w0 x nA cA lA kn (sMk s a0.toNatClampNeg r) w' → Q (.inl (some (.int (seV r)))) w') : WP (MX1_again g) Q (0, [some (.ref x), some (.int a0), some (.int a1), none], [], w, 0, 0) := by
  obtain ⟨gc, gl, ⟨hx, hn, hc, hl, hgc, hgl, hn0, hn1, rx, rn, rc, rl, ⟨d1, d2, d3, d4, d5, d6⟩, ⟨d7, d8, d9, d10, d11, d12⟩⟩, hcd, hpl⟩ := hC.1.opn g
  repeat' first
    | with_reducible assumption
    | with_reducible refine And.intro ?_ ?_
    | with_reducible exact vpi6 (by assumption) (by assumption)
    | with_reducible exact vpi8 (by assumption) (by assumption)
    | with_reducible exact trivial
    | with_reducible exact hX (fun h => absurd h.1 (by assumption))
    | with_reducible exact hX (fun h => absurd h.2 (by assumption))
    | with_reducible refine fX1_needCard (a0 := a0) (fun _ => ?_) (fun k0 => ?_)
    | with_reducible exact vpi6 k0.1 k0.2
    | with_reducible refine fX1_rangeOf (a0 := a1) hC (fun _ => ?_) (fun k1 e1 => ?_) (fun k1 p r e1 hp => ?_)
    | with_reducible refine go_F hp ?_
    | with_reducible exact go_F hp trivial
    | with_reducible exact hS k0 k1 e1
    | with_reducible refine fX1_copyOf hp (fun hno => ?_) (fun hyes q hq => ?_)
    | with_reducible exact absurd (ho.c k1 e1) hno
    | with_reducible exact go_5 (hC.ext (ext_up2 ext.rf hq))
    | with_reducible refine fX1_giveR (hC.ext (ext_up2 ext.rf hq)) rAt_new k0.1 k0.2 (fun w1 g1 g2 => ?_)
    | with_reducible refine fX1_smallEnds (g2 _ _ (hp.ext (ext_up2 ext.rf hq))) ?_
    | ((with_reducible refine isQ (Q := Q) ?_); exact hQ k0 k1 r e1 w1 g1)
    | simp only [eX1_again_0, eX1_again_1, eX1_again_4, eX1_again_4N, eX1_again_5, eX1_again_6, eX1_again_9, eX1_again_9N, eX1_again_10, eX1_again_10N, eX1_again_11, eX1_again_12, eX1_again_12N, eX1_again_13R, eX1_again_13N, eX1_again_16R, eX1_again_16N, eX1_again_19, eX1_again_19R, eX1_again_19N, eX1_again_20, eX1_again_20N, eX1_again_21R, eX1_again_21N, eX1_again_24, lgp, lgn, lgz, i10, i00, if_true, if_false, eq_self, not_true, not_false_eq_true, rx, rn, rc, rl, hx, hn, hc, hl, d1, d2, d3, d4, d5, d6, d7, d8, d9, d10, d11, d12, rd_n, upw_n, ite_le, n45, n54, true_or, or_true, false_or, or_false, false_and, and_false, kx_l, kx_r, go_s, gl_s, gi_s, gb_s2, gb_s3, gq_s, wt_nil, wt_int, wt_long, wt_ref, wt_null, nl_int, nl_long, nl_ref, nl_null, nl_none, rf_n, rf_s, rf_st, tl_s, tl_n, g0, gS, ex1, nb_b, nb_0, nb_1, nf_i, nf_l, nf_ra, nf_ro, nf_na, nf_no, nf_b0, nf_z0, t45_4, t45_5, true_and, and_true, List.set_cons_zero, List.set_cons_succ, List.length_cons, List.length_nil, rd_s, upw_s, ne_eq, not_false_eq_true, Nat.zero_add, Nat.add_zero]
    | split
    | with_reducible intro _
    | omega
set_option maxHeartbeats 4000000 in
theorem fX1_outer {s : AS} {a0 a1 : Int32} (hC : CS g w0 x nA cA lA kn s w) (ho : sOk s) (hX : ¬ (okC a0 ∧ okC a1) → (Q (.inr "java/lang/IndexOutOfBoundsException") w)) (hS : okC a0 → okC a1 → s.2.1 a1.toNatClampNeg = none → (Q (.inr "java/lang/IllegalStateException") w)) (hT : okC a0 → okC a1 → ∀ r, s.2.1 a1.toNatClampNeg = some r → fP r → ∀ w', CS g w0 x nA cA lA kn (sMk s a0.toNatClampNeg (r.1, r.1, r.2.2.2, r.2.2.2)) w' → Q (.inl (some (.int 1))) w') (hF : okC a0 → okC a1 → ∀ r, s.2.1 a1.toNatClampNeg = some r → ¬ fP r → ∀ w', CS g w0 x nA cA lA kn (sMk s a0.toNatClampNeg (r.1, r.1, r.2.2.2, r.2.2.2)) w' → Q (.inl (some (.int 0))) w') : WP (MX1_outer g) Q (0, [some (.ref x), some (.int a0), some (.int a1), none, none], [], w, 0, 0) := by
  obtain ⟨gc, gl, ⟨hx, hn, hc, hl, hgc, hgl, hn0, hn1, rx, rn, rc, rl, ⟨d1, d2, d3, d4, d5, d6⟩, ⟨d7, d8, d9, d10, d11, d12⟩⟩, hcd, hpl⟩ := hC.1.opn g
  repeat' first
    | with_reducible assumption
    | with_reducible refine And.intro ?_ ?_
    | with_reducible exact vpi6 (by assumption) (by assumption)
    | with_reducible exact vpi8 (by assumption) (by assumption)
    | with_reducible exact trivial
    | with_reducible exact hX (fun h => absurd h.1 (by assumption))
    | with_reducible exact hX (fun h => absurd h.2 (by assumption))
    | with_reducible refine fX1_needCard (a0 := a0) (fun _ => ?_) (fun k0 => ?_)
    | with_reducible exact vpi6 k0.1 k0.2
    | with_reducible refine fX1_rangeOf (a0 := a1) hC (fun _ => ?_) (fun k1 e1 => ?_) (fun k1 p r e1 hp => ?_)
    | with_reducible refine go_F hp ?_
    | with_reducible exact go_F hp trivial
    | with_reducible exact hS k0 k1 e1
    | with_reducible refine fX1_outerOf hp (fun hno => ?_) (fun hyes q hq => ?_)
    | with_reducible exact absurd (oOut (ho.c k1 e1)) hno
    | with_reducible exact go_5 (hC.ext (ext_up2 ext.rf hq))
    | with_reducible refine fX1_giveR (hC.ext (ext_up2 ext.rf hq)) rAt_new k0.1 k0.2 (fun w1 g1 g2 => ?_)
    | with_reducible exact go_F (g2 _ _ (hp.ext (ext_up2 ext.rf hq))) trivial
    | with_reducible refine fX0_matchesR (g2 _ _ (hp.ext (ext_up2 ext.rf hq))) (g2 _ _ rAt_new) (fun hm => ?_) (fun hm => ?_)
    | with_reducible exact hT k0 k1 r e1 (mOut hm) w1 g1
    | with_reducible exact hF k0 k1 r e1 (mOutN hm) w1 g1
    | simp only [eX1_outer_0, eX1_outer_1, eX1_outer_4, eX1_outer_4N, eX1_outer_5, eX1_outer_6, eX1_outer_9, eX1_outer_9N, eX1_outer_10, eX1_outer_10N, eX1_outer_11R, eX1_outer_11N, eX1_outer_14, eX1_outer_14N, eX1_outer_16, eX1_outer_16N, eX1_outer_17, eX1_outer_18, eX1_outer_18N, eX1_outer_20R, eX1_outer_20N, eX1_outer_23, eX1_outer_23R, eX1_outer_23N, eX1_outer_24, eX1_outer_24N, eX1_outer_25, eX1_outer_25N, eX1_outer_27R, eX1_outer_27N, eX1_outer_30, eX1_outer_33, eX1_outer_34, eX1_outer_37, eX1_outer_38, lgp, lgn, lgz, i10, i00, if_true, if_false, eq_self, not_true, not_false_eq_true, rx, rn, rc, rl, hx, hn, hc, hl, d1, d2, d3, d4, d5, d6, d7, d8, d9, d10, d11, d12, rd_n, upw_n, ite_le, n45, n54, true_or, or_true, false_or, or_false, false_and, and_false, kx_l, kx_r, go_s, gl_s, gi_s, gb_s2, gb_s3, gq_s, wt_nil, wt_int, wt_long, wt_ref, wt_null, nl_int, nl_long, nl_ref, nl_null, nl_none, rf_n, rf_s, rf_st, tl_s, tl_n, g0, gS, ex1, nb_b, nb_0, nb_1, nf_i, nf_l, nf_ra, nf_ro, nf_na, nf_no, nf_b0, nf_z0, t45_4, t45_5, true_and, and_true, List.set_cons_zero, List.set_cons_succ, List.length_cons, List.length_nil, rd_s, upw_s, ne_eq, not_false_eq_true, Nat.zero_add, Nat.add_zero]
    | split
    | with_reducible intro _
    | omega
set_option maxHeartbeats 4000000 in
theorem fX1_same {s : AS} {a0 a1 : Int32} (hC : CS g w0 x nA cA lA kn s w) (hX : ¬ (okC a0 ∧ okC a1) → (Q (.inr "java/lang/IndexOutOfBoundsException") w)) (hS : okC a0 → okC a1 → s.2.1 a1.toNatClampNeg = none → (Q (.inr "java/lang/IllegalStateException") w)) (hN : okC a0 → okC a1 → ∀ r, s.2.1 a1.toNatClampNeg = some r → s.2.1 a0.toNatClampNeg = none → ∀ w', CS g w0 x nA cA lA kn (sC s (va_up s.2.1 a0.toNatClampNeg (some r))) w' → Q (.inl (some (.int (-1)))) w') (hT : okC a0 → okC a1 → ∀ r, s.2.1 a1.toNatClampNeg = some r → ∀ q, s.2.1 a0.toNatClampNeg = some q → mP q r → ∀ w', CS g w0 x nA cA lA kn (sC s (va_up s.2.1 a0.toNatClampNeg (some r))) w' → Q (.inl (some (.int 1))) w') (hF : okC a0 → okC a1 → ∀ r, s.2.1 a1.toNatClampNeg = some r → ∀ q, s.2.1 a0.toNatClampNeg = some q → ¬ mP q r → ∀ w', CS g w0 x nA cA lA kn (sC s (va_up s.2.1 a0.toNatClampNeg (some r))) w' → Q (.inl (some (.int 0))) w') : WP (MX1_same g) Q (0, [some (.ref x), some (.int a0), some (.int a1), none, none], [], w, 0, 0) := by
  obtain ⟨gc, gl, ⟨hx, hn, hc, hl, hgc, hgl, hn0, hn1, rx, rn, rc, rl, ⟨d1, d2, d3, d4, d5, d6⟩, ⟨d7, d8, d9, d10, d11, d12⟩⟩, hcd, hpl⟩ := hC.1.opn g
  repeat' first
    | with_reducible assumption
    | with_reducible refine And.intro ?_ ?_
    | with_reducible exact vpi6 (by assumption) (by assumption)
    | with_reducible exact vpi8 (by assumption) (by assumption)
    | with_reducible exact trivial
    | with_reducible exact hX (fun h => absurd h.1 (by assumption))
    | with_reducible exact hX (fun h => absurd h.2 (by assumption))
    | with_reducible refine fX1_needCard (a0 := a0) (fun _ => ?_) (fun k0 => ?_)
    | with_reducible exact vpi6 k0.1 k0.2
    | with_reducible refine fX1_rangeOf (a0 := a1) hC (fun _ => ?_) (fun k1 e1 => ?_) (fun k1 p r e1 hp => ?_)
    | with_reducible refine go_F hp ?_
    | with_reducible exact go_F hp trivial
    | with_reducible exact hS k0 k1 e1
    | with_reducible refine Or.inl ?_
    | with_reducible exact go_Fw hp trivial
    | ((with_reducible refine isQ (Q := Q) ?_); exact hN k0 k1 r e1 (cdN hcd k0 (by assumption)) _ (hC.card gc hc a0.toNatClampNeg (some p) (some r) hp))
    | (obtain ⟨q0, e0, hq0⟩ := cdS hcd k0 (by assumption); with_reducible refine fX0_matchesR (rAt_up2 hq0 hc (by simp)) (rAt_up2 hp hc (by simp)) (fun hm => ?_) (fun hm => ?_))
    | (obtain ⟨q0, e0, hq0⟩ := cdS hcd k0 (by assumption); with_reducible exact go_F (rAt_up2 hq0 hc (by simp)) trivial)
    | ((with_reducible refine isQ (Q := Q) ?_); exact hT k0 k1 r e1 q0 e0 hm _ (hC.card gc hc a0.toNatClampNeg (some p) (some r) hp))
    | ((with_reducible refine isQ (Q := Q) ?_); exact hF k0 k1 r e1 q0 e0 hm _ (hC.card gc hc a0.toNatClampNeg (some p) (some r) hp))
    | simp only [eX1_same_0, eX1_same_1, eX1_same_4, eX1_same_4N, eX1_same_5, eX1_same_6, eX1_same_9, eX1_same_9N, eX1_same_10, eX1_same_10N, eX1_same_11, eX1_same_14, eX1_same_15, eX1_same_16, eX1_same_16N, eX1_same_18, eX1_same_18N, eX1_same_19, eX1_same_22, eX1_same_23, eX1_same_23N, eX1_same_24N, eX1_same_24R, eX1_same_25, eX1_same_25N, eX1_same_27R, eX1_same_27N, eX1_same_30, eX1_same_31, eX1_same_32, eX1_same_32N, eX1_same_34, eX1_same_34N, eX1_same_35R, eX1_same_35N, eX1_same_38, eX1_same_41, eX1_same_42, eX1_same_45, eX1_same_46, lgp, lgn, lgz, i10, i00, if_true, if_false, eq_self, not_true, not_false_eq_true, rx, rn, rc, rl, hx, hn, hc, hl, d1, d2, d3, d4, d5, d6, d7, d8, d9, d10, d11, d12, rd_n, upw_n, ite_le, n45, n54, true_or, or_true, false_or, or_false, false_and, and_false, kx_l, kx_r, go_s, gl_s, gi_s, gb_s2, gb_s3, gq_s, wt_nil, wt_int, wt_long, wt_ref, wt_null, nl_int, nl_long, nl_ref, nl_null, nl_none, rf_n, rf_s, rf_st, tl_s, tl_n, g0, gS, ex1, nb_b, nb_0, nb_1, nf_i, nf_l, nf_ra, nf_ro, nf_na, nf_no, nf_b0, nf_z0, t45_4, t45_5, true_and, and_true, List.set_cons_zero, List.set_cons_succ, List.length_cons, List.length_nil, rd_s, upw_s, ne_eq, not_false_eq_true, Nat.zero_add, Nat.add_zero]
    | split
    | with_reducible intro _
    | omega
set_option maxHeartbeats 4000000 in
theorem fX1_drop {s : AS} {a0 : Int32} (hC : CS g w0 x nA cA lA kn s w) (hX : ¬ okC a0 → (Q (.inr "java/lang/IndexOutOfBoundsException") w)) (hN : okC a0 → s.2.1 a0.toNatClampNeg = none → ∀ w', CS g w0 x nA cA lA kn (sC s (va_up s.2.1 a0.toNatClampNeg none)) w' → Q (.inl (some (.int 0))) w') (hS : okC a0 → ∀ r, s.2.1 a0.toNatClampNeg = some r → ∀ w', CS g w0 x nA cA lA kn (sC s (va_up s.2.1 a0.toNatClampNeg none)) w' → Q (.inl (some (.int 1))) w') : WP (MX1_drop g) Q (0, [some (.ref x), some (.int a0), none], [], w, 0, 0) := by
  obtain ⟨gc, gl, ⟨hx, hn, hc, hl, hgc, hgl, hn0, hn1, rx, rn, rc, rl, ⟨d1, d2, d3, d4, d5, d6⟩, ⟨d7, d8, d9, d10, d11, d12⟩⟩, hcd, hpl⟩ := hC.1.opn g
  repeat' first
    | with_reducible assumption
    | with_reducible refine And.intro ?_ ?_
    | with_reducible exact vpi6 (by assumption) (by assumption)
    | with_reducible exact vpi8 (by assumption) (by assumption)
    | with_reducible exact trivial
    | with_reducible exact hX (by assumption)
    | with_reducible refine fX1_needCard (a0 := a0) (fun _ => ?_) (fun k0 => ?_)
    | with_reducible exact vpi6 k0.1 k0.2
    | with_reducible refine fX1_asNumber (Or.inl rfl) ?_
    | with_reducible refine fX1_asNumber (Or.inr rfl) ?_
    | with_reducible refine Or.inl ?_
    | ((with_reducible refine isQ (Q := Q) ?_); exact hN k0 (cdN hcd k0 (by assumption)) _ (hC.card gc hc a0.toNatClampNeg none none trivial))
    | ((with_reducible refine isQ (Q := Q) ?_); exact (cdS hcd k0 (by assumption)).elim (fun r h => hS k0 r h.1 _ (hC.card gc hc a0.toNatClampNeg none none trivial)))
    | simp only [eX1_drop_0, eX1_drop_1, eX1_drop_4, eX1_drop_4N, eX1_drop_5, eX1_drop_8, eX1_drop_9, eX1_drop_10R, eX1_drop_10N, eX1_drop_13, eX1_drop_14, eX1_drop_17, eX1_drop_18, eX1_drop_21, eX1_drop_22, eX1_drop_22N, eX1_drop_23, eX1_drop_26, eX1_drop_27, eX1_drop_28N, eX1_drop_28R, eX1_drop_29, eX1_drop_30, lgp, lgn, lgz, i10, i00, if_true, if_false, eq_self, not_true, not_false_eq_true, rx, rn, rc, rl, hx, hn, hc, hl, d1, d2, d3, d4, d5, d6, d7, d8, d9, d10, d11, d12, rd_n, upw_n, ite_le, n45, n54, true_or, or_true, false_or, or_false, false_and, and_false, kx_l, kx_r, go_s, gl_s, gi_s, gb_s2, gb_s3, gq_s, wt_nil, wt_int, wt_long, wt_ref, wt_null, nl_int, nl_long, nl_ref, nl_null, nl_none, rf_n, rf_s, rf_st, tl_s, tl_n, g0, gS, ex1, nb_b, nb_0, nb_1, nf_i, nf_l, nf_ra, nf_ro, nf_na, nf_no, nf_b0, nf_z0, t45_4, t45_5, true_and, and_true, List.set_cons_zero, List.set_cons_succ, List.length_cons, List.length_nil, rd_s, upw_s, ne_eq, not_false_eq_true, Nat.zero_add, Nat.add_zero]
    | split
    | with_reducible intro _
    | omega
end
end
/-! 71.fn7.lean.txt -/
section
section
variable {g : RO} {Q : Ot → Hw → Prop} {w0 w : Hw} {x nA cA lA : Nat} {kn : Int32}
set_option maxHeartbeats 4000000 in
theorem fX1_take {s : AS} {a0 a1 a2 : Int32} (hC : CS g w0 x nA cA lA kn s w) (hX : ¬ (okC a0 ∧ okN a2) → (Q (.inr "java/lang/IndexOutOfBoundsException") w)) (hW : okC a0 → okN a2 → ¬ okW a1 3 → (Q (.inr "java/lang/IllegalArgumentException") w)) (hS : okC a0 → okN a2 → okW a1 3 → s.2.1 a0.toNatClampNeg = none → (Q (.inr "java/lang/IllegalStateException") w)) (hQ : okC a0 → okN a2 → okW a1 3 → ∀ r, s.2.1 a0.toNatClampNeg = some r → ∀ w', CS g w0 x nA cA lA kn (sN s (vp_updL s.1 a2.toNatClampNeg (eV r a1))) w' → Q (.inl (some (.int (loV (eV r a1))))) w') : WP (MX1_take g) Q (0, [some (.ref x), some (.int a0), some (.int a1), some (.int a2)], [], w, 0, 0) := by
  obtain ⟨gc, gl, ⟨hx, hn, hc, hl, hgc, hgl, hn0, hn1, rx, rn, rc, rl, ⟨d1, d2, d3, d4, d5, d6⟩, ⟨d7, d8, d9, d10, d11, d12⟩⟩, hcd, hpl⟩ := hC.1.opn g
  repeat' first
    | with_reducible assumption
    | with_reducible refine And.intro ?_ ?_
    | with_reducible exact vpi6 (by assumption) (by assumption)
    | with_reducible exact vpi8 (by assumption) (by assumption)
    | with_reducible exact trivial
    | with_reducible exact hX (fun h => absurd h.1 (by assumption))
    | with_reducible exact hX (fun h => absurd h.2 (by assumption))
    | with_reducible refine fX1_needCard (a0 := a0) (fun _ => ?_) (fun k0 => ?_)
    | with_reducible exact vpi6 k0.1 k0.2
    | with_reducible refine fX1_needNumber (a0 := a2) (fun _ => ?_) (fun k2 => ?_)
    | with_reducible exact vpi8 k2.1 k2.2
    | with_reducible refine fX1_needChoice (fun hnw => ?_) (fun hw => ?_)
    | with_reducible exact hW k0 k2 hnw
    | with_reducible refine fX1_rangeOf (a0 := a0) hC (fun _ => ?_) (fun _ e1 => ?_) (fun _ p r e1 hp => ?_)
    | with_reducible refine go_F hp ?_
    | with_reducible exact go_F hp trivial
    | with_reducible exact hS k0 k2 hw e1
    | with_reducible refine fX0_endAt hp ?_
    | with_reducible refine fX1_putNumber hC k2.1 k2.2 (fun w1 g1 => ?_)
    | with_reducible exact hQ k0 k2 hw r e1 w1 g1
    | simp only [eX1_take_0, eX1_take_1, eX1_take_4, eX1_take_5, eX1_take_8, eX1_take_9, eX1_take_10, eX1_take_13, eX1_take_13N, eX1_take_14, eX1_take_15, eX1_take_15N, eX1_take_16, eX1_take_17, eX1_take_20, eX1_take_21, eX1_take_24, eX1_take_27, lgp, lgn, lgz, i10, i00, if_true, if_false, eq_self, not_true, not_false_eq_true, rx, rn, rc, rl, hx, hn, hc, hl, d1, d2, d3, d4, d5, d6, d7, d8, d9, d10, d11, d12, rd_n, upw_n, ite_le, n45, n54, true_or, or_true, false_or, or_false, false_and, and_false, kx_l, kx_r, go_s, gl_s, gi_s, gb_s2, gb_s3, gq_s, wt_nil, wt_int, wt_long, wt_ref, wt_null, nl_int, nl_long, nl_ref, nl_null, nl_none, rf_n, rf_s, rf_st, tl_s, tl_n, g0, gS, ex1, nb_b, nb_0, nb_1, nf_i, nf_l, nf_ra, nf_ro, nf_na, nf_no, nf_b0, nf_z0, t45_4, t45_5, true_and, and_true, List.set_cons_zero, List.set_cons_succ, List.length_cons, List.length_nil, rd_s, upw_s, ne_eq, not_false_eq_true, Nat.zero_add, Nat.add_zero]
    | split
    | with_reducible intro _
    | omega
set_option maxHeartbeats 4000000 in
theorem fX1_end {s : AS} {a0 a1 a2 : Int32} (hC : CS g w0 x nA cA lA kn s w) (hX : ¬ okC a0 → (Q (.inr "java/lang/IndexOutOfBoundsException") w)) (hW : okC a0 → ¬ okW a1 3 → (Q (.inr "java/lang/IllegalArgumentException") w)) (hS : okC a0 → okW a1 3 → s.2.1 a0.toNatClampNeg = none → (Q (.inr "java/lang/IllegalStateException") w)) (hQ : okC a0 → okW a1 3 → ∀ r, s.2.1 a0.toNatClampNeg = some r → Q (.inl (some (.int (hfV (eV r a1) a2)))) w) : WP (MX1_end g) Q (0, [some (.ref x), some (.int a0), some (.int a1), some (.int a2)], [], w, 0, 0) := by
  obtain ⟨gc, gl, ⟨hx, hn, hc, hl, hgc, hgl, hn0, hn1, rx, rn, rc, rl, ⟨d1, d2, d3, d4, d5, d6⟩, ⟨d7, d8, d9, d10, d11, d12⟩⟩, hcd, hpl⟩ := hC.1.opn g
  repeat' first
    | with_reducible assumption
    | with_reducible refine And.intro ?_ ?_
    | with_reducible exact vpi6 (by assumption) (by assumption)
    | with_reducible exact vpi8 (by assumption) (by assumption)
    | with_reducible exact trivial
    | with_reducible exact hX (by assumption)
    | with_reducible refine fX1_needCard (a0 := a0) (fun _ => ?_) (fun k0 => ?_)
    | with_reducible exact vpi6 k0.1 k0.2
    | with_reducible refine fX1_needChoice (fun hnw => ?_) (fun hw => ?_)
    | with_reducible exact hW k0 hnw
    | with_reducible refine fX1_rangeOf (a0 := a0) hC (fun _ => ?_) (fun _ e1 => ?_) (fun _ p r e1 hp => ?_)
    | with_reducible refine go_F hp ?_
    | with_reducible exact go_F hp trivial
    | with_reducible exact hS k0 hw e1
    | with_reducible refine fX0_endAt hp ?_
    | with_reducible refine fX1_halfOf ?_
    | with_reducible exact hQ k0 hw r e1
    | simp only [eX1_end_0, eX1_end_1, eX1_end_4, eX1_end_5, eX1_end_6, eX1_end_9, eX1_end_9N, eX1_end_10, eX1_end_11, eX1_end_14, eX1_end_15, eX1_end_18, eX1_end_19, eX1_end_22, lgp, lgn, lgz, i10, i00, if_true, if_false, eq_self, not_true, not_false_eq_true, rx, rn, rc, rl, hx, hn, hc, hl, d1, d2, d3, d4, d5, d6, d7, d8, d9, d10, d11, d12, rd_n, upw_n, ite_le, n45, n54, true_or, or_true, false_or, or_false, false_and, and_false, kx_l, kx_r, go_s, gl_s, gi_s, gb_s2, gb_s3, gq_s, wt_nil, wt_int, wt_long, wt_ref, wt_null, nl_int, nl_long, nl_ref, nl_null, nl_none, rf_n, rf_s, rf_st, tl_s, tl_n, g0, gS, ex1, nb_b, nb_0, nb_1, nf_i, nf_l, nf_ra, nf_ro, nf_na, nf_no, nf_b0, nf_z0, t45_4, t45_5, true_and, and_true, List.set_cons_zero, List.set_cons_succ, List.length_cons, List.length_nil, rd_s, upw_s, ne_eq, not_false_eq_true, Nat.zero_add, Nat.add_zero]
    | split
    | with_reducible intro _
    | omega
set_option maxHeartbeats 4000000 in
theorem fX1_isThere {s : AS} {a0 : Int32} (hC : CS g w0 x nA cA lA kn s w) (hX : ¬ okC a0 → (Q (.inr "java/lang/IndexOutOfBoundsException") w)) (hF : okC a0 → s.2.1 a0.toNatClampNeg = none → Q (.inl (some (.int 0))) w) (hT : okC a0 → ∀ r, s.2.1 a0.toNatClampNeg = some r → Q (.inl (some (.int 1))) w) : WP (MX1_isThere g) Q (0, [some (.ref x), some (.int a0)], [], w, 0, 0) := by
  obtain ⟨gc, gl, ⟨hx, hn, hc, hl, hgc, hgl, hn0, hn1, rx, rn, rc, rl, ⟨d1, d2, d3, d4, d5, d6⟩, ⟨d7, d8, d9, d10, d11, d12⟩⟩, hcd, hpl⟩ := hC.1.opn g
  repeat' first
    | with_reducible assumption
    | with_reducible refine And.intro ?_ ?_
    | with_reducible exact vpi6 (by assumption) (by assumption)
    | with_reducible exact vpi8 (by assumption) (by assumption)
    | with_reducible exact trivial
    | with_reducible exact hX (by assumption)
    | with_reducible refine fX1_needCard (a0 := a0) (fun _ => ?_) (fun k0 => ?_)
    | with_reducible exact vpi6 k0.1 k0.2
    | with_reducible exact hF k0 (cdN hcd k0 (by assumption))
    | with_reducible exact (cdS hcd k0 (by assumption)).elim (fun r h => hT k0 r h.1)
    | simp only [eX1_isThere_0, eX1_isThere_1, eX1_isThere_4, eX1_isThere_4N, eX1_isThere_5, eX1_isThere_8, eX1_isThere_9, eX1_isThere_10R, eX1_isThere_10N, eX1_isThere_13, eX1_isThere_14, eX1_isThere_17, eX1_isThere_18, lgp, lgn, lgz, i10, i00, if_true, if_false, eq_self, not_true, not_false_eq_true, rx, rn, rc, rl, hx, hn, hc, hl, d1, d2, d3, d4, d5, d6, d7, d8, d9, d10, d11, d12, rd_n, upw_n, ite_le, n45, n54, true_or, or_true, false_or, or_false, false_and, and_false, kx_l, kx_r, go_s, gl_s, gi_s, gb_s2, gb_s3, gq_s, wt_nil, wt_int, wt_long, wt_ref, wt_null, nl_int, nl_long, nl_ref, nl_null, nl_none, rf_n, rf_s, rf_st, tl_s, tl_n, g0, gS, ex1, nb_b, nb_0, nb_1, nf_i, nf_l, nf_ra, nf_ro, nf_na, nf_no, nf_b0, nf_z0, t45_4, t45_5, true_and, and_true, List.set_cons_zero, List.set_cons_succ, List.length_cons, List.length_nil, rd_s, upw_s, ne_eq, not_false_eq_true, Nat.zero_add, Nat.add_zero]
    | split
    | with_reducible intro _
    | omega
set_option maxHeartbeats 4000000 in
theorem fX1_isFixed {s : AS} {a0 : Int32} (hC : CS g w0 x nA cA lA kn s w) (hX : ¬ okC a0 → (Q (.inr "java/lang/IndexOutOfBoundsException") w)) (hS : okC a0 → s.2.1 a0.toNatClampNeg = none → (Q (.inr "java/lang/IllegalStateException") w)) (hT : okC a0 → ∀ r, s.2.1 a0.toNatClampNeg = some r → fP r → Q (.inl (some (.int 1))) w) (hF : okC a0 → ∀ r, s.2.1 a0.toNatClampNeg = some r → ¬ (fP r) → Q (.inl (some (.int 0))) w) : WP (MX1_isFixed g) Q (0, [some (.ref x), some (.int a0)], [], w, 0, 0) := by
  obtain ⟨gc, gl, ⟨hx, hn, hc, hl, hgc, hgl, hn0, hn1, rx, rn, rc, rl, ⟨d1, d2, d3, d4, d5, d6⟩, ⟨d7, d8, d9, d10, d11, d12⟩⟩, hcd, hpl⟩ := hC.1.opn g
  repeat' first
    | with_reducible assumption
    | with_reducible refine And.intro ?_ ?_
    | with_reducible exact vpi6 (by assumption) (by assumption)
    | with_reducible exact vpi8 (by assumption) (by assumption)
    | with_reducible exact trivial
    | with_reducible exact hX (by assumption)
    | with_reducible refine fX1_rangeOf (a0 := a0) hC (fun _ => ?_) (fun k0 e1 => ?_) (fun k0 p r e1 hp => ?_)
    | with_reducible refine go_F hp ?_
    | with_reducible exact go_F hp trivial
    | with_reducible exact hS k0 e1
    | with_reducible refine fX0_isSettled hp (fun hm => ?_) (fun hm => ?_)
    | with_reducible exact hT k0 r e1 hm
    | with_reducible exact hF k0 r e1 hm
    | simp only [eX1_isFixed_0, eX1_isFixed_0N, eX1_isFixed_1, eX1_isFixed_2, eX1_isFixed_5, eX1_isFixed_8, lgp, lgn, lgz, i10, i00, if_true, if_false, eq_self, not_true, not_false_eq_true, rx, rn, rc, rl, hx, hn, hc, hl, d1, d2, d3, d4, d5, d6, d7, d8, d9, d10, d11, d12, rd_n, upw_n, ite_le, n45, n54, true_or, or_true, false_or, or_false, false_and, and_false, kx_l, kx_r, go_s, gl_s, gi_s, gb_s2, gb_s3, gq_s, wt_nil, wt_int, wt_long, wt_ref, wt_null, nl_int, nl_long, nl_ref, nl_null, nl_none, rf_n, rf_s, rf_st, tl_s, tl_n, g0, gS, ex1, nb_b, nb_0, nb_1, nf_i, nf_l, nf_ra, nf_ro, nf_na, nf_no, nf_b0, nf_z0, t45_4, t45_5, true_and, and_true, List.set_cons_zero, List.set_cons_succ, List.length_cons, List.length_nil, rd_s, upw_s, ne_eq, not_false_eq_true, Nat.zero_add, Nat.add_zero]
    | split
    | with_reducible intro _
    | omega
set_option maxHeartbeats 4000000 in
theorem fX1_isSmall {s : AS} {a0 : Int32} (hC : CS g w0 x nA cA lA kn s w) (hX : ¬ okC a0 → (Q (.inr "java/lang/IndexOutOfBoundsException") w)) (hS : okC a0 → s.2.1 a0.toNatClampNeg = none → (Q (.inr "java/lang/IllegalStateException") w)) (hT : okC a0 → ∀ r, s.2.1 a0.toNatClampNeg = some r → sP r → Q (.inl (some (.int 1))) w) (hF : okC a0 → ∀ r, s.2.1 a0.toNatClampNeg = some r → ¬ (sP r) → Q (.inl (some (.int 0))) w) : WP (MX1_isSmall g) Q (0, [some (.ref x), some (.int a0)], [], w, 0, 0) := by
  obtain ⟨gc, gl, ⟨hx, hn, hc, hl, hgc, hgl, hn0, hn1, rx, rn, rc, rl, ⟨d1, d2, d3, d4, d5, d6⟩, ⟨d7, d8, d9, d10, d11, d12⟩⟩, hcd, hpl⟩ := hC.1.opn g
  repeat' first
    | with_reducible assumption
    | with_reducible refine And.intro ?_ ?_
    | with_reducible exact vpi6 (by assumption) (by assumption)
    | with_reducible exact vpi8 (by assumption) (by assumption)
    | with_reducible exact trivial
    | with_reducible exact hX (by assumption)
    | with_reducible refine fX1_rangeOf (a0 := a0) hC (fun _ => ?_) (fun k0 e1 => ?_) (fun k0 p r e1 hp => ?_)
    | with_reducible refine go_F hp ?_
    | with_reducible exact go_F hp trivial
    | with_reducible exact hS k0 e1
    | with_reducible refine fX0_fitsSmall hp (fun hm => ?_) (fun hm => ?_)
    | with_reducible exact hT k0 r e1 hm
    | with_reducible exact hF k0 r e1 hm
    | simp only [eX1_isSmall_0, eX1_isSmall_0N, eX1_isSmall_1, eX1_isSmall_2, eX1_isSmall_5, eX1_isSmall_8, lgp, lgn, lgz, i10, i00, if_true, if_false, eq_self, not_true, not_false_eq_true, rx, rn, rc, rl, hx, hn, hc, hl, d1, d2, d3, d4, d5, d6, d7, d8, d9, d10, d11, d12, rd_n, upw_n, ite_le, n45, n54, true_or, or_true, false_or, or_false, false_and, and_false, kx_l, kx_r, go_s, gl_s, gi_s, gb_s2, gb_s3, gq_s, wt_nil, wt_int, wt_long, wt_ref, wt_null, nl_int, nl_long, nl_ref, nl_null, nl_none, rf_n, rf_s, rf_st, tl_s, tl_n, g0, gS, ex1, nb_b, nb_0, nb_1, nf_i, nf_l, nf_ra, nf_ro, nf_na, nf_no, nf_b0, nf_z0, t45_4, t45_5, true_and, and_true, List.set_cons_zero, List.set_cons_succ, List.length_cons, List.length_nil, rd_s, upw_s, ne_eq, not_false_eq_true, Nat.zero_add, Nat.add_zero]
    | split
    | with_reducible intro _
    | omega
set_option maxHeartbeats 4000000 in
theorem fX1_isValid {s : AS} {a0 a1 : Int32} (hC : CS g w0 x nA cA lA kn s w) (hX : ¬ (okC a0 ∧ okN a1) → (Q (.inr "java/lang/IndexOutOfBoundsException") w)) (hS : okC a0 → okN a1 → s.2.1 a0.toNatClampNeg = none → (Q (.inr "java/lang/IllegalStateException") w)) (hT : okC a0 → okN a1 → ∀ r, s.2.1 a0.toNatClampNeg = some r → hP r (s.1 a1.toNatClampNeg) → Q (.inl (some (.int 1))) w) (hF : okC a0 → okN a1 → ∀ r, s.2.1 a0.toNatClampNeg = some r → ¬ (hP r (s.1 a1.toNatClampNeg)) → Q (.inl (some (.int 0))) w) : WP (MX1_isValid g) Q (0, [some (.ref x), some (.int a0), some (.int a1)], [], w, 0, 0) := by
  obtain ⟨gc, gl, ⟨hx, hn, hc, hl, hgc, hgl, hn0, hn1, rx, rn, rc, rl, ⟨d1, d2, d3, d4, d5, d6⟩, ⟨d7, d8, d9, d10, d11, d12⟩⟩, hcd, hpl⟩ := hC.1.opn g
  repeat' first
    | with_reducible assumption
    | with_reducible refine And.intro ?_ ?_
    | with_reducible exact vpi6 (by assumption) (by assumption)
    | with_reducible exact vpi8 (by assumption) (by assumption)
    | with_reducible exact trivial
    | with_reducible exact hX (fun h => absurd h.1 (by assumption))
    | with_reducible exact hX (fun h => absurd h.2 (by assumption))
    | with_reducible refine fX1_needCard (a0 := a0) (fun _ => ?_) (fun k0 => ?_)
    | with_reducible exact vpi6 k0.1 k0.2
    | with_reducible refine fX1_needNumber (a0 := a1) (fun _ => ?_) (fun k1 => ?_)
    | with_reducible exact vpi8 k1.1 k1.2
    | with_reducible refine fX1_rangeOf (a0 := a0) hC (fun _ => ?_) (fun _ e1 => ?_) (fun _ p r e1 hp => ?_)
    | with_reducible refine go_F hp ?_
    | with_reducible exact go_F hp trivial
    | with_reducible exact hS k0 k1 e1
    | with_reducible refine fX0_holds hp (fun hm => ?_) (fun hm => ?_)
    | with_reducible exact hT k0 k1 r e1 hm
    | with_reducible exact hF k0 k1 r e1 hm
    | simp only [eX1_isValid_0, eX1_isValid_1, eX1_isValid_4, eX1_isValid_5, eX1_isValid_8, eX1_isValid_8N, eX1_isValid_9, eX1_isValid_10, eX1_isValid_13, eX1_isValid_13N, eX1_isValid_14, eX1_isValid_17, eX1_isValid_18, eX1_isValid_19, eX1_isValid_22, lgp, lgn, lgz, i10, i00, if_true, if_false, eq_self, not_true, not_false_eq_true, rx, rn, rc, rl, hx, hn, hc, hl, d1, d2, d3, d4, d5, d6, d7, d8, d9, d10, d11, d12, rd_n, upw_n, ite_le, n45, n54, true_or, or_true, false_or, or_false, false_and, and_false, kx_l, kx_r, go_s, gl_s, gi_s, gb_s2, gb_s3, gq_s, wt_nil, wt_int, wt_long, wt_ref, wt_null, nl_int, nl_long, nl_ref, nl_null, nl_none, rf_n, rf_s, rf_st, tl_s, tl_n, g0, gS, ex1, nb_b, nb_0, nb_1, nf_i, nf_l, nf_ra, nf_ro, nf_na, nf_no, nf_b0, nf_z0, t45_4, t45_5, true_and, and_true, List.set_cons_zero, List.set_cons_succ, List.length_cons, List.length_nil, rd_s, upw_s, ne_eq, not_false_eq_true, Nat.zero_add, Nat.add_zero]
    | split
    | with_reducible intro _
    | omega
set_option maxHeartbeats 4000000 in
theorem fX1_isValidSmall {s : AS} {a0 a1 : Int32} (hC : CS g w0 x nA cA lA kn s w) (hX : ¬ (okC a0 ∧ okN a1) → (Q (.inr "java/lang/IndexOutOfBoundsException") w)) (hS : okC a0 → okN a1 → s.2.1 a0.toNatClampNeg = none → (Q (.inr "java/lang/IllegalStateException") w)) (hT : okC a0 → okN a1 → ∀ r, s.2.1 a0.toNatClampNeg = some r → (sP r ∧ hP r (s.1 a1.toNatClampNeg)) → Q (.inl (some (.int 1))) w) (hF : okC a0 → okN a1 → ∀ r, s.2.1 a0.toNatClampNeg = some r → ¬ ((sP r ∧ hP r (s.1 a1.toNatClampNeg))) → Q (.inl (some (.int 0))) w) : WP (MX1_isValidSmall g) Q (0, [some (.ref x), some (.int a0), some (.int a1)], [], w, 0, 0) := by
  obtain ⟨gc, gl, ⟨hx, hn, hc, hl, hgc, hgl, hn0, hn1, rx, rn, rc, rl, ⟨d1, d2, d3, d4, d5, d6⟩, ⟨d7, d8, d9, d10, d11, d12⟩⟩, hcd, hpl⟩ := hC.1.opn g
  repeat' first
    | with_reducible assumption
    | with_reducible refine And.intro ?_ ?_
    | with_reducible exact vpi6 (by assumption) (by assumption)
    | with_reducible exact vpi8 (by assumption) (by assumption)
    | with_reducible exact trivial
    | with_reducible exact hX (fun h => absurd h.1 (by assumption))
    | with_reducible exact hX (fun h => absurd h.2 (by assumption))
    | with_reducible refine fX1_needCard (a0 := a0) (fun _ => ?_) (fun k0 => ?_)
    | with_reducible exact vpi6 k0.1 k0.2
    | with_reducible refine fX1_needNumber (a0 := a1) (fun _ => ?_) (fun k1 => ?_)
    | with_reducible exact vpi8 k1.1 k1.2
    | with_reducible refine fX1_rangeOf (a0 := a0) hC (fun _ => ?_) (fun _ e1 => ?_) (fun _ p r e1 hp => ?_)
    | with_reducible refine go_F hp ?_
    | with_reducible exact go_F hp trivial
    | with_reducible exact hS k0 k1 e1
    | with_reducible refine fX0_holdsAsSmall hp (fun hm => ?_) (fun hm => ?_)
    | with_reducible exact hT k0 k1 r e1 hm
    | with_reducible exact hF k0 k1 r e1 hm
    | simp only [eX1_isValidSmall_0, eX1_isValidSmall_1, eX1_isValidSmall_4, eX1_isValidSmall_5, eX1_isValidSmall_8, eX1_isValidSmall_8N, eX1_isValidSmall_9, eX1_isValidSmall_10, eX1_isValidSmall_13, eX1_isValidSmall_13N, eX1_isValidSmall_14, eX1_isValidSmall_17, eX1_isValidSmall_18, eX1_isValidSmall_19, eX1_isValidSmall_22, lgp, lgn, lgz, i10, i00, if_true, if_false, eq_self, not_true, not_false_eq_true, rx, rn, rc, rl, hx, hn, hc, hl, d1, d2, d3, d4, d5, d6, d7, d8, d9, d10, d11, d12, rd_n, upw_n, ite_le, n45, n54, true_or, or_true, false_or, or_false, false_and, and_false, kx_l, kx_r, go_s, gl_s, gi_s, gb_s2, gb_s3, gq_s, wt_nil, wt_int, wt_long, wt_ref, wt_null, nl_int, nl_long, nl_ref, nl_null, nl_none, rf_n, rf_s, rf_st, tl_s, tl_n, g0, gS, ex1, nb_b, nb_0, nb_1, nf_i, nf_l, nf_ra, nf_ro, nf_na, nf_no, nf_b0, nf_z0, t45_4, t45_5, true_and, and_true, List.set_cons_zero, List.set_cons_succ, List.length_cons, List.length_nil, rd_s, upw_s, ne_eq, not_false_eq_true, Nat.zero_add, Nat.add_zero]
    | split
    | with_reducible intro _
    | omega
def wV (r : R4) (v : Int64) : Int32 := bI (decide (hP r v)) + bI (decide (sP r ∧ hP r v))
def nV (r : R4) (v : Int64) (a : Int32) : Int32 := bI (decide ((a = 0 ∨ sP r) ∧ hP r (v - 1))) + 2 * bI (decide ((a = 0 ∨ sP r) ∧ hP r v)) + 4 * bI (decide ((a = 0 ∨ sP r) ∧ hP r (v + 1)))
set_option maxHeartbeats 4000000 in
theorem fX1_validityIn {p : Nat} {r : R4} {a0 : Int64} (hp : rAt w p r) (hQ : Q (.inl (some (.int (wV r a0)))) w) : WP (MX1_validityIn g) Q (0, [some (.ref p), some (.long a0), none], [], w, 0, 0) := by
  repeat' first
    | with_reducible assumption
    | with_reducible refine And.intro ?_ ?_
    | with_reducible exact vpi6 (by assumption) (by assumption)
    | with_reducible exact vpi8 (by assumption) (by assumption)
    | with_reducible exact trivial
    | with_reducible exact go_F (by assumption) trivial
    | with_reducible refine vX0_holds hp ?_
    | with_reducible refine vX0_holdsAsSmall hp ?_
    | with_reducible refine fX1_asNumber (bI01 _) ?_
    | ((with_reducible refine isQ (Q := Q) ?_); exact hQ)
    | simp only [eX1_validityIn_0, eX1_validityIn_0N, eX1_validityIn_1, eX1_validityIn_2, eX1_validityIn_5, eX1_validityIn_8, eX1_validityIn_8N, eX1_validityIn_9, eX1_validityIn_10, eX1_validityIn_13, eX1_validityIn_16, eX1_validityIn_17, lgp, lgn, lgz, i10, i00, if_true, if_false, eq_self, not_true, not_false_eq_true, ite_le, n45, n54, true_or, or_true, false_or, or_false, false_and, and_false, kx_l, kx_r, go_s, gl_s, gi_s, gb_s2, gb_s3, gq_s, wt_nil, wt_int, wt_long, wt_ref, wt_null, nl_int, nl_long, nl_ref, nl_null, nl_none, rf_n, rf_s, rf_st, tl_s, tl_n, g0, gS, ex1, nb_b, nb_0, nb_1, nf_i, nf_l, nf_ra, nf_ro, nf_na, nf_no, nf_b0, nf_z0, t45_4, t45_5, true_and, and_true, List.set_cons_zero, List.set_cons_succ, List.length_cons, List.length_nil, rd_s, upw_s, ne_eq, not_false_eq_true, Nat.zero_add, Nat.add_zero]
    | split
    | with_reducible intro _
    | omega
set_option maxHeartbeats 4000000 in
theorem fX1_neighboursIn {p : Nat} {r : R4} {a0 : Int64} {a1 : Int32} (hp : rAt w p r) (hQ : Q (.inl (some (.int (nV r a0 a1)))) w) : WP (MX1_neighboursIn g) Q (0, [some (.ref p), some (.long a0), none, some (.int a1)], [], w, 0, 0) := by
  repeat' first
    | with_reducible assumption
    | with_reducible refine And.intro ?_ ?_
    | with_reducible exact vpi6 (by assumption) (by assumption)
    | with_reducible exact vpi8 (by assumption) (by assumption)
    | with_reducible exact trivial
    | with_reducible exact go_F (by assumption) trivial
    | with_reducible refine vX0_holdsAs hp ?_
    | with_reducible refine fX1_asNumber (bI01 _) ?_
    | ((with_reducible refine isQ (Q := Q) ?_); exact hQ)
    | simp only [eX1_neighboursIn_0, eX1_neighboursIn_0N, eX1_neighboursIn_1, eX1_neighboursIn_2, eX1_neighboursIn_3, eX1_neighboursIn_4, eX1_neighboursIn_5, eX1_neighboursIn_8, eX1_neighboursIn_11, eX1_neighboursIn_12, eX1_neighboursIn_12N, eX1_neighboursIn_13, eX1_neighboursIn_14, eX1_neighboursIn_15, eX1_neighboursIn_18, eX1_neighboursIn_21, eX1_neighboursIn_22, eX1_neighboursIn_23, eX1_neighboursIn_24, eX1_neighboursIn_24N, eX1_neighboursIn_25, eX1_neighboursIn_26, eX1_neighboursIn_27, eX1_neighboursIn_28, eX1_neighboursIn_29, eX1_neighboursIn_32, eX1_neighboursIn_35, eX1_neighboursIn_36, eX1_neighboursIn_37, lgp, lgn, lgz, i10, i00, if_true, if_false, eq_self, not_true, not_false_eq_true, ite_le, n45, n54, true_or, or_true, false_or, or_false, false_and, and_false, kx_l, kx_r, go_s, gl_s, gi_s, gb_s2, gb_s3, gq_s, wt_nil, wt_int, wt_long, wt_ref, wt_null, nl_int, nl_long, nl_ref, nl_null, nl_none, rf_n, rf_s, rf_st, tl_s, tl_n, g0, gS, ex1, nb_b, nb_0, nb_1, nf_i, nf_l, nf_ra, nf_ro, nf_na, nf_no, nf_b0, nf_z0, t45_4, t45_5, true_and, and_true, List.set_cons_zero, List.set_cons_succ, List.length_cons, List.length_nil, rd_s, upw_s, ne_eq, not_false_eq_true, Nat.zero_add, Nat.add_zero]
    | split
    | with_reducible intro _
    | omega
set_option maxHeartbeats 4000000 in
theorem fX1_whichValid {s : AS} {a0 a1 : Int32} (hC : CS g w0 x nA cA lA kn s w) (hX : ¬ okC a0 → (Q (.inr "java/lang/IndexOutOfBoundsException") w)) (hS : okC a0 → s.2.1 a0.toNatClampNeg = none → (Q (.inr "java/lang/IllegalStateException") w)) (hQ : okC a0 → ∀ r, s.2.1 a0.toNatClampNeg = some r → Q (.inl (some (.int (wV r a1.toInt64)))) w) : WP (MX1_whichValid g) Q (0, [some (.ref x), some (.int a0), some (.int a1)], [], w, 0, 0) := by
  obtain ⟨gc, gl, ⟨hx, hn, hc, hl, hgc, hgl, hn0, hn1, rx, rn, rc, rl, ⟨d1, d2, d3, d4, d5, d6⟩, ⟨d7, d8, d9, d10, d11, d12⟩⟩, hcd, hpl⟩ := hC.1.opn g
  repeat' first
    | with_reducible assumption
    | with_reducible refine And.intro ?_ ?_
    | with_reducible exact vpi6 (by assumption) (by assumption)
    | with_reducible exact vpi8 (by assumption) (by assumption)
    | with_reducible exact trivial
    | with_reducible exact hX (by assumption)
    | with_reducible refine fX1_rangeOf (a0 := a0) hC (fun _ => ?_) (fun k0 e1 => ?_) (fun k0 p r e1 hp => ?_)
    | with_reducible refine go_F hp ?_
    | with_reducible exact go_F hp trivial
    | with_reducible exact hS k0 e1
    | with_reducible refine fX1_validityIn hp ?_
    | with_reducible exact hQ k0 r e1
    | simp only [eX1_whichValid_0, eX1_whichValid_0N, eX1_whichValid_1, eX1_whichValid_2, eX1_whichValid_5, eX1_whichValid_6, eX1_whichValid_7R, eX1_whichValid_7N, eX1_whichValid_10, lgp, lgn, lgz, i10, i00, if_true, if_false, eq_self, not_true, not_false_eq_true, rx, rn, rc, rl, hx, hn, hc, hl, d1, d2, d3, d4, d5, d6, d7, d8, d9, d10, d11, d12, rd_n, upw_n, ite_le, n45, n54, true_or, or_true, false_or, or_false, false_and, and_false, kx_l, kx_r, go_s, gl_s, gi_s, gb_s2, gb_s3, gq_s, wt_nil, wt_int, wt_long, wt_ref, wt_null, nl_int, nl_long, nl_ref, nl_null, nl_none, rf_n, rf_s, rf_st, tl_s, tl_n, g0, gS, ex1, nb_b, nb_0, nb_1, nf_i, nf_l, nf_ra, nf_ro, nf_na, nf_no, nf_b0, nf_z0, t45_4, t45_5, true_and, and_true, List.set_cons_zero, List.set_cons_succ, List.length_cons, List.length_nil, rd_s, upw_s, ne_eq, not_false_eq_true, Nat.zero_add, Nat.add_zero]
    | split
    | with_reducible intro _
    | omega
set_option maxHeartbeats 4000000 in
theorem fX1_around {s : AS} {a0 a1 a2 : Int32} (hC : CS g w0 x nA cA lA kn s w) (hX : ¬ okC a0 → (Q (.inr "java/lang/IndexOutOfBoundsException") w)) (hW : okC a0 → ¬ okW a1 3 → (Q (.inr "java/lang/IllegalArgumentException") w)) (hS : okC a0 → okW a1 3 → s.2.1 a0.toNatClampNeg = none → (Q (.inr "java/lang/IllegalStateException") w)) (hQ : okC a0 → okW a1 3 → ∀ r, s.2.1 a0.toNatClampNeg = some r → Q (.inl (some (.int (nV r (eV r a1) a2)))) w) : WP (MX1_around g) Q (0, [some (.ref x), some (.int a0), some (.int a1), some (.int a2), none], [], w, 0, 0) := by
  obtain ⟨gc, gl, ⟨hx, hn, hc, hl, hgc, hgl, hn0, hn1, rx, rn, rc, rl, ⟨d1, d2, d3, d4, d5, d6⟩, ⟨d7, d8, d9, d10, d11, d12⟩⟩, hcd, hpl⟩ := hC.1.opn g
  repeat' first
    | with_reducible assumption
    | with_reducible refine And.intro ?_ ?_
    | with_reducible exact vpi6 (by assumption) (by assumption)
    | with_reducible exact vpi8 (by assumption) (by assumption)
    | with_reducible exact trivial
    | with_reducible exact hX (by assumption)
    | with_reducible refine fX1_needCard (a0 := a0) (fun _ => ?_) (fun k0 => ?_)
    | with_reducible exact vpi6 k0.1 k0.2
    | with_reducible refine fX1_needChoice (fun hnw => ?_) (fun hw => ?_)
    | with_reducible exact hW k0 hnw
    | with_reducible refine fX1_rangeOf (a0 := a0) hC (fun _ => ?_) (fun _ e1 => ?_) (fun _ p r e1 hp => ?_)
    | with_reducible refine go_F hp ?_
    | with_reducible exact go_F hp trivial
    | with_reducible exact hS k0 hw e1
    | with_reducible refine fX0_endAt hp ?_
    | with_reducible refine fX1_neighboursIn hp ?_
    | with_reducible exact hQ k0 hw r e1
    | simp only [eX1_around_0, eX1_around_1, eX1_around_4, eX1_around_5, eX1_around_6, eX1_around_9, eX1_around_9N, eX1_around_10, eX1_around_11, eX1_around_14, eX1_around_14N, eX1_around_16, eX1_around_16N, eX1_around_18, eX1_around_18N, eX1_around_20, eX1_around_21, eX1_around_24, eX1_around_25R, eX1_around_25N, eX1_around_28, lgp, lgn, lgz, i10, i00, if_true, if_false, eq_self, not_true, not_false_eq_true, rx, rn, rc, rl, hx, hn, hc, hl, d1, d2, d3, d4, d5, d6, d7, d8, d9, d10, d11, d12, rd_n, upw_n, ite_le, n45, n54, true_or, or_true, false_or, or_false, false_and, and_false, kx_l, kx_r, go_s, gl_s, gi_s, gb_s2, gb_s3, gq_s, wt_nil, wt_int, wt_long, wt_ref, wt_null, nl_int, nl_long, nl_ref, nl_null, nl_none, rf_n, rf_s, rf_st, tl_s, tl_n, g0, gS, ex1, nb_b, nb_0, nb_1, nf_i, nf_l, nf_ra, nf_ro, nf_na, nf_no, nf_b0, nf_z0, t45_4, t45_5, true_and, and_true, List.set_cons_zero, List.set_cons_succ, List.length_cons, List.length_nil, rd_s, upw_s, ne_eq, not_false_eq_true, Nat.zero_add, Nat.add_zero]
    | split
    | with_reducible intro _
    | omega
set_option maxHeartbeats 4000000 in
theorem fX1_areSame {s : AS} {a0 a1 : Int32} (hC : CS g w0 x nA cA lA kn s w) (hX : ¬ (okC a0 ∧ okC a1) → (Q (.inr "java/lang/IndexOutOfBoundsException") w)) (hS : okC a0 → okC a1 → (s.2.1 a0.toNatClampNeg = none ∨ s.2.1 a1.toNatClampNeg = none) → (Q (.inr "java/lang/IllegalStateException") w)) (hT : okC a0 → okC a1 → ∀ r q, s.2.1 a0.toNatClampNeg = some r → s.2.1 a1.toNatClampNeg = some q → mP r q → Q (.inl (some (.int 1))) w) (hF : okC a0 → okC a1 → ∀ r q, s.2.1 a0.toNatClampNeg = some r → s.2.1 a1.toNatClampNeg = some q → ¬ mP r q → Q (.inl (some (.int 0))) w) : WP (MX1_areSame g) Q (0, [some (.ref x), some (.int a0), some (.int a1)], [], w, 0, 0) := by
  obtain ⟨gc, gl, ⟨hx, hn, hc, hl, hgc, hgl, hn0, hn1, rx, rn, rc, rl, ⟨d1, d2, d3, d4, d5, d6⟩, ⟨d7, d8, d9, d10, d11, d12⟩⟩, hcd, hpl⟩ := hC.1.opn g
  repeat' first
    | with_reducible assumption
    | with_reducible refine And.intro ?_ ?_
    | with_reducible exact vpi6 (by assumption) (by assumption)
    | with_reducible exact vpi8 (by assumption) (by assumption)
    | with_reducible exact trivial
    | with_reducible exact hX (fun h => absurd h.1 (by assumption))
    | with_reducible exact hX (fun h => absurd h.2 (by assumption))
    | with_reducible refine fX1_needCard (a0 := a0) (fun _ => ?_) (fun k0 => ?_)
    | with_reducible exact vpi6 k0.1 k0.2
    | with_reducible refine fX1_needCard (a0 := a1) (fun _ => ?_) (fun k1 => ?_)
    | with_reducible exact vpi6 k1.1 k1.2
    | with_reducible refine fX1_rangeOf (a0 := a0) hC (fun _ => ?_) (fun _ e1 => ?_) (fun _ p r e1 hp => ?_)
    | with_reducible refine go_F hp ?_
    | with_reducible exact go_F hp trivial
    | with_reducible refine fX1_rangeOf (a0 := a1) hC (fun _ => ?_) (fun _ e2 => ?_) (fun _ p2 r2 e2 hp2 => ?_)
    | with_reducible refine go_F hp2 ?_
    | with_reducible exact go_F hp2 trivial
    | with_reducible exact hS k0 k1 (Or.inl e1)
    | with_reducible exact hS k0 k1 (Or.inr e2)
    | with_reducible refine fX0_matchesR hp hp2 (fun hm => ?_) (fun hm => ?_)
    | with_reducible exact hT k0 k1 r r2 e1 e2 hm
    | with_reducible exact hF k0 k1 r r2 e1 e2 hm
    | simp only [eX1_areSame_0, eX1_areSame_1, eX1_areSame_4, eX1_areSame_5, eX1_areSame_8, eX1_areSame_8N, eX1_areSame_9, eX1_areSame_10, eX1_areSame_13, eX1_areSame_13N, eX1_areSame_14, eX1_areSame_15, eX1_areSame_18R, eX1_areSame_18N, eX1_areSame_21, lgp, lgn, lgz, i10, i00, if_true, if_false, eq_self, not_true, not_false_eq_true, rx, rn, rc, rl, hx, hn, hc, hl, d1, d2, d3, d4, d5, d6, d7, d8, d9, d10, d11, d12, rd_n, upw_n, ite_le, n45, n54, true_or, or_true, false_or, or_false, false_and, and_false, kx_l, kx_r, go_s, gl_s, gi_s, gb_s2, gb_s3, gq_s, wt_nil, wt_int, wt_long, wt_ref, wt_null, nl_int, nl_long, nl_ref, nl_null, nl_none, rf_n, rf_s, rf_st, tl_s, tl_n, g0, gS, ex1, nb_b, nb_0, nb_1, nf_i, nf_l, nf_ra, nf_ro, nf_na, nf_no, nf_b0, nf_z0, t45_4, t45_5, true_and, and_true, List.set_cons_zero, List.set_cons_succ, List.length_cons, List.length_nil, rd_s, upw_s, ne_eq, not_false_eq_true, Nat.zero_add, Nat.add_zero]
    | split
    | with_reducible intro _
    | omega
end
end
/-! 71.fn8.lean.txt -/
section
section
variable {g : RO} {Q : Ot → Hw → Prop} {w0 w : Hw} {x nA cA lA : Nat} {kn : Int32}
/-! FUNCTIONAL SPECS, 8: the pile -/
theorem sal {b : Nat} {P : Nat → Prop} : (∀ c, some b = some c → P c) = P b := propext ⟨fun h => h b rfl, fun h c e => by cases e; exact h⟩
theorem snn {b : Nat} {P : Prop} : ((some b : Option Nat) = none → P) = True := eq_true (fun e => by cases e)
theorem inv_s {P : Nat → Prop} {j : Nat} (h : ∀ i, i < j → P i) (hj : P j) : ∀ i, i < j + 1 → P i := fun i hi => by
  rcases Nat.lt_succ_iff_lt_or_eq.mp hi with k | rfl
  · exact h i k
  · exact hj
theorem cnt12 {n : Int32} (h0 : ¬ n < 0) (h1 : ¬ 12 < n) : n.toInt = ((n.toInt.toNat : Nat) : Int) ∧ n.toInt.toNat ≤ 12 := by
  have k0 := i32_0 h0
  have k1 := i32_nlt h1
  have z : (12 : Int32).toInt = 12 := rfl
  omega
theorem vpj {j : Nat} (h : j < 12) : vp_in (Int32.ofNat j) 12 := by
  rintro (k | k)
  · exact oN0 (by omega) k
  · rw [oNc (by omega)] at k
    omega
set_option maxHeartbeats 4000000 in
theorem flX1_firstPlaceOf_2 {s : AS} {p : Nat} {r : R4} (hC : CS g w0 x nA cA lA kn s w) (hp : rAt w p r) (hN : (∀ i, i < s.2.2.1.toInt.toNat → ¬ mP r (s.2.2.2.1 i)) → Q (.inl (some (.int (-1)))) w) (hS : ∀ i, i < s.2.2.1.toInt.toNat → mP r (s.2.2.2.1 i) → (∀ k, k < i → ¬ mP r (s.2.2.2.1 k)) → Q (.inl (some (.int (Int32.ofNat i)))) w) : ∀ (d j : Nat) (k m : Nat), j + d = s.2.2.1.toInt.toNat → (∀ i, i < j → ¬ mP r (s.2.2.2.1 i)) → k ≤ 0 → m ≤ 0 → WP (MX1_firstPlaceOf g) Q (2, [some (.ref x), some (.ref p), some (.int (Int32.ofNat j))], [], w, k, m) := by
  obtain ⟨gc, gl, ⟨hx, hn, hc, hl, hgc, hgl, hn0, hn1, rx, rn, rc, rl, ⟨d1, d2, d3, d4, d5, d6⟩, ⟨d7, d8, d9, d10, d11, d12⟩⟩, hcd, hpl⟩ := hC.1.opn g
  obtain ⟨he, h12⟩ := cnt12 hn0 hn1
  intro d
  induction d with
  | zero =>
    intro j k m hjd hinv hk hm
    have h9 : j < 1000 := by omega
    have hlt : ¬ Int32.ofNat j < s.2.2.1 := oNg h9 he (by omega)
    obtain rfl : j = s.2.2.1.toInt.toNat := by omega
    rw [eX1_firstPlaceOf_2]
    repeat' first
      | with_reducible assumption
      | with_reducible refine And.intro ?_ ?_
      | with_reducible exact vpi6 (by assumption) (by assumption)
      | with_reducible exact vpi8 (by assumption) (by assumption)
      | with_reducible exact trivial
      | with_reducible exact hN hinv
      | simp only [eX1_firstPlaceOf_0, eX1_firstPlaceOf_1, eX1_firstPlaceOf_3, eX1_firstPlaceOf_3N, eX1_firstPlaceOf_4, eX1_firstPlaceOf_7, eX1_firstPlaceOf_10, eX1_firstPlaceOf_10N, eX1_firstPlaceOf_11, eX1_firstPlaceOf_11N, eX1_firstPlaceOf_12, eX1_firstPlaceOf_15, eX1_firstPlaceOf_16, eX1_firstPlaceOf_17R, eX1_firstPlaceOf_17N, eX1_firstPlaceOf_20, eX1_firstPlaceOf_23, eX1_firstPlaceOf_24, eX1_firstPlaceOf_25, eX1_firstPlaceOf_28, eX1_firstPlaceOf_31, eX1_firstPlaceOf_32, lgp, lgn, lgz, i10, i00, if_true, if_false, eq_self, not_true, not_false_eq_true, rx, rn, rc, rl, hx, hn, hc, hl, d1, d2, d3, d4, d5, d6, d7, d8, d9, d10, d11, d12, rd_n, upw_n, hlt, ite_le, n45, n54, true_or, or_true, false_or, or_false, false_and, and_false, kx_l, kx_r, go_s, gl_s, gi_s, gb_s2, gb_s3, gq_s, wt_nil, wt_int, wt_long, wt_ref, wt_null, nl_int, nl_long, nl_ref, nl_null, nl_none, rf_n, rf_s, rf_st, tl_s, tl_n, g0, gS, ex1, nb_b, nb_0, nb_1, nf_i, nf_l, nf_ra, nf_ro, nf_na, nf_no, nf_b0, nf_z0, t45_4, t45_5, true_and, and_true, List.set_cons_zero, List.set_cons_succ, List.length_cons, List.length_nil, rd_s, upw_s, ne_eq, not_false_eq_true, Nat.zero_add, Nat.add_zero]
      | split
      | with_reducible intro _
      | omega
  | succ d ih =>
    intro j k m hjd hinv hk hm
    have h9 : j < 1000 := by omega
    have hlt : Int32.ofNat j < s.2.2.1 := oNl h9 he (by omega)
    have hcl := oNc h9
    obtain ⟨b, hb, hrb⟩ := hpl j (by omega)
    rw [eX1_firstPlaceOf_2]
    repeat' first
      | with_reducible assumption
      | with_reducible refine And.intro ?_ ?_
      | with_reducible exact vpi6 (by assumption) (by assumption)
      | with_reducible exact vpi8 (by assumption) (by assumption)
      | with_reducible exact trivial
      | with_reducible exact vpj (by omega)
      | with_reducible exact go_F hp trivial
      | with_reducible refine fX0_matchesR hp hrb (fun hm => ?_) (fun hm => ?_)
      | with_reducible exact hS j (by omega) hm hinv
      | (rw [oN1]; exact ih (j + 1) _ _ (by omega) (inv_s hinv hm) (by first | assumption | omega) (by first | assumption | omega))
      | simp only [eX1_firstPlaceOf_0, eX1_firstPlaceOf_1, eX1_firstPlaceOf_3, eX1_firstPlaceOf_3N, eX1_firstPlaceOf_4, eX1_firstPlaceOf_7, eX1_firstPlaceOf_10, eX1_firstPlaceOf_10N, eX1_firstPlaceOf_11, eX1_firstPlaceOf_11N, eX1_firstPlaceOf_12, eX1_firstPlaceOf_15, eX1_firstPlaceOf_16, eX1_firstPlaceOf_17R, eX1_firstPlaceOf_17N, eX1_firstPlaceOf_20, eX1_firstPlaceOf_23, eX1_firstPlaceOf_24, eX1_firstPlaceOf_25, eX1_firstPlaceOf_28, eX1_firstPlaceOf_31, eX1_firstPlaceOf_32, lgp, lgn, lgz, i10, i00, if_true, if_false, eq_self, not_true, not_false_eq_true, rx, rn, rc, rl, hx, hn, hc, hl, d1, d2, d3, d4, d5, d6, d7, d8, d9, d10, d11, d12, rd_n, upw_n, hlt, hcl, hb, sal, snn, ite_le, n45, n54, true_or, or_true, false_or, or_false, false_and, and_false, kx_l, kx_r, go_s, gl_s, gi_s, gb_s2, gb_s3, gq_s, wt_nil, wt_int, wt_long, wt_ref, wt_null, nl_int, nl_long, nl_ref, nl_null, nl_none, rf_n, rf_s, rf_st, tl_s, tl_n, g0, gS, ex1, nb_b, nb_0, nb_1, nf_i, nf_l, nf_ra, nf_ro, nf_na, nf_no, nf_b0, nf_z0, t45_4, t45_5, true_and, and_true, List.set_cons_zero, List.set_cons_succ, List.length_cons, List.length_nil, rd_s, upw_s, ne_eq, not_false_eq_true, Nat.zero_add, Nat.add_zero]
      | split
      | with_reducible intro _
      | omega
set_option maxHeartbeats 4000000 in
theorem fX1_firstPlaceOf {s : AS} {p : Nat} {r : R4} (hC : CS g w0 x nA cA lA kn s w) (hp : rAt w p r) (hN : (∀ i, i < s.2.2.1.toInt.toNat → ¬ mP r (s.2.2.2.1 i)) → Q (.inl (some (.int (-1)))) w) (hS : ∀ i, i < s.2.2.1.toInt.toNat → mP r (s.2.2.2.1 i) → (∀ k, k < i → ¬ mP r (s.2.2.2.1 k)) → Q (.inl (some (.int (Int32.ofNat i)))) w) : WP (MX1_firstPlaceOf g) Q (0, [some (.ref x), some (.ref p), none], [], w, 0, 0) := by
  repeat' first
    | with_reducible assumption
    | with_reducible refine And.intro ?_ ?_
    | with_reducible exact vpi6 (by assumption) (by assumption)
    | with_reducible exact vpi8 (by assumption) (by assumption)
    | with_reducible exact trivial
    | ((with_reducible refine isWP (pc := 2) ?_); exact flX1_firstPlaceOf_2 hC hp hN hS _ 0 _ _ (Nat.zero_add _) (fun i h => absurd h (Nat.not_lt_zero i)) (by decide) (by decide))
    | simp only [eX1_firstPlaceOf_0, eX1_firstPlaceOf_1, eX1_firstPlaceOf_3, eX1_firstPlaceOf_3N, eX1_firstPlaceOf_4, eX1_firstPlaceOf_7, eX1_firstPlaceOf_10, eX1_firstPlaceOf_10N, eX1_firstPlaceOf_11, eX1_firstPlaceOf_11N, eX1_firstPlaceOf_12, eX1_firstPlaceOf_15, eX1_firstPlaceOf_16, eX1_firstPlaceOf_17R, eX1_firstPlaceOf_17N, eX1_firstPlaceOf_20, eX1_firstPlaceOf_23, eX1_firstPlaceOf_24, eX1_firstPlaceOf_25, eX1_firstPlaceOf_28, eX1_firstPlaceOf_31, eX1_firstPlaceOf_32, lgp, lgn, lgz, i10, i00, if_true, if_false, eq_self, not_true, not_false_eq_true, ite_le, n45, n54, true_or, or_true, false_or, or_false, false_and, and_false, kx_l, kx_r, go_s, gl_s, gi_s, gb_s2, gb_s3, gq_s, wt_nil, wt_int, wt_long, wt_ref, wt_null, nl_int, nl_long, nl_ref, nl_null, nl_none, rf_n, rf_s, rf_st, tl_s, tl_n, g0, gS, ex1, nb_b, nb_0, nb_1, nf_i, nf_l, nf_ra, nf_ro, nf_na, nf_no, nf_b0, nf_z0, t45_4, t45_5, true_and, and_true, List.set_cons_zero, List.set_cons_succ, List.length_cons, List.length_nil, rd_s, upw_s, ne_eq, not_false_eq_true, Nat.zero_add, Nat.add_zero]
    | split
    | with_reducible intro _
    | omega
theorem CS.lay {s : AS} {b : Nat} {r : R4} {gl : Nat → Option Nat} (h : CS g w0 x nA cA lA kn s w) (hl : w lA = some (.inl (4, 12, qc gl))) (hb : rAt w b r) (h11 : s.2.2.1 < 12) : CS g w0 x nA cA lA kn (sP_ s (s.2.2.1 + 1) (va_up s.2.2.2.1 s.2.2.1.toNatClampNeg r)) (upw (upw w lA (.inl (4, 12, qc (va_up gl s.2.2.1.toNatClampNeg (some b))))) x (.inr (5, [.ref nA, .ref cA, .ref lA, .int (s.2.2.1 + 1), .int s.2.2.2.2.1, .int kn, .int s.2.2.2.2.2]))) := by
  obtain ⟨gc, gl', ⟨h1, h2, h3, h4, h5, h6, h7, h8, -, -, -, -, ⟨d1, d2, d3, d4, d5, d6⟩, ⟨d7, d8, d9, d10, d11, d12⟩⟩, k1, k2⟩ := h.1.opn (fun _ => .null, fun _ => none)
  rw [hl] at h4
  cases h4
  have q0 := i32_0 h7
  have q1 := i32_lt h11
  have z : (12 : Int32).toInt = 12 := rfl
  have e1 : (s.2.2.1 + 1).toInt = s.2.2.1.toInt + 1 := i32p1 q0 (by omega)
  have hx' : upw w lA (.inl (4, 12, qc (va_up gl s.2.2.1.toNatClampNeg (some b)))) x = some (.inr (5, [.ref nA, .ref cA, .ref lA, .int s.2.2.1, .int s.2.2.2.2.1, .int kn, .int s.2.2.2.2.2])) := by rw [upw_n d3]; exact h1
  have R : ∀ c q, rAt w c q → rAt (upw (upw w lA (.inl (4, 12, qc (va_up gl s.2.2.1.toNatClampNeg (some b))))) x (.inr (5, [.ref nA, .ref cA, .ref lA, .int (s.2.2.1 + 1), .int s.2.2.2.2.1, .int kn, .int s.2.2.2.2.2]))) c q := fun c q hc => rAt_up2 (rAt_up2 hc hl (by simp)) hx' (by simp)
  have RR : ∀ c, isR w c → isR (upw (upw w lA (.inl (4, 12, qc (va_up gl s.2.2.1.toNatClampNeg (some b))))) x (.inr (5, [.ref nA, .ref cA, .ref lA, .int (s.2.2.1 + 1), .int s.2.2.2.2.1, .int kn, .int s.2.2.2.2.2]))) c := fun c hc => isR_up2 (isR_up2 hc hl (by simp)) hx' (by simp)
  refine ⟨⟨gc, va_up gl s.2.2.1.toNatClampNeg (some b), ⟨upw_s _ _ _, by rw [upw_n d4, upw_n d6]; exact h2, by rw [upw_n d7, upw_n d9]; exact h3, by rw [upw_n d10]; exact upw_s _ _ _, fun i c z => RR c (h5 i c z), fun i c z => RR c ?_, i32_of_nlt (by show (0 : Int) ≤ (s.2.2.1 + 1).toInt; omega), i32_of_nlt (by show (s.2.2.1 + 1).toInt ≤ (12 : Int); omega)⟩, fun i hi => (k1 i hi).mp R, fun i hi => ?_⟩, (h.2.up hl (Or.inr rfl)).up hx' (Or.inr rfl)⟩
  · exact up_ok h6 (fun c e => by cases e; exact hb.isR) i c z
  · have hi' : (i : Int) < s.2.2.1.toInt + 1 := by
      have hi2 : (i : Int) < (s.2.2.1 + 1).toInt := hi
      omega
    have t : s.2.2.1.toNatClampNeg = s.2.2.1.toInt.toNat := rfl
    show ∃ c, va_up gl s.2.2.1.toNatClampNeg (some b) i = some c ∧ rAt _ c (va_up s.2.2.2.1 s.2.2.1.toNatClampNeg r i)
    unfold va_up
    by_cases e : i = s.2.2.1.toNatClampNeg
    · rw [if_pos e, if_pos e]
      exact ⟨b, rfl, R _ _ hb⟩
    · rw [if_neg e, if_neg e]
      exact (k2 i (by omega)).imp fun c z => ⟨z.1, R _ _ z.2⟩
theorem o12 : Int32.ofNat 12 = 12 := rfl
theorem i12n : ¬ (12 : Int32) < 12 := by decide
theorem vp12 {n : Int32} (h0 : ¬ n < 0) (h : n < 12) : vp_in n 12 := vpi12 h0 h i12n
set_option maxHeartbeats 4000000 in
theorem fX1_lay {s : AS} {a0 : Int32} (hC : CS g w0 x nA cA lA kn s w) (hX : ¬ okC a0 → (Q (.inr "java/lang/IndexOutOfBoundsException") w)) (hS : okC a0 → s.2.1 a0.toNatClampNeg = none → (Q (.inr "java/lang/IllegalStateException") w)) (hF : okC a0 → ∀ r, s.2.1 a0.toNatClampNeg = some r → ¬ s.2.2.1 < 12 → ∀ w', CS g w0 x nA cA lA kn (sRf s) w' → Q (.inl (some (.int (-9)))) w') (hQ : okC a0 → ∀ r, s.2.1 a0.toNatClampNeg = some r → s.2.2.1 < 12 → ∀ w', CS g w0 x nA cA lA kn (sP_ s (s.2.2.1 + 1) (va_up s.2.2.2.1 s.2.2.1.toNatClampNeg r)) w' → Q (.inl (some (.int (s.2.2.1 + 1)))) w') : WP (MX1_lay g) Q (0, [some (.ref x), some (.int a0), none], [], w, 0, 0) := by
  obtain ⟨gc, gl, ⟨hx, hn, hc, hl, hgc, hgl, hn0, hn1, rx, rn, rc, rl, ⟨d1, d2, d3, d4, d5, d6⟩, ⟨d7, d8, d9, d10, d11, d12⟩⟩, hcd, hpl⟩ := hC.1.opn g
  repeat' first
    | with_reducible assumption
    | with_reducible refine And.intro ?_ ?_
    | with_reducible exact vpi6 (by assumption) (by assumption)
    | with_reducible exact vpi8 (by assumption) (by assumption)
    | with_reducible exact trivial
    | with_reducible exact hX (by assumption)
    | with_reducible refine fX1_rangeOf (a0 := a0) hC (fun _ => ?_) (fun k0 e1 => ?_) (fun k0 p r e1 hp => ?_)
    | with_reducible refine go_F hp ?_
    | with_reducible exact go_F hp trivial
    | with_reducible exact hS k0 e1
    | with_reducible refine Or.inl ?_
    | with_reducible exact go_Fw hp trivial
    | with_reducible exact absurd (by assumption) hn0
    | with_reducible refine fX1_refuse hC (fun w1 g1 g2 => ?_)
    | with_reducible exact hF k0 r e1 (by assumption) w1 g1
    | with_reducible exact vpi12 hn0 (by assumption) i12n
    | with_reducible exact vp12 hn0 (by assumption)
    | ((with_reducible refine isQ (Q := Q) ?_); exact hQ k0 r e1 (by assumption) _ (hC.lay hl hp (by assumption)))
    | simp only [eX1_lay_0, eX1_lay_0N, eX1_lay_1, eX1_lay_2, eX1_lay_5, eX1_lay_5N, eX1_lay_6, eX1_lay_6N, eX1_lay_7, eX1_lay_10, eX1_lay_13, eX1_lay_13N, eX1_lay_14, eX1_lay_17, eX1_lay_17N, eX1_lay_18, eX1_lay_21, eX1_lay_22, eX1_lay_25, eX1_lay_25N, eX1_lay_26, eX1_lay_29, eX1_lay_30, eX1_lay_30N, eX1_lay_31, eX1_lay_34, eX1_lay_34N, eX1_lay_35, eX1_lay_38, eX1_lay_38N, eX1_lay_39N, eX1_lay_39R, eX1_lay_40, eX1_lay_40N, eX1_lay_41, eX1_lay_41R, eX1_lay_42, eX1_lay_45, eX1_lay_46, eX1_lay_47, eX1_lay_50, eX1_lay_50N, eX1_lay_51, eX1_lay_54, lgp, lgn, lgz, i10, i00, if_true, if_false, eq_self, not_true, not_false_eq_true, rx, rn, rc, rl, hx, hn, hc, hl, d1, d2, d3, d4, d5, d6, d7, d8, d9, d10, d11, d12, rd_n, upw_n, exal, o12, ite_le, n45, n54, true_or, or_true, false_or, or_false, false_and, and_false, kx_l, kx_r, go_s, gl_s, gi_s, gb_s2, gb_s3, gq_s, wt_nil, wt_int, wt_long, wt_ref, wt_null, nl_int, nl_long, nl_ref, nl_null, nl_none, rf_n, rf_s, rf_st, tl_s, tl_n, g0, gS, ex1, nb_b, nb_0, nb_1, nf_i, nf_l, nf_ra, nf_ro, nf_na, nf_no, nf_b0, nf_z0, t45_4, t45_5, true_and, and_true, List.set_cons_zero, List.set_cons_succ, List.length_cons, List.length_nil, rd_s, upw_s, ne_eq, not_false_eq_true, Nat.zero_add, Nat.add_zero]
    | split
    | with_reducible intro _
    | omega
end
end
/-! 71.fn9.lean.txt -/
section
section
variable {g : RO} {Q : Ot → Hw → Prop} {w0 w : Hw} {x nA cA lA : Nat} {kn : Int32}
/-! FUNCTIONAL SPECS, 9: places -/
abbrev okP (n a : Int32) : Prop := ¬ a < 0 ∧ a < n
theorem plB {n a : Int32} (h : okP n a) : (a.toNatClampNeg : Int) < n.toInt := by
  have h1 := i32_0 h.1
  have h2 := i32_lt h.2
  have e : a.toNatClampNeg = a.toInt.toNat := rfl
  omega
theorem plj {gl : Nat → Option Nat} {f : Nat → R4} {n : Int} {j b : Nat} (hpl : ∀ i : Nat, (i : Int) < n → ∃ b, gl i = some b ∧ rAt w b (f i)) (h : (j : Int) < n) (e : gl j = some b) : rAt w b (f j) := by
  obtain ⟨c, hc, hr⟩ := hpl j h
  rw [hc] at e
  cases e
  exact hr
theorem pln {gl : Nat → Option Nat} {f : Nat → R4} {n : Int} {j : Nat} (hpl : ∀ i : Nat, (i : Int) < n → ∃ b, gl i = some b ∧ rAt w b (f i)) (h : (j : Int) < n) : ¬ gl j = none := by
  obtain ⟨c, hc, hr⟩ := hpl j h
  rw [hc]
  exact fun z => by cases z
theorem cntE {n : Int32} (h0 : ¬ n < 0) (h1 : ¬ 12 < n) : Int32.ofNat n.toInt.toNat = n := by
  obtain ⟨h2, h3⟩ := cnt12 h0 h1
  exact Int32.toInt_inj.1 (by rw [oNt (by omega)]; omega)
theorem oMz : Int32.ofNat 0 - 1 < 0 := by decide
theorem oMd {j : Nat} : Int32.ofNat j + -1 = Int32.ofNat j - 1 := (Int32.sub_eq_add_neg _ _).symm
theorem oMs {j : Nat} (h : j + 1 < 1000) : Int32.ofNat (j + 1) - 1 = Int32.ofNat j := by
  refine Int32.toInt_inj.1 ?_
  have e1 : (1 : Int32).toInt = 1 := rfl
  have a1 := oNt h
  have a2 := oNt (j := j) (by omega)
  rw [i32_sub (by rw [a1, e1]; omega) (by rw [a1, e1]; omega), a1, a2, e1]
  omega
theorem vX0_matches {p q : Nat} {r s : R4} (hp : rAt w p r) (hq : rAt w q s) (hQ : Q (.inl (some (.int (bI (decide (mP r s)))))) w) : WP (MX0_matches g) Q (0, [some (.ref p), some (.ref q)], [], w, 0, 0) := fX0_matchesR hp hq (fun h => by rw [decide_eq_true h] at hQ; exact hQ) (fun h => by rw [decide_eq_false h] at hQ; exact hQ)
set_option maxHeartbeats 4000000 in
theorem fX1_needPlace {s : AS} {a0 : Int32} (hC : CS g w0 x nA cA lA kn s w) (hX : ¬ okP s.2.2.1 a0 → (Q (.inr "java/lang/IndexOutOfBoundsException") w)) (hQ : okP s.2.2.1 a0 → Q (.inl none) w) : WP (MX1_needPlace g) Q (0, [some (.ref x), some (.int a0)], [], w, 0, 0) := by
  obtain ⟨gc, gl, ⟨hx, hn, hc, hl, hgc, hgl, hn0, hn1, rx, rn, rc, rl, ⟨d1, d2, d3, d4, d5, d6⟩, ⟨d7, d8, d9, d10, d11, d12⟩⟩, hcd, hpl⟩ := hC.1.opn g
  repeat' first
    | with_reducible assumption
    | with_reducible refine And.intro ?_ ?_
    | with_reducible exact vpi6 (by assumption) (by assumption)
    | with_reducible exact vpi8 (by assumption) (by assumption)
    | with_reducible exact trivial
    | with_reducible exact hQ ⟨by assumption, by assumption⟩
    | with_reducible exact hX (fun h => absurd (by assumption) h.1)
    | with_reducible exact hX (fun h => absurd h.2 (by assumption))
    | simp only [eX1_needPlace_0, eX1_needPlace_1, eX1_needPlace_4, eX1_needPlace_5, eX1_needPlace_5N, eX1_needPlace_6, eX1_needPlace_9, eX1_needPlace_12, eX1_needPlace_22, lgp, lgn, lgz, i10, i00, if_true, if_false, eq_self, not_true, not_false_eq_true, rx, rn, rc, rl, hx, hn, hc, hl, d1, d2, d3, d4, d5, d6, d7, d8, d9, d10, d11, d12, rd_n, upw_n, ite_le, n45, n54, true_or, or_true, false_or, or_false, false_and, and_false, kx_l, kx_r, go_s, gl_s, gi_s, gb_s2, gb_s3, gq_s, wt_nil, wt_int, wt_long, wt_ref, wt_null, nl_int, nl_long, nl_ref, nl_null, nl_none, rf_n, rf_s, rf_st, tl_s, tl_n, g0, gS, ex1, nb_b, nb_0, nb_1, nf_i, nf_l, nf_ra, nf_ro, nf_na, nf_no, nf_b0, nf_z0, t45_4, t45_5, true_and, and_true, List.set_cons_zero, List.set_cons_succ, List.length_cons, List.length_nil, rd_s, upw_s, ne_eq, not_false_eq_true, Nat.zero_add, Nat.add_zero]
    | split
    | with_reducible intro _
    | omega
set_option maxHeartbeats 4000000 in
theorem fX1_pick {s : AS} {a0 a1 : Int32} (hC : CS g w0 x nA cA lA kn s w) (hX : ¬ (okP s.2.2.1 a0 ∧ okC a1) → (Q (.inr "java/lang/IndexOutOfBoundsException") w)) (hN : okP s.2.2.1 a0 → okC a1 → s.2.1 a1.toNatClampNeg = none → ∀ w', CS g w0 x nA cA lA kn (sC s (va_up s.2.1 a1.toNatClampNeg (some (s.2.2.2.1 a0.toNatClampNeg)))) w' → Q (.inl (some (.int 0))) w') (hS : okP s.2.2.1 a0 → okC a1 → ∀ r, s.2.1 a1.toNatClampNeg = some r → ∀ w', CS g w0 x nA cA lA kn (sC s (va_up s.2.1 a1.toNatClampNeg (some (s.2.2.2.1 a0.toNatClampNeg)))) w' → Q (.inl (some (.int 1))) w') : WP (MX1_pick g) Q (0, [some (.ref x), some (.int a0), some (.int a1), none], [], w, 0, 0) := by
  obtain ⟨gc, gl, ⟨hx, hn, hc, hl, hgc, hgl, hn0, hn1, rx, rn, rc, rl, ⟨d1, d2, d3, d4, d5, d6⟩, ⟨d7, d8, d9, d10, d11, d12⟩⟩, hcd, hpl⟩ := hC.1.opn g
  repeat' first
    | with_reducible assumption
    | with_reducible refine And.intro ?_ ?_
    | with_reducible exact vpi6 (by assumption) (by assumption)
    | with_reducible exact vpi8 (by assumption) (by assumption)
    | with_reducible exact trivial
    | with_reducible exact hX (fun h => absurd h.1 (by assumption))
    | with_reducible exact hX (fun h => absurd h.2 (by assumption))
    | with_reducible refine fX1_needPlace (a0 := a0) hC (fun _ => ?_) (fun k0 => ?_)
    | with_reducible exact vpi12 k0.1 k0.2 hn1
    | with_reducible refine fX1_needCard (a0 := a1) (fun _ => ?_) (fun k1 => ?_)
    | with_reducible exact vpi6 k1.1 k1.2
    | with_reducible refine fX1_asNumber (Or.inl rfl) ?_
    | with_reducible refine fX1_asNumber (Or.inr rfl) ?_
    | with_reducible refine Or.inl ?_
    | with_reducible exact absurd (by assumption) (pln hpl (plB k0))
    | with_reducible exact go_Fw (plj hpl (plB k0) (by assumption)) trivial
    | ((with_reducible refine isQ (Q := Q) ?_); exact hN k0 k1 (cdN hcd k1 (by assumption)) _ (hC.card gc hc a1.toNatClampNeg (some _) (some _) (plj hpl (plB k0) (by assumption))))
    | ((with_reducible refine isQ (Q := Q) ?_); exact (cdS hcd k1 (by assumption)).elim (fun r h => hS k0 k1 r h.1 _ (hC.card gc hc a1.toNatClampNeg (some _) (some _) (plj hpl (plB k0) (by assumption)))))
    | simp only [eX1_pick_0, eX1_pick_0N, eX1_pick_1, eX1_pick_2, eX1_pick_5, eX1_pick_6, eX1_pick_9, eX1_pick_9N, eX1_pick_10, eX1_pick_13, eX1_pick_14, eX1_pick_15R, eX1_pick_15N, eX1_pick_18, eX1_pick_19, eX1_pick_22, eX1_pick_23, eX1_pick_26, eX1_pick_27, eX1_pick_27N, eX1_pick_28, eX1_pick_31, eX1_pick_32, eX1_pick_32N, eX1_pick_33, eX1_pick_36, eX1_pick_37, eX1_pick_38N, eX1_pick_38R, eX1_pick_39, eX1_pick_40, lgp, lgn, lgz, i10, i00, if_true, if_false, eq_self, not_true, not_false_eq_true, rx, rn, rc, rl, hx, hn, hc, hl, d1, d2, d3, d4, d5, d6, d7, d8, d9, d10, d11, d12, rd_n, upw_n, ite_le, n45, n54, true_or, or_true, false_or, or_false, false_and, and_false, kx_l, kx_r, go_s, gl_s, gi_s, gb_s2, gb_s3, gq_s, wt_nil, wt_int, wt_long, wt_ref, wt_null, nl_int, nl_long, nl_ref, nl_null, nl_none, rf_n, rf_s, rf_st, tl_s, tl_n, g0, gS, ex1, nb_b, nb_0, nb_1, nf_i, nf_l, nf_ra, nf_ro, nf_na, nf_no, nf_b0, nf_z0, t45_4, t45_5, true_and, and_true, List.set_cons_zero, List.set_cons_succ, List.length_cons, List.length_nil, rd_s, upw_s, ne_eq, not_false_eq_true, Nat.zero_add, Nat.add_zero]
    | split
    | with_reducible intro _
    | omega
set_option maxHeartbeats 4000000 in
theorem flX1_timesLaid_4 {s : AS} {p : Nat} {r : R4} (hC : CS g w0 x nA cA lA kn s w) (hp : rAt w p r) (hQ : Q (.inl (some (.int (fsum (fun j => bI (decide (mP r (s.2.2.2.1 j)))) s.2.2.1.toInt.toNat)))) w) : ∀ (d j : Nat)  (k m : Nat), j + d = s.2.2.1.toInt.toNat → k ≤ 0 → m ≤ 0 → WP (MX1_timesLaid g) Q (4, [some (.ref x), some (.ref p), some (.int (fsum (fun j => bI (decide (mP r (s.2.2.2.1 j)))) j)), some (.int (Int32.ofNat j))], [], w, k, m) := by
  obtain ⟨gc, gl, ⟨hx, hn, hc, hl, hgc, hgl, hn0, hn1, rx, rn, rc, rl, ⟨d1, d2, d3, d4, d5, d6⟩, ⟨d7, d8, d9, d10, d11, d12⟩⟩, hcd, hpl⟩ := hC.1.opn g
  intro d
  induction d with
  | zero =>
    intro j  k m hjd hk hm
    have h9 : j < 1000 := (by have := (cnt12 hn0 hn1).2; omega)
    have hlt : ¬ Int32.ofNat j < s.2.2.1 := oNg (B := s.2.2.1.toInt.toNat) h9 (cnt12 hn0 hn1).1 (by omega)
    have hnn := oN0 h9
    have hcl := oNc h9
    obtain rfl : j = s.2.2.1.toInt.toNat := by omega
    rw [eX1_timesLaid_4]
    repeat' first
      | with_reducible assumption
      | with_reducible refine And.intro ?_ ?_
      | with_reducible exact vpi6 (by assumption) (by assumption)
      | with_reducible exact vpi8 (by assumption) (by assumption)
      | with_reducible exact trivial
      | with_reducible exact vpj (j := j) (by have := (cnt12 hn0 hn1).2; omega)
      | with_reducible exact go_F hp trivial
      | with_reducible exact absurd (by assumption) (pln (j := j) hpl (by omega))
      | with_reducible refine vX0_matches hp (plj (j := j) hpl (by omega) (by assumption)) ?_
      | with_reducible refine fX1_asNumber (bI01 _) ?_
      | ((with_reducible refine isQ (Q := Q) ?_); exact hQ)
      | simp only [eX1_timesLaid_0, eX1_timesLaid_1, eX1_timesLaid_2, eX1_timesLaid_3, eX1_timesLaid_5, eX1_timesLaid_5N, eX1_timesLaid_6, eX1_timesLaid_9, eX1_timesLaid_12, eX1_timesLaid_13, eX1_timesLaid_13N, eX1_timesLaid_14, eX1_timesLaid_14N, eX1_timesLaid_15, eX1_timesLaid_18, eX1_timesLaid_19, eX1_timesLaid_20R, eX1_timesLaid_20N, eX1_timesLaid_23, eX1_timesLaid_26, eX1_timesLaid_27, eX1_timesLaid_28, eX1_timesLaid_31, eX1_timesLaid_34, eX1_timesLaid_35, lgp, lgn, lgz, i10, i00, if_true, if_false, eq_self, not_true, not_false_eq_true, hlt, hcl, rx, rn, rc, rl, hx, hn, hc, hl, d1, d2, d3, d4, d5, d6, d7, d8, d9, d10, d11, d12, rd_n, upw_n, ite_le, n45, n54, true_or, or_true, false_or, or_false, false_and, and_false, kx_l, kx_r, go_s, gl_s, gi_s, gb_s2, gb_s3, gq_s, wt_nil, wt_int, wt_long, wt_ref, wt_null, nl_int, nl_long, nl_ref, nl_null, nl_none, rf_n, rf_s, rf_st, tl_s, tl_n, g0, gS, ex1, nb_b, nb_0, nb_1, nf_i, nf_l, nf_ra, nf_ro, nf_na, nf_no, nf_b0, nf_z0, t45_4, t45_5, true_and, and_true, List.set_cons_zero, List.set_cons_succ, List.length_cons, List.length_nil, rd_s, upw_s, ne_eq, not_false_eq_true, Nat.zero_add, Nat.add_zero]
      | split
      | with_reducible intro _
      | omega
  | succ d ih =>
    intro j  k m hjd hk hm
    have h9 : j < 1000 := (by have := (cnt12 hn0 hn1).2; omega)
    have hlt : Int32.ofNat j < s.2.2.1 := oNl (B := s.2.2.1.toInt.toNat) h9 (cnt12 hn0 hn1).1 (by omega)
    have hnn := oN0 h9
    have hcl := oNc h9
    rw [eX1_timesLaid_4]
    repeat' first
      | with_reducible assumption
      | with_reducible refine And.intro ?_ ?_
      | with_reducible exact vpi6 (by assumption) (by assumption)
      | with_reducible exact vpi8 (by assumption) (by assumption)
      | with_reducible exact trivial
      | (rw [oN1]; exact ih (j + 1)  _ _ (by omega) (by first | assumption | omega) (by first | assumption | omega))
      | with_reducible exact vpj (j := j) (by have := (cnt12 hn0 hn1).2; omega)
      | with_reducible exact go_F hp trivial
      | with_reducible exact absurd (by assumption) (pln (j := j) hpl (by omega))
      | with_reducible refine vX0_matches hp (plj (j := j) hpl (by omega) (by assumption)) ?_
      | with_reducible refine fX1_asNumber (bI01 _) ?_
      | ((with_reducible refine isQ (Q := Q) ?_); exact hQ)
      | simp only [eX1_timesLaid_0, eX1_timesLaid_1, eX1_timesLaid_2, eX1_timesLaid_3, eX1_timesLaid_5, eX1_timesLaid_5N, eX1_timesLaid_6, eX1_timesLaid_9, eX1_timesLaid_12, eX1_timesLaid_13, eX1_timesLaid_13N, eX1_timesLaid_14, eX1_timesLaid_14N, eX1_timesLaid_15, eX1_timesLaid_18, eX1_timesLaid_19, eX1_timesLaid_20R, eX1_timesLaid_20N, eX1_timesLaid_23, eX1_timesLaid_26, eX1_timesLaid_27, eX1_timesLaid_28, eX1_timesLaid_31, eX1_timesLaid_34, eX1_timesLaid_35, lgp, lgn, lgz, i10, i00, if_true, if_false, eq_self, not_true, not_false_eq_true, hlt, hcl, rx, rn, rc, rl, hx, hn, hc, hl, d1, d2, d3, d4, d5, d6, d7, d8, d9, d10, d11, d12, rd_n, upw_n, ite_le, n45, n54, true_or, or_true, false_or, or_false, false_and, and_false, kx_l, kx_r, go_s, gl_s, gi_s, gb_s2, gb_s3, gq_s, wt_nil, wt_int, wt_long, wt_ref, wt_null, nl_int, nl_long, nl_ref, nl_null, nl_none, rf_n, rf_s, rf_st, tl_s, tl_n, g0, gS, ex1, nb_b, nb_0, nb_1, nf_i, nf_l, nf_ra, nf_ro, nf_na, nf_no, nf_b0, nf_z0, t45_4, t45_5, true_and, and_true, List.set_cons_zero, List.set_cons_succ, List.length_cons, List.length_nil, rd_s, upw_s, ne_eq, not_false_eq_true, Nat.zero_add, Nat.add_zero]
      | split
      | with_reducible intro _
      | omega
set_option maxHeartbeats 4000000 in
theorem fX1_timesLaid {s : AS} {p : Nat} {r : R4} (hC : CS g w0 x nA cA lA kn s w) (hp : rAt w p r) (hQ : Q (.inl (some (.int (fsum (fun j => bI (decide (mP r (s.2.2.2.1 j)))) s.2.2.1.toInt.toNat)))) w) : WP (MX1_timesLaid g) Q (0, [some (.ref x), some (.ref p), none, none], [], w, 0, 0) := by
  repeat' first
    | with_reducible assumption
    | with_reducible refine And.intro ?_ ?_
    | with_reducible exact vpi6 (by assumption) (by assumption)
    | with_reducible exact vpi8 (by assumption) (by assumption)
    | with_reducible exact trivial
    | ((with_reducible refine isWP (pc := 4) ?_); exact flX1_timesLaid_4 hC hp hQ _ 0 _ _ (Nat.zero_add _) (by decide) (by decide))
    | simp only [eX1_timesLaid_0, eX1_timesLaid_1, eX1_timesLaid_2, eX1_timesLaid_3, eX1_timesLaid_5, eX1_timesLaid_5N, eX1_timesLaid_6, eX1_timesLaid_9, eX1_timesLaid_12, eX1_timesLaid_13, eX1_timesLaid_13N, eX1_timesLaid_14, eX1_timesLaid_14N, eX1_timesLaid_15, eX1_timesLaid_18, eX1_timesLaid_19, eX1_timesLaid_20R, eX1_timesLaid_20N, eX1_timesLaid_23, eX1_timesLaid_26, eX1_timesLaid_27, eX1_timesLaid_28, eX1_timesLaid_31, eX1_timesLaid_34, eX1_timesLaid_35, lgp, lgn, lgz, i10, i00, if_true, if_false, eq_self, not_true, not_false_eq_true, ite_le, n45, n54, true_or, or_true, false_or, or_false, false_and, and_false, kx_l, kx_r, go_s, gl_s, gi_s, gb_s2, gb_s3, gq_s, wt_nil, wt_int, wt_long, wt_ref, wt_null, nl_int, nl_long, nl_ref, nl_null, nl_none, rf_n, rf_s, rf_st, tl_s, tl_n, g0, gS, ex1, nb_b, nb_0, nb_1, nf_i, nf_l, nf_ra, nf_ro, nf_na, nf_no, nf_b0, nf_z0, t45_4, t45_5, true_and, and_true, List.set_cons_zero, List.set_cons_succ, List.length_cons, List.length_nil, rd_s, upw_s, ne_eq, not_false_eq_true, Nat.zero_add, Nat.add_zero]
    | split
    | with_reducible intro _
    | omega
set_option maxHeartbeats 4000000 in
theorem fX1_howOften {s : AS} {a0 : Int32} (hC : CS g w0 x nA cA lA kn s w) (hX : ¬ okC a0 → (Q (.inr "java/lang/IndexOutOfBoundsException") w)) (hS : okC a0 → s.2.1 a0.toNatClampNeg = none → (Q (.inr "java/lang/IllegalStateException") w)) (hQ : okC a0 → ∀ r, s.2.1 a0.toNatClampNeg = some r → Q (.inl (some (.int (fsum (fun j => bI (decide (mP r (s.2.2.2.1 j)))) s.2.2.1.toInt.toNat)))) w) : WP (MX1_howOften g) Q (0, [some (.ref x), some (.int a0)], [], w, 0, 0) := by
  obtain ⟨gc, gl, ⟨hx, hn, hc, hl, hgc, hgl, hn0, hn1, rx, rn, rc, rl, ⟨d1, d2, d3, d4, d5, d6⟩, ⟨d7, d8, d9, d10, d11, d12⟩⟩, hcd, hpl⟩ := hC.1.opn g
  repeat' first
    | with_reducible assumption
    | with_reducible refine And.intro ?_ ?_
    | with_reducible exact vpi6 (by assumption) (by assumption)
    | with_reducible exact vpi8 (by assumption) (by assumption)
    | with_reducible exact trivial
    | with_reducible exact hX (by assumption)
    | with_reducible refine fX1_rangeOf (a0 := a0) hC (fun _ => ?_) (fun k0 e1 => ?_) (fun k0 p r e1 hp => ?_)
    | with_reducible refine go_F hp ?_
    | with_reducible exact go_F hp trivial
    | with_reducible exact hS k0 e1
    | with_reducible refine fX1_timesLaid hC hp ?_
    | with_reducible exact hQ k0 r e1
    | simp only [eX1_howOften_0, eX1_howOften_0N, eX1_howOften_1, eX1_howOften_1N, eX1_howOften_2, eX1_howOften_3, eX1_howOften_6R, eX1_howOften_6N, eX1_howOften_9, lgp, lgn, lgz, i10, i00, if_true, if_false, eq_self, not_true, not_false_eq_true, rx, rn, rc, rl, hx, hn, hc, hl, d1, d2, d3, d4, d5, d6, d7, d8, d9, d10, d11, d12, rd_n, upw_n, ite_le, n45, n54, true_or, or_true, false_or, or_false, false_and, and_false, kx_l, kx_r, go_s, gl_s, gi_s, gb_s2, gb_s3, gq_s, wt_nil, wt_int, wt_long, wt_ref, wt_null, nl_int, nl_long, nl_ref, nl_null, nl_none, rf_n, rf_s, rf_st, tl_s, tl_n, g0, gS, ex1, nb_b, nb_0, nb_1, nf_i, nf_l, nf_ra, nf_ro, nf_na, nf_no, nf_b0, nf_z0, t45_4, t45_5, true_and, and_true, List.set_cons_zero, List.set_cons_succ, List.length_cons, List.length_nil, rd_s, upw_s, ne_eq, not_false_eq_true, Nat.zero_add, Nat.add_zero]
    | split
    | with_reducible intro _
    | omega
theorem inv_d {P : Nat → Prop} {j N : Nat} (h : ∀ i, j + 1 ≤ i → i < N → P i) (hj : P j) : ∀ i, j ≤ i → i < N → P i := fun i hi hN => by
  rcases Nat.eq_or_lt_of_le hi with rfl | k
  · exact hj
  · exact h i k hN
set_option maxHeartbeats 4000000 in
theorem flX1_lastPlaceOf_7 {s : AS} {p : Nat} {r : R4} (hC : CS g w0 x nA cA lA kn s w) (hp : rAt w p r) (hN : (∀ i, i < s.2.2.1.toInt.toNat → ¬ mP r (s.2.2.2.1 i)) → Q (.inl (some (.int (-1)))) w) (hS : ∀ i, i < s.2.2.1.toInt.toNat → mP r (s.2.2.2.1 i) → (∀ k, i + 1 ≤ k → k < s.2.2.1.toInt.toNat → ¬ mP r (s.2.2.2.1 k)) → Q (.inl (some (.int (Int32.ofNat i)))) w) : ∀ (j : Nat) (k m : Nat), j ≤ s.2.2.1.toInt.toNat → (∀ i, j ≤ i → i < s.2.2.1.toInt.toNat → ¬ mP r (s.2.2.2.1 i)) → k ≤ 0 → m ≤ 0 → WP (MX1_lastPlaceOf g) Q (7, [some (.ref x), some (.ref p), some (.int (Int32.ofNat j - 1))], [], w, k, m) := by
  obtain ⟨gc, gl, ⟨hx, hn, hc, hl, hgc, hgl, hn0, hn1, rx, rn, rc, rl, ⟨d1, d2, d3, d4, d5, d6⟩, ⟨d7, d8, d9, d10, d11, d12⟩⟩, hcd, hpl⟩ := hC.1.opn g
  obtain ⟨he, h12⟩ := cnt12 hn0 hn1
  intro j
  induction j with
  | zero =>
    intro k m hj hinv hk hm
    rw [eX1_lastPlaceOf_7]
    repeat' first
      | with_reducible assumption
      | with_reducible refine And.intro ?_ ?_
      | with_reducible exact vpi6 (by assumption) (by assumption)
      | with_reducible exact vpi8 (by assumption) (by assumption)
      | with_reducible exact trivial
      | with_reducible exact hN (fun i h => hinv i (Nat.zero_le i) h)
      | simp only [eX1_lastPlaceOf_0, eX1_lastPlaceOf_0N, eX1_lastPlaceOf_1, eX1_lastPlaceOf_4, eX1_lastPlaceOf_5, eX1_lastPlaceOf_6, eX1_lastPlaceOf_8, eX1_lastPlaceOf_11, eX1_lastPlaceOf_11N, eX1_lastPlaceOf_12, eX1_lastPlaceOf_12N, eX1_lastPlaceOf_13, eX1_lastPlaceOf_16, eX1_lastPlaceOf_17, eX1_lastPlaceOf_18R, eX1_lastPlaceOf_18N, eX1_lastPlaceOf_21, eX1_lastPlaceOf_24, eX1_lastPlaceOf_25, eX1_lastPlaceOf_26, eX1_lastPlaceOf_29, eX1_lastPlaceOf_32, eX1_lastPlaceOf_33, lgp, lgn, lgz, i10, i00, if_true, if_false, eq_self, not_true, not_false_eq_true, rx, rn, rc, rl, hx, hn, hc, hl, d1, d2, d3, d4, d5, d6, d7, d8, d9, d10, d11, d12, rd_n, upw_n, oMz, ite_le, n45, n54, true_or, or_true, false_or, or_false, false_and, and_false, kx_l, kx_r, go_s, gl_s, gi_s, gb_s2, gb_s3, gq_s, wt_nil, wt_int, wt_long, wt_ref, wt_null, nl_int, nl_long, nl_ref, nl_null, nl_none, rf_n, rf_s, rf_st, tl_s, tl_n, g0, gS, ex1, nb_b, nb_0, nb_1, nf_i, nf_l, nf_ra, nf_ro, nf_na, nf_no, nf_b0, nf_z0, t45_4, t45_5, true_and, and_true, List.set_cons_zero, List.set_cons_succ, List.length_cons, List.length_nil, rd_s, upw_s, ne_eq, not_false_eq_true, Nat.zero_add, Nat.add_zero]
      | split
      | with_reducible intro _
      | omega
  | succ j ih =>
    intro k m hj hinv hk hm
    have h9 : j < 1000 := by omega
    rw [oMs (j := j) (by omega), eX1_lastPlaceOf_7]
    have hlt := oN0 h9
    have hcl := oNc h9
    obtain ⟨b, hb, hrb⟩ := hpl j (by omega)
    repeat' first
      | with_reducible assumption
      | with_reducible refine And.intro ?_ ?_
      | with_reducible exact vpi6 (by assumption) (by assumption)
      | with_reducible exact vpi8 (by assumption) (by assumption)
      | with_reducible exact trivial
      | with_reducible exact vpj (by omega)
      | with_reducible exact go_F hp trivial
      | with_reducible refine fX0_matchesR hp hrb (fun hm => ?_) (fun hm => ?_)
      | with_reducible exact hS j (by omega) hm hinv
      | (rw [oMd]; exact ih _ _ (by omega) (inv_d hinv hm) (by first | assumption | omega) (by first | assumption | omega))
      | simp only [eX1_lastPlaceOf_0, eX1_lastPlaceOf_0N, eX1_lastPlaceOf_1, eX1_lastPlaceOf_4, eX1_lastPlaceOf_5, eX1_lastPlaceOf_6, eX1_lastPlaceOf_8, eX1_lastPlaceOf_11, eX1_lastPlaceOf_11N, eX1_lastPlaceOf_12, eX1_lastPlaceOf_12N, eX1_lastPlaceOf_13, eX1_lastPlaceOf_16, eX1_lastPlaceOf_17, eX1_lastPlaceOf_18R, eX1_lastPlaceOf_18N, eX1_lastPlaceOf_21, eX1_lastPlaceOf_24, eX1_lastPlaceOf_25, eX1_lastPlaceOf_26, eX1_lastPlaceOf_29, eX1_lastPlaceOf_32, eX1_lastPlaceOf_33, lgp, lgn, lgz, i10, i00, if_true, if_false, eq_self, not_true, not_false_eq_true, rx, rn, rc, rl, hx, hn, hc, hl, d1, d2, d3, d4, d5, d6, d7, d8, d9, d10, d11, d12, rd_n, upw_n, hlt, hcl, hb, sal, snn, ite_le, n45, n54, true_or, or_true, false_or, or_false, false_and, and_false, kx_l, kx_r, go_s, gl_s, gi_s, gb_s2, gb_s3, gq_s, wt_nil, wt_int, wt_long, wt_ref, wt_null, nl_int, nl_long, nl_ref, nl_null, nl_none, rf_n, rf_s, rf_st, tl_s, tl_n, g0, gS, ex1, nb_b, nb_0, nb_1, nf_i, nf_l, nf_ra, nf_ro, nf_na, nf_no, nf_b0, nf_z0, t45_4, t45_5, true_and, and_true, List.set_cons_zero, List.set_cons_succ, List.length_cons, List.length_nil, rd_s, upw_s, ne_eq, not_false_eq_true, Nat.zero_add, Nat.add_zero]
      | split
      | with_reducible intro _
      | omega
set_option maxHeartbeats 4000000 in
theorem fX1_lastPlaceOf {s : AS} {p : Nat} {r : R4} (hC : CS g w0 x nA cA lA kn s w) (hp : rAt w p r) (hN : (∀ i, i < s.2.2.1.toInt.toNat → ¬ mP r (s.2.2.2.1 i)) → Q (.inl (some (.int (-1)))) w) (hS : ∀ i, i < s.2.2.1.toInt.toNat → mP r (s.2.2.2.1 i) → (∀ k, i + 1 ≤ k → k < s.2.2.1.toInt.toNat → ¬ mP r (s.2.2.2.1 k)) → Q (.inl (some (.int (Int32.ofNat i)))) w) : WP (MX1_lastPlaceOf g) Q (0, [some (.ref x), some (.ref p), none], [], w, 0, 0) := by
  obtain ⟨gc, gl, ⟨hx, hn, hc, hl, hgc, hgl, hn0, hn1, rx, rn, rc, rl, ⟨d1, d2, d3, d4, d5, d6⟩, ⟨d7, d8, d9, d10, d11, d12⟩⟩, hcd, hpl⟩ := hC.1.opn g
  repeat' first
    | with_reducible assumption
    | with_reducible refine And.intro ?_ ?_
    | with_reducible exact vpi6 (by assumption) (by assumption)
    | with_reducible exact vpi8 (by assumption) (by assumption)
    | with_reducible exact trivial
    | (have z := flX1_lastPlaceOf_7 hC hp hN hS _ 0 0 (Nat.le_refl _) (fun i h1 h2 => absurd h2 (Nat.not_lt.mpr h1)) (by decide) (by decide); rw [cntE hn0 hn1] at z; exact z)
    | simp only [eX1_lastPlaceOf_0, eX1_lastPlaceOf_0N, eX1_lastPlaceOf_1, eX1_lastPlaceOf_4, eX1_lastPlaceOf_5, eX1_lastPlaceOf_6, eX1_lastPlaceOf_8, eX1_lastPlaceOf_11, eX1_lastPlaceOf_11N, eX1_lastPlaceOf_12, eX1_lastPlaceOf_12N, eX1_lastPlaceOf_13, eX1_lastPlaceOf_16, eX1_lastPlaceOf_17, eX1_lastPlaceOf_18R, eX1_lastPlaceOf_18N, eX1_lastPlaceOf_21, eX1_lastPlaceOf_24, eX1_lastPlaceOf_25, eX1_lastPlaceOf_26, eX1_lastPlaceOf_29, eX1_lastPlaceOf_32, eX1_lastPlaceOf_33, lgp, lgn, lgz, i10, i00, if_true, if_false, eq_self, not_true, not_false_eq_true, rx, rn, rc, rl, hx, hn, hc, hl, d1, d2, d3, d4, d5, d6, d7, d8, d9, d10, d11, d12, rd_n, upw_n, ite_le, n45, n54, true_or, or_true, false_or, or_false, false_and, and_false, kx_l, kx_r, go_s, gl_s, gi_s, gb_s2, gb_s3, gq_s, wt_nil, wt_int, wt_long, wt_ref, wt_null, nl_int, nl_long, nl_ref, nl_null, nl_none, rf_n, rf_s, rf_st, tl_s, tl_n, g0, gS, ex1, nb_b, nb_0, nb_1, nf_i, nf_l, nf_ra, nf_ro, nf_na, nf_no, nf_b0, nf_z0, t45_4, t45_5, true_and, and_true, List.set_cons_zero, List.set_cons_succ, List.length_cons, List.length_nil, rd_s, upw_s, ne_eq, not_false_eq_true, Nat.zero_add, Nat.add_zero]
    | split
    | with_reducible intro _
    | omega
set_option maxHeartbeats 4000000 in
theorem fX1_seek {s : AS} {a0 a1 : Int32} (hC : CS g w0 x nA cA lA kn s w) (hX : ¬ okC a0 → (Q (.inr "java/lang/IndexOutOfBoundsException") w)) (hS : okC a0 → s.2.1 a0.toNatClampNeg = none → (Q (.inr "java/lang/IllegalStateException") w)) (hN : okC a0 → ∀ r, s.2.1 a0.toNatClampNeg = some r → (∀ i, i < s.2.2.1.toInt.toNat → ¬ mP r (s.2.2.2.1 i)) → Q (.inl (some (.int (-1)))) w) (hF : a1 = 0 → okC a0 → ∀ r, s.2.1 a0.toNatClampNeg = some r → ∀ i, i < s.2.2.1.toInt.toNat → mP r (s.2.2.2.1 i) → (∀ k, k < i → ¬ mP r (s.2.2.2.1 k)) → Q (.inl (some (.int (Int32.ofNat i)))) w) (hL : ¬ a1 = 0 → okC a0 → ∀ r, s.2.1 a0.toNatClampNeg = some r → ∀ i, i < s.2.2.1.toInt.toNat → mP r (s.2.2.2.1 i) → (∀ k, i + 1 ≤ k → k < s.2.2.1.toInt.toNat → ¬ mP r (s.2.2.2.1 k)) → Q (.inl (some (.int (Int32.ofNat i)))) w) : WP (MX1_seek g) Q (0, [some (.ref x), some (.int a0), some (.int a1), none], [], w, 0, 0) := by
  obtain ⟨gc, gl, ⟨hx, hn, hc, hl, hgc, hgl, hn0, hn1, rx, rn, rc, rl, ⟨d1, d2, d3, d4, d5, d6⟩, ⟨d7, d8, d9, d10, d11, d12⟩⟩, hcd, hpl⟩ := hC.1.opn g
  repeat' first
    | with_reducible assumption
    | with_reducible refine And.intro ?_ ?_
    | with_reducible exact vpi6 (by assumption) (by assumption)
    | with_reducible exact vpi8 (by assumption) (by assumption)
    | with_reducible exact trivial
    | with_reducible exact hX (by assumption)
    | with_reducible refine fX1_rangeOf (a0 := a0) hC (fun _ => ?_) (fun k0 e1 => ?_) (fun k0 p r e1 hp => ?_)
    | with_reducible refine go_F hp ?_
    | with_reducible exact go_F hp trivial
    | with_reducible exact hS k0 e1
    | with_reducible refine fX1_lastPlaceOf hC hp (fun z1 => ?_) (fun i z1 z2 z3 => ?_)
    | with_reducible refine fX1_firstPlaceOf hC hp (fun z1 => ?_) (fun i z1 z2 z3 => ?_)
    | with_reducible exact hN k0 r e1 z1
    | with_reducible exact hF (by assumption) k0 r e1 i z1 z2 z3
    | with_reducible exact hL (by assumption) k0 r e1 i z1 z2 z3
    | simp only [eX1_seek_0, eX1_seek_0N, eX1_seek_1, eX1_seek_2, eX1_seek_5, eX1_seek_5N, eX1_seek_6, eX1_seek_7, eX1_seek_10, eX1_seek_10N, eX1_seek_11, eX1_seek_11N, eX1_seek_12R, eX1_seek_12N, eX1_seek_15, eX1_seek_18, eX1_seek_18N, eX1_seek_19, eX1_seek_19N, eX1_seek_20R, eX1_seek_20N, eX1_seek_23, lgp, lgn, lgz, i10, i00, if_true, if_false, eq_self, not_true, not_false_eq_true, rx, rn, rc, rl, hx, hn, hc, hl, d1, d2, d3, d4, d5, d6, d7, d8, d9, d10, d11, d12, rd_n, upw_n, ite_le, n45, n54, true_or, or_true, false_or, or_false, false_and, and_false, kx_l, kx_r, go_s, gl_s, gi_s, gb_s2, gb_s3, gq_s, wt_nil, wt_int, wt_long, wt_ref, wt_null, nl_int, nl_long, nl_ref, nl_null, nl_none, rf_n, rf_s, rf_st, tl_s, tl_n, g0, gS, ex1, nb_b, nb_0, nb_1, nf_i, nf_l, nf_ra, nf_ro, nf_na, nf_no, nf_b0, nf_z0, t45_4, t45_5, true_and, and_true, List.set_cons_zero, List.set_cons_succ, List.length_cons, List.length_nil, rd_s, upw_s, ne_eq, not_false_eq_true, Nat.zero_add, Nat.add_zero]
    | split
    | with_reducible intro _
    | omega
end
end
/-! 71.fna.lean.txt -/
section
section
variable {g : RO} {Q : Ot → Hw → Prop} {w0 w : Hw} {x nA cA lA : Nat} {kn : Int32}
/-! FUNCTIONAL SPECS, 10: the pile, written -/
theorem CS.opnP {s : AS} {n : Int32} {F : Nat → R4} (h : CS g w0 x nA cA lA kn (sP_ s n F) w) : ∃ gc gl : Nat → Option Nat, RO5 g w x nA cA lA n s.2.2.2.2.1 kn s.2.2.2.2.2 s.1 gc gl ∧ (∀ i, i < 6 → cM w (gc i) (s.2.1 i)) ∧ ∀ i : Nat, (i : Int) < n.toInt → ∃ b, gl i = some b ∧ rAt w b (F i) := h.1.opn g
theorem CS.pcg {s : AS} {n : Int32} {F G : Nat → R4} (h : CS g w0 x nA cA lA kn (sP_ s n F) w) (e : ∀ i : Nat, (i : Int) < n.toInt → F i = G i) : CS g w0 x nA cA lA kn (sP_ s n G) w := by
  obtain ⟨⟨gc, gl, h1, k1, k2⟩, hf⟩ := h
  exact ⟨⟨gc, gl, h1, k1, fun i hi => by
    obtain ⟨b, z1, z2⟩ := k2 i hi
    have z3 : rAt w b (F i) := z2
    rw [e i hi] at z3
    exact ⟨b, z1, z3⟩⟩, hf⟩
/-- the laid row gets another content -/
theorem CS.ll {s : AS} {gl gl' : Nat → Option Nat} {F : Nat → R4} (h : CS g w0 x nA cA lA kn s w) (hl : w lA = some (.inl (4, 12, qc gl))) (h6 : ∀ i c, gl' i = some c → isR w c) (k : ∀ i : Nat, (i : Int) < s.2.2.1.toInt → ∃ c, gl' i = some c ∧ rAt w c (F i)) : CS g w0 x nA cA lA kn (sP_ s s.2.2.1 F) (upw w lA (.inl (4, 12, qc gl'))) := by
  obtain ⟨gc, gl0, ⟨h1, h2, h3, h4, h5, -, h7, h8, -, -, -, -, ⟨d1, d2, d3, d4, d5, d6⟩, ⟨d7, d8, d9, d10, d11, d12⟩⟩, k1, k2⟩ := h.1.opn (fun _ => .null, fun _ => none)
  exact ⟨⟨gc, gl', ⟨by rw [upw_n d3]; exact h1, by rw [upw_n d6]; exact h2, by rw [upw_n d9]; exact h3, upw_s _ _ _, fun i b z => isR_up2 (h5 i b z) hl (by simp), fun i b z => isR_up2 (h6 i b z) hl (by simp), h7, h8⟩, fun i hi => (k1 i hi).mp fun b r hb => rAt_up2 hb hl (by simp), fun i hi => (k i hi).imp fun b z => ⟨z.1, rAt_up2 z.2 hl (by simp)⟩⟩, h.2.up hl (Or.inr rfl)⟩
/-- the laid row and how many are laid -/
theorem CS.xl {s : AS} {gl gl' : Nat → Option Nat} {F : Nat → R4} {n' : Int32} (h : CS g w0 x nA cA lA kn s w) (hl : w lA = some (.inl (4, 12, qc gl))) (h6 : ∀ i c, gl' i = some c → isR w c) (h7 : ¬ n' < 0) (h8 : ¬ 12 < n') (k : ∀ i : Nat, (i : Int) < n'.toInt → ∃ c, gl' i = some c ∧ rAt w c (F i)) : CS g w0 x nA cA lA kn (sP_ s n' F) (upw (upw w x (.inr (5, [.ref nA, .ref cA, .ref lA, .int n', .int s.2.2.2.2.1, .int kn, .int s.2.2.2.2.2]))) lA (.inl (4, 12, qc gl'))) := by
  obtain ⟨gc, gl0, ⟨h1, h2, h3, h4, h5, -, -, -, -, -, -, -, ⟨d1, d2, d3, d4, d5, d6⟩, ⟨d7, d8, d9, d10, d11, d12⟩⟩, k1, k2⟩ := h.1.opn (fun _ => .null, fun _ => none)
  have hl' : upw w x (.inr (5, [.ref nA, .ref cA, .ref lA, .int n', .int s.2.2.2.2.1, .int kn, .int s.2.2.2.2.2])) lA = some (.inl (4, 12, qc gl)) := by rw [upw_n d10]; exact hl
  have R : ∀ c q, rAt w c q → rAt (upw (upw w x (.inr (5, [.ref nA, .ref cA, .ref lA, .int n', .int s.2.2.2.2.1, .int kn, .int s.2.2.2.2.2]))) lA (.inl (4, 12, qc gl'))) c q := fun c q hc => rAt_up2 (rAt_up2 hc h1 (by simp)) hl' (by simp)
  have RR : ∀ c, isR w c → isR (upw (upw w x (.inr (5, [.ref nA, .ref cA, .ref lA, .int n', .int s.2.2.2.2.1, .int kn, .int s.2.2.2.2.2]))) lA (.inl (4, 12, qc gl'))) c := fun c hc => isR_up2 (isR_up2 hc h1 (by simp)) hl' (by simp)
  exact ⟨⟨gc, gl', ⟨by rw [upw_n d3]; exact upw_s _ _ _, by rw [upw_n d6, upw_n d4]; exact h2, by rw [upw_n d9, upw_n d7]; exact h3, upw_s _ _ _, fun i b z => RR b (h5 i b z), fun i b z => RR b (h6 i b z), h7, h8⟩, fun i hi => (k1 i hi).mp R, fun i hi => (k i hi).imp fun b z => ⟨z.1, R _ _ z.2⟩⟩, (h.2.up h1 (Or.inr rfl)).up hl' (Or.inr rfl)⟩
theorem CS.laid {s : AS} {gl : Nat → Option Nat} {b : Nat} {r : R4} (h : CS g w0 x nA cA lA kn s w) (hl : w lA = some (.inl (4, 12, qc gl))) (hgl : ∀ i c, gl i = some c → isR w c) (k : ∀ i : Nat, (i : Int) < s.2.2.1.toInt → ∃ c, gl i = some c ∧ rAt w c (s.2.2.2.1 i)) (hb : rAt w b r) (j : Nat) : CS g w0 x nA cA lA kn (sP_ s s.2.2.1 (va_up s.2.2.2.1 j r)) (upw w lA (.inl (4, 12, qc (va_up gl j (some b))))) := by
  refine h.ll hl (up_ok hgl fun c e => by cases e; exact hb.isR) fun i hi => ?_
  unfold va_up
  by_cases e : i = j
  · rw [if_pos e, if_pos e]
    exact ⟨b, rfl, hb⟩
  · rw [if_neg e, if_neg e]
    exact k i hi
/-- the pile with the gap at p closed up to e -/
def shf (f : Nat → R4) (p e : Nat) : Nat → R4 := fun i => if p ≤ i ∧ i < e then f (i + 1) else f i
/-- the pile without the place p -/
def rmv (f : Nat → R4) (p : Nat) : Nat → R4 := fun i => if i < p then f i else f (i + 1)
theorem shf_0 {f : Nat → R4} {p : Nat} : shf f p p = f := funext fun i => if_neg (by omega)
theorem shf_s {f : Nat → R4} {p e : Nat} (h : p ≤ e) : va_up (shf f p e) e (shf f p e (e + 1)) = shf f p (e + 1) := funext fun i => by
  unfold va_up shf
  by_cases k : i = e
  · subst k
    rw [if_pos rfl, if_neg (by omega), if_pos (by omega)]
  · rw [if_neg k]
    by_cases z : p ≤ i ∧ i < e
    · rw [if_pos z, if_pos (by omega)]
    · rw [if_neg z, if_neg (by omega)]
theorem shf_r {f : Nat → R4} {p e i : Nat} (h : i < e) : shf f p e i = rmv f p i := by
  unfold shf rmv
  by_cases z : i < p
  · rw [if_neg (by omega), if_pos z]
  · rw [if_pos (by omega), if_neg z]
theorem CS.gapS {s : AS} {n : Int32} {f : Nat → R4} {p e b : Nat} {gl : Nat → Option Nat} (h : CS g w0 x nA cA lA kn (sP_ s n (shf f p e)) w) (hl : w lA = some (.inl (4, 12, qc gl))) (hgl : ∀ i c, gl i = some c → isR w c) (k : ∀ i : Nat, (i : Int) < n.toInt → ∃ c, gl i = some c ∧ rAt w c (shf f p e i)) (hb : rAt w b (shf f p e (e + 1))) (hpe : p ≤ e) : CS g w0 x nA cA lA kn (sP_ s n (shf f p (e + 1))) (upw w lA (.inl (4, 12, qc (va_up gl e (some b))))) := by
  have z : CS g w0 x nA cA lA kn (sP_ s n (va_up (shf f p e) e (shf f p e (e + 1)))) (upw w lA (.inl (4, 12, qc (va_up gl e (some b))))) := CS.laid h hl hgl k hb e
  rw [shf_s hpe] at z
  exact z
theorem CS.gapE {s : AS} {n : Int32} {f : Nat → R4} {p e : Nat} {gl : Nat → Option Nat} (h : CS g w0 x nA cA lA kn (sP_ s n (shf f p e)) w) (hl : w lA = some (.inl (4, 12, qc gl))) (hgl : ∀ i c, gl i = some c → isR w c) (k : ∀ i : Nat, (i : Int) < n.toInt → ∃ c, gl i = some c ∧ rAt w c (shf f p e i)) (h0 : 0 < n) (h8 : ¬ 12 < n) (he : n.toInt = ((e + 1 : Nat) : Int)) : CS g w0 x nA cA lA kn (sP_ s (n - 1) (rmv f p)) (upw (upw w x (.inr (5, [.ref nA, .ref cA, .ref lA, .int (n - 1), .int s.2.2.2.2.1, .int kn, .int s.2.2.2.2.2]))) lA (.inl (4, 12, qc (va_up gl (n - 1).toNatClampNeg none)))) := by
  have e1 := cg_sub h0
  have e2 : (n - 1).toNatClampNeg = (n - 1).toInt.toNat := rfl
  refine CS.xl (s := sP_ s n (shf f p e)) (F := rmv f p) h hl (up_ok hgl fun c e => by cases e) (cg3 h0) (cg4 h0 h8) fun i hi => ?_
  rw [show va_up gl (n - 1).toNatClampNeg none i = gl i from if_neg (by omega), ← shf_r (f := f) (p := p) (e := e) (i := i) (by omega)]
  exact k i (by omega)
set_option maxHeartbeats 4000000 in
theorem flX1_closeGap_4 {s : AS} {a0 : Int32} {f : Nat → R4} {n : Int32} {p N : Nat} (he : n.toInt = (N : Int)) (h12 : N ≤ 12) (hp0 : 0 < n) (hQ : ∀ w', CS g w0 x nA cA lA kn (sP_ s (n - 1) (rmv f p)) w' → Q (.inl none) w') : ∀ (d e : Nat) (w : Hw) (k m : Nat), e + 1 + d = N → p ≤ e → CS g w0 x nA cA lA kn (sP_ s n (shf f p e)) w → k ≤ 0 → m ≤ 0 → WP (MX1_closeGap g) Q (4, [some (.ref x), some (.int a0), some (.int (Int32.ofNat (e + 1)))], [], w, k, m) := by
  intro d
  induction d with
  | zero =>
    intro e w k m hjd hpe hC hk hm
    obtain ⟨gc, gl, ⟨hx, hn, hc, hl, hgc, hgl, hn0, hn1, rx, rn, rc, rl, ⟨d1, d2, d3, d4, d5, d6⟩, ⟨d7, d8, d9, d10, d11, d12⟩⟩, hcd, hpl⟩ := hC.opnP
    have h9 : e + 1 < 1000 := by omega
    have hlt : ¬ Int32.ofNat (e + 1) < n := oNg h9 he (by omega)
    rw [eX1_closeGap_4]
    repeat' first
      | with_reducible assumption
      | with_reducible refine And.intro ?_ ?_
      | with_reducible exact vpi6 (by assumption) (by assumption)
      | with_reducible exact vpi8 (by assumption) (by assumption)
      | with_reducible exact trivial
      | with_reducible exact cg2 hp0 hn1
      | ((with_reducible refine isQ (Q := Q) ?_); exact hQ _ (hC.gapE hl hgl hpl hp0 hn1 (by omega)))
      | simp only [eX1_closeGap_0, eX1_closeGap_1, eX1_closeGap_2, eX1_closeGap_3, eX1_closeGap_5, eX1_closeGap_5N, eX1_closeGap_6, eX1_closeGap_9, eX1_closeGap_12, eX1_closeGap_12N, eX1_closeGap_13, eX1_closeGap_16, eX1_closeGap_17, eX1_closeGap_18, eX1_closeGap_19, eX1_closeGap_19N, eX1_closeGap_20, eX1_closeGap_23, eX1_closeGap_24, eX1_closeGap_25N, eX1_closeGap_25R, eX1_closeGap_26, eX1_closeGap_29, eX1_closeGap_32, eX1_closeGap_32N, eX1_closeGap_33, eX1_closeGap_33R, eX1_closeGap_34, eX1_closeGap_37, eX1_closeGap_38, eX1_closeGap_39, eX1_closeGap_42, eX1_closeGap_42N, eX1_closeGap_43, eX1_closeGap_46, eX1_closeGap_46N, eX1_closeGap_47, eX1_closeGap_50, eX1_closeGap_51N, eX1_closeGap_51R, eX1_closeGap_52, lgp, lgn, lgz, i10, i00, if_true, if_false, eq_self, not_true, not_false_eq_true, rx, rn, rc, rl, hx, hn, hc, hl, d1, d2, d3, d4, d5, d6, d7, d8, d9, d10, d11, d12, rd_n, upw_n, hlt, ite_le, n45, n54, true_or, or_true, false_or, or_false, false_and, and_false, kx_l, kx_r, go_s, gl_s, gi_s, gb_s2, gb_s3, gq_s, wt_nil, wt_int, wt_long, wt_ref, wt_null, nl_int, nl_long, nl_ref, nl_null, nl_none, rf_n, rf_s, rf_st, tl_s, tl_n, g0, gS, ex1, nb_b, nb_0, nb_1, nf_i, nf_l, nf_ra, nf_ro, nf_na, nf_no, nf_b0, nf_z0, t45_4, t45_5, true_and, and_true, List.set_cons_zero, List.set_cons_succ, List.length_cons, List.length_nil, rd_s, upw_s, ne_eq, not_false_eq_true, Nat.zero_add, Nat.add_zero]
      | split
      | with_reducible intro _
      | omega
  | succ d ih =>
    intro e w k m hjd hpe hC hk hm
    obtain ⟨gc, gl, ⟨hx, hn, hc, hl, hgc, hgl, hn0, hn1, rx, rn, rc, rl, ⟨d1, d2, d3, d4, d5, d6⟩, ⟨d7, d8, d9, d10, d11, d12⟩⟩, hcd, hpl⟩ := hC.opnP
    have h9 : e + 1 < 1000 := by omega
    have hlt : Int32.ofNat (e + 1) < n := oNl h9 he (by omega)
    have hms := oMs h9
    have hcl := oNc h9
    have hcm := oNc (j := e) (by omega)
    obtain ⟨b, hb, hrb⟩ := hpl (e + 1) (by omega)
    rw [eX1_closeGap_4]
    repeat' first
      | with_reducible assumption
      | with_reducible refine And.intro ?_ ?_
      | with_reducible exact vpi6 (by assumption) (by assumption)
      | with_reducible exact vpi8 (by assumption) (by assumption)
      | with_reducible exact trivial
      | with_reducible exact vpj (by omega)
      | with_reducible refine Or.inl ?_
      | with_reducible exact go_Fw hrb trivial
      | (rw [oN1]; exact ih (e + 1) _ _ _ (by omega) (by omega) (hC.gapS hl hgl hpl hrb hpe) (by first | assumption | omega) (by first | assumption | omega))
      | simp only [eX1_closeGap_0, eX1_closeGap_1, eX1_closeGap_2, eX1_closeGap_3, eX1_closeGap_5, eX1_closeGap_5N, eX1_closeGap_6, eX1_closeGap_9, eX1_closeGap_12, eX1_closeGap_12N, eX1_closeGap_13, eX1_closeGap_16, eX1_closeGap_17, eX1_closeGap_18, eX1_closeGap_19, eX1_closeGap_19N, eX1_closeGap_20, eX1_closeGap_23, eX1_closeGap_24, eX1_closeGap_25N, eX1_closeGap_25R, eX1_closeGap_26, eX1_closeGap_29, eX1_closeGap_32, eX1_closeGap_32N, eX1_closeGap_33, eX1_closeGap_33R, eX1_closeGap_34, eX1_closeGap_37, eX1_closeGap_38, eX1_closeGap_39, eX1_closeGap_42, eX1_closeGap_42N, eX1_closeGap_43, eX1_closeGap_46, eX1_closeGap_46N, eX1_closeGap_47, eX1_closeGap_50, eX1_closeGap_51N, eX1_closeGap_51R, eX1_closeGap_52, lgp, lgn, lgz, i10, i00, if_true, if_false, eq_self, not_true, not_false_eq_true, rx, rn, rc, rl, hx, hn, hc, hl, d1, d2, d3, d4, d5, d6, d7, d8, d9, d10, d11, d12, rd_n, upw_n, hlt, hms, hcl, hcm, hb, sal, snn, ite_le, n45, n54, true_or, or_true, false_or, or_false, false_and, and_false, kx_l, kx_r, go_s, gl_s, gi_s, gb_s2, gb_s3, gq_s, wt_nil, wt_int, wt_long, wt_ref, wt_null, nl_int, nl_long, nl_ref, nl_null, nl_none, rf_n, rf_s, rf_st, tl_s, tl_n, g0, gS, ex1, nb_b, nb_0, nb_1, nf_i, nf_l, nf_ra, nf_ro, nf_na, nf_no, nf_b0, nf_z0, t45_4, t45_5, true_and, and_true, List.set_cons_zero, List.set_cons_succ, List.length_cons, List.length_nil, rd_s, upw_s, ne_eq, not_false_eq_true, Nat.zero_add, Nat.add_zero]
      | split
      | with_reducible intro _
      | omega
theorem n0p {n : Int32} {p : Nat} (h : p < n.toInt.toNat) : 0 < n := i32_of_lt (by
  show (0 : Int) < n.toInt
  omega)
theorem oN9 {i : Nat} (h : i < 1000) : ¬ Int32.ofNat i = -1 := fun e => oN0 h (by rw [e]; decide)
set_option maxHeartbeats 4000000 in
theorem fX1_closeGap {s : AS} {p : Nat} (hC : CS g w0 x nA cA lA kn s w) (hp : p < s.2.2.1.toInt.toNat) (hQ : ∀ w', CS g w0 x nA cA lA kn (sP_ s (s.2.2.1 - 1) (rmv s.2.2.2.1 p)) w' → Q (.inl none) w') : WP (MX1_closeGap g) Q (0, [some (.ref x), some (.int (Int32.ofNat p)), none], [], w, 0, 0) := by
  obtain ⟨gc, gl, ⟨hx, hn, hc, hl, hgc, hgl, hn0, hn1, rx, rn, rc, rl, ⟨d1, d2, d3, d4, d5, d6⟩, ⟨d7, d8, d9, d10, d11, d12⟩⟩, hcd, hpl⟩ := hC.1.opn g
  repeat' first
    | with_reducible assumption
    | with_reducible refine And.intro ?_ ?_
    | with_reducible exact vpi6 (by assumption) (by assumption)
    | with_reducible exact vpi8 (by assumption) (by assumption)
    | with_reducible exact trivial
    | (rw [oN1]; exact flX1_closeGap_4 (s := s) (f := s.2.2.2.1) (n := s.2.2.1) (p := p) (cnt12 hn0 hn1).1 (cnt12 hn0 hn1).2 (n0p hp) hQ (s.2.2.1.toInt.toNat - (p + 1)) p w 0 0 (by omega) (Nat.le_refl p) (by rw [shf_0]; exact hC) (by decide) (by decide))
    | simp only [eX1_closeGap_0, eX1_closeGap_1, eX1_closeGap_2, eX1_closeGap_3, eX1_closeGap_5, eX1_closeGap_5N, eX1_closeGap_6, eX1_closeGap_9, eX1_closeGap_12, eX1_closeGap_12N, eX1_closeGap_13, eX1_closeGap_16, eX1_closeGap_17, eX1_closeGap_18, eX1_closeGap_19, eX1_closeGap_19N, eX1_closeGap_20, eX1_closeGap_23, eX1_closeGap_24, eX1_closeGap_25N, eX1_closeGap_25R, eX1_closeGap_26, eX1_closeGap_29, eX1_closeGap_32, eX1_closeGap_32N, eX1_closeGap_33, eX1_closeGap_33R, eX1_closeGap_34, eX1_closeGap_37, eX1_closeGap_38, eX1_closeGap_39, eX1_closeGap_42, eX1_closeGap_42N, eX1_closeGap_43, eX1_closeGap_46, eX1_closeGap_46N, eX1_closeGap_47, eX1_closeGap_50, eX1_closeGap_51N, eX1_closeGap_51R, eX1_closeGap_52, lgp, lgn, lgz, i10, i00, if_true, if_false, eq_self, not_true, not_false_eq_true, rx, rn, rc, rl, hx, hn, hc, hl, d1, d2, d3, d4, d5, d6, d7, d8, d9, d10, d11, d12, rd_n, upw_n, ite_le, n45, n54, true_or, or_true, false_or, or_false, false_and, and_false, kx_l, kx_r, go_s, gl_s, gi_s, gb_s2, gb_s3, gq_s, wt_nil, wt_int, wt_long, wt_ref, wt_null, nl_int, nl_long, nl_ref, nl_null, nl_none, rf_n, rf_s, rf_st, tl_s, tl_n, g0, gS, ex1, nb_b, nb_0, nb_1, nf_i, nf_l, nf_ra, nf_ro, nf_na, nf_no, nf_b0, nf_z0, t45_4, t45_5, true_and, and_true, List.set_cons_zero, List.set_cons_succ, List.length_cons, List.length_nil, rd_s, upw_s, ne_eq, not_false_eq_true, Nat.zero_add, Nat.add_zero]
    | split
    | with_reducible intro _
    | omega
theorem m11 : ((-1 : Int32) = -1) = True := eq_true rfl
set_option maxHeartbeats 4000000 in
theorem fX1_lift {s : AS} {a0 : Int32} (hC : CS g w0 x nA cA lA kn s w) (hX : ¬ okC a0 → (Q (.inr "java/lang/IndexOutOfBoundsException") w)) (hS : okC a0 → s.2.1 a0.toNatClampNeg = none → (Q (.inr "java/lang/IllegalStateException") w)) (hN : okC a0 → ∀ r, s.2.1 a0.toNatClampNeg = some r → (∀ i, i < s.2.2.1.toInt.toNat → ¬ mP r (s.2.2.2.1 i)) → Q (.inl (some (.int 0))) w) (hQ : okC a0 → ∀ r, s.2.1 a0.toNatClampNeg = some r → ∀ i, i < s.2.2.1.toInt.toNat → mP r (s.2.2.2.1 i) → (∀ k, k < i → ¬ mP r (s.2.2.2.1 k)) → ∀ w', CS g w0 x nA cA lA kn (sP_ s (s.2.2.1 - 1) (rmv s.2.2.2.1 i)) w' → Q (.inl (some (.int 1))) w') : WP (MX1_lift g) Q (0, [some (.ref x), some (.int a0), none], [], w, 0, 0) := by
  obtain ⟨gc, gl, ⟨hx, hn, hc, hl, hgc, hgl, hn0, hn1, rx, rn, rc, rl, ⟨d1, d2, d3, d4, d5, d6⟩, ⟨d7, d8, d9, d10, d11, d12⟩⟩, hcd, hpl⟩ := hC.1.opn g
  repeat' first
    | with_reducible assumption
    | with_reducible refine And.intro ?_ ?_
    | with_reducible exact vpi6 (by assumption) (by assumption)
    | with_reducible exact vpi8 (by assumption) (by assumption)
    | with_reducible exact trivial
    | with_reducible exact hX (by assumption)
    | with_reducible refine fX1_rangeOf (a0 := a0) hC (fun _ => ?_) (fun k0 e1 => ?_) (fun k0 p r e1 hp => ?_)
    | with_reducible refine go_F hp ?_
    | with_reducible exact go_F hp trivial
    | with_reducible exact hS k0 e1
    | with_reducible refine fX1_firstPlaceOf hC hp (fun z1 => ?_) (fun i z1 z2 z3 => ?_)
    | with_reducible exact hN k0 r e1 z1
    | with_reducible exact absurd (by assumption) (oN9 (i := i) (by have := (cnt12 hn0 hn1).2; omega))
    | with_reducible refine fX1_closeGap hC z1 (fun w1 g1 => ?_)
    | with_reducible exact hQ k0 r e1 i z1 z2 z3 w1 g1
    | simp only [eX1_lift_0, eX1_lift_0N, eX1_lift_1, eX1_lift_1N, eX1_lift_2, eX1_lift_3, eX1_lift_6R, eX1_lift_6N, eX1_lift_9, eX1_lift_10, eX1_lift_11, eX1_lift_12, eX1_lift_15, eX1_lift_16, eX1_lift_17, eX1_lift_17N, eX1_lift_18, eX1_lift_19, eX1_lift_22, eX1_lift_23, lgp, lgn, lgz, i10, i00, if_true, if_false, eq_self, not_true, not_false_eq_true, rx, rn, rc, rl, hx, hn, hc, hl, d1, d2, d3, d4, d5, d6, d7, d8, d9, d10, d11, d12, rd_n, upw_n, m11, ite_le, n45, n54, true_or, or_true, false_or, or_false, false_and, and_false, kx_l, kx_r, go_s, gl_s, gi_s, gb_s2, gb_s3, gq_s, wt_nil, wt_int, wt_long, wt_ref, wt_null, nl_int, nl_long, nl_ref, nl_null, nl_none, rf_n, rf_s, rf_st, tl_s, tl_n, g0, gS, ex1, nb_b, nb_0, nb_1, nf_i, nf_l, nf_ra, nf_ro, nf_na, nf_no, nf_b0, nf_z0, t45_4, t45_5, true_and, and_true, List.set_cons_zero, List.set_cons_succ, List.length_cons, List.length_nil, rd_s, upw_s, ne_eq, not_false_eq_true, Nat.zero_add, Nat.add_zero]
    | split
    | with_reducible intro _
    | omega
end
end
/-! 71.fnb.lean.txt -/
section
section
variable {g : RO} {Q : Ot → Hw → Prop} {w0 w : Hw} {x nA cA lA : Nat} {kn : Int32}
/-! FUNCTIONAL SPECS, 11: the pile turned and swept -/
def tur (f : Nat → R4) (N j : Nat) : Nat → R4 := fun i => if i < j ∨ (N - j ≤ i ∧ i < N) then f (N - 1 - i) else f i
def rev (f : Nat → R4) (N : Nat) : Nat → R4 := fun i => f (N - 1 - i)
theorem tur_0 {f : Nat → R4} {N : Nat} : tur f N 0 = f := funext fun i => if_neg (by omega)
theorem tur_s {f : Nat → R4} {N j : Nat} (h : 2 * j + 2 ≤ N) : va_up (va_up (tur f N j) j (tur f N j (N - 1 - j))) (N - 1 - j) (tur f N j j) = tur f N (j + 1) := funext fun i => by
  unfold va_up tur
  rw [if_neg (show ¬ (N - 1 - j < j ∨ (N - j ≤ N - 1 - j ∧ N - 1 - j < N)) by omega), if_neg (show ¬ (j < j ∨ (N - j ≤ j ∧ j < N)) by omega)]
  by_cases k : i = N - 1 - j
  · rw [if_pos k, if_pos (by omega)]
    exact congrArg f (by omega)
  · rw [if_neg k]
    by_cases z : i = j
    · rw [if_pos z, if_pos (by omega)]
      exact congrArg f (by omega)
    · rw [if_neg z]
      by_cases y : i < j ∨ (N - j ≤ i ∧ i < N)
      · rw [if_pos y, if_pos (by omega)]
      · rw [if_neg y, if_neg (by omega)]
theorem tur_e {f : Nat → R4} {N i : Nat} (h : i < N) : tur f N (N / 2) i = rev f N i := by
  unfold tur rev
  by_cases y : i < N / 2 ∨ (N - N / 2 ≤ i ∧ i < N)
  · rw [if_pos y]
  · rw [if_neg y]
    exact congrArg f (by omega)
theorem hlfE {n : Int32} (h0 : ¬ n < 0) (h1 : ¬ 12 < n) : (n / 2).toInt = ((n.toInt.toNat / 2 : Nat) : Int) := by
  have e12 : (12 : Int32).toInt = 12 := rfl
  rcases sw_0 n 12 (by decide) with ⟨k, h, rfl⟩ | h
  · match k, h with
    | 0, _ => decide
    | 1, _ => decide
    | 2, _ => decide
    | 3, _ => decide
    | 4, _ => decide
    | 5, _ => decide
    | 6, _ => decide
    | 7, _ => decide
    | 8, _ => decide
    | 9, _ => decide
    | 10, _ => decide
    | 11, _ => decide
    | 12, _ => decide
  · exfalso
    have a := i32_0 h0
    have b := i32_nlt h1
    omega
theorem acE {n : Int32} {N j : Nat} (he : n.toInt = (N : Int)) (h12 : N ≤ 12) (h : j < N) : n - 1 - Int32.ofNat j = Int32.ofNat (N - 1 - j) := by
  have e1 : (1 : Int32).toInt = 1 := rfl
  have a1 := oNt (j := j) (by omega)
  have a2 := oNt (j := N - 1 - j) (by omega)
  have s1 : (n - 1).toInt = n.toInt - 1 := by rw [i32_sub (by omega) (by omega), e1]
  refine Int32.toInt_inj.1 ?_
  rw [i32_sub (by omega) (by omega), s1, a1, a2]
  omega
theorem CS.turS {s : AS} {n : Int32} {f : Nat → R4} {N j b1 b2 : Nat} {gl : Nat → Option Nat} (h : CS g w0 x nA cA lA kn (sP_ s n (tur f N j)) w) (hl : w lA = some (.inl (4, 12, qc gl))) (hgl : ∀ i c, gl i = some c → isR w c) (k : ∀ i : Nat, (i : Int) < n.toInt → ∃ c, gl i = some c ∧ rAt w c (tur f N j i)) (h1 : rAt w b1 (tur f N j j)) (h2 : rAt w b2 (tur f N j (N - 1 - j))) (hj : 2 * j + 2 ≤ N) : CS g w0 x nA cA lA kn (sP_ s n (tur f N (j + 1))) (upw (upw w lA (.inl (4, 12, qc (va_up gl j (some b2))))) lA (.inl (4, 12, qc (va_up (va_up gl j (some b2)) (N - 1 - j) (some b1))))) := by
  have z : CS g w0 x nA cA lA kn (sP_ s n (va_up (tur f N j) j (tur f N j (N - 1 - j)))) (upw w lA (.inl (4, 12, qc (va_up gl j (some b2))))) := CS.laid h hl hgl k h2 j
  have y : CS g w0 x nA cA lA kn (sP_ s n (va_up (va_up (tur f N j) j (tur f N j (N - 1 - j))) (N - 1 - j) (tur f N j j))) (upw (upw w lA (.inl (4, 12, qc (va_up gl j (some b2))))) lA (.inl (4, 12, qc (va_up (va_up gl j (some b2)) (N - 1 - j) (some b1))))) := CS.laid z (upw_s _ _ _) (fun i c e => isR_up2 (up_ok hgl (fun c e => by cases e; exact h2.isR) i c e) hl (by simp)) (fun i hi => by
    obtain ⟨c, c1, c2⟩ := k i hi
    show ∃ c, va_up gl j (some b2) i = some c ∧ rAt _ c (va_up (tur f N j) j (tur f N j (N - 1 - j)) i)
    unfold va_up
    by_cases e : i = j
    · rw [if_pos e, if_pos e]
      exact ⟨b2, rfl, rAt_up2 h2 hl (by simp)⟩
    · rw [if_neg e, if_neg e]
      exact ⟨c, c1, rAt_up2 c2 hl (by simp)⟩) (rAt_up2 h1 hl (by simp)) (N - 1 - j)
  rw [tur_s hj] at y
  exact y
theorem CS.turE {s : AS} {n : Int32} {f : Nat → R4} {N j : Nat} (h : CS g w0 x nA cA lA kn (sP_ s n (tur f N j)) w) (he : n.toInt = (N : Int)) (hj : j = N / 2) : CS g w0 x nA cA lA kn (sP_ s n (rev f N)) w := by
  subst hj
  exact h.pcg fun i hi => tur_e (by omega)
set_option maxHeartbeats 4000000 in
theorem flX1_turn_2 {s : AS} {f : Nat → R4} {n : Int32} {N : Nat} (he : n.toInt = (N : Int)) (h12 : N ≤ 12) (hv : (n / 2).toInt = ((N / 2 : Nat) : Int)) (hQ : ∀ w', CS g w0 x nA cA lA kn (sP_ s n (rev f N)) w' → Q (.inl (some (.int n))) w') : ∀ (d j : Nat) (i2 i3 : Option Value) (w : Hw) (k m : Nat), j + d = N / 2 → CS g w0 x nA cA lA kn (sP_ s n (tur f N j)) w → k ≤ 0 → m ≤ 0 → WP (MX1_turn g) Q (2, [some (.ref x), some (.int (Int32.ofNat j)), i2, i3], [], w, k, m) := by
  intro d
  induction d with
  | zero =>
    intro j i2 i3 w k m hjd hC hk hm
    obtain ⟨gc, gl, ⟨hx, hn, hc, hl, hgc, hgl, hn0, hn1, rx, rn, rc, rl, ⟨d1, d2, d3, d4, d5, d6⟩, ⟨d7, d8, d9, d10, d11, d12⟩⟩, hcd, hpl⟩ := hC.opnP
    have h9 : j < 1000 := by omega
    have hlt : ¬ Int32.ofNat j < n / 2 := oNg h9 hv (by omega)
    rw [eX1_turn_2]
    repeat' first
      | with_reducible assumption
      | with_reducible refine And.intro ?_ ?_
      | with_reducible exact vpi6 (by assumption) (by assumption)
      | with_reducible exact vpi8 (by assumption) (by assumption)
      | with_reducible exact trivial
      | ((with_reducible refine isQ (Q := Q) ?_); exact hQ _ (hC.turE he (by omega)))
      | simp only [eX1_turn_0, eX1_turn_1, eX1_turn_3, eX1_turn_3N, eX1_turn_4, eX1_turn_7, eX1_turn_8, eX1_turn_9, eX1_turn_12, eX1_turn_12N, eX1_turn_13, eX1_turn_16, eX1_turn_17, eX1_turn_18, eX1_turn_19, eX1_turn_20, eX1_turn_21, eX1_turn_21N, eX1_turn_22, eX1_turn_25, eX1_turn_26, eX1_turn_27, eX1_turn_27N, eX1_turn_28, eX1_turn_28N, eX1_turn_29, eX1_turn_32, eX1_turn_33, eX1_turn_33N, eX1_turn_34, eX1_turn_37, eX1_turn_38, eX1_turn_39N, eX1_turn_39R, eX1_turn_40, eX1_turn_40N, eX1_turn_41, eX1_turn_44, eX1_turn_45, eX1_turn_45N, eX1_turn_46N, eX1_turn_46R, eX1_turn_47, eX1_turn_50, eX1_turn_53, eX1_turn_53N, eX1_turn_54, eX1_turn_57, lgp, lgn, lgz, i10, i00, if_true, if_false, eq_self, not_true, not_false_eq_true, rx, rn, rc, rl, hx, hn, hc, hl, d1, d2, d3, d4, d5, d6, d7, d8, d9, d10, d11, d12, rd_n, upw_n, hlt, tn_2, ite_le, n45, n54, true_or, or_true, false_or, or_false, false_and, and_false, kx_l, kx_r, go_s, gl_s, gi_s, gb_s2, gb_s3, gq_s, wt_nil, wt_int, wt_long, wt_ref, wt_null, nl_int, nl_long, nl_ref, nl_null, nl_none, rf_n, rf_s, rf_st, tl_s, tl_n, g0, gS, ex1, nb_b, nb_0, nb_1, nf_i, nf_l, nf_ra, nf_ro, nf_na, nf_no, nf_b0, nf_z0, t45_4, t45_5, true_and, and_true, List.set_cons_zero, List.set_cons_succ, List.length_cons, List.length_nil, rd_s, upw_s, ne_eq, not_false_eq_true, Nat.zero_add, Nat.add_zero]
      | split
      | with_reducible intro _
      | omega
  | succ d ih =>
    intro j i2 i3 w k m hjd hC hk hm
    obtain ⟨gc, gl, ⟨hx, hn, hc, hl, hgc, hgl, hn0, hn1, rx, rn, rc, rl, ⟨d1, d2, d3, d4, d5, d6⟩, ⟨d7, d8, d9, d10, d11, d12⟩⟩, hcd, hpl⟩ := hC.opnP
    have h9 : j < 1000 := by omega
    have hlt : Int32.ofNat j < n / 2 := oNl h9 hv (by omega)
    have hac := acE (j := j) he h12 (by omega)
    have hcl := oNc h9
    have hcm := oNc (j := N - 1 - j) (by omega)
    obtain ⟨b1, hb1, hr1⟩ := hpl j (by omega)
    obtain ⟨b2, hb2, hr2⟩ := hpl (N - 1 - j) (by omega)
    rw [eX1_turn_2]
    repeat' first
      | with_reducible assumption
      | with_reducible refine And.intro ?_ ?_
      | with_reducible exact vpi6 (by assumption) (by assumption)
      | with_reducible exact vpi8 (by assumption) (by assumption)
      | with_reducible exact trivial
      | with_reducible exact vpj (by omega)
      | with_reducible refine Or.inl ?_
      | with_reducible exact go_Fw hr2 trivial
      | with_reducible exact go_Fw (rAt_up2 hr1 hl (by simp)) trivial
      | (rw [oN1]; exact ih (j + 1) _ _ _ _ _ (by omega) (hC.turS hl hgl hpl hr1 hr2 (by omega)) (by first | assumption | omega) (by first | assumption | omega))
      | simp only [eX1_turn_0, eX1_turn_1, eX1_turn_3, eX1_turn_3N, eX1_turn_4, eX1_turn_7, eX1_turn_8, eX1_turn_9, eX1_turn_12, eX1_turn_12N, eX1_turn_13, eX1_turn_16, eX1_turn_17, eX1_turn_18, eX1_turn_19, eX1_turn_20, eX1_turn_21, eX1_turn_21N, eX1_turn_22, eX1_turn_25, eX1_turn_26, eX1_turn_27, eX1_turn_27N, eX1_turn_28, eX1_turn_28N, eX1_turn_29, eX1_turn_32, eX1_turn_33, eX1_turn_33N, eX1_turn_34, eX1_turn_37, eX1_turn_38, eX1_turn_39N, eX1_turn_39R, eX1_turn_40, eX1_turn_40N, eX1_turn_41, eX1_turn_44, eX1_turn_45, eX1_turn_45N, eX1_turn_46N, eX1_turn_46R, eX1_turn_47, eX1_turn_50, eX1_turn_53, eX1_turn_53N, eX1_turn_54, eX1_turn_57, lgp, lgn, lgz, i10, i00, if_true, if_false, eq_self, not_true, not_false_eq_true, rx, rn, rc, rl, hx, hn, hc, hl, d1, d2, d3, d4, d5, d6, d7, d8, d9, d10, d11, d12, rd_n, upw_n, hlt, tn_2, hac, hcl, hcm, hb1, hb2, sal, snn, ite_le, n45, n54, true_or, or_true, false_or, or_false, false_and, and_false, kx_l, kx_r, go_s, gl_s, gi_s, gb_s2, gb_s3, gq_s, wt_nil, wt_int, wt_long, wt_ref, wt_null, nl_int, nl_long, nl_ref, nl_null, nl_none, rf_n, rf_s, rf_st, tl_s, tl_n, g0, gS, ex1, nb_b, nb_0, nb_1, nf_i, nf_l, nf_ra, nf_ro, nf_na, nf_no, nf_b0, nf_z0, t45_4, t45_5, true_and, and_true, List.set_cons_zero, List.set_cons_succ, List.length_cons, List.length_nil, rd_s, upw_s, ne_eq, not_false_eq_true, Nat.zero_add, Nat.add_zero]
      | split
      | with_reducible intro _
      | omega
set_option maxHeartbeats 4000000 in
theorem fX1_turn {s : AS} (hC : CS g w0 x nA cA lA kn s w) (hQ : ∀ w', CS g w0 x nA cA lA kn (sP_ s s.2.2.1 (rev s.2.2.2.1 s.2.2.1.toInt.toNat)) w' → Q (.inl (some (.int s.2.2.1))) w') : WP (MX1_turn g) Q (0, [some (.ref x), none, none, none], [], w, 0, 0) := by
  obtain ⟨gc, gl, ⟨hx, hn, hc, hl, hgc, hgl, hn0, hn1, rx, rn, rc, rl, ⟨d1, d2, d3, d4, d5, d6⟩, ⟨d7, d8, d9, d10, d11, d12⟩⟩, hcd, hpl⟩ := hC.1.opn g
  repeat' first
    | with_reducible assumption
    | with_reducible refine And.intro ?_ ?_
    | with_reducible exact vpi6 (by assumption) (by assumption)
    | with_reducible exact vpi8 (by assumption) (by assumption)
    | with_reducible exact trivial
    | ((with_reducible refine isWP (pc := 2) ?_); exact flX1_turn_2 (s := s) (f := s.2.2.2.1) (n := s.2.2.1) (cnt12 hn0 hn1).1 (cnt12 hn0 hn1).2 (hlfE hn0 hn1) hQ (s.2.2.1.toInt.toNat / 2) 0 _ _ w 0 0 (by omega) (by rw [tur_0]; exact hC) (by decide) (by decide))
    | simp only [eX1_turn_0, eX1_turn_1, eX1_turn_3, eX1_turn_3N, eX1_turn_4, eX1_turn_7, eX1_turn_8, eX1_turn_9, eX1_turn_12, eX1_turn_12N, eX1_turn_13, eX1_turn_16, eX1_turn_17, eX1_turn_18, eX1_turn_19, eX1_turn_20, eX1_turn_21, eX1_turn_21N, eX1_turn_22, eX1_turn_25, eX1_turn_26, eX1_turn_27, eX1_turn_27N, eX1_turn_28, eX1_turn_28N, eX1_turn_29, eX1_turn_32, eX1_turn_33, eX1_turn_33N, eX1_turn_34, eX1_turn_37, eX1_turn_38, eX1_turn_39N, eX1_turn_39R, eX1_turn_40, eX1_turn_40N, eX1_turn_41, eX1_turn_44, eX1_turn_45, eX1_turn_45N, eX1_turn_46N, eX1_turn_46R, eX1_turn_47, eX1_turn_50, eX1_turn_53, eX1_turn_53N, eX1_turn_54, eX1_turn_57, lgp, lgn, lgz, i10, i00, if_true, if_false, eq_self, not_true, not_false_eq_true, rx, rn, rc, rl, hx, hn, hc, hl, d1, d2, d3, d4, d5, d6, d7, d8, d9, d10, d11, d12, rd_n, upw_n, ite_le, n45, n54, true_or, or_true, false_or, or_false, false_and, and_false, kx_l, kx_r, go_s, gl_s, gi_s, gb_s2, gb_s3, gq_s, wt_nil, wt_int, wt_long, wt_ref, wt_null, nl_int, nl_long, nl_ref, nl_null, nl_none, rf_n, rf_s, rf_st, tl_s, tl_n, g0, gS, ex1, nb_b, nb_0, nb_1, nf_i, nf_l, nf_ra, nf_ro, nf_na, nf_no, nf_b0, nf_z0, t45_4, t45_5, true_and, and_true, List.set_cons_zero, List.set_cons_succ, List.length_cons, List.length_nil, rd_s, upw_s, ne_eq, not_false_eq_true, Nat.zero_add, Nat.add_zero]
    | split
    | with_reducible intro _
    | omega
theorem upw_upw {w : Hw} {a : Nat} {o o' : Ob} : upw (upw w a o) a o' = upw w a o' := funext fun c => by
  by_cases e : c = a
  · subst e
    rw [upw_s, upw_s]
  · rw [upw_n e, upw_n e, upw_n e]
theorem upw_id {w : Hw} {a : Nat} {o : Ob} (h : w a = some o) : upw w a o = w := funext fun c => by
  by_cases e : c = a
  · subst e
    rw [upw_s, h]
  · rw [upw_n e]
/-- while the pile is swept: the rest is as it was -/
def SW (g : RO) (w0 : Hw) (x nA cA lA : Nat) (kn : Int32) (s : AS) (w1 : Hw) : Prop := ∃ (w : Hw) (gl gl1 : Nat → Option Nat), CS g w0 x nA cA lA kn s w ∧ w lA = some (.inl (4, 12, qc gl)) ∧ (∀ i b, gl1 i = some b → isR w b) ∧ w1 = upw w lA (.inl (4, 12, qc gl1))
theorem SW.of {s : AS} (h : CS g w0 x nA cA lA kn s w) : SW g w0 x nA cA lA kn s w := by
  obtain ⟨gc, gl, ⟨h1, h2, h3, h4, h5, h6, -⟩, -⟩ := h.1.opn g
  exact ⟨w, gl, gl, h, h4, h6, (upw_id h4).symm⟩
theorem SW.opn {s : AS} (h : SW g w0 x nA cA lA kn s w) : ∃ gc gl : Nat → Option Nat, RO5 g w x nA cA lA s.2.2.1 s.2.2.2.2.1 kn s.2.2.2.2.2 s.1 gc gl := by
  obtain ⟨w, gl, gl1, hC, hl, h6', rfl⟩ := h
  obtain ⟨gc, gl', ⟨h1, h2, h3, h4, h5, h6, h7, h8, -, -, -, -, ⟨d1, d2, d3, d4, d5, d6⟩, ⟨d7, d8, d9, d10, d11, d12⟩⟩, -⟩ := hC.1.opn g
  have g1 := (upw_n (o := .inl (4, 12, qc gl1)) d3).trans h1
  have g2 := (upw_n (o := .inl (4, 12, qc gl1)) d6).trans h2
  have g3 := (upw_n (o := .inl (4, 12, qc gl1)) d9).trans h3
  have g4 := upw_s w lA (.inl (4, 12, qc gl1))
  exact ⟨gc, gl1, g1, g2, g3, g4, fun i b z => isR_up2 (h5 i b z) hl (by simp), fun i b z => isR_up2 (h6' i b z) hl (by simp), h7, h8, rd_e g1, rd_e g2, rd_e g3, rd_e g4, ⟨d1, d2, d3, d4, d5, d6⟩, ⟨d7, d8, d9, d10, d11, d12⟩⟩
theorem SW.nul {s : AS} {gl : Nat → Option Nat} (h : SW g w0 x nA cA lA kn s w) (hl : w lA = some (.inl (4, 12, qc gl))) (j : Nat) : SW g w0 x nA cA lA kn s (upw w lA (.inl (4, 12, qc (va_up gl j none)))) := by
  obtain ⟨w, gl', gl1, hC, hl', h6, rfl⟩ := h
  rw [upw_s] at hl
  cases hl
  exact ⟨w, gl', va_up gl j none, hC, hl', up_ok h6 (fun c e => by cases e), upw_upw⟩
theorem SW.fin {s : AS} (h : SW g w0 x nA cA lA kn s w) (F : Nat → R4) : CS g w0 x nA cA lA kn (sP_ s 0 F) (upw w x (.inr (5, [.ref nA, .ref cA, .ref lA, .int 0, .int s.2.2.2.2.1, .int kn, .int s.2.2.2.2.2]))) := by
  obtain ⟨w, gl', gl1, hC, hl, h6, rfl⟩ := h
  obtain ⟨gc, gl', ⟨h1, h2, h3, h4, h5, -, -, -, -, -, -, -, ⟨d1, d2, d3, d4, d5, d6⟩, ⟨d7, d8, d9, d10, d11, d12⟩⟩, k1, k2⟩ := hC.1.opn g
  have hx' := (upw_n (o := .inl (4, 12, qc gl1)) d3).trans h1
  have R : ∀ c q, rAt w c q → rAt (upw (upw w lA (.inl (4, 12, qc gl1))) x (.inr (5, [.ref nA, .ref cA, .ref lA, .int 0, .int s.2.2.2.2.1, .int kn, .int s.2.2.2.2.2]))) c q := fun c q hc => rAt_up2 (rAt_up2 hc hl (by simp)) hx' (by simp)
  have RR : ∀ c, isR w c → isR (upw (upw w lA (.inl (4, 12, qc gl1))) x (.inr (5, [.ref nA, .ref cA, .ref lA, .int 0, .int s.2.2.2.2.1, .int kn, .int s.2.2.2.2.2]))) c := fun c hc => isR_up2 (isR_up2 hc hl (by simp)) hx' (by simp)
  exact ⟨⟨gc, gl1, ⟨upw_s _ _ _, by rw [upw_n d4, upw_n d6]; exact h2, by rw [upw_n d7, upw_n d9]; exact h3, by rw [upw_n d10]; exact upw_s _ _ _, fun i c z => RR c (h5 i c z), fun i c z => RR c (h6 i c z), show ¬ (0 : Int32) < 0 by decide, show ¬ (12 : Int32) < 0 by decide⟩, fun i hi => (k1 i hi).mp R, fun i hi => by
    have hi' : (i : Int) < (0 : Int32).toInt := hi
    have e0 : (0 : Int32).toInt = 0 := rfl
    omega⟩, (hC.2.up hl (Or.inr rfl)).up hx' (Or.inr rfl)⟩
set_option maxHeartbeats 4000000 in
theorem flX1_sweep_7 {s : AS} (hQ : ∀ w', (∀ F, CS g w0 x nA cA lA kn (sP_ s 0 F) w') → Q (.inl (some (.int s.2.2.1))) w') : ∀ (d j : Nat) (w : Hw) (k m : Nat), j + d = 12 → SW g w0 x nA cA lA kn s w → k ≤ 0 → m ≤ 0 → WP (MX1_sweep g) Q (7, [some (.ref x), some (.int s.2.2.1), some (.int (Int32.ofNat j))], [], w, k, m) := by
  intro d
  induction d with
  | zero =>
    intro j w k m hjd hC hk hm
    obtain ⟨gc, gl, hx, hn, hc, hl, hgc, hgl, hn0, hn1, rx, rn, rc, rl, ⟨d1, d2, d3, d4, d5, d6⟩, ⟨d7, d8, d9, d10, d11, d12⟩⟩ := hC.opn
    have h9 : j < 1000 := by omega
    have hlt : ¬ Int32.ofNat j < 12 := oNg (B := 12) h9 rfl (by omega)
    rw [eX1_sweep_7]
    repeat' first
      | with_reducible assumption
      | with_reducible refine And.intro ?_ ?_
      | with_reducible exact vpi6 (by assumption) (by assumption)
      | with_reducible exact vpi8 (by assumption) (by assumption)
      | with_reducible exact trivial
      | ((with_reducible refine isQ (Q := Q) ?_); exact hQ _ (fun F => hC.fin F))
      | simp only [eX1_sweep_0, eX1_sweep_0N, eX1_sweep_1, eX1_sweep_4, eX1_sweep_5, eX1_sweep_6, eX1_sweep_8, eX1_sweep_8N, eX1_sweep_9, eX1_sweep_12, eX1_sweep_13, eX1_sweep_16, eX1_sweep_16N, eX1_sweep_17, eX1_sweep_20, eX1_sweep_21, eX1_sweep_22N, eX1_sweep_22R, eX1_sweep_23, eX1_sweep_26, eX1_sweep_29, eX1_sweep_29N, eX1_sweep_30, eX1_sweep_31, eX1_sweep_34, eX1_sweep_35, lgp, lgn, lgz, i10, i00, if_true, if_false, eq_self, not_true, not_false_eq_true, rx, rn, rc, rl, hx, hn, hc, hl, d1, d2, d3, d4, d5, d6, d7, d8, d9, d10, d11, d12, rd_n, upw_n, hlt, exal, o12, ite_le, n45, n54, true_or, or_true, false_or, or_false, false_and, and_false, kx_l, kx_r, go_s, gl_s, gi_s, gb_s2, gb_s3, gq_s, wt_nil, wt_int, wt_long, wt_ref, wt_null, nl_int, nl_long, nl_ref, nl_null, nl_none, rf_n, rf_s, rf_st, tl_s, tl_n, g0, gS, ex1, nb_b, nb_0, nb_1, nf_i, nf_l, nf_ra, nf_ro, nf_na, nf_no, nf_b0, nf_z0, t45_4, t45_5, true_and, and_true, List.set_cons_zero, List.set_cons_succ, List.length_cons, List.length_nil, rd_s, upw_s, ne_eq, not_false_eq_true, Nat.zero_add, Nat.add_zero]
      | split
      | with_reducible intro _
      | omega
  | succ d ih =>
    intro j w k m hjd hC hk hm
    obtain ⟨gc, gl, hx, hn, hc, hl, hgc, hgl, hn0, hn1, rx, rn, rc, rl, ⟨d1, d2, d3, d4, d5, d6⟩, ⟨d7, d8, d9, d10, d11, d12⟩⟩ := hC.opn
    have h9 : j < 1000 := by omega
    have hlt : Int32.ofNat j < 12 := oNl (B := 12) h9 rfl (by omega)
    have hcl := oNc h9
    rw [eX1_sweep_7]
    repeat' first
      | with_reducible assumption
      | with_reducible refine And.intro ?_ ?_
      | with_reducible exact vpi6 (by assumption) (by assumption)
      | with_reducible exact vpi8 (by assumption) (by assumption)
      | with_reducible exact trivial
      | with_reducible exact vpj (by omega)
      | (rw [oN1]; exact ih (j + 1) _ _ _ (by omega) (hC.nul hl _) (by first | assumption | omega) (by first | assumption | omega))
      | simp only [eX1_sweep_0, eX1_sweep_0N, eX1_sweep_1, eX1_sweep_4, eX1_sweep_5, eX1_sweep_6, eX1_sweep_8, eX1_sweep_8N, eX1_sweep_9, eX1_sweep_12, eX1_sweep_13, eX1_sweep_16, eX1_sweep_16N, eX1_sweep_17, eX1_sweep_20, eX1_sweep_21, eX1_sweep_22N, eX1_sweep_22R, eX1_sweep_23, eX1_sweep_26, eX1_sweep_29, eX1_sweep_29N, eX1_sweep_30, eX1_sweep_31, eX1_sweep_34, eX1_sweep_35, lgp, lgn, lgz, i10, i00, if_true, if_false, eq_self, not_true, not_false_eq_true, rx, rn, rc, rl, hx, hn, hc, hl, d1, d2, d3, d4, d5, d6, d7, d8, d9, d10, d11, d12, rd_n, upw_n, hlt, hcl, exal, o12, ite_le, n45, n54, true_or, or_true, false_or, or_false, false_and, and_false, kx_l, kx_r, go_s, gl_s, gi_s, gb_s2, gb_s3, gq_s, wt_nil, wt_int, wt_long, wt_ref, wt_null, nl_int, nl_long, nl_ref, nl_null, nl_none, rf_n, rf_s, rf_st, tl_s, tl_n, g0, gS, ex1, nb_b, nb_0, nb_1, nf_i, nf_l, nf_ra, nf_ro, nf_na, nf_no, nf_b0, nf_z0, t45_4, t45_5, true_and, and_true, List.set_cons_zero, List.set_cons_succ, List.length_cons, List.length_nil, rd_s, upw_s, ne_eq, not_false_eq_true, Nat.zero_add, Nat.add_zero]
      | split
      | with_reducible intro _
      | omega
set_option maxHeartbeats 4000000 in
theorem fX1_sweep {s : AS} (hC : CS g w0 x nA cA lA kn s w) (hQ : ∀ w', (∀ F, CS g w0 x nA cA lA kn (sP_ s 0 F) w') → Q (.inl (some (.int s.2.2.1))) w') : WP (MX1_sweep g) Q (0, [some (.ref x), none, none], [], w, 0, 0) := by
  obtain ⟨gc, gl, ⟨hx, hn, hc, hl, hgc, hgl, hn0, hn1, rx, rn, rc, rl, ⟨d1, d2, d3, d4, d5, d6⟩, ⟨d7, d8, d9, d10, d11, d12⟩⟩, hcd, hpl⟩ := hC.1.opn g
  repeat' first
    | with_reducible assumption
    | with_reducible refine And.intro ?_ ?_
    | with_reducible exact vpi6 (by assumption) (by assumption)
    | with_reducible exact vpi8 (by assumption) (by assumption)
    | with_reducible exact trivial
    | ((with_reducible refine isWP (pc := 7) ?_); exact flX1_sweep_7 hQ 12 0 w 0 0 rfl (SW.of hC) (by decide) (by decide))
    | simp only [eX1_sweep_0, eX1_sweep_0N, eX1_sweep_1, eX1_sweep_4, eX1_sweep_5, eX1_sweep_6, eX1_sweep_8, eX1_sweep_8N, eX1_sweep_9, eX1_sweep_12, eX1_sweep_13, eX1_sweep_16, eX1_sweep_16N, eX1_sweep_17, eX1_sweep_20, eX1_sweep_21, eX1_sweep_22N, eX1_sweep_22R, eX1_sweep_23, eX1_sweep_26, eX1_sweep_29, eX1_sweep_29N, eX1_sweep_30, eX1_sweep_31, eX1_sweep_34, eX1_sweep_35, lgp, lgn, lgz, i10, i00, if_true, if_false, eq_self, not_true, not_false_eq_true, rx, rn, rc, rl, hx, hn, hc, hl, d1, d2, d3, d4, d5, d6, d7, d8, d9, d10, d11, d12, rd_n, upw_n, ite_le, n45, n54, true_or, or_true, false_or, or_false, false_and, and_false, kx_l, kx_r, go_s, gl_s, gi_s, gb_s2, gb_s3, gq_s, wt_nil, wt_int, wt_long, wt_ref, wt_null, nl_int, nl_long, nl_ref, nl_null, nl_none, rf_n, rf_s, rf_st, tl_s, tl_n, g0, gS, ex1, nb_b, nb_0, nb_1, nf_i, nf_l, nf_ra, nf_ro, nf_na, nf_no, nf_b0, nf_z0, t45_4, t45_5, true_and, and_true, List.set_cons_zero, List.set_cons_succ, List.length_cons, List.length_nil, rd_s, upw_s, ne_eq, not_false_eq_true, Nat.zero_add, Nat.add_zero]
    | split
    | with_reducible intro _
    | omega
end
end
/-! 71.fnc.lean.txt -/
section
section
variable {g : RO} {Q : Ot → Hw → Prop} {w0 w : Hw} {x nA cA lA : Nat} {kn : Int32}
/-! FUNCTIONAL SPECS, 12: soundness: so of every state whose ranges are in order -/
theorem mP_rf {r : R4} : mP r r := ⟨rfl, rfl, rfl, rfl⟩
theorem mSy {r q : R4} (h : mP r q) : mP q r := ⟨h.1.symm, h.2.1.symm, h.2.2.1.symm, h.2.2.2.symm⟩
theorem rAt_cp {q : Nat} {r : R4} : rAt (upw w q (.inr (4, [.long r.1, .long r.2.1, .long r.2.2.1, .long r.2.2.2]))) q r := upw_s _ _ _
theorem lmi8 : (-9223372036854775808 : Int64).toInt = -9223372036854775808 := by decide
theorem lmx8 : (9223372036854775807 : Int64).toInt = 9223372036854775807 := by decide
theorem outL {r : R4} (h : ¬ r.1.toInt = -9223372036854775808) : ¬ hP r (r.1 - 1) := by
  rintro ⟨h1, -⟩
  have a := Int64.le_toInt r.1
  have b := Int64.toInt_lt r.1
  have e1 : (1 : Int64).toInt = 1 := rfl
  have e : (r.1 - 1).toInt = r.1.toInt - 1 := by
    rw [Int64.toInt_sub, e1]
    exact Int.bmod_eq_of_le (by omega) (by omega)
  omega
theorem outG {r : R4} (h : ¬ r.2.2.2.toInt = 9223372036854775807) : ¬ hP r (r.2.2.2 + 1) := by
  rintro ⟨-, h1⟩
  have a := Int64.le_toInt r.2.2.2
  have b := Int64.toInt_lt r.2.2.2
  have e1 : (1 : Int64).toInt = 1 := rfl
  have e : (r.2.2.2 + 1).toInt = r.2.2.2.toInt + 1 := by
    rw [Int64.toInt_add, e1]
    exact Int.bmod_eq_of_le (by omega) (by omega)
  omega
theorem eHeld {r : R4} {a : Int32} (h : rOk r) : hP r (eV r a) := by
  obtain ⟨h1, h2, h3, h4⟩ := h
  unfold eV
  repeat' split
  all_goals exact ⟨by omega, by omega⟩
theorem hsv {d r : R4} {v : Int64} (e1 : d.1 = r.1) (e2 : d.2.2.2 = r.2.2.2) (h : hP d v) : hP r v := by
  have h' : d.1.toInt ≤ v.toInt ∧ v.toInt ≤ d.2.2.2.toInt := h
  rw [e1, e2] at h'
  exact h'
theorem dLow {r : R4} (h : rOk r) : oP r.1 r.1 r.2.2.1 r.2.2.2 := ⟨Int.le_refl _, h.2.1, h.2.2.1, by
  obtain ⟨h1, h2, h3, h4⟩ := h
  omega⟩
theorem dHigh {r : R4} (h : rOk r) : oP r.1 r.2.1 r.2.2.2 r.2.2.2 := ⟨h.1, Int.le_refl _, by
  obtain ⟨h1, h2, h3, h4⟩ := h
  omega, h.2.2.2⟩
abbrev cD (o : Option R4) : R4 := o.getD (0, 0, 0, 0)
theorem cdG {gc : Nat → Option Nat} {s : AS} {j b : Nat} (hcd : ∀ i, i < 6 → cM w (gc i) (s.2.1 i)) (h : j < 6) (e : gc j = some b) : rAt w b (cD (s.2.1 j)) := by
  have k := hcd j h
  rw [e] at k
  obtain ⟨r, h1, h2⟩ := k.s
  rw [h1]
  exact h2
theorem cdO {gc : Nat → Option Nat} {s : AS} {j b : Nat} (ho : sOk s) (hcd : ∀ i, i < 6 → cM w (gc i) (s.2.1 i)) (h : j < 6) (e : gc j = some b) : rOk (cD (s.2.1 j)) := by
  have k := hcd j h
  rw [e] at k
  obtain ⟨r, h1, -⟩ := k.s
  have z := ho.1 j r h h1
  rw [h1]
  exact z
set_option maxHeartbeats 4000000 in
theorem fX1_isLikeItsCopy {p : Nat} {r : R4} (hp : rAt w p r) (ho : rOk r) (hQ : ∀ w', ext g w w' → Q (.inl (some (.int 1))) w') : WP (MX1_isLikeItsCopy g) Q (0, [some (.ref p), none], [], w, 0, 0) := by
  repeat' first
    | with_reducible assumption
    | with_reducible refine And.intro ?_ ?_
    | with_reducible exact vpi6 (by assumption) (by assumption)
    | with_reducible exact vpi8 (by assumption) (by assumption)
    | with_reducible exact trivial
    | with_reducible refine fX1_copyOf hp (fun hno => ?_) (fun hyes q hq => ?_)
    | with_reducible exact absurd ho hno
    | with_reducible exact go_F hp trivial
    | with_reducible exact go_F (hp.ext (ext_up2 ext.rf hq)) trivial
    | with_reducible exact go_F rAt_cp trivial
    | with_reducible refine fX0_matchesR rAt_cp (hp.ext (ext_up2 ext.rf hq)) (fun hm => ?_) (fun hm => ?_)
    | with_reducible refine fX0_matchesR (hp.ext (ext_up2 ext.rf hq)) rAt_cp (fun hm => ?_) (fun hm => ?_)
    | with_reducible exact absurd mP_rf hm
    | with_reducible refine fX0_hash rAt_cp ?_
    | with_reducible refine fX0_hash (hp.ext (ext_up2 ext.rf hq)) ?_
    | with_reducible exact hQ _ (ext_up2 ext.rf hq)
    | simp only [eX1_isLikeItsCopy_0, eX1_isLikeItsCopy_0N, eX1_isLikeItsCopy_1R, eX1_isLikeItsCopy_1N, eX1_isLikeItsCopy_4, eX1_isLikeItsCopy_4N, eX1_isLikeItsCopy_5, eX1_isLikeItsCopy_5N, eX1_isLikeItsCopy_6R, eX1_isLikeItsCopy_6N, eX1_isLikeItsCopy_9, eX1_isLikeItsCopy_9N, eX1_isLikeItsCopy_10, eX1_isLikeItsCopy_10N, eX1_isLikeItsCopy_11R, eX1_isLikeItsCopy_11N, eX1_isLikeItsCopy_14, eX1_isLikeItsCopy_17, eX1_isLikeItsCopy_17N, eX1_isLikeItsCopy_18, eX1_isLikeItsCopy_18N, eX1_isLikeItsCopy_19R, eX1_isLikeItsCopy_19N, eX1_isLikeItsCopy_22, eX1_isLikeItsCopy_25, eX1_isLikeItsCopy_25N, eX1_isLikeItsCopy_26, eX1_isLikeItsCopy_29, eX1_isLikeItsCopy_29N, eX1_isLikeItsCopy_30, eX1_isLikeItsCopy_33, eX1_isLikeItsCopy_34, eX1_isLikeItsCopy_37, eX1_isLikeItsCopy_38, eX1_isLikeItsCopy_41, eX1_isLikeItsCopy_42, lgp, lgn, lgz, i10, i00, if_true, if_false, eq_self, not_true, not_false_eq_true, ite_le, n45, n54, true_or, or_true, false_or, or_false, false_and, and_false, kx_l, kx_r, go_s, gl_s, gi_s, gb_s2, gb_s3, gq_s, wt_nil, wt_int, wt_long, wt_ref, wt_null, nl_int, nl_long, nl_ref, nl_null, nl_none, rf_n, rf_s, rf_st, tl_s, tl_n, g0, gS, ex1, nb_b, nb_0, nb_1, nf_i, nf_l, nf_ra, nf_ro, nf_na, nf_no, nf_b0, nf_z0, t45_4, t45_5, true_and, and_true, List.set_cons_zero, List.set_cons_succ, List.length_cons, List.length_nil, rd_s, upw_s, ne_eq, not_false_eq_true, Nat.zero_add, Nat.add_zero]
    | split
    | with_reducible intro _
    | omega
set_option maxHeartbeats 4000000 in
theorem fX1_isOuterSound {p : Nat} {r : R4} (hp : rAt w p r) (hQ : Q (.inl (some (.int 1))) w) : WP (MX1_isOuterSound g) Q (0, [some (.ref p)], [], w, 0, 0) := by
  repeat' first
    | with_reducible assumption
    | with_reducible refine And.intro ?_ ?_
    | with_reducible exact vpi6 (by assumption) (by assumption)
    | with_reducible exact vpi8 (by assumption) (by assumption)
    | with_reducible exact trivial
    | with_reducible refine go_F hp ?_
    | with_reducible refine fX0_holds hp (fun hm => ?_) (fun hm => ?_)
    | with_reducible exact absurd hm (outL (by assumption))
    | with_reducible exact absurd hm (outG (by assumption))
    | simp only [eX1_isOuterSound_0, eX1_isOuterSound_0N, eX1_isOuterSound_1, eX1_isOuterSound_4, eX1_isOuterSound_7, eX1_isOuterSound_8, eX1_isOuterSound_11, eX1_isOuterSound_11N, eX1_isOuterSound_12, eX1_isOuterSound_12N, eX1_isOuterSound_13, eX1_isOuterSound_16, eX1_isOuterSound_17, eX1_isOuterSound_18, eX1_isOuterSound_21, eX1_isOuterSound_24, eX1_isOuterSound_24N, eX1_isOuterSound_25, eX1_isOuterSound_28, eX1_isOuterSound_31, eX1_isOuterSound_32, eX1_isOuterSound_35, eX1_isOuterSound_35N, eX1_isOuterSound_36, eX1_isOuterSound_36N, eX1_isOuterSound_37, eX1_isOuterSound_40, eX1_isOuterSound_41, eX1_isOuterSound_42, eX1_isOuterSound_45, eX1_isOuterSound_48, eX1_isOuterSound_49, eX1_isOuterSound_52, eX1_isOuterSound_53, lgp, lgn, lgz, i10, i00, if_true, if_false, eq_self, not_true, not_false_eq_true, lmi8, lmx8, ite_le, n45, n54, true_or, or_true, false_or, or_false, false_and, and_false, kx_l, kx_r, go_s, gl_s, gi_s, gb_s2, gb_s3, gq_s, wt_nil, wt_int, wt_long, wt_ref, wt_null, nl_int, nl_long, nl_ref, nl_null, nl_none, rf_n, rf_s, rf_st, tl_s, tl_n, g0, gS, ex1, nb_b, nb_0, nb_1, nf_i, nf_l, nf_ra, nf_ro, nf_na, nf_no, nf_b0, nf_z0, t45_4, t45_5, true_and, and_true, List.set_cons_zero, List.set_cons_succ, List.length_cons, List.length_nil, rd_s, upw_s, ne_eq, not_false_eq_true, Nat.zero_add, Nat.add_zero]
    | split
    | with_reducible intro _
    | omega
set_option maxHeartbeats 4000000 in
theorem flX1_isEachEndHeld_2 {p : Nat} {r : R4} (hp : rAt w p r) (ho : rOk r) (hQ : Q (.inl (some (.int 1))) w) : ∀ (d j : Nat) (i2 : Option Value) (i3 : Option Value) (k m : Nat), j + d = 4 → k ≤ 0 → m ≤ 0 → WP (MX1_isEachEndHeld g) Q (2, [some (.ref p), some (.int (Int32.ofNat j)), i2, i3], [], w, k, m) := by
  intro d
  induction d with
  | zero =>
    intro j i2 i3 k m hjd hk hm
    have h9 : j < 1000 := (by omega)
    have hlt : ¬ Int32.ofNat j < 4 := oNg (B := 4) h9 rfl (by omega)
    have hnn := oN0 h9
    have hcl := oNc h9
    obtain rfl : j = 4 := by omega
    rw [eX1_isEachEndHeld_2]
    repeat' first
      | with_reducible assumption
      | with_reducible refine And.intro ?_ ?_
      | with_reducible exact vpi6 (by assumption) (by assumption)
      | with_reducible exact vpi8 (by assumption) (by assumption)
      | with_reducible exact trivial
      | with_reducible exact go_F hp trivial
      | with_reducible refine fX0_endAt hp ?_
      | with_reducible refine fX0_holds hp (fun hm => ?_) (fun hm => ?_)
      | with_reducible exact absurd (eHeld ho) hm
      | with_reducible refine fX0_holdsAsSmall hp (fun z1 => ?_) (fun z1 => ?_)
      | with_reducible refine fX0_fitsSmall hp (fun z2 => ?_) (fun z2 => ?_)
      | with_reducible exact absurd z1.1 z2
      | with_reducible exact absurd (And.intro z2 (eHeld ho)) z1
      | ((with_reducible refine isQ (Q := Q) ?_); exact hQ)
      | simp only [eX1_isEachEndHeld_0, eX1_isEachEndHeld_1, eX1_isEachEndHeld_3, eX1_isEachEndHeld_4, eX1_isEachEndHeld_7, eX1_isEachEndHeld_7N, eX1_isEachEndHeld_8, eX1_isEachEndHeld_9, eX1_isEachEndHeld_12, eX1_isEachEndHeld_13, eX1_isEachEndHeld_13N, eX1_isEachEndHeld_14, eX1_isEachEndHeld_15, eX1_isEachEndHeld_18, eX1_isEachEndHeld_21, eX1_isEachEndHeld_21N, eX1_isEachEndHeld_22, eX1_isEachEndHeld_23, eX1_isEachEndHeld_26, eX1_isEachEndHeld_26N, eX1_isEachEndHeld_27, eX1_isEachEndHeld_30, eX1_isEachEndHeld_33, eX1_isEachEndHeld_34, eX1_isEachEndHeld_35, eX1_isEachEndHeld_38, eX1_isEachEndHeld_41, eX1_isEachEndHeld_42, lgp, lgn, lgz, i10, i00, if_true, if_false, eq_self, not_true, not_false_eq_true, hlt, hcl, ite_le, n45, n54, true_or, or_true, false_or, or_false, false_and, and_false, kx_l, kx_r, go_s, gl_s, gi_s, gb_s2, gb_s3, gq_s, wt_nil, wt_int, wt_long, wt_ref, wt_null, nl_int, nl_long, nl_ref, nl_null, nl_none, rf_n, rf_s, rf_st, tl_s, tl_n, g0, gS, ex1, nb_b, nb_0, nb_1, nf_i, nf_l, nf_ra, nf_ro, nf_na, nf_no, nf_b0, nf_z0, t45_4, t45_5, true_and, and_true, List.set_cons_zero, List.set_cons_succ, List.length_cons, List.length_nil, rd_s, upw_s, ne_eq, not_false_eq_true, Nat.zero_add, Nat.add_zero]
      | split
      | with_reducible intro _
      | omega
  | succ d ih =>
    intro j i2 i3 k m hjd hk hm
    have h9 : j < 1000 := (by omega)
    have hlt : Int32.ofNat j < 4 := oNl (B := 4) h9 rfl (by omega)
    have hnn := oN0 h9
    have hcl := oNc h9
    rw [eX1_isEachEndHeld_2]
    repeat' first
      | with_reducible assumption
      | with_reducible refine And.intro ?_ ?_
      | with_reducible exact vpi6 (by assumption) (by assumption)
      | with_reducible exact vpi8 (by assumption) (by assumption)
      | with_reducible exact trivial
      | (rw [oN1]; exact ih (j + 1) _ _ _ _ (by omega) (by first | assumption | omega) (by first | assumption | omega))
      | with_reducible exact go_F hp trivial
      | with_reducible refine fX0_endAt hp ?_
      | with_reducible refine fX0_holds hp (fun hm => ?_) (fun hm => ?_)
      | with_reducible exact absurd (eHeld ho) hm
      | with_reducible refine fX0_holdsAsSmall hp (fun z1 => ?_) (fun z1 => ?_)
      | with_reducible refine fX0_fitsSmall hp (fun z2 => ?_) (fun z2 => ?_)
      | with_reducible exact absurd z1.1 z2
      | with_reducible exact absurd (And.intro z2 (eHeld ho)) z1
      | ((with_reducible refine isQ (Q := Q) ?_); exact hQ)
      | simp only [eX1_isEachEndHeld_0, eX1_isEachEndHeld_1, eX1_isEachEndHeld_3, eX1_isEachEndHeld_4, eX1_isEachEndHeld_7, eX1_isEachEndHeld_7N, eX1_isEachEndHeld_8, eX1_isEachEndHeld_9, eX1_isEachEndHeld_12, eX1_isEachEndHeld_13, eX1_isEachEndHeld_13N, eX1_isEachEndHeld_14, eX1_isEachEndHeld_15, eX1_isEachEndHeld_18, eX1_isEachEndHeld_21, eX1_isEachEndHeld_21N, eX1_isEachEndHeld_22, eX1_isEachEndHeld_23, eX1_isEachEndHeld_26, eX1_isEachEndHeld_26N, eX1_isEachEndHeld_27, eX1_isEachEndHeld_30, eX1_isEachEndHeld_33, eX1_isEachEndHeld_34, eX1_isEachEndHeld_35, eX1_isEachEndHeld_38, eX1_isEachEndHeld_41, eX1_isEachEndHeld_42, lgp, lgn, lgz, i10, i00, if_true, if_false, eq_self, not_true, not_false_eq_true, hlt, hcl, ite_le, n45, n54, true_or, or_true, false_or, or_false, false_and, and_false, kx_l, kx_r, go_s, gl_s, gi_s, gb_s2, gb_s3, gq_s, wt_nil, wt_int, wt_long, wt_ref, wt_null, nl_int, nl_long, nl_ref, nl_null, nl_none, rf_n, rf_s, rf_st, tl_s, tl_n, g0, gS, ex1, nb_b, nb_0, nb_1, nf_i, nf_l, nf_ra, nf_ro, nf_na, nf_no, nf_b0, nf_z0, t45_4, t45_5, true_and, and_true, List.set_cons_zero, List.set_cons_succ, List.length_cons, List.length_nil, rd_s, upw_s, ne_eq, not_false_eq_true, Nat.zero_add, Nat.add_zero]
      | split
      | with_reducible intro _
      | omega
set_option maxHeartbeats 4000000 in
theorem fX1_isEachEndHeld {p : Nat} {r : R4} (hp : rAt w p r) (ho : rOk r) (hQ : Q (.inl (some (.int 1))) w) : WP (MX1_isEachEndHeld g) Q (0, [some (.ref p), none, none, none], [], w, 0, 0) := by
  repeat' first
    | with_reducible assumption
    | with_reducible refine And.intro ?_ ?_
    | with_reducible exact vpi6 (by assumption) (by assumption)
    | with_reducible exact vpi8 (by assumption) (by assumption)
    | with_reducible exact trivial
    | ((with_reducible refine isWP (pc := 2) ?_); exact flX1_isEachEndHeld_2 hp ho hQ 4 0 _ _ _ _ rfl (by decide) (by decide))
    | simp only [eX1_isEachEndHeld_0, eX1_isEachEndHeld_1, eX1_isEachEndHeld_3, eX1_isEachEndHeld_4, eX1_isEachEndHeld_7, eX1_isEachEndHeld_7N, eX1_isEachEndHeld_8, eX1_isEachEndHeld_9, eX1_isEachEndHeld_12, eX1_isEachEndHeld_13, eX1_isEachEndHeld_13N, eX1_isEachEndHeld_14, eX1_isEachEndHeld_15, eX1_isEachEndHeld_18, eX1_isEachEndHeld_21, eX1_isEachEndHeld_21N, eX1_isEachEndHeld_22, eX1_isEachEndHeld_23, eX1_isEachEndHeld_26, eX1_isEachEndHeld_26N, eX1_isEachEndHeld_27, eX1_isEachEndHeld_30, eX1_isEachEndHeld_33, eX1_isEachEndHeld_34, eX1_isEachEndHeld_35, eX1_isEachEndHeld_38, eX1_isEachEndHeld_41, eX1_isEachEndHeld_42, lgp, lgn, lgz, i10, i00, if_true, if_false, eq_self, not_true, not_false_eq_true, ite_le, n45, n54, true_or, or_true, false_or, or_false, false_and, and_false, kx_l, kx_r, go_s, gl_s, gi_s, gb_s2, gb_s3, gq_s, wt_nil, wt_int, wt_long, wt_ref, wt_null, nl_int, nl_long, nl_ref, nl_null, nl_none, rf_n, rf_s, rf_st, tl_s, tl_n, g0, gS, ex1, nb_b, nb_0, nb_1, nf_i, nf_l, nf_ra, nf_ro, nf_na, nf_no, nf_b0, nf_z0, t45_4, t45_5, true_and, and_true, List.set_cons_zero, List.set_cons_succ, List.length_cons, List.length_nil, rd_s, upw_s, ne_eq, not_false_eq_true, Nat.zero_add, Nat.add_zero]
    | split
    | with_reducible intro _
    | omega
set_option maxHeartbeats 4000000 in
theorem flX1_hasSameValid_8 {s : AS} {p q : Nat} {d r : R4} (hC : CS g w0 x nA cA lA kn s w) (hd : rAt w p d) (hr : rAt w q r) (e1 : d.1 = r.1) (e2 : d.2.2.2 = r.2.2.2) (hQ : Q (.inl (some (.int 1))) w) : ∀ (d j : Nat)  (k m : Nat), j + d = 8 → k ≤ 0 → m ≤ 0 → WP (MX1_hasSameValid g) Q (8, [some (.ref x), some (.ref p), some (.ref q), some (.int (Int32.ofNat j))], [], w, k, m) := by
  obtain ⟨gc, gl, ⟨hx, hn, hc, hl, hgc, hgl, hn0, hn1, rx, rn, rc, rl, ⟨d1, d2, d3, d4, d5, d6⟩, ⟨d7, d8, d9, d10, d11, d12⟩⟩, hcd, hpl⟩ := hC.1.opn g
  intro d
  induction d with
  | zero =>
    intro j  k m hjd hk hm
    have h9 : j < 1000 := (by omega)
    have hlt : ¬ Int32.ofNat j < 8 := oNg (B := 8) h9 rfl (by omega)
    have hnn := oN0 h9
    have hcl := oNc h9
    obtain rfl : j = 8 := by omega
    rw [eX1_hasSameValid_8]
    repeat' first
      | with_reducible assumption
      | with_reducible refine And.intro ?_ ?_
      | with_reducible exact vpi6 (by assumption) (by assumption)
      | with_reducible exact vpi8 (by assumption) (by assumption)
      | with_reducible exact trivial
      | with_reducible exact go_F hd trivial
      | with_reducible exact go_F hr trivial
      | with_reducible refine fX0_holds hd (fun z1 => ?_) (fun z1 => ?_)
      | with_reducible refine fX0_holds hr (fun z2 => ?_) (fun z2 => ?_)
      | with_reducible exact absurd (hsv e1 e2 z1) z2
      | with_reducible exact absurd (hsv e1.symm e2.symm z2) z1
      | ((with_reducible refine isQ (Q := Q) ?_); exact hQ)
      | simp only [eX1_hasSameValid_0, eX1_hasSameValid_0N, eX1_hasSameValid_1R, eX1_hasSameValid_1N, eX1_hasSameValid_4, eX1_hasSameValid_5, eX1_hasSameValid_6, eX1_hasSameValid_7, eX1_hasSameValid_9, eX1_hasSameValid_11, eX1_hasSameValid_14, eX1_hasSameValid_14N, eX1_hasSameValid_15, eX1_hasSameValid_15N, eX1_hasSameValid_16, eX1_hasSameValid_19, eX1_hasSameValid_20, eX1_hasSameValid_21, eX1_hasSameValid_24, eX1_hasSameValid_24N, eX1_hasSameValid_25, eX1_hasSameValid_25N, eX1_hasSameValid_26, eX1_hasSameValid_29, eX1_hasSameValid_30, eX1_hasSameValid_31, eX1_hasSameValid_34, eX1_hasSameValid_37, eX1_hasSameValid_38, eX1_hasSameValid_39, eX1_hasSameValid_42, eX1_hasSameValid_45, eX1_hasSameValid_46, lgp, lgn, lgz, i10, i00, if_true, if_false, eq_self, not_true, not_false_eq_true, hlt, hcl, rx, rn, rc, rl, hx, hn, hc, hl, d1, d2, d3, d4, d5, d6, d7, d8, d9, d10, d11, d12, rd_n, upw_n, ite_le, n45, n54, true_or, or_true, false_or, or_false, false_and, and_false, kx_l, kx_r, go_s, gl_s, gi_s, gb_s2, gb_s3, gq_s, wt_nil, wt_int, wt_long, wt_ref, wt_null, nl_int, nl_long, nl_ref, nl_null, nl_none, rf_n, rf_s, rf_st, tl_s, tl_n, g0, gS, ex1, nb_b, nb_0, nb_1, nf_i, nf_l, nf_ra, nf_ro, nf_na, nf_no, nf_b0, nf_z0, t45_4, t45_5, true_and, and_true, List.set_cons_zero, List.set_cons_succ, List.length_cons, List.length_nil, rd_s, upw_s, ne_eq, not_false_eq_true, Nat.zero_add, Nat.add_zero]
      | split
      | with_reducible intro _
      | omega
  | succ d ih =>
    intro j  k m hjd hk hm
    have h9 : j < 1000 := (by omega)
    have hlt : Int32.ofNat j < 8 := oNl (B := 8) h9 rfl (by omega)
    have hnn := oN0 h9
    have hcl := oNc h9
    rw [eX1_hasSameValid_8]
    repeat' first
      | with_reducible assumption
      | with_reducible refine And.intro ?_ ?_
      | with_reducible exact vpi6 (by assumption) (by assumption)
      | with_reducible exact vpi8 (by assumption) (by assumption)
      | with_reducible exact trivial
      | (rw [oN1]; exact ih (j + 1)  _ _ (by omega) (by first | assumption | omega) (by first | assumption | omega))
      | with_reducible exact go_F hd trivial
      | with_reducible exact go_F hr trivial
      | with_reducible refine fX0_holds hd (fun z1 => ?_) (fun z1 => ?_)
      | with_reducible refine fX0_holds hr (fun z2 => ?_) (fun z2 => ?_)
      | with_reducible exact absurd (hsv e1 e2 z1) z2
      | with_reducible exact absurd (hsv e1.symm e2.symm z2) z1
      | ((with_reducible refine isQ (Q := Q) ?_); exact hQ)
      | simp only [eX1_hasSameValid_0, eX1_hasSameValid_0N, eX1_hasSameValid_1R, eX1_hasSameValid_1N, eX1_hasSameValid_4, eX1_hasSameValid_5, eX1_hasSameValid_6, eX1_hasSameValid_7, eX1_hasSameValid_9, eX1_hasSameValid_11, eX1_hasSameValid_14, eX1_hasSameValid_14N, eX1_hasSameValid_15, eX1_hasSameValid_15N, eX1_hasSameValid_16, eX1_hasSameValid_19, eX1_hasSameValid_20, eX1_hasSameValid_21, eX1_hasSameValid_24, eX1_hasSameValid_24N, eX1_hasSameValid_25, eX1_hasSameValid_25N, eX1_hasSameValid_26, eX1_hasSameValid_29, eX1_hasSameValid_30, eX1_hasSameValid_31, eX1_hasSameValid_34, eX1_hasSameValid_37, eX1_hasSameValid_38, eX1_hasSameValid_39, eX1_hasSameValid_42, eX1_hasSameValid_45, eX1_hasSameValid_46, lgp, lgn, lgz, i10, i00, if_true, if_false, eq_self, not_true, not_false_eq_true, hlt, hcl, rx, rn, rc, rl, hx, hn, hc, hl, d1, d2, d3, d4, d5, d6, d7, d8, d9, d10, d11, d12, rd_n, upw_n, ite_le, n45, n54, true_or, or_true, false_or, or_false, false_and, and_false, kx_l, kx_r, go_s, gl_s, gi_s, gb_s2, gb_s3, gq_s, wt_nil, wt_int, wt_long, wt_ref, wt_null, nl_int, nl_long, nl_ref, nl_null, nl_none, rf_n, rf_s, rf_st, tl_s, tl_n, g0, gS, ex1, nb_b, nb_0, nb_1, nf_i, nf_l, nf_ra, nf_ro, nf_na, nf_no, nf_b0, nf_z0, t45_4, t45_5, true_and, and_true, List.set_cons_zero, List.set_cons_succ, List.length_cons, List.length_nil, rd_s, upw_s, ne_eq, not_false_eq_true, Nat.zero_add, Nat.add_zero]
      | split
      | with_reducible intro _
      | omega
set_option maxHeartbeats 4000000 in
theorem fX1_hasSameValid {s : AS} {p q : Nat} {d r : R4} (hC : CS g w0 x nA cA lA kn s w) (hd : rAt w p d) (hr : rAt w q r) (e1 : d.1 = r.1) (e2 : d.2.2.2 = r.2.2.2) (hQ : Q (.inl (some (.int 1))) w) : WP (MX1_hasSameValid g) Q (0, [some (.ref x), some (.ref p), some (.ref q), none], [], w, 0, 0) := by
  repeat' first
    | with_reducible assumption
    | with_reducible refine And.intro ?_ ?_
    | with_reducible exact vpi6 (by assumption) (by assumption)
    | with_reducible exact vpi8 (by assumption) (by assumption)
    | with_reducible exact trivial
    | ((with_reducible refine isWP (pc := 8) ?_); exact flX1_hasSameValid_8 hC hd hr e1 e2 hQ 8 0  _ _ rfl (by decide) (by decide))
    | simp only [eX1_hasSameValid_0, eX1_hasSameValid_0N, eX1_hasSameValid_1R, eX1_hasSameValid_1N, eX1_hasSameValid_4, eX1_hasSameValid_5, eX1_hasSameValid_6, eX1_hasSameValid_7, eX1_hasSameValid_9, eX1_hasSameValid_11, eX1_hasSameValid_14, eX1_hasSameValid_14N, eX1_hasSameValid_15, eX1_hasSameValid_15N, eX1_hasSameValid_16, eX1_hasSameValid_19, eX1_hasSameValid_20, eX1_hasSameValid_21, eX1_hasSameValid_24, eX1_hasSameValid_24N, eX1_hasSameValid_25, eX1_hasSameValid_25N, eX1_hasSameValid_26, eX1_hasSameValid_29, eX1_hasSameValid_30, eX1_hasSameValid_31, eX1_hasSameValid_34, eX1_hasSameValid_37, eX1_hasSameValid_38, eX1_hasSameValid_39, eX1_hasSameValid_42, eX1_hasSameValid_45, eX1_hasSameValid_46, lgp, lgn, lgz, i10, i00, if_true, if_false, eq_self, not_true, not_false_eq_true, ite_le, n45, n54, true_or, or_true, false_or, or_false, false_and, and_false, kx_l, kx_r, go_s, gl_s, gi_s, gb_s2, gb_s3, gq_s, wt_nil, wt_int, wt_long, wt_ref, wt_null, nl_int, nl_long, nl_ref, nl_null, nl_none, rf_n, rf_s, rf_st, tl_s, tl_n, g0, gS, ex1, nb_b, nb_0, nb_1, nf_i, nf_l, nf_ra, nf_ro, nf_na, nf_no, nf_b0, nf_z0, t45_4, t45_5, true_and, and_true, List.set_cons_zero, List.set_cons_succ, List.length_cons, List.length_nil, rd_s, upw_s, ne_eq, not_false_eq_true, Nat.zero_add, Nat.add_zero]
    | split
    | with_reducible intro _
    | omega
set_option maxHeartbeats 4000000 in
theorem fX1_isDrawnSound {s : AS} {p : Nat} {r : R4} (hC : CS g w0 x nA cA lA kn s w) (ho : rOk r) (hp : rAt w p r) (hQ : ∀ w', ext g w w' → Q (.inl (some (.int 1))) w') : WP (MX1_isDrawnSound g) Q (0, [some (.ref x), some (.ref p), none, none], [], w, 0, 0) := by
  repeat' first
    | with_reducible assumption
    | with_reducible refine And.intro ?_ ?_
    | with_reducible exact vpi6 (by assumption) (by assumption)
    | with_reducible exact vpi8 (by assumption) (by assumption)
    | with_reducible exact trivial
    | with_reducible refine fX0_ofFour (a0 := r.1) (a1 := r.1) (a2 := r.2.2.1) (a3 := r.2.2.2) (fun hno => ?_) (fun hyes q1 hq1 => ?_)
    | with_reducible refine fX0_ofFour (a0 := r.1) (a1 := r.2.1) (a2 := r.2.2.2) (a3 := r.2.2.2) (fun hno => ?_) (fun hyes q2 hq2 => ?_)
    | with_reducible exact absurd (dLow ho) hno
    | with_reducible exact absurd (dHigh ho) hno
    | with_reducible exact go_5 (hC.ext ((ext_up2 ext.rf hq1).tr (ext_up2 ext.rf hq2)))
    | with_reducible refine fX1_hasSameValid (hC.ext ((ext_up2 ext.rf hq1).tr (ext_up2 ext.rf hq2))) (rAt_new.ext (ext_up2 ext.rf hq2)) (hp.ext ((ext_up2 ext.rf hq1).tr (ext_up2 ext.rf hq2))) rfl rfl ?_
    | with_reducible refine fX1_hasSameValid (hC.ext ((ext_up2 ext.rf hq1).tr (ext_up2 ext.rf hq2))) rAt_new (hp.ext ((ext_up2 ext.rf hq1).tr (ext_up2 ext.rf hq2))) rfl rfl ?_
    | with_reducible refine go_F hp ?_
    | with_reducible refine go_F (hp.ext (ext_up2 ext.rf hq1)) ?_
    | with_reducible exact hQ _ ((ext_up2 ext.rf hq1).tr (ext_up2 ext.rf hq2))
    | simp only [eX1_isDrawnSound_0, eX1_isDrawnSound_0N, eX1_isDrawnSound_1, eX1_isDrawnSound_4, eX1_isDrawnSound_4N, eX1_isDrawnSound_5, eX1_isDrawnSound_8, eX1_isDrawnSound_8N, eX1_isDrawnSound_9, eX1_isDrawnSound_12, eX1_isDrawnSound_12N, eX1_isDrawnSound_13, eX1_isDrawnSound_16, eX1_isDrawnSound_19, eX1_isDrawnSound_19N, eX1_isDrawnSound_20, eX1_isDrawnSound_20N, eX1_isDrawnSound_21, eX1_isDrawnSound_24, eX1_isDrawnSound_24N, eX1_isDrawnSound_25, eX1_isDrawnSound_28, eX1_isDrawnSound_28N, eX1_isDrawnSound_29, eX1_isDrawnSound_32, eX1_isDrawnSound_32N, eX1_isDrawnSound_33, eX1_isDrawnSound_36, eX1_isDrawnSound_39, eX1_isDrawnSound_39N, eX1_isDrawnSound_40, eX1_isDrawnSound_40N, eX1_isDrawnSound_41, eX1_isDrawnSound_41N, eX1_isDrawnSound_42, eX1_isDrawnSound_42N, eX1_isDrawnSound_43RR, eX1_isDrawnSound_43NR, eX1_isDrawnSound_43RN, eX1_isDrawnSound_43NN, eX1_isDrawnSound_46, eX1_isDrawnSound_49, eX1_isDrawnSound_49N, eX1_isDrawnSound_50, eX1_isDrawnSound_50N, eX1_isDrawnSound_51, eX1_isDrawnSound_51N, eX1_isDrawnSound_52RR, eX1_isDrawnSound_52NR, eX1_isDrawnSound_52RN, eX1_isDrawnSound_52NN, eX1_isDrawnSound_55, eX1_isDrawnSound_58, eX1_isDrawnSound_59, eX1_isDrawnSound_62, eX1_isDrawnSound_63, lgp, lgn, lgz, i10, i00, if_true, if_false, eq_self, not_true, not_false_eq_true, ite_le, n45, n54, true_or, or_true, false_or, or_false, false_and, and_false, kx_l, kx_r, go_s, gl_s, gi_s, gb_s2, gb_s3, gq_s, wt_nil, wt_int, wt_long, wt_ref, wt_null, nl_int, nl_long, nl_ref, nl_null, nl_none, rf_n, rf_s, rf_st, tl_s, tl_n, g0, gS, ex1, nb_b, nb_0, nb_1, nf_i, nf_l, nf_ra, nf_ro, nf_na, nf_no, nf_b0, nf_z0, t45_4, t45_5, true_and, and_true, List.set_cons_zero, List.set_cons_succ, List.length_cons, List.length_nil, rd_s, upw_s, ne_eq, not_false_eq_true, Nat.zero_add, Nat.add_zero]
    | split
    | with_reducible intro _
    | omega
set_option maxHeartbeats 4000000 in
theorem fX1_isSoundAlone {s : AS} {p : Nat} {r : R4} (hC : CS g w0 x nA cA lA kn s w) (ho : rOk r) (hp : rAt w p r) (hQ : ∀ w', ext g w w' → Q (.inl (some (.int 1))) w') : WP (MX1_isSoundAlone g) Q (0, [some (.ref x), some (.ref p)], [], w, 0, 0) := by
  repeat' first
    | with_reducible assumption
    | with_reducible refine And.intro ?_ ?_
    | with_reducible exact vpi6 (by assumption) (by assumption)
    | with_reducible exact vpi8 (by assumption) (by assumption)
    | with_reducible exact trivial
    | with_reducible refine fX1_isLikeItsCopy hp ho (fun w1 x1 => ?_)
    | with_reducible refine fX0_isSettled (hp.ext x1) (fun z1 => ?_) (fun z1 => ?_)
    | with_reducible refine fX1_outerOf (hp.ext x1) (fun hno => ?_) (fun hyes q hq => ?_)
    | with_reducible exact absurd (oOut ho) hno
    | with_reducible refine fX0_matchesR (hp.ext (x1.tr (ext_up2 ext.rf hq))) rAt_new (fun z2 => ?_) (fun z2 => ?_)
    | with_reducible exact absurd (mOut z2) z1
    | with_reducible exact absurd z1 (mOutN z2)
    | with_reducible refine fX1_isOuterSound (hp.ext (x1.tr (ext_up2 ext.rf hq))) ?_
    | with_reducible refine fX1_isEachEndHeld (hp.ext (x1.tr (ext_up2 ext.rf hq))) ho ?_
    | with_reducible refine fX1_isDrawnSound (hC.ext (x1.tr (ext_up2 ext.rf hq))) ho (hp.ext (x1.tr (ext_up2 ext.rf hq))) (fun w3 x3 => ?_)
    | with_reducible exact go_F (hp.ext x1) trivial
    | with_reducible exact go_F (hp.ext (x1.tr (ext_up2 ext.rf hq))) trivial
    | with_reducible exact go_5 (hC.ext (x1.tr (ext_up2 ext.rf hq)))
    | with_reducible exact hQ _ ((x1.tr (ext_up2 ext.rf hq)).tr x3)
    | simp only [eX1_isSoundAlone_0, eX1_isSoundAlone_0N, eX1_isSoundAlone_1R, eX1_isSoundAlone_1N, eX1_isSoundAlone_4, eX1_isSoundAlone_7, eX1_isSoundAlone_7N, eX1_isSoundAlone_8, eX1_isSoundAlone_11, eX1_isSoundAlone_11N, eX1_isSoundAlone_12, eX1_isSoundAlone_12N, eX1_isSoundAlone_13R, eX1_isSoundAlone_13N, eX1_isSoundAlone_16R, eX1_isSoundAlone_16N, eX1_isSoundAlone_19, eX1_isSoundAlone_22, eX1_isSoundAlone_22N, eX1_isSoundAlone_23R, eX1_isSoundAlone_23N, eX1_isSoundAlone_26, eX1_isSoundAlone_29, eX1_isSoundAlone_29N, eX1_isSoundAlone_30R, eX1_isSoundAlone_30N, eX1_isSoundAlone_33, eX1_isSoundAlone_36, eX1_isSoundAlone_36N, eX1_isSoundAlone_37, eX1_isSoundAlone_37N, eX1_isSoundAlone_38R, eX1_isSoundAlone_38N, eX1_isSoundAlone_41, eX1_isSoundAlone_44, eX1_isSoundAlone_45, eX1_isSoundAlone_48, eX1_isSoundAlone_49, lgp, lgn, lgz, i10, i00, if_true, if_false, eq_self, not_true, not_false_eq_true, ite_le, n45, n54, true_or, or_true, false_or, or_false, false_and, and_false, kx_l, kx_r, go_s, gl_s, gi_s, gb_s2, gb_s3, gq_s, wt_nil, wt_int, wt_long, wt_ref, wt_null, nl_int, nl_long, nl_ref, nl_null, nl_none, rf_n, rf_s, rf_st, tl_s, tl_n, g0, gS, ex1, nb_b, nb_0, nb_1, nf_i, nf_l, nf_ra, nf_ro, nf_na, nf_no, nf_b0, nf_z0, t45_4, t45_5, true_and, and_true, List.set_cons_zero, List.set_cons_succ, List.length_cons, List.length_nil, rd_s, upw_s, ne_eq, not_false_eq_true, Nat.zero_add, Nat.add_zero]
    | split
    | with_reducible intro _
    | omega
set_option maxHeartbeats 4000000 in
theorem flX1_isSameToAndFro_2 {s : AS} {p : Nat} {r : R4} (hC : CS g w0 x nA cA lA kn s w) (hp : rAt w p r) (hQ : Q (.inl (some (.int 1))) w) : ∀ (d j : Nat) (i3 : Option Value) (k m : Nat), j + d = 6 → k ≤ 0 → m ≤ 0 → WP (MX1_isSameToAndFro g) Q (2, [some (.ref x), some (.ref p), some (.int (Int32.ofNat j)), i3], [], w, k, m) := by
  obtain ⟨gc, gl, ⟨hx, hn, hc, hl, hgc, hgl, hn0, hn1, rx, rn, rc, rl, ⟨d1, d2, d3, d4, d5, d6⟩, ⟨d7, d8, d9, d10, d11, d12⟩⟩, hcd, hpl⟩ := hC.1.opn g
  intro d
  induction d with
  | zero =>
    intro j i3 k m hjd hk hm
    have h9 : j < 1000 := (by omega)
    have hlt : ¬ Int32.ofNat j < 6 := oNg (B := 6) h9 rfl (by omega)
    have hnn := oN0 h9
    have hcl := oNc h9
    obtain rfl : j = 6 := by omega
    rw [eX1_isSameToAndFro_2]
    repeat' first
      | with_reducible assumption
      | with_reducible refine And.intro ?_ ?_
      | with_reducible exact vpi6 (by assumption) (by assumption)
      | with_reducible exact vpi8 (by assumption) (by assumption)
      | with_reducible exact trivial
      | with_reducible exact go_F hp trivial
      | with_reducible exact go_F (cdG hcd (j := j) (by omega) (by assumption)) trivial
      | with_reducible refine fX0_matchesR hp (cdG hcd (j := j) (by omega) (by assumption)) (fun z1 => ?_) (fun z1 => ?_)
      | with_reducible refine fX0_matchesR (cdG hcd (j := j) (by omega) (by assumption)) hp (fun z2 => ?_) (fun z2 => ?_)
      | with_reducible exact absurd (mSy z1) z2
      | with_reducible exact absurd (mSy z2) z1
      | ((with_reducible refine isQ (Q := Q) ?_); exact hQ)
      | simp only [eX1_isSameToAndFro_0, eX1_isSameToAndFro_1, eX1_isSameToAndFro_3, eX1_isSameToAndFro_5, eX1_isSameToAndFro_8, eX1_isSameToAndFro_8N, eX1_isSameToAndFro_9, eX1_isSameToAndFro_12, eX1_isSameToAndFro_13, eX1_isSameToAndFro_14, eX1_isSameToAndFro_14N, eX1_isSameToAndFro_15, eX1_isSameToAndFro_15N, eX1_isSameToAndFro_16R, eX1_isSameToAndFro_16N, eX1_isSameToAndFro_19, eX1_isSameToAndFro_19N, eX1_isSameToAndFro_20, eX1_isSameToAndFro_20N, eX1_isSameToAndFro_21R, eX1_isSameToAndFro_21N, eX1_isSameToAndFro_24, eX1_isSameToAndFro_24N, eX1_isSameToAndFro_25, eX1_isSameToAndFro_25N, eX1_isSameToAndFro_26R, eX1_isSameToAndFro_26N, eX1_isSameToAndFro_29, eX1_isSameToAndFro_32, eX1_isSameToAndFro_33, eX1_isSameToAndFro_34, eX1_isSameToAndFro_37, eX1_isSameToAndFro_40, eX1_isSameToAndFro_41, lgp, lgn, lgz, i10, i00, if_true, if_false, eq_self, not_true, not_false_eq_true, hlt, hcl, rx, rn, rc, rl, hx, hn, hc, hl, d1, d2, d3, d4, d5, d6, d7, d8, d9, d10, d11, d12, rd_n, upw_n, ite_le, n45, n54, true_or, or_true, false_or, or_false, false_and, and_false, kx_l, kx_r, go_s, gl_s, gi_s, gb_s2, gb_s3, gq_s, wt_nil, wt_int, wt_long, wt_ref, wt_null, nl_int, nl_long, nl_ref, nl_null, nl_none, rf_n, rf_s, rf_st, tl_s, tl_n, g0, gS, ex1, nb_b, nb_0, nb_1, nf_i, nf_l, nf_ra, nf_ro, nf_na, nf_no, nf_b0, nf_z0, t45_4, t45_5, true_and, and_true, List.set_cons_zero, List.set_cons_succ, List.length_cons, List.length_nil, rd_s, upw_s, ne_eq, not_false_eq_true, Nat.zero_add, Nat.add_zero]
      | split
      | with_reducible intro _
      | omega
  | succ d ih =>
    intro j i3 k m hjd hk hm
    have h9 : j < 1000 := (by omega)
    have hlt : Int32.ofNat j < 6 := oNl (B := 6) h9 rfl (by omega)
    have hnn := oN0 h9
    have hcl := oNc h9
    rw [eX1_isSameToAndFro_2]
    repeat' first
      | with_reducible assumption
      | with_reducible refine And.intro ?_ ?_
      | with_reducible exact vpi6 (by assumption) (by assumption)
      | with_reducible exact vpi8 (by assumption) (by assumption)
      | with_reducible exact trivial
      | (rw [oN1]; exact ih (j + 1) _ _ _ (by omega) (by first | assumption | omega) (by first | assumption | omega))
      | with_reducible exact go_F hp trivial
      | with_reducible exact go_F (cdG hcd (j := j) (by omega) (by assumption)) trivial
      | with_reducible refine fX0_matchesR hp (cdG hcd (j := j) (by omega) (by assumption)) (fun z1 => ?_) (fun z1 => ?_)
      | with_reducible refine fX0_matchesR (cdG hcd (j := j) (by omega) (by assumption)) hp (fun z2 => ?_) (fun z2 => ?_)
      | with_reducible exact absurd (mSy z1) z2
      | with_reducible exact absurd (mSy z2) z1
      | ((with_reducible refine isQ (Q := Q) ?_); exact hQ)
      | simp only [eX1_isSameToAndFro_0, eX1_isSameToAndFro_1, eX1_isSameToAndFro_3, eX1_isSameToAndFro_5, eX1_isSameToAndFro_8, eX1_isSameToAndFro_8N, eX1_isSameToAndFro_9, eX1_isSameToAndFro_12, eX1_isSameToAndFro_13, eX1_isSameToAndFro_14, eX1_isSameToAndFro_14N, eX1_isSameToAndFro_15, eX1_isSameToAndFro_15N, eX1_isSameToAndFro_16R, eX1_isSameToAndFro_16N, eX1_isSameToAndFro_19, eX1_isSameToAndFro_19N, eX1_isSameToAndFro_20, eX1_isSameToAndFro_20N, eX1_isSameToAndFro_21R, eX1_isSameToAndFro_21N, eX1_isSameToAndFro_24, eX1_isSameToAndFro_24N, eX1_isSameToAndFro_25, eX1_isSameToAndFro_25N, eX1_isSameToAndFro_26R, eX1_isSameToAndFro_26N, eX1_isSameToAndFro_29, eX1_isSameToAndFro_32, eX1_isSameToAndFro_33, eX1_isSameToAndFro_34, eX1_isSameToAndFro_37, eX1_isSameToAndFro_40, eX1_isSameToAndFro_41, lgp, lgn, lgz, i10, i00, if_true, if_false, eq_self, not_true, not_false_eq_true, hlt, hcl, rx, rn, rc, rl, hx, hn, hc, hl, d1, d2, d3, d4, d5, d6, d7, d8, d9, d10, d11, d12, rd_n, upw_n, ite_le, n45, n54, true_or, or_true, false_or, or_false, false_and, and_false, kx_l, kx_r, go_s, gl_s, gi_s, gb_s2, gb_s3, gq_s, wt_nil, wt_int, wt_long, wt_ref, wt_null, nl_int, nl_long, nl_ref, nl_null, nl_none, rf_n, rf_s, rf_st, tl_s, tl_n, g0, gS, ex1, nb_b, nb_0, nb_1, nf_i, nf_l, nf_ra, nf_ro, nf_na, nf_no, nf_b0, nf_z0, t45_4, t45_5, true_and, and_true, List.set_cons_zero, List.set_cons_succ, List.length_cons, List.length_nil, rd_s, upw_s, ne_eq, not_false_eq_true, Nat.zero_add, Nat.add_zero]
      | split
      | with_reducible intro _
      | omega
set_option maxHeartbeats 4000000 in
theorem fX1_isSameToAndFro {s : AS} {p : Nat} {r : R4} (hC : CS g w0 x nA cA lA kn s w) (hp : rAt w p r) (hQ : Q (.inl (some (.int 1))) w) : WP (MX1_isSameToAndFro g) Q (0, [some (.ref x), some (.ref p), none, none], [], w, 0, 0) := by
  repeat' first
    | with_reducible assumption
    | with_reducible refine And.intro ?_ ?_
    | with_reducible exact vpi6 (by assumption) (by assumption)
    | with_reducible exact vpi8 (by assumption) (by assumption)
    | with_reducible exact trivial
    | ((with_reducible refine isWP (pc := 2) ?_); exact flX1_isSameToAndFro_2 hC hp hQ 6 0 _ _ _ rfl (by decide) (by decide))
    | simp only [eX1_isSameToAndFro_0, eX1_isSameToAndFro_1, eX1_isSameToAndFro_3, eX1_isSameToAndFro_5, eX1_isSameToAndFro_8, eX1_isSameToAndFro_8N, eX1_isSameToAndFro_9, eX1_isSameToAndFro_12, eX1_isSameToAndFro_13, eX1_isSameToAndFro_14, eX1_isSameToAndFro_14N, eX1_isSameToAndFro_15, eX1_isSameToAndFro_15N, eX1_isSameToAndFro_16R, eX1_isSameToAndFro_16N, eX1_isSameToAndFro_19, eX1_isSameToAndFro_19N, eX1_isSameToAndFro_20, eX1_isSameToAndFro_20N, eX1_isSameToAndFro_21R, eX1_isSameToAndFro_21N, eX1_isSameToAndFro_24, eX1_isSameToAndFro_24N, eX1_isSameToAndFro_25, eX1_isSameToAndFro_25N, eX1_isSameToAndFro_26R, eX1_isSameToAndFro_26N, eX1_isSameToAndFro_29, eX1_isSameToAndFro_32, eX1_isSameToAndFro_33, eX1_isSameToAndFro_34, eX1_isSameToAndFro_37, eX1_isSameToAndFro_40, eX1_isSameToAndFro_41, lgp, lgn, lgz, i10, i00, if_true, if_false, eq_self, not_true, not_false_eq_true, ite_le, n45, n54, true_or, or_true, false_or, or_false, false_and, and_false, kx_l, kx_r, go_s, gl_s, gi_s, gb_s2, gb_s3, gq_s, wt_nil, wt_int, wt_long, wt_ref, wt_null, nl_int, nl_long, nl_ref, nl_null, nl_none, rf_n, rf_s, rf_st, tl_s, tl_n, g0, gS, ex1, nb_b, nb_0, nb_1, nf_i, nf_l, nf_ra, nf_ro, nf_na, nf_no, nf_b0, nf_z0, t45_4, t45_5, true_and, and_true, List.set_cons_zero, List.set_cons_succ, List.length_cons, List.length_nil, rd_s, upw_s, ne_eq, not_false_eq_true, Nat.zero_add, Nat.add_zero]
    | split
    | with_reducible intro _
    | omega
set_option maxHeartbeats 4000000 in
theorem flX1_isEachFoundInPile_2 {s : AS} (hC : CS g w0 x nA cA lA kn s w) (hQ : Q (.inl (some (.int 1))) w) : ∀ (d j : Nat) (i2 : Option Value) (k m : Nat), j + d = s.2.2.1.toInt.toNat → k ≤ 0 → m ≤ 0 → WP (MX1_isEachFoundInPile g) Q (2, [some (.ref x), some (.int (Int32.ofNat j)), i2], [], w, k, m) := by
  obtain ⟨gc, gl, ⟨hx, hn, hc, hl, hgc, hgl, hn0, hn1, rx, rn, rc, rl, ⟨d1, d2, d3, d4, d5, d6⟩, ⟨d7, d8, d9, d10, d11, d12⟩⟩, hcd, hpl⟩ := hC.1.opn g
  intro d
  induction d with
  | zero =>
    intro j i2 k m hjd hk hm
    have h9 : j < 1000 := (by have := (cnt12 hn0 hn1).2; omega)
    have hlt : ¬ Int32.ofNat j < s.2.2.1 := oNg (B := s.2.2.1.toInt.toNat) h9 (cnt12 hn0 hn1).1 (by omega)
    have hnn := oN0 h9
    have hcl := oNc h9
    obtain rfl : j = s.2.2.1.toInt.toNat := by omega
    rw [eX1_isEachFoundInPile_2]
    repeat' first
      | with_reducible assumption
      | with_reducible refine And.intro ?_ ?_
      | with_reducible exact vpi6 (by assumption) (by assumption)
      | with_reducible exact vpi8 (by assumption) (by assumption)
      | with_reducible exact trivial
      | with_reducible exact vpj (j := j) (by have := (cnt12 hn0 hn1).2; omega)
      | with_reducible exact go_5 hC
      | with_reducible exact absurd (by assumption) (pln (j := j) hpl (by omega))
      | with_reducible refine fX1_firstPlaceOf hC (plj (j := j) hpl (by omega) (by assumption)) (fun z1 => ?_) (fun i z1 z2 z3 => ?_)
      | with_reducible exact absurd mP_rf (z1 j (by omega))
      | with_reducible exact absurd (by assumption) (oN9 (i := i) (by have := (cnt12 hn0 hn1).2; omega))
      | ((with_reducible refine isQ (Q := Q) ?_); exact hQ)
      | simp only [eX1_isEachFoundInPile_0, eX1_isEachFoundInPile_1, eX1_isEachFoundInPile_3, eX1_isEachFoundInPile_3N, eX1_isEachFoundInPile_4, eX1_isEachFoundInPile_7, eX1_isEachFoundInPile_10, eX1_isEachFoundInPile_10N, eX1_isEachFoundInPile_11, eX1_isEachFoundInPile_14, eX1_isEachFoundInPile_15, eX1_isEachFoundInPile_16, eX1_isEachFoundInPile_16N, eX1_isEachFoundInPile_17, eX1_isEachFoundInPile_17N, eX1_isEachFoundInPile_18R, eX1_isEachFoundInPile_18N, eX1_isEachFoundInPile_21, eX1_isEachFoundInPile_21N, eX1_isEachFoundInPile_22, eX1_isEachFoundInPile_22N, eX1_isEachFoundInPile_23R, eX1_isEachFoundInPile_23N, eX1_isEachFoundInPile_26, eX1_isEachFoundInPile_27, eX1_isEachFoundInPile_30, eX1_isEachFoundInPile_31, eX1_isEachFoundInPile_32, eX1_isEachFoundInPile_35, eX1_isEachFoundInPile_38, eX1_isEachFoundInPile_39, lgp, lgn, lgz, i10, i00, if_true, if_false, eq_self, not_true, not_false_eq_true, hlt, hcl, rx, rn, rc, rl, hx, hn, hc, hl, d1, d2, d3, d4, d5, d6, d7, d8, d9, d10, d11, d12, rd_n, upw_n, ite_le, n45, n54, true_or, or_true, false_or, or_false, false_and, and_false, kx_l, kx_r, go_s, gl_s, gi_s, gb_s2, gb_s3, gq_s, wt_nil, wt_int, wt_long, wt_ref, wt_null, nl_int, nl_long, nl_ref, nl_null, nl_none, rf_n, rf_s, rf_st, tl_s, tl_n, g0, gS, ex1, nb_b, nb_0, nb_1, nf_i, nf_l, nf_ra, nf_ro, nf_na, nf_no, nf_b0, nf_z0, t45_4, t45_5, true_and, and_true, List.set_cons_zero, List.set_cons_succ, List.length_cons, List.length_nil, rd_s, upw_s, ne_eq, not_false_eq_true, Nat.zero_add, Nat.add_zero]
      | split
      | with_reducible intro _
      | omega
  | succ d ih =>
    intro j i2 k m hjd hk hm
    have h9 : j < 1000 := (by have := (cnt12 hn0 hn1).2; omega)
    have hlt : Int32.ofNat j < s.2.2.1 := oNl (B := s.2.2.1.toInt.toNat) h9 (cnt12 hn0 hn1).1 (by omega)
    have hnn := oN0 h9
    have hcl := oNc h9
    rw [eX1_isEachFoundInPile_2]
    repeat' first
      | with_reducible assumption
      | with_reducible refine And.intro ?_ ?_
      | with_reducible exact vpi6 (by assumption) (by assumption)
      | with_reducible exact vpi8 (by assumption) (by assumption)
      | with_reducible exact trivial
      | (rw [oN1]; exact ih (j + 1) _ _ _ (by omega) (by first | assumption | omega) (by first | assumption | omega))
      | with_reducible exact vpj (j := j) (by have := (cnt12 hn0 hn1).2; omega)
      | with_reducible exact go_5 hC
      | with_reducible exact absurd (by assumption) (pln (j := j) hpl (by omega))
      | with_reducible refine fX1_firstPlaceOf hC (plj (j := j) hpl (by omega) (by assumption)) (fun z1 => ?_) (fun i z1 z2 z3 => ?_)
      | with_reducible exact absurd mP_rf (z1 j (by omega))
      | with_reducible exact absurd (by assumption) (oN9 (i := i) (by have := (cnt12 hn0 hn1).2; omega))
      | ((with_reducible refine isQ (Q := Q) ?_); exact hQ)
      | simp only [eX1_isEachFoundInPile_0, eX1_isEachFoundInPile_1, eX1_isEachFoundInPile_3, eX1_isEachFoundInPile_3N, eX1_isEachFoundInPile_4, eX1_isEachFoundInPile_7, eX1_isEachFoundInPile_10, eX1_isEachFoundInPile_10N, eX1_isEachFoundInPile_11, eX1_isEachFoundInPile_14, eX1_isEachFoundInPile_15, eX1_isEachFoundInPile_16, eX1_isEachFoundInPile_16N, eX1_isEachFoundInPile_17, eX1_isEachFoundInPile_17N, eX1_isEachFoundInPile_18R, eX1_isEachFoundInPile_18N, eX1_isEachFoundInPile_21, eX1_isEachFoundInPile_21N, eX1_isEachFoundInPile_22, eX1_isEachFoundInPile_22N, eX1_isEachFoundInPile_23R, eX1_isEachFoundInPile_23N, eX1_isEachFoundInPile_26, eX1_isEachFoundInPile_27, eX1_isEachFoundInPile_30, eX1_isEachFoundInPile_31, eX1_isEachFoundInPile_32, eX1_isEachFoundInPile_35, eX1_isEachFoundInPile_38, eX1_isEachFoundInPile_39, lgp, lgn, lgz, i10, i00, if_true, if_false, eq_self, not_true, not_false_eq_true, hlt, hcl, rx, rn, rc, rl, hx, hn, hc, hl, d1, d2, d3, d4, d5, d6, d7, d8, d9, d10, d11, d12, rd_n, upw_n, ite_le, n45, n54, true_or, or_true, false_or, or_false, false_and, and_false, kx_l, kx_r, go_s, gl_s, gi_s, gb_s2, gb_s3, gq_s, wt_nil, wt_int, wt_long, wt_ref, wt_null, nl_int, nl_long, nl_ref, nl_null, nl_none, rf_n, rf_s, rf_st, tl_s, tl_n, g0, gS, ex1, nb_b, nb_0, nb_1, nf_i, nf_l, nf_ra, nf_ro, nf_na, nf_no, nf_b0, nf_z0, t45_4, t45_5, true_and, and_true, List.set_cons_zero, List.set_cons_succ, List.length_cons, List.length_nil, rd_s, upw_s, ne_eq, not_false_eq_true, Nat.zero_add, Nat.add_zero]
      | split
      | with_reducible intro _
      | omega
set_option maxHeartbeats 4000000 in
theorem fX1_isEachFoundInPile {s : AS} (hC : CS g w0 x nA cA lA kn s w) (hQ : Q (.inl (some (.int 1))) w) : WP (MX1_isEachFoundInPile g) Q (0, [some (.ref x), none, none], [], w, 0, 0) := by
  repeat' first
    | with_reducible assumption
    | with_reducible refine And.intro ?_ ?_
    | with_reducible exact vpi6 (by assumption) (by assumption)
    | with_reducible exact vpi8 (by assumption) (by assumption)
    | with_reducible exact trivial
    | ((with_reducible refine isWP (pc := 2) ?_); exact flX1_isEachFoundInPile_2 hC hQ _ 0 _ _ _ (Nat.zero_add _) (by decide) (by decide))
    | simp only [eX1_isEachFoundInPile_0, eX1_isEachFoundInPile_1, eX1_isEachFoundInPile_3, eX1_isEachFoundInPile_3N, eX1_isEachFoundInPile_4, eX1_isEachFoundInPile_7, eX1_isEachFoundInPile_10, eX1_isEachFoundInPile_10N, eX1_isEachFoundInPile_11, eX1_isEachFoundInPile_14, eX1_isEachFoundInPile_15, eX1_isEachFoundInPile_16, eX1_isEachFoundInPile_16N, eX1_isEachFoundInPile_17, eX1_isEachFoundInPile_17N, eX1_isEachFoundInPile_18R, eX1_isEachFoundInPile_18N, eX1_isEachFoundInPile_21, eX1_isEachFoundInPile_21N, eX1_isEachFoundInPile_22, eX1_isEachFoundInPile_22N, eX1_isEachFoundInPile_23R, eX1_isEachFoundInPile_23N, eX1_isEachFoundInPile_26, eX1_isEachFoundInPile_27, eX1_isEachFoundInPile_30, eX1_isEachFoundInPile_31, eX1_isEachFoundInPile_32, eX1_isEachFoundInPile_35, eX1_isEachFoundInPile_38, eX1_isEachFoundInPile_39, lgp, lgn, lgz, i10, i00, if_true, if_false, eq_self, not_true, not_false_eq_true, ite_le, n45, n54, true_or, or_true, false_or, or_false, false_and, and_false, kx_l, kx_r, go_s, gl_s, gi_s, gb_s2, gb_s3, gq_s, wt_nil, wt_int, wt_long, wt_ref, wt_null, nl_int, nl_long, nl_ref, nl_null, nl_none, rf_n, rf_s, rf_st, tl_s, tl_n, g0, gS, ex1, nb_b, nb_0, nb_1, nf_i, nf_l, nf_ra, nf_ro, nf_na, nf_no, nf_b0, nf_z0, t45_4, t45_5, true_and, and_true, List.set_cons_zero, List.set_cons_succ, List.length_cons, List.length_nil, rd_s, upw_s, ne_eq, not_false_eq_true, Nat.zero_add, Nat.add_zero]
    | split
    | with_reducible intro _
    | omega
set_option maxHeartbeats 4000000 in
theorem flX1_isSound_2 {s : AS} (hC : CS g w0 x nA cA lA kn s w) (ho : sOk s) (hQ : ∀ w', ext g w w' → Q (.inl (some (.int 1))) w') : ∀ (d j : Nat) (i2 : Option Value) (w1 : Hw) (k m : Nat), j + d = 6 → ext g w w1 → k + 4 * d ≤ 24 → m + 16 * d ≤ 96 → WP (MX1_isSound g) Q (2, [some (.ref x), some (.int (Int32.ofNat j)), i2], [], w1, k, m) := by
  intro d
  induction d with
  | zero =>
    intro j i2 w1 k m hjd h1 hk hm
    have hC1 := hC.ext h1
    obtain ⟨gc, gl, ⟨hx, hn, hc, hl, hgc, hgl, hn0, hn1, rx, rn, rc, rl, ⟨d1, d2, d3, d4, d5, d6⟩, ⟨d7, d8, d9, d10, d11, d12⟩⟩, hcd, hpl⟩ := hC1.1.opn g
    have h9 : j < 1000 := by omega
    have hlt : ¬ Int32.ofNat j < 6 := oNg (B := 6) h9 rfl (by omega)
    rw [eX1_isSound_2]
    repeat' first
      | with_reducible assumption
      | with_reducible refine And.intro ?_ ?_
      | with_reducible exact vpi6 (by assumption) (by assumption)
      | with_reducible exact vpi8 (by assumption) (by assumption)
      | with_reducible exact trivial
      | with_reducible exact go_5 hC1
      | with_reducible exact go_5 (hC1.ext x2)
      | with_reducible refine fX1_isSoundAlone hC1 (cdO ho hcd (j := j) (by omega) (by assumption)) (cdG hcd (j := j) (by omega) (by assumption)) (fun w2 x2 => ?_)
      | with_reducible refine fX1_isSameToAndFro (hC1.ext x2) ((cdG hcd (j := j) (by omega) (by assumption)).ext x2) ?_
      | with_reducible refine fX1_isEachFoundInPile hC1 ?_
      | with_reducible exact hQ _ h1
      | simp only [eX1_isSound_0, eX1_isSound_1, eX1_isSound_3, eX1_isSound_5, eX1_isSound_8, eX1_isSound_8N, eX1_isSound_9, eX1_isSound_12, eX1_isSound_13, eX1_isSound_14, eX1_isSound_14N, eX1_isSound_15, eX1_isSound_15N, eX1_isSound_16R, eX1_isSound_16N, eX1_isSound_19, eX1_isSound_19N, eX1_isSound_20, eX1_isSound_20N, eX1_isSound_21R, eX1_isSound_21N, eX1_isSound_24, eX1_isSound_27, eX1_isSound_27N, eX1_isSound_28, eX1_isSound_28N, eX1_isSound_29R, eX1_isSound_29N, eX1_isSound_32, eX1_isSound_35, eX1_isSound_36, eX1_isSound_37, eX1_isSound_40, eX1_isSound_43, eX1_isSound_43N, eX1_isSound_44, eX1_isSound_47, lgp, lgn, lgz, i10, i00, if_true, if_false, eq_self, not_true, not_false_eq_true, rx, rn, rc, rl, hx, hn, hc, hl, d1, d2, d3, d4, d5, d6, d7, d8, d9, d10, d11, d12, rd_n, upw_n, hlt, ite_le, n45, n54, true_or, or_true, false_or, or_false, false_and, and_false, kx_l, kx_r, go_s, gl_s, gi_s, gb_s2, gb_s3, gq_s, wt_nil, wt_int, wt_long, wt_ref, wt_null, nl_int, nl_long, nl_ref, nl_null, nl_none, rf_n, rf_s, rf_st, tl_s, tl_n, g0, gS, ex1, nb_b, nb_0, nb_1, nf_i, nf_l, nf_ra, nf_ro, nf_na, nf_no, nf_b0, nf_z0, t45_4, t45_5, true_and, and_true, List.set_cons_zero, List.set_cons_succ, List.length_cons, List.length_nil, rd_s, upw_s, ne_eq, not_false_eq_true, Nat.zero_add, Nat.add_zero]
      | split
      | with_reducible intro _
      | omega
  | succ d ih =>
    intro j i2 w1 k m hjd h1 hk hm
    have hC1 := hC.ext h1
    obtain ⟨gc, gl, ⟨hx, hn, hc, hl, hgc, hgl, hn0, hn1, rx, rn, rc, rl, ⟨d1, d2, d3, d4, d5, d6⟩, ⟨d7, d8, d9, d10, d11, d12⟩⟩, hcd, hpl⟩ := hC1.1.opn g
    have h9 : j < 1000 := by omega
    have hlt : Int32.ofNat j < 6 := oNl (B := 6) h9 rfl (by omega)
    have hnn := oN0 h9
    have hcl := oNc h9
    rw [eX1_isSound_2]
    repeat' first
      | with_reducible assumption
      | with_reducible refine And.intro ?_ ?_
      | with_reducible exact vpi6 (by assumption) (by assumption)
      | with_reducible exact vpi8 (by assumption) (by assumption)
      | with_reducible exact trivial
      | with_reducible exact go_5 hC1
      | with_reducible exact go_5 (hC1.ext x2)
      | with_reducible refine fX1_isSoundAlone hC1 (cdO ho hcd (j := j) (by omega) (by assumption)) (cdG hcd (j := j) (by omega) (by assumption)) (fun w2 x2 => ?_)
      | with_reducible refine fX1_isSameToAndFro (hC1.ext x2) ((cdG hcd (j := j) (by omega) (by assumption)).ext x2) ?_
      | with_reducible refine fX1_isEachFoundInPile hC1 ?_
      | with_reducible exact hQ _ h1
      | (rw [oN1]; exact ih (j + 1) _ _ _ _ (by omega) (h1.tr x2) (by omega) (by omega))
      | (rw [oN1]; exact ih (j + 1) _ _ _ _ (by omega) h1 (by omega) (by omega))
      | simp only [eX1_isSound_0, eX1_isSound_1, eX1_isSound_3, eX1_isSound_5, eX1_isSound_8, eX1_isSound_8N, eX1_isSound_9, eX1_isSound_12, eX1_isSound_13, eX1_isSound_14, eX1_isSound_14N, eX1_isSound_15, eX1_isSound_15N, eX1_isSound_16R, eX1_isSound_16N, eX1_isSound_19, eX1_isSound_19N, eX1_isSound_20, eX1_isSound_20N, eX1_isSound_21R, eX1_isSound_21N, eX1_isSound_24, eX1_isSound_27, eX1_isSound_27N, eX1_isSound_28, eX1_isSound_28N, eX1_isSound_29R, eX1_isSound_29N, eX1_isSound_32, eX1_isSound_35, eX1_isSound_36, eX1_isSound_37, eX1_isSound_40, eX1_isSound_43, eX1_isSound_43N, eX1_isSound_44, eX1_isSound_47, lgp, lgn, lgz, i10, i00, if_true, if_false, eq_self, not_true, not_false_eq_true, rx, rn, rc, rl, hx, hn, hc, hl, d1, d2, d3, d4, d5, d6, d7, d8, d9, d10, d11, d12, rd_n, upw_n, hlt, hcl, ite_le, n45, n54, true_or, or_true, false_or, or_false, false_and, and_false, kx_l, kx_r, go_s, gl_s, gi_s, gb_s2, gb_s3, gq_s, wt_nil, wt_int, wt_long, wt_ref, wt_null, nl_int, nl_long, nl_ref, nl_null, nl_none, rf_n, rf_s, rf_st, tl_s, tl_n, g0, gS, ex1, nb_b, nb_0, nb_1, nf_i, nf_l, nf_ra, nf_ro, nf_na, nf_no, nf_b0, nf_z0, t45_4, t45_5, true_and, and_true, List.set_cons_zero, List.set_cons_succ, List.length_cons, List.length_nil, rd_s, upw_s, ne_eq, not_false_eq_true, Nat.zero_add, Nat.add_zero]
      | split
      | with_reducible intro _
      | omega
set_option maxHeartbeats 4000000 in
theorem fX1_isSound {s : AS} (hC : CS g w0 x nA cA lA kn s w) (ho : sOk s) (hQ : ∀ w', ext g w w' → Q (.inl (some (.int 1))) w') : WP (MX1_isSound g) Q (0, [some (.ref x), none, none], [], w, 0, 0) := by
  repeat' first
    | with_reducible assumption
    | with_reducible refine And.intro ?_ ?_
    | with_reducible exact vpi6 (by assumption) (by assumption)
    | with_reducible exact vpi8 (by assumption) (by assumption)
    | with_reducible exact trivial
    | ((with_reducible refine isWP (pc := 2) ?_); exact flX1_isSound_2 hC ho hQ 6 0 _ w 0 0 rfl ext.rf (by decide) (by decide))
    | simp only [eX1_isSound_0, eX1_isSound_1, eX1_isSound_3, eX1_isSound_5, eX1_isSound_8, eX1_isSound_8N, eX1_isSound_9, eX1_isSound_12, eX1_isSound_13, eX1_isSound_14, eX1_isSound_14N, eX1_isSound_15, eX1_isSound_15N, eX1_isSound_16R, eX1_isSound_16N, eX1_isSound_19, eX1_isSound_19N, eX1_isSound_20, eX1_isSound_20N, eX1_isSound_21R, eX1_isSound_21N, eX1_isSound_24, eX1_isSound_27, eX1_isSound_27N, eX1_isSound_28, eX1_isSound_28N, eX1_isSound_29R, eX1_isSound_29N, eX1_isSound_32, eX1_isSound_35, eX1_isSound_36, eX1_isSound_37, eX1_isSound_40, eX1_isSound_43, eX1_isSound_43N, eX1_isSound_44, eX1_isSound_47, lgp, lgn, lgz, i10, i00, if_true, if_false, eq_self, not_true, not_false_eq_true, ite_le, n45, n54, true_or, or_true, false_or, or_false, false_and, and_false, kx_l, kx_r, go_s, gl_s, gi_s, gb_s2, gb_s3, gq_s, wt_nil, wt_int, wt_long, wt_ref, wt_null, nl_int, nl_long, nl_ref, nl_null, nl_none, rf_n, rf_s, rf_st, tl_s, tl_n, g0, gS, ex1, nb_b, nb_0, nb_1, nf_i, nf_l, nf_ra, nf_ro, nf_na, nf_no, nf_b0, nf_z0, t45_4, t45_5, true_and, and_true, List.set_cons_zero, List.set_cons_succ, List.length_cons, List.length_nil, rd_s, upw_s, ne_eq, not_false_eq_true, Nat.zero_add, Nat.add_zero]
    | split
    | with_reducible intro _
    | omega
end
end
/-! 71.fnd.lean.txt -/
section
section
variable {g : RO} {Q : Ot → Hw → Prop} {w0 w : Hw} {x nA cA lA : Nat} {kn : Int32}
/-! FUNCTIONAL SPECS, 13: all that writes keeps the ranges in order -/
/-- the class stands in some state whose ranges are in order -/
def CO (g : RO) (w0 : Hw) (x nA cA lA : Nat) (kn : Int32) (w : Hw) : Prop := ∃ s, sOk s ∧ CS g w0 x nA cA lA kn s w
theorem CO.cc (h : CO g w0 x nA cA lA kn w) : CC g w0 x nA cA lA kn w := by
  obtain ⟨s, -, h⟩ := h
  exact h.cc
theorem CO.ext {w' : Hw} (h : CO g w0 x nA cA lA kn w) (k : ext g w w') : CO g w0 x nA cA lA kn w' := by
  obtain ⟨s, ho, h⟩ := h
  exact ⟨s, ho, h.ext k⟩
theorem CO.mk {s : AS} (h : CS g w0 x nA cA lA kn s w) (ho : sOk s) : CO g w0 x nA cA lA kn w := ⟨s, ho, h⟩
theorem sOk.c' {s : AS} {a : Int32} {r : R4} (h : sOk s) (e : s.2.1 a.toNatClampNeg = some r) (k : okC a) : rOk r := h.c k e
theorem sOk.p' {s : AS} {a : Int32} (h : sOk s) (k : okP s.2.2.1 a) : rOk (s.2.2.2.1 a.toNatClampNeg) := h.2.1 _ (plB k)
theorem sOk.num {s : AS} {f : Nat → Int64} (h : sOk s) : sOk (sN s f) := h
theorem sOk.rf {s : AS} (h : sOk s) : sOk (sRf s) := h
theorem sOk.card {s : AS} {j : Nat} {r : R4} (h : sOk s) (hr : rOk r) : sOk (sC s (va_up s.2.1 j (some r))) := by
  refine ⟨fun i q hi e => ?_, h.2⟩
  have e' : va_up s.2.1 j (some r) i = some q := e
  unfold va_up at e'
  by_cases k : i = j
  · rw [if_pos k] at e'
    cases e'
    exact hr
  · rw [if_neg k] at e'
    exact h.1 i q hi e'
theorem sOk.card0 {s : AS} {j : Nat} (h : sOk s) : sOk (sC s (va_up s.2.1 j none)) := by
  refine ⟨fun i q hi e => ?_, h.2⟩
  have e' : va_up s.2.1 j none i = some q := e
  unfold va_up at e'
  by_cases k : i = j
  · rw [if_pos k] at e'
    cases e'
  · rw [if_neg k] at e'
    exact h.1 i q hi e'
theorem sOk.mk {s : AS} {j : Nat} {r : R4} (h : sOk s) (hr : rOk r) : sOk (sMk s j r) := h.card hr
theorem sOk.mkO {s : AS} {j : Nat} {a : Int32} {r : R4} (h : sOk s) (e : s.2.1 a.toNatClampNeg = some r) (k : okC a) : sOk (sMk s j (r.1, r.1, r.2.2.2, r.2.2.2)) := h.mk (oOut (r := r) (h.c k e))
theorem sOk.lay {s : AS} {r : R4} (h : sOk s) (hr : rOk r) (h11 : s.2.2.1 < 12) : sOk (sP_ s (s.2.2.1 + 1) (va_up s.2.2.2.1 s.2.2.1.toNatClampNeg r)) := by
  have q0 := i32_0 h.2.2.1
  have q1 := i32_lt h11
  have z : (12 : Int32).toInt = 12 := rfl
  have e1 : (s.2.2.1 + 1).toInt = s.2.2.1.toInt + 1 := i32p1 q0 (by omega)
  have t : s.2.2.1.toNatClampNeg = s.2.2.1.toInt.toNat := rfl
  refine ⟨h.1, fun i hi => ?_, i32_of_nlt (by show (0 : Int) ≤ (s.2.2.1 + 1).toInt; omega), i32_of_nlt (by show (s.2.2.1 + 1).toInt ≤ (12 : Int); omega)⟩
  have hi2 : (i : Int) < (s.2.2.1 + 1).toInt := hi
  show rOk (va_up s.2.2.2.1 s.2.2.1.toNatClampNeg r i)
  unfold va_up
  by_cases e : i = s.2.2.1.toNatClampNeg
  · rw [if_pos e]
    exact hr
  · rw [if_neg e]
    exact h.2.1 i (by omega)
theorem sOk.gap {s : AS} {p : Nat} (h : sOk s) (hp : p < s.2.2.1.toInt.toNat) : sOk (sP_ s (s.2.2.1 - 1) (rmv s.2.2.2.1 p)) := by
  have h0 := n0p hp
  have e1 := cg_sub h0
  refine ⟨h.1, fun i hi => ?_, cg3 h0, cg4 h0 h.2.2.2⟩
  have hi2 : (i : Int) < (s.2.2.1 - 1).toInt := hi
  show rOk (rmv s.2.2.2.1 p i)
  unfold rmv
  by_cases e : i < p
  · rw [if_pos e]
    exact h.2.1 i (by omega)
  · rw [if_neg e]
    exact h.2.1 (i + 1) (by omega)
theorem sOk.tur {s : AS} (h : sOk s) : sOk (sP_ s s.2.2.1 (rev s.2.2.2.1 s.2.2.1.toInt.toNat)) := by
  refine ⟨h.1, fun i hi => ?_, h.2.2⟩
  have hi2 : (i : Int) < s.2.2.1.toInt := hi
  exact h.2.1 (s.2.2.1.toInt.toNat - 1 - i) (by omega)
theorem sOk.zero {s : AS} {F : Nat → R4} (h : sOk s) : sOk (sP_ s 0 F) := by
  refine ⟨h.1, fun i hi => ?_, show ¬ (0 : Int32) < 0 by decide, show ¬ (12 : Int32) < 0 by decide⟩
  have hi2 : (i : Int) < (0 : Int32).toInt := hi
  have e0 : (0 : Int32).toInt = 0 := rfl
  omega
end
end
/-! 71.fne.lean.txt -/
section
section
variable {g : RO} {Q : Ot → Hw → Prop} {w0 w : Hw} {x nA cA lA : Nat} {kn : Int32}
/-! FUNCTIONAL SPECS, 14: a new object's state; the state by itself -/
def RFO (w : Hw) (x nA cA lA : Nat) (kn : Int32) : Prop := ∃ s, sOk s ∧ RF w x nA cA lA kn s
theorem RFO.rc (h : RFO w x nA cA lA kn) : RC w x nA cA lA kn := by
  obtain ⟨s, -, h⟩ := h
  exact h.rc
theorem z32 {i : Nat} (h : (i : Int) < (0 : Int32).toInt) : False := by
  have e0 : (0 : Int32).toInt = 0 := rfl
  omega
abbrev S00 : AS := (fun _ => 0, fun _ => none, 0, fun _ => (0, 0, 0, 0), 0, 0)
theorem S00_n {i : Nat} {r : R4} (e : S00.2.1 i = some r) : False := by
  have e' : (none : Option R4) = some r := e
  cases e'
theorem S00_ok : sOk S00 := ⟨fun i r hi e => (S00_n e).elim, fun i hi => (z32 hi).elim, show ¬ (0 : Int32) < 0 by decide, show ¬ (12 : Int32) < 0 by decide⟩
end
end
