section
variable {g : RO} {Q : Ot → Hw → Prop} {w0 w : Hw} {x nA cA lA : Nat} {kn : Int32}
set_option maxHeartbeats 4000000 in
theorem fX1_setEnd {s : AS} {a0 a1 : Int32} (hC : CS g w0 x nA cA lA kn s w) (hX : ¬ okN a0 → (Q (.inr "java/lang/IndexOutOfBoundsException") w)) (hW : okN a0 → ¬ okW a1 3 → (Q (.inr "java/lang/IllegalArgumentException") w)) (hQ : okN a0 → okW a1 3 → ∀ w', CS g w0 x nA cA lA kn (sN s (vp_updL s.1 a0.toNatClampNeg (frV a1))) w' → Q (.inl (some (.int (loV (frV a1))))) w') : WP (MX1_setEnd g) Q (0, [some (.ref x), some (.int a0), some (.int a1)], [], w, 0, 0) := by
  obtain ⟨gc, gl, ⟨hx, hn, hc, hl, hgc, hgl, hn0, hn1, rx, rn, rc, rl, ⟨d1, d2, d3, d4, d5, d6⟩, ⟨d7, d8, d9, d10, d11, d12⟩⟩, hcd, hpl⟩ := hC.1.opn g
  repeat' first
    | with_reducible assumption
    | with_reducible refine And.intro ?_ ?_
    | with_reducible exact vpi6 (by assumption) (by assumption)
    | with_reducible exact vpi8 (by assumption) (by assumption)
    | with_reducible exact trivial
    | with_reducible exact hX (by assumption)
    | with_reducible exact vpi8 hok.1 hok.2
    | with_reducible refine fX1_needNumber (fun _ => ?_) (fun hok => ?_)
    | with_reducible refine fX1_needChoice (fun hnw => ?_) (fun hw => ?_)
    | with_reducible exact hW hok hnw
    | with_reducible refine fX1_farNumber ?_
    | with_reducible refine fX1_putNumber hC hok.1 hok.2 (fun w1 h1 => ?_)
    | with_reducible exact hQ hok hw _ h1
    | simp only [eX1_setEnd_0, eX1_setEnd_1, eX1_setEnd_4, eX1_setEnd_5, eX1_setEnd_6, eX1_setEnd_9, eX1_setEnd_9N, eX1_setEnd_10, eX1_setEnd_11, eX1_setEnd_12, eX1_setEnd_15, eX1_setEnd_18, lgp, lgn, lgz, i10, i00, if_true, if_false, eq_self, not_true, not_false_eq_true, rx, rn, rc, rl, hx, hn, hc, hl, d1, d2, d3, d4, d5, d6, d7, d8, d9, d10, d11, d12, rd_n, upw_n, ite_le, n45, n54, true_or, or_true, false_or, or_false, false_and, and_false, kx_l, kx_r, go_s, gl_s, gi_s, gb_s2, gb_s3, gq_s, wt_nil, wt_int, wt_long, wt_ref, wt_null, nl_int, nl_long, nl_ref, nl_null, nl_none, rf_n, rf_s, rf_st, tl_s, tl_n, g0, gS, ex1, nb_b, nb_0, nb_1, nf_i, nf_l, nf_ra, nf_ro, nf_na, nf_no, nf_b0, nf_z0, t45_4, t45_5, true_and, and_true, List.set_cons_zero, List.set_cons_succ, List.length_cons, List.length_nil, rd_s, upw_s, ne_eq, not_false_eq_true, Nat.zero_add, Nat.add_zero]
    | split
    | with_reducible intro _
    | omega
set_option maxHeartbeats 4000000 in
theorem fX1_move {s : AS} {a0 a1 : Int32} (hC : CS g w0 x nA cA lA kn s w) (hX : ¬ okN a0 → (Q (.inr "java/lang/IndexOutOfBoundsException") w)) (hQ : okN a0 → ∀ w', CS g w0 x nA cA lA kn (sN s (vp_updL s.1 a0.toNatClampNeg (s.1 a0.toNatClampNeg + a1.toInt64))) w' → Q (.inl (some (.int (loV (s.1 a0.toNatClampNeg + a1.toInt64))))) w') : WP (MX1_move g) Q (0, [some (.ref x), some (.int a0), some (.int a1)], [], w, 0, 0) := by
  obtain ⟨gc, gl, ⟨hx, hn, hc, hl, hgc, hgl, hn0, hn1, rx, rn, rc, rl, ⟨d1, d2, d3, d4, d5, d6⟩, ⟨d7, d8, d9, d10, d11, d12⟩⟩, hcd, hpl⟩ := hC.1.opn g
  repeat' first
    | with_reducible assumption
    | with_reducible refine And.intro ?_ ?_
    | with_reducible exact vpi6 (by assumption) (by assumption)
    | with_reducible exact vpi8 (by assumption) (by assumption)
    | with_reducible exact trivial
    | with_reducible exact hX (by assumption)
    | with_reducible exact vpi8 hok.1 hok.2
    | with_reducible refine fX1_needNumber (fun _ => ?_) (fun hok => ?_)
    | with_reducible refine fX1_putNumber hC hok.1 hok.2 (fun w1 h1 => ?_)
    | with_reducible exact hQ hok _ h1
    | simp only [eX1_move_0, eX1_move_1, eX1_move_4, eX1_move_4N, eX1_move_5, eX1_move_6, eX1_move_6N, eX1_move_7, eX1_move_10, eX1_move_11, eX1_move_12, eX1_move_13, eX1_move_14, eX1_move_15, eX1_move_18, lgp, lgn, lgz, i10, i00, if_true, if_false, eq_self, not_true, not_false_eq_true, rx, rn, rc, rl, hx, hn, hc, hl, d1, d2, d3, d4, d5, d6, d7, d8, d9, d10, d11, d12, rd_n, upw_n, ite_le, n45, n54, true_or, or_true, false_or, or_false, false_and, and_false, kx_l, kx_r, go_s, gl_s, gi_s, gb_s2, gb_s3, gq_s, wt_nil, wt_int, wt_long, wt_ref, wt_null, nl_int, nl_long, nl_ref, nl_null, nl_none, rf_n, rf_s, rf_st, tl_s, tl_n, g0, gS, ex1, nb_b, nb_0, nb_1, nf_i, nf_l, nf_ra, nf_ro, nf_na, nf_no, nf_b0, nf_z0, t45_4, t45_5, true_and, and_true, List.set_cons_zero, List.set_cons_succ, List.length_cons, List.length_nil, rd_s, upw_s, ne_eq, not_false_eq_true, Nat.zero_add, Nat.add_zero]
    | split
    | with_reducible intro _
    | omega
set_option maxHeartbeats 4000000 in
theorem fX1_copy {s : AS} {a0 a1 : Int32} (hC : CS g w0 x nA cA lA kn s w) (hX : ¬ (okN a0 ∧ okN a1) → (Q (.inr "java/lang/IndexOutOfBoundsException") w)) (hQ : okN a0 → okN a1 → ∀ w', CS g w0 x nA cA lA kn (sN s (vp_updL s.1 a0.toNatClampNeg (s.1 a1.toNatClampNeg))) w' → Q (.inl (some (.int (loV (s.1 a1.toNatClampNeg))))) w') : WP (MX1_copy g) Q (0, [some (.ref x), some (.int a0), some (.int a1)], [], w, 0, 0) := by
  obtain ⟨gc, gl, ⟨hx, hn, hc, hl, hgc, hgl, hn0, hn1, rx, rn, rc, rl, ⟨d1, d2, d3, d4, d5, d6⟩, ⟨d7, d8, d9, d10, d11, d12⟩⟩, hcd, hpl⟩ := hC.1.opn g
  repeat' first
    | with_reducible assumption
    | with_reducible refine And.intro ?_ ?_
    | with_reducible exact vpi6 (by assumption) (by assumption)
    | with_reducible exact vpi8 (by assumption) (by assumption)
    | with_reducible exact trivial
    | with_reducible exact hQ ha hb _ h1
    | with_reducible exact vpi8 ha.1 ha.2
    | with_reducible exact vpi8 hb.1 hb.2
    | with_reducible exact hX (fun h => absurd h.1 (by assumption))
    | with_reducible exact hX (fun h => absurd h.2 (by assumption))
    | with_reducible refine fX1_needNumber (a0 := a0) (fun _ => ?_) (fun ha => ?_)
    | with_reducible refine fX1_needNumber (a0 := a1) (fun _ => ?_) (fun hb => ?_)
    | with_reducible refine fX1_putNumber hC ha.1 ha.2 (fun w1 h1 => ?_)
    | simp only [eX1_copy_0, eX1_copy_1, eX1_copy_4, eX1_copy_5, eX1_copy_8, eX1_copy_8N, eX1_copy_9, eX1_copy_10, eX1_copy_10N, eX1_copy_11, eX1_copy_14, eX1_copy_15, eX1_copy_16, eX1_copy_19, lgp, lgn, lgz, i10, i00, if_true, if_false, eq_self, not_true, not_false_eq_true, rx, rn, rc, rl, hx, hn, hc, hl, d1, d2, d3, d4, d5, d6, d7, d8, d9, d10, d11, d12, rd_n, upw_n, ite_le, n45, n54, true_or, or_true, false_or, or_false, false_and, and_false, kx_l, kx_r, go_s, gl_s, gi_s, gb_s2, gb_s3, gq_s, wt_nil, wt_int, wt_long, wt_ref, wt_null, nl_int, nl_long, nl_ref, nl_null, nl_none, rf_n, rf_s, rf_st, tl_s, tl_n, g0, gS, ex1, nb_b, nb_0, nb_1, nf_i, nf_l, nf_ra, nf_ro, nf_na, nf_no, nf_b0, nf_z0, t45_4, t45_5, true_and, and_true, List.set_cons_zero, List.set_cons_succ, List.length_cons, List.length_nil, rd_s, upw_s, ne_eq, not_false_eq_true, Nat.zero_add, Nat.add_zero]
    | split
    | with_reducible intro _
    | omega
set_option maxHeartbeats 4000000 in
theorem fX1_ofNumber {s : AS} {a0 a1 : Int32} (hC : CS g w0 x nA cA lA kn s w) (hX : ¬ okN a0 → (Q (.inr "java/lang/IndexOutOfBoundsException") w)) (hQ : okN a0 → Q (.inl (some (.int (hfV (s.1 a0.toNatClampNeg) a1)))) w) : WP (MX1_ofNumber g) Q (0, [some (.ref x), some (.int a0), some (.int a1)], [], w, 0, 0) := by
  obtain ⟨gc, gl, ⟨hx, hn, hc, hl, hgc, hgl, hn0, hn1, rx, rn, rc, rl, ⟨d1, d2, d3, d4, d5, d6⟩, ⟨d7, d8, d9, d10, d11, d12⟩⟩, hcd, hpl⟩ := hC.1.opn g
  repeat' first
    | with_reducible assumption
    | with_reducible refine And.intro ?_ ?_
    | with_reducible exact vpi6 (by assumption) (by assumption)
    | with_reducible exact vpi8 (by assumption) (by assumption)
    | with_reducible exact trivial
    | with_reducible exact hX (by assumption)
    | with_reducible exact vpi8 hok.1 hok.2
    | with_reducible refine fX1_needNumber (fun _ => ?_) (fun hok => ?_)
    | with_reducible refine fX1_halfOf ?_
    | with_reducible exact hQ hok
    | simp only [eX1_ofNumber_0, eX1_ofNumber_1, eX1_ofNumber_4, eX1_ofNumber_4N, eX1_ofNumber_5, eX1_ofNumber_8, eX1_ofNumber_9, eX1_ofNumber_10, eX1_ofNumber_11, eX1_ofNumber_14, lgp, lgn, lgz, i10, i00, if_true, if_false, eq_self, not_true, not_false_eq_true, rx, rn, rc, rl, hx, hn, hc, hl, d1, d2, d3, d4, d5, d6, d7, d8, d9, d10, d11, d12, rd_n, upw_n, ite_le, n45, n54, true_or, or_true, false_or, or_false, false_and, and_false, kx_l, kx_r, go_s, gl_s, gi_s, gb_s2, gb_s3, gq_s, wt_nil, wt_int, wt_long, wt_ref, wt_null, nl_int, nl_long, nl_ref, nl_null, nl_none, rf_n, rf_s, rf_st, tl_s, tl_n, g0, gS, ex1, nb_b, nb_0, nb_1, nf_i, nf_l, nf_ra, nf_ro, nf_na, nf_no, nf_b0, nf_z0, t45_4, t45_5, true_and, and_true, List.set_cons_zero, List.set_cons_succ, List.length_cons, List.length_nil, rd_s, upw_s, ne_eq, not_false_eq_true, Nat.zero_add, Nat.add_zero]
    | split
    | with_reducible intro _
    | omega
def orV (a b : Int64) : Int32 := if a.toInt < b.toInt then -1 else if b.toInt < a.toInt then 1 else 0
theorem orV_1 {a b : Int64} (h : a.toInt < b.toInt) : orV a b = -1 := if_pos h
theorem orV_2 {a b : Int64} (h : ¬ a.toInt < b.toInt) (k : b.toInt < a.toInt) : orV a b = 1 := by
  unfold orV
  rw [if_neg h, if_pos k]
theorem orV_3 {a b : Int64} (h : ¬ a.toInt < b.toInt) (k : ¬ b.toInt < a.toInt) : orV a b = 0 := by
  unfold orV
  rw [if_neg h, if_neg k]
set_option maxHeartbeats 4000000 in
theorem fX1_order {s : AS} {a0 a1 : Int32} (hC : CS g w0 x nA cA lA kn s w) (hX : ¬ (okN a0 ∧ okN a1) → (Q (.inr "java/lang/IndexOutOfBoundsException") w)) (hQ : okN a0 → okN a1 → Q (.inl (some (.int (orV (s.1 a0.toNatClampNeg) (s.1 a1.toNatClampNeg))))) w) : WP (MX1_order g) Q (0, [some (.ref x), some (.int a0), some (.int a1)], [], w, 0, 0) := by
  obtain ⟨gc, gl, ⟨hx, hn, hc, hl, hgc, hgl, hn0, hn1, rx, rn, rc, rl, ⟨d1, d2, d3, d4, d5, d6⟩, ⟨d7, d8, d9, d10, d11, d12⟩⟩, hcd, hpl⟩ := hC.1.opn g
  repeat' first
    | with_reducible assumption
    | with_reducible refine And.intro ?_ ?_
    | with_reducible exact vpi6 (by assumption) (by assumption)
    | with_reducible exact vpi8 (by assumption) (by assumption)
    | with_reducible exact trivial
    | with_reducible exact vpi8 ha.1 ha.2
    | with_reducible exact vpi8 hb.1 hb.2
    | with_reducible exact hX (fun h => absurd h.1 (by assumption))
    | with_reducible exact hX (fun h => absurd h.2 (by assumption))
    | with_reducible refine fX1_needNumber (a0 := a0) (fun _ => ?_) (fun ha => ?_)
    | with_reducible refine fX1_needNumber (a0 := a1) (fun _ => ?_) (fun hb => ?_)
    | (rw [orV_1 (by assumption)] at hQ; exact hQ ha hb)
    | (rw [orV_2 (by assumption) (by assumption)] at hQ; exact hQ ha hb)
    | (rw [orV_3 (by assumption) (by assumption)] at hQ; exact hQ ha hb)
    | simp only [eX1_order_0, eX1_order_1, eX1_order_4, eX1_order_5, eX1_order_8, eX1_order_8N, eX1_order_9, eX1_order_12, eX1_order_13, eX1_order_14, eX1_order_14N, eX1_order_15, eX1_order_18, eX1_order_19, eX1_order_20, eX1_order_21, eX1_order_24, eX1_order_25, eX1_order_26, eX1_order_26N, eX1_order_27, eX1_order_30, eX1_order_31, eX1_order_32, eX1_order_32N, eX1_order_33, eX1_order_36, eX1_order_37, eX1_order_38, eX1_order_39, eX1_order_42, eX1_order_43, eX1_order_46, eX1_order_47, lgp, lgn, lgz, i10, i00, if_true, if_false, eq_self, not_true, not_false_eq_true, rx, rn, rc, rl, hx, hn, hc, hl, d1, d2, d3, d4, d5, d6, d7, d8, d9, d10, d11, d12, rd_n, upw_n, ite_le, n45, n54, true_or, or_true, false_or, or_false, false_and, and_false, kx_l, kx_r, go_s, gl_s, gi_s, gb_s2, gb_s3, gq_s, wt_nil, wt_int, wt_long, wt_ref, wt_null, nl_int, nl_long, nl_ref, nl_null, nl_none, rf_n, rf_s, rf_st, tl_s, tl_n, g0, gS, ex1, nb_b, nb_0, nb_1, nf_i, nf_l, nf_ra, nf_ro, nf_na, nf_no, nf_b0, nf_z0, t45_4, t45_5, true_and, and_true, List.set_cons_zero, List.set_cons_succ, List.length_cons, List.length_nil, rd_s, upw_s, ne_eq, not_false_eq_true, Nat.zero_add, Nat.add_zero]
    | split
    | with_reducible intro _
    | omega
set_option maxHeartbeats 4000000 in
theorem fX1_knock {s : AS} (hC : CS g w0 x nA cA lA kn s w) (hQ : ∀ w', CS g w0 x nA cA lA (kn + 1) s w' → Q (.inl (some (.int (kn + 1)))) w') : WP (MX1_knock g) Q (0, [some (.ref x)], [], w, 0, 0) := by
  obtain ⟨gc, gl, ⟨hx, hn, hc, hl, hgc, hgl, hn0, hn1, rx, rn, rc, rl, ⟨d1, d2, d3, d4, d5, d6⟩, ⟨d7, d8, d9, d10, d11, d12⟩⟩, hcd, hpl⟩ := hC.1.opn g
  repeat' first
    | with_reducible assumption
    | with_reducible refine And.intro ?_ ?_
    | with_reducible exact vpi6 (by assumption) (by assumption)
    | with_reducible exact vpi8 (by assumption) (by assumption)
    | with_reducible exact trivial
    | with_reducible exact hQ _ (hC.obj _ _ _)
    | simp only [eX1_knock_0, eX1_knock_0N, eX1_knock_1, eX1_knock_1R, eX1_knock_2, eX1_knock_5, eX1_knock_6, eX1_knock_7, eX1_knock_10, eX1_knock_10N, eX1_knock_11, eX1_knock_14, lgp, lgn, lgz, i10, i00, if_true, if_false, eq_self, not_true, not_false_eq_true, rx, rn, rc, rl, hx, hn, hc, hl, d1, d2, d3, d4, d5, d6, d7, d8, d9, d10, d11, d12, rd_n, upw_n, ite_le, n45, n54, true_or, or_true, false_or, or_false, false_and, and_false, kx_l, kx_r, go_s, gl_s, gi_s, gb_s2, gb_s3, gq_s, wt_nil, wt_int, wt_long, wt_ref, wt_null, nl_int, nl_long, nl_ref, nl_null, nl_none, rf_n, rf_s, rf_st, tl_s, tl_n, g0, gS, ex1, nb_b, nb_0, nb_1, nf_i, nf_l, nf_ra, nf_ro, nf_na, nf_no, nf_b0, nf_z0, t45_4, t45_5, true_and, and_true, List.set_cons_zero, List.set_cons_succ, List.length_cons, List.length_nil, rd_s, upw_s, ne_eq, not_false_eq_true, Nat.zero_add, Nat.add_zero]
    | split
    | with_reducible intro _
    | omega
set_option maxHeartbeats 4000000 in
theorem fX1_refuse {s : AS} (hC : CS g w0 x nA cA lA kn s w) (hQ : ∀ w', CS g w0 x nA cA lA kn (sR_ s (s.2.2.2.2.1 + 1)) w' → (∀ b r, rAt w b r → rAt w' b r) → Q (.inl (some (.int (-9)))) w') : WP (MX1_refuse g) Q (0, [some (.ref x)], [], w, 0, 0) := by
  obtain ⟨gc, gl, ⟨hx, hn, hc, hl, hgc, hgl, hn0, hn1, rx, rn, rc, rl, ⟨d1, d2, d3, d4, d5, d6⟩, ⟨d7, d8, d9, d10, d11, d12⟩⟩, hcd, hpl⟩ := hC.1.opn g
  repeat' first
    | with_reducible assumption
    | with_reducible refine And.intro ?_ ?_
    | with_reducible exact vpi6 (by assumption) (by assumption)
    | with_reducible exact vpi8 (by assumption) (by assumption)
    | with_reducible exact trivial
    | with_reducible exact hQ _ (hC.obj _ _ _) (fun b r hb => rAt_up2 hb hx (by simp))
    | simp only [eX1_refuse_0, eX1_refuse_0N, eX1_refuse_1, eX1_refuse_1R, eX1_refuse_2, eX1_refuse_5, eX1_refuse_6, eX1_refuse_7, eX1_refuse_10, eX1_refuse_12, lgp, lgn, lgz, i10, i00, if_true, if_false, eq_self, not_true, not_false_eq_true, rx, rn, rc, rl, hx, hn, hc, hl, d1, d2, d3, d4, d5, d6, d7, d8, d9, d10, d11, d12, rd_n, upw_n, ite_le, n45, n54, true_or, or_true, false_or, or_false, false_and, and_false, kx_l, kx_r, go_s, gl_s, gi_s, gb_s2, gb_s3, gq_s, wt_nil, wt_int, wt_long, wt_ref, wt_null, nl_int, nl_long, nl_ref, nl_null, nl_none, rf_n, rf_s, rf_st, tl_s, tl_n, g0, gS, ex1, nb_b, nb_0, nb_1, nf_i, nf_l, nf_ra, nf_ro, nf_na, nf_no, nf_b0, nf_z0, t45_4, t45_5, true_and, and_true, List.set_cons_zero, List.set_cons_succ, List.length_cons, List.length_nil, rd_s, upw_s, ne_eq, not_false_eq_true, Nat.zero_add, Nat.add_zero]
    | split
    | with_reducible intro _
    | omega
theorem go_Fw {b : Nat} {r : R4} {K : List Value → Prop} (h : rAt w b r) (k : K [.long r.1, .long r.2.1, .long r.2.2.1, .long r.2.2.2]) : go (w b) 4 K := by
  rw [h, go_s]
  exact k
theorem c6 {a : Int32} (h : okC a) : a.toNatClampNeg < 6 := by
  have h1 := i32_0 h.1
  have h2 := i32_lt h.2
  have z : (6 : Int32).toInt = 6 := rfl
  have e : a.toNatClampNeg = a.toInt.toNat := rfl
  omega
theorem cdN {gc : Nat → Option Nat} {s : AS} {a : Int32} (hcd : ∀ i, i < 6 → cM w (gc i) (s.2.1 i)) (hok : okC a) (h : gc a.toNatClampNeg = none) : s.2.1 a.toNatClampNeg = none := by
  have k := hcd _ (c6 hok)
  rw [h] at k
  exact k.n
theorem cdS {gc : Nat → Option Nat} {s : AS} {a : Int32} {b : Nat} (hcd : ∀ i, i < 6 → cM w (gc i) (s.2.1 i)) (hok : okC a) (h : gc a.toNatClampNeg = some b) : ∃ r, s.2.1 a.toNatClampNeg = some r ∧ rAt w b r := by
  have k := hcd _ (c6 hok)
  rw [h] at k
  exact k.s
set_option maxHeartbeats 4000000 in
theorem fX1_giveR {s : AS} {a0 : Int32} {a1 : Nat} {r : R4} (hC : CS g w0 x nA cA lA kn s w) (h1 : rAt w a1 r) (k0 : ¬ a0 < 0) (k1 : a0 < 6) (hQ : ∀ w', CS g w0 x nA cA lA kn (sM_ (sC s (va_up s.2.1 a0.toNatClampNeg (some r))) (s.2.2.2.2.2 + 1)) w' → (∀ b r, rAt w b r → rAt w' b r) → Q (.inl (some (.int 1))) w') : WP (MX1_give g) Q (0, [some (.ref x), some (.int a0), some (.ref a1)], [], w, 0, 0) := by
  obtain ⟨gc, gl, ⟨hx, hn, hc, hl, hgc, hgl, hn0, hn1, rx, rn, rc, rl, ⟨d1, d2, d3, d4, d5, d6⟩, ⟨d7, d8, d9, d10, d11, d12⟩⟩, hcd, hpl⟩ := hC.1.opn g
  repeat' first
    | with_reducible assumption
    | with_reducible refine And.intro ?_ ?_
    | with_reducible exact vpi6 (by assumption) (by assumption)
    | with_reducible exact vpi8 (by assumption) (by assumption)
    | with_reducible exact trivial
    | with_reducible exact vpi6 k0 k1
    | with_reducible refine Or.inl ?_
    | with_reducible exact go_Fw h1 trivial
    | ((with_reducible refine isQ (Q := Q) ?_); exact hQ _ ((hC.card gc hc a0.toNatClampNeg (some a1) (some r) h1).obj _ _ _) (fun b q hb => rAt_up2 (rAt_up2 hb hc (by simp)) (by rw [upw_n d2]; exact hx) (by simp)))
    | simp only [eX1_give_0, eX1_give_0N, eX1_give_1R, eX1_give_1N, eX1_give_4, eX1_give_4N, eX1_give_5, eX1_give_8, eX1_give_9, eX1_give_9N, eX1_give_10, eX1_give_13, eX1_give_14, eX1_give_14N, eX1_give_15N, eX1_give_15R, eX1_give_16, eX1_give_16N, eX1_give_17, eX1_give_17R, eX1_give_18, eX1_give_21, eX1_give_22, eX1_give_23, eX1_give_26, eX1_give_27, lgp, lgn, lgz, i10, i00, if_true, if_false, eq_self, not_true, not_false_eq_true, rx, rn, rc, rl, hx, hn, hc, hl, d1, d2, d3, d4, d5, d6, d7, d8, d9, d10, d11, d12, rd_n, upw_n, ite_le, n45, n54, true_or, or_true, false_or, or_false, false_and, and_false, kx_l, kx_r, go_s, gl_s, gi_s, gb_s2, gb_s3, gq_s, wt_nil, wt_int, wt_long, wt_ref, wt_null, nl_int, nl_long, nl_ref, nl_null, nl_none, rf_n, rf_s, rf_st, tl_s, tl_n, g0, gS, ex1, nb_b, nb_0, nb_1, nf_i, nf_l, nf_ra, nf_ro, nf_na, nf_no, nf_b0, nf_z0, t45_4, t45_5, true_and, and_true, List.set_cons_zero, List.set_cons_succ, List.length_cons, List.length_nil, rd_s, upw_s, ne_eq, not_false_eq_true, Nat.zero_add, Nat.add_zero]
    | split
    | with_reducible intro _
    | omega
set_option maxHeartbeats 4000000 in
theorem fX1_giveN {s : AS} {a0 : Int32} (hC : CS g w0 x nA cA lA kn s w) (hQ : ∀ w', CS g w0 x nA cA lA kn (sR_ s (s.2.2.2.2.1 + 1)) w' → (∀ b r, rAt w b r → rAt w' b r) → Q (.inl (some (.int (-9)))) w') : WP (MX1_give g) Q (0, [some (.ref x), some (.int a0), some .null], [], w, 0, 0) := by
  obtain ⟨gc, gl, ⟨hx, hn, hc, hl, hgc, hgl, hn0, hn1, rx, rn, rc, rl, ⟨d1, d2, d3, d4, d5, d6⟩, ⟨d7, d8, d9, d10, d11, d12⟩⟩, hcd, hpl⟩ := hC.1.opn g
  repeat' first
    | with_reducible assumption
    | with_reducible refine And.intro ?_ ?_
    | with_reducible exact vpi6 (by assumption) (by assumption)
    | with_reducible exact vpi8 (by assumption) (by assumption)
    | with_reducible exact trivial
    | with_reducible exact hQ _ (by assumption) (by assumption)
    | with_reducible refine fX1_refuse hC (fun w1 h1 h2 => ?_)
    | simp only [eX1_give_0, eX1_give_0N, eX1_give_1R, eX1_give_1N, eX1_give_4, eX1_give_4N, eX1_give_5, eX1_give_8, eX1_give_9, eX1_give_9N, eX1_give_10, eX1_give_13, eX1_give_14, eX1_give_14N, eX1_give_15N, eX1_give_15R, eX1_give_16, eX1_give_16N, eX1_give_17, eX1_give_17R, eX1_give_18, eX1_give_21, eX1_give_22, eX1_give_23, eX1_give_26, eX1_give_27, lgp, lgn, lgz, i10, i00, if_true, if_false, eq_self, not_true, not_false_eq_true, rx, rn, rc, rl, hx, hn, hc, hl, d1, d2, d3, d4, d5, d6, d7, d8, d9, d10, d11, d12, rd_n, upw_n, ite_le, n45, n54, true_or, or_true, false_or, or_false, false_and, and_false, kx_l, kx_r, go_s, gl_s, gi_s, gb_s2, gb_s3, gq_s, wt_nil, wt_int, wt_long, wt_ref, wt_null, nl_int, nl_long, nl_ref, nl_null, nl_none, rf_n, rf_s, rf_st, tl_s, tl_n, g0, gS, ex1, nb_b, nb_0, nb_1, nf_i, nf_l, nf_ra, nf_ro, nf_na, nf_no, nf_b0, nf_z0, t45_4, t45_5, true_and, and_true, List.set_cons_zero, List.set_cons_succ, List.length_cons, List.length_nil, rd_s, upw_s, ne_eq, not_false_eq_true, Nat.zero_add, Nat.add_zero]
    | split
    | with_reducible intro _
    | omega
set_option maxHeartbeats 4000000 in
theorem fX1_rangeOf {s : AS} {a0 : Int32} (hC : CS g w0 x nA cA lA kn s w) (hX : ¬ okC a0 → (Q (.inr "java/lang/IndexOutOfBoundsException") w)) (hS : okC a0 → s.2.1 a0.toNatClampNeg = none → (Q (.inr "java/lang/IllegalStateException") w)) (hQ : okC a0 → ∀ b r, s.2.1 a0.toNatClampNeg = some r → rAt w b r → Q (.inl (some (.ref b))) w) : WP (MX1_rangeOf g) Q (0, [some (.ref x), some (.int a0), none], [], w, 0, 0) := by
  obtain ⟨gc, gl, ⟨hx, hn, hc, hl, hgc, hgl, hn0, hn1, rx, rn, rc, rl, ⟨d1, d2, d3, d4, d5, d6⟩, ⟨d7, d8, d9, d10, d11, d12⟩⟩, hcd, hpl⟩ := hC.1.opn g
  repeat' first
    | with_reducible assumption
    | with_reducible refine And.intro ?_ ?_
    | with_reducible exact vpi6 (by assumption) (by assumption)
    | with_reducible exact vpi8 (by assumption) (by assumption)
    | with_reducible exact trivial
    | with_reducible exact hX (by assumption)
    | with_reducible refine fX1_needCard (fun _ => ?_) (fun hok => ?_)
    | with_reducible exact vpi6 hok.1 hok.2
    | with_reducible exact hS hok (cdN hcd hok (by assumption))
    | with_reducible exact (cdS hcd hok (by assumption)).elim (fun r h => hQ hok _ r h.1 h.2)
    | simp only [eX1_rangeOf_0, eX1_rangeOf_1, eX1_rangeOf_4, eX1_rangeOf_4N, eX1_rangeOf_5, eX1_rangeOf_8, eX1_rangeOf_9, eX1_rangeOf_10, eX1_rangeOf_10N, eX1_rangeOf_11, eX1_rangeOf_11N, eX1_rangeOf_12R, eX1_rangeOf_12N, eX1_rangeOf_15, eX1_rangeOf_25, eX1_rangeOf_25N, eX1_rangeOf_26, eX1_rangeOf_26N, lgp, lgn, lgz, i10, i00, if_true, if_false, eq_self, not_true, not_false_eq_true, rx, rn, rc, rl, hx, hn, hc, hl, d1, d2, d3, d4, d5, d6, d7, d8, d9, d10, d11, d12, rd_n, upw_n, ite_le, n45, n54, true_or, or_true, false_or, or_false, false_and, and_false, kx_l, kx_r, go_s, gl_s, gi_s, gb_s2, gb_s3, gq_s, wt_nil, wt_int, wt_long, wt_ref, wt_null, nl_int, nl_long, nl_ref, nl_null, nl_none, rf_n, rf_s, rf_st, tl_s, tl_n, g0, gS, ex1, nb_b, nb_0, nb_1, nf_i, nf_l, nf_ra, nf_ro, nf_na, nf_no, nf_b0, nf_z0, t45_4, t45_5, true_and, and_true, List.set_cons_zero, List.set_cons_succ, List.length_cons, List.length_nil, rd_s, upw_s, ne_eq, not_false_eq_true, Nat.zero_add, Nat.add_zero]
    | split
    | with_reducible intro _
    | omega
end
