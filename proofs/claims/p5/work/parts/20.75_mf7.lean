/-! 75.mf7.lean.txt -/
section
section
variable {g : RO} {Q : Ot → Hw → Prop} {w0 w : Hw} {y nM : Nat} {kd th : Int32} {s : AS}
/-! MODEL, FUNCTIONAL, 8: cards, given and asked -/
theorem rvK {r : R4} {a : Int32} (h : okW a 3) : rV r a.toNatClampNeg = eV r a := rvE h.1 h.2
set_option maxHeartbeats 4000000 in
theorem fX3_same_ {a0 a1 : Int32} (hM : MS g w0 y nM kd th s w) (hX : ¬ (okC a0 ∧ okC a1) → ∀ w', MS g w0 y nM kd 1 s w' → Q (.inl (some (.int 0))) w') (hS : okC a0 → okC a1 → s.2.1 a1.toNatClampNeg = none → ∀ w', MS g w0 y nM kd 2 s w' → Q (.inl (some (.int 0))) w') (hN : okC a0 → okC a1 → ∀ r, s.2.1 a1.toNatClampNeg = some r → s.2.1 a0.toNatClampNeg = none → ∀ w', MS g w0 y nM kd 0 (sC s (va_up s.2.1 a0.toNatClampNeg (some r))) w' → Q (.inl (some (.int (-1)))) w') (hT : okC a0 → okC a1 → ∀ r, s.2.1 a1.toNatClampNeg = some r → ∀ q, s.2.1 a0.toNatClampNeg = some q → mP q r → ∀ w', MS g w0 y nM kd 0 (sC s (va_up s.2.1 a0.toNatClampNeg (some r))) w' → Q (.inl (some (.int 1))) w') (hF : okC a0 → okC a1 → ∀ r, s.2.1 a1.toNatClampNeg = some r → ∀ q, s.2.1 a0.toNatClampNeg = some q → ¬ mP q r → ∀ w', MS g w0 y nM kd 0 (sC s (va_up s.2.1 a0.toNatClampNeg (some r))) w' → Q (.inl (some (.int 0))) w') : WP (MX3_same_ g) Q (0, [some (.ref y), some (.int a0), some (.int a1), none], [], w, 0, 0) := by
  repeat' first
    | with_reducible assumption
    | with_reducible refine And.intro ?_ ?_
    | with_reducible exact vpi6 (by assumption) (by assumption)
    | with_reducible exact vpi8 (by assumption) (by assumption)
    | with_reducible exact trivial
    | with_reducible exact absurd (by assumption) n10'
    | with_reducible exact n00x (by assumption)
    | with_reducible exact hX (by assumption) _ (by assumption)
    | with_reducible exact hX (fun h => absurd h.1 (by assumption)) _ (by assumption)
    | with_reducible exact hX (fun h => absurd h.2 (by assumption)) _ (by assumption)
    | with_reducible exact hS (by assumption) (by assumption) (by assumption) _ (by assumption)
    | with_reducible refine fX3_isNoPair (by assumption) (fun _ w1 h1 => ?_) (fun _ _ _ w1 h1 => ?_) (fun ka kc r e1 w1 h1 => ?_)
    | with_reducible refine go_S (by assumption) (fun _ _ hY => ?_)
    | with_reducible exact MS.gC (by assumption) (by assumption)
    | with_reducible exact MS.gP (by assumption) (by assumption)
    | with_reducible refine fX3_isBare h1 ka (fun e0 => ?_) (fun q e0 => ?_)
    | with_reducible refine sGetK (i := a1) (by assumption) (by assumption) kc e1 (fun _ hb => ?_)
    | with_reducible refine sGetK (i := a0) (by assumption) (by assumption) ka e0 (fun _ hb0 => ?_)
    | (simp only [rv0, rv1, rv2, rv3])
    | with_reducible exact rowA.ca (by assumption)
    | with_reducible refine gl_A (by assumption) ?_
    | with_reducible exact vpi4.1
    | with_reducible exact vpi4.2.1
    | with_reducible exact vpi4.2.2.1
    | with_reducible exact vpi4.2.2.2
    | with_reducible refine fX3_same hb0 hb (fun hm => ?_) (fun hm => ?_)
    | with_reducible refine fX3_one (Or.inl rfl) ?_
    | with_reducible refine fX3_one (Or.inr rfl) ?_
    | with_reducible refine sSetFR (by assumption) (by assumption) hb ka (fun w3 h3 => ?_) (fun _ w3 h3 => ?_)
    | with_reducible exact hN ka kc r e1 e0 _ h3
    | with_reducible exact hT ka kc r e1 q e0 hm _ h3
    | with_reducible exact hF ka kc r e1 q e0 hm _ h3
    | simp only [eX3_same__0, eX3_same__0N, eX3_same__1, eX3_same__2, eX3_same__3, eX3_same__6, eX3_same__9, eX3_same__10, eX3_same__11, eX3_same__11N, eX3_same__12, eX3_same__13, eX3_same__16, eX3_same__19, eX3_same__20, eX3_same__23, eX3_same__23N, eX3_same__24, eX3_same__27, eX3_same__28, eX3_same__31N, eX3_same__31R, eX3_same__34, eX3_same__34N, eX3_same__35, eX3_same__38, eX3_same__39, eX3_same__42N, eX3_same__42R, eX3_same__45RR, eX3_same__45NR, eX3_same__45RN, eX3_same__45NN, eX3_same__48, eX3_same__51, eX3_same__52, eX3_same__52N, eX3_same__53, eX3_same__56, eX3_same__57, eX3_same__57N, eX3_same__58, eX3_same__61, eX3_same__62, eX3_same__65N, eX3_same__65R, eX3_same__68R, eX3_same__68N, eX3_same__71, eX3_same__71R, eX3_same__71N, eX3_same__72, eX3_same__73, lgp, lgn, lgz, i10, i00, if_true, if_false, eq_self, not_true, not_false_eq_true, m10, n4e, upw2q, rv0, rv1, rv2, rv3, lmi, lmx, ite_le, n45, n54, true_or, or_true, false_or, or_false, false_and, and_false, kx_l, kx_r, go_s, gl_s, gi_s, gb_s2, gb_s3, gq_s, wt_nil, wt_int, wt_long, wt_ref, wt_null, nl_int, nl_long, nl_ref, nl_null, nl_none, rf_n, rf_s, rf_st, tl_s, tl_n, g0, gS, ex1, nb_b, nb_0, nb_1, nf_i, nf_l, nf_ra, nf_ro, nf_na, nf_no, nf_b0, nf_z0, t45_4, t45_5, true_and, and_true, List.set_cons_zero, List.set_cons_succ, List.length_cons, List.length_nil, rd_s, upw_s, ne_eq, not_false_eq_true, Nat.zero_add, Nat.add_zero]
    | with_reducible refine itx (fun _ => ?_) (fun _ => ?_)
    | split
    | with_reducible intro _
    | omega
set_option maxHeartbeats 4000000 in
theorem fX3_drop {a0 : Int32} (hM : MS g w0 y nM kd th s w) (hX : ¬ (okC a0) → ∀ w', MS g w0 y nM kd 1 s w' → Q (.inl (some (.int 0))) w') (hN : okC a0 → s.2.1 a0.toNatClampNeg = none → ∀ w', MS g w0 y nM kd 0 (sC s (va_up s.2.1 a0.toNatClampNeg none)) w' → Q (.inl (some (.int 0))) w') (hS : okC a0 → ∀ r, s.2.1 a0.toNatClampNeg = some r → ∀ w', MS g w0 y nM kd 0 (sC s (va_up s.2.1 a0.toNatClampNeg none)) w' → Q (.inl (some (.int 1))) w') : WP (MX3_drop g) Q (0, [some (.ref y), some (.int a0), none], [], w, 0, 0) := by
  repeat' first
    | with_reducible assumption
    | with_reducible refine And.intro ?_ ?_
    | with_reducible exact vpi6 (by assumption) (by assumption)
    | with_reducible exact vpi8 (by assumption) (by assumption)
    | with_reducible exact trivial
    | with_reducible exact absurd (by assumption) n10'
    | with_reducible exact n00x (by assumption)
    | with_reducible exact hX (fun h => absurd h (by assumption)) _ (by assumption)
    | with_reducible refine fX3_isNoCard (fun _ => ?_) (fun _ => ?_)
    | with_reducible refine fX3_start (by assumption) (by decide) (fun _ w1 h1 => ?_) (fun _ w1 h1 => ?_)
    | with_reducible exact hN (by assumption) (by assumption) _ h3
    | with_reducible exact hS (by assumption) _ (by assumption) _ h3
    | with_reducible refine go_S (by assumption) (fun _ _ hY => ?_)
    | with_reducible refine fX3_isBare (by assumption) (by assumption) (fun _ => ?_) (fun _ _ => ?_)
    | with_reducible exact MS.gC (by assumption) (by assumption)
    | with_reducible exact MS.gP (by assumption) (by assumption)
    | with_reducible refine fX3_one (Or.inl rfl) ?_
    | with_reducible refine fX3_one (Or.inr rfl) ?_
    | with_reducible refine sSetFN (by assumption) (by assumption) (by assumption) (fun w3 h3 => ?_) (fun _ w3 h3 => ?_)
    | simp only [eX3_drop_0, eX3_drop_0N, eX3_drop_1, eX3_drop_2, eX3_drop_5, eX3_drop_6, eX3_drop_9, eX3_drop_12, eX3_drop_13, eX3_drop_14, eX3_drop_14N, eX3_drop_15, eX3_drop_16, eX3_drop_19, eX3_drop_22, eX3_drop_23, eX3_drop_26, eX3_drop_27, eX3_drop_30, eX3_drop_31, eX3_drop_31N, eX3_drop_32, eX3_drop_35, eX3_drop_36, eX3_drop_37R, eX3_drop_37N, eX3_drop_40, eX3_drop_40R, eX3_drop_40N, eX3_drop_41, eX3_drop_42, lgp, lgn, lgz, i10, i00, if_true, if_false, eq_self, not_true, not_false_eq_true, m10, n4e, upw2q, rv0, rv1, rv2, rv3, lmi, lmx, ite_le, n45, n54, true_or, or_true, false_or, or_false, false_and, and_false, kx_l, kx_r, go_s, gl_s, gi_s, gb_s2, gb_s3, gq_s, wt_nil, wt_int, wt_long, wt_ref, wt_null, nl_int, nl_long, nl_ref, nl_null, nl_none, rf_n, rf_s, rf_st, tl_s, tl_n, g0, gS, ex1, nb_b, nb_0, nb_1, nf_i, nf_l, nf_ra, nf_ro, nf_na, nf_no, nf_b0, nf_z0, t45_4, t45_5, true_and, and_true, List.set_cons_zero, List.set_cons_succ, List.length_cons, List.length_nil, rd_s, upw_s, ne_eq, not_false_eq_true, Nat.zero_add, Nat.add_zero]
    | with_reducible refine itx (fun _ => ?_) (fun _ => ?_)
    | split
    | with_reducible intro _
    | omega
set_option maxHeartbeats 4000000 in
theorem fX3_take {a0 a1 a2 : Int32} (hM : MS g w0 y nM kd th s w) (hX : ¬ (okC a0 ∧ okN a2) → ∀ w', MS g w0 y nM kd 1 s w' → Q (.inl (some (.int 0))) w') (hW : okC a0 → okN a2 → ¬ okW a1 3 → ∀ w', MS g w0 y nM kd 2 s w' → Q (.inl (some (.int 0))) w') (hS : okC a0 → okN a2 → okW a1 3 → s.2.1 a0.toNatClampNeg = none → ∀ w', MS g w0 y nM kd 3 s w' → Q (.inl (some (.int 0))) w') (hQ : okC a0 → okN a2 → okW a1 3 → ∀ r, s.2.1 a0.toNatClampNeg = some r → ∀ w', MS g w0 y nM kd 0 (sN s (vp_updL s.1 a2.toNatClampNeg (eV r a1))) w' → Q (.inl (some (.int (loV (eV r a1))))) w') : WP (MX3_take g) Q (0, [some (.ref y), some (.int a0), some (.int a1), some (.int a2)], [], w, 0, 0) := by
  repeat' first
    | with_reducible assumption
    | with_reducible refine And.intro ?_ ?_
    | with_reducible exact vpi6 (by assumption) (by assumption)
    | with_reducible exact vpi8 (by assumption) (by assumption)
    | with_reducible exact trivial
    | with_reducible exact absurd (by assumption) n10'
    | with_reducible exact n00x (by assumption)
    | with_reducible exact hX (fun h => absurd h.1 (by assumption)) _ (by assumption)
    | with_reducible exact hX (fun h => absurd h.2 (by assumption)) _ (by assumption)
    | with_reducible exact hW (by assumption) (by assumption) (by assumption) _ (by assumption)
    | with_reducible exact hS (by assumption) (by assumption) (by assumption) (by assumption) _ (by assumption)
    | with_reducible exact hQ (by assumption) (by assumption) (by assumption) _ (by assumption) _ h3
    | with_reducible refine fX3_isNoNumber (fun _ => ?_) (fun _ => ?_)
    | with_reducible refine fX3_isNoCard (fun _ => ?_) (fun _ => ?_)
    | with_reducible refine fX3_isNoEnd (fun _ => ?_) (fun _ => ?_)
    | with_reducible refine fX3_start (by assumption) (by decide) (fun _ w1 h1 => ?_) (fun _ w1 h1 => ?_)
    | with_reducible refine fX3_refuse (by assumption) (by decide) (fun _ => ?_) (fun _ w2 h2 => ?_)
    | with_reducible refine go_S (by assumption) (fun _ _ hY => ?_)
    | with_reducible refine fX3_isBare (by assumption) (by assumption) (fun _ => ?_) (fun _ _ => ?_)
    | with_reducible exact MS.gC (by assumption) (by assumption)
    | with_reducible exact MS.gP (by assumption) (by assumption)
    | (simp only [rv0, rv1, rv2, rv3])
    | with_reducible refine sGetK (by assumption) (by assumption) (by assumption) (by assumption) (fun _ hb => ?_)
    | with_reducible exact rowA.ca (by assumption)
    | with_reducible refine gl_A (by assumption) ?_
    | with_reducible exact vpi4.1
    | with_reducible exact vpi4.2.1
    | with_reducible exact vpi4.2.2.1
    | with_reducible exact vpi4.2.2.2
    | with_reducible exact vpi8k (by assumption)
    | with_reducible exact vpi6k (by assumption)
    | with_reducible exact vpi4k (by assumption)
    | (rw [rvK (by assumption)]; refine fX3_become (by assumption) (by assumption) (fun w3 h3 => ?_))
    | simp only [eX3_take_0, eX3_take_0N, eX3_take_1, eX3_take_2, eX3_take_5, eX3_take_8, eX3_take_9, eX3_take_12, eX3_take_15, eX3_take_16, eX3_take_19, eX3_take_20, eX3_take_21, eX3_take_24, eX3_take_27, eX3_take_27N, eX3_take_28, eX3_take_29, eX3_take_32, eX3_take_33, eX3_take_36, eX3_take_39, eX3_take_39N, eX3_take_40, eX3_take_40N, eX3_take_41, eX3_take_42, eX3_take_45, eX3_take_46, eX3_take_49, eX3_take_52, eX3_take_53, eX3_take_54, eX3_take_54N, eX3_take_55, eX3_take_56, eX3_take_56N, eX3_take_57, eX3_take_60, eX3_take_61, eX3_take_64N, eX3_take_64R, eX3_take_67, eX3_take_68, eX3_take_69, eX3_take_72, lgp, lgn, lgz, i10, i00, if_true, if_false, eq_self, not_true, not_false_eq_true, m10, n4e, upw2q, rv0, rv1, rv2, rv3, lmi, lmx, ite_le, n45, n54, true_or, or_true, false_or, or_false, false_and, and_false, kx_l, kx_r, go_s, gl_s, gi_s, gb_s2, gb_s3, gq_s, wt_nil, wt_int, wt_long, wt_ref, wt_null, nl_int, nl_long, nl_ref, nl_null, nl_none, rf_n, rf_s, rf_st, tl_s, tl_n, g0, gS, ex1, nb_b, nb_0, nb_1, nf_i, nf_l, nf_ra, nf_ro, nf_na, nf_no, nf_b0, nf_z0, t45_4, t45_5, true_and, and_true, List.set_cons_zero, List.set_cons_succ, List.length_cons, List.length_nil, rd_s, upw_s, ne_eq, not_false_eq_true, Nat.zero_add, Nat.add_zero]
    | with_reducible refine itx (fun _ => ?_) (fun _ => ?_)
    | split
    | with_reducible intro _
    | omega
set_option maxHeartbeats 4000000 in
theorem fX3_end {a0 a1 a2 : Int32} (hM : MS g w0 y nM kd th s w) (hX : ¬ (okC a0) → ∀ w', MS g w0 y nM kd 1 s w' → Q (.inl (some (.int 0))) w') (hW : okC a0 → ¬ okW a1 3 → ∀ w', MS g w0 y nM kd 2 s w' → Q (.inl (some (.int 0))) w') (hS : okC a0 → okW a1 3 → s.2.1 a0.toNatClampNeg = none → ∀ w', MS g w0 y nM kd 3 s w' → Q (.inl (some (.int 0))) w') (hQ : okC a0 → okW a1 3 → ∀ r, s.2.1 a0.toNatClampNeg = some r → ∀ w', MS g w0 y nM kd 0 s w' → Q (.inl (some (.int (hfV (eV r a1) a2)))) w') : WP (MX3_end g) Q (0, [some (.ref y), some (.int a0), some (.int a1), some (.int a2)], [], w, 0, 0) := by
  repeat' first
    | with_reducible assumption
    | with_reducible refine And.intro ?_ ?_
    | with_reducible exact vpi6 (by assumption) (by assumption)
    | with_reducible exact vpi8 (by assumption) (by assumption)
    | with_reducible exact trivial
    | with_reducible exact absurd (by assumption) n10'
    | with_reducible exact n00x (by assumption)
    | with_reducible exact hX (fun h => absurd h (by assumption)) _ (by assumption)
    | with_reducible exact hW (by assumption) (by assumption) _ (by assumption)
    | with_reducible exact hS (by assumption) (by assumption) (by assumption) _ (by assumption)
    | with_reducible refine fX3_isNoEnd_ (by assumption) (fun _ w1 h1 => ?_) (fun _ _ w1 h1 => ?_) (fun _ _ _ w1 h1 => ?_) (fun ka kw r e1 w1 h1 => ?_)
    | with_reducible refine go_S (by assumption) (fun _ _ hY => ?_)
    | with_reducible exact MS.gC (by assumption) (by assumption)
    | with_reducible exact MS.gP (by assumption) (by assumption)
    | (simp only [rv0, rv1, rv2, rv3])
    | with_reducible refine sGetK (by assumption) (by assumption) (by assumption) (by assumption) (fun _ hb => ?_)
    | with_reducible exact rowA.ca (by assumption)
    | with_reducible refine gl_A (by assumption) ?_
    | with_reducible exact vpi4.1
    | with_reducible exact vpi4.2.1
    | with_reducible exact vpi4.2.2.1
    | with_reducible exact vpi4.2.2.2
    | with_reducible exact vpi8k (by assumption)
    | with_reducible exact vpi6k (by assumption)
    | with_reducible exact vpi4k (by assumption)
    | (rw [rvK kw]; refine fX3_high ?_)
    | (rw [rvK kw]; refine fX3_low ?_)
    | (rw [← hfV_n (a := eV r a1) (h := a2) (by assumption)]; exact hQ ka kw r e1 _ h1)
    | (rw [← hfV_e (a := eV r a1) (h := a2) (by assumption)]; exact hQ ka kw r e1 _ h1)
    | simp only [eX3_end_0, eX3_end_0N, eX3_end_1, eX3_end_2, eX3_end_3, eX3_end_6, eX3_end_9, eX3_end_10, eX3_end_11, eX3_end_12, eX3_end_15, eX3_end_15N, eX3_end_16, eX3_end_19, eX3_end_20, eX3_end_23N, eX3_end_23R, eX3_end_26, eX3_end_27, eX3_end_28, eX3_end_31, eX3_end_34, eX3_end_34N, eX3_end_35, eX3_end_38, eX3_end_39, eX3_end_42N, eX3_end_42R, eX3_end_45, eX3_end_46, eX3_end_47, eX3_end_50, lgp, lgn, lgz, i10, i00, if_true, if_false, eq_self, not_true, not_false_eq_true, m10, n4e, upw2q, rv0, rv1, rv2, rv3, lmi, lmx, ite_le, n45, n54, true_or, or_true, false_or, or_false, false_and, and_false, kx_l, kx_r, go_s, gl_s, gi_s, gb_s2, gb_s3, gq_s, wt_nil, wt_int, wt_long, wt_ref, wt_null, nl_int, nl_long, nl_ref, nl_null, nl_none, rf_n, rf_s, rf_st, tl_s, tl_n, g0, gS, ex1, nb_b, nb_0, nb_1, nf_i, nf_l, nf_ra, nf_ro, nf_na, nf_no, nf_b0, nf_z0, t45_4, t45_5, true_and, and_true, List.set_cons_zero, List.set_cons_succ, List.length_cons, List.length_nil, rd_s, upw_s, ne_eq, not_false_eq_true, Nat.zero_add, Nat.add_zero]
    | with_reducible refine itx (fun _ => ?_) (fun _ => ?_)
    | split
    | with_reducible intro _
    | omega
set_option maxHeartbeats 4000000 in
theorem fX3_isThere {a0 : Int32} (hM : MS g w0 y nM kd th s w) (hX : ¬ (okC a0) → ∀ w', MS g w0 y nM kd 1 s w' → Q (.inl (some (.int 0))) w') (hF : okC a0 → s.2.1 a0.toNatClampNeg = none → ∀ w', MS g w0 y nM kd 0 s w' → Q (.inl (some (.int 0))) w') (hT : okC a0 → ∀ r, s.2.1 a0.toNatClampNeg = some r → ∀ w', MS g w0 y nM kd 0 s w' → Q (.inl (some (.int 1))) w') : WP (MX3_isThere g) Q (0, [some (.ref y), some (.int a0)], [], w, 0, 0) := by
  repeat' first
    | with_reducible assumption
    | with_reducible refine And.intro ?_ ?_
    | with_reducible exact vpi6 (by assumption) (by assumption)
    | with_reducible exact vpi8 (by assumption) (by assumption)
    | with_reducible exact trivial
    | with_reducible exact absurd (by assumption) n10'
    | with_reducible exact n00x (by assumption)
    | with_reducible exact hX (fun h => absurd h (by assumption)) _ (by assumption)
    | with_reducible exact hF (by assumption) (by assumption) _ (by assumption)
    | with_reducible exact hT (by assumption) _ (by assumption) _ (by assumption)
    | with_reducible refine fX3_isNoCard (fun _ => ?_) (fun _ => ?_)
    | with_reducible refine fX3_start (by assumption) (by decide) (fun _ w1 h1 => ?_) (fun _ w1 h1 => ?_)
    | with_reducible refine go_S (by assumption) (fun _ _ hY => ?_)
    | with_reducible refine fX3_isBare (by assumption) (by assumption) (fun _ => ?_) (fun _ _ => ?_)
    | simp only [eX3_isThere_0, eX3_isThere_0N, eX3_isThere_1, eX3_isThere_2, eX3_isThere_5, eX3_isThere_6, eX3_isThere_9, eX3_isThere_12, eX3_isThere_12N, eX3_isThere_13, eX3_isThere_14, eX3_isThere_17, eX3_isThere_20, eX3_isThere_21, eX3_isThere_24, eX3_isThere_25, lgp, lgn, lgz, i10, i00, if_true, if_false, eq_self, not_true, not_false_eq_true, m10, n4e, upw2q, rv0, rv1, rv2, rv3, lmi, lmx, ite_le, n45, n54, true_or, or_true, false_or, or_false, false_and, and_false, kx_l, kx_r, go_s, gl_s, gi_s, gb_s2, gb_s3, gq_s, wt_nil, wt_int, wt_long, wt_ref, wt_null, nl_int, nl_long, nl_ref, nl_null, nl_none, rf_n, rf_s, rf_st, tl_s, tl_n, g0, gS, ex1, nb_b, nb_0, nb_1, nf_i, nf_l, nf_ra, nf_ro, nf_na, nf_no, nf_b0, nf_z0, t45_4, t45_5, true_and, and_true, List.set_cons_zero, List.set_cons_succ, List.length_cons, List.length_nil, rd_s, upw_s, ne_eq, not_false_eq_true, Nat.zero_add, Nat.add_zero]
    | with_reducible refine itx (fun _ => ?_) (fun _ => ?_)
    | split
    | with_reducible intro _
    | omega
set_option maxHeartbeats 4000000 in
theorem fX3_isFixed {a0 : Int32} (hM : MS g w0 y nM kd th s w) (hX : ¬ (okC a0) → ∀ w', MS g w0 y nM kd 1 s w' → Q (.inl (some (.int 0))) w') (hS : okC a0 → s.2.1 a0.toNatClampNeg = none → ∀ w', MS g w0 y nM kd 2 s w' → Q (.inl (some (.int 0))) w') (hT : okC a0 → ∀ r, s.2.1 a0.toNatClampNeg = some r → fP r → ∀ w', MS g w0 y nM kd 0 s w' → Q (.inl (some (.int 1))) w') (hF : okC a0 → ∀ r, s.2.1 a0.toNatClampNeg = some r → ¬ (fP r) → ∀ w', MS g w0 y nM kd 0 s w' → Q (.inl (some (.int 0))) w') : WP (MX3_isFixed g) Q (0, [some (.ref y), some (.int a0)], [], w, 0, 0) := by
  repeat' first
    | with_reducible assumption
    | with_reducible refine And.intro ?_ ?_
    | with_reducible exact vpi6 (by assumption) (by assumption)
    | with_reducible exact vpi8 (by assumption) (by assumption)
    | with_reducible exact trivial
    | with_reducible exact absurd (by assumption) n10'
    | with_reducible exact n00x (by assumption)
    | with_reducible exact hX (fun h => absurd h (by assumption)) _ (by assumption)
    | with_reducible exact hS (by assumption) (by assumption) _ (by assumption)
    | with_reducible refine fX3_isNone (by assumption) (fun _ w1 h1 => ?_) (fun _ _ w1 h1 => ?_) (fun ka r e1 w1 h1 => ?_)
    | with_reducible refine go_S (by assumption) (fun _ _ hY => ?_)
    | with_reducible refine gl_S (by assumption) ?_
    | with_reducible exact MS.gC (by assumption) (by assumption)
    | with_reducible exact MS.gP (by assumption) (by assumption)
    | (simp only [rv0, rv1, rv2, rv3])
    | with_reducible refine sGetK (by assumption) (by assumption) (by assumption) (by assumption) (fun _ hb => ?_)
    | with_reducible exact rowA.ca (by assumption)
    | with_reducible refine gl_A (by assumption) ?_
    | with_reducible exact vpi4.1
    | with_reducible exact vpi4.2.1
    | with_reducible exact vpi4.2.2.1
    | with_reducible exact vpi4.2.2.2
    | with_reducible exact vpi8k (by assumption)
    | with_reducible exact vpi6k (by assumption)
    | with_reducible exact vpi4k (by assumption)
    | with_reducible refine fX3_fixed (by assumption) (fun hm => ?_) (fun hm => ?_)
    | with_reducible exact hT ka r e1 hm _ h1
    | with_reducible exact hF ka r e1 hm _ h1
    | simp only [eX3_isFixed_0, eX3_isFixed_0N, eX3_isFixed_1, eX3_isFixed_2, eX3_isFixed_5, eX3_isFixed_8, eX3_isFixed_8N, eX3_isFixed_9, eX3_isFixed_12, eX3_isFixed_13, eX3_isFixed_16N, eX3_isFixed_16R, eX3_isFixed_19R, eX3_isFixed_19N, eX3_isFixed_22, eX3_isFixed_25, eX3_isFixed_26, eX3_isFixed_29, eX3_isFixed_30, lgp, lgn, lgz, i10, i00, if_true, if_false, eq_self, not_true, not_false_eq_true, m10, n4e, upw2q, rv0, rv1, rv2, rv3, lmi, lmx, ite_le, n45, n54, true_or, or_true, false_or, or_false, false_and, and_false, kx_l, kx_r, go_s, gl_s, gi_s, gb_s2, gb_s3, gq_s, wt_nil, wt_int, wt_long, wt_ref, wt_null, nl_int, nl_long, nl_ref, nl_null, nl_none, rf_n, rf_s, rf_st, tl_s, tl_n, g0, gS, ex1, nb_b, nb_0, nb_1, nf_i, nf_l, nf_ra, nf_ro, nf_na, nf_no, nf_b0, nf_z0, t45_4, t45_5, true_and, and_true, List.set_cons_zero, List.set_cons_succ, List.length_cons, List.length_nil, rd_s, upw_s, ne_eq, not_false_eq_true, Nat.zero_add, Nat.add_zero]
    | with_reducible refine itx (fun _ => ?_) (fun _ => ?_)
    | split
    | with_reducible intro _
    | omega
set_option maxHeartbeats 4000000 in
theorem fX3_isSmall {a0 : Int32} (hM : MS g w0 y nM kd th s w) (hX : ¬ (okC a0) → ∀ w', MS g w0 y nM kd 1 s w' → Q (.inl (some (.int 0))) w') (hS : okC a0 → s.2.1 a0.toNatClampNeg = none → ∀ w', MS g w0 y nM kd 2 s w' → Q (.inl (some (.int 0))) w') (hT : okC a0 → ∀ r, s.2.1 a0.toNatClampNeg = some r → sP r → ∀ w', MS g w0 y nM kd 0 s w' → Q (.inl (some (.int 1))) w') (hF : okC a0 → ∀ r, s.2.1 a0.toNatClampNeg = some r → ¬ (sP r) → ∀ w', MS g w0 y nM kd 0 s w' → Q (.inl (some (.int 0))) w') : WP (MX3_isSmall g) Q (0, [some (.ref y), some (.int a0)], [], w, 0, 0) := by
  repeat' first
    | with_reducible assumption
    | with_reducible refine And.intro ?_ ?_
    | with_reducible exact vpi6 (by assumption) (by assumption)
    | with_reducible exact vpi8 (by assumption) (by assumption)
    | with_reducible exact trivial
    | with_reducible exact absurd (by assumption) n10'
    | with_reducible exact n00x (by assumption)
    | with_reducible exact hX (fun h => absurd h (by assumption)) _ (by assumption)
    | with_reducible exact hS (by assumption) (by assumption) _ (by assumption)
    | with_reducible refine fX3_isNone (by assumption) (fun _ w1 h1 => ?_) (fun _ _ w1 h1 => ?_) (fun ka r e1 w1 h1 => ?_)
    | with_reducible refine go_S (by assumption) (fun _ _ hY => ?_)
    | with_reducible refine gl_S (by assumption) ?_
    | with_reducible exact MS.gC (by assumption) (by assumption)
    | with_reducible exact MS.gP (by assumption) (by assumption)
    | (simp only [rv0, rv1, rv2, rv3])
    | with_reducible refine sGetK (by assumption) (by assumption) (by assumption) (by assumption) (fun _ hb => ?_)
    | with_reducible exact rowA.ca (by assumption)
    | with_reducible refine gl_A (by assumption) ?_
    | with_reducible exact vpi4.1
    | with_reducible exact vpi4.2.1
    | with_reducible exact vpi4.2.2.1
    | with_reducible exact vpi4.2.2.2
    | with_reducible exact vpi8k (by assumption)
    | with_reducible exact vpi6k (by assumption)
    | with_reducible exact vpi4k (by assumption)
    | with_reducible refine fX3_small (by assumption) (fun hm => ?_) (fun hm => ?_)
    | with_reducible exact hT ka r e1 hm _ h1
    | with_reducible exact hF ka r e1 hm _ h1
    | simp only [eX3_isSmall_0, eX3_isSmall_0N, eX3_isSmall_1, eX3_isSmall_2, eX3_isSmall_5, eX3_isSmall_8, eX3_isSmall_8N, eX3_isSmall_9, eX3_isSmall_12, eX3_isSmall_13, eX3_isSmall_16N, eX3_isSmall_16R, eX3_isSmall_19R, eX3_isSmall_19N, eX3_isSmall_22, eX3_isSmall_25, eX3_isSmall_26, eX3_isSmall_29, eX3_isSmall_30, lgp, lgn, lgz, i10, i00, if_true, if_false, eq_self, not_true, not_false_eq_true, m10, n4e, upw2q, rv0, rv1, rv2, rv3, lmi, lmx, ite_le, n45, n54, true_or, or_true, false_or, or_false, false_and, and_false, kx_l, kx_r, go_s, gl_s, gi_s, gb_s2, gb_s3, gq_s, wt_nil, wt_int, wt_long, wt_ref, wt_null, nl_int, nl_long, nl_ref, nl_null, nl_none, rf_n, rf_s, rf_st, tl_s, tl_n, g0, gS, ex1, nb_b, nb_0, nb_1, nf_i, nf_l, nf_ra, nf_ro, nf_na, nf_no, nf_b0, nf_z0, t45_4, t45_5, true_and, and_true, List.set_cons_zero, List.set_cons_succ, List.length_cons, List.length_nil, rd_s, upw_s, ne_eq, not_false_eq_true, Nat.zero_add, Nat.add_zero]
    | with_reducible refine itx (fun _ => ?_) (fun _ => ?_)
    | split
    | with_reducible intro _
    | omega
set_option maxHeartbeats 4000000 in
theorem fX3_isValid {a0 a1 : Int32} (hM : MS g w0 y nM kd th s w) (hX : ¬ (okC a0 ∧ okN a1) → ∀ w', MS g w0 y nM kd 1 s w' → Q (.inl (some (.int 0))) w') (hS : okC a0 → okN a1 → s.2.1 a0.toNatClampNeg = none → ∀ w', MS g w0 y nM kd 2 s w' → Q (.inl (some (.int 0))) w') (hT : okC a0 → okN a1 → ∀ r, s.2.1 a0.toNatClampNeg = some r → hP r (s.1 a1.toNatClampNeg) → ∀ w', MS g w0 y nM kd 0 s w' → Q (.inl (some (.int 1))) w') (hF : okC a0 → okN a1 → ∀ r, s.2.1 a0.toNatClampNeg = some r → ¬ (hP r (s.1 a1.toNatClampNeg)) → ∀ w', MS g w0 y nM kd 0 s w' → Q (.inl (some (.int 0))) w') : WP (MX3_isValid g) Q (0, [some (.ref y), some (.int a0), some (.int a1)], [], w, 0, 0) := by
  repeat' first
    | with_reducible assumption
    | with_reducible refine And.intro ?_ ?_
    | with_reducible exact vpi6 (by assumption) (by assumption)
    | with_reducible exact vpi8 (by assumption) (by assumption)
    | with_reducible exact trivial
    | with_reducible exact absurd (by assumption) n10'
    | with_reducible exact n00x (by assumption)
    | with_reducible exact hX (by assumption) _ (by assumption)
    | with_reducible exact hX (fun h => absurd h.1 (by assumption)) _ (by assumption)
    | with_reducible exact hX (fun h => absurd h.2 (by assumption)) _ (by assumption)
    | with_reducible exact hS (by assumption) (by assumption) (by assumption) _ (by assumption)
    | with_reducible refine fX3_isNoAsked (by assumption) (fun _ w1 h1 => ?_) (fun _ _ _ w1 h1 => ?_) (fun ka kn r e1 w1 h1 => ?_)
    | with_reducible refine go_S (by assumption) (fun _ _ hY => ?_)
    | with_reducible refine gl_S (by assumption) ?_
    | with_reducible exact MS.gC (by assumption) (by assumption)
    | with_reducible exact MS.gP (by assumption) (by assumption)
    | (simp only [rv0, rv1, rv2, rv3])
    | with_reducible refine sGetK (by assumption) (by assumption) (by assumption) (by assumption) (fun _ hb => ?_)
    | with_reducible exact rowA.ca (by assumption)
    | with_reducible refine gl_A (by assumption) ?_
    | with_reducible exact vpi4.1
    | with_reducible exact vpi4.2.1
    | with_reducible exact vpi4.2.2.1
    | with_reducible exact vpi4.2.2.2
    | with_reducible exact vpi8k (by assumption)
    | with_reducible exact vpi6k (by assumption)
    | with_reducible exact vpi4k (by assumption)
    | with_reducible refine fX3_valid (by assumption) (fun hm => ?_) (fun hm => ?_)
    | with_reducible exact hT ka kn r e1 hm.2 _ h1
    | ((with_reducible refine isQ (Q := Q) ?_); exact hF ka kn r e1 (fun h => hm ⟨Or.inl rfl, h⟩) _ h1)
    | simp only [eX3_isValid_0, eX3_isValid_0N, eX3_isValid_1, eX3_isValid_2, eX3_isValid_3, eX3_isValid_6, eX3_isValid_9, eX3_isValid_9N, eX3_isValid_10, eX3_isValid_13, eX3_isValid_14, eX3_isValid_17N, eX3_isValid_17R, eX3_isValid_20, eX3_isValid_20N, eX3_isValid_21, eX3_isValid_24, eX3_isValid_25, eX3_isValid_26, eX3_isValid_27R, eX3_isValid_27N, eX3_isValid_30, eX3_isValid_33, eX3_isValid_34, eX3_isValid_37, eX3_isValid_38, lgp, lgn, lgz, i10, i00, if_true, if_false, eq_self, not_true, not_false_eq_true, m10, n4e, upw2q, rv0, rv1, rv2, rv3, lmi, lmx, ite_le, n45, n54, true_or, or_true, false_or, or_false, false_and, and_false, kx_l, kx_r, go_s, gl_s, gi_s, gb_s2, gb_s3, gq_s, wt_nil, wt_int, wt_long, wt_ref, wt_null, nl_int, nl_long, nl_ref, nl_null, nl_none, rf_n, rf_s, rf_st, tl_s, tl_n, g0, gS, ex1, nb_b, nb_0, nb_1, nf_i, nf_l, nf_ra, nf_ro, nf_na, nf_no, nf_b0, nf_z0, t45_4, t45_5, true_and, and_true, List.set_cons_zero, List.set_cons_succ, List.length_cons, List.length_nil, rd_s, upw_s, ne_eq, not_false_eq_true, Nat.zero_add, Nat.add_zero]
    | with_reducible refine itx (fun _ => ?_) (fun _ => ?_)
    | split
    | with_reducible intro _
    | omega
set_option maxHeartbeats 4000000 in
theorem fX3_isValidSmall {a0 a1 : Int32} (hM : MS g w0 y nM kd th s w) (hX : ¬ (okC a0 ∧ okN a1) → ∀ w', MS g w0 y nM kd 1 s w' → Q (.inl (some (.int 0))) w') (hS : okC a0 → okN a1 → s.2.1 a0.toNatClampNeg = none → ∀ w', MS g w0 y nM kd 2 s w' → Q (.inl (some (.int 0))) w') (hT : okC a0 → okN a1 → ∀ r, s.2.1 a0.toNatClampNeg = some r → (sP r ∧ hP r (s.1 a1.toNatClampNeg)) → ∀ w', MS g w0 y nM kd 0 s w' → Q (.inl (some (.int 1))) w') (hF : okC a0 → okN a1 → ∀ r, s.2.1 a0.toNatClampNeg = some r → ¬ ((sP r ∧ hP r (s.1 a1.toNatClampNeg))) → ∀ w', MS g w0 y nM kd 0 s w' → Q (.inl (some (.int 0))) w') : WP (MX3_isValidSmall g) Q (0, [some (.ref y), some (.int a0), some (.int a1)], [], w, 0, 0) := by
  repeat' first
    | with_reducible assumption
    | with_reducible refine And.intro ?_ ?_
    | with_reducible exact vpi6 (by assumption) (by assumption)
    | with_reducible exact vpi8 (by assumption) (by assumption)
    | with_reducible exact trivial
    | with_reducible exact absurd (by assumption) n10'
    | with_reducible exact n00x (by assumption)
    | with_reducible exact hX (by assumption) _ (by assumption)
    | with_reducible exact hX (fun h => absurd h.1 (by assumption)) _ (by assumption)
    | with_reducible exact hX (fun h => absurd h.2 (by assumption)) _ (by assumption)
    | with_reducible exact hS (by assumption) (by assumption) (by assumption) _ (by assumption)
    | with_reducible refine fX3_isNoAsked (by assumption) (fun _ w1 h1 => ?_) (fun _ _ _ w1 h1 => ?_) (fun ka kn r e1 w1 h1 => ?_)
    | with_reducible refine go_S (by assumption) (fun _ _ hY => ?_)
    | with_reducible refine gl_S (by assumption) ?_
    | with_reducible exact MS.gC (by assumption) (by assumption)
    | with_reducible exact MS.gP (by assumption) (by assumption)
    | (simp only [rv0, rv1, rv2, rv3])
    | with_reducible refine sGetK (by assumption) (by assumption) (by assumption) (by assumption) (fun _ hb => ?_)
    | with_reducible exact rowA.ca (by assumption)
    | with_reducible refine gl_A (by assumption) ?_
    | with_reducible exact vpi4.1
    | with_reducible exact vpi4.2.1
    | with_reducible exact vpi4.2.2.1
    | with_reducible exact vpi4.2.2.2
    | with_reducible exact vpi8k (by assumption)
    | with_reducible exact vpi6k (by assumption)
    | with_reducible exact vpi4k (by assumption)
    | with_reducible refine fX3_valid (by assumption) (fun hm => ?_) (fun hm => ?_)
    | with_reducible exact hT ka kn r e1 ⟨hm.1.resolve_left n10', hm.2⟩ _ h1
    | ((with_reducible refine isQ (Q := Q) ?_); exact hF ka kn r e1 (fun h => hm ⟨Or.inr h.1, h.2⟩) _ h1)
    | simp only [eX3_isValidSmall_0, eX3_isValidSmall_0N, eX3_isValidSmall_1, eX3_isValidSmall_2, eX3_isValidSmall_3, eX3_isValidSmall_6, eX3_isValidSmall_9, eX3_isValidSmall_9N, eX3_isValidSmall_10, eX3_isValidSmall_13, eX3_isValidSmall_14, eX3_isValidSmall_17N, eX3_isValidSmall_17R, eX3_isValidSmall_20, eX3_isValidSmall_20N, eX3_isValidSmall_21, eX3_isValidSmall_24, eX3_isValidSmall_25, eX3_isValidSmall_26, eX3_isValidSmall_27R, eX3_isValidSmall_27N, eX3_isValidSmall_30, eX3_isValidSmall_33, eX3_isValidSmall_34, eX3_isValidSmall_37, eX3_isValidSmall_38, lgp, lgn, lgz, i10, i00, if_true, if_false, eq_self, not_true, not_false_eq_true, m10, n4e, upw2q, rv0, rv1, rv2, rv3, lmi, lmx, ite_le, n45, n54, true_or, or_true, false_or, or_false, false_and, and_false, kx_l, kx_r, go_s, gl_s, gi_s, gb_s2, gb_s3, gq_s, wt_nil, wt_int, wt_long, wt_ref, wt_null, nl_int, nl_long, nl_ref, nl_null, nl_none, rf_n, rf_s, rf_st, tl_s, tl_n, g0, gS, ex1, nb_b, nb_0, nb_1, nf_i, nf_l, nf_ra, nf_ro, nf_na, nf_no, nf_b0, nf_z0, t45_4, t45_5, true_and, and_true, List.set_cons_zero, List.set_cons_succ, List.length_cons, List.length_nil, rd_s, upw_s, ne_eq, not_false_eq_true, Nat.zero_add, Nat.add_zero]
    | with_reducible refine itx (fun _ => ?_) (fun _ => ?_)
    | split
    | with_reducible intro _
    | omega
set_option maxHeartbeats 4000000 in
theorem fX3_areSame {a0 a1 : Int32} (hM : MS g w0 y nM kd th s w) (hX : ¬ (okC a0 ∧ okC a1) → ∀ w', MS g w0 y nM kd 1 s w' → Q (.inl (some (.int 0))) w') (hS : okC a0 → okC a1 → (s.2.1 a0.toNatClampNeg = none ∨ s.2.1 a1.toNatClampNeg = none) → ∀ w', MS g w0 y nM kd 2 s w' → Q (.inl (some (.int 0))) w') (hT : okC a0 → okC a1 → ∀ r q, s.2.1 a0.toNatClampNeg = some r → s.2.1 a1.toNatClampNeg = some q → mP r q → ∀ w', MS g w0 y nM kd 0 s w' → Q (.inl (some (.int 1))) w') (hF : okC a0 → okC a1 → ∀ r q, s.2.1 a0.toNatClampNeg = some r → s.2.1 a1.toNatClampNeg = some q → ¬ mP r q → ∀ w', MS g w0 y nM kd 0 s w' → Q (.inl (some (.int 0))) w') : WP (MX3_areSame g) Q (0, [some (.ref y), some (.int a0), some (.int a1)], [], w, 0, 0) := by
  repeat' first
    | with_reducible assumption
    | with_reducible refine And.intro ?_ ?_
    | with_reducible exact vpi6 (by assumption) (by assumption)
    | with_reducible exact vpi8 (by assumption) (by assumption)
    | with_reducible exact trivial
    | with_reducible exact absurd (by assumption) n10'
    | with_reducible exact n00x (by assumption)
    | with_reducible exact hX (fun h => absurd h.1 (by assumption)) _ (by assumption)
    | with_reducible exact hX (fun h => absurd h.2 (by assumption)) _ (by assumption)
    | with_reducible exact hS (by assumption) (by assumption) (Or.inl (by assumption)) _ (by assumption)
    | with_reducible exact hS (by assumption) (by assumption) (Or.inr (by assumption)) _ (by assumption)
    | with_reducible exact hT (by assumption) (by assumption) _ _ (by assumption) (by assumption) hm _ (by assumption)
    | with_reducible exact hF (by assumption) (by assumption) _ _ (by assumption) (by assumption) hm _ (by assumption)
    | with_reducible refine fX3_isNoCard (fun _ => ?_) (fun _ => ?_)
    | with_reducible refine fX3_start (by assumption) (by decide) (fun _ w1 h1 => ?_) (fun _ w1 h1 => ?_)
    | with_reducible refine fX3_refuse (by assumption) (by decide) (fun _ => ?_) (fun _ w2 h2 => ?_)
    | with_reducible refine go_S (by assumption) (fun _ _ hY => ?_)
    | with_reducible refine fX3_isBare (by assumption) (by assumption) (fun _ => ?_) (fun _ _ => ?_)
    | with_reducible exact MS.gC (by assumption) (by assumption)
    | with_reducible exact MS.gP (by assumption) (by assumption)
    | with_reducible refine sGetK (i := a0) (by assumption) (by assumption) (by assumption) (by assumption) (fun _ hb0 => ?_)
    | with_reducible refine sGetK (i := a1) (by assumption) (by assumption) (by assumption) (by assumption) (fun _ hb1 => ?_)
    | (simp only [rv0, rv1, rv2, rv3])
    | with_reducible exact rowA.ca (by assumption)
    | with_reducible refine gl_A (by assumption) ?_
    | with_reducible exact vpi4.1
    | with_reducible exact vpi4.2.1
    | with_reducible exact vpi4.2.2.1
    | with_reducible exact vpi4.2.2.2
    | with_reducible refine fX3_same hb0 hb1 (fun hm => ?_) (fun hm => ?_)
    | simp only [eX3_areSame_0, eX3_areSame_0N, eX3_areSame_1, eX3_areSame_2, eX3_areSame_5, eX3_areSame_8, eX3_areSame_9, eX3_areSame_12, eX3_areSame_15, eX3_areSame_16, eX3_areSame_19, eX3_areSame_20, eX3_areSame_21, eX3_areSame_24, eX3_areSame_27, eX3_areSame_27N, eX3_areSame_28, eX3_areSame_28N, eX3_areSame_29, eX3_areSame_30, eX3_areSame_33, eX3_areSame_36, eX3_areSame_36N, eX3_areSame_37, eX3_areSame_38, eX3_areSame_41, eX3_areSame_44, eX3_areSame_45, eX3_areSame_48, eX3_areSame_49, eX3_areSame_50, eX3_areSame_53, eX3_areSame_56, eX3_areSame_56N, eX3_areSame_57, eX3_areSame_60, eX3_areSame_61, eX3_areSame_64N, eX3_areSame_64R, eX3_areSame_67, eX3_areSame_67N, eX3_areSame_68, eX3_areSame_71, eX3_areSame_72, eX3_areSame_75N, eX3_areSame_75R, eX3_areSame_78RR, eX3_areSame_78NR, eX3_areSame_78RN, eX3_areSame_78NN, eX3_areSame_81, eX3_areSame_84, eX3_areSame_85, eX3_areSame_88, eX3_areSame_89, lgp, lgn, lgz, i10, i00, if_true, if_false, eq_self, not_true, not_false_eq_true, m10, n4e, upw2q, rv0, rv1, rv2, rv3, lmi, lmx, ite_le, n45, n54, true_or, or_true, false_or, or_false, false_and, and_false, kx_l, kx_r, go_s, gl_s, gi_s, gb_s2, gb_s3, gq_s, wt_nil, wt_int, wt_long, wt_ref, wt_null, nl_int, nl_long, nl_ref, nl_null, nl_none, rf_n, rf_s, rf_st, tl_s, tl_n, g0, gS, ex1, nb_b, nb_0, nb_1, nf_i, nf_l, nf_ra, nf_ro, nf_na, nf_no, nf_b0, nf_z0, t45_4, t45_5, true_and, and_true, List.set_cons_zero, List.set_cons_succ, List.length_cons, List.length_nil, rd_s, upw_s, ne_eq, not_false_eq_true, Nat.zero_add, Nat.add_zero]
    | with_reducible refine itx (fun _ => ?_) (fun _ => ?_)
    | split
    | with_reducible intro _
    | omega
end
end
/-! 75.mf8.lean.txt -/
section
section
variable {g : RO} {Q : Ot → Hw → Prop} {w0 w : Hw} {y nM : Nat} {kd th : Int32} {s : AS}
/-! MODEL, FUNCTIONAL, 9: the pile -/
/-- the place found so far -/
def skV (f : Nat → R4) (r : R4) (c : Int32) : Nat → Int32
  | 0 => -1
  | j + 1 => if mP (f j) r ∧ (¬ c = 0 ∨ skV f r c j = -1) then Int32.ofNat j else skV f r c j
theorem skV_t {f : Nat → R4} {r : R4} {c : Int32} {j : Nat} (h : mP (f j) r) (k : ¬ c = 0 ∨ skV f r c j = -1) : Int32.ofNat j = skV f r c (j + 1) := by
  show _ = if mP (f j) r ∧ (¬ c = 0 ∨ skV f r c j = -1) then Int32.ofNat j else skV f r c j
  rw [if_pos ⟨h, k⟩]
theorem skV_n {f : Nat → R4} {r : R4} {c : Int32} {j : Nat} (h : ¬ mP (f j) r) : skV f r c j = skV f r c (j + 1) := by
  show _ = if mP (f j) r ∧ (¬ c = 0 ∨ skV f r c j = -1) then Int32.ofNat j else skV f r c j
  rw [if_neg (fun k => h k.1)]
theorem skV_m {f : Nat → R4} {r : R4} {c : Int32} {j : Nat} (h0 : c = 0) (h : ¬ skV f r c j = -1) : skV f r c j = skV f r c (j + 1) := by
  show _ = if mP (f j) r ∧ (¬ c = 0 ∨ skV f r c j = -1) then Int32.ofNat j else skV f r c j
  rw [if_neg (fun k => k.2.elim (fun z => z h0) h)]
theorem skV_0 {f : Nat → R4} {r : R4} {c : Int32} : ∀ {N : Nat}, (∀ i, i < N → ¬ mP r (f i)) → skV f r c N = -1
  | 0, _ => rfl
  | N + 1, h => by
    rw [← skV_n (fun k => h N (by omega) (mSy k))]
    exact skV_0 (fun i hi => h i (by omega))
theorem skV_F {f : Nat → R4} {r : R4} {c : Int32} {i : Nat} (h0 : c = 0) (h : mP r (f i)) (k : ∀ j, j < i → ¬ mP r (f j)) (hi : i < 900) : ∀ {N : Nat}, i < N → skV f r c N = Int32.ofNat i
  | 0, z => absurd z (Nat.not_lt_zero _)
  | N + 1, z => by
    rcases Nat.lt_or_ge i N with q | q
    · have e := skV_F h0 h k hi q
      rw [← skV_m h0 (by rw [e]; exact oN9 (by omega)), e]
    · obtain rfl : i = N := by omega
      exact (skV_t (mSy h) (Or.inr (skV_0 k))).symm
theorem fstO {f : Nat → R4} {r : R4} : ∀ N : Nat, (∀ i, i < N → ¬ mP r (f i)) ∨ ∃ i, i < N ∧ mP r (f i) ∧ ∀ k, k < i → ¬ mP r (f k)
  | 0 => Or.inl (fun i hi => absurd hi (Nat.not_lt_zero _))
  | N + 1 => by
    rcases fstO (f := f) (r := r) N with h | ⟨i, hi, h1, h2⟩
    · by_cases m : mP r (f N)
      · exact Or.inr ⟨N, by omega, m, h⟩
      · refine Or.inl (fun i hi => ?_)
        rcases Nat.lt_or_ge i N with q | q
        · exact h i q
        · obtain rfl : i = N := by omega
          exact m
    · exact Or.inr ⟨i, by omega, h1, h2⟩
theorem okPj {n : Int32} {j : Nat} (h : j < n.toInt.toNat) (hn : n.toInt ≤ 12) : okP n (Int32.ofNat j) := ⟨oN0 (by omega), i32_of_lt (by rw [oNt (by omega)]; omega)⟩
theorem sGetPj {cL pL j : Nat} (hM : MS g w0 y nM kd th s w) (hY : isY w y nM cL pL) (k : j < s.2.2.1.toInt.toNat) (hQ : ∀ b, rowA w b (s.2.2.2.1 j) → Q (.inl (some (.ref b))) w) : WP (MJx4a65c_get_915e3 g) Q (0, [some (.ref pL), some (.int (Int32.ofNat j))], [], w, 0, 0) := sGetPF hM hY (okPj k hM.n0.2) (fun b hb => hQ b (by
  have nn := hM.n0
  rw [oNc (by omega)] at hb
  exact hb))
theorem l12m {n : Int32} (h : ¬ n = 12) (hn : n.toInt ≤ 12) : n < 12 := by
  have e12 : (12 : Int32).toInt = 12 := rfl
  refine i32_of_lt ?_
  rcases Int.lt_or_le n.toInt 12 with q | q
  · omega
  · exact absurd (i32_eq (by omega)) h
theorem l12e {n : Int32} (h : n = 12) : ¬ n < 12 := by
  subst h
  decide
theorem nokP {n a : Int32} (hn : 0 ≤ n.toInt ∧ n.toInt ≤ 12) (h : a < 0 ∨ n - 1 < a) : ¬ okP n a := fun k => by
  rcases h with h | h
  · exact k.1 h
  · have q := i32_lt h
    have q2 := i32_lt k.2
    have z1' : (1 : Int32).toInt = 1 := rfl
    have e1 : (n - 1).toInt = n.toInt - 1 := by rw [i32_sub (by omega) (by omega), z1']
    omega
set_option maxHeartbeats 4000000 in
theorem fX3_lay {a0 : Int32} (hM : MS g w0 y nM kd th s w) (hE : EG g w0) (hG : SG g) (hX : ¬ (okC a0) → ∀ w', MS g w0 y nM kd 1 s w' → Q (.inl (some (.int 0))) w') (hS : okC a0 → s.2.1 a0.toNatClampNeg = none → ∀ w', MS g w0 y nM kd 2 s w' → Q (.inl (some (.int 0))) w') (hF : okC a0 → ∀ r, s.2.1 a0.toNatClampNeg = some r → ¬ s.2.2.1 < 12 → ∀ w', MS g w0 y nM kd 0 (sRf s) w' → Q (.inl (some (.int (-9)))) w') (hQ : okC a0 → ∀ r, s.2.1 a0.toNatClampNeg = some r → s.2.2.1 < 12 → ∀ w', MS g w0 y nM kd 0 (sP_ s (s.2.2.1 + 1) (va_up s.2.2.2.1 s.2.2.1.toNatClampNeg r)) w' → Q (.inl (some (.int (s.2.2.1 + 1)))) w') : WP (MX3_lay g) Q (0, [some (.ref y), some (.int a0)], [], w, 0, 0) := by
  repeat' first
    | with_reducible assumption
    | with_reducible refine And.intro ?_ ?_
    | with_reducible exact vpi6 (by assumption) (by assumption)
    | with_reducible exact vpi8 (by assumption) (by assumption)
    | with_reducible exact trivial
    | with_reducible exact absurd (by assumption) n10'
    | with_reducible exact n00x (by assumption)
    | with_reducible exact hX (fun h => absurd h (by assumption)) _ (by assumption)
    | with_reducible exact hS (by assumption) (by assumption) _ (by assumption)
    | with_reducible refine fX3_isNone (by assumption) (fun _ w1 h1 => ?_) (fun _ _ w1 h1 => ?_) (fun ka r e1 w1 h1 => ?_)
    | with_reducible refine go_S (by assumption) (fun _ _ hY => ?_)
    | with_reducible exact MS.gC (by assumption) (by assumption)
    | with_reducible exact MS.gP (by assumption) (by assumption)
    | (simp only [rv0, rv1, rv2, rv3])
    | with_reducible refine sGetK (by assumption) (by assumption) (by assumption) (by assumption) (fun _ hb => ?_)
    | with_reducible exact rowA.ca (by assumption)
    | with_reducible refine gl_A (by assumption) ?_
    | with_reducible exact vpi4.1
    | with_reducible exact vpi4.2.1
    | with_reducible exact vpi4.2.2.1
    | with_reducible exact vpi4.2.2.2
    | with_reducible refine sSizeF h1 (by assumption) ?_
    | with_reducible refine fX3_no h1 (fun w3 h3 => ?_)
    | with_reducible exact hF ka r e1 (l12e (by assumption)) _ h3
    | with_reducible refine sAddF h1 (by assumption) hE hG hb (l12m (by assumption) h1.n0.2) (fun w3 h3 => ?_)
    | with_reducible refine sSizeF h3 (by assumption) ?_
    | ((with_reducible refine isQ (Q := Q) ?_); exact hQ ka r e1 (l12m (by assumption) h1.n0.2) _ h3)
    | simp only [eX3_lay_0, eX3_lay_0N, eX3_lay_1, eX3_lay_2, eX3_lay_5, eX3_lay_8, eX3_lay_9, eX3_lay_10, eX3_lay_10N, eX3_lay_11, eX3_lay_14, eX3_lay_17, eX3_lay_19, eX3_lay_22, eX3_lay_22N, eX3_lay_23, eX3_lay_26, eX3_lay_27, eX3_lay_27N, eX3_lay_28, eX3_lay_31, eX3_lay_31N, eX3_lay_32, eX3_lay_35, eX3_lay_36, eX3_lay_39N, eX3_lay_39R, eX3_lay_42R, eX3_lay_42N, eX3_lay_45, eX3_lay_45R, eX3_lay_45N, eX3_lay_46, eX3_lay_46N, eX3_lay_47, eX3_lay_50, eX3_lay_53, lgp, lgn, lgz, i10, i00, if_true, if_false, eq_self, not_true, not_false_eq_true, m10, n4e, upw2q, rv0, rv1, rv2, rv3, lmi, lmx, ite_le, n45, n54, true_or, or_true, false_or, or_false, false_and, and_false, kx_l, kx_r, go_s, gl_s, gi_s, gb_s2, gb_s3, gq_s, wt_nil, wt_int, wt_long, wt_ref, wt_null, nl_int, nl_long, nl_ref, nl_null, nl_none, rf_n, rf_s, rf_st, tl_s, tl_n, g0, gS, ex1, nb_b, nb_0, nb_1, nf_i, nf_l, nf_ra, nf_ro, nf_na, nf_no, nf_b0, nf_z0, t45_4, t45_5, true_and, and_true, List.set_cons_zero, List.set_cons_succ, List.length_cons, List.length_nil, rd_s, upw_s, ne_eq, not_false_eq_true, Nat.zero_add, Nat.add_zero]
    | with_reducible refine itx (fun _ => ?_) (fun _ => ?_)
    | split
    | with_reducible intro _
    | omega
set_option maxHeartbeats 4000000 in
theorem flX3_seekNow_5 {a c : Int32} {r : R4} (hM : MS g w0 y nM kd th s w) (k : okC a) (e : s.2.1 a.toNatClampNeg = some r) (hQ : Q (.inl (some (.int (skV s.2.2.2.1 r c s.2.2.1.toInt.toNat)))) w) : ∀ (d j : Nat)  (kz mz : Nat), j + d = s.2.2.1.toInt.toNat → kz ≤ 0 → mz ≤ 0 → WP (MX3_seekNow g) Q (5, [some (.ref y), some (.int a), some (.int c), some (.int (skV s.2.2.2.1 r c j)), some (.int (Int32.ofNat j))], [], w, kz, mz) := by
  obtain ⟨hn1, hn2⟩ := hM.nn
  intro d
  induction d with
  | zero =>
    intro j  kz mz hjd hkz hmz
    have h9 : j < 1000 := (by omega)
    have hlt : ¬ Int32.ofNat j < s.2.2.1 := oNg (B := s.2.2.1.toInt.toNat) h9 hn1 (by omega)
    have hnn := oN0 h9
    have hcl := oNc h9
    obtain rfl : j = s.2.2.1.toInt.toNat := by omega
    rw [eX3_seekNow_5]
    repeat' first
      | with_reducible assumption
      | with_reducible refine And.intro ?_ ?_
      | with_reducible exact vpi6 (by assumption) (by assumption)
      | with_reducible exact vpi8 (by assumption) (by assumption)
      | with_reducible exact trivial
      | with_reducible exact absurd (by assumption) n10'
      | with_reducible exact n00x (by assumption)
      | with_reducible refine go_S hM (fun _ _ hY => ?_)
      | with_reducible exact MS.gC (by assumption) (by assumption)
      | with_reducible exact MS.gP (by assumption) (by assumption)
      | with_reducible refine sSizeF hM (by assumption) ?_
      | with_reducible refine sGetPj hM (by assumption) (by omega) (fun _ hb0 => ?_)
      | with_reducible refine sGetK (i := a) hM (by assumption) k e (fun _ hb => ?_)
      | with_reducible exact rowA.ca (by assumption)
      | with_reducible refine fX3_same hb0 hb (fun hm => ?_) (fun hm => ?_)
      | with_reducible exact hQ
      | simp only [eX3_seekNow_0, eX3_seekNow_1, eX3_seekNow_2, eX3_seekNow_3, eX3_seekNow_7, eX3_seekNow_7N, eX3_seekNow_8, eX3_seekNow_11, eX3_seekNow_14, eX3_seekNow_17, eX3_seekNow_17N, eX3_seekNow_18, eX3_seekNow_21, eX3_seekNow_23, eX3_seekNow_26N, eX3_seekNow_26R, eX3_seekNow_29, eX3_seekNow_29N, eX3_seekNow_30, eX3_seekNow_33, eX3_seekNow_34, eX3_seekNow_37N, eX3_seekNow_37R, eX3_seekNow_40RR, eX3_seekNow_40NR, eX3_seekNow_40RN, eX3_seekNow_40NN, eX3_seekNow_43, eX3_seekNow_46, eX3_seekNow_47, eX3_seekNow_50, eX3_seekNow_51, eX3_seekNow_52, eX3_seekNow_55, eX3_seekNow_57, eX3_seekNow_58, eX3_seekNow_61, eX3_seekNow_64, eX3_seekNow_65, lgp, lgn, lgz, i10, i00, if_true, if_false, eq_self, not_true, not_false_eq_true, m10, n4e, upw2q, rv0, rv1, rv2, rv3, lmi, lmx, hlt, hcl, ite_le, n45, n54, true_or, or_true, false_or, or_false, false_and, and_false, kx_l, kx_r, go_s, gl_s, gi_s, gb_s2, gb_s3, gq_s, wt_nil, wt_int, wt_long, wt_ref, wt_null, nl_int, nl_long, nl_ref, nl_null, nl_none, rf_n, rf_s, rf_st, tl_s, tl_n, g0, gS, ex1, nb_b, nb_0, nb_1, nf_i, nf_l, nf_ra, nf_ro, nf_na, nf_no, nf_b0, nf_z0, t45_4, t45_5, true_and, and_true, List.set_cons_zero, List.set_cons_succ, List.length_cons, List.length_nil, rd_s, upw_s, ne_eq, not_false_eq_true, Nat.zero_add, Nat.add_zero]
      | with_reducible refine itx (fun _ => ?_) (fun _ => ?_)
      | split
      | with_reducible intro _
      | omega
  | succ d ih =>
    intro j  kz mz hjd hkz hmz
    have h9 : j < 1000 := (by omega)
    have hlt : Int32.ofNat j < s.2.2.1 := oNl (B := s.2.2.1.toInt.toNat) h9 hn1 (by omega)
    have hjN : j < s.2.2.1.toInt.toNat := by omega
    have hnn := oN0 h9
    have hcl := oNc h9
    rw [eX3_seekNow_5]
    repeat' first
      | with_reducible assumption
      | with_reducible refine And.intro ?_ ?_
      | with_reducible exact vpi6 (by assumption) (by assumption)
      | with_reducible exact vpi8 (by assumption) (by assumption)
      | with_reducible exact trivial
      | with_reducible exact absurd (by assumption) n10'
      | with_reducible exact n00x (by assumption)
      | (rw [oN1, skV_n (c := c) hm]; exact ih (j + 1)  _ _ (by omega) (by first | assumption | omega) (by first | assumption | omega))
      | (rw [oN1, skV_t (c := c) hm (Or.inl (by assumption))]; exact ih (j + 1)  _ _ (by omega) (by first | assumption | omega) (by first | assumption | omega))
      | (rw [oN1, skV_t (c := c) hm (Or.inr (by assumption))]; exact ih (j + 1)  _ _ (by omega) (by first | assumption | omega) (by first | assumption | omega))
      | (rw [oN1, skV_m (f := s.2.2.2.1) (r := r) (c := c) (j := j) (by assumption) (by assumption)]; exact ih (j + 1)  _ _ (by omega) (by first | assumption | omega) (by first | assumption | omega))
      | with_reducible refine go_S hM (fun _ _ hY => ?_)
      | with_reducible exact MS.gC (by assumption) (by assumption)
      | with_reducible exact MS.gP (by assumption) (by assumption)
      | with_reducible refine sSizeF hM (by assumption) ?_
      | with_reducible refine sGetPj hM (by assumption) (by omega) (fun _ hb0 => ?_)
      | with_reducible refine sGetK (i := a) hM (by assumption) k e (fun _ hb => ?_)
      | with_reducible exact rowA.ca (by assumption)
      | with_reducible refine fX3_same hb0 hb (fun hm => ?_) (fun hm => ?_)
      | with_reducible exact hQ
      | simp only [eX3_seekNow_0, eX3_seekNow_1, eX3_seekNow_2, eX3_seekNow_3, eX3_seekNow_7, eX3_seekNow_7N, eX3_seekNow_8, eX3_seekNow_11, eX3_seekNow_14, eX3_seekNow_17, eX3_seekNow_17N, eX3_seekNow_18, eX3_seekNow_21, eX3_seekNow_23, eX3_seekNow_26N, eX3_seekNow_26R, eX3_seekNow_29, eX3_seekNow_29N, eX3_seekNow_30, eX3_seekNow_33, eX3_seekNow_34, eX3_seekNow_37N, eX3_seekNow_37R, eX3_seekNow_40RR, eX3_seekNow_40NR, eX3_seekNow_40RN, eX3_seekNow_40NN, eX3_seekNow_43, eX3_seekNow_46, eX3_seekNow_47, eX3_seekNow_50, eX3_seekNow_51, eX3_seekNow_52, eX3_seekNow_55, eX3_seekNow_57, eX3_seekNow_58, eX3_seekNow_61, eX3_seekNow_64, eX3_seekNow_65, lgp, lgn, lgz, i10, i00, if_true, if_false, eq_self, not_true, not_false_eq_true, m10, n4e, upw2q, rv0, rv1, rv2, rv3, lmi, lmx, hlt, hcl, ite_le, n45, n54, true_or, or_true, false_or, or_false, false_and, and_false, kx_l, kx_r, go_s, gl_s, gi_s, gb_s2, gb_s3, gq_s, wt_nil, wt_int, wt_long, wt_ref, wt_null, nl_int, nl_long, nl_ref, nl_null, nl_none, rf_n, rf_s, rf_st, tl_s, tl_n, g0, gS, ex1, nb_b, nb_0, nb_1, nf_i, nf_l, nf_ra, nf_ro, nf_na, nf_no, nf_b0, nf_z0, t45_4, t45_5, true_and, and_true, List.set_cons_zero, List.set_cons_succ, List.length_cons, List.length_nil, rd_s, upw_s, ne_eq, not_false_eq_true, Nat.zero_add, Nat.add_zero]
      | with_reducible refine itx (fun _ => ?_) (fun _ => ?_)
      | split
      | with_reducible intro _
      | omega
set_option maxHeartbeats 4000000 in
theorem fX3_seekNow {a c : Int32} {r : R4} (hM : MS g w0 y nM kd th s w) (k : okC a) (e : s.2.1 a.toNatClampNeg = some r) (hQ : Q (.inl (some (.int (skV s.2.2.2.1 r c s.2.2.1.toInt.toNat)))) w) : WP (MX3_seekNow g) Q (0, [some (.ref y), some (.int a), some (.int c), none, none], [], w, 0, 0) := by
  repeat' first
    | with_reducible assumption
    | with_reducible refine And.intro ?_ ?_
    | with_reducible exact vpi6 (by assumption) (by assumption)
    | with_reducible exact vpi8 (by assumption) (by assumption)
    | with_reducible exact trivial
    | with_reducible exact absurd (by assumption) n10'
    | with_reducible exact n00x (by assumption)
    | ((with_reducible refine isWP (pc := 5) ?_); exact flX3_seekNow_5 hM k e hQ _ 0 _ _ (Nat.zero_add _) (by decide) (by decide))
    | simp only [eX3_seekNow_0, eX3_seekNow_1, eX3_seekNow_2, eX3_seekNow_3, eX3_seekNow_7, eX3_seekNow_7N, eX3_seekNow_8, eX3_seekNow_11, eX3_seekNow_14, eX3_seekNow_17, eX3_seekNow_17N, eX3_seekNow_18, eX3_seekNow_21, eX3_seekNow_23, eX3_seekNow_26N, eX3_seekNow_26R, eX3_seekNow_29, eX3_seekNow_29N, eX3_seekNow_30, eX3_seekNow_33, eX3_seekNow_34, eX3_seekNow_37N, eX3_seekNow_37R, eX3_seekNow_40RR, eX3_seekNow_40NR, eX3_seekNow_40RN, eX3_seekNow_40NN, eX3_seekNow_43, eX3_seekNow_46, eX3_seekNow_47, eX3_seekNow_50, eX3_seekNow_51, eX3_seekNow_52, eX3_seekNow_55, eX3_seekNow_57, eX3_seekNow_58, eX3_seekNow_61, eX3_seekNow_64, eX3_seekNow_65, lgp, lgn, lgz, i10, i00, if_true, if_false, eq_self, not_true, not_false_eq_true, m10, n4e, upw2q, rv0, rv1, rv2, rv3, lmi, lmx, ite_le, n45, n54, true_or, or_true, false_or, or_false, false_and, and_false, kx_l, kx_r, go_s, gl_s, gi_s, gb_s2, gb_s3, gq_s, wt_nil, wt_int, wt_long, wt_ref, wt_null, nl_int, nl_long, nl_ref, nl_null, nl_none, rf_n, rf_s, rf_st, tl_s, tl_n, g0, gS, ex1, nb_b, nb_0, nb_1, nf_i, nf_l, nf_ra, nf_ro, nf_na, nf_no, nf_b0, nf_z0, t45_4, t45_5, true_and, and_true, List.set_cons_zero, List.set_cons_succ, List.length_cons, List.length_nil, rd_s, upw_s, ne_eq, not_false_eq_true, Nat.zero_add, Nat.add_zero]
    | with_reducible refine itx (fun _ => ?_) (fun _ => ?_)
    | split
    | with_reducible intro _
    | omega
set_option maxHeartbeats 4000000 in
theorem fX3_seek {a0 a1 : Int32} (hM : MS g w0 y nM kd th s w) (hX : ¬ (okC a0) → ∀ w', MS g w0 y nM kd 1 s w' → Q (.inl (some (.int 0))) w') (hS : okC a0 → s.2.1 a0.toNatClampNeg = none → ∀ w', MS g w0 y nM kd 2 s w' → Q (.inl (some (.int 0))) w') (hQ : okC a0 → ∀ r, s.2.1 a0.toNatClampNeg = some r → ∀ w', MS g w0 y nM kd 0 s w' → Q (.inl (some (.int (skV s.2.2.2.1 r a1 s.2.2.1.toInt.toNat)))) w') : WP (MX3_seek g) Q (0, [some (.ref y), some (.int a0), some (.int a1)], [], w, 0, 0) := by
  repeat' first
    | with_reducible assumption
    | with_reducible refine And.intro ?_ ?_
    | with_reducible exact vpi6 (by assumption) (by assumption)
    | with_reducible exact vpi8 (by assumption) (by assumption)
    | with_reducible exact trivial
    | with_reducible exact absurd (by assumption) n10'
    | with_reducible exact n00x (by assumption)
    | with_reducible exact hX (fun h => absurd h (by assumption)) _ (by assumption)
    | with_reducible exact hS (by assumption) (by assumption) _ (by assumption)
    | with_reducible refine fX3_isNone (by assumption) (fun _ w1 h1 => ?_) (fun _ _ w1 h1 => ?_) (fun ka r e1 w1 h1 => ?_)
    | with_reducible refine go_S (by assumption) (fun _ _ hY => ?_)
    | with_reducible refine fX3_seekNow h1 ka e1 ?_
    | with_reducible exact hQ ka r e1 _ h1
    | simp only [eX3_seek_0, eX3_seek_0N, eX3_seek_1, eX3_seek_2, eX3_seek_5, eX3_seek_8, eX3_seek_9, eX3_seek_12, eX3_seek_12N, eX3_seek_13, eX3_seek_14, eX3_seek_15, eX3_seek_18, lgp, lgn, lgz, i10, i00, if_true, if_false, eq_self, not_true, not_false_eq_true, m10, n4e, upw2q, rv0, rv1, rv2, rv3, lmi, lmx, ite_le, n45, n54, true_or, or_true, false_or, or_false, false_and, and_false, kx_l, kx_r, go_s, gl_s, gi_s, gb_s2, gb_s3, gq_s, wt_nil, wt_int, wt_long, wt_ref, wt_null, nl_int, nl_long, nl_ref, nl_null, nl_none, rf_n, rf_s, rf_st, tl_s, tl_n, g0, gS, ex1, nb_b, nb_0, nb_1, nf_i, nf_l, nf_ra, nf_ro, nf_na, nf_no, nf_b0, nf_z0, t45_4, t45_5, true_and, and_true, List.set_cons_zero, List.set_cons_succ, List.length_cons, List.length_nil, rd_s, upw_s, ne_eq, not_false_eq_true, Nat.zero_add, Nat.add_zero]
    | with_reducible refine itx (fun _ => ?_) (fun _ => ?_)
    | split
    | with_reducible intro _
    | omega
set_option maxHeartbeats 4000000 in
theorem fX3_lift {a0 : Int32} (hM : MS g w0 y nM kd th s w) (hX : ¬ (okC a0) → ∀ w', MS g w0 y nM kd 1 s w' → Q (.inl (some (.int 0))) w') (hS : okC a0 → s.2.1 a0.toNatClampNeg = none → ∀ w', MS g w0 y nM kd 2 s w' → Q (.inl (some (.int 0))) w') (hN : okC a0 → ∀ r, s.2.1 a0.toNatClampNeg = some r → (∀ i, i < s.2.2.1.toInt.toNat → ¬ mP r (s.2.2.2.1 i)) → ∀ w', MS g w0 y nM kd 0 s w' → Q (.inl (some (.int 0))) w') (hQ : okC a0 → ∀ r, s.2.1 a0.toNatClampNeg = some r → ∀ i, i < s.2.2.1.toInt.toNat → mP r (s.2.2.2.1 i) → (∀ k, k < i → ¬ mP r (s.2.2.2.1 k)) → ∀ w', MS g w0 y nM kd 0 (sP_ s (s.2.2.1 - 1) (rmv s.2.2.2.1 i)) w' → Q (.inl (some (.int 1))) w') : WP (MX3_lift g) Q (0, [some (.ref y), some (.int a0), none], [], w, 0, 0) := by
  obtain ⟨hn1, hn2⟩ := hM.nn
  repeat' first
    | with_reducible assumption
    | with_reducible refine And.intro ?_ ?_
    | with_reducible exact vpi6 (by assumption) (by assumption)
    | with_reducible exact vpi8 (by assumption) (by assumption)
    | with_reducible exact trivial
    | with_reducible exact absurd (by assumption) n10'
    | with_reducible exact n00x (by assumption)
    | with_reducible exact hX (fun h => absurd h (by assumption)) _ (by assumption)
    | with_reducible exact hS (by assumption) (by assumption) _ (by assumption)
    | with_reducible refine fX3_isNone (by assumption) (fun _ w1 h1 => ?_) (fun _ _ w1 h1 => ?_) (fun ka r e1 w1 h1 => ?_)
    | with_reducible refine go_S (by assumption) (fun _ _ hY => ?_)
    | with_reducible exact MS.gC (by assumption) (by assumption)
    | with_reducible exact MS.gP (by assumption) (by assumption)
    | ((with_reducible refine fX3_seekNow h1 ka e1 ?_); rcases fstO (f := s.2.2.2.1) (r := r) s.2.2.1.toInt.toNat with hno | ⟨i, hi, hm, hf⟩)
    | (rw [skV_0 hno])
    | (rw [skV_F rfl hm hf (by omega) hi])
    | with_reducible exact absurd rfl (by assumption)
    | (exact absurd (by assumption) (oN9 (i := i) (by omega)))
    | with_reducible refine sRemF h1 (by assumption) hi (fun _ w3 h3 => ?_)
    | with_reducible refine fX3_one (Or.inl rfl) ?_
    | with_reducible refine fX3_one (Or.inr rfl) ?_
    | with_reducible exact hN ka r e1 hno _ h1
    | with_reducible exact hQ ka r e1 i hi hm hf _ h3
    | simp only [eX3_lift_0, eX3_lift_0N, eX3_lift_1, eX3_lift_2, eX3_lift_5, eX3_lift_8, eX3_lift_9, eX3_lift_10, eX3_lift_10N, eX3_lift_11, eX3_lift_12, eX3_lift_13, eX3_lift_16, eX3_lift_17, eX3_lift_18, eX3_lift_19, eX3_lift_22, eX3_lift_22N, eX3_lift_23, eX3_lift_26, eX3_lift_27, eX3_lift_30, eX3_lift_30R, eX3_lift_30N, eX3_lift_31, eX3_lift_32, eX3_lift_33, eX3_lift_36, eX3_lift_37, eX3_lift_40, eX3_lift_41, eX3_lift_44, lgp, lgn, lgz, i10, i00, if_true, if_false, eq_self, not_true, not_false_eq_true, m10, n4e, upw2q, rv0, rv1, rv2, rv3, lmi, lmx, m11, ite_le, n45, n54, true_or, or_true, false_or, or_false, false_and, and_false, kx_l, kx_r, go_s, gl_s, gi_s, gb_s2, gb_s3, gq_s, wt_nil, wt_int, wt_long, wt_ref, wt_null, nl_int, nl_long, nl_ref, nl_null, nl_none, rf_n, rf_s, rf_st, tl_s, tl_n, g0, gS, ex1, nb_b, nb_0, nb_1, nf_i, nf_l, nf_ra, nf_ro, nf_na, nf_no, nf_b0, nf_z0, t45_4, t45_5, true_and, and_true, List.set_cons_zero, List.set_cons_succ, List.length_cons, List.length_nil, rd_s, upw_s, ne_eq, not_false_eq_true, Nat.zero_add, Nat.add_zero]
    | with_reducible refine itx (fun _ => ?_) (fun _ => ?_)
    | split
    | with_reducible intro _
    | omega
set_option maxHeartbeats 4000000 in
theorem fX3_pick {a0 a1 : Int32} (hM : MS g w0 y nM kd th s w) (hX : ¬ (okP s.2.2.1 a0 ∧ okC a1) → ∀ w', MS g w0 y nM kd 1 s w' → Q (.inl (some (.int 0))) w') (hN : okP s.2.2.1 a0 → okC a1 → s.2.1 a1.toNatClampNeg = none → ∀ w', MS g w0 y nM kd 0 (sC s (va_up s.2.1 a1.toNatClampNeg (some (s.2.2.2.1 a0.toNatClampNeg)))) w' → Q (.inl (some (.int 0))) w') (hS : okP s.2.2.1 a0 → okC a1 → ∀ r, s.2.1 a1.toNatClampNeg = some r → ∀ w', MS g w0 y nM kd 0 (sC s (va_up s.2.1 a1.toNatClampNeg (some (s.2.2.2.1 a0.toNatClampNeg)))) w' → Q (.inl (some (.int 1))) w') : WP (MX3_pick g) Q (0, [some (.ref y), some (.int a0), some (.int a1), none], [], w, 0, 0) := by
  repeat' first
    | with_reducible assumption
    | with_reducible refine And.intro ?_ ?_
    | with_reducible exact vpi6 (by assumption) (by assumption)
    | with_reducible exact vpi8 (by assumption) (by assumption)
    | with_reducible exact trivial
    | with_reducible exact absurd (by assumption) n10'
    | with_reducible exact n00x (by assumption)
    | ((with_reducible refine isQ (Q := Q) ?_); exact hX (fun h => nokP hM.n0 (by assumption) h.1) _ (by assumption))
    | with_reducible exact hX (fun h => absurd h.2 (by assumption)) _ (by assumption)
    | with_reducible exact hN ⟨by assumption, pz_lt hM.n0 (by assumption)⟩ (by assumption) (by assumption) _ h3
    | with_reducible exact hS ⟨by assumption, pz_lt hM.n0 (by assumption)⟩ (by assumption) _ (by assumption) _ h3
    | with_reducible refine fX3_isNoCard (fun _ => ?_) (fun _ => ?_)
    | with_reducible refine fX3_isIn (fun _ _ => ?_) (fun _ => ?_)
    | with_reducible refine fX3_start (by assumption) (by decide) (fun _ w1 h1 => ?_) (fun _ w1 h1 => ?_)
    | with_reducible refine go_S (by assumption) (fun _ _ hY => ?_)
    | with_reducible exact MS.gC (by assumption) (by assumption)
    | with_reducible exact MS.gP (by assumption) (by assumption)
    | with_reducible refine fX3_isBare (by assumption) (by assumption) (fun _ => ?_) (fun _ _ => ?_)
    | with_reducible refine sSizeF (by assumption) (by assumption) ?_
    | with_reducible refine sGetPF h1 (by assumption) ⟨by assumption, pz_lt hM.n0 (by assumption)⟩ (fun _ hb => ?_)
    | with_reducible exact rowA.ca (by assumption)
    | with_reducible refine fX3_one (Or.inl rfl) ?_
    | with_reducible refine fX3_one (Or.inr rfl) ?_
    | with_reducible refine sSetFR h1 (by assumption) hb (by assumption) (fun w3 h3 => ?_) (fun _ w3 h3 => ?_)
    | simp only [eX3_pick_0, eX3_pick_0N, eX3_pick_1, eX3_pick_2, eX3_pick_3, eX3_pick_3N, eX3_pick_4, eX3_pick_7, eX3_pick_10, eX3_pick_11, eX3_pick_12, eX3_pick_15, eX3_pick_18, eX3_pick_19, eX3_pick_22, eX3_pick_25, eX3_pick_26, eX3_pick_29, eX3_pick_30, eX3_pick_31, eX3_pick_34, eX3_pick_37, eX3_pick_38, eX3_pick_39, eX3_pick_39N, eX3_pick_40, eX3_pick_41, eX3_pick_44, eX3_pick_47, eX3_pick_48, eX3_pick_51, eX3_pick_52, eX3_pick_55, eX3_pick_56, eX3_pick_56N, eX3_pick_57, eX3_pick_60, eX3_pick_61, eX3_pick_61N, eX3_pick_62, eX3_pick_65, eX3_pick_66, eX3_pick_69N, eX3_pick_69R, eX3_pick_72R, eX3_pick_72N, eX3_pick_75, eX3_pick_75R, eX3_pick_75N, eX3_pick_76, eX3_pick_77, lgp, lgn, lgz, i10, i00, if_true, if_false, eq_self, not_true, not_false_eq_true, m10, n4e, upw2q, rv0, rv1, rv2, rv3, lmi, lmx, ite_le, n45, n54, true_or, or_true, false_or, or_false, false_and, and_false, kx_l, kx_r, go_s, gl_s, gi_s, gb_s2, gb_s3, gq_s, wt_nil, wt_int, wt_long, wt_ref, wt_null, nl_int, nl_long, nl_ref, nl_null, nl_none, rf_n, rf_s, rf_st, tl_s, tl_n, g0, gS, ex1, nb_b, nb_0, nb_1, nf_i, nf_l, nf_ra, nf_ro, nf_na, nf_no, nf_b0, nf_z0, t45_4, t45_5, true_and, and_true, List.set_cons_zero, List.set_cons_succ, List.length_cons, List.length_nil, rd_s, upw_s, ne_eq, not_false_eq_true, Nat.zero_add, Nat.add_zero]
    | with_reducible refine itx (fun _ => ?_) (fun _ => ?_)
    | split
    | with_reducible intro _
    | omega
end
end
/-! 75.mf9.lean.txt -/
section
section
variable {g : RO} {Q : Ot → Hw → Prop} {w0 w : Hw} {y nM : Nat} {kd th : Int32} {s : AS}
/-! MODEL, FUNCTIONAL, 10: the pile swept and turned -/
theorem go_SP {w1 : Hw} {L' D' c' : Nat} {n' : Int32} {h' : Nat → Option Nat} {K : List Value → Prop} (k : ext g w1 w) (hM : MS g w0 y nM kd th s w1) (hl : LL g w L' D' c' n' h') (hr : ∀ i b, h' i = some b → isRow w b) (hn : n'.toInt ≤ 12) (hL : w1 L' = none) (hD : w1 D' = none) (kk : ∀ (cL pL : Nat), (∀ F : Nat → R4, (∀ i : Nat, (i : Int) < n'.toInt → ∃ b, h' i = some b ∧ rowA w b (F i)) → MS g w0 y nM kd th (sP_ s n' F) (upw w y (.inr (7, [.int th, .ref nM, .ref cL, .ref L', .int s.2.2.2.2.1, .int kd, .int s.2.2.2.2.2])))) → K [.int th, .ref nM, .ref cL, .ref pL, .int s.2.2.2.2.1, .int kd, .int s.2.2.2.2.2]) : go (w y) 7 K := by
  obtain ⟨⟨cL, pL, D1, D2, c1, c2, h1, h2, a1, a2, a3, a4, a5, a6, a7, a8, a9, b1', b2'⟩, hF⟩ := hM
  have b1 := k.1 _ _ a1
  have b2 := k.1 _ _ a2
  rw [b1, go_s]
  have hn0 : ∀ {a : Nat} {o : Ob}, w1 a = some o → a ≠ L' := fun e z => by
    rw [z, hL] at e
    cases e
  have hd0 : ∀ {a : Nat} {o : Ob}, w1 a = some o → a ≠ D' := fun e z => by
    rw [z, hD] at e
    cases e
  obtain ⟨mcc, hcL⟩ := a3.1
  refine kk _ _ (fun F hH => ⟨⟨cL, L', D1, D', c1, c', h1, h', upw_s _ _ _, ?_, (a3.ext k).up b1 (fun _ e => by cases e) (fun _ e => by cases e), fun i b z => isRow_up ((a4 i b z).ext k) b1 (fun _ e => by cases e), hl.up b1 (fun _ e => by cases e) (fun _ e => by cases e), fun i b z => isRow_up (hr i b z) b1 (fun _ e => by cases e), hn, hn0 hcL, ?_, fun i hi => (b1' i hi).mp fun _ _ z => rowA_up (z.ext k) b1 (fun _ e => by cases e), fun i hi => (hH i hi).imp fun _ z => ⟨z.1, rowA_up z.2 b1 (fun _ e => by cases e)⟩⟩, (hF.ext k).up b1 (Or.inr rfl)⟩)
  · rw [upw_n (ne_of a2 a1 (fun e => by cases e))]
    exact b2
  · rcases a3.2.1 with ⟨z, -⟩ | ⟨z, -⟩
    · exact hd0 z
    · have k2 := a3.2.2.2
      have e6 : (6 : Int32).toInt = 6 := rfl
      omega
theorem nn0F {F : Nat → R4} : ∀ i : Nat, (i : Int) < (0 : Int32).toInt → ∃ b, (fun _ => none : Nat → Option Nat) i = some b ∧ rowA w b (F i) := fun i h => by
  have e : (0 : Int32).toInt = 0 := rfl
  omega
set_option maxHeartbeats 4000000 in
theorem fX3_sweep  (hM : MS g w0 y nM kd th s w) (hE : EG g w0) (hS : SG g) (hQ : ∀ w', (∀ F, MS g w0 y nM kd 0 (sP_ s 0 F) w') → Q (.inl (some (.int s.2.2.1))) w') : WP (MX3_sweep g) Q (0, [some (.ref y), none], [], w, 0, 0) := by
  obtain ⟨cL, pL, hy, ry⟩ := hM.1.op
  obtain ⟨w1, hw1⟩ : ∃ w1, upw w y (.inr (7, [.int 0, .ref nM, .ref cL, .ref pL, .int s.2.2.2.2.1, .int kd, .int s.2.2.2.2.2])) = w1 := ⟨_, rfl⟩
  have hM1 : MS g w0 y nM kd 0 s w1 := by
    rw [← hw1]
    exact hM.set hy
  have hy1 : w1 y = some (.inr (7, [.int 0, .ref nM, .ref cL, .ref pL, .int s.2.2.2.2.1, .int kd, .int s.2.2.2.2.2])) := by
    rw [← hw1]
    exact upw_s _ _ _
  have hY1 : isY w1 y nM cL pL := ⟨_, _, _, _, hy1⟩
  repeat' first
    | with_reducible assumption
    | with_reducible refine And.intro ?_ ?_
    | with_reducible exact vpi6 (by assumption) (by assumption)
    | with_reducible exact vpi8 (by assumption) (by assumption)
    | with_reducible exact trivial
    | with_reducible exact absurd (by assumption) n10'
    | with_reducible exact n00x (by assumption)
    | with_reducible refine go_S hM1 (fun _ _ hY => ?_)
    | with_reducible exact MS.gP hM1 hY1
    | with_reducible refine sSizeF hM1 hY1 ?_
    | with_reducible refine sInitF (hM1.mm.eg hE) (by assumption) (fun D9 w9 hk9 hl9 hd9 => ?_)
    | with_reducible refine go_SP hk9 hM1 hl9 nr0 n00' (rd_none (by assumption)) hd9 (fun _ _ hF => ?_)
    | ((with_reducible refine isQ (Q := Q) ?_); exact hQ _ (fun F => hF F nn0F))
    | simp only [eX3_sweep_0, eX3_sweep_0N, eX3_sweep_1, eX3_sweep_2, eX3_sweep_5, eX3_sweep_5N, eX3_sweep_6, eX3_sweep_9, eX3_sweep_12, eX3_sweep_13, eX3_sweep_13N, eX3_sweep_14, eX3_sweep_17, eX3_sweep_17R, eX3_sweep_18, eX3_sweep_21, eX3_sweep_24, eX3_sweep_25, lgp, lgn, lgz, i10, i00, if_true, if_false, eq_self, not_true, not_false_eq_true, m10, n4e, upw2q, rv0, rv1, rv2, rv3, lmi, lmx, hy, hw1, tyX3, ite_le, n45, n54, true_or, or_true, false_or, or_false, false_and, and_false, kx_l, kx_r, go_s, gl_s, gi_s, gb_s2, gb_s3, gq_s, wt_nil, wt_int, wt_long, wt_ref, wt_null, nl_int, nl_long, nl_ref, nl_null, nl_none, rf_n, rf_s, rf_st, tl_s, tl_n, g0, gS, ex1, nb_b, nb_0, nb_1, nf_i, nf_l, nf_ra, nf_ro, nf_na, nf_no, nf_b0, nf_z0, t45_4, t45_5, true_and, and_true, List.set_cons_zero, List.set_cons_succ, List.length_cons, List.length_nil, rd_s, upw_s, ne_eq, not_false_eq_true, Nat.zero_add, Nat.add_zero]
    | with_reducible refine itx (fun _ => ?_) (fun _ => ?_)
    | split
    | with_reducible intro _
    | omega
set_option maxHeartbeats 4000000 in
theorem flX3_turn_x {w1 : Hw} {pL D2 c2 q L : Nat} {n mc : Int32} {h2 : Nat → Option Nat} (hE : EG g w1) (hS : SG g) (hM : MS g w0 y nM kd 0 s w1) (en : n = s.2.2.1) (hL : w1 pL = some (.inr (3, [.int mc, .ref D2, .int n]))) (hl : LL g w1 pL D2 c2 n h2) (hr : ∀ i b, h2 i = some b → isRow w1 b) (hnn : ∀ i : Nat, (i : Int) < n.toInt → ∃ b, h2 i = some b ∧ rowA w1 b (s.2.2.2.1 i)) (hn : n.toInt ≤ 12) (hq : w1 q = none) (gq : g.2 q = none) (hL' : w1 L = none) (hQ : ∀ w', MS g w0 y nM kd 0 (sP_ s s.2.2.1 (rev s.2.2.2.1 s.2.2.1.toInt.toNat)) w' → Q (.inl (some (.int s.2.2.1))) w') : ∀ (c lr : Int32) (o3 : Option Value) (w' : Hw) (D' c' : Nat) (h' : Nat → Option Nat) (k m : Nat), ext g w1 w' → w' q = some (.inr (2, [.int c, .int lr, .int mc, .ref pL])) → LL g w' L D' c' c h' → (∀ i b, h' i = some b → isRow w' b) → (∀ i : Nat, (i : Int) < c.toInt → ∃ b, h' i = some b ∧ rowA w1 b (s.2.2.2.1 (c.toInt.toNat - 1 - i))) → w1 D' = none → c = n → k ≤ 14 → m ≤ 187 → WP (MX3_turn g) Q (21, [some (.ref y), some (.ref L), some (.ref q), o3], [], w', k, m) := by
  intro c lr o3 w' D' c' h' k m hk hqw hll hrw hnn' hD' hcn km mm
  subst hcn
  subst en
  have hrr : ∀ i : Nat, (i : Int) < s.2.2.1.toInt → ∃ b, h' i = some b ∧ rowA w' b (rev s.2.2.2.1 s.2.2.1.toInt.toNat i) := fun i hi => (hnn' i hi).imp fun _ z => ⟨z.1, z.2.ext hk⟩
  have rq := rd_e (g := g) hqw
  rw [eX3_turn_21]
  repeat' first
    | with_reducible assumption
    | with_reducible refine And.intro ?_ ?_
    | with_reducible refine sJx35411_hasNext_aae02 (cap := 0) hqw (hk.k1 hL) (fun _ => ?_) (fun h => absurd rfl h)
    | with_reducible refine go_SP hk hM hll hrw hn hL' hD' (fun _ _ hF => ?_)
    | with_reducible refine go_S (hF _ hrr) (fun _ _ hY => ?_)
    | with_reducible exact MS.gP (hF _ hrr) (by first | assumption | exact isY.s)
    | with_reducible refine sSizeF (hF _ hrr) (by first | assumption | exact isY.s) ?_
    | (exact hQ _ (hF _ hrr))
    | simp only [eX3_turn_0, eX3_turn_0N, eX3_turn_1, eX3_turn_2, eX3_turn_5, eX3_turn_8, eX3_turn_8R, eX3_turn_9, eX3_turn_12, eX3_turn_12N, eX3_turn_13, eX3_turn_13N, eX3_turn_14, eX3_turn_17, eX3_turn_20, eX3_turn_20N, eX3_turn_22, eX3_turn_27, eX3_turn_30, eX3_turn_30N, eX3_turn_31, eX3_turn_36N, eX3_turn_36R, eX3_turn_39, eX3_turn_39N, eX3_turn_40, eX3_turn_40N, eX3_turn_41, eX3_turn_42, eX3_turn_42N, eX3_turn_43R, eX3_turn_43N, eX3_turn_46, eX3_turn_49, eX3_turn_49N, eX3_turn_50, eX3_turn_50N, eX3_turn_51, eX3_turn_54, eX3_turn_54N, eX3_turn_55, eX3_turn_58, eX3_turn_61, ite_le, n45, n54, true_or, or_true, false_or, or_false, false_and, and_false, kx_l, kx_r, go_s, gl_s, gi_s, gb_s2, gb_s3, gq_s, wt_nil, wt_int, wt_long, wt_ref, wt_null, nl_int, nl_long, nl_ref, nl_null, nl_none, rf_n, rf_s, rf_st, tl_s, tl_n, g0, gS, ex1, nb_b, nb_0, nb_1, nf_i, nf_l, nf_ra, nf_ro, nf_na, nf_no, nf_b0, nf_z0, t45_4, t45_5, true_and, and_true, List.set_cons_zero, List.set_cons_succ, List.length_cons, List.length_nil, rd_s, upw_s, ne_eq, not_false_eq_true, Nat.zero_add, Nat.add_zero, if_true, if_false, eq_self, m10, upw2q, rq, tyX3]
    | with_reducible refine itx (fun _ => ?_) (fun _ => ?_)
    | split
    | with_reducible intro _
    | omega
set_option maxHeartbeats 4000000 in
theorem flX3_turn_21 {w1 : Hw} {pL D2 c2 q L : Nat} {n mc : Int32} {h2 : Nat → Option Nat} (hE : EG g w1) (hS : SG g) (hM : MS g w0 y nM kd 0 s w1) (en : n = s.2.2.1) (hL : w1 pL = some (.inr (3, [.int mc, .ref D2, .int n]))) (hl : LL g w1 pL D2 c2 n h2) (hr : ∀ i b, h2 i = some b → isRow w1 b) (hnn : ∀ i : Nat, (i : Int) < n.toInt → ∃ b, h2 i = some b ∧ rowA w1 b (s.2.2.2.1 i)) (hn : n.toInt ≤ 12) (hq : w1 q = none) (gq : g.2 q = none) (hL' : w1 L = none) (hQ : ∀ w', MS g w0 y nM kd 0 (sP_ s s.2.2.1 (rev s.2.2.2.1 s.2.2.1.toInt.toNat)) w' → Q (.inl (some (.int s.2.2.1))) w') : ∀ (d : Nat) (c lr : Int32) (o3 : Option Value) (w' : Hw) (D' c' : Nat) (h' : Nat → Option Nat) (k m : Nat), ext g w1 w' → w' q = some (.inr (2, [.int c, .int lr, .int mc, .ref pL])) → LL g w' L D' c' c h' → (∀ i b, h' i = some b → isRow w' b) → (∀ i : Nat, (i : Int) < c.toInt → ∃ b, h' i = some b ∧ rowA w1 b (s.2.2.2.1 (c.toInt.toNat - 1 - i))) → w1 D' = none → n.toInt - c.toInt ≤ (d : Int) → c.toInt ≤ n.toInt → (k : Int) ≤ 2 + c.toInt → (m : Int) ≤ 7 + 15 * c.toInt → WP (MX3_turn g) Q (21, [some (.ref y), some (.ref L), some (.ref q), o3], [], w', k, m) := by
  intro d
  induction d with
  | zero =>
    intro c lr o3 w' D' c' h' k m hk hqw hll hrw hnn' hD' hd hc km mm
    exact flX3_turn_x hE hS hM en hL hl hr hnn hn hq gq hL' hQ c lr o3 w' D' c' h' k m hk hqw hll hrw hnn' hD' (Int32.toInt_inj.mp (by omega)) (by omega) (by omega)
  | succ d ih =>
    intro c lr o3 w' D' c' h' k m hk hqw hll hrw hnn' hD' hd hc km mm
    by_cases hcn : c = n
    · exact flX3_turn_x hE hS hM en hL hl hr hnn hn hq gq hL' hQ c lr o3 w' D' c' h' k m hk hqw hll hrw hnn' hD' hcn (by rw [hcn] at km; omega) (by rw [hcn] at mm; omega)
    have c0 := hll.n0
    have clt := itl hcn hc
    have ce := its c0 hcn hc (by omega)
    obtain ⟨b, hb, hbr⟩ := hnn c.toNatClampNeg (by
      have t : c.toNatClampNeg = c.toInt.toNat := rfl
      omega)
    have rq := rd_e (g := g) hqw
    obtain ⟨w2, hw2⟩ : ∃ w2, upw w' q (.inr (2, [.int (c + 1), .int c, .int mc, .ref pL])) = w2 := ⟨_, rfl⟩
    have hk2 : ext g w1 w2 := by
      rw [← hw2]
      refine ⟨fun a o e => ?_, fun a o e1 e2 => ?_⟩
      · rw [upw_n]
        · exact hk.1 a o e
        · rintro rfl
          rw [hq] at e
          cases e
      · rw [upw_n]
        · exact hk.2 a o e1 e2
        · rintro rfl
          rw [gq] at e1
          cases e1
    have hq2 : w2 q = some (.inr (2, [.int (c + 1), .int c, .int mc, .ref pL])) := by
      rw [← hw2]
      exact upw_s _ _ _
    have hll2 : LL g w2 L D' c' c h' := by
      rw [← hw2]
      exact hll.up hqw (fun _ e => by cases e) (fun _ e => by cases e)
    have hrw2 : ∀ i b, h' i = some b → isRow w2 b := fun i b z => by
      rw [← hw2]
      exact isRow_up (hrw i b z) hqw (fun _ e => by cases e)
    have hb2 : isRow w2 b := (hr _ _ hb).ext hk2
    have fin : ∀ (w3 : Hw) (k' m' : Nat), LPo g w2 w3 L D' (c + 1) (HIn h' c.toNatClampNeg (0 : Int32).toNatClampNeg (some b)) → (k' : Int) ≤ 3 + c.toInt → (m' : Int) ≤ 22 + 15 * c.toInt → WP (MX3_turn g) Q (21, [some (.ref y), some (.ref L), some (.ref q), some (.ref b)], [], w3, k', m') := by
      intro w3 k' m' hlp kk' mm'
      obtain ⟨D3, c3, h3, l1, l2, f1, f2, fD, hh⟩ := hlp
      have nD : ∀ {a : Nat} {o : Ob}, w1 a = some o → a ≠ D' := fun e z => by
        rw [z, hD'] at e
        cases e
      have nL : ∀ {a : Nat} {o : Ob}, w1 a = some o → a ≠ L := fun e z => by
        rw [z, hL'] at e
        cases e
      have hk3 : ext g w1 w3 := ⟨fun a o e => f1 a o (hk2.1 a o e) (nL e) (nD e), fun a o e1 e2 => f2 a o e1 (hk2.2 a o e1 e2)⟩
      have q1 : q ≠ L := by
        obtain ⟨mc2, e⟩ := hll2.1
        exact ne_of hq2 e (fun e => by cases e)
      have q2 : q ≠ D' := by
        rcases hll2.2.1 with ⟨e, -⟩ | ⟨-, -, e, -⟩
        · exact ne_of hq2 e (fun e => by cases e)
        · rintro rfl
          rw [hq2] at e
          cases e
      refine ih _ _ _ w3 D3 c3 h3 _ _ hk3 (f1 _ _ hq2 q1 q2) l1 l2 (fun i hi => ?_) ?_ (by omega) (by omega) (by omega) (by omega)
      · have t : c.toNatClampNeg = c.toInt.toNat := rfl
        have t0 : (0 : Int32).toNatClampNeg = 0 := rfl
        rw [t0] at hh
        rcases Nat.eq_zero_or_pos i with rfl | hi0
        · refine ⟨b, hh.2.1, ?_⟩
          have ei : (c + 1).toInt.toNat - 1 - 0 = c.toNatClampNeg := by omega
          rw [ei]
          exact hbr
        · obtain ⟨j, rfl⟩ : ∃ j, i = j + 1 := ⟨i - 1, by omega⟩
          rw [hh.2.2 j (Nat.zero_le _) (by omega)]
          have ei : (c + 1).toInt.toNat - 1 - (j + 1) = c.toInt.toNat - 1 - j := by omega
          rw [ei]
          exact hnn' j (by omega)
      · rcases fD with rfl | ⟨fD, -⟩
        · exact hD'
        · cases hw : w1 D3 with
          | none => rfl
          | some o =>
            rw [hk2.1 _ _ hw] at fD
            cases fD
    rw [eX3_turn_21]
    repeat' first
      | with_reducible assumption
      | with_reducible refine And.intro ?_ ?_
      | with_reducible exact fin _ _ _ (by assumption) (by omega) (by omega)
      | with_reducible refine sJx35411_hasNext_aae02 (cap := 0) hqw (hk.k1 hL) (fun h => absurd h hcn) (fun _ => ?_)
      | with_reducible refine sNext1 hqw (hk.k1 hL) (hl.ext hk).rD c0 clt hl.nc hl.c15 hb ?_
      | with_reducible exact isRow.ca hb2
      | with_reducible exact hll2.gt
      | with_reducible refine sJx4a65c_add_7a177R hb2 (hE.ext hk2) hS hll2 hrw2 (by decide) (by have e : (0 : Int32).toInt = 0 := rfl; omega) (by omega) (fun _ _ => ?_)
      | simp only [eX3_turn_0, eX3_turn_0N, eX3_turn_1, eX3_turn_2, eX3_turn_5, eX3_turn_8, eX3_turn_8R, eX3_turn_9, eX3_turn_12, eX3_turn_12N, eX3_turn_13, eX3_turn_13N, eX3_turn_14, eX3_turn_17, eX3_turn_20, eX3_turn_20N, eX3_turn_22, eX3_turn_27, eX3_turn_30, eX3_turn_30N, eX3_turn_31, eX3_turn_36N, eX3_turn_36R, eX3_turn_39, eX3_turn_39N, eX3_turn_40, eX3_turn_40N, eX3_turn_41, eX3_turn_42, eX3_turn_42N, eX3_turn_43R, eX3_turn_43N, eX3_turn_46, eX3_turn_49, eX3_turn_49N, eX3_turn_50, eX3_turn_50N, eX3_turn_51, eX3_turn_54, eX3_turn_54N, eX3_turn_55, eX3_turn_58, eX3_turn_61, ite_le, n45, n54, true_or, or_true, false_or, or_false, false_and, and_false, kx_l, kx_r, go_s, gl_s, gi_s, gb_s2, gb_s3, gq_s, wt_nil, wt_int, wt_long, wt_ref, wt_null, nl_int, nl_long, nl_ref, nl_null, nl_none, rf_n, rf_s, rf_st, tl_s, tl_n, g0, gS, ex1, nb_b, nb_0, nb_1, nf_i, nf_l, nf_ra, nf_ro, nf_na, nf_no, nf_b0, nf_z0, t45_4, t45_5, true_and, and_true, List.set_cons_zero, List.set_cons_succ, List.length_cons, List.length_nil, rd_s, upw_s, ne_eq, not_false_eq_true, Nat.zero_add, Nat.add_zero, if_true, if_false, eq_self, m10, rq, hw2]
      | with_reducible refine itx (fun _ => ?_) (fun _ => ?_)
      | split
      | with_reducible intro _
      | omega
set_option maxHeartbeats 4000000 in
theorem fX3_turn  (hM : MS g w0 y nM kd th s w) (hE : EG g w0) (hS : SG g) (hQ : ∀ w', MS g w0 y nM kd 0 (sP_ s s.2.2.1 (rev s.2.2.2.1 s.2.2.1.toInt.toNat)) w' → Q (.inl (some (.int s.2.2.1))) w') : WP (MX3_turn g) Q (0, [some (.ref y), none, none, none], [], w, 0, 0) := by
  obtain ⟨cL, pL, hy, ry⟩ := hM.1.op
  obtain ⟨w1, hw1⟩ : ∃ w1, upw w y (.inr (7, [.int 0, .ref nM, .ref cL, .ref pL, .int s.2.2.2.2.1, .int kd, .int s.2.2.2.2.2])) = w1 := ⟨_, rfl⟩
  have hM1 : MS g w0 y nM kd 0 s w1 := by
    rw [← hw1]
    exact hM.set hy
  have hy1 : w1 y = some (.inr (7, [.int 0, .ref nM, .ref cL, .ref pL, .int s.2.2.2.2.1, .int kd, .int s.2.2.2.2.2])) := by
    rw [← hw1]
    exact upw_s _ _ _
  obtain ⟨D1, D2, c1, c2, h1, h2, a1, a2, a3, a4, a5, a6, a7, a8, a9, b1, b2, hD, hc⟩ := hM1.1.yS ⟨_, _, _, _, hy1⟩
  obtain ⟨mc0, hL1⟩ := a5.1
  have z0 : (0 : Int32).toInt = 0 := rfl
  have n0 := a5.n0
  repeat' first
    | with_reducible assumption
    | with_reducible refine And.intro ?_ ?_
    | with_reducible exact vpi6 (by assumption) (by assumption)
    | with_reducible exact vpi8 (by assumption) (by assumption)
    | with_reducible exact trivial
    | with_reducible exact absurd (by assumption) n10'
    | with_reducible exact n00x (by assumption)
    | with_reducible refine sInitF (hM1.mm.eg hE) (by assumption) (fun D9 w9 hk9 hl9 hd9 => ?_)
    | with_reducible refine go_YE (hk9.k1 hy1) ?_
    | with_reducible exact (a5.ext hk9).gt
    | with_reducible refine sIter1 (a5.ext hk9) (hk9.k1 hL1) (fun q9 hq9 => ?_)
    | ((with_reducible refine isWP (pc := 21) ?_); exact flX3_turn_21 (hM1.mm.eg hE) hS hM1 rfl hL1 a5 a6 b2 a7 (ext_n hk9 (rd_none hq9)) (rd_ro hq9) (rd_none (by assumption)) hQ 70 _ _ _ _ _ _ _ _ _ (ext_up3 hk9 hq9) (upw_s _ _ _) (hl9.nq hq9 _) nr0 nn0F hd9 (by omega) (by omega) (by omega) (by omega))
    | simp only [eX3_turn_0, eX3_turn_0N, eX3_turn_1, eX3_turn_2, eX3_turn_5, eX3_turn_8, eX3_turn_8R, eX3_turn_9, eX3_turn_12, eX3_turn_12N, eX3_turn_13, eX3_turn_13N, eX3_turn_14, eX3_turn_17, eX3_turn_20, eX3_turn_20N, eX3_turn_22, eX3_turn_27, eX3_turn_30, eX3_turn_30N, eX3_turn_31, eX3_turn_36N, eX3_turn_36R, eX3_turn_39, eX3_turn_39N, eX3_turn_40, eX3_turn_40N, eX3_turn_41, eX3_turn_42, eX3_turn_42N, eX3_turn_43R, eX3_turn_43N, eX3_turn_46, eX3_turn_49, eX3_turn_49N, eX3_turn_50, eX3_turn_50N, eX3_turn_51, eX3_turn_54, eX3_turn_54N, eX3_turn_55, eX3_turn_58, eX3_turn_61, lgp, lgn, lgz, i10, i00, if_true, if_false, eq_self, not_true, not_false_eq_true, m10, n4e, upw2q, rv0, rv1, rv2, rv3, lmi, lmx, hy, hw1, ite_le, n45, n54, true_or, or_true, false_or, or_false, false_and, and_false, kx_l, kx_r, go_s, gl_s, gi_s, gb_s2, gb_s3, gq_s, wt_nil, wt_int, wt_long, wt_ref, wt_null, nl_int, nl_long, nl_ref, nl_null, nl_none, rf_n, rf_s, rf_st, tl_s, tl_n, g0, gS, ex1, nb_b, nb_0, nb_1, nf_i, nf_l, nf_ra, nf_ro, nf_na, nf_no, nf_b0, nf_z0, t45_4, t45_5, true_and, and_true, List.set_cons_zero, List.set_cons_succ, List.length_cons, List.length_nil, rd_s, upw_s, ne_eq, not_false_eq_true, Nat.zero_add, Nat.add_zero]
    | with_reducible refine itx (fun _ => ?_) (fun _ => ?_)
    | split
    | with_reducible intro _
    | omega
end
end
