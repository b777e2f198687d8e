/-! 75.mf7.lean.txt -/
section
section
variable {g : RO} {Q : Ot → Hw → Prop} {w0 w : Hw} {y nM : Nat} {kd th : Int32} {s : AS}
theorem rvK {r : R4} {a : Int32} (h : okW a 3) : rV r a.toNatClampNeg = eV r a := rvE h.1 h.2
set_option maxHeartbeats 4000000 in
theorem fX3_same_ {a0 a1 : Int32} (hM : MS g w0 y nM kd th s w) (hX : ¬ (okC a0 ∧ okC a1) → ∀ w', MS g w0 y nM kd 1 s w' → Q (.inl (some (.int 0))) w') (hS : okC a0 → okC a1 → s.2.1 a1.toNatClampNeg = none → ∀ w', MS g w0 y nM kd 2 s w' → Q (.inl (some (.int 0))) w') (hN : okC a0 → okC a1 → ∀ r, s.2.1 a1.toNatClampNeg = some r → s.2.1 a0.toNatClampNeg = none → ∀ w', MS g w0 y nM kd 0 (sC s (va_up s.2.1 a0.toNatClampNeg (some r))) w' → Q (.inl (some (.int (-1)))) w') (hT : okC a0 → okC a1 → ∀ r, s.2.1 a1.toNatClampNeg = some r → ∀ q, s.2.1 a0.toNatClampNeg = some q → mP q r → ∀ w', MS g w0 y nM kd 0 (sC s (va_up s.2.1 a0.toNatClampNeg (some r))) w' → Q (.inl (some (.int 1))) w') (hF : okC a0 → okC a1 → ∀ r, s.2.1 a1.toNatClampNeg = some r → ∀ q, s.2.1 a0.toNatClampNeg = some q → ¬ mP q r → ∀ w', MS g w0 y nM kd 0 (sC s (va_up s.2.1 a0.toNatClampNeg (some r))) w' → Q (.inl (some (.int 0))) w') : WP (MX3_same_ g) Q (0, [some (.ref y), some (.int a0), some (.int a1), none], [], w, 0, 0) := by
  simp only [eX3_same__0, wt_nil, Nat.add_zero]
  with_reducible refine And.intro ?_ ?_
  with_reducible refine go_S (by assumption) (fun _ _ hY => ?_)
  with_reducible exact trivial
  with_reducible refine And.intro ?_ ?_
  omega
  with_reducible refine And.intro ?_ ?_
  omega
  with_reducible refine And.intro ?_ ?_
  omega
  with_reducible refine fX3_isNoPair (by assumption) (fun _ w1 h1 => ?_) (fun _ _ _ w1 h1 => ?_) (fun ka kc r e1 w1 h1 => ?_)
  simp only [eX3_same__6, eX3_same__9, eX3_same__11, i10, if_false, kx_l, wt_nil, tl_s, Nat.add_zero]
  with_reducible refine And.intro ?_ ?_
  omega
  with_reducible refine And.intro ?_ ?_
  omega
  with_reducible exact hX (by assumption) _ (by assumption)
  simp only [eX3_same__6, eX3_same__9, eX3_same__11, i10, if_false, kx_l, wt_nil, tl_s, Nat.add_zero]
  with_reducible refine And.intro ?_ ?_
  omega
  with_reducible refine And.intro ?_ ?_
  omega
  with_reducible exact hS (by assumption) (by assumption) (by assumption) _ (by assumption)
  simp only [eX3_same__6, eX3_same__9, eX3_same__11, if_true, kx_l, wt_nil, tl_s, Nat.add_zero]
  with_reducible refine And.intro ?_ ?_
  with_reducible refine go_S (by assumption) (fun _ _ hY => ?_)
  with_reducible exact trivial
  with_reducible refine And.intro ?_ ?_
  omega
  with_reducible refine And.intro ?_ ?_
  omega
  with_reducible refine And.intro ?_ ?_
  omega
  with_reducible refine fX3_isBare h1 ka (fun e0 => ?_) (fun q e0 => ?_)
  simp only [eX3_same__16, eX3_same__19, eX3_same__23, eX3_same__27, eX3_same__51, eX3_same__56, eX3_same__61, i10, if_false, kx_l, nl_int, tl_s]
  with_reducible refine go_S (by assumption) (fun _ _ hY => ?_)
  simp only [g0, gS, ex1]
  with_reducible refine go_S (by assumption) (fun _ _ hY => ?_)
  simp only [eX3_same__62, wt_nil, wt_int, wt_ref, g0, gS, ex1, Nat.add_zero]
  with_reducible refine And.intro ?_ ?_
  with_reducible exact MS.gC (by assumption) (by assumption)
  with_reducible refine And.intro ?_ ?_
  omega
  with_reducible refine And.intro ?_ ?_
  omega
  with_reducible refine And.intro ?_ ?_
  omega
  with_reducible refine sGetK (i := a1) (by assumption) (by assumption) kc e1 (fun _ hb => ?_)
  simp only [eX3_same__65R, eX3_same__68R, kx_l, wt_nil, tl_s, Nat.add_zero]
  with_reducible refine And.intro ?_ ?_
  with_reducible exact rowA.ca (by assumption)
  with_reducible refine And.intro ?_ ?_
  with_reducible exact MS.gC (by assumption) (by assumption)
  with_reducible refine And.intro ?_ ?_
  omega
  with_reducible refine And.intro ?_ ?_
  omega
  with_reducible refine And.intro ?_ ?_
  omega
  with_reducible refine sSetFR (by assumption) (by assumption) hb ka (fun w3 h3 => ?_) (fun _ w3 h3 => ?_)
  simp only [eX3_same__71N, eX3_same__72, kx_l, tl_s]
  with_reducible refine And.intro ?_ ?_
  omega
  with_reducible refine And.intro ?_ ?_
  omega
  with_reducible exact hN ka kc r e1 e0 _ h3
  simp only [eX3_same__71R, eX3_same__72, kx_l, tl_s]
  with_reducible refine And.intro ?_ ?_
  omega
  with_reducible refine And.intro ?_ ?_
  omega
  with_reducible exact hN ka kc r e1 e0 _ h3
  simp only [eX3_same__16, eX3_same__19, eX3_same__23, eX3_same__27, eX3_same__51, eX3_same__56, eX3_same__61, if_true, kx_l, nl_int, tl_s]
  with_reducible refine go_S (by assumption) (fun _ _ hY => ?_)
  simp only [eX3_same__28, wt_nil, g0, gS, ex1, Nat.add_zero]
  with_reducible refine And.intro ?_ ?_
  with_reducible exact MS.gC (by assumption) (by assumption)
  with_reducible refine And.intro ?_ ?_
  omega
  with_reducible refine And.intro ?_ ?_
  omega
  with_reducible refine And.intro ?_ ?_
  omega
  with_reducible refine sGetK (i := a0) (by assumption) (by assumption) ka e0 (fun _ hb0 => ?_)
  simp only [eX3_same__31R, eX3_same__34, eX3_same__38, kx_l, tl_s]
  with_reducible refine And.intro ?_ ?_
  with_reducible exact rowA.ca (by assumption)
  with_reducible refine go_S (by assumption) (fun _ _ hY => ?_)
  simp only [eX3_same__39, wt_nil, wt_ref, g0, gS, ex1, Nat.add_zero]
  with_reducible refine And.intro ?_ ?_
  with_reducible exact MS.gC (by assumption) (by assumption)
  with_reducible refine And.intro ?_ ?_
  omega
  with_reducible refine And.intro ?_ ?_
  omega
  with_reducible refine And.intro ?_ ?_
  omega
  with_reducible refine sGetK (i := a1) (by assumption) (by assumption) kc e1 (fun _ hb => ?_)
  simp only [eX3_same__42R, eX3_same__45RR, kx_l, wt_nil, tl_s, Nat.add_zero]
  with_reducible refine And.intro ?_ ?_
  with_reducible exact rowA.ca (by assumption)
  with_reducible refine And.intro ?_ ?_
  omega
  with_reducible refine And.intro ?_ ?_
  omega
  with_reducible refine And.intro ?_ ?_
  omega
  with_reducible refine fX3_same hb0 hb (fun hm => ?_) (fun hm => ?_)
  simp only [eX3_same__48, kx_l, wt_nil, tl_s, Nat.add_zero]
  with_reducible refine And.intro ?_ ?_
  omega
  with_reducible refine And.intro ?_ ?_
  omega
  with_reducible refine And.intro ?_ ?_
  omega
  with_reducible refine fX3_one (Or.inr rfl) ?_
  simp only [eX3_same__51, eX3_same__56, eX3_same__61, kx_l, nl_int, tl_s]
  with_reducible refine go_S (by assumption) (fun _ _ hY => ?_)
  simp only [g0, gS, ex1]
  with_reducible refine go_S (by assumption) (fun _ _ hY => ?_)
  simp only [eX3_same__62, wt_nil, wt_int, wt_ref, g0, gS, ex1, Nat.add_zero]
  with_reducible refine And.intro ?_ ?_
  with_reducible exact MS.gC (by assumption) (by assumption)
  with_reducible refine And.intro ?_ ?_
  omega
  with_reducible refine And.intro ?_ ?_
  omega
  with_reducible refine And.intro ?_ ?_
  omega
  with_reducible refine sGetK (i := a1) (by assumption) (by assumption) kc e1 (fun _ hb => ?_)
  simp only [eX3_same__65R, eX3_same__68R, kx_l, wt_nil, tl_s, Nat.add_zero]
  with_reducible refine And.intro ?_ ?_
  with_reducible exact rowA.ca (by assumption)
  with_reducible refine And.intro ?_ ?_
  with_reducible exact MS.gC (by assumption) (by assumption)
  with_reducible refine And.intro ?_ ?_
  omega
  with_reducible refine And.intro ?_ ?_
  omega
  with_reducible refine And.intro ?_ ?_
  omega
  with_reducible refine sSetFR (by assumption) (by assumption) hb ka (fun w3 h3 => ?_) (fun _ w3 h3 => ?_)
  simp only [eX3_same__71N, eX3_same__72, kx_l, tl_s]
  with_reducible refine And.intro ?_ ?_
  omega
  with_reducible refine And.intro ?_ ?_
  omega
  with_reducible exact hT ka kc r e1 q e0 hm _ h3
  simp only [eX3_same__71R, eX3_same__72, kx_l, tl_s]
  with_reducible refine And.intro ?_ ?_
  omega
  with_reducible refine And.intro ?_ ?_
  omega
  with_reducible exact hT ka kc r e1 q e0 hm _ h3
  simp only [eX3_same__48, kx_l, wt_nil, tl_s, Nat.add_zero]
  with_reducible refine And.intro ?_ ?_
  omega
  with_reducible refine And.intro ?_ ?_
  omega
  with_reducible refine And.intro ?_ ?_
  omega
  with_reducible refine fX3_one (Or.inl rfl) ?_
  simp only [eX3_same__51, eX3_same__56, eX3_same__61, kx_l, nl_int, tl_s]
  with_reducible refine go_S (by assumption) (fun _ _ hY => ?_)
  simp only [g0, gS, ex1]
  with_reducible refine go_S (by assumption) (fun _ _ hY => ?_)
  simp only [eX3_same__62, wt_nil, wt_int, wt_ref, g0, gS, ex1, Nat.add_zero]
  with_reducible refine And.intro ?_ ?_
  with_reducible exact MS.gC (by assumption) (by assumption)
  with_reducible refine And.intro ?_ ?_
  omega
  with_reducible refine And.intro ?_ ?_
  omega
  with_reducible refine And.intro ?_ ?_
  omega
  with_reducible refine sGetK (i := a1) (by assumption) (by assumption) kc e1 (fun _ hb => ?_)
  simp only [eX3_same__65R, eX3_same__68R, kx_l, wt_nil, tl_s, Nat.add_zero]
  with_reducible refine And.intro ?_ ?_
  with_reducible exact rowA.ca (by assumption)
  with_reducible refine And.intro ?_ ?_
  with_reducible exact MS.gC (by assumption) (by assumption)
  with_reducible refine And.intro ?_ ?_
  omega
  with_reducible refine And.intro ?_ ?_
  omega
  with_reducible refine And.intro ?_ ?_
  omega
  with_reducible refine sSetFR (by assumption) (by assumption) hb ka (fun w3 h3 => ?_) (fun _ w3 h3 => ?_)
  simp only [eX3_same__71N, eX3_same__72, kx_l, tl_s]
  with_reducible refine And.intro ?_ ?_
  omega
  with_reducible refine And.intro ?_ ?_
  omega
  with_reducible exact hF ka kc r e1 q e0 hm _ h3
  simp only [eX3_same__71R, eX3_same__72, kx_l, tl_s]
  with_reducible refine And.intro ?_ ?_
  omega
  with_reducible refine And.intro ?_ ?_
  omega
  with_reducible exact hF ka kc r e1 q e0 hm _ h3
set_option maxHeartbeats 4000000 in
theorem fX3_drop {a0 : Int32} (hM : MS g w0 y nM kd th s w) (hX : ¬ (okC a0) → ∀ w', MS g w0 y nM kd 1 s w' → Q (.inl (some (.int 0))) w') (hN : okC a0 → s.2.1 a0.toNatClampNeg = none → ∀ w', MS g w0 y nM kd 0 (sC s (va_up s.2.1 a0.toNatClampNeg none)) w' → Q (.inl (some (.int 0))) w') (hS : okC a0 → ∀ r, s.2.1 a0.toNatClampNeg = some r → ∀ w', MS g w0 y nM kd 0 (sC s (va_up s.2.1 a0.toNatClampNeg none)) w' → Q (.inl (some (.int 1))) w') : WP (MX3_drop g) Q (0, [some (.ref y), some (.int a0), none], [], w, 0, 0) := by
  simp only [eX3_drop_0, eX3_drop_5, wt_nil, wt_ref, Nat.add_zero]
  with_reducible refine And.intro ?_ ?_
  omega
  with_reducible refine And.intro ?_ ?_
  omega
  with_reducible refine And.intro ?_ ?_
  omega
  with_reducible refine fX3_isNoCard (fun _ => ?_) (fun _ => ?_)
  simp only [eX3_drop_6, kx_l, wt_nil, tl_s, Nat.add_zero]
  with_reducible refine And.intro ?_ ?_
  with_reducible refine go_S (by assumption) (fun _ _ hY => ?_)
  with_reducible exact trivial
  with_reducible refine And.intro ?_ ?_
  omega
  with_reducible refine And.intro ?_ ?_
  omega
  with_reducible refine And.intro ?_ ?_
  omega
  with_reducible refine fX3_start (by assumption) (by decide) (fun _ w1 h1 => ?_) (fun _ w1 h1 => ?_)
  with_reducible exact absurd (by assumption) n10'
  simp only [eX3_drop_9, eX3_drop_12, eX3_drop_14, i10, if_false, kx_l, wt_nil, tl_s, Nat.add_zero]
  with_reducible refine And.intro ?_ ?_
  omega
  with_reducible refine And.intro ?_ ?_
  omega
  with_reducible exact hX (fun h => absurd h (by assumption)) _ (by assumption)
  simp only [eX3_drop_6, kx_l, wt_nil, tl_s, Nat.add_zero]
  with_reducible refine And.intro ?_ ?_
  with_reducible refine go_S (by assumption) (fun _ _ hY => ?_)
  with_reducible exact trivial
  with_reducible refine And.intro ?_ ?_
  omega
  with_reducible refine And.intro ?_ ?_
  omega
  with_reducible refine And.intro ?_ ?_
  omega
  with_reducible refine fX3_start (by assumption) (by decide) (fun _ w1 h1 => ?_) (fun _ w1 h1 => ?_)
  simp only [eX3_drop_9, eX3_drop_12, eX3_drop_14, if_true, kx_l, wt_nil, tl_s, Nat.add_zero]
  with_reducible refine And.intro ?_ ?_
  with_reducible refine go_S (by assumption) (fun _ _ hY => ?_)
  with_reducible exact trivial
  with_reducible refine And.intro ?_ ?_
  omega
  with_reducible refine And.intro ?_ ?_
  omega
  with_reducible refine And.intro ?_ ?_
  omega
  with_reducible refine fX3_isBare (by assumption) (by assumption) (fun _ => ?_) (fun _ _ => ?_)
  simp only [eX3_drop_19, eX3_drop_22, eX3_drop_26, eX3_drop_27, i10, if_false, kx_l, wt_nil, tl_s, Nat.add_zero]
  with_reducible refine And.intro ?_ ?_
  omega
  with_reducible refine And.intro ?_ ?_
  omega
  with_reducible refine And.intro ?_ ?_
  omega
  with_reducible refine fX3_one (Or.inl rfl) ?_
  simp only [eX3_drop_30, eX3_drop_35, kx_l, nl_int, tl_s]
  with_reducible refine go_S (by assumption) (fun _ _ hY => ?_)
  simp only [eX3_drop_37N, wt_nil, g0, gS, ex1, Nat.add_zero]
  with_reducible refine And.intro ?_ ?_
  with_reducible exact MS.gC (by assumption) (by assumption)
  with_reducible refine And.intro ?_ ?_
  omega
  with_reducible refine And.intro ?_ ?_
  omega
  with_reducible refine And.intro ?_ ?_
  omega
  with_reducible refine sSetFN (by assumption) (by assumption) (by assumption) (fun w3 h3 => ?_) (fun _ w3 h3 => ?_)
  simp only [eX3_drop_40N, eX3_drop_41, kx_l, tl_s]
  with_reducible refine And.intro ?_ ?_
  omega
  with_reducible refine And.intro ?_ ?_
  omega
  with_reducible exact hN (by assumption) (by assumption) _ h3
  simp only [eX3_drop_40R, eX3_drop_41, kx_l, tl_s]
  with_reducible refine And.intro ?_ ?_
  omega
  with_reducible refine And.intro ?_ ?_
  omega
  with_reducible exact hN (by assumption) (by assumption) _ h3
  simp only [eX3_drop_19, eX3_drop_22, eX3_drop_26, eX3_drop_27, if_true, kx_l, wt_nil, tl_s, Nat.add_zero]
  with_reducible refine And.intro ?_ ?_
  omega
  with_reducible refine And.intro ?_ ?_
  omega
  with_reducible refine And.intro ?_ ?_
  omega
  with_reducible refine fX3_one (Or.inr rfl) ?_
  simp only [eX3_drop_30, eX3_drop_35, kx_l, nl_int, tl_s]
  with_reducible refine go_S (by assumption) (fun _ _ hY => ?_)
  simp only [eX3_drop_37N, wt_nil, g0, gS, ex1, Nat.add_zero]
  with_reducible refine And.intro ?_ ?_
  with_reducible exact MS.gC (by assumption) (by assumption)
  with_reducible refine And.intro ?_ ?_
  omega
  with_reducible refine And.intro ?_ ?_
  omega
  with_reducible refine And.intro ?_ ?_
  omega
  with_reducible refine sSetFN (by assumption) (by assumption) (by assumption) (fun w3 h3 => ?_) (fun _ w3 h3 => ?_)
  simp only [eX3_drop_40N, eX3_drop_41, kx_l, tl_s]
  with_reducible refine And.intro ?_ ?_
  omega
  with_reducible refine And.intro ?_ ?_
  omega
  with_reducible exact hS (by assumption) _ (by assumption) _ h3
  simp only [eX3_drop_40R, eX3_drop_41, kx_l, tl_s]
  with_reducible refine And.intro ?_ ?_
  omega
  with_reducible refine And.intro ?_ ?_
  omega
  with_reducible exact hS (by assumption) _ (by assumption) _ h3
  with_reducible exact n00x (by assumption)
set_option maxHeartbeats 4000000 in
theorem fX3_take {a0 a1 a2 : Int32} (hM : MS g w0 y nM kd th s w) (hX : ¬ (okC a0 ∧ okN a2) → ∀ w', MS g w0 y nM kd 1 s w' → Q (.inl (some (.int 0))) w') (hW : okC a0 → okN a2 → ¬ okW a1 3 → ∀ w', MS g w0 y nM kd 2 s w' → Q (.inl (some (.int 0))) w') (hS : okC a0 → okN a2 → okW a1 3 → s.2.1 a0.toNatClampNeg = none → ∀ w', MS g w0 y nM kd 3 s w' → Q (.inl (some (.int 0))) w') (hQ : okC a0 → okN a2 → okW a1 3 → ∀ r, s.2.1 a0.toNatClampNeg = some r → ∀ w', MS g w0 y nM kd 0 (sN s (vp_updL s.1 a2.toNatClampNeg (eV r a1))) w' → Q (.inl (some (.int (loV (eV r a1))))) w') : WP (MX3_take g) Q (0, [some (.ref y), some (.int a0), some (.int a1), some (.int a2)], [], w, 0, 0) := by
  simp only [eX3_take_0, wt_nil, wt_ref, Nat.add_zero]
  with_reducible refine And.intro ?_ ?_
  omega
  with_reducible refine And.intro ?_ ?_
  omega
  with_reducible refine And.intro ?_ ?_
  omega
  with_reducible refine fX3_isNoCard (fun _ => ?_) (fun _ => ?_)
  simp only [eX3_take_5, eX3_take_8, eX3_take_15, eX3_take_20, i10, if_false, kx_l, wt_nil, wt_ref, tl_s, Nat.add_zero]
  with_reducible refine And.intro ?_ ?_
  with_reducible refine go_S (by assumption) (fun _ _ hY => ?_)
  with_reducible exact trivial
  with_reducible refine And.intro ?_ ?_
  omega
  with_reducible refine And.intro ?_ ?_
  omega
  with_reducible refine And.intro ?_ ?_
  omega
  with_reducible refine fX3_start (by assumption) (by decide) (fun _ w1 h1 => ?_) (fun _ w1 h1 => ?_)
  with_reducible exact absurd (by assumption) n10'
  simp only [eX3_take_24, eX3_take_27, eX3_take_32, eX3_take_52, i10, if_false, kx_l, wt_nil, wt_ref, tl_s, Nat.add_zero]
  with_reducible refine And.intro ?_ ?_
  omega
  with_reducible refine And.intro ?_ ?_
  omega
  with_reducible exact hX (fun h => absurd h.1 (by assumption)) _ (by assumption)
  simp only [eX3_take_5, eX3_take_8, eX3_take_15, eX3_take_20, if_true, kx_l, wt_nil, wt_ref, tl_s, Nat.add_zero]
  with_reducible refine And.intro ?_ ?_
  omega
  with_reducible refine And.intro ?_ ?_
  omega
  with_reducible refine And.intro ?_ ?_
  omega
  with_reducible refine fX3_isNoNumber (fun _ => ?_) (fun _ => ?_)
  simp only [eX3_take_12, eX3_take_15, eX3_take_19, eX3_take_20, i10, if_false, kx_l, wt_nil, tl_s, Nat.add_zero]
  with_reducible refine And.intro ?_ ?_
  with_reducible refine go_S (by assumption) (fun _ _ hY => ?_)
  with_reducible exact trivial
  with_reducible refine And.intro ?_ ?_
  omega
  with_reducible refine And.intro ?_ ?_
  omega
  with_reducible refine And.intro ?_ ?_
  omega
  with_reducible refine fX3_start (by assumption) (by decide) (fun _ w1 h1 => ?_) (fun _ w1 h1 => ?_)
  with_reducible exact absurd (by assumption) n10'
  simp only [eX3_take_24, eX3_take_27, eX3_take_32, eX3_take_52, i10, if_false, kx_l, wt_nil, wt_ref, tl_s, Nat.add_zero]
  with_reducible refine And.intro ?_ ?_
  omega
  with_reducible refine And.intro ?_ ?_
  omega
  with_reducible exact hX (fun h => absurd h.2 (by assumption)) _ (by assumption)
  simp only [eX3_take_12, eX3_take_15, eX3_take_19, eX3_take_20, if_true, kx_l, wt_nil, tl_s, Nat.add_zero]
  with_reducible refine And.intro ?_ ?_
  with_reducible refine go_S (by assumption) (fun _ _ hY => ?_)
  with_reducible exact trivial
  with_reducible refine And.intro ?_ ?_
  omega
  with_reducible refine And.intro ?_ ?_
  omega
  with_reducible refine And.intro ?_ ?_
  omega
  with_reducible refine fX3_start (by assumption) (by decide) (fun _ w1 h1 => ?_) (fun _ w1 h1 => ?_)
  simp only [eX3_take_24, eX3_take_27, eX3_take_32, eX3_take_52, if_true, kx_l, wt_nil, wt_ref, tl_s, Nat.add_zero]
  with_reducible refine And.intro ?_ ?_
  omega
  with_reducible refine And.intro ?_ ?_
  omega
  with_reducible refine And.intro ?_ ?_
  omega
  with_reducible refine fX3_isNoEnd (fun _ => ?_) (fun _ => ?_)
  simp only [eX3_take_33, kx_l, wt_nil, tl_s, Nat.add_zero]
  with_reducible refine And.intro ?_ ?_
  with_reducible refine go_S (by assumption) (fun _ _ hY => ?_)
  with_reducible exact trivial
  with_reducible refine And.intro ?_ ?_
  omega
  with_reducible refine And.intro ?_ ?_
  omega
  with_reducible refine And.intro ?_ ?_
  omega
  with_reducible refine fX3_refuse (by assumption) (by decide) (fun _ => ?_) (fun _ w2 h2 => ?_)
  with_reducible exact absurd (by assumption) n10'
  simp only [eX3_take_36, eX3_take_39, eX3_take_45, eX3_take_52, i10, if_false, kx_l, wt_nil, wt_ref, tl_s, Nat.add_zero]
  with_reducible refine And.intro ?_ ?_
  omega
  with_reducible refine And.intro ?_ ?_
  omega
  with_reducible exact hW (by assumption) (by assumption) (by assumption) _ (by assumption)
  simp only [eX3_take_33, kx_l, wt_nil, tl_s, Nat.add_zero]
  with_reducible refine And.intro ?_ ?_
  with_reducible refine go_S (by assumption) (fun _ _ hY => ?_)
  with_reducible exact trivial
  with_reducible refine And.intro ?_ ?_
  omega
  with_reducible refine And.intro ?_ ?_
  omega
  with_reducible refine And.intro ?_ ?_
  omega
  with_reducible refine fX3_refuse (by assumption) (by decide) (fun _ => ?_) (fun _ w2 h2 => ?_)
  simp only [eX3_take_36, eX3_take_39, eX3_take_45, eX3_take_52, if_true, kx_l, wt_nil, wt_ref, tl_s, Nat.add_zero]
  with_reducible refine And.intro ?_ ?_
  with_reducible refine go_S (by assumption) (fun _ _ hY => ?_)
  with_reducible exact trivial
  with_reducible refine And.intro ?_ ?_
  omega
  with_reducible refine And.intro ?_ ?_
  omega
  with_reducible refine And.intro ?_ ?_
  omega
  with_reducible refine fX3_isBare (by assumption) (by assumption) (fun _ => ?_) (fun _ _ => ?_)
  simp only [eX3_take_46, kx_l, wt_nil, tl_s, Nat.add_zero]
  with_reducible refine And.intro ?_ ?_
  with_reducible refine go_S (by assumption) (fun _ _ hY => ?_)
  with_reducible exact trivial
  with_reducible refine And.intro ?_ ?_
  omega
  with_reducible refine And.intro ?_ ?_
  omega
  with_reducible refine And.intro ?_ ?_
  omega
  with_reducible refine fX3_refuse (by assumption) (by decide) (fun _ => ?_) (fun _ w2 h2 => ?_)
  with_reducible exact absurd (by assumption) n10'
  simp only [eX3_take_49, eX3_take_52, eX3_take_54, eX3_take_60, i10, if_false, kx_l, tl_s]
  with_reducible refine And.intro ?_ ?_
  omega
  with_reducible refine And.intro ?_ ?_
  omega
  with_reducible exact hS (by assumption) (by assumption) (by assumption) (by assumption) _ (by assumption)
  simp only [eX3_take_46, kx_l, wt_nil, tl_s, Nat.add_zero]
  with_reducible refine And.intro ?_ ?_
  with_reducible refine go_S (by assumption) (fun _ _ hY => ?_)
  with_reducible exact trivial
  with_reducible refine And.intro ?_ ?_
  omega
  with_reducible refine And.intro ?_ ?_
  omega
  with_reducible refine And.intro ?_ ?_
  omega
  with_reducible refine fX3_refuse (by assumption) (by decide) (fun _ => ?_) (fun _ w2 h2 => ?_)
  simp only [eX3_take_49, eX3_take_52, eX3_take_54, eX3_take_60, if_true, kx_l, tl_s]
  with_reducible refine go_S (by assumption) (fun _ _ hY => ?_)
  simp only [eX3_take_61, wt_nil, wt_int, wt_ref, g0, gS, ex1, Nat.add_zero]
  with_reducible refine And.intro ?_ ?_
  with_reducible exact MS.gC (by assumption) (by assumption)
  with_reducible refine And.intro ?_ ?_
  omega
  with_reducible refine And.intro ?_ ?_
  omega
  with_reducible refine And.intro ?_ ?_
  omega
  with_reducible refine sGetK (by assumption) (by assumption) (by assumption) (by assumption) (fun _ hb => ?_)
  simp only [eX3_take_64R, eX3_take_67, eX3_take_69, kx_l, wt_nil, tl_s, Nat.add_zero]
  with_reducible refine And.intro ?_ ?_
  with_reducible exact rowA.ca (by assumption)
  with_reducible refine gl_A (by assumption) ?_
  with_reducible refine And.intro ?_ ?_
  with_reducible exact vpi4k (by assumption)
  with_reducible refine And.intro ?_ ?_
  with_reducible refine go_S (by assumption) (fun _ _ hY => ?_)
  with_reducible exact trivial
  with_reducible refine And.intro ?_ ?_
  omega
  with_reducible refine And.intro ?_ ?_
  omega
  with_reducible refine And.intro ?_ ?_
  omega
  (rw [rvK (by assumption)]; refine fX3_become (by assumption) (by assumption) (fun w3 h3 => ?_))
  simp only [eX3_take_72, kx_l, tl_s]
  with_reducible refine And.intro ?_ ?_
  omega
  with_reducible refine And.intro ?_ ?_
  omega
  with_reducible exact hQ (by assumption) (by assumption) (by assumption) _ (by assumption) _ h3
  with_reducible exact n00x (by assumption)
  with_reducible exact n00x (by assumption)
  with_reducible exact n00x (by assumption)
set_option maxHeartbeats 4000000 in
theorem fX3_end {a0 a1 a2 : Int32} (hM : MS g w0 y nM kd th s w) (hX : ¬ (okC a0) → ∀ w', MS g w0 y nM kd 1 s w' → Q (.inl (some (.int 0))) w') (hW : okC a0 → ¬ okW a1 3 → ∀ w', MS g w0 y nM kd 2 s w' → Q (.inl (some (.int 0))) w') (hS : okC a0 → okW a1 3 → s.2.1 a0.toNatClampNeg = none → ∀ w', MS g w0 y nM kd 3 s w' → Q (.inl (some (.int 0))) w') (hQ : okC a0 → okW a1 3 → ∀ r, s.2.1 a0.toNatClampNeg = some r → ∀ w', MS g w0 y nM kd 0 s w' → Q (.inl (some (.int (hfV (eV r a1) a2)))) w') : WP (MX3_end g) Q (0, [some (.ref y), some (.int a0), some (.int a1), some (.int a2)], [], w, 0, 0) := by
  simp only [eX3_end_0, wt_nil, Nat.add_zero]
  with_reducible refine And.intro ?_ ?_
  with_reducible refine go_S (by assumption) (fun _ _ hY => ?_)
  with_reducible exact trivial
  with_reducible refine And.intro ?_ ?_
  omega
  with_reducible refine And.intro ?_ ?_
  omega
  with_reducible refine And.intro ?_ ?_
  omega
  with_reducible refine fX3_isNoEnd_ (by assumption) (fun _ w1 h1 => ?_) (fun _ _ w1 h1 => ?_) (fun _ _ _ w1 h1 => ?_) (fun ka kw r e1 w1 h1 => ?_)
  simp only [eX3_end_6, eX3_end_9, eX3_end_11, eX3_end_15, eX3_end_19, eX3_end_34, eX3_end_38, i10, if_false, kx_l, tl_s]
  with_reducible refine And.intro ?_ ?_
  omega
  with_reducible refine And.intro ?_ ?_
  omega
  with_reducible exact hX (fun h => absurd h (by assumption)) _ (by assumption)
  simp only [eX3_end_6, eX3_end_9, eX3_end_11, eX3_end_15, eX3_end_19, eX3_end_34, eX3_end_38, i10, if_false, kx_l, tl_s]
  with_reducible refine And.intro ?_ ?_
  omega
  with_reducible refine And.intro ?_ ?_
  omega
  with_reducible exact hW (by assumption) (by assumption) _ (by assumption)
  simp only [eX3_end_6, eX3_end_9, eX3_end_11, eX3_end_15, eX3_end_19, eX3_end_34, eX3_end_38, i10, if_false, kx_l, tl_s]
  with_reducible refine And.intro ?_ ?_
  omega
  with_reducible refine And.intro ?_ ?_
  omega
  with_reducible exact hS (by assumption) (by assumption) (by assumption) _ (by assumption)
  simp only [eX3_end_6, eX3_end_9, eX3_end_11, eX3_end_15, eX3_end_19, eX3_end_34, eX3_end_38, if_true, kx_l, tl_s]
  with_reducible refine itx (fun _ => ?_) (fun _ => ?_)
  with_reducible refine go_S (by assumption) (fun _ _ hY => ?_)
  simp only [eX3_end_39, wt_nil, g0, gS, ex1, Nat.add_zero]
  with_reducible refine And.intro ?_ ?_
  with_reducible exact MS.gC (by assumption) (by assumption)
  with_reducible refine And.intro ?_ ?_
  omega
  with_reducible refine And.intro ?_ ?_
  omega
  with_reducible refine And.intro ?_ ?_
  omega
  with_reducible refine sGetK (by assumption) (by assumption) (by assumption) (by assumption) (fun _ hb => ?_)
  simp only [eX3_end_42R, eX3_end_45, eX3_end_47, kx_l, wt_nil, tl_s, Nat.add_zero]
  with_reducible refine And.intro ?_ ?_
  with_reducible exact rowA.ca (by assumption)
  with_reducible refine gl_A (by assumption) ?_
  with_reducible refine And.intro ?_ ?_
  with_reducible exact vpi4k (by assumption)
  with_reducible refine And.intro ?_ ?_
  omega
  with_reducible refine And.intro ?_ ?_
  omega
  with_reducible refine And.intro ?_ ?_
  omega
  (rw [rvK kw]; with_reducible refine fX3_low ?_)
  simp only [eX3_end_50, kx_l, tl_s]
  with_reducible refine And.intro ?_ ?_
  omega
  with_reducible refine And.intro ?_ ?_
  omega
  (rw [← hfV_e (a := eV r a1) (h := a2) (by assumption)]; exact hQ ka kw r e1 _ h1)
  with_reducible refine go_S (by assumption) (fun _ _ hY => ?_)
  simp only [eX3_end_20, wt_nil, g0, gS, ex1, Nat.add_zero]
  with_reducible refine And.intro ?_ ?_
  with_reducible exact MS.gC (by assumption) (by assumption)
  with_reducible refine And.intro ?_ ?_
  omega
  with_reducible refine And.intro ?_ ?_
  omega
  with_reducible refine And.intro ?_ ?_
  omega
  with_reducible refine sGetK (by assumption) (by assumption) (by assumption) (by assumption) (fun _ hb => ?_)
  simp only [eX3_end_23R, eX3_end_26, eX3_end_28, eX3_end_31, kx_l, wt_nil, tl_s, Nat.add_zero]
  with_reducible refine And.intro ?_ ?_
  with_reducible exact rowA.ca (by assumption)
  with_reducible refine gl_A (by assumption) ?_
  with_reducible refine And.intro ?_ ?_
  with_reducible exact vpi4k (by assumption)
  with_reducible refine And.intro ?_ ?_
  omega
  with_reducible refine And.intro ?_ ?_
  omega
  with_reducible refine And.intro ?_ ?_
  omega
  (rw [rvK kw]; with_reducible refine fX3_high ?_)
  simp only [eX3_end_50, kx_l, tl_s]
  with_reducible refine And.intro ?_ ?_
  omega
  with_reducible refine And.intro ?_ ?_
  omega
  (rw [← hfV_n (a := eV r a1) (h := a2) (by assumption)]; exact hQ ka kw r e1 _ h1)
set_option maxHeartbeats 4000000 in
theorem fX3_isThere {a0 : Int32} (hM : MS g w0 y nM kd th s w) (hX : ¬ (okC a0) → ∀ w', MS g w0 y nM kd 1 s w' → Q (.inl (some (.int 0))) w') (hF : okC a0 → s.2.1 a0.toNatClampNeg = none → ∀ w', MS g w0 y nM kd 0 s w' → Q (.inl (some (.int 0))) w') (hT : okC a0 → ∀ r, s.2.1 a0.toNatClampNeg = some r → ∀ w', MS g w0 y nM kd 0 s w' → Q (.inl (some (.int 1))) w') : WP (MX3_isThere g) Q (0, [some (.ref y), some (.int a0)], [], w, 0, 0) := by
  simp only [eX3_isThere_0, eX3_isThere_5, wt_nil, wt_ref, Nat.add_zero]
  with_reducible refine And.intro ?_ ?_
  omega
  with_reducible refine And.intro ?_ ?_
  omega
  with_reducible refine And.intro ?_ ?_
  omega
  with_reducible refine fX3_isNoCard (fun _ => ?_) (fun _ => ?_)
  simp only [eX3_isThere_6, kx_l, wt_nil, tl_s, Nat.add_zero]
  with_reducible refine And.intro ?_ ?_
  with_reducible refine go_S (by assumption) (fun _ _ hY => ?_)
  with_reducible exact trivial
  with_reducible refine And.intro ?_ ?_
  omega
  with_reducible refine And.intro ?_ ?_
  omega
  with_reducible refine And.intro ?_ ?_
  omega
  with_reducible refine fX3_start (by assumption) (by decide) (fun _ w1 h1 => ?_) (fun _ w1 h1 => ?_)
  with_reducible exact absurd (by assumption) n10'
  simp only [eX3_isThere_9, eX3_isThere_12, eX3_isThere_24, eX3_isThere_25, i10, if_false, kx_l, wt_nil, tl_s, nb_0, true_and, Nat.add_zero]
  with_reducible refine And.intro ?_ ?_
  omega
  with_reducible refine And.intro ?_ ?_
  omega
  with_reducible exact hX (fun h => absurd h (by assumption)) _ (by assumption)
  simp only [eX3_isThere_6, kx_l, wt_nil, tl_s, Nat.add_zero]
  with_reducible refine And.intro ?_ ?_
  with_reducible refine go_S (by assumption) (fun _ _ hY => ?_)
  with_reducible exact trivial
  with_reducible refine And.intro ?_ ?_
  omega
  with_reducible refine And.intro ?_ ?_
  omega
  with_reducible refine And.intro ?_ ?_
  omega
  with_reducible refine fX3_start (by assumption) (by decide) (fun _ w1 h1 => ?_) (fun _ w1 h1 => ?_)
  simp only [eX3_isThere_9, eX3_isThere_12, eX3_isThere_24, eX3_isThere_25, if_true, kx_l, wt_nil, tl_s, nb_0, true_and, Nat.add_zero]
  with_reducible refine And.intro ?_ ?_
  with_reducible refine go_S (by assumption) (fun _ _ hY => ?_)
  with_reducible exact trivial
  with_reducible refine And.intro ?_ ?_
  omega
  with_reducible refine And.intro ?_ ?_
  omega
  with_reducible refine And.intro ?_ ?_
  omega
  with_reducible refine fX3_isBare (by assumption) (by assumption) (fun _ => ?_) (fun _ _ => ?_)
  simp only [eX3_isThere_17, eX3_isThere_20, eX3_isThere_24, eX3_isThere_25, i10, if_false, kx_l, tl_s, nb_0, nb_1, true_and]
  with_reducible refine And.intro ?_ ?_
  omega
  with_reducible refine And.intro ?_ ?_
  omega
  with_reducible exact hF (by assumption) (by assumption) _ (by assumption)
  simp only [eX3_isThere_17, eX3_isThere_20, eX3_isThere_24, eX3_isThere_25, if_true, kx_l, tl_s, nb_0, nb_1, true_and]
  with_reducible refine And.intro ?_ ?_
  omega
  with_reducible refine And.intro ?_ ?_
  omega
  with_reducible exact hT (by assumption) _ (by assumption) _ (by assumption)
  with_reducible exact n00x (by assumption)
set_option maxHeartbeats 4000000 in
theorem fX3_isFixed {a0 : Int32} (hM : MS g w0 y nM kd th s w) (hX : ¬ (okC a0) → ∀ w', MS g w0 y nM kd 1 s w' → Q (.inl (some (.int 0))) w') (hS : okC a0 → s.2.1 a0.toNatClampNeg = none → ∀ w', MS g w0 y nM kd 2 s w' → Q (.inl (some (.int 0))) w') (hT : okC a0 → ∀ r, s.2.1 a0.toNatClampNeg = some r → fP r → ∀ w', MS g w0 y nM kd 0 s w' → Q (.inl (some (.int 1))) w') (hF : okC a0 → ∀ r, s.2.1 a0.toNatClampNeg = some r → ¬ (fP r) → ∀ w', MS g w0 y nM kd 0 s w' → Q (.inl (some (.int 0))) w') : WP (MX3_isFixed g) Q (0, [some (.ref y), some (.int a0)], [], w, 0, 0) := by
  simp only [eX3_isFixed_0, wt_nil, Nat.add_zero]
  with_reducible refine And.intro ?_ ?_
  with_reducible refine go_S (by assumption) (fun _ _ hY => ?_)
  with_reducible exact trivial
  with_reducible refine And.intro ?_ ?_
  omega
  with_reducible refine And.intro ?_ ?_
  omega
  with_reducible refine And.intro ?_ ?_
  omega
  with_reducible refine fX3_isNone (by assumption) (fun _ w1 h1 => ?_) (fun _ _ w1 h1 => ?_) (fun ka r e1 w1 h1 => ?_)
  simp only [eX3_isFixed_5, eX3_isFixed_8, eX3_isFixed_12, eX3_isFixed_29, eX3_isFixed_30, i10, if_false, kx_l, tl_s, nb_0, true_and]
  with_reducible refine And.intro ?_ ?_
  omega
  with_reducible refine And.intro ?_ ?_
  omega
  with_reducible exact hX (fun h => absurd h (by assumption)) _ (by assumption)
  simp only [eX3_isFixed_5, eX3_isFixed_8, eX3_isFixed_12, eX3_isFixed_29, eX3_isFixed_30, i10, if_false, kx_l, tl_s, nb_0, true_and]
  with_reducible refine And.intro ?_ ?_
  omega
  with_reducible refine And.intro ?_ ?_
  omega
  with_reducible exact hS (by assumption) (by assumption) _ (by assumption)
  simp only [eX3_isFixed_5, eX3_isFixed_8, eX3_isFixed_12, eX3_isFixed_29, eX3_isFixed_30, if_true, kx_l, tl_s, nb_0, true_and]
  with_reducible refine go_S (by assumption) (fun _ _ hY => ?_)
  simp only [eX3_isFixed_13, wt_nil, g0, gS, ex1, Nat.add_zero]
  with_reducible refine And.intro ?_ ?_
  with_reducible exact MS.gC (by assumption) (by assumption)
  with_reducible refine And.intro ?_ ?_
  omega
  with_reducible refine And.intro ?_ ?_
  omega
  with_reducible refine And.intro ?_ ?_
  omega
  with_reducible refine sGetK (by assumption) (by assumption) (by assumption) (by assumption) (fun _ hb => ?_)
  simp only [eX3_isFixed_16R, eX3_isFixed_19R, kx_l, wt_nil, tl_s, Nat.add_zero]
  with_reducible refine And.intro ?_ ?_
  with_reducible exact rowA.ca (by assumption)
  with_reducible refine And.intro ?_ ?_
  omega
  with_reducible refine And.intro ?_ ?_
  omega
  with_reducible refine And.intro ?_ ?_
  omega
  with_reducible refine fX3_fixed (by assumption) (fun hm => ?_) (fun hm => ?_)
  simp only [eX3_isFixed_22, eX3_isFixed_25, eX3_isFixed_29, eX3_isFixed_30, i10, if_false, kx_l, tl_s, nb_0, nb_1, true_and]
  with_reducible refine And.intro ?_ ?_
  omega
  with_reducible refine And.intro ?_ ?_
  omega
  with_reducible exact hT ka r e1 hm _ h1
  simp only [eX3_isFixed_22, eX3_isFixed_25, eX3_isFixed_29, eX3_isFixed_30, if_true, kx_l, tl_s, nb_0, nb_1, true_and]
  with_reducible refine And.intro ?_ ?_
  omega
  with_reducible refine And.intro ?_ ?_
  omega
  with_reducible exact hF ka r e1 hm _ h1
set_option maxHeartbeats 4000000 in
theorem fX3_isSmall {a0 : Int32} (hM : MS g w0 y nM kd th s w) (hX : ¬ (okC a0) → ∀ w', MS g w0 y nM kd 1 s w' → Q (.inl (some (.int 0))) w') (hS : okC a0 → s.2.1 a0.toNatClampNeg = none → ∀ w', MS g w0 y nM kd 2 s w' → Q (.inl (some (.int 0))) w') (hT : okC a0 → ∀ r, s.2.1 a0.toNatClampNeg = some r → sP r → ∀ w', MS g w0 y nM kd 0 s w' → Q (.inl (some (.int 1))) w') (hF : okC a0 → ∀ r, s.2.1 a0.toNatClampNeg = some r → ¬ (sP r) → ∀ w', MS g w0 y nM kd 0 s w' → Q (.inl (some (.int 0))) w') : WP (MX3_isSmall g) Q (0, [some (.ref y), some (.int a0)], [], w, 0, 0) := by
  simp only [eX3_isSmall_0, wt_nil, Nat.add_zero]
  with_reducible refine And.intro ?_ ?_
  with_reducible refine go_S (by assumption) (fun _ _ hY => ?_)
  with_reducible exact trivial
  with_reducible refine And.intro ?_ ?_
  omega
  with_reducible refine And.intro ?_ ?_
  omega
  with_reducible refine And.intro ?_ ?_
  omega
  with_reducible refine fX3_isNone (by assumption) (fun _ w1 h1 => ?_) (fun _ _ w1 h1 => ?_) (fun ka r e1 w1 h1 => ?_)
  simp only [eX3_isSmall_5, eX3_isSmall_8, eX3_isSmall_12, eX3_isSmall_29, eX3_isSmall_30, i10, if_false, kx_l, tl_s, nb_0, true_and]
  with_reducible refine And.intro ?_ ?_
  omega
  with_reducible refine And.intro ?_ ?_
  omega
  with_reducible exact hX (fun h => absurd h (by assumption)) _ (by assumption)
  simp only [eX3_isSmall_5, eX3_isSmall_8, eX3_isSmall_12, eX3_isSmall_29, eX3_isSmall_30, i10, if_false, kx_l, tl_s, nb_0, true_and]
  with_reducible refine And.intro ?_ ?_
  omega
  with_reducible refine And.intro ?_ ?_
  omega
  with_reducible exact hS (by assumption) (by assumption) _ (by assumption)
  simp only [eX3_isSmall_5, eX3_isSmall_8, eX3_isSmall_12, eX3_isSmall_29, eX3_isSmall_30, if_true, kx_l, tl_s, nb_0, true_and]
  with_reducible refine go_S (by assumption) (fun _ _ hY => ?_)
  simp only [eX3_isSmall_13, wt_nil, g0, gS, ex1, Nat.add_zero]
  with_reducible refine And.intro ?_ ?_
  with_reducible exact MS.gC (by assumption) (by assumption)
  with_reducible refine And.intro ?_ ?_
  omega
  with_reducible refine And.intro ?_ ?_
  omega
  with_reducible refine And.intro ?_ ?_
  omega
  with_reducible refine sGetK (by assumption) (by assumption) (by assumption) (by assumption) (fun _ hb => ?_)
  simp only [eX3_isSmall_16R, eX3_isSmall_19R, kx_l, wt_nil, tl_s, Nat.add_zero]
  with_reducible refine And.intro ?_ ?_
  with_reducible exact rowA.ca (by assumption)
  with_reducible refine And.intro ?_ ?_
  omega
  with_reducible refine And.intro ?_ ?_
  omega
  with_reducible refine And.intro ?_ ?_
  omega
  with_reducible refine fX3_small (by assumption) (fun hm => ?_) (fun hm => ?_)
  simp only [eX3_isSmall_22, eX3_isSmall_25, eX3_isSmall_29, eX3_isSmall_30, i10, if_false, kx_l, tl_s, nb_0, nb_1, true_and]
  with_reducible refine And.intro ?_ ?_
  omega
  with_reducible refine And.intro ?_ ?_
  omega
  with_reducible exact hT ka r e1 hm _ h1
  simp only [eX3_isSmall_22, eX3_isSmall_25, eX3_isSmall_29, eX3_isSmall_30, if_true, kx_l, tl_s, nb_0, nb_1, true_and]
  with_reducible refine And.intro ?_ ?_
  omega
  with_reducible refine And.intro ?_ ?_
  omega
  with_reducible exact hF ka r e1 hm _ h1
set_option maxHeartbeats 4000000 in
theorem fX3_isValid {a0 a1 : Int32} (hM : MS g w0 y nM kd th s w) (hX : ¬ (okC a0 ∧ okN a1) → ∀ w', MS g w0 y nM kd 1 s w' → Q (.inl (some (.int 0))) w') (hS : okC a0 → okN a1 → s.2.1 a0.toNatClampNeg = none → ∀ w', MS g w0 y nM kd 2 s w' → Q (.inl (some (.int 0))) w') (hT : okC a0 → okN a1 → ∀ r, s.2.1 a0.toNatClampNeg = some r → hP r (s.1 a1.toNatClampNeg) → ∀ w', MS g w0 y nM kd 0 s w' → Q (.inl (some (.int 1))) w') (hF : okC a0 → okN a1 → ∀ r, s.2.1 a0.toNatClampNeg = some r → ¬ (hP r (s.1 a1.toNatClampNeg)) → ∀ w', MS g w0 y nM kd 0 s w' → Q (.inl (some (.int 0))) w') : WP (MX3_isValid g) Q (0, [some (.ref y), some (.int a0), some (.int a1)], [], w, 0, 0) := by
  simp only [eX3_isValid_0, wt_nil, Nat.add_zero]
  with_reducible refine And.intro ?_ ?_
  with_reducible refine go_S (by assumption) (fun _ _ hY => ?_)
  with_reducible exact trivial
  with_reducible refine And.intro ?_ ?_
  omega
  with_reducible refine And.intro ?_ ?_
  omega
  with_reducible refine And.intro ?_ ?_
  omega
  with_reducible refine fX3_isNoAsked (by assumption) (fun _ w1 h1 => ?_) (fun _ _ _ w1 h1 => ?_) (fun ka kn r e1 w1 h1 => ?_)
  simp only [eX3_isValid_6, eX3_isValid_9, eX3_isValid_13, eX3_isValid_37, eX3_isValid_38, i10, if_false, kx_l, tl_s, nb_0, true_and]
  with_reducible refine And.intro ?_ ?_
  omega
  with_reducible refine And.intro ?_ ?_
  omega
  with_reducible exact hX (by assumption) _ (by assumption)
  simp only [eX3_isValid_6, eX3_isValid_9, eX3_isValid_13, eX3_isValid_37, eX3_isValid_38, i10, if_false, kx_l, tl_s, nb_0, true_and]
  with_reducible refine And.intro ?_ ?_
  omega
  with_reducible refine And.intro ?_ ?_
  omega
  with_reducible exact hS (by assumption) (by assumption) (by assumption) _ (by assumption)
  simp only [eX3_isValid_6, eX3_isValid_9, eX3_isValid_13, eX3_isValid_37, eX3_isValid_38, if_true, kx_l, tl_s, nb_0, true_and]
  with_reducible refine go_S (by assumption) (fun _ _ hY => ?_)
  simp only [eX3_isValid_14, wt_nil, g0, gS, ex1, Nat.add_zero]
  with_reducible refine And.intro ?_ ?_
  with_reducible exact MS.gC (by assumption) (by assumption)
  with_reducible refine And.intro ?_ ?_
  omega
  with_reducible refine And.intro ?_ ?_
  omega
  with_reducible refine And.intro ?_ ?_
  omega
  with_reducible refine sGetK (by assumption) (by assumption) (by assumption) (by assumption) (fun _ hb => ?_)
  simp only [eX3_isValid_17R, eX3_isValid_20, eX3_isValid_24, kx_l, tl_s]
  with_reducible refine And.intro ?_ ?_
  with_reducible exact rowA.ca (by assumption)
  with_reducible refine go_S (by assumption) (fun _ _ hY => ?_)
  simp only [eX3_isValid_25, eX3_isValid_26, wt_nil, g0, gS, ex1, Nat.add_zero]
  with_reducible refine gl_S (by assumption) ?_
  with_reducible refine And.intro ?_ ?_
  with_reducible exact vpi8k (by assumption)
  with_reducible refine And.intro ?_ ?_
  omega
  with_reducible refine And.intro ?_ ?_
  omega
  with_reducible refine And.intro ?_ ?_
  omega
  with_reducible refine fX3_valid (by assumption) (fun hm => ?_) (fun hm => ?_)
  simp only [eX3_isValid_30, eX3_isValid_33, eX3_isValid_37, eX3_isValid_38, i10, if_false, kx_l, tl_s, nb_0, nb_1, true_and]
  with_reducible refine And.intro ?_ ?_
  omega
  with_reducible refine And.intro ?_ ?_
  omega
  with_reducible exact hT ka kn r e1 hm.2 _ h1
  simp only [eX3_isValid_30, eX3_isValid_33, eX3_isValid_37, eX3_isValid_38, if_true, kx_l, tl_s, nb_0, nb_1, true_and]
  with_reducible refine And.intro ?_ ?_
  omega
  with_reducible refine And.intro ?_ ?_
  omega
  ((with_reducible refine isQ (Q := Q) ?_); exact hF ka kn r e1 (fun h => hm ⟨Or.inl rfl, h⟩) _ h1)
set_option maxHeartbeats 4000000 in
theorem fX3_isValidSmall {a0 a1 : Int32} (hM : MS g w0 y nM kd th s w) (hX : ¬ (okC a0 ∧ okN a1) → ∀ w', MS g w0 y nM kd 1 s w' → Q (.inl (some (.int 0))) w') (hS : okC a0 → okN a1 → s.2.1 a0.toNatClampNeg = none → ∀ w', MS g w0 y nM kd 2 s w' → Q (.inl (some (.int 0))) w') (hT : okC a0 → okN a1 → ∀ r, s.2.1 a0.toNatClampNeg = some r → (sP r ∧ hP r (s.1 a1.toNatClampNeg)) → ∀ w', MS g w0 y nM kd 0 s w' → Q (.inl (some (.int 1))) w') (hF : okC a0 → okN a1 → ∀ r, s.2.1 a0.toNatClampNeg = some r → ¬ ((sP r ∧ hP r (s.1 a1.toNatClampNeg))) → ∀ w', MS g w0 y nM kd 0 s w' → Q (.inl (some (.int 0))) w') : WP (MX3_isValidSmall g) Q (0, [some (.ref y), some (.int a0), some (.int a1)], [], w, 0, 0) := by
  simp only [eX3_isValidSmall_0, wt_nil, Nat.add_zero]
  with_reducible refine And.intro ?_ ?_
  with_reducible refine go_S (by assumption) (fun _ _ hY => ?_)
  with_reducible exact trivial
  with_reducible refine And.intro ?_ ?_
  omega
  with_reducible refine And.intro ?_ ?_
  omega
  with_reducible refine And.intro ?_ ?_
  omega
  with_reducible refine fX3_isNoAsked (by assumption) (fun _ w1 h1 => ?_) (fun _ _ _ w1 h1 => ?_) (fun ka kn r e1 w1 h1 => ?_)
  simp only [eX3_isValidSmall_6, eX3_isValidSmall_9, eX3_isValidSmall_13, eX3_isValidSmall_37, eX3_isValidSmall_38, i10, if_false, kx_l, tl_s, nb_0, true_and]
  with_reducible refine And.intro ?_ ?_
  omega
  with_reducible refine And.intro ?_ ?_
  omega
  with_reducible exact hX (by assumption) _ (by assumption)
  simp only [eX3_isValidSmall_6, eX3_isValidSmall_9, eX3_isValidSmall_13, eX3_isValidSmall_37, eX3_isValidSmall_38, i10, if_false, kx_l, tl_s, nb_0, true_and]
  with_reducible refine And.intro ?_ ?_
  omega
  with_reducible refine And.intro ?_ ?_
  omega
  with_reducible exact hS (by assumption) (by assumption) (by assumption) _ (by assumption)
  simp only [eX3_isValidSmall_6, eX3_isValidSmall_9, eX3_isValidSmall_13, eX3_isValidSmall_37, eX3_isValidSmall_38, if_true, kx_l, tl_s, nb_0, true_and]
  with_reducible refine go_S (by assumption) (fun _ _ hY => ?_)
  simp only [eX3_isValidSmall_14, wt_nil, g0, gS, ex1, Nat.add_zero]
  with_reducible refine And.intro ?_ ?_
  with_reducible exact MS.gC (by assumption) (by assumption)
  with_reducible refine And.intro ?_ ?_
  omega
  with_reducible refine And.intro ?_ ?_
  omega
  with_reducible refine And.intro ?_ ?_
  omega
  with_reducible refine sGetK (by assumption) (by assumption) (by assumption) (by assumption) (fun _ hb => ?_)
  simp only [eX3_isValidSmall_17R, eX3_isValidSmall_20, eX3_isValidSmall_24, kx_l, tl_s]
  with_reducible refine And.intro ?_ ?_
  with_reducible exact rowA.ca (by assumption)
  with_reducible refine go_S (by assumption) (fun _ _ hY => ?_)
  simp only [eX3_isValidSmall_25, eX3_isValidSmall_26, wt_nil, g0, gS, ex1, Nat.add_zero]
  with_reducible refine gl_S (by assumption) ?_
  with_reducible refine And.intro ?_ ?_
  with_reducible exact vpi8k (by assumption)
  with_reducible refine And.intro ?_ ?_
  omega
  with_reducible refine And.intro ?_ ?_
  omega
  with_reducible refine And.intro ?_ ?_
  omega
  with_reducible refine fX3_valid (by assumption) (fun hm => ?_) (fun hm => ?_)
  simp only [eX3_isValidSmall_30, eX3_isValidSmall_33, eX3_isValidSmall_37, eX3_isValidSmall_38, i10, if_false, kx_l, tl_s, nb_0, nb_1, true_and]
  with_reducible refine And.intro ?_ ?_
  omega
  with_reducible refine And.intro ?_ ?_
  omega
  with_reducible exact hT ka kn r e1 ⟨hm.1.resolve_left n10', hm.2⟩ _ h1
  simp only [eX3_isValidSmall_30, eX3_isValidSmall_33, eX3_isValidSmall_37, eX3_isValidSmall_38, if_true, kx_l, tl_s, nb_0, nb_1, true_and]
  with_reducible refine And.intro ?_ ?_
  omega
  with_reducible refine And.intro ?_ ?_
  omega
  ((with_reducible refine isQ (Q := Q) ?_); exact hF ka kn r e1 (fun h => hm ⟨Or.inr h.1, h.2⟩) _ h1)
set_option maxHeartbeats 4000000 in
theorem fX3_areSame {a0 a1 : Int32} (hM : MS g w0 y nM kd th s w) (hX : ¬ (okC a0 ∧ okC a1) → ∀ w', MS g w0 y nM kd 1 s w' → Q (.inl (some (.int 0))) w') (hS : okC a0 → okC a1 → (s.2.1 a0.toNatClampNeg = none ∨ s.2.1 a1.toNatClampNeg = none) → ∀ w', MS g w0 y nM kd 2 s w' → Q (.inl (some (.int 0))) w') (hT : okC a0 → okC a1 → ∀ r q, s.2.1 a0.toNatClampNeg = some r → s.2.1 a1.toNatClampNeg = some q → mP r q → ∀ w', MS g w0 y nM kd 0 s w' → Q (.inl (some (.int 1))) w') (hF : okC a0 → okC a1 → ∀ r q, s.2.1 a0.toNatClampNeg = some r → s.2.1 a1.toNatClampNeg = some q → ¬ mP r q → ∀ w', MS g w0 y nM kd 0 s w' → Q (.inl (some (.int 0))) w') : WP (MX3_areSame g) Q (0, [some (.ref y), some (.int a0), some (.int a1)], [], w, 0, 0) := by
  simp only [eX3_areSame_0, wt_nil, wt_ref, Nat.add_zero]
  with_reducible refine And.intro ?_ ?_
  omega
  with_reducible refine And.intro ?_ ?_
  omega
  with_reducible refine And.intro ?_ ?_
  omega
  with_reducible refine fX3_isNoCard (fun _ => ?_) (fun _ => ?_)
  simp only [eX3_areSame_5, eX3_areSame_8, eX3_areSame_15, eX3_areSame_20, i10, if_false, kx_l, wt_nil, wt_ref, tl_s, Nat.add_zero]
  with_reducible refine And.intro ?_ ?_
  with_reducible refine go_S (by assumption) (fun _ _ hY => ?_)
  with_reducible exact trivial
  with_reducible refine And.intro ?_ ?_
  omega
  with_reducible refine And.intro ?_ ?_
  omega
  with_reducible refine And.intro ?_ ?_
  omega
  with_reducible refine fX3_start (by assumption) (by decide) (fun _ w1 h1 => ?_) (fun _ w1 h1 => ?_)
  with_reducible exact absurd (by assumption) n10'
  simp only [eX3_areSame_24, eX3_areSame_27, eX3_areSame_88, eX3_areSame_89, i10, if_false, kx_l, wt_nil, wt_ref, tl_s, nb_0, true_and, Nat.add_zero]
  with_reducible refine And.intro ?_ ?_
  omega
  with_reducible refine And.intro ?_ ?_
  omega
  with_reducible exact hX (fun h => absurd h.1 (by assumption)) _ (by assumption)
  simp only [eX3_areSame_5, eX3_areSame_8, eX3_areSame_15, eX3_areSame_20, if_true, kx_l, wt_nil, wt_ref, tl_s, Nat.add_zero]
  with_reducible refine And.intro ?_ ?_
  omega
  with_reducible refine And.intro ?_ ?_
  omega
  with_reducible refine And.intro ?_ ?_
  omega
  with_reducible refine fX3_isNoCard (fun _ => ?_) (fun _ => ?_)
  simp only [eX3_areSame_12, eX3_areSame_15, eX3_areSame_19, eX3_areSame_20, i10, if_false, kx_l, wt_nil, tl_s, Nat.add_zero]
  with_reducible refine And.intro ?_ ?_
  with_reducible refine go_S (by assumption) (fun _ _ hY => ?_)
  with_reducible exact trivial
  with_reducible refine And.intro ?_ ?_
  omega
  with_reducible refine And.intro ?_ ?_
  omega
  with_reducible refine And.intro ?_ ?_
  omega
  with_reducible refine fX3_start (by assumption) (by decide) (fun _ w1 h1 => ?_) (fun _ w1 h1 => ?_)
  with_reducible exact absurd (by assumption) n10'
  simp only [eX3_areSame_24, eX3_areSame_27, eX3_areSame_88, eX3_areSame_89, i10, if_false, kx_l, wt_nil, wt_ref, tl_s, nb_0, true_and, Nat.add_zero]
  with_reducible refine And.intro ?_ ?_
  omega
  with_reducible refine And.intro ?_ ?_
  omega
  with_reducible exact hX (fun h => absurd h.2 (by assumption)) _ (by assumption)
  simp only [eX3_areSame_12, eX3_areSame_15, eX3_areSame_19, eX3_areSame_20, if_true, kx_l, wt_nil, tl_s, Nat.add_zero]
  with_reducible refine And.intro ?_ ?_
  with_reducible refine go_S (by assumption) (fun _ _ hY => ?_)
  with_reducible exact trivial
  with_reducible refine And.intro ?_ ?_
  omega
  with_reducible refine And.intro ?_ ?_
  omega
  with_reducible refine And.intro ?_ ?_
  omega
  with_reducible refine fX3_start (by assumption) (by decide) (fun _ w1 h1 => ?_) (fun _ w1 h1 => ?_)
  simp only [eX3_areSame_24, eX3_areSame_27, eX3_areSame_88, eX3_areSame_89, if_true, kx_l, wt_nil, wt_ref, tl_s, nb_0, true_and, Nat.add_zero]
  with_reducible refine And.intro ?_ ?_
  with_reducible refine go_S (by assumption) (fun _ _ hY => ?_)
  with_reducible exact trivial
  with_reducible refine And.intro ?_ ?_
  omega
  with_reducible refine And.intro ?_ ?_
  omega
  with_reducible refine And.intro ?_ ?_
  omega
  with_reducible refine fX3_isBare (by assumption) (by assumption) (fun _ => ?_) (fun _ _ => ?_)
  simp only [eX3_areSame_33, eX3_areSame_36, eX3_areSame_44, eX3_areSame_49, i10, if_false, kx_l, wt_nil, wt_ref, tl_s, Nat.add_zero]
  with_reducible refine And.intro ?_ ?_
  with_reducible refine go_S (by assumption) (fun _ _ hY => ?_)
  with_reducible exact trivial
  with_reducible refine And.intro ?_ ?_
  omega
  with_reducible refine And.intro ?_ ?_
  omega
  with_reducible refine And.intro ?_ ?_
  omega
  with_reducible refine fX3_refuse (by assumption) (by decide) (fun _ => ?_) (fun _ w2 h2 => ?_)
  with_reducible exact absurd (by assumption) n10'
  simp only [eX3_areSame_53, eX3_areSame_56, eX3_areSame_60, eX3_areSame_88, eX3_areSame_89, i10, if_false, kx_l, tl_s, nb_0, true_and]
  with_reducible refine And.intro ?_ ?_
  omega
  with_reducible refine And.intro ?_ ?_
  omega
  with_reducible exact hS (by assumption) (by assumption) (Or.inl (by assumption)) _ (by assumption)
  simp only [eX3_areSame_33, eX3_areSame_36, eX3_areSame_44, eX3_areSame_49, if_true, kx_l, wt_nil, wt_ref, tl_s, Nat.add_zero]
  with_reducible refine And.intro ?_ ?_
  with_reducible refine go_S (by assumption) (fun _ _ hY => ?_)
  with_reducible exact trivial
  with_reducible refine And.intro ?_ ?_
  omega
  with_reducible refine And.intro ?_ ?_
  omega
  with_reducible refine And.intro ?_ ?_
  omega
  with_reducible refine fX3_isBare (by assumption) (by assumption) (fun _ => ?_) (fun _ _ => ?_)
  simp only [eX3_areSame_41, eX3_areSame_44, eX3_areSame_48, eX3_areSame_49, i10, if_false, kx_l, wt_nil, tl_s, Nat.add_zero]
  with_reducible refine And.intro ?_ ?_
  with_reducible refine go_S (by assumption) (fun _ _ hY => ?_)
  with_reducible exact trivial
  with_reducible refine And.intro ?_ ?_
  omega
  with_reducible refine And.intro ?_ ?_
  omega
  with_reducible refine And.intro ?_ ?_
  omega
  with_reducible refine fX3_refuse (by assumption) (by decide) (fun _ => ?_) (fun _ w2 h2 => ?_)
  with_reducible exact absurd (by assumption) n10'
  simp only [eX3_areSame_53, eX3_areSame_56, eX3_areSame_60, eX3_areSame_88, eX3_areSame_89, i10, if_false, kx_l, tl_s, nb_0, true_and]
  with_reducible refine And.intro ?_ ?_
  omega
  with_reducible refine And.intro ?_ ?_
  omega
  with_reducible exact hS (by assumption) (by assumption) (Or.inr (by assumption)) _ (by assumption)
  simp only [eX3_areSame_41, eX3_areSame_44, eX3_areSame_48, eX3_areSame_49, if_true, kx_l, wt_nil, tl_s, Nat.add_zero]
  with_reducible refine And.intro ?_ ?_
  with_reducible refine go_S (by assumption) (fun _ _ hY => ?_)
  with_reducible exact trivial
  with_reducible refine And.intro ?_ ?_
  omega
  with_reducible refine And.intro ?_ ?_
  omega
  with_reducible refine And.intro ?_ ?_
  omega
  with_reducible refine fX3_refuse (by assumption) (by decide) (fun _ => ?_) (fun _ w2 h2 => ?_)
  simp only [eX3_areSame_53, eX3_areSame_56, eX3_areSame_60, eX3_areSame_88, eX3_areSame_89, if_true, kx_l, tl_s, nb_0, true_and]
  with_reducible refine go_S (by assumption) (fun _ _ hY => ?_)
  simp only [eX3_areSame_61, wt_nil, g0, gS, ex1, Nat.add_zero]
  with_reducible refine And.intro ?_ ?_
  with_reducible exact MS.gC (by assumption) (by assumption)
  with_reducible refine And.intro ?_ ?_
  omega
  with_reducible refine And.intro ?_ ?_
  omega
  with_reducible refine And.intro ?_ ?_
  omega
  with_reducible refine sGetK (i := a0) (by assumption) (by assumption) (by assumption) (by assumption) (fun _ hb0 => ?_)
  simp only [eX3_areSame_64R, eX3_areSame_67, eX3_areSame_71, kx_l, tl_s]
  with_reducible refine And.intro ?_ ?_
  with_reducible exact rowA.ca (by assumption)
  with_reducible refine go_S (by assumption) (fun _ _ hY => ?_)
  simp only [eX3_areSame_72, wt_nil, wt_ref, g0, gS, ex1, Nat.add_zero]
  with_reducible refine And.intro ?_ ?_
  with_reducible exact MS.gC (by assumption) (by assumption)
  with_reducible refine And.intro ?_ ?_
  omega
  with_reducible refine And.intro ?_ ?_
  omega
  with_reducible refine And.intro ?_ ?_
  omega
  with_reducible refine sGetK (i := a1) (by assumption) (by assumption) (by assumption) (by assumption) (fun _ hb1 => ?_)
  simp only [eX3_areSame_75R, eX3_areSame_78RR, kx_l, wt_nil, tl_s, Nat.add_zero]
  with_reducible refine And.intro ?_ ?_
  with_reducible exact rowA.ca (by assumption)
  with_reducible refine And.intro ?_ ?_
  omega
  with_reducible refine And.intro ?_ ?_
  omega
  with_reducible refine And.intro ?_ ?_
  omega
  with_reducible refine fX3_same hb0 hb1 (fun hm => ?_) (fun hm => ?_)
  simp only [eX3_areSame_81, eX3_areSame_84, eX3_areSame_88, eX3_areSame_89, i10, if_false, kx_l, tl_s, nb_0, nb_1, true_and]
  with_reducible refine And.intro ?_ ?_
  omega
  with_reducible refine And.intro ?_ ?_
  omega
  with_reducible exact hT (by assumption) (by assumption) _ _ (by assumption) (by assumption) hm _ (by assumption)
  simp only [eX3_areSame_81, eX3_areSame_84, eX3_areSame_88, eX3_areSame_89, if_true, kx_l, tl_s, nb_0, nb_1, true_and]
  with_reducible refine And.intro ?_ ?_
  omega
  with_reducible refine And.intro ?_ ?_
  omega
  with_reducible exact hF (by assumption) (by assumption) _ _ (by assumption) (by assumption) hm _ (by assumption)
  with_reducible exact n00x (by assumption)
  with_reducible exact n00x (by assumption)
end
end
/-! 75.mf8.lean.txt -/
section
section
variable {g : RO} {Q : Ot → Hw → Prop} {w0 w : Hw} {y nM : Nat} {kd th : Int32} {s : AS}
/-- the place found so far -/
def skV (f : Nat → R4) (r : R4) (c : Int32) : Nat → Int32
  | 0 => -1
  | j + 1 => if mP (f j) r ∧ (¬ c = 0 ∨ skV f r c j = -1) then Int32.ofNat j else skV f r c j
theorem skV_t {f : Nat → R4} {r : R4} {c : Int32} {j : Nat} (h : mP (f j) r) (k : ¬ c = 0 ∨ skV f r c j = -1) : Int32.ofNat j = skV f r c (j + 1) := by
  show _ = if mP (f j) r ∧ (¬ c = 0 ∨ skV f r c j = -1) then Int32.ofNat j else skV f r c j
  rw [if_pos ⟨h, k⟩]
theorem skV_n {f : Nat → R4} {r : R4} {c : Int32} {j : Nat} (h : ¬ mP (f j) r) : skV f r c j = skV f r c (j + 1) := by
  show _ = if mP (f j) r ∧ (¬ c = 0 ∨ skV f r c j = -1) then Int32.ofNat j else skV f r c j
  rw [if_neg (fun k => h k.1)]
theorem skV_m {f : Nat → R4} {r : R4} {c : Int32} {j : Nat} (h0 : c = 0) (h : ¬ skV f r c j = -1) : skV f r c j = skV f r c (j + 1) := by
  show _ = if mP (f j) r ∧ (¬ c = 0 ∨ skV f r c j = -1) then Int32.ofNat j else skV f r c j
  rw [if_neg (fun k => k.2.elim (fun z => z h0) h)]
theorem skV_0 {f : Nat → R4} {r : R4} {c : Int32} : ∀ {N : Nat}, (∀ i, i < N → ¬ mP r (f i)) → skV f r c N = -1
  | 0, _ => rfl
  | N + 1, h => by
    rw [← skV_n (fun k => h N (by omega) (mSy k))]
    exact skV_0 (fun i hi => h i (by omega))
theorem skV_F {f : Nat → R4} {r : R4} {c : Int32} {i : Nat} (h0 : c = 0) (h : mP r (f i)) (k : ∀ j, j < i → ¬ mP r (f j)) (hi : i < 900) : ∀ {N : Nat}, i < N → skV f r c N = Int32.ofNat i
  | 0, z => absurd z (Nat.not_lt_zero _)
  | N + 1, z => by
    rcases Nat.lt_or_ge i N with q | q
    · have e := skV_F h0 h k hi q
      rw [← skV_m h0 (by rw [e]; exact oN9 (by omega)), e]
    · obtain rfl : i = N := by omega
      exact (skV_t (mSy h) (Or.inr (skV_0 k))).symm
theorem fstO {f : Nat → R4} {r : R4} : ∀ N : Nat, (∀ i, i < N → ¬ mP r (f i)) ∨ ∃ i, i < N ∧ mP r (f i) ∧ ∀ k, k < i → ¬ mP r (f k)
  | 0 => Or.inl (fun i hi => absurd hi (Nat.not_lt_zero _))
  | N + 1 => by
    rcases fstO (f := f) (r := r) N with h | ⟨i, hi, h1, h2⟩
    · by_cases m : mP r (f N)
      · exact Or.inr ⟨N, by omega, m, h⟩
      · refine Or.inl (fun i hi => ?_)
        rcases Nat.lt_or_ge i N with q | q
        · exact h i q
        · obtain rfl : i = N := by omega
          exact m
    · exact Or.inr ⟨i, by omega, h1, h2⟩
theorem okPj {n : Int32} {j : Nat} (h : j < n.toInt.toNat) (hn : n.toInt ≤ 12) : okP n (Int32.ofNat j) := ⟨oN0 (by omega), i32_of_lt (by rw [oNt (by omega)]; omega)⟩
theorem sGetPj {cL pL j : Nat} (hM : MS g w0 y nM kd th s w) (hY : isY w y nM cL pL) (k : j < s.2.2.1.toInt.toNat) (hQ : ∀ b, rowA w b (s.2.2.2.1 j) → Q (.inl (some (.ref b))) w) : WP (MJx4a65c_get_915e3 g) Q (0, [some (.ref pL), some (.int (Int32.ofNat j))], [], w, 0, 0) := sGetPF hM hY (okPj k hM.n0.2) (fun b hb => hQ b (by
  have nn := hM.n0
  rw [oNc (by omega)] at hb
  exact hb))
theorem l12m {n : Int32} (h : ¬ n = 12) (hn : n.toInt ≤ 12) : n < 12 := by
  have e12 : (12 : Int32).toInt = 12 := rfl
  refine i32_of_lt ?_
  rcases Int.lt_or_le n.toInt 12 with q | q
  · omega
  · exact absurd (i32_eq (by omega)) h
theorem l12e {n : Int32} (h : n = 12) : ¬ n < 12 := by
  subst h
  decide
theorem nokP {n a : Int32} (hn : 0 ≤ n.toInt ∧ n.toInt ≤ 12) (h : a < 0 ∨ n - 1 < a) : ¬ okP n a := fun k => by
  rcases h with h | h
  · exact k.1 h
  · have q := i32_lt h
    have q2 := i32_lt k.2
    have z1' : (1 : Int32).toInt = 1 := rfl
    have e1 : (n - 1).toInt = n.toInt - 1 := by rw [i32_sub (by omega) (by omega), z1']
    omega
set_option maxHeartbeats 4000000 in
theorem fX3_lay {a0 : Int32} (hM : MS g w0 y nM kd th s w) (hE : EG g w0) (hG : SG g) (hX : ¬ (okC a0) → ∀ w', MS g w0 y nM kd 1 s w' → Q (.inl (some (.int 0))) w') (hS : okC a0 → s.2.1 a0.toNatClampNeg = none → ∀ w', MS g w0 y nM kd 2 s w' → Q (.inl (some (.int 0))) w') (hF : okC a0 → ∀ r, s.2.1 a0.toNatClampNeg = some r → ¬ s.2.2.1 < 12 → ∀ w', MS g w0 y nM kd 0 (sRf s) w' → Q (.inl (some (.int (-9)))) w') (hQ : okC a0 → ∀ r, s.2.1 a0.toNatClampNeg = some r → s.2.2.1 < 12 → ∀ w', MS g w0 y nM kd 0 (sP_ s (s.2.2.1 + 1) (va_up s.2.2.2.1 s.2.2.1.toNatClampNeg r)) w' → Q (.inl (some (.int (s.2.2.1 + 1)))) w') : WP (MX3_lay g) Q (0, [some (.ref y), some (.int a0)], [], w, 0, 0) := by
  simp only [eX3_lay_0, wt_nil, Nat.add_zero]
  with_reducible refine And.intro ?_ ?_
  with_reducible refine go_S (by assumption) (fun _ _ hY => ?_)
  with_reducible exact trivial
  with_reducible refine And.intro ?_ ?_
  omega
  with_reducible refine And.intro ?_ ?_
  omega
  with_reducible refine And.intro ?_ ?_
  omega
  with_reducible refine fX3_isNone (by assumption) (fun _ w1 h1 => ?_) (fun _ _ w1 h1 => ?_) (fun ka r e1 w1 h1 => ?_)
  simp only [eX3_lay_5, eX3_lay_8, eX3_lay_10, i10, if_false, kx_l, tl_s]
  with_reducible refine And.intro ?_ ?_
  omega
  with_reducible refine And.intro ?_ ?_
  omega
  with_reducible exact hX (fun h => absurd h (by assumption)) _ (by assumption)
  simp only [eX3_lay_5, eX3_lay_8, eX3_lay_10, i10, if_false, kx_l, tl_s]
  with_reducible refine And.intro ?_ ?_
  omega
  with_reducible refine And.intro ?_ ?_
  omega
  with_reducible exact hS (by assumption) (by assumption) _ (by assumption)
  simp only [eX3_lay_5, eX3_lay_8, eX3_lay_10, if_true, kx_l, tl_s]
  with_reducible refine go_S (by assumption) (fun _ _ hY => ?_)
  simp only [eX3_lay_14, eX3_lay_17, wt_nil, g0, gS, ex1, Nat.add_zero]
  with_reducible refine And.intro ?_ ?_
  with_reducible exact MS.gP (by assumption) (by assumption)
  with_reducible refine And.intro ?_ ?_
  omega
  with_reducible refine And.intro ?_ ?_
  omega
  with_reducible refine And.intro ?_ ?_
  omega
  with_reducible refine sSizeF h1 (by assumption) ?_
  simp only [eX3_lay_19, eX3_lay_22, eX3_lay_27, eX3_lay_31, eX3_lay_35, kx_l, wt_nil, tl_s, Nat.add_zero]
  with_reducible refine itx (fun _ => ?_) (fun _ => ?_)
  with_reducible refine And.intro ?_ ?_
  with_reducible refine go_S (by assumption) (fun _ _ hY => ?_)
  with_reducible exact trivial
  with_reducible refine And.intro ?_ ?_
  omega
  with_reducible refine And.intro ?_ ?_
  omega
  with_reducible refine And.intro ?_ ?_
  omega
  with_reducible refine fX3_no h1 (fun w3 h3 => ?_)
  simp only [eX3_lay_26, kx_l, tl_s]
  with_reducible refine And.intro ?_ ?_
  omega
  with_reducible refine And.intro ?_ ?_
  omega
  with_reducible exact hF ka r e1 (l12e (by assumption)) _ h3
  with_reducible refine go_S (by assumption) (fun _ _ hY => ?_)
  simp only [g0, gS, ex1]
  with_reducible refine go_S (by assumption) (fun _ _ hY => ?_)
  simp only [eX3_lay_36, wt_nil, wt_ref, g0, gS, ex1, Nat.add_zero]
  with_reducible refine And.intro ?_ ?_
  with_reducible exact MS.gC (by assumption) (by assumption)
  with_reducible refine And.intro ?_ ?_
  omega
  with_reducible refine And.intro ?_ ?_
  omega
  with_reducible refine And.intro ?_ ?_
  omega
  with_reducible refine sGetK (by assumption) (by assumption) (by assumption) (by assumption) (fun _ hb => ?_)
  simp only [eX3_lay_39R, eX3_lay_42R, kx_l, wt_nil, tl_s, Nat.zero_add]
  with_reducible refine And.intro ?_ ?_
  with_reducible exact rowA.ca (by assumption)
  with_reducible refine And.intro ?_ ?_
  with_reducible exact MS.gP (by assumption) (by assumption)
  with_reducible refine And.intro ?_ ?_
  omega
  with_reducible refine And.intro ?_ ?_
  omega
  with_reducible refine And.intro ?_ ?_
  omega
  with_reducible refine sAddF h1 (by assumption) hE hG hb (l12m (by assumption) h1.n0.2) (fun w3 h3 => ?_)
  simp only [eX3_lay_45, kx_l, tl_s]
  with_reducible refine go_S (by assumption) (fun _ _ hY => ?_)
  (simp only [rv0, rv1, rv2, rv3])
  simp only [eX3_lay_50, wt_nil, g0, gS, ex1, Nat.add_zero]
  with_reducible refine And.intro ?_ ?_
  with_reducible exact MS.gP (by assumption) (by assumption)
  with_reducible refine And.intro ?_ ?_
  omega
  with_reducible refine And.intro ?_ ?_
  omega
  with_reducible refine And.intro ?_ ?_
  omega
  with_reducible refine sSizeF h3 (by assumption) ?_
  (simp only [rv0, rv1, rv2, rv3])
  simp only [eX3_lay_53, kx_l, tl_s]
  with_reducible refine And.intro ?_ ?_
  omega
  with_reducible refine And.intro ?_ ?_
  omega
  ((with_reducible refine isQ (Q := Q) ?_); exact hQ ka r e1 (l12m (by assumption) h1.n0.2) _ h3)
set_option maxHeartbeats 4000000 in
theorem flX3_seekNow_5 {a c : Int32} {r : R4} (hM : MS g w0 y nM kd th s w) (k : okC a) (e : s.2.1 a.toNatClampNeg = some r) (hQ : Q (.inl (some (.int (skV s.2.2.2.1 r c s.2.2.1.toInt.toNat)))) w) : ∀ (d j : Nat)  (kz mz : Nat), j + d = s.2.2.1.toInt.toNat → kz ≤ 0 → mz ≤ 0 → WP (MX3_seekNow g) Q (5, [some (.ref y), some (.int a), some (.int c), some (.int (skV s.2.2.2.1 r c j)), some (.int (Int32.ofNat j))], [], w, kz, mz) := by
  obtain ⟨hn1, hn2⟩ := hM.nn
  intro d
  induction d with
  | zero =>
    intro j  kz mz hjd hkz hmz
    have h9 : j < 1000 := (by omega)
    have hlt : ¬ Int32.ofNat j < s.2.2.1 := oNg (B := s.2.2.1.toInt.toNat) h9 hn1 (by omega)
    have hnn := oN0 h9
    have hcl := oNc h9
    obtain rfl : j = s.2.2.1.toInt.toNat := by omega
    rw [eX3_seekNow_5]
    simp only [eX3_seekNow_7]
    with_reducible refine go_S hM (fun _ _ hY => ?_)
    simp only [eX3_seekNow_11, wt_nil, wt_int, g0, gS, ex1, Nat.add_zero]
    with_reducible refine And.intro ?_ ?_
    with_reducible exact MS.gP (by assumption) (by assumption)
    with_reducible refine And.intro ?_ ?_
    omega
    with_reducible refine And.intro ?_ ?_
    with_reducible assumption
    with_reducible refine And.intro ?_ ?_
    with_reducible assumption
    with_reducible refine sSizeF hM (by assumption) ?_
    simp only [eX3_seekNow_14, eX3_seekNow_17, eX3_seekNow_21, eX3_seekNow_64, if_false, hlt, ite_le, kx_l, tl_s]
    with_reducible refine And.intro ?_ ?_
    with_reducible assumption
    with_reducible refine And.intro ?_ ?_
    with_reducible assumption
    with_reducible assumption
  | succ d ih =>
    intro j  kz mz hjd hkz hmz
    have h9 : j < 1000 := (by omega)
    have hlt : Int32.ofNat j < s.2.2.1 := oNl (B := s.2.2.1.toInt.toNat) h9 hn1 (by omega)
    have hjN : j < s.2.2.1.toInt.toNat := by omega
    have hnn := oN0 h9
    have hcl := oNc h9
    rw [eX3_seekNow_5]
    simp only [eX3_seekNow_7]
    with_reducible refine go_S hM (fun _ _ hY => ?_)
    simp only [eX3_seekNow_11, wt_nil, wt_int, g0, gS, ex1, Nat.add_zero]
    with_reducible refine And.intro ?_ ?_
    with_reducible exact MS.gP (by assumption) (by assumption)
    with_reducible refine And.intro ?_ ?_
    omega
    with_reducible refine And.intro ?_ ?_
    with_reducible assumption
    with_reducible refine And.intro ?_ ?_
    with_reducible assumption
    with_reducible refine sSizeF hM (by assumption) ?_
    simp only [eX3_seekNow_14, eX3_seekNow_17, eX3_seekNow_21, eX3_seekNow_64, if_true, hlt, ite_le, kx_l, tl_s]
    with_reducible refine go_S hM (fun _ _ hY => ?_)
    simp only [eX3_seekNow_23, wt_nil, g0, gS, ex1, Nat.add_zero]
    with_reducible refine And.intro ?_ ?_
    with_reducible exact MS.gP (by assumption) (by assumption)
    with_reducible refine And.intro ?_ ?_
    omega
    with_reducible refine And.intro ?_ ?_
    with_reducible assumption
    with_reducible refine And.intro ?_ ?_
    with_reducible assumption
    with_reducible refine sGetPj hM (by assumption) (by omega) (fun _ hb0 => ?_)
    simp only [eX3_seekNow_26R, eX3_seekNow_29, eX3_seekNow_33, kx_l, tl_s]
    with_reducible refine And.intro ?_ ?_
    with_reducible exact rowA.ca (by assumption)
    with_reducible refine go_S hM (fun _ _ hY => ?_)
    simp only [eX3_seekNow_34, wt_nil, wt_ref, g0, gS, ex1, Nat.add_zero]
    with_reducible refine And.intro ?_ ?_
    with_reducible exact MS.gC (by assumption) (by assumption)
    with_reducible refine And.intro ?_ ?_
    omega
    with_reducible refine And.intro ?_ ?_
    with_reducible assumption
    with_reducible refine And.intro ?_ ?_
    with_reducible assumption
    with_reducible refine sGetK (i := a) hM (by assumption) k e (fun _ hb => ?_)
    simp only [eX3_seekNow_37R, eX3_seekNow_40RR, kx_l, wt_nil, tl_s, Nat.add_zero]
    with_reducible refine And.intro ?_ ?_
    with_reducible exact rowA.ca (by assumption)
    with_reducible refine And.intro ?_ ?_
    omega
    with_reducible refine And.intro ?_ ?_
    with_reducible assumption
    with_reducible refine And.intro ?_ ?_
    with_reducible assumption
    with_reducible refine fX3_same hb0 hb (fun hm => ?_) (fun hm => ?_)
    simp only [eX3_seekNow_43, eX3_seekNow_46, eX3_seekNow_50, eX3_seekNow_55, eX3_seekNow_58, i10, if_false, kx_l, nl_int, tl_s]
    with_reducible refine itx (fun _ => ?_) (fun _ => ?_)
    with_reducible refine itx (fun _ => ?_) (fun _ => ?_)
    (rw [oN1, skV_t (c := c) hm (Or.inr (by assumption))]; exact ih (j + 1)  _ _ (by omega) (by first | assumption | omega) (by first | assumption | omega))
    (rw [oN1, skV_m (f := s.2.2.2.1) (r := r) (c := c) (j := j) (by assumption) (by assumption)]; exact ih (j + 1)  _ _ (by omega) (by first | assumption | omega) (by first | assumption | omega))
    (rw [oN1, skV_t (c := c) hm (Or.inl (by assumption))]; exact ih (j + 1)  _ _ (by omega) (by first | assumption | omega) (by first | assumption | omega))
    simp only [eX3_seekNow_43, eX3_seekNow_46, eX3_seekNow_50, eX3_seekNow_55, eX3_seekNow_58, if_true, kx_l, nl_int, tl_s]
    (rw [oN1, skV_n (c := c) hm]; exact ih (j + 1)  _ _ (by omega) (by first | assumption | omega) (by first | assumption | omega))
set_option maxHeartbeats 4000000 in
theorem fX3_seekNow {a c : Int32} {r : R4} (hM : MS g w0 y nM kd th s w) (k : okC a) (e : s.2.1 a.toNatClampNeg = some r) (hQ : Q (.inl (some (.int (skV s.2.2.2.1 r c s.2.2.1.toInt.toNat)))) w) : WP (MX3_seekNow g) Q (0, [some (.ref y), some (.int a), some (.int c), none, none], [], w, 0, 0) := by
  simp only [eX3_seekNow_0, nl_int]
  ((with_reducible refine isWP (pc := 5) ?_); exact flX3_seekNow_5 hM k e hQ _ 0 _ _ (Nat.zero_add _) (by decide) (by decide))
set_option maxHeartbeats 4000000 in
theorem fX3_seek {a0 a1 : Int32} (hM : MS g w0 y nM kd th s w) (hX : ¬ (okC a0) → ∀ w', MS g w0 y nM kd 1 s w' → Q (.inl (some (.int 0))) w') (hS : okC a0 → s.2.1 a0.toNatClampNeg = none → ∀ w', MS g w0 y nM kd 2 s w' → Q (.inl (some (.int 0))) w') (hQ : okC a0 → ∀ r, s.2.1 a0.toNatClampNeg = some r → ∀ w', MS g w0 y nM kd 0 s w' → Q (.inl (some (.int (skV s.2.2.2.1 r a1 s.2.2.1.toInt.toNat)))) w') : WP (MX3_seek g) Q (0, [some (.ref y), some (.int a0), some (.int a1)], [], w, 0, 0) := by
  simp only [eX3_seek_0, wt_nil, Nat.add_zero]
  with_reducible refine And.intro ?_ ?_
  with_reducible refine go_S (by assumption) (fun _ _ hY => ?_)
  with_reducible exact trivial
  with_reducible refine And.intro ?_ ?_
  omega
  with_reducible refine And.intro ?_ ?_
  omega
  with_reducible refine And.intro ?_ ?_
  omega
  with_reducible refine fX3_isNone (by assumption) (fun _ w1 h1 => ?_) (fun _ _ w1 h1 => ?_) (fun ka r e1 w1 h1 => ?_)
  simp only [eX3_seek_5, eX3_seek_8, eX3_seek_12, eX3_seek_18, i10, if_false, kx_l, wt_nil, tl_s, Nat.add_zero]
  with_reducible refine And.intro ?_ ?_
  omega
  with_reducible refine And.intro ?_ ?_
  omega
  with_reducible exact hX (fun h => absurd h (by assumption)) _ (by assumption)
  simp only [eX3_seek_5, eX3_seek_8, eX3_seek_12, eX3_seek_18, i10, if_false, kx_l, wt_nil, tl_s, Nat.add_zero]
  with_reducible refine And.intro ?_ ?_
  omega
  with_reducible refine And.intro ?_ ?_
  omega
  with_reducible exact hS (by assumption) (by assumption) _ (by assumption)
  simp only [eX3_seek_5, eX3_seek_8, eX3_seek_12, eX3_seek_18, if_true, kx_l, wt_nil, tl_s, Nat.add_zero]
  with_reducible refine And.intro ?_ ?_
  with_reducible refine go_S (by assumption) (fun _ _ hY => ?_)
  with_reducible exact trivial
  with_reducible refine And.intro ?_ ?_
  omega
  with_reducible refine And.intro ?_ ?_
  omega
  with_reducible refine And.intro ?_ ?_
  omega
  with_reducible refine fX3_seekNow h1 ka e1 ?_
  simp only [eX3_seek_18, kx_l, tl_s]
  with_reducible refine And.intro ?_ ?_
  omega
  with_reducible refine And.intro ?_ ?_
  omega
  with_reducible exact hQ ka r e1 _ h1
set_option maxHeartbeats 4000000 in
theorem fX3_lift {a0 : Int32} (hM : MS g w0 y nM kd th s w) (hX : ¬ (okC a0) → ∀ w', MS g w0 y nM kd 1 s w' → Q (.inl (some (.int 0))) w') (hS : okC a0 → s.2.1 a0.toNatClampNeg = none → ∀ w', MS g w0 y nM kd 2 s w' → Q (.inl (some (.int 0))) w') (hN : okC a0 → ∀ r, s.2.1 a0.toNatClampNeg = some r → (∀ i, i < s.2.2.1.toInt.toNat → ¬ mP r (s.2.2.2.1 i)) → ∀ w', MS g w0 y nM kd 0 s w' → Q (.inl (some (.int 0))) w') (hQ : okC a0 → ∀ r, s.2.1 a0.toNatClampNeg = some r → ∀ i, i < s.2.2.1.toInt.toNat → mP r (s.2.2.2.1 i) → (∀ k, k < i → ¬ mP r (s.2.2.2.1 k)) → ∀ w', MS g w0 y nM kd 0 (sP_ s (s.2.2.1 - 1) (rmv s.2.2.2.1 i)) w' → Q (.inl (some (.int 1))) w') : WP (MX3_lift g) Q (0, [some (.ref y), some (.int a0), none], [], w, 0, 0) := by
  obtain ⟨hn1, hn2⟩ := hM.nn
  simp only [eX3_lift_0, wt_nil, Nat.add_zero]
  with_reducible refine And.intro ?_ ?_
  with_reducible refine go_S (by assumption) (fun _ _ hY => ?_)
  with_reducible exact trivial
  with_reducible refine And.intro ?_ ?_
  omega
  with_reducible refine And.intro ?_ ?_
  omega
  with_reducible refine And.intro ?_ ?_
  omega
  with_reducible refine fX3_isNone (by assumption) (fun _ w1 h1 => ?_) (fun _ _ w1 h1 => ?_) (fun ka r e1 w1 h1 => ?_)
  simp only [eX3_lift_5, eX3_lift_8, eX3_lift_10, i10, if_false, kx_l, wt_nil, tl_s, Nat.add_zero]
  with_reducible refine And.intro ?_ ?_
  omega
  with_reducible refine And.intro ?_ ?_
  omega
  with_reducible exact hX (fun h => absurd h (by assumption)) _ (by assumption)
  simp only [eX3_lift_5, eX3_lift_8, eX3_lift_10, i10, if_false, kx_l, wt_nil, tl_s, Nat.add_zero]
  with_reducible refine And.intro ?_ ?_
  omega
  with_reducible refine And.intro ?_ ?_
  omega
  with_reducible exact hS (by assumption) (by assumption) _ (by assumption)
  simp only [eX3_lift_5, eX3_lift_8, eX3_lift_10, if_true, kx_l, wt_nil, tl_s, Nat.add_zero]
  with_reducible refine And.intro ?_ ?_
  with_reducible refine go_S (by assumption) (fun _ _ hY => ?_)
  with_reducible exact trivial
  with_reducible refine And.intro ?_ ?_
  omega
  with_reducible refine And.intro ?_ ?_
  omega
  with_reducible refine And.intro ?_ ?_
  omega
  ((with_reducible refine fX3_seekNow h1 ka e1 ?_); rcases fstO (f := s.2.2.2.1) (r := r) s.2.2.1.toInt.toNat with hno | ⟨i, hi, hm, hf⟩)
  (rw [skV_0 hno])
  simp only [eX3_lift_16, eX3_lift_22, eX3_lift_26, eX3_lift_31, eX3_lift_36, eX3_lift_40, eX3_lift_41, if_true, kx_l, wt_nil, nl_int, tl_s, Nat.add_zero]
  with_reducible refine And.intro ?_ ?_
  omega
  with_reducible refine And.intro ?_ ?_
  omega
  with_reducible refine And.intro ?_ ?_
  omega
  with_reducible refine fX3_one (Or.inl rfl) ?_
  simp only [eX3_lift_44, kx_l, tl_s]
  with_reducible refine And.intro ?_ ?_
  omega
  with_reducible refine And.intro ?_ ?_
  omega
  with_reducible exact hN ka r e1 hno _ h1
  (rw [skV_F rfl hm hf (by omega) hi])
  simp only [eX3_lift_16, eX3_lift_22, eX3_lift_26, eX3_lift_31, eX3_lift_36, eX3_lift_40, eX3_lift_41, kx_l, wt_nil, nl_int, tl_s, Nat.add_zero]
  with_reducible refine itx (fun _ => ?_) (fun _ => ?_)
  (exact absurd (by assumption) (oN9 (i := i) (by omega)))
  with_reducible refine go_S (by assumption) (fun _ _ hY => ?_)
  simp only [eX3_lift_27, wt_nil, g0, gS, ex1, Nat.add_zero]
  with_reducible refine And.intro ?_ ?_
  with_reducible exact MS.gP (by assumption) (by assumption)
  with_reducible refine And.intro ?_ ?_
  omega
  with_reducible refine And.intro ?_ ?_
  omega
  with_reducible refine And.intro ?_ ?_
  omega
  with_reducible refine sRemF h1 (by assumption) hi (fun _ w3 h3 => ?_)
  simp only [eX3_lift_30R, eX3_lift_31, eX3_lift_36, eX3_lift_40, eX3_lift_41, kx_l, wt_nil, tl_s, Nat.add_zero]
  with_reducible refine itx (fun _ => ?_) (fun _ => ?_)
  with_reducible refine And.intro ?_ ?_
  (exact absurd (by assumption) (oN9 (i := i) (by omega)))
  with_reducible refine And.intro ?_ ?_
  (exact absurd (by assumption) (oN9 (i := i) (by omega)))
  with_reducible refine And.intro ?_ ?_
  (exact absurd (by assumption) (oN9 (i := i) (by omega)))
  (exact absurd (by assumption) (oN9 (i := i) (by omega)))
  with_reducible refine And.intro ?_ ?_
  omega
  with_reducible refine And.intro ?_ ?_
  omega
  with_reducible refine And.intro ?_ ?_
  omega
  with_reducible refine fX3_one (Or.inr rfl) ?_
  simp only [eX3_lift_44, kx_l, tl_s]
  with_reducible refine And.intro ?_ ?_
  omega
  with_reducible refine And.intro ?_ ?_
  omega
  with_reducible exact hQ ka r e1 i hi hm hf _ h3
set_option maxHeartbeats 4000000 in
theorem fX3_pick {a0 a1 : Int32} (hM : MS g w0 y nM kd th s w) (hX : ¬ (okP s.2.2.1 a0 ∧ okC a1) → ∀ w', MS g w0 y nM kd 1 s w' → Q (.inl (some (.int 0))) w') (hN : okP s.2.2.1 a0 → okC a1 → s.2.1 a1.toNatClampNeg = none → ∀ w', MS g w0 y nM kd 0 (sC s (va_up s.2.1 a1.toNatClampNeg (some (s.2.2.2.1 a0.toNatClampNeg)))) w' → Q (.inl (some (.int 0))) w') (hS : okP s.2.2.1 a0 → okC a1 → ∀ r, s.2.1 a1.toNatClampNeg = some r → ∀ w', MS g w0 y nM kd 0 (sC s (va_up s.2.1 a1.toNatClampNeg (some (s.2.2.2.1 a0.toNatClampNeg)))) w' → Q (.inl (some (.int 1))) w') : WP (MX3_pick g) Q (0, [some (.ref y), some (.int a0), some (.int a1), none], [], w, 0, 0) := by
  simp only [eX3_pick_0]
  with_reducible refine go_S (by assumption) (fun _ _ hY => ?_)
  simp only [eX3_pick_7, eX3_pick_10, wt_nil, wt_int, wt_ref, g0, gS, ex1, Nat.add_zero]
  with_reducible refine And.intro ?_ ?_
  with_reducible exact MS.gP (by assumption) (by assumption)
  with_reducible refine And.intro ?_ ?_
  omega
  with_reducible refine And.intro ?_ ?_
  omega
  with_reducible refine And.intro ?_ ?_
  omega
  with_reducible refine sSizeF (by assumption) (by assumption) ?_
  simp only [eX3_pick_11, kx_l, wt_nil, wt_ref, tl_s, Nat.add_zero]
  with_reducible refine And.intro ?_ ?_
  omega
  with_reducible refine And.intro ?_ ?_
  omega
  with_reducible refine And.intro ?_ ?_
  omega
  with_reducible refine fX3_isIn (fun _ _ => ?_) (fun _ => ?_)
  simp only [eX3_pick_15, eX3_pick_18, eX3_pick_25, eX3_pick_30, i10, if_false, kx_l, wt_nil, wt_ref, tl_s, Nat.add_zero]
  with_reducible refine And.intro ?_ ?_
  omega
  with_reducible refine And.intro ?_ ?_
  omega
  with_reducible refine And.intro ?_ ?_
  omega
  with_reducible refine fX3_isNoCard (fun _ => ?_) (fun _ => ?_)
  simp only [eX3_pick_22, eX3_pick_25, eX3_pick_29, eX3_pick_30, i10, if_false, kx_l, wt_nil, tl_s, Nat.add_zero]
  with_reducible refine And.intro ?_ ?_
  with_reducible refine go_S (by assumption) (fun _ _ hY => ?_)
  with_reducible exact trivial
  with_reducible refine And.intro ?_ ?_
  omega
  with_reducible refine And.intro ?_ ?_
  omega
  with_reducible refine And.intro ?_ ?_
  omega
  with_reducible refine fX3_start (by assumption) (by decide) (fun _ w1 h1 => ?_) (fun _ w1 h1 => ?_)
  with_reducible exact absurd (by assumption) n10'
  simp only [eX3_pick_34, eX3_pick_37, eX3_pick_39, i10, if_false, kx_l, wt_nil, tl_s, Nat.add_zero]
  with_reducible refine And.intro ?_ ?_
  omega
  with_reducible refine And.intro ?_ ?_
  omega
  with_reducible exact hX (fun h => absurd h.2 (by assumption)) _ (by assumption)
  simp only [eX3_pick_22, eX3_pick_25, eX3_pick_29, eX3_pick_30, if_true, kx_l, wt_nil, tl_s, Nat.add_zero]
  with_reducible refine And.intro ?_ ?_
  with_reducible refine go_S (by assumption) (fun _ _ hY => ?_)
  with_reducible exact trivial
  with_reducible refine And.intro ?_ ?_
  omega
  with_reducible refine And.intro ?_ ?_
  omega
  with_reducible refine And.intro ?_ ?_
  omega
  with_reducible refine fX3_start (by assumption) (by decide) (fun _ w1 h1 => ?_) (fun _ w1 h1 => ?_)
  simp only [eX3_pick_34, eX3_pick_37, eX3_pick_39, if_true, kx_l, wt_nil, tl_s, Nat.add_zero]
  with_reducible refine And.intro ?_ ?_
  with_reducible refine go_S (by assumption) (fun _ _ hY => ?_)
  with_reducible exact trivial
  with_reducible refine And.intro ?_ ?_
  omega
  with_reducible refine And.intro ?_ ?_
  omega
  with_reducible refine And.intro ?_ ?_
  omega
  with_reducible refine fX3_isBare (by assumption) (by assumption) (fun _ => ?_) (fun _ _ => ?_)
  simp only [eX3_pick_44, eX3_pick_47, eX3_pick_51, eX3_pick_52, i10, if_false, kx_l, wt_nil, tl_s, Nat.add_zero]
  with_reducible refine And.intro ?_ ?_
  omega
  with_reducible refine And.intro ?_ ?_
  omega
  with_reducible refine And.intro ?_ ?_
  omega
  with_reducible refine fX3_one (Or.inl rfl) ?_
  simp only [eX3_pick_55, eX3_pick_60, eX3_pick_65, kx_l, nl_int, tl_s]
  with_reducible refine go_S (by assumption) (fun _ _ hY => ?_)
  simp only [g0, gS, ex1]
  with_reducible refine go_S (by assumption) (fun _ _ hY => ?_)
  simp only [eX3_pick_66, wt_nil, wt_int, wt_ref, g0, gS, ex1, Nat.add_zero]
  with_reducible refine And.intro ?_ ?_
  with_reducible exact MS.gP (by assumption) (by assumption)
  with_reducible refine And.intro ?_ ?_
  omega
  with_reducible refine And.intro ?_ ?_
  omega
  with_reducible refine And.intro ?_ ?_
  omega
  with_reducible refine sGetPF h1 (by assumption) ⟨by assumption, pz_lt hM.n0 (by assumption)⟩ (fun _ hb => ?_)
  simp only [eX3_pick_69R, eX3_pick_72R, kx_l, wt_nil, tl_s, Nat.add_zero]
  with_reducible refine And.intro ?_ ?_
  with_reducible exact rowA.ca (by assumption)
  with_reducible refine And.intro ?_ ?_
  with_reducible exact MS.gC (by assumption) (by assumption)
  with_reducible refine And.intro ?_ ?_
  omega
  with_reducible refine And.intro ?_ ?_
  omega
  with_reducible refine And.intro ?_ ?_
  omega
  with_reducible refine sSetFR h1 (by assumption) hb (by assumption) (fun w3 h3 => ?_) (fun _ w3 h3 => ?_)
  simp only [eX3_pick_75N, eX3_pick_76, kx_l, tl_s]
  with_reducible refine And.intro ?_ ?_
  omega
  with_reducible refine And.intro ?_ ?_
  omega
  with_reducible exact hN ⟨by assumption, pz_lt hM.n0 (by assumption)⟩ (by assumption) (by assumption) _ h3
  simp only [eX3_pick_75R, eX3_pick_76, kx_l, tl_s]
  with_reducible refine And.intro ?_ ?_
  omega
  with_reducible refine And.intro ?_ ?_
  omega
  with_reducible exact hN ⟨by assumption, pz_lt hM.n0 (by assumption)⟩ (by assumption) (by assumption) _ h3
  simp only [eX3_pick_44, eX3_pick_47, eX3_pick_51, eX3_pick_52, if_true, kx_l, wt_nil, tl_s, Nat.add_zero]
  with_reducible refine And.intro ?_ ?_
  omega
  with_reducible refine And.intro ?_ ?_
  omega
  with_reducible refine And.intro ?_ ?_
  omega
  with_reducible refine fX3_one (Or.inr rfl) ?_
  simp only [eX3_pick_55, eX3_pick_60, eX3_pick_65, kx_l, nl_int, tl_s]
  with_reducible refine go_S (by assumption) (fun _ _ hY => ?_)
  simp only [g0, gS, ex1]
  with_reducible refine go_S (by assumption) (fun _ _ hY => ?_)
  simp only [eX3_pick_66, wt_nil, wt_int, wt_ref, g0, gS, ex1, Nat.add_zero]
  with_reducible refine And.intro ?_ ?_
  with_reducible exact MS.gP (by assumption) (by assumption)
  with_reducible refine And.intro ?_ ?_
  omega
  with_reducible refine And.intro ?_ ?_
  omega
  with_reducible refine And.intro ?_ ?_
  omega
  with_reducible refine sGetPF h1 (by assumption) ⟨by assumption, pz_lt hM.n0 (by assumption)⟩ (fun _ hb => ?_)
  simp only [eX3_pick_69R, eX3_pick_72R, kx_l, wt_nil, tl_s, Nat.add_zero]
  with_reducible refine And.intro ?_ ?_
  with_reducible exact rowA.ca (by assumption)
  with_reducible refine And.intro ?_ ?_
  with_reducible exact MS.gC (by assumption) (by assumption)
  with_reducible refine And.intro ?_ ?_
  omega
  with_reducible refine And.intro ?_ ?_
  omega
  with_reducible refine And.intro ?_ ?_
  omega
  with_reducible refine sSetFR h1 (by assumption) hb (by assumption) (fun w3 h3 => ?_) (fun _ w3 h3 => ?_)
  simp only [eX3_pick_75N, eX3_pick_76, kx_l, tl_s]
  with_reducible refine And.intro ?_ ?_
  omega
  with_reducible refine And.intro ?_ ?_
  omega
  with_reducible exact hS ⟨by assumption, pz_lt hM.n0 (by assumption)⟩ (by assumption) _ (by assumption) _ h3
  simp only [eX3_pick_75R, eX3_pick_76, kx_l, tl_s]
  with_reducible refine And.intro ?_ ?_
  omega
  with_reducible refine And.intro ?_ ?_
  omega
  with_reducible exact hS ⟨by assumption, pz_lt hM.n0 (by assumption)⟩ (by assumption) _ (by assumption) _ h3
  with_reducible exact n00x (by assumption)
  simp only [eX3_pick_15, eX3_pick_18, eX3_pick_25, eX3_pick_30, if_true, kx_l, wt_nil, wt_ref, tl_s, Nat.add_zero]
  with_reducible refine And.intro ?_ ?_
  with_reducible refine go_S (by assumption) (fun _ _ hY => ?_)
  with_reducible exact trivial
  with_reducible refine And.intro ?_ ?_
  omega
  with_reducible refine And.intro ?_ ?_
  omega
  with_reducible refine And.intro ?_ ?_
  omega
  with_reducible refine fX3_start (by assumption) (by decide) (fun _ w1 h1 => ?_) (fun _ w1 h1 => ?_)
  with_reducible exact absurd (by assumption) n10'
  simp only [eX3_pick_34, eX3_pick_37, eX3_pick_39, i10, if_false, kx_l, wt_nil, tl_s, Nat.add_zero]
  with_reducible refine And.intro ?_ ?_
  omega
  with_reducible refine And.intro ?_ ?_
  omega
  ((with_reducible refine isQ (Q := Q) ?_); exact hX (fun h => nokP hM.n0 (by assumption) h.1) _ (by assumption))
end
end
/-! 75.mf9.lean.txt -/
section
section
variable {g : RO} {Q : Ot → Hw → Prop} {w0 w : Hw} {y nM : Nat} {kd th : Int32} {s : AS}
theorem go_SP {w1 : Hw} {L' D' c' : Nat} {n' : Int32} {h' : Nat → Option Nat} {K : List Value → Prop} (k : ext g w1 w) (hM : MS g w0 y nM kd th s w1) (hl : LL g w L' D' c' n' h') (hr : ∀ i b, h' i = some b → isRow w b) (hn : n'.toInt ≤ 12) (hL : w1 L' = none) (hD : w1 D' = none) (kk : ∀ (cL pL : Nat), (∀ F : Nat → R4, (∀ i : Nat, (i : Int) < n'.toInt → ∃ b, h' i = some b ∧ rowA w b (F i)) → MS g w0 y nM kd th (sP_ s n' F) (upw w y (.inr (7, [.int th, .ref nM, .ref cL, .ref L', .int s.2.2.2.2.1, .int kd, .int s.2.2.2.2.2])))) → K [.int th, .ref nM, .ref cL, .ref pL, .int s.2.2.2.2.1, .int kd, .int s.2.2.2.2.2]) : go (w y) 7 K := by
  obtain ⟨⟨cL, pL, D1, D2, c1, c2, h1, h2, a1, a2, a3, a4, a5, a6, a7, a8, a9, b1', b2'⟩, hF⟩ := hM
  have b1 := k.1 _ _ a1
  have b2 := k.1 _ _ a2
  rw [b1, go_s]
  have hn0 : ∀ {a : Nat} {o : Ob}, w1 a = some o → a ≠ L' := fun e z => by
    rw [z, hL] at e
    cases e
  have hd0 : ∀ {a : Nat} {o : Ob}, w1 a = some o → a ≠ D' := fun e z => by
    rw [z, hD] at e
    cases e
  obtain ⟨mcc, hcL⟩ := a3.1
  refine kk _ _ (fun F hH => ⟨⟨cL, L', D1, D', c1, c', h1, h', upw_s _ _ _, ?_, (a3.ext k).up b1 (fun _ e => by cases e) (fun _ e => by cases e), fun i b z => isRow_up ((a4 i b z).ext k) b1 (fun _ e => by cases e), hl.up b1 (fun _ e => by cases e) (fun _ e => by cases e), fun i b z => isRow_up (hr i b z) b1 (fun _ e => by cases e), hn, hn0 hcL, ?_, fun i hi => (b1' i hi).mp fun _ _ z => rowA_up (z.ext k) b1 (fun _ e => by cases e), fun i hi => (hH i hi).imp fun _ z => ⟨z.1, rowA_up z.2 b1 (fun _ e => by cases e)⟩⟩, (hF.ext k).up b1 (Or.inr rfl)⟩)
  · rw [upw_n (ne_of a2 a1 (fun e => by cases e))]
    exact b2
  · rcases a3.2.1 with ⟨z, -⟩ | ⟨z, -⟩
    · exact hd0 z
    · have k2 := a3.2.2.2
      have e6 : (6 : Int32).toInt = 6 := rfl
      omega
theorem nn0F {F : Nat → R4} : ∀ i : Nat, (i : Int) < (0 : Int32).toInt → ∃ b, (fun _ => none : Nat → Option Nat) i = some b ∧ rowA w b (F i) := fun i h => by
  have e : (0 : Int32).toInt = 0 := rfl
  omega
set_option maxHeartbeats 4000000 in
theorem fX3_sweep  (hM : MS g w0 y nM kd th s w) (hE : EG g w0) (hS : SG g) (hQ : ∀ w', (∀ F, MS g w0 y nM kd 0 (sP_ s 0 F) w') → Q (.inl (some (.int s.2.2.1))) w') : WP (MX3_sweep g) Q (0, [some (.ref y), none], [], w, 0, 0) := by
  obtain ⟨cL, pL, hy, ry⟩ := hM.1.op
  obtain ⟨w1, hw1⟩ : ∃ w1, upw w y (.inr (7, [.int 0, .ref nM, .ref cL, .ref pL, .int s.2.2.2.2.1, .int kd, .int s.2.2.2.2.2])) = w1 := ⟨_, rfl⟩
  have hM1 : MS g w0 y nM kd 0 s w1 := by
    rw [← hw1]
    exact hM.set hy
  have hy1 : w1 y = some (.inr (7, [.int 0, .ref nM, .ref cL, .ref pL, .int s.2.2.2.2.1, .int kd, .int s.2.2.2.2.2])) := by
    rw [← hw1]
    exact upw_s _ _ _
  have hY1 : isY w1 y nM cL pL := ⟨_, _, _, _, hy1⟩
  simp only [eX3_sweep_0, eX3_sweep_5, eX3_sweep_9, hy, hw1, go_s, wt_nil, g0, gS, ex1, nf_i, true_and, List.set_cons_zero, List.length_cons, List.length_nil, rd_s, Nat.zero_add, Nat.add_zero]
  with_reducible refine And.intro ?_ ?_
  omega
  with_reducible refine And.intro ?_ ?_
  with_reducible exact MS.gP hM1 hY1
  with_reducible refine And.intro ?_ ?_
  omega
  with_reducible refine And.intro ?_ ?_
  omega
  with_reducible refine And.intro ?_ ?_
  omega
  with_reducible refine sSizeF hM1 hY1 ?_
  simp only [eX3_sweep_12, eX3_sweep_13, eX3_sweep_17R, kx_l, wt_nil, wt_ref, nl_ref, tl_s, Nat.zero_add, Nat.add_zero]
  with_reducible refine And.intro ?_ ?_
  omega
  with_reducible refine And.intro ?_ ?_
  omega
  with_reducible intro _
  with_reducible intro _
  with_reducible refine And.intro ?_ ?_
  omega
  with_reducible refine And.intro ?_ ?_
  omega
  with_reducible refine And.intro ?_ ?_
  omega
  with_reducible refine sInitF (hM1.mm.eg hE) (by assumption) (fun D9 w9 hk9 hl9 hd9 => ?_)
  simp only [eX3_sweep_21, eX3_sweep_24, tyX3, kx_l, tl_n, nf_ro, true_and]
  with_reducible refine go_SP hk9 hM1 hl9 nr0 n00' (rd_none (by assumption)) hd9 (fun _ _ hF => ?_)
  with_reducible refine And.intro ?_ ?_
  simp only [List.length_cons, List.length_nil, Nat.zero_add]
  omega
  with_reducible refine And.intro ?_ ?_
  omega
  with_reducible refine And.intro ?_ ?_
  omega
  ((with_reducible refine isQ (Q := Q) ?_); exact hQ _ (fun F => hF F nn0F))
set_option maxHeartbeats 4000000 in
theorem flX3_turn_x {w1 : Hw} {pL D2 c2 q L : Nat} {n mc : Int32} {h2 : Nat → Option Nat} (hE : EG g w1) (hS : SG g) (hM : MS g w0 y nM kd 0 s w1) (en : n = s.2.2.1) (hL : w1 pL = some (.inr (3, [.int mc, .ref D2, .int n]))) (hl : LL g w1 pL D2 c2 n h2) (hr : ∀ i b, h2 i = some b → isRow w1 b) (hnn : ∀ i : Nat, (i : Int) < n.toInt → ∃ b, h2 i = some b ∧ rowA w1 b (s.2.2.2.1 i)) (hn : n.toInt ≤ 12) (hq : w1 q = none) (gq : g.2 q = none) (hL' : w1 L = none) (hQ : ∀ w', MS g w0 y nM kd 0 (sP_ s s.2.2.1 (rev s.2.2.2.1 s.2.2.1.toInt.toNat)) w' → Q (.inl (some (.int s.2.2.1))) w') : ∀ (c lr : Int32) (o3 : Option Value) (w' : Hw) (D' c' : Nat) (h' : Nat → Option Nat) (k m : Nat), ext g w1 w' → w' q = some (.inr (2, [.int c, .int lr, .int mc, .ref pL])) → LL g w' L D' c' c h' → (∀ i b, h' i = some b → isRow w' b) → (∀ i : Nat, (i : Int) < c.toInt → ∃ b, h' i = some b ∧ rowA w1 b (s.2.2.2.1 (c.toInt.toNat - 1 - i))) → w1 D' = none → c = n → k ≤ 14 → m ≤ 187 → WP (MX3_turn g) Q (21, [some (.ref y), some (.ref L), some (.ref q), o3], [], w', k, m) := by
  intro c lr o3 w' D' c' h' k m hk hqw hll hrw hnn' hD' hcn km mm
  subst hcn
  subst en
  have hrr : ∀ i : Nat, (i : Int) < s.2.2.1.toInt → ∃ b, h' i = some b ∧ rowA w' b (rev s.2.2.2.1 s.2.2.1.toInt.toNat i) := fun i hi => (hnn' i hi).imp fun _ z => ⟨z.1, z.2.ext hk⟩
  have rq := rd_e (g := g) hqw
  rw [eX3_turn_21]
  simp only [eX3_turn_22, go_s, wt_nil, true_and, Nat.add_zero, rq]
  with_reducible refine And.intro ?_ ?_
  omega
  with_reducible refine And.intro ?_ ?_
  with_reducible assumption
  with_reducible refine And.intro ?_ ?_
  with_reducible assumption
  with_reducible refine sJx35411_hasNext_aae02 (cap := 0) hqw (hk.k1 hL) (fun _ => ?_) (fun h => absurd rfl h)
  simp only [eX3_turn_27, eX3_turn_30, eX3_turn_49, eX3_turn_54, kx_l, go_s, wt_nil, tl_s, nf_ro, true_and, rd_s, Nat.add_zero, if_true, rq, tyX3]
  with_reducible refine go_SP hk hM hll hrw hn hL' hD' (fun _ _ hF => ?_)
  with_reducible refine And.intro ?_ ?_
  simp only [List.length_cons, List.length_nil, Nat.zero_add]
  omega
  simp only [eX3_turn_58, wt_nil, g0, gS, ex1, List.set_cons_zero, List.set_cons_succ, Nat.add_zero]
  with_reducible refine And.intro ?_ ?_
  with_reducible exact MS.gP (hF _ hrr) (by first | assumption | exact isY.s)
  with_reducible refine And.intro ?_ ?_
  omega
  with_reducible refine And.intro ?_ ?_
  with_reducible assumption
  with_reducible refine And.intro ?_ ?_
  with_reducible assumption
  with_reducible refine sSizeF (hF _ hrr) (by first | assumption | exact isY.s) ?_
  simp only [eX3_turn_61, kx_l, tl_s]
  with_reducible refine And.intro ?_ ?_
  with_reducible assumption
  with_reducible refine And.intro ?_ ?_
  with_reducible assumption
  (exact hQ _ (hF _ hrr))
set_option maxHeartbeats 4000000 in
theorem flX3_turn_21 {w1 : Hw} {pL D2 c2 q L : Nat} {n mc : Int32} {h2 : Nat → Option Nat} (hE : EG g w1) (hS : SG g) (hM : MS g w0 y nM kd 0 s w1) (en : n = s.2.2.1) (hL : w1 pL = some (.inr (3, [.int mc, .ref D2, .int n]))) (hl : LL g w1 pL D2 c2 n h2) (hr : ∀ i b, h2 i = some b → isRow w1 b) (hnn : ∀ i : Nat, (i : Int) < n.toInt → ∃ b, h2 i = some b ∧ rowA w1 b (s.2.2.2.1 i)) (hn : n.toInt ≤ 12) (hq : w1 q = none) (gq : g.2 q = none) (hL' : w1 L = none) (hQ : ∀ w', MS g w0 y nM kd 0 (sP_ s s.2.2.1 (rev s.2.2.2.1 s.2.2.1.toInt.toNat)) w' → Q (.inl (some (.int s.2.2.1))) w') : ∀ (d : Nat) (c lr : Int32) (o3 : Option Value) (w' : Hw) (D' c' : Nat) (h' : Nat → Option Nat) (k m : Nat), ext g w1 w' → w' q = some (.inr (2, [.int c, .int lr, .int mc, .ref pL])) → LL g w' L D' c' c h' → (∀ i b, h' i = some b → isRow w' b) → (∀ i : Nat, (i : Int) < c.toInt → ∃ b, h' i = some b ∧ rowA w1 b (s.2.2.2.1 (c.toInt.toNat - 1 - i))) → w1 D' = none → n.toInt - c.toInt ≤ (d : Int) → c.toInt ≤ n.toInt → (k : Int) ≤ 2 + c.toInt → (m : Int) ≤ 7 + 15 * c.toInt → WP (MX3_turn g) Q (21, [some (.ref y), some (.ref L), some (.ref q), o3], [], w', k, m) := by
  intro d
  induction d with
  | zero =>
    intro c lr o3 w' D' c' h' k m hk hqw hll hrw hnn' hD' hd hc km mm
    exact flX3_turn_x hE hS hM en hL hl hr hnn hn hq gq hL' hQ c lr o3 w' D' c' h' k m hk hqw hll hrw hnn' hD' (Int32.toInt_inj.mp (by omega)) (by omega) (by omega)
  | succ d ih =>
    intro c lr o3 w' D' c' h' k m hk hqw hll hrw hnn' hD' hd hc km mm
    by_cases hcn : c = n
    · exact flX3_turn_x hE hS hM en hL hl hr hnn hn hq gq hL' hQ c lr o3 w' D' c' h' k m hk hqw hll hrw hnn' hD' hcn (by rw [hcn] at km; omega) (by rw [hcn] at mm; omega)
    have c0 := hll.n0
    have clt := itl hcn hc
    have ce := its c0 hcn hc (by omega)
    obtain ⟨b, hb, hbr⟩ := hnn c.toNatClampNeg (by
      have t : c.toNatClampNeg = c.toInt.toNat := rfl
      omega)
    have rq := rd_e (g := g) hqw
    obtain ⟨w2, hw2⟩ : ∃ w2, upw w' q (.inr (2, [.int (c + 1), .int c, .int mc, .ref pL])) = w2 := ⟨_, rfl⟩
    have hk2 : ext g w1 w2 := by
      rw [← hw2]
      refine ⟨fun a o e => ?_, fun a o e1 e2 => ?_⟩
      · rw [upw_n]
        · exact hk.1 a o e
        · rintro rfl
          rw [hq] at e
          cases e
      · rw [upw_n]
        · exact hk.2 a o e1 e2
        · rintro rfl
          rw [gq] at e1
          cases e1
    have hq2 : w2 q = some (.inr (2, [.int (c + 1), .int c, .int mc, .ref pL])) := by
      rw [← hw2]
      exact upw_s _ _ _
    have hll2 : LL g w2 L D' c' c h' := by
      rw [← hw2]
      exact hll.up hqw (fun _ e => by cases e) (fun _ e => by cases e)
    have hrw2 : ∀ i b, h' i = some b → isRow w2 b := fun i b z => by
      rw [← hw2]
      exact isRow_up (hrw i b z) hqw (fun _ e => by cases e)
    have hb2 : isRow w2 b := (hr _ _ hb).ext hk2
    have fin : ∀ (w3 : Hw) (k' m' : Nat), LPo g w2 w3 L D' (c + 1) (HIn h' c.toNatClampNeg (0 : Int32).toNatClampNeg (some b)) → (k' : Int) ≤ 3 + c.toInt → (m' : Int) ≤ 22 + 15 * c.toInt → WP (MX3_turn g) Q (21, [some (.ref y), some (.ref L), some (.ref q), some (.ref b)], [], w3, k', m') := by
      intro w3 k' m' hlp kk' mm'
      obtain ⟨D3, c3, h3, l1, l2, f1, f2, fD, hh⟩ := hlp
      have nD : ∀ {a : Nat} {o : Ob}, w1 a = some o → a ≠ D' := fun e z => by
        rw [z, hD'] at e
        cases e
      have nL : ∀ {a : Nat} {o : Ob}, w1 a = some o → a ≠ L := fun e z => by
        rw [z, hL'] at e
        cases e
      have hk3 : ext g w1 w3 := ⟨fun a o e => f1 a o (hk2.1 a o e) (nL e) (nD e), fun a o e1 e2 => f2 a o e1 (hk2.2 a o e1 e2)⟩
      have q1 : q ≠ L := by
        obtain ⟨mc2, e⟩ := hll2.1
        exact ne_of hq2 e (fun e => by cases e)
      have q2 : q ≠ D' := by
        rcases hll2.2.1 with ⟨e, -⟩ | ⟨-, -, e, -⟩
        · exact ne_of hq2 e (fun e => by cases e)
        · rintro rfl
          rw [hq2] at e
          cases e
      refine ih _ _ _ w3 D3 c3 h3 _ _ hk3 (f1 _ _ hq2 q1 q2) l1 l2 (fun i hi => ?_) ?_ (by omega) (by omega) (by omega) (by omega)
      · have t : c.toNatClampNeg = c.toInt.toNat := rfl
        have t0 : (0 : Int32).toNatClampNeg = 0 := rfl
        rw [t0] at hh
        rcases Nat.eq_zero_or_pos i with rfl | hi0
        · refine ⟨b, hh.2.1, ?_⟩
          have ei : (c + 1).toInt.toNat - 1 - 0 = c.toNatClampNeg := by omega
          rw [ei]
          exact hbr
        · obtain ⟨j, rfl⟩ : ∃ j, i = j + 1 := ⟨i - 1, by omega⟩
          rw [hh.2.2 j (Nat.zero_le _) (by omega)]
          have ei : (c + 1).toInt.toNat - 1 - (j + 1) = c.toInt.toNat - 1 - j := by omega
          rw [ei]
          exact hnn' j (by omega)
      · rcases fD with rfl | ⟨fD, -⟩
        · exact hD'
        · cases hw : w1 D3 with
          | none => rfl
          | some o =>
            rw [hk2.1 _ _ hw] at fD
            cases fD
    rw [eX3_turn_21]
    simp only [eX3_turn_22, go_s, wt_nil, true_and, Nat.add_zero, rq]
    with_reducible refine And.intro ?_ ?_
    omega
    with_reducible refine And.intro ?_ ?_
    omega
    with_reducible refine And.intro ?_ ?_
    omega
    with_reducible refine sJx35411_hasNext_aae02 (cap := 0) hqw (hk.k1 hL) (fun h => absurd h hcn) (fun _ => ?_)
    simp only [eX3_turn_27, eX3_turn_30, eX3_turn_49, eX3_turn_54, kx_l, go_s, wt_nil, tl_s, true_and, rd_s, Nat.add_zero, if_false, m10, rq]
    with_reducible refine And.intro ?_ ?_
    omega
    with_reducible refine And.intro ?_ ?_
    omega
    with_reducible refine And.intro ?_ ?_
    omega
    with_reducible refine sNext1 hqw (hk.k1 hL) (hl.ext hk).rD c0 clt hl.nc hl.c15 hb ?_
    simp only [eX3_turn_36R, eX3_turn_39, eX3_turn_46, kx_l, wt_nil, nl_ref, tl_s, hw2]
    with_reducible refine And.intro ?_ ?_
    with_reducible exact isRow.ca hb2
    with_reducible refine And.intro ?_ ?_
    with_reducible exact hll2.gt
    with_reducible refine And.intro ?_ ?_
    omega
    with_reducible refine And.intro ?_ ?_
    omega
    with_reducible refine And.intro ?_ ?_
    omega
    with_reducible refine sJx4a65c_add_7a177R hb2 (hE.ext hk2) hS hll2 hrw2 (by decide) (by have e : (0 : Int32).toInt = 0 := rfl; omega) (by omega) (fun _ _ => ?_)
    simp only [kx_l, tl_n]
    with_reducible exact fin _ _ _ (by assumption) (by omega) (by omega)
set_option maxHeartbeats 4000000 in
theorem fX3_turn  (hM : MS g w0 y nM kd th s w) (hE : EG g w0) (hS : SG g) (hQ : ∀ w', MS g w0 y nM kd 0 (sP_ s s.2.2.1 (rev s.2.2.2.1 s.2.2.1.toInt.toNat)) w' → Q (.inl (some (.int s.2.2.1))) w') : WP (MX3_turn g) Q (0, [some (.ref y), none, none, none], [], w, 0, 0) := by
  obtain ⟨cL, pL, hy, ry⟩ := hM.1.op
  obtain ⟨w1, hw1⟩ : ∃ w1, upw w y (.inr (7, [.int 0, .ref nM, .ref cL, .ref pL, .int s.2.2.2.2.1, .int kd, .int s.2.2.2.2.2])) = w1 := ⟨_, rfl⟩
  have hM1 : MS g w0 y nM kd 0 s w1 := by
    rw [← hw1]
    exact hM.set hy
  have hy1 : w1 y = some (.inr (7, [.int 0, .ref nM, .ref cL, .ref pL, .int s.2.2.2.2.1, .int kd, .int s.2.2.2.2.2])) := by
    rw [← hw1]
    exact upw_s _ _ _
  obtain ⟨D1, D2, c1, c2, h1, h2, a1, a2, a3, a4, a5, a6, a7, a8, a9, b1, b2, hD, hc⟩ := hM1.1.yS ⟨_, _, _, _, hy1⟩
  obtain ⟨mc0, hL1⟩ := a5.1
  have z0 : (0 : Int32).toInt = 0 := rfl
  have n0 := a5.n0
  simp only [eX3_turn_0, eX3_turn_5, eX3_turn_8R, hy, hw1, go_s, wt_nil, wt_ref, nf_i, true_and, List.set_cons_zero, List.length_cons, List.length_nil, Nat.zero_add, Nat.add_zero]
  with_reducible refine And.intro ?_ ?_
  omega
  with_reducible refine And.intro ?_ ?_
  omega
  with_reducible refine And.intro ?_ ?_
  omega
  with_reducible intro _
  with_reducible intro _
  with_reducible refine And.intro ?_ ?_
  omega
  with_reducible refine And.intro ?_ ?_
  omega
  with_reducible refine And.intro ?_ ?_
  omega
  with_reducible refine sInitF (hM1.mm.eg hE) (by assumption) (fun D9 w9 hk9 hl9 hd9 => ?_)
  simp only [eX3_turn_12, eX3_turn_13, kx_l, nl_ref, tl_n]
  with_reducible refine go_YE (hk9.k1 hy1) ?_
  simp only [eX3_turn_17, wt_nil, g0, gS, ex1]
  with_reducible refine And.intro ?_ ?_
  with_reducible exact (a5.ext hk9).gt
  with_reducible refine And.intro ?_ ?_
  omega
  with_reducible refine And.intro ?_ ?_
  omega
  with_reducible refine And.intro ?_ ?_
  omega
  with_reducible refine sIter1 (a5.ext hk9) (hk9.k1 hL1) (fun q9 hq9 => ?_)
  simp only [eX3_turn_20, kx_l, nl_ref, tl_s]
  ((with_reducible refine isWP (pc := 21) ?_); exact flX3_turn_21 (hM1.mm.eg hE) hS hM1 rfl hL1 a5 a6 b2 a7 (ext_n hk9 (rd_none hq9)) (rd_ro hq9) (rd_none (by assumption)) hQ 70 _ _ _ _ _ _ _ _ _ (ext_up3 hk9 hq9) (upw_s _ _ _) (hl9.nq hq9 _) nr0 nn0F hd9 (by omega) (by omega) (by omega) (by omega))
end
end
/-! 75.mfa.lean.txt -/
section
section
variable {g : RO} {Q : Ot → Hw → Prop} {w0 w : Hw} {y nM : Nat} {kd th : Int32} {s : AS}
theorem MS.cA {a : Int32} {r : R4} (h : MS g w0 y nM kd th s w) (k : okC a) (e : s.2.1 a.toNatClampNeg = some r) : ∃ b, CAt g w y a (some b) := by
  obtain ⟨cL, pL, D1, D2, c1, c2, h1, h2, a1, a2, a3, a4, a5, a6, a7, a8, a9, b1, b2⟩ := h.1
  have kk := b1 _ (c6 k)
  cases e1 : h1 a.toNatClampNeg with
  | none =>
    rw [e1, e] at kk
    exact (kk : False).elim
  | some b => exact ⟨b, nM, cL, pL, D1, c1, _, _, _, _, h1, a1, a3, a4, e1⟩
theorem MS.ts {b d N : Nat} {c : Int32} {w1 : Hw} (hT : TS g w1 b d N c w) (h : MS g w0 y nM kd th s w1) : MS g w0 y nM kd th s w := h.ext hT.1
theorem msEx2 {w1 : Hw} (k : ext g w1 w) (h : MS g w0 y nM kd th s w1) : MS g w0 y nM kd th s w := h.ext k
theorem rowA.ts {b d N p : Nat} {c : Int32} {w1 : Hw} {r : R4} (hT : TS g w1 b d N c w) (h : rowA w1 p r) : rowA w p r := h.ext hT.1
theorem gX3_likesNow {a : Int32} {r : R4} (hM : MS g w0 y nM kd th s w) (k : okC a) (e : s.2.1 a.toNatClampNeg = some r) (hQ : ∀ v : Int32, Q (.inl (some (.int v))) w) : WP (MX3_likesNow g) Q (0, [some (.ref y), some (.int a), none, none], [], w, 0, 0) := by
  obtain ⟨b, hC⟩ := hM.cA k e
  exact sX3_likesNow hM.mm hC k.1 (lt65 k.2) hQ
theorem gX3_oftenNow {a : Int32} {r : R4} (hM : MS g w0 y nM kd th s w) (k : okC a) (e : s.2.1 a.toNatClampNeg = some r) (hQ : ∀ (v : Int32) w', MS g w0 y nM kd th s w' → Q (.inl (some (.int v))) w') : WP (MX3_oftenNow g) Q (0, [some (.ref y), some (.int a), none, none, none], [], w, 0, 0) := by
  obtain ⟨b, hC⟩ := hM.cA k e
  exact sX3_oftenNow hM.mm hC k.1 (lt65 k.2) (fun v w' hk => hQ v w' (hM.ext hk))
theorem gX3_count_56 {a c e : Int32} {r : R4} {k m : Nat} (hM : MS g w0 y nM kd th s w) (kc : okC a) (e1 : s.2.1 a.toNatClampNeg = some r) (k2 : ¬ 60 < e) (hQ : ∀ v : Int32, Q (.inl (some (.int v))) w) (hk : k ≤ 0) (hm : m ≤ 0) : WP (MX3_count g) Q (56, [some (.ref y), some (.int a), some (.int c), some (.int e), some (.int 0), some (.int 0)], [], w, k, m) := by
  obtain ⟨b, hC⟩ := hM.cA kc e1
  exact lX3_count_56 hM.mm hC kc.1 (lt65 kc.2) k2 hQ 70 _ _ _ _ (n60 k2) hk hm
set_option maxHeartbeats 4000000 in
theorem gX3_whichValid {a0 a1 : Int32} (hM : MS g w0 y nM kd th s w) (hQ : ∀ (v th' : Int32) w', MS g w0 y nM kd th' s w' → Q (.inl (some (.int v))) w') : WP (MX3_whichValid g) Q (0, [some (.ref y), some (.int a0), some (.int a1)], [], w, 0, 0) := by
  simp only [eX3_whichValid_0, wt_nil, Nat.add_zero]
  with_reducible refine And.intro ?_ ?_
  with_reducible refine go_S (by assumption) (fun _ _ hY => ?_)
  with_reducible exact trivial
  with_reducible refine And.intro ?_ ?_
  omega
  with_reducible refine And.intro ?_ ?_
  omega
  with_reducible refine And.intro ?_ ?_
  omega
  with_reducible refine fX3_isNone (by assumption) (fun _ w1 h1 => ?_) (fun _ _ w1 h1 => ?_) (fun _ _ _ w1 h1 => ?_)
  simp only [eX3_whichValid_5, eX3_whichValid_8, eX3_whichValid_12, eX3_whichValid_16, eX3_whichValid_27, i10, if_false, kx_l, tl_s]
  with_reducible refine And.intro ?_ ?_
  omega
  with_reducible refine And.intro ?_ ?_
  omega
  with_reducible exact hQ _ _ _ (by assumption)
  simp only [eX3_whichValid_5, eX3_whichValid_8, eX3_whichValid_12, eX3_whichValid_16, eX3_whichValid_27, i10, if_false, kx_l, tl_s]
  with_reducible refine And.intro ?_ ?_
  omega
  with_reducible refine And.intro ?_ ?_
  omega
  with_reducible exact hQ _ _ _ (by assumption)
  simp only [eX3_whichValid_5, eX3_whichValid_8, eX3_whichValid_12, eX3_whichValid_16, eX3_whichValid_27, if_true, kx_l, tl_s]
  with_reducible refine go_S (by assumption) (fun _ _ hY => ?_)
  simp only [eX3_whichValid_17, wt_nil, g0, gS, ex1, Nat.add_zero]
  with_reducible refine And.intro ?_ ?_
  with_reducible exact MS.gC (by assumption) (by assumption)
  with_reducible refine And.intro ?_ ?_
  omega
  with_reducible refine And.intro ?_ ?_
  omega
  with_reducible refine And.intro ?_ ?_
  omega
  with_reducible refine sGetK (by assumption) (by assumption) (by assumption) (by assumption) (fun _ hb => ?_)
  simp only [eX3_whichValid_20R, eX3_whichValid_23, kx_l, wt_nil, tl_s, Nat.add_zero]
  with_reducible refine And.intro ?_ ?_
  with_reducible exact rowA.ca (by assumption)
  with_reducible refine And.intro ?_ ?_
  omega
  with_reducible refine And.intro ?_ ?_
  omega
  with_reducible refine And.intro ?_ ?_
  omega
  with_reducible refine sX3_whichNow (rowA.row (by assumption)) (fun _ => ?_)
  simp only [eX3_whichValid_27, kx_l, tl_s]
  with_reducible refine And.intro ?_ ?_
  omega
  with_reducible refine And.intro ?_ ?_
  omega
  with_reducible exact hQ _ _ _ (by assumption)
set_option maxHeartbeats 4000000 in
theorem gX3_around {a0 a1 a2 : Int32} (hM : MS g w0 y nM kd th s w) (hQ : ∀ (v th' : Int32) w', MS g w0 y nM kd th' s w' → Q (.inl (some (.int v))) w') : WP (MX3_around g) Q (0, [some (.ref y), some (.int a0), some (.int a1), some (.int a2)], [], w, 0, 0) := by
  simp only [eX3_around_0, wt_nil, Nat.add_zero]
  with_reducible refine And.intro ?_ ?_
  with_reducible refine go_S (by assumption) (fun _ _ hY => ?_)
  with_reducible exact trivial
  with_reducible refine And.intro ?_ ?_
  omega
  with_reducible refine And.intro ?_ ?_
  omega
  with_reducible refine And.intro ?_ ?_
  omega
  with_reducible refine fX3_isNoEnd_ (by assumption) (fun _ w1 h1 => ?_) (fun _ _ w1 h1 => ?_) (fun _ _ _ w1 h1 => ?_) (fun _ _ _ _ w1 h1 => ?_)
  simp only [eX3_around_6, eX3_around_9, eX3_around_13, eX3_around_17, eX3_around_29, i10, if_false, kx_l, tl_s]
  with_reducible refine And.intro ?_ ?_
  omega
  with_reducible refine And.intro ?_ ?_
  omega
  with_reducible exact hQ _ _ _ (by assumption)
  simp only [eX3_around_6, eX3_around_9, eX3_around_13, eX3_around_17, eX3_around_29, i10, if_false, kx_l, tl_s]
  with_reducible refine And.intro ?_ ?_
  omega
  with_reducible refine And.intro ?_ ?_
  omega
  with_reducible exact hQ _ _ _ (by assumption)
  simp only [eX3_around_6, eX3_around_9, eX3_around_13, eX3_around_17, eX3_around_29, i10, if_false, kx_l, tl_s]
  with_reducible refine And.intro ?_ ?_
  omega
  with_reducible refine And.intro ?_ ?_
  omega
  with_reducible exact hQ _ _ _ (by assumption)
  simp only [eX3_around_6, eX3_around_9, eX3_around_13, eX3_around_17, eX3_around_29, if_true, kx_l, tl_s]
  with_reducible refine go_S (by assumption) (fun _ _ hY => ?_)
  simp only [eX3_around_18, wt_nil, g0, gS, ex1, Nat.add_zero]
  with_reducible refine And.intro ?_ ?_
  with_reducible exact MS.gC (by assumption) (by assumption)
  with_reducible refine And.intro ?_ ?_
  omega
  with_reducible refine And.intro ?_ ?_
  omega
  with_reducible refine And.intro ?_ ?_
  omega
  with_reducible refine sGetK (by assumption) (by assumption) (by assumption) (by assumption) (fun _ hb => ?_)
  simp only [eX3_around_21R, eX3_around_24, kx_l, wt_nil, tl_s, Nat.add_zero]
  with_reducible refine And.intro ?_ ?_
  with_reducible exact rowA.ca (by assumption)
  with_reducible refine And.intro ?_ ?_
  omega
  with_reducible refine And.intro ?_ ?_
  omega
  with_reducible refine And.intro ?_ ?_
  omega
  with_reducible refine sX3_aroundNow (rowA.row (by assumption)) (And.left (by assumption : okW _ 3)) (And.right (by assumption : okW _ 3)) (fun _ => ?_)
  simp only [eX3_around_29, kx_l, tl_s]
  with_reducible refine And.intro ?_ ?_
  omega
  with_reducible refine And.intro ?_ ?_
  omega
  with_reducible exact hQ _ _ _ (by assumption)
set_option maxHeartbeats 4000000 in
theorem gX3_isSameAs {a0 a1 : Int32} (hM : MS g w0 y nM kd th s w) (hQ : ∀ (v th' : Int32) w', MS g w0 y nM kd th' s w' → Q (.inl (some (.int v))) w') : WP (MX3_isSameAs g) Q (0, [some (.ref y), some (.int a0), some (.int a1)], [], w, 0, 0) := by
  simp only [eX3_isSameAs_0, eX3_isSameAs_5, wt_nil, wt_ref, Nat.add_zero]
  with_reducible refine And.intro ?_ ?_
  omega
  with_reducible refine And.intro ?_ ?_
  omega
  with_reducible refine And.intro ?_ ?_
  omega
  with_reducible refine fX3_isNoCard (fun _ => ?_) (fun _ => ?_)
  simp only [eX3_isSameAs_6, kx_l, wt_nil, tl_s, Nat.add_zero]
  with_reducible refine And.intro ?_ ?_
  with_reducible refine go_S (by assumption) (fun _ _ hY => ?_)
  with_reducible exact trivial
  with_reducible refine And.intro ?_ ?_
  omega
  with_reducible refine And.intro ?_ ?_
  omega
  with_reducible refine And.intro ?_ ?_
  omega
  with_reducible refine fX3_start (by assumption) (by decide) (fun _ w1 h1 => ?_) (fun _ w1 h1 => ?_)
  with_reducible exact absurd (by assumption) n10'
  simp only [eX3_isSameAs_9, eX3_isSameAs_12, eX3_isSameAs_47, i10, if_false, kx_l, wt_nil, wt_ref, tl_s, nb_0, true_and, Nat.add_zero]
  with_reducible refine And.intro ?_ ?_
  omega
  with_reducible refine And.intro ?_ ?_
  omega
  with_reducible exact hQ _ _ _ (by assumption)
  simp only [eX3_isSameAs_6, kx_l, wt_nil, tl_s, Nat.add_zero]
  with_reducible refine And.intro ?_ ?_
  with_reducible refine go_S (by assumption) (fun _ _ hY => ?_)
  with_reducible exact trivial
  with_reducible refine And.intro ?_ ?_
  omega
  with_reducible refine And.intro ?_ ?_
  omega
  with_reducible refine And.intro ?_ ?_
  omega
  with_reducible refine fX3_start (by assumption) (by decide) (fun _ w1 h1 => ?_) (fun _ w1 h1 => ?_)
  simp only [eX3_isSameAs_9, eX3_isSameAs_12, eX3_isSameAs_47, if_true, kx_l, wt_nil, wt_ref, tl_s, nb_0, true_and, Nat.add_zero]
  with_reducible refine And.intro ?_ ?_
  omega
  with_reducible refine And.intro ?_ ?_
  omega
  with_reducible refine And.intro ?_ ?_
  omega
  with_reducible refine fX3_isIn (fun _ _ => ?_) (fun _ => ?_)
  simp only [eX3_isSameAs_19, eX3_isSameAs_22, eX3_isSameAs_26, eX3_isSameAs_27, i10, if_false, kx_l, wt_nil, tl_s, Nat.add_zero]
  with_reducible refine And.intro ?_ ?_
  with_reducible refine go_S (by assumption) (fun _ _ hY => ?_)
  with_reducible exact trivial
  with_reducible refine And.intro ?_ ?_
  omega
  with_reducible refine And.intro ?_ ?_
  omega
  with_reducible refine And.intro ?_ ?_
  omega
  with_reducible refine fX3_refuse (by assumption) (by decide) (fun _ => ?_) (fun _ w2 h2 => ?_)
  simp only [eX3_isSameAs_31, eX3_isSameAs_34, eX3_isSameAs_40, eX3_isSameAs_47, if_true, kx_l, wt_nil, wt_ref, tl_s, nb_0, true_and, Nat.add_zero]
  with_reducible refine And.intro ?_ ?_
  with_reducible refine go_S (by assumption) (fun _ _ hY => ?_)
  with_reducible exact trivial
  with_reducible refine And.intro ?_ ?_
  omega
  with_reducible refine And.intro ?_ ?_
  omega
  with_reducible refine And.intro ?_ ?_
  omega
  with_reducible refine fX3_isBare (by assumption) (by assumption) (fun _ => ?_) (fun _ _ => ?_)
  simp only [eX3_isSameAs_41, kx_l, wt_nil, tl_s, Nat.add_zero]
  with_reducible refine And.intro ?_ ?_
  with_reducible refine go_S (by assumption) (fun _ _ hY => ?_)
  with_reducible exact trivial
  with_reducible refine And.intro ?_ ?_
  omega
  with_reducible refine And.intro ?_ ?_
  omega
  with_reducible refine And.intro ?_ ?_
  omega
  with_reducible refine fX3_refuse (by assumption) (by decide) (fun _ => ?_) (fun _ w2 h2 => ?_)
  with_reducible exact absurd (by assumption) n10'
  simp only [eX3_isSameAs_44, eX3_isSameAs_47, eX3_isSameAs_49, eX3_isSameAs_54, eX3_isSameAs_59, eX3_isSameAs_64, eX3_isSameAs_68, eX3_isSameAs_81, eX3_isSameAs_85, eX3_isSameAs_86, i10, if_false, kx_l, tl_s, nb_0, nb_1, true_and]
  with_reducible refine And.intro ?_ ?_
  omega
  with_reducible refine And.intro ?_ ?_
  omega
  with_reducible exact hQ _ _ _ (by assumption)
  simp only [eX3_isSameAs_41, kx_l, wt_nil, tl_s, Nat.add_zero]
  with_reducible refine And.intro ?_ ?_
  with_reducible refine go_S (by assumption) (fun _ _ hY => ?_)
  with_reducible exact trivial
  with_reducible refine And.intro ?_ ?_
  omega
  with_reducible refine And.intro ?_ ?_
  omega
  with_reducible refine And.intro ?_ ?_
  omega
  with_reducible refine fX3_refuse (by assumption) (by decide) (fun _ => ?_) (fun _ w2 h2 => ?_)
  simp only [eX3_isSameAs_44, eX3_isSameAs_47, eX3_isSameAs_49, eX3_isSameAs_54, eX3_isSameAs_59, eX3_isSameAs_64, eX3_isSameAs_68, eX3_isSameAs_81, eX3_isSameAs_85, eX3_isSameAs_86, if_true, kx_l, tl_s, nb_0, nb_1, true_and]
  with_reducible refine itx (fun _ => ?_) (fun _ => ?_)
  with_reducible refine And.intro ?_ ?_
  omega
  with_reducible refine And.intro ?_ ?_
  omega
  with_reducible exact hQ _ _ _ (by assumption)
  with_reducible refine itx (fun _ => ?_) (fun _ => ?_)
  with_reducible refine And.intro ?_ ?_
  omega
  with_reducible refine And.intro ?_ ?_
  omega
  with_reducible exact hQ _ _ _ (by assumption)
  with_reducible refine itx (fun _ => ?_) (fun _ => ?_)
  with_reducible refine go_S (by assumption) (fun _ _ hY => ?_)
  simp only [eX3_isSameAs_69, wt_nil, g0, gS, ex1, Nat.add_zero]
  with_reducible refine And.intro ?_ ?_
  with_reducible exact MS.gC (by assumption) (by assumption)
  with_reducible refine And.intro ?_ ?_
  omega
  with_reducible refine And.intro ?_ ?_
  omega
  with_reducible refine And.intro ?_ ?_
  omega
  with_reducible refine sGetK (by assumption) (by assumption) (by assumption) (by assumption) (fun _ hb => ?_)
  simp only [eX3_isSameAs_72R, eX3_isSameAs_75R, kx_l, wt_nil, tl_s, Nat.add_zero]
  with_reducible refine And.intro ?_ ?_
  with_reducible exact rowA.ca (by assumption)
  with_reducible refine And.intro ?_ ?_
  omega
  with_reducible refine And.intro ?_ ?_
  omega
  with_reducible refine And.intro ?_ ?_
  omega
  with_reducible refine sX3_fixed (rowA.row (by assumption)) ?_ ?_
  simp only [eX3_isSameAs_78, eX3_isSameAs_81, eX3_isSameAs_85, eX3_isSameAs_86, i10, if_false, kx_l, tl_s, nb_0, nb_1, true_and]
  with_reducible refine And.intro ?_ ?_
  omega
  with_reducible refine And.intro ?_ ?_
  omega
  with_reducible exact hQ _ _ _ (by assumption)
  simp only [eX3_isSameAs_78, eX3_isSameAs_81, eX3_isSameAs_85, eX3_isSameAs_86, if_true, kx_l, tl_s, nb_0, nb_1, true_and]
  with_reducible refine And.intro ?_ ?_
  omega
  with_reducible refine And.intro ?_ ?_
  omega
  with_reducible exact hQ _ _ _ (by assumption)
  with_reducible refine And.intro ?_ ?_
  omega
  with_reducible refine And.intro ?_ ?_
  omega
  with_reducible exact hQ _ _ _ (by assumption)
  with_reducible exact n00x (by assumption)
  with_reducible exact n00x (by assumption)
  simp only [eX3_isSameAs_19, eX3_isSameAs_22, eX3_isSameAs_26, eX3_isSameAs_27, if_true, kx_l, wt_nil, tl_s, Nat.add_zero]
  with_reducible refine And.intro ?_ ?_
  with_reducible refine go_S (by assumption) (fun _ _ hY => ?_)
  with_reducible exact trivial
  with_reducible refine And.intro ?_ ?_
  omega
  with_reducible refine And.intro ?_ ?_
  omega
  with_reducible refine And.intro ?_ ?_
  omega
  with_reducible refine fX3_refuse (by assumption) (by decide) (fun _ => ?_) (fun _ w2 h2 => ?_)
  with_reducible exact absurd (by assumption) n10'
  simp only [eX3_isSameAs_31, eX3_isSameAs_34, eX3_isSameAs_40, eX3_isSameAs_47, i10, if_false, kx_l, wt_nil, wt_ref, tl_s, nb_0, true_and, Nat.add_zero]
  with_reducible refine And.intro ?_ ?_
  omega
  with_reducible refine And.intro ?_ ?_
  omega
  with_reducible exact hQ _ _ _ (by assumption)
  with_reducible exact n00x (by assumption)
set_option maxHeartbeats 4000000 in
theorem gX3_count {a0 a1 a2 : Int32} (hM : MS g w0 y nM kd th s w) (hQ : ∀ (v th' : Int32) w', MS g w0 y nM kd th' s w' → Q (.inl (some (.int v))) w') : WP (MX3_count g) Q (0, [some (.ref y), some (.int a0), some (.int a1), some (.int a2), none, none], [], w, 0, 0) := by
  simp only [eX3_count_0, eX3_count_5, wt_nil, wt_ref, Nat.add_zero]
  with_reducible refine And.intro ?_ ?_
  omega
  with_reducible refine And.intro ?_ ?_
  omega
  with_reducible refine And.intro ?_ ?_
  omega
  with_reducible refine fX3_isNoCard (fun _ => ?_) (fun _ => ?_)
  simp only [eX3_count_6, kx_l, wt_nil, tl_s, Nat.add_zero]
  with_reducible refine And.intro ?_ ?_
  with_reducible refine go_S (by assumption) (fun _ _ hY => ?_)
  with_reducible exact trivial
  with_reducible refine And.intro ?_ ?_
  omega
  with_reducible refine And.intro ?_ ?_
  omega
  with_reducible refine And.intro ?_ ?_
  omega
  with_reducible refine fX3_start (by assumption) (by decide) (fun _ w1 h1 => ?_) (fun _ w1 h1 => ?_)
  with_reducible exact absurd (by assumption) n10'
  simp only [eX3_count_9, eX3_count_12, eX3_count_48, i10, if_false, kx_l, wt_nil, wt_ref, tl_s, Nat.add_zero]
  with_reducible refine And.intro ?_ ?_
  omega
  with_reducible refine And.intro ?_ ?_
  omega
  with_reducible exact hQ _ _ _ (by assumption)
  simp only [eX3_count_6, kx_l, wt_nil, tl_s, Nat.add_zero]
  with_reducible refine And.intro ?_ ?_
  with_reducible refine go_S (by assumption) (fun _ _ hY => ?_)
  with_reducible exact trivial
  with_reducible refine And.intro ?_ ?_
  omega
  with_reducible refine And.intro ?_ ?_
  omega
  with_reducible refine And.intro ?_ ?_
  omega
  with_reducible refine fX3_start (by assumption) (by decide) (fun _ w1 h1 => ?_) (fun _ w1 h1 => ?_)
  simp only [eX3_count_9, eX3_count_12, eX3_count_48, if_true, kx_l, wt_nil, wt_ref, tl_s, Nat.add_zero]
  with_reducible refine And.intro ?_ ?_
  omega
  with_reducible refine And.intro ?_ ?_
  omega
  with_reducible refine And.intro ?_ ?_
  omega
  with_reducible refine fX3_isIn (fun _ _ => ?_) (fun _ => ?_)
  simp only [eX3_count_20, eX3_count_23, eX3_count_27, eX3_count_28, i10, if_false, kx_l, wt_nil, tl_s, Nat.add_zero]
  with_reducible refine And.intro ?_ ?_
  with_reducible refine go_S (by assumption) (fun _ _ hY => ?_)
  with_reducible exact trivial
  with_reducible refine And.intro ?_ ?_
  omega
  with_reducible refine And.intro ?_ ?_
  omega
  with_reducible refine And.intro ?_ ?_
  omega
  with_reducible refine fX3_refuse (by assumption) (by decide) (fun _ => ?_) (fun _ w2 h2 => ?_)
  simp only [eX3_count_32, eX3_count_35, eX3_count_41, eX3_count_48, if_true, kx_l, wt_nil, wt_ref, tl_s, Nat.add_zero]
  with_reducible refine And.intro ?_ ?_
  with_reducible refine go_S (by assumption) (fun _ _ hY => ?_)
  with_reducible exact trivial
  with_reducible refine And.intro ?_ ?_
  omega
  with_reducible refine And.intro ?_ ?_
  omega
  with_reducible refine And.intro ?_ ?_
  omega
  with_reducible refine fX3_isBare (by assumption) (by assumption) (fun _ => ?_) (fun _ _ => ?_)
  simp only [eX3_count_42, kx_l, wt_nil, tl_s, Nat.add_zero]
  with_reducible refine And.intro ?_ ?_
  with_reducible refine go_S (by assumption) (fun _ _ hY => ?_)
  with_reducible exact trivial
  with_reducible refine And.intro ?_ ?_
  omega
  with_reducible refine And.intro ?_ ?_
  omega
  with_reducible refine And.intro ?_ ?_
  omega
  with_reducible refine fX3_refuse (by assumption) (by decide) (fun _ => ?_) (fun _ w2 h2 => ?_)
  with_reducible exact absurd (by assumption) n10'
  simp only [eX3_count_45, eX3_count_48, eX3_count_50, i10, if_false, kx_l, nl_int, tl_s]
  with_reducible refine And.intro ?_ ?_
  omega
  with_reducible refine And.intro ?_ ?_
  omega
  with_reducible exact hQ _ _ _ (by assumption)
  simp only [eX3_count_42, kx_l, wt_nil, tl_s, Nat.add_zero]
  with_reducible refine And.intro ?_ ?_
  with_reducible refine go_S (by assumption) (fun _ _ hY => ?_)
  with_reducible exact trivial
  with_reducible refine And.intro ?_ ?_
  omega
  with_reducible refine And.intro ?_ ?_
  omega
  with_reducible refine And.intro ?_ ?_
  omega
  with_reducible refine fX3_refuse (by assumption) (by decide) (fun _ => ?_) (fun _ w2 h2 => ?_)
  simp only [eX3_count_45, eX3_count_48, eX3_count_50, if_true, kx_l, nl_int, tl_s]
  with_reducible refine gX3_count_56 (by assumption) (by assumption) (by assumption) (by assumption) (fun _ => ?_) (by first | assumption | omega) (by first | assumption | omega)
  with_reducible exact hQ _ _ _ (by assumption)
  with_reducible exact n00x (by assumption)
  with_reducible exact n00x (by assumption)
  simp only [eX3_count_20, eX3_count_23, eX3_count_27, eX3_count_28, if_true, kx_l, wt_nil, tl_s, Nat.add_zero]
  with_reducible refine And.intro ?_ ?_
  with_reducible refine go_S (by assumption) (fun _ _ hY => ?_)
  with_reducible exact trivial
  with_reducible refine And.intro ?_ ?_
  omega
  with_reducible refine And.intro ?_ ?_
  omega
  with_reducible refine And.intro ?_ ?_
  omega
  with_reducible refine fX3_refuse (by assumption) (by decide) (fun _ => ?_) (fun _ w2 h2 => ?_)
  with_reducible exact absurd (by assumption) n10'
  simp only [eX3_count_32, eX3_count_35, eX3_count_41, eX3_count_48, i10, if_false, kx_l, wt_nil, wt_ref, tl_s, Nat.add_zero]
  with_reducible refine And.intro ?_ ?_
  omega
  with_reducible refine And.intro ?_ ?_
  omega
  with_reducible exact hQ _ _ _ (by assumption)
  with_reducible exact n00x (by assumption)
set_option maxHeartbeats 4000000 in
theorem gX3_who {a0 a1 : Int32} (hM : MS g w0 y nM kd th s w) (hQ : ∀ (v th' : Int32) w', MS g w0 y nM kd th' s w' → Q (.inl (some (.int v))) w') : WP (MX3_who g) Q (0, [some (.ref y), some (.int a0), some (.int a1)], [], w, 0, 0) := by
  simp only [eX3_who_0, eX3_who_5, wt_nil, wt_ref, Nat.add_zero]
  with_reducible refine And.intro ?_ ?_
  omega
  with_reducible refine And.intro ?_ ?_
  omega
  with_reducible refine And.intro ?_ ?_
  omega
  with_reducible refine fX3_isNoNumber (fun _ => ?_) (fun _ => ?_)
  simp only [eX3_who_6, kx_l, wt_nil, tl_s, Nat.add_zero]
  with_reducible refine And.intro ?_ ?_
  with_reducible refine go_S (by assumption) (fun _ _ hY => ?_)
  with_reducible exact trivial
  with_reducible refine And.intro ?_ ?_
  omega
  with_reducible refine And.intro ?_ ?_
  omega
  with_reducible refine And.intro ?_ ?_
  omega
  with_reducible refine fX3_start (by assumption) (by decide) (fun _ w1 h1 => ?_) (fun _ w1 h1 => ?_)
  with_reducible exact absurd (by assumption) n10'
  simp only [eX3_who_9, eX3_who_12, eX3_who_34, eX3_who_44, i10, if_false, kx_l, wt_nil, wt_ref, tl_s, Nat.add_zero]
  with_reducible refine And.intro ?_ ?_
  omega
  with_reducible refine And.intro ?_ ?_
  omega
  with_reducible exact hQ _ _ _ (by assumption)
  simp only [eX3_who_6, kx_l, wt_nil, tl_s, Nat.add_zero]
  with_reducible refine And.intro ?_ ?_
  with_reducible refine go_S (by assumption) (fun _ _ hY => ?_)
  with_reducible exact trivial
  with_reducible refine And.intro ?_ ?_
  omega
  with_reducible refine And.intro ?_ ?_
  omega
  with_reducible refine And.intro ?_ ?_
  omega
  with_reducible refine fX3_start (by assumption) (by decide) (fun _ w1 h1 => ?_) (fun _ w1 h1 => ?_)
  simp only [eX3_who_9, eX3_who_12, eX3_who_34, eX3_who_44, if_true, kx_l, wt_nil, wt_ref, tl_s, Nat.add_zero]
  with_reducible refine And.intro ?_ ?_
  omega
  with_reducible refine And.intro ?_ ?_
  omega
  with_reducible refine And.intro ?_ ?_
  omega
  with_reducible refine fX3_isIn (fun _ _ => ?_) (fun _ => ?_)
  simp only [eX3_who_19, eX3_who_22, eX3_who_26, eX3_who_27, i10, if_false, kx_l, wt_nil, tl_s, Nat.add_zero]
  with_reducible refine And.intro ?_ ?_
  with_reducible refine go_S (by assumption) (fun _ _ hY => ?_)
  with_reducible exact trivial
  with_reducible refine And.intro ?_ ?_
  omega
  with_reducible refine And.intro ?_ ?_
  omega
  with_reducible refine And.intro ?_ ?_
  omega
  with_reducible refine fX3_refuse (by assumption) (by decide) (fun _ => ?_) (fun _ w2 h2 => ?_)
  simp only [eX3_who_31, eX3_who_34, eX3_who_38, eX3_who_44, if_true, kx_l, wt_nil, tl_s, Nat.add_zero]
  with_reducible refine And.intro ?_ ?_
  with_reducible refine go_S (by assumption) (fun _ _ hY => ?_)
  with_reducible exact trivial
  with_reducible refine And.intro ?_ ?_
  omega
  with_reducible refine And.intro ?_ ?_
  omega
  with_reducible refine And.intro ?_ ?_
  omega
  with_reducible refine sX3_whoNow (MS.mm (by assumption)) (And.left (by assumption : okN _)) (lt87 (And.right (by assumption : okN _))) (fun _ => ?_)
  simp only [eX3_who_44, kx_l, tl_s]
  with_reducible refine And.intro ?_ ?_
  omega
  with_reducible refine And.intro ?_ ?_
  omega
  with_reducible exact hQ _ _ _ (by assumption)
  with_reducible exact n00x (by assumption)
  simp only [eX3_who_19, eX3_who_22, eX3_who_26, eX3_who_27, if_true, kx_l, wt_nil, tl_s, Nat.add_zero]
  with_reducible refine And.intro ?_ ?_
  with_reducible refine go_S (by assumption) (fun _ _ hY => ?_)
  with_reducible exact trivial
  with_reducible refine And.intro ?_ ?_
  omega
  with_reducible refine And.intro ?_ ?_
  omega
  with_reducible refine And.intro ?_ ?_
  omega
  with_reducible refine fX3_refuse (by assumption) (by decide) (fun _ => ?_) (fun _ w2 h2 => ?_)
  with_reducible exact absurd (by assumption) n10'
  simp only [eX3_who_31, eX3_who_34, eX3_who_38, eX3_who_44, i10, if_false, kx_l, wt_nil, tl_s, Nat.add_zero]
  with_reducible refine And.intro ?_ ?_
  omega
  with_reducible refine And.intro ?_ ?_
  omega
  with_reducible exact hQ _ _ _ (by assumption)
  with_reducible exact n00x (by assumption)
set_option maxHeartbeats 4000000 in
theorem gX3_which {a0 : Int32} (hM : MS g w0 y nM kd th s w) (hQ : ∀ (v th' : Int32) w', MS g w0 y nM kd th' s w' → Q (.inl (some (.int v))) w') : WP (MX3_which g) Q (0, [some (.ref y), some (.int a0)], [], w, 0, 0) := by
  simp only [eX3_which_0, wt_nil, wt_ref, Nat.add_zero]
  with_reducible refine And.intro ?_ ?_
  omega
  with_reducible refine And.intro ?_ ?_
  omega
  with_reducible refine And.intro ?_ ?_
  omega
  with_reducible refine fX3_isIn (fun _ _ => ?_) (fun _ => ?_)
  simp only [eX3_which_7, eX3_which_10, eX3_which_14, eX3_which_15, i10, if_false, kx_l, wt_nil, tl_s, Nat.add_zero]
  with_reducible refine And.intro ?_ ?_
  with_reducible refine go_S (by assumption) (fun _ _ hY => ?_)
  with_reducible exact trivial
  with_reducible refine And.intro ?_ ?_
  omega
  with_reducible refine And.intro ?_ ?_
  omega
  with_reducible refine And.intro ?_ ?_
  omega
  with_reducible refine fX3_start (by assumption) (by decide) (fun _ w1 h1 => ?_) (fun _ w1 h1 => ?_)
  simp only [eX3_which_19, eX3_which_22, eX3_which_26, eX3_which_31, if_true, kx_l, wt_nil, tl_s, Nat.add_zero]
  with_reducible refine And.intro ?_ ?_
  with_reducible refine go_S (by assumption) (fun _ _ hY => ?_)
  with_reducible exact trivial
  with_reducible refine And.intro ?_ ?_
  omega
  with_reducible refine And.intro ?_ ?_
  omega
  with_reducible refine And.intro ?_ ?_
  omega
  with_reducible refine sX3_whichNow_ (MS.mm (by assumption)) (fun _ => ?_)
  simp only [eX3_which_31, kx_l, tl_s]
  with_reducible refine And.intro ?_ ?_
  omega
  with_reducible refine And.intro ?_ ?_
  omega
  with_reducible exact hQ _ _ _ (by assumption)
  with_reducible exact n00x (by assumption)
  simp only [eX3_which_7, eX3_which_10, eX3_which_14, eX3_which_15, if_true, kx_l, wt_nil, tl_s, Nat.add_zero]
  with_reducible refine And.intro ?_ ?_
  with_reducible refine go_S (by assumption) (fun _ _ hY => ?_)
  with_reducible exact trivial
  with_reducible refine And.intro ?_ ?_
  omega
  with_reducible refine And.intro ?_ ?_
  omega
  with_reducible refine And.intro ?_ ?_
  omega
  with_reducible refine fX3_start (by assumption) (by decide) (fun _ w1 h1 => ?_) (fun _ w1 h1 => ?_)
  with_reducible exact absurd (by assumption) n10'
  simp only [eX3_which_19, eX3_which_22, eX3_which_26, eX3_which_31, i10, if_false, kx_l, wt_nil, tl_s, Nat.add_zero]
  with_reducible refine And.intro ?_ ?_
  omega
  with_reducible refine And.intro ?_ ?_
  omega
  with_reducible exact hQ _ _ _ (by assumption)
set_option maxHeartbeats 4000000 in
theorem gX3_likes {a0 : Int32} (hM : MS g w0 y nM kd th s w) (hQ : ∀ (v th' : Int32) w', MS g w0 y nM kd th' s w' → Q (.inl (some (.int v))) w') : WP (MX3_likes g) Q (0, [some (.ref y), some (.int a0)], [], w, 0, 0) := by
  simp only [eX3_likes_0, wt_nil, Nat.add_zero]
  with_reducible refine And.intro ?_ ?_
  with_reducible refine go_S (by assumption) (fun _ _ hY => ?_)
  with_reducible exact trivial
  with_reducible refine And.intro ?_ ?_
  omega
  with_reducible refine And.intro ?_ ?_
  omega
  with_reducible refine And.intro ?_ ?_
  omega
  with_reducible refine fX3_isNone (by assumption) (fun _ w1 h1 => ?_) (fun _ _ w1 h1 => ?_) (fun _ _ _ w1 h1 => ?_)
  simp only [eX3_likes_5, eX3_likes_8, eX3_likes_12, eX3_likes_17, i10, if_false, kx_l, wt_nil, tl_s, Nat.add_zero]
  with_reducible refine And.intro ?_ ?_
  omega
  with_reducible refine And.intro ?_ ?_
  omega
  with_reducible exact hQ _ _ _ (by assumption)
  simp only [eX3_likes_5, eX3_likes_8, eX3_likes_12, eX3_likes_17, i10, if_false, kx_l, wt_nil, tl_s, Nat.add_zero]
  with_reducible refine And.intro ?_ ?_
  omega
  with_reducible refine And.intro ?_ ?_
  omega
  with_reducible exact hQ _ _ _ (by assumption)
  simp only [eX3_likes_5, eX3_likes_8, eX3_likes_12, eX3_likes_17, if_true, kx_l, wt_nil, tl_s, Nat.add_zero]
  with_reducible refine And.intro ?_ ?_
  with_reducible refine go_S (by assumption) (fun _ _ hY => ?_)
  with_reducible exact trivial
  with_reducible refine And.intro ?_ ?_
  omega
  with_reducible refine And.intro ?_ ?_
  omega
  with_reducible refine And.intro ?_ ?_
  omega
  with_reducible refine gX3_likesNow (by assumption) (by assumption) (by assumption) (fun _ => ?_)
  simp only [eX3_likes_17, kx_l, tl_s]
  with_reducible refine And.intro ?_ ?_
  omega
  with_reducible refine And.intro ?_ ?_
  omega
  with_reducible exact hQ _ _ _ (by assumption)
set_option maxHeartbeats 4000000 in
theorem gX3_howOften {a0 : Int32} (hM : MS g w0 y nM kd th s w) (hQ : ∀ (v th' : Int32) w', MS g w0 y nM kd th' s w' → Q (.inl (some (.int v))) w') : WP (MX3_howOften g) Q (0, [some (.ref y), some (.int a0)], [], w, 0, 0) := by
  simp only [eX3_howOften_0, wt_nil, Nat.add_zero]
  with_reducible refine And.intro ?_ ?_
  with_reducible refine go_S (by assumption) (fun _ _ hY => ?_)
  with_reducible exact trivial
  with_reducible refine And.intro ?_ ?_
  omega
  with_reducible refine And.intro ?_ ?_
  omega
  with_reducible refine And.intro ?_ ?_
  omega
  with_reducible refine fX3_isNone (by assumption) (fun _ w1 h1 => ?_) (fun _ _ w1 h1 => ?_) (fun _ _ _ w1 h1 => ?_)
  simp only [eX3_howOften_5, eX3_howOften_8, eX3_howOften_12, eX3_howOften_17, i10, if_false, kx_l, wt_nil, tl_s, Nat.zero_add]
  with_reducible refine And.intro ?_ ?_
  omega
  with_reducible refine And.intro ?_ ?_
  omega
  with_reducible exact hQ _ _ _ (by assumption)
  simp only [eX3_howOften_5, eX3_howOften_8, eX3_howOften_12, eX3_howOften_17, i10, if_false, kx_l, wt_nil, tl_s, Nat.zero_add]
  with_reducible refine And.intro ?_ ?_
  omega
  with_reducible refine And.intro ?_ ?_
  omega
  with_reducible exact hQ _ _ _ (by assumption)
  simp only [eX3_howOften_5, eX3_howOften_8, eX3_howOften_12, eX3_howOften_17, if_true, kx_l, wt_nil, tl_s, Nat.zero_add]
  with_reducible refine And.intro ?_ ?_
  with_reducible refine go_S (by assumption) (fun _ _ hY => ?_)
  with_reducible exact trivial
  with_reducible refine And.intro ?_ ?_
  omega
  with_reducible refine And.intro ?_ ?_
  omega
  with_reducible refine And.intro ?_ ?_
  omega
  with_reducible refine gX3_oftenNow (by assumption) (by assumption) (by assumption) (fun _ w5 h5 => ?_)
  simp only [eX3_howOften_17, kx_l, tl_s]
  with_reducible refine And.intro ?_ ?_
  omega
  with_reducible refine And.intro ?_ ?_
  omega
  with_reducible exact hQ _ _ _ (by assumption)
set_option maxHeartbeats 4000000 in
theorem gX3_pile {a0 a1 : Int32} (hM : MS g w0 y nM kd th s w) (hQ : ∀ (v th' : Int32) w', MS g w0 y nM kd th' s w' → Q (.inl (some (.int v))) w') : WP (MX3_pile g) Q (0, [some (.ref y), some (.int a0), some (.int a1)], [], w, 0, 0) := by
  simp only [eX3_pile_0, eX3_pile_5, wt_nil, wt_ref, Nat.add_zero]
  with_reducible refine And.intro ?_ ?_
  omega
  with_reducible refine And.intro ?_ ?_
  omega
  with_reducible refine And.intro ?_ ?_
  omega
  with_reducible refine fX3_isNoNumber (fun _ => ?_) (fun _ => ?_)
  simp only [eX3_pile_6, kx_l, wt_nil, tl_s, Nat.add_zero]
  with_reducible refine And.intro ?_ ?_
  with_reducible refine go_S (by assumption) (fun _ _ hY => ?_)
  with_reducible exact trivial
  with_reducible refine And.intro ?_ ?_
  omega
  with_reducible refine And.intro ?_ ?_
  omega
  with_reducible refine And.intro ?_ ?_
  omega
  with_reducible refine fX3_start (by assumption) (by decide) (fun _ w1 h1 => ?_) (fun _ w1 h1 => ?_)
  with_reducible exact absurd (by assumption) n10'
  simp only [eX3_pile_9, eX3_pile_12, eX3_pile_34, eX3_pile_44, i10, if_false, kx_l, wt_nil, wt_ref, tl_s, Nat.add_zero]
  with_reducible refine And.intro ?_ ?_
  omega
  with_reducible refine And.intro ?_ ?_
  omega
  with_reducible exact hQ _ _ _ (by assumption)
  simp only [eX3_pile_6, kx_l, wt_nil, tl_s, Nat.add_zero]
  with_reducible refine And.intro ?_ ?_
  with_reducible refine go_S (by assumption) (fun _ _ hY => ?_)
  with_reducible exact trivial
  with_reducible refine And.intro ?_ ?_
  omega
  with_reducible refine And.intro ?_ ?_
  omega
  with_reducible refine And.intro ?_ ?_
  omega
  with_reducible refine fX3_start (by assumption) (by decide) (fun _ w1 h1 => ?_) (fun _ w1 h1 => ?_)
  simp only [eX3_pile_9, eX3_pile_12, eX3_pile_34, eX3_pile_44, if_true, kx_l, wt_nil, wt_ref, tl_s, Nat.add_zero]
  with_reducible refine And.intro ?_ ?_
  omega
  with_reducible refine And.intro ?_ ?_
  omega
  with_reducible refine And.intro ?_ ?_
  omega
  with_reducible refine fX3_isIn (fun _ _ => ?_) (fun _ => ?_)
  simp only [eX3_pile_19, eX3_pile_22, eX3_pile_26, eX3_pile_27, i10, if_false, kx_l, wt_nil, tl_s, Nat.add_zero]
  with_reducible refine And.intro ?_ ?_
  with_reducible refine go_S (by assumption) (fun _ _ hY => ?_)
  with_reducible exact trivial
  with_reducible refine And.intro ?_ ?_
  omega
  with_reducible refine And.intro ?_ ?_
  omega
  with_reducible refine And.intro ?_ ?_
  omega
  with_reducible refine fX3_refuse (by assumption) (by decide) (fun _ => ?_) (fun _ w2 h2 => ?_)
  simp only [eX3_pile_31, eX3_pile_34, eX3_pile_38, eX3_pile_44, if_true, kx_l, wt_nil, tl_s, Nat.zero_add]
  with_reducible refine And.intro ?_ ?_
  with_reducible refine go_S (by assumption) (fun _ _ hY => ?_)
  with_reducible exact trivial
  with_reducible refine And.intro ?_ ?_
  omega
  with_reducible refine And.intro ?_ ?_
  omega
  with_reducible refine And.intro ?_ ?_
  omega
  with_reducible refine sX3_pileNowM (MS.mm (by assumption)) (And.left (by assumption : okN _)) (lt87 (And.right (by assumption : okN _))) (by assumption) (by assumption) (fun _ w5 k5 => ?_)
  simp only [eX3_pile_44, kx_l, tl_s]
  with_reducible refine And.intro ?_ ?_
  omega
  with_reducible refine And.intro ?_ ?_
  omega
  with_reducible exact hQ _ _ _ (MS.ext (by assumption) (by assumption))
  with_reducible exact n00x (by assumption)
  simp only [eX3_pile_19, eX3_pile_22, eX3_pile_26, eX3_pile_27, if_true, kx_l, wt_nil, tl_s, Nat.add_zero]
  with_reducible refine And.intro ?_ ?_
  with_reducible refine go_S (by assumption) (fun _ _ hY => ?_)
  with_reducible exact trivial
  with_reducible refine And.intro ?_ ?_
  omega
  with_reducible refine And.intro ?_ ?_
  omega
  with_reducible refine And.intro ?_ ?_
  omega
  with_reducible refine fX3_refuse (by assumption) (by decide) (fun _ => ?_) (fun _ w2 h2 => ?_)
  with_reducible exact absurd (by assumption) n10'
  simp only [eX3_pile_31, eX3_pile_34, eX3_pile_38, eX3_pile_44, i10, if_false, kx_l, wt_nil, tl_s, Nat.zero_add]
  with_reducible refine And.intro ?_ ?_
  omega
  with_reducible refine And.intro ?_ ?_
  omega
  with_reducible exact hQ _ _ _ (by assumption)
  with_reducible exact n00x (by assumption)
set_option maxHeartbeats 4000000 in
theorem gX3_house {a0 : Int32} (hM : MS g w0 y nM kd th s w) (hQ : ∀ (v th' : Int32) w', MS g w0 y nM kd th' s w' → Q (.inl (some (.int v))) w') : WP (MX3_house g) Q (0, [some (.ref y), some (.int a0)], [], w, 0, 0) := by
  repeat' first
    | with_reducible assumption
    | with_reducible refine And.intro ?_ ?_
    | with_reducible exact vpi6 (by assumption) (by assumption)
    | with_reducible exact vpi8 (by assumption) (by assumption)
    | with_reducible exact trivial
    | with_reducible exact absurd (by assumption) n10'
    | with_reducible exact n00x (by assumption)
    | with_reducible refine fX3_isNone (by assumption) (fun _ w1 h1 => ?_) (fun _ _ w1 h1 => ?_) (fun _ _ _ w1 h1 => ?_)
    | with_reducible refine fX3_isNoEnd_ (by assumption) (fun _ w1 h1 => ?_) (fun _ _ w1 h1 => ?_) (fun _ _ _ w1 h1 => ?_) (fun _ _ _ _ w1 h1 => ?_)
    | with_reducible refine sX3_whichNow (rowA.row (by assumption)) (fun _ => ?_)
    | with_reducible refine sX3_aroundNow (rowA.row (by assumption)) (And.left (by assumption : okW _ 3)) (And.right (by assumption : okW _ 3)) (fun _ => ?_)
    | with_reducible refine sX3_whoNow (MS.mm (by assumption)) (And.left (by assumption : okN _)) (lt87 (And.right (by assumption : okN _))) (fun _ => ?_)
    | with_reducible refine sX3_whichNow_ (MS.mm (by assumption)) (fun _ => ?_)
    | with_reducible refine gX3_likesNow (by assumption) (by assumption) (by assumption) (fun _ => ?_)
    | with_reducible refine gX3_oftenNow (by assumption) (by assumption) (by assumption) (fun _ w5 h5 => ?_)
    | with_reducible refine sX3_pileNowM (MS.mm (by assumption)) (And.left (by assumption : okN _)) (lt87 (And.right (by assumption : okN _))) (by assumption) (by assumption) (fun _ w5 k5 => ?_)
    | with_reducible refine sX3_houseNow (MS.mm (by assumption)) (by assumption) (by assumption) (fun _ w5 k5 => ?_)
    | with_reducible exact hQ _ _ _ (MS.ext (by assumption) (by assumption))
    | with_reducible refine sX3_fixed (rowA.row (by assumption)) ?_ ?_
    | with_reducible refine gX3_count_56 (by assumption) (by assumption) (by assumption) (by assumption) (fun _ => ?_) (by first | assumption | omega) (by first | assumption | omega)
    | with_reducible exact hQ _ _ _ (by assumption)
    | with_reducible refine fX3_isNoNumber (fun _ => ?_) (fun _ => ?_)
    | with_reducible refine fX3_isNoCard (fun _ => ?_) (fun _ => ?_)
    | with_reducible refine fX3_isNoEnd (fun _ => ?_) (fun _ => ?_)
    | with_reducible refine fX3_isIn (fun _ _ => ?_) (fun _ => ?_)
    | with_reducible refine fX3_start (by assumption) (by decide) (fun _ w1 h1 => ?_) (fun _ w1 h1 => ?_)
    | with_reducible refine fX3_refuse (by assumption) (by decide) (fun _ => ?_) (fun _ w2 h2 => ?_)
    | with_reducible refine go_S (by assumption) (fun _ _ hY => ?_)
    | with_reducible refine fX3_isBare (by assumption) (by assumption) (fun _ => ?_) (fun _ _ => ?_)
    | with_reducible exact MS.gC (by assumption) (by assumption)
    | with_reducible exact MS.gP (by assumption) (by assumption)
    | (simp only [rv0, rv1, rv2, rv3])
    | with_reducible refine sGetK (by assumption) (by assumption) (by assumption) (by assumption) (fun _ hb => ?_)
    | with_reducible exact rowA.ca (by assumption)
    | with_reducible refine gl_A (by assumption) ?_
    | with_reducible exact vpi4.1
    | with_reducible exact vpi4.2.1
    | with_reducible exact vpi4.2.2.1
    | with_reducible exact vpi4.2.2.2
    | simp only [eX3_house_0, eX3_house_0N, eX3_house_1, eX3_house_7, eX3_house_10, eX3_house_14, eX3_house_15, eX3_house_19, eX3_house_22, eX3_house_26, eX3_house_26N, eX3_house_27, eX3_house_31, lgp, lgn, lgz, i10, i00, if_true, if_false, eq_self, not_true, not_false_eq_true, m10, n4e, upw2q, rv0, rv1, rv2, rv3, lmi, lmx, ite_le, n45, n54, true_or, or_true, false_or, or_false, false_and, and_false, kx_l, kx_r, go_s, gl_s, gi_s, gb_s2, gb_s3, gq_s, wt_nil, wt_int, wt_long, wt_ref, wt_null, nl_int, nl_long, nl_ref, nl_null, nl_none, rf_n, rf_s, rf_st, tl_s, tl_n, g0, gS, ex1, nb_b, nb_0, nb_1, nf_i, nf_l, nf_ra, nf_ro, nf_na, nf_no, nf_b0, nf_z0, t45_4, t45_5, true_and, and_true, List.set_cons_zero, List.set_cons_succ, List.length_cons, List.length_nil, rd_s, upw_s, ne_eq, not_false_eq_true, Nat.zero_add, Nat.add_zero]
    | with_reducible refine itx (fun _ => ?_) (fun _ => ?_)
    | split
    | with_reducible intro _
    | omega
set_option maxHeartbeats 8000000 in
theorem gX3_numberText {a : Int32} (hM : MS g w0 y nM kd th s w) (hS : SG g) (hD : DG g w0) (hT : TXT g w0) (hQ : ∀ (q : Nat) (th' : Int32) w', MS g w0 y nM kd th' s w' → Q (.inl (some (.ref q))) w') : WP (MX3_numberText g) Q (0, [some (.ref y), some (.int a)], [], w, 0, 0) := by
  obtain ⟨⟨s1, t1, o1, b1⟩, ⟨s2, t2⟩, s3, t3, o3, b3⟩ := hT
  have z0 : (0 : Int32).toInt = 0 := rfl
  simp only [eX3_numberText_0, eX3_numberText_5, wt_nil, wt_ref, Nat.add_zero]
  with_reducible refine And.intro ?_ ?_
  omega
  with_reducible refine And.intro ?_ ?_
  omega
  with_reducible refine And.intro ?_ ?_
  omega
  with_reducible refine fX3_isNoNumber (fun _ => ?_) (fun _ => ?_)
  simp only [eX3_numberText_6, kx_l, wt_nil, tl_s, Nat.add_zero]
  with_reducible refine And.intro ?_ ?_
  with_reducible refine go_S (by assumption) (fun _ _ hY => ?_)
  with_reducible exact trivial
  with_reducible refine And.intro ?_ ?_
  omega
  with_reducible refine And.intro ?_ ?_
  omega
  with_reducible refine And.intro ?_ ?_
  omega
  with_reducible refine fX3_start (by assumption) (by decide) (fun _ w1 h1 => ?_) (fun _ w1 h1 => ?_)
  with_reducible exact absurd (by assumption) n10'
  simp only [eX3_numberText_9, eX3_numberText_12, eX3_numberText_17, eX3_numberText_20R, eX3_numberText_24, eX3_numberText_41, kx_l, wt_nil, wt_ref, tl_s, Nat.zero_add, Nat.add_zero, if_false, m10, t1]
  with_reducible refine And.intro ?_ ?_
  omega
  with_reducible refine And.intro ?_ ?_
  omega
  with_reducible exact hQ _ _ _ (by assumption)
  simp only [eX3_numberText_6, kx_l, wt_nil, tl_s, Nat.add_zero]
  with_reducible refine And.intro ?_ ?_
  with_reducible refine go_S (by assumption) (fun _ _ hY => ?_)
  with_reducible exact trivial
  with_reducible refine And.intro ?_ ?_
  omega
  with_reducible refine And.intro ?_ ?_
  omega
  with_reducible refine And.intro ?_ ?_
  omega
  with_reducible refine fX3_start (by assumption) (by decide) (fun _ w1 h1 => ?_) (fun _ w1 h1 => ?_)
  simp only [eX3_numberText_9, eX3_numberText_12, eX3_numberText_17, eX3_numberText_20R, eX3_numberText_24, eX3_numberText_41, kx_l, wt_nil, wt_ref, tl_s, Nat.zero_add, Nat.add_zero, if_true, t1]
  with_reducible refine And.intro ?_ ?_
  omega
  with_reducible refine And.intro ?_ ?_
  omega
  with_reducible intro _
  with_reducible intro _
  with_reducible refine And.intro ?_ ?_
  omega
  with_reducible refine And.intro ?_ ?_
  omega
  with_reducible refine And.intro ?_ ?_
  omega
  with_reducible refine sJ4_init_da8c8 hS (ext_up2 ext.rf (by assumption)) (upw_s _ _ _) (rd_none (by assumption)) (rd_ro (by assumption)) (fun _ _ _ => ?_)
  simp only [eX3_numberText_26R, eX3_numberText_29, eX3_numberText_33, kx_l, wt_nil, tl_n]
  with_reducible refine And.intro ?_ ?_
  with_reducible exact TS.g1 (by assumption)
  with_reducible refine And.intro ?_ ?_
  omega
  with_reducible refine And.intro ?_ ?_
  omega
  with_reducible refine And.intro ?_ ?_
  omega
  with_reducible refine sJ4_append_15ec4 hS (by assumption) (by first | assumption | decide) (by omega) (STO.fm (by assumption) (MS.mm (by assumption))) (by assumption) (fun _ _ _ _ _ _ _ _ => ?_)
  simp only [kx_l, tl_s]
  with_reducible refine go_S (MS.ts (by assumption) (by assumption)) (fun _ _ hY => ?_)
  simp only [eX3_numberText_34, eX3_numberText_35, wt_nil, g0, gS, ex1]
  with_reducible refine gl_S (MS.ts (by assumption) (by assumption)) ?_
  with_reducible refine And.intro ?_ ?_
  with_reducible exact vpi8k (by assumption)
  with_reducible refine And.intro ?_ ?_
  with_reducible exact TS.g1 (by assumption)
  with_reducible refine And.intro ?_ ?_
  omega
  with_reducible refine And.intro ?_ ?_
  omega
  with_reducible refine And.intro ?_ ?_
  omega
  with_reducible refine sJ4_append_f7089 hS (by assumption) (by first | assumption | decide) (by omega) (DG.fm hD (MS.mm (by assumption))) (fun _ _ _ _ _ _ _ _ => ?_)
  simp only [eX3_numberText_38, kx_l, wt_nil, tl_s]
  with_reducible refine And.intro ?_ ?_
  with_reducible exact TS.g1 (by assumption)
  with_reducible refine And.intro ?_ ?_
  omega
  with_reducible refine And.intro ?_ ?_
  omega
  with_reducible refine And.intro ?_ ?_
  omega
  with_reducible refine sJ4_toString_0e30d hS (by assumption) (by first | decide | omega) (by omega) (fun _ _ _ => ?_)
  simp only [eX3_numberText_41, kx_l, tl_s]
  with_reducible refine And.intro ?_ ?_
  omega
  with_reducible refine And.intro ?_ ?_
  omega
  with_reducible exact hQ _ _ _ (msEx2 (by assumption) (by assumption))
  with_reducible exact n00x (by assumption)
set_option maxHeartbeats 8000000 in
theorem gX3_cardText {a : Int32} (hM : MS g w0 y nM kd th s w) (hS : SG g) (hD : DG g w0) (hT : TXT g w0) (hQ : ∀ (q : Nat) (th' : Int32) w', MS g w0 y nM kd th' s w' → Q (.inl (some (.ref q))) w') : WP (MX3_cardText g) Q (0, [some (.ref y), some (.int a), none], [], w, 0, 0) := by
  obtain ⟨⟨s1, t1, o1, b1⟩, ⟨s2, t2⟩, s3, t3, o3, b3⟩ := hT
  have z0 : (0 : Int32).toInt = 0 := rfl
  simp only [eX3_cardText_0, eX3_cardText_5, wt_nil, wt_ref, Nat.add_zero]
  with_reducible refine And.intro ?_ ?_
  omega
  with_reducible refine And.intro ?_ ?_
  omega
  with_reducible refine And.intro ?_ ?_
  omega
  with_reducible refine fX3_isNoCard (fun _ => ?_) (fun _ => ?_)
  simp only [eX3_cardText_6, kx_l, wt_nil, tl_s, Nat.add_zero]
  with_reducible refine And.intro ?_ ?_
  with_reducible refine go_S (by assumption) (fun _ _ hY => ?_)
  with_reducible exact trivial
  with_reducible refine And.intro ?_ ?_
  omega
  with_reducible refine And.intro ?_ ?_
  omega
  with_reducible refine And.intro ?_ ?_
  omega
  with_reducible refine fX3_start (by assumption) (by decide) (fun _ w1 h1 => ?_) (fun _ w1 h1 => ?_)
  with_reducible exact absurd (by assumption) n10'
  simp only [eX3_cardText_9, eX3_cardText_12, eX3_cardText_14, eX3_cardText_15, kx_l, wt_nil, tl_s, Nat.add_zero, if_false, m10, t1]
  with_reducible refine And.intro ?_ ?_
  omega
  with_reducible refine And.intro ?_ ?_
  omega
  with_reducible exact hQ _ _ _ (by assumption)
  simp only [eX3_cardText_6, kx_l, wt_nil, tl_s, Nat.add_zero]
  with_reducible refine And.intro ?_ ?_
  with_reducible refine go_S (by assumption) (fun _ _ hY => ?_)
  with_reducible exact trivial
  with_reducible refine And.intro ?_ ?_
  omega
  with_reducible refine And.intro ?_ ?_
  omega
  with_reducible refine And.intro ?_ ?_
  omega
  with_reducible refine fX3_start (by assumption) (by decide) (fun _ w1 h1 => ?_) (fun _ w1 h1 => ?_)
  simp only [eX3_cardText_9, eX3_cardText_12, eX3_cardText_14, eX3_cardText_15, kx_l, wt_nil, tl_s, Nat.add_zero, if_true, t1]
  with_reducible refine And.intro ?_ ?_
  with_reducible refine go_S (by assumption) (fun _ _ hY => ?_)
  with_reducible exact trivial
  with_reducible refine And.intro ?_ ?_
  omega
  with_reducible refine And.intro ?_ ?_
  omega
  with_reducible refine And.intro ?_ ?_
  omega
  with_reducible refine fX3_isBare (by assumption) (by assumption) (fun _ => ?_) (fun _ _ => ?_)
  simp only [eX3_cardText_20, eX3_cardText_23, eX3_cardText_25, eX3_cardText_26, eX3_cardText_30, kx_l, tl_s, if_false, m10, t2]
  with_reducible refine And.intro ?_ ?_
  omega
  with_reducible refine And.intro ?_ ?_
  omega
  with_reducible exact hQ _ _ _ (by assumption)
  simp only [eX3_cardText_20, eX3_cardText_23, eX3_cardText_25, eX3_cardText_26, eX3_cardText_30, kx_l, tl_s, if_true, t2]
  with_reducible refine go_S (by assumption) (fun _ _ hY => ?_)
  simp only [eX3_cardText_31, wt_nil, g0, gS, ex1, Nat.add_zero]
  with_reducible refine And.intro ?_ ?_
  with_reducible exact MS.gC (by assumption) (by assumption)
  with_reducible refine And.intro ?_ ?_
  omega
  with_reducible refine And.intro ?_ ?_
  omega
  with_reducible refine And.intro ?_ ?_
  omega
  with_reducible refine sGetK (by assumption) (by assumption) (by assumption) (by assumption) (fun _ hb => ?_)
  simp only [eX3_cardText_34R, eX3_cardText_37, eX3_cardText_41R, eX3_cardText_45, kx_l, wt_nil, wt_ref, nl_int, tl_s, Nat.zero_add, Nat.add_zero]
  with_reducible refine And.intro ?_ ?_
  with_reducible exact rowA.ca (by assumption)
  with_reducible refine And.intro ?_ ?_
  omega
  with_reducible refine And.intro ?_ ?_
  omega
  with_reducible intro _
  with_reducible intro _
  with_reducible refine And.intro ?_ ?_
  omega
  with_reducible refine And.intro ?_ ?_
  omega
  with_reducible refine And.intro ?_ ?_
  omega
  with_reducible refine sJ4_init_da8c8 hS (ext_up2 ext.rf (by assumption)) (upw_s _ _ _) (rd_none (by assumption)) (rd_ro (by assumption)) (fun _ _ _ => ?_)
  simp only [eX3_cardText_48, eX3_cardText_51, kx_l, wt_nil, tl_n, t3]
  with_reducible refine gl_A (rowA.ts (by assumption) (by assumption)) ?_
  with_reducible refine And.intro ?_ ?_
  with_reducible exact vpi4.1
  with_reducible refine And.intro ?_ ?_
  with_reducible exact TS.g1 (by assumption)
  with_reducible refine And.intro ?_ ?_
  omega
  with_reducible refine And.intro ?_ ?_
  omega
  with_reducible refine And.intro ?_ ?_
  omega
  with_reducible refine sJ4_append_f7089 hS (by assumption) (by first | assumption | decide) (by omega) (DG.fm hD (MS.mm (by assumption))) (fun _ _ _ _ _ _ _ _ => ?_)
  simp only [eX3_cardText_53R, eX3_cardText_56, kx_l, wt_nil, tl_s]
  with_reducible refine And.intro ?_ ?_
  with_reducible exact TS.g1 (by assumption)
  with_reducible refine And.intro ?_ ?_
  omega
  with_reducible refine And.intro ?_ ?_
  omega
  with_reducible refine And.intro ?_ ?_
  omega
  with_reducible refine sJ4_append_15ec4 hS (by assumption) (by first | assumption | decide) (by omega) (STO.fm (by assumption) (MS.mm (by assumption))) (by assumption) (fun _ _ _ _ _ _ _ _ => ?_)
  simp only [eX3_cardText_59, eX3_cardText_62, kx_l, wt_nil, tl_s, t3]
  with_reducible refine gl_A (rowA.ts (by assumption) (by assumption)) ?_
  with_reducible refine And.intro ?_ ?_
  with_reducible exact vpi4.2.1
  with_reducible refine And.intro ?_ ?_
  with_reducible exact TS.g1 (by assumption)
  with_reducible refine And.intro ?_ ?_
  omega
  with_reducible refine And.intro ?_ ?_
  omega
  with_reducible refine And.intro ?_ ?_
  omega
  with_reducible refine sJ4_append_f7089 hS (by assumption) (by first | assumption | decide) (by omega) (DG.fm hD (MS.mm (by assumption))) (fun _ _ _ _ _ _ _ _ => ?_)
  simp only [eX3_cardText_64R, eX3_cardText_67, kx_l, wt_nil, tl_s]
  with_reducible refine And.intro ?_ ?_
  with_reducible exact TS.g1 (by assumption)
  with_reducible refine And.intro ?_ ?_
  omega
  with_reducible refine And.intro ?_ ?_
  omega
  with_reducible refine And.intro ?_ ?_
  omega
  with_reducible refine sJ4_append_15ec4 hS (by assumption) (by first | assumption | decide) (by omega) (STO.fm (by assumption) (MS.mm (by assumption))) (by assumption) (fun _ _ _ _ _ _ _ _ => ?_)
  simp only [eX3_cardText_70, eX3_cardText_73, kx_l, wt_nil, tl_s, t3]
  with_reducible refine gl_A (rowA.ts (by assumption) (by assumption)) ?_
  with_reducible refine And.intro ?_ ?_
  with_reducible exact vpi4.2.2.1
  with_reducible refine And.intro ?_ ?_
  with_reducible exact TS.g1 (by assumption)
  with_reducible refine And.intro ?_ ?_
  omega
  with_reducible refine And.intro ?_ ?_
  omega
  with_reducible refine And.intro ?_ ?_
  omega
  with_reducible refine sJ4_append_f7089 hS (by assumption) (by first | assumption | decide) (by omega) (DG.fm hD (MS.mm (by assumption))) (fun _ _ _ _ _ _ _ _ => ?_)
  simp only [eX3_cardText_75R, eX3_cardText_78, kx_l, wt_nil, tl_s]
  with_reducible refine And.intro ?_ ?_
  with_reducible exact TS.g1 (by assumption)
  with_reducible refine And.intro ?_ ?_
  omega
  with_reducible refine And.intro ?_ ?_
  omega
  with_reducible refine And.intro ?_ ?_
  omega
  with_reducible refine sJ4_append_15ec4 hS (by assumption) (by first | assumption | decide) (by omega) (STO.fm (by assumption) (MS.mm (by assumption))) (by assumption) (fun _ _ _ _ _ _ _ _ => ?_)
  simp only [eX3_cardText_81, kx_l, wt_nil, tl_s]
  with_reducible refine gl_A (rowA.ts (by assumption) (by assumption)) ?_
  with_reducible refine And.intro ?_ ?_
  with_reducible exact vpi4.2.2.2
  with_reducible refine And.intro ?_ ?_
  with_reducible exact TS.g1 (by assumption)
  with_reducible refine And.intro ?_ ?_
  omega
  with_reducible refine And.intro ?_ ?_
  omega
  with_reducible refine And.intro ?_ ?_
  omega
  with_reducible refine sJ4_append_f7089 hS (by assumption) (by first | assumption | decide) (by omega) (DG.fm hD (MS.mm (by assumption))) (fun _ _ _ _ _ _ _ _ => ?_)
  simp only [eX3_cardText_84, kx_l, wt_nil, tl_s]
  with_reducible refine And.intro ?_ ?_
  with_reducible exact TS.g1 (by assumption)
  with_reducible refine And.intro ?_ ?_
  omega
  with_reducible refine And.intro ?_ ?_
  omega
  with_reducible refine And.intro ?_ ?_
  omega
  with_reducible refine sJ4_toString_0e30d hS (by assumption) (by first | decide | omega) (by omega) (fun _ _ _ => ?_)
  simp only [eX3_cardText_87, kx_l, tl_s]
  with_reducible refine And.intro ?_ ?_
  omega
  with_reducible refine And.intro ?_ ?_
  omega
  with_reducible exact hQ _ _ _ (msEx2 (by assumption) (by assumption))
  with_reducible exact n00x (by assumption)
end
end
/-! 75.mfb.lean.txt -/
section
section
variable {g : RO} {Q : Ot → Hw → Prop} {w0 w : Hw} {y nM : Nat} {kd th : Int32} {s : AS}
set_option maxHeartbeats 4000000 in
theorem gX3_digest  (hM : MS g w0 y nM kd th s w) (hQ : ∀ (v : Int64) (th' : Int32) w', MS g w0 y nM kd th' s w' → Q (.inl (some (.long v))) w') : WP (MX3_digest g) Q (0, [some (.ref y), none, none, none, none, none], [], w, 0, 0) := by
  obtain ⟨cL, pL, hy, ry⟩ := hM.1.op
  obtain ⟨w1, hw1⟩ : ∃ w1, upw w y (.inr (7, [.int 0, .ref nM, .ref cL, .ref pL, .int s.2.2.2.2.1, .int kd, .int s.2.2.2.2.2])) = w1 := ⟨_, rfl⟩
  have hM1 : MS g w0 y nM kd 0 s w1 := by
    rw [← hw1]
    exact hM.set hy
  have hy1 : w1 y = some (.inr (7, [.int 0, .ref nM, .ref cL, .ref pL, .int s.2.2.2.2.1, .int kd, .int s.2.2.2.2.2])) := by
    rw [← hw1]
    exact upw_s _ _ _
  simp only [eX3_digest_0, eX3_digest_5, hy, hw1, go_s, nl_ref, nl_none, nf_i, true_and, List.set_cons_zero, List.length_cons, List.length_nil, Nat.zero_add]
  with_reducible refine And.intro ?_ ?_
  omega
  (exact elX3_digest_11 hM1.mm (fun v w2 hk => hQ v 0 w2 (hM1.ext hk)) 70 _ _ _ _ _ _ _ (by decide) ext.rf (by decide) (by decide) (by decide) (by decide))
end
end
/-! 75.mfc.lean.txt -/
section
section
variable {g : RO} {Q : Ot → Hw → Prop} {w0 w : Hw} {y nM : Nat} {kd th : Int32} {s : AS}
set_option maxHeartbeats 4000000 in
theorem fX1_init {x : Nat} (hx : w x = some (.inr (5, [.null, .null, .null, .int 0, .int 0, .int 0, .int 0]))) (hQ : ∀ (w' : Hw) (nA cA lA : Nat), RF w' x nA cA lA 0 S00 → (∀ (a : Nat) (o : Ob), w a = some o → a ≠ x → w' a = some o) → (∀ (a : Nat) (o : Ob), g.2 a = some o → w a = none → w' a = none) → w nA = none → Q (.inl none) w') : WP (MX1_init g) Q (0, [some (.ref x)], [], w, 0, 0) := by
  have fr : ∀ {w1 : Hw} {q : Nat} {o : Ob}, rd g w1 q = none → w1 x = some o → x ≠ q := fun h h2 e => by
    subst e
    have h3 := rd_none h
    rw [h2] at h3
    cases h3
  simp only [eX1_init_0, eX1_init_0N, eX1_init_1, eX1_init_4, eX1_init_4N, eX1_init_5, eX1_init_9, eX1_init_12, eX1_init_12N, eX1_init_13, eX1_init_18, eX1_init_21, eX1_init_21N, eX1_init_22, eX1_init_27, eX1_init_30, eX1_init_30N, eX1_init_31, eX1_init_35, eX1_init_35N, eX1_init_36, eX1_init_40, eX1_init_40N, eX1_init_41, eX1_init_45, eX1_init_45N, eX1_init_46, eX1_init_50, ite_le, n45, n54, true_or, or_true, false_or, or_false, false_and, and_false, kx_l, kx_r, go_s, gl_s, gi_s, gb_s2, gb_s3, gq_s, wt_nil, wt_int, wt_long, wt_ref, wt_null, nl_int, nl_long, nl_ref, nl_null, nl_none, rf_n, rf_s, rf_st, tl_s, tl_n, g0, gS, ex1, nb_b, nb_0, nb_1, nf_i, nf_l, nf_ra, nf_ro, nf_na, nf_no, nf_b0, nf_z0, t45_4, t45_5, true_and, and_true, List.set_cons_zero, List.set_cons_succ, List.length_cons, List.length_nil, rd_s, upw_s, ne_eq, not_false_eq_true, Nat.zero_add, Nat.add_zero, tyX1, i8, i6, i12, n8, n6, n12', upw_n, hx]
  repeat' first | with_reducible refine And.intro ?_ ?_ | omega
  intro q1 hq1
  have d1 : x ≠ q1 := fr hq1 hx
  simp only [eX1_init_0, eX1_init_0N, eX1_init_1, eX1_init_4, eX1_init_4N, eX1_init_5, eX1_init_9, eX1_init_12, eX1_init_12N, eX1_init_13, eX1_init_18, eX1_init_21, eX1_init_21N, eX1_init_22, eX1_init_27, eX1_init_30, eX1_init_30N, eX1_init_31, eX1_init_35, eX1_init_35N, eX1_init_36, eX1_init_40, eX1_init_40N, eX1_init_41, eX1_init_45, eX1_init_45N, eX1_init_46, eX1_init_50, ite_le, n45, n54, true_or, or_true, false_or, or_false, false_and, and_false, kx_l, kx_r, go_s, gl_s, gi_s, gb_s2, gb_s3, gq_s, wt_nil, wt_int, wt_long, wt_ref, wt_null, nl_int, nl_long, nl_ref, nl_null, nl_none, rf_n, rf_s, rf_st, tl_s, tl_n, g0, gS, ex1, nb_b, nb_0, nb_1, nf_i, nf_l, nf_ra, nf_ro, nf_na, nf_no, nf_b0, nf_z0, t45_4, t45_5, true_and, and_true, List.set_cons_zero, List.set_cons_succ, List.length_cons, List.length_nil, rd_s, upw_s, ne_eq, not_false_eq_true, Nat.zero_add, Nat.add_zero, tyX1, i8, i6, i12, n8, n6, n12', upw_n, hx, d1]
  repeat' first | with_reducible refine And.intro ?_ ?_ | omega
  intro q2 hq2
  obtain ⟨e1, hq2⟩ := rd_up hq2
  obtain ⟨d2, hq2⟩ := rd_up hq2
  have d3 : x ≠ q2 := fun e => e1 e.symm
  simp only [eX1_init_0, eX1_init_0N, eX1_init_1, eX1_init_4, eX1_init_4N, eX1_init_5, eX1_init_9, eX1_init_12, eX1_init_12N, eX1_init_13, eX1_init_18, eX1_init_21, eX1_init_21N, eX1_init_22, eX1_init_27, eX1_init_30, eX1_init_30N, eX1_init_31, eX1_init_35, eX1_init_35N, eX1_init_36, eX1_init_40, eX1_init_40N, eX1_init_41, eX1_init_45, eX1_init_45N, eX1_init_46, eX1_init_50, ite_le, n45, n54, true_or, or_true, false_or, or_false, false_and, and_false, kx_l, kx_r, go_s, gl_s, gi_s, gb_s2, gb_s3, gq_s, wt_nil, wt_int, wt_long, wt_ref, wt_null, nl_int, nl_long, nl_ref, nl_null, nl_none, rf_n, rf_s, rf_st, tl_s, tl_n, g0, gS, ex1, nb_b, nb_0, nb_1, nf_i, nf_l, nf_ra, nf_ro, nf_na, nf_no, nf_b0, nf_z0, t45_4, t45_5, true_and, and_true, List.set_cons_zero, List.set_cons_succ, List.length_cons, List.length_nil, rd_s, upw_s, ne_eq, not_false_eq_true, Nat.zero_add, Nat.add_zero, tyX1, i8, i6, i12, n8, n6, n12', upw_n, hx, d1, d2, d3]
  repeat' first | with_reducible refine And.intro ?_ ?_ | omega
  intro q3 hq3
  obtain ⟨e2, hq3⟩ := rd_up hq3
  obtain ⟨d4, hq3⟩ := rd_up hq3
  obtain ⟨-, hq3⟩ := rd_up hq3
  obtain ⟨d5, hq3⟩ := rd_up hq3
  have d6 : x ≠ q3 := fun e => e2 e.symm
  have d7 : q1 ≠ x := fun e => d1 e.symm
  have d8 : q1 ≠ q2 := fun e => d2 e.symm
  have d9 : q1 ≠ q3 := fun e => d5 e.symm
  have d10 : q2 ≠ q3 := fun e => d4 e.symm
  simp only [eX1_init_0, eX1_init_0N, eX1_init_1, eX1_init_4, eX1_init_4N, eX1_init_5, eX1_init_9, eX1_init_12, eX1_init_12N, eX1_init_13, eX1_init_18, eX1_init_21, eX1_init_21N, eX1_init_22, eX1_init_27, eX1_init_30, eX1_init_30N, eX1_init_31, eX1_init_35, eX1_init_35N, eX1_init_36, eX1_init_40, eX1_init_40N, eX1_init_41, eX1_init_45, eX1_init_45N, eX1_init_46, eX1_init_50, ite_le, n45, n54, true_or, or_true, false_or, or_false, false_and, and_false, kx_l, kx_r, go_s, gl_s, gi_s, gb_s2, gb_s3, gq_s, wt_nil, wt_int, wt_long, wt_ref, wt_null, nl_int, nl_long, nl_ref, nl_null, nl_none, rf_n, rf_s, rf_st, tl_s, tl_n, g0, gS, ex1, nb_b, nb_0, nb_1, nf_i, nf_l, nf_ra, nf_ro, nf_na, nf_no, nf_b0, nf_z0, t45_4, t45_5, true_and, and_true, List.set_cons_zero, List.set_cons_succ, List.length_cons, List.length_nil, rd_s, upw_s, ne_eq, not_false_eq_true, Nat.zero_add, Nat.add_zero, tyX1, i8, i6, i12, n8, n6, n12', upw_n, hx, d1, d2, d3, d4, d5, d6]
  repeat' first | with_reducible refine And.intro ?_ ?_ | omega
  refine hQ _ q1 q2 q3 ⟨fun _ => none, fun _ => none, ⟨upw_s _ _ _, ?_, ?_, ?_, (fun i b z => by cases z), (fun i b z => by cases z), show ¬ (0 : Int32) < 0 by decide, show ¬ (12 : Int32) < 0 by decide⟩, fun i hi => trivial, fun i hi => (z32 hi).elim⟩ ?_ ?_ (rd_none hq1)
  · simp only [upw_n, upw_s, ne_eq, d1, d2, d3, d4, d5, d6, d7, d8, d9, d10, e1, e2, not_false_eq_true]
  · simp only [upw_n, upw_s, ne_eq, d1, d2, d3, d4, d5, d6, d7, d8, d9, d10, e1, e2, not_false_eq_true]
  · simp only [upw_n, upw_s, ne_eq, d1, d2, d3, d4, d5, d6, d7, d8, d9, d10, e1, e2, not_false_eq_true]
  · intro a o ha hax
    have k1 : a ≠ q1 := fun e => by
      subst e
      have h3 := rd_none hq1
      rw [ha] at h3
      cases h3
    have k2 : a ≠ q2 := fun e => by
      subst e
      have h3 := rd_none hq2
      rw [ha] at h3
      cases h3
    have k3 : a ≠ q3 := fun e => by
      subst e
      have h3 := rd_none hq3
      rw [ha] at h3
      cases h3
    simp only [upw_n, ne_eq, hax, k1, k2, k3, not_false_eq_true]
    exact ha
  · intro a o ha haw
    have k0 : a ≠ x := fun e => by
      subst e
      rw [hx] at haw
      cases haw
    have k1 : a ≠ q1 := fun e => by
      subst e
      have h3 := rd_ro hq1
      rw [ha] at h3
      cases h3
    have k2 : a ≠ q2 := fun e => by
      subst e
      have h3 := rd_ro hq2
      rw [ha] at h3
      cases h3
    have k3 : a ≠ q3 := fun e => by
      subst e
      have h3 := rd_ro hq3
      rw [ha] at h3
      cases h3
    simp only [upw_n, ne_eq, k0, k1, k2, k3, not_false_eq_true]
    exact haw
theorem h0s {h1 h3 : Nat → Option Nat} {i1 : Int32} (h0n : ∀ i : Nat, (i : Int) < i1.toInt → h1 i = none) (hh : HAd h1 i1.toNatClampNeg none h3) (e1 : (i1 + 1).toInt = i1.toInt + 1) (i0 : 0 ≤ i1.toInt) {i : Nat} (hi : (i : Int) < (i1 + 1).toInt) : h3 i = none := by
  have t : i1.toNatClampNeg = i1.toInt.toNat := rfl
  rcases Nat.lt_or_ge i i1.toNatClampNeg with q | q
  · rw [hh.1 i q]
    exact h0n i (by omega)
  · have e : i = i1.toNatClampNeg := by omega
    rw [e]
    exact hh.2
set_option maxHeartbeats 4000000 in
theorem flX3_init_36 {y nM cL pL D2 : Nat} {h2 : Nat → Option Nat} (hE : EG g w) (hS : SG g) (hcl : w cL = none) (cp : cL ≠ pL) (hwn : w nM = none) (hQ : ∀ nM w', w nM = none → MF g w' y nM 0 0 S00 → FI g y w w' → Q (.inl none) w') : ∀ (d : Nat) (i1 : Int32) (w' : Hw) (D1 c1 : Nat) (h1 : Nat → Option Nat) (k m : Nat), FI g y w w' → w' y = some (.inr (7, [.int 0, .ref nM, .ref cL, .ref pL, .int 0, .int 0, .int 0])) → w' nM = some (.inl (0, 8, .inr (.inl fun _ => 0))) → LL g w' cL D1 c1 i1 h1 → (∀ i b, h1 i = some b → isRow w' b) → (∀ i : Nat, (i : Int) < i1.toInt → h1 i = none) → LL g w' pL D2 0 0 h2 → (∀ i b, h2 i = some b → isRow w' b) → w D1 = none → (6 : Int32).toInt - i1.toInt ≤ (d : Int) → i1.toInt ≤ 6 → (k : Int) ≤ 3 + i1.toInt → (m : Int) ≤ 14 + 15 * i1.toInt → WP (MX3_init g) Q (36, [some (.ref y), some (.int i1)], [], w', k, m) := by
  have z6 : (6 : Int32).toInt = 6 := rfl
  intro d
  induction d with
  | zero =>
    intro i1 w' D1 c1 h1 k m hF hy hn hl hr h0n hl2 hr2 hD hd hi km mm
    obtain rfl : i1 = 6 := Int32.toInt_inj.mp (by omega)
    have hD1 : w' D1 = some (.inl (5, c1, qc h1)) := by
      rcases hl.2.1 with ⟨z, -⟩ | ⟨z, -⟩
      · exact z
      · have k2 := hl.2.2.2
        omega
    have hD2 : w' D2 = none := by
      rcases hl2.2.1 with ⟨-, z⟩ | ⟨-, -, z, -⟩
      · omega
      · exact z
    rw [eX3_init_36]
    simp only [eX3_init_0, eX3_init_0N, eX3_init_1, eX3_init_4, eX3_init_4N, eX3_init_5, eX3_init_9, eX3_init_12, eX3_init_12N, eX3_init_13, eX3_init_16, eX3_init_16R, eX3_init_17, eX3_init_20, eX3_init_23, eX3_init_23N, eX3_init_24, eX3_init_27, eX3_init_27R, eX3_init_28, eX3_init_31, eX3_init_34, eX3_init_37, eX3_init_42, eX3_init_42N, eX3_init_43, eX3_init_46, eX3_init_47R, eX3_init_47N, eX3_init_50, eX3_init_50R, eX3_init_50N, eX3_init_51, eX3_init_57, ite_le, n45, n54, true_or, or_true, false_or, or_false, false_and, and_false, kx_l, kx_r, go_s, gl_s, gi_s, gb_s2, gb_s3, gq_s, wt_nil, wt_int, wt_long, wt_ref, wt_null, nl_int, nl_long, nl_ref, nl_null, nl_none, rf_n, rf_s, rf_st, tl_s, tl_n, g0, gS, ex1, nb_b, nb_0, nb_1, nf_i, nf_l, nf_ra, nf_ro, nf_na, nf_no, nf_b0, nf_z0, t45_4, t45_5, true_and, and_true, List.set_cons_zero, List.set_cons_succ, List.length_cons, List.length_nil, rd_s, upw_s, ne_eq, not_false_eq_true, Nat.zero_add, Nat.add_zero, if_true, if_false, eq_self, lt66]
    refine ⟨by omega, by omega, hQ nM _ hwn ⟨cL, pL, D1, D2, c1, 0, h1, h2, hy, hn, hl, hr, hl2, hr2, by decide, cp, ?_, fun i hi => ?_, fun i hi => ?_⟩ hF⟩
    · rintro rfl
      rw [hD1] at hD2
      cases hD2
    · rw [h0n i (by omega)]
      exact trivial
    · exact (z32 hi).elim
  | succ d ih =>
    intro i1 w' D1 c1 h1 k m hF hy hn hl hr h0n hl2 hr2 hD hd hi km mm
    by_cases h6 : i1.toInt = 6
    · exact ih i1 w' D1 c1 h1 k m hF hy hn hl hr h0n hl2 hr2 hD (by have := hl.2.2.1; omega) hi km mm
    have i0 := hl.2.2.1
    have lt6 : (i1 < 6) = True := i32_t (by omega)
    have e1 := i32p1 (c := i1) i0 (by omega)
    have fin : ∀ (w3 : Hw) (k' m' : Nat), LPo g w' w3 cL D1 (i1 + 1) (HAd h1 i1.toNatClampNeg none) → (k' : Int) ≤ 4 + i1.toInt → (m' : Int) ≤ 29 + 15 * i1.toInt → WP (MX3_init g) Q (36, [some (.ref y), some (.int (i1 + 1))], [], w3, k', m') := by
      intro w3 k' m' hlp kk' mm'
      obtain ⟨D3, c3, h3, l1, l2, f1, f2, fD, hh⟩ := hlp
      obtain ⟨mc, hcL⟩ := hl.1
      have nD : ∀ {a : Nat} {o : Ob}, w' a = some o → (∀ z, o ≠ .inl (5, z)) → a ≠ D1 := fun ha ho e => by
        rcases hl.2.1 with ⟨k, -⟩ | ⟨-, -, k, -⟩
        · rw [e, k] at ha
          cases ha
          exact ho _ rfl
        · rw [e, k] at ha
          cases ha
      have nDw : ∀ {a : Nat} {o : Ob}, w a = some o → a ≠ D1 := fun e z => by
        rw [z, hD] at e
        cases e
      have nLw : ∀ {a : Nat} {o : Ob}, w a = some o → a ≠ cL := fun e z => by
        rw [z, hcl] at e
        cases e
      obtain ⟨mcp, hpL⟩ := hl2.1
      refine ih _ w3 D3 c3 h3 _ _ ⟨fun a o e n => f1 _ _ (hF.1 _ _ e n) (nLw e) (nDw e), fun a o e n => f2 _ _ e (hF.2 _ _ e n)⟩ (f1 _ _ hy (ne_of hy hcL (fun e => by cases e)) (nD hy (fun _ e => by cases e))) (f1 _ _ hn (ne_of hn hcL (fun e => by cases e)) (nD hn (fun _ e => by cases e))) l1 l2 (fun i hi => h0s h0n hh e1 i0 hi) (hl2.kp (fun fs e => f1 _ _ e cp.symm (nD e (fun _ e => by cases e))) (fun z e => ?_) (fun o e n => f2 _ _ e n)) (fun i b z => ?_) ?_ (by omega) (by omega) (by omega) (by omega)
      · rcases hl2.2.1 with ⟨-, q⟩ | ⟨-, -, q, -⟩
        · omega
        · rw [q] at e
          cases e
      · obtain ⟨f0, hb⟩ := hr2 i b z
        exact ⟨f0, f1 _ _ hb (ne_of hb hcL (fun e => by cases e)) (nD hb (fun _ e => by cases e))⟩
      · rcases fD with rfl | ⟨fD, -⟩
        · exact hD
        · cases hw : w D3 with
          | none => rfl
          | some o =>
            by_cases h : D3 = y
            · rw [h, hy] at fD
              cases fD
            · rw [hF.1 _ _ hw h] at fD
              cases fD
    rw [eX3_init_36]
    simp only [eX3_init_37, eX3_init_42, eX3_init_43, eX3_init_46, eX3_init_57, ite_le, if_true, lt6]
    with_reducible refine go_YE hy ?_
    simp only [eX3_init_47N, wt_nil, g0, gS, ex1]
    with_reducible refine And.intro ?_ ?_
    with_reducible exact hl.gt
    with_reducible refine And.intro ?_ ?_
    omega
    with_reducible refine And.intro ?_ ?_
    omega
    with_reducible refine And.intro ?_ ?_
    omega
    with_reducible refine sJx4a65c_add_9ea2dN (hF.eg hE) hS hl hr (by omega) (fun _ _ => ?_)
    simp only [eX3_init_50, eX3_init_51, kx_l, nl_ref, tl_s]
    with_reducible exact fin _ _ _ (by assumption) (by omega) (by omega)
set_option maxHeartbeats 4000000 in
theorem fX3_init  (hE : EG g w) (hS : SG g) (hy : w y = some (.inr (7, [.int 0, .null, .null, .null, .int 0, .int 0, .int 0]))) (hQ : ∀ nM w', w nM = none → MF g w' y nM 0 0 S00 → FI g y w w' → Q (.inl none) w') : WP (MX3_init g) Q (0, [some (.ref y), none], [], w, 0, 0) := by
  have z0 : (0 : Int32).toInt = 0 := rfl
  have z6 : (6 : Int32).toInt = 6 := rfl
  simp only [eX3_init_0, eX3_init_0N, eX3_init_1, eX3_init_4, eX3_init_4N, eX3_init_5, ite_le, n45, n54, true_or, or_true, false_or, or_false, false_and, and_false, kx_l, kx_r, go_s, gl_s, gi_s, gb_s2, gb_s3, gq_s, wt_nil, wt_int, wt_long, wt_ref, wt_null, nl_int, nl_long, nl_ref, nl_null, nl_none, rf_n, rf_s, rf_st, tl_s, tl_n, g0, gS, ex1, nb_b, nb_0, nb_1, nf_i, nf_l, nf_ra, nf_ro, nf_na, nf_no, nf_b0, nf_z0, t45_4, t45_5, true_and, and_true, List.set_cons_zero, List.set_cons_succ, List.length_cons, List.length_nil, rd_s, upw_s, ne_eq, not_false_eq_true, Nat.zero_add, Nat.add_zero, if_true, if_false, eq_self, n8e]
  repeat' first | with_reducible refine And.intro ?_ ?_ | exact n8a | omega
  intro nM hqn
  have hqn' := rd_none hqn
  have ne : y ≠ nM := fun e => by
    rw [← e, hy] at hqn'
    cases hqn'
  simp only [eX3_init_9, ite_le, n45, n54, true_or, or_true, false_or, or_false, false_and, and_false, kx_l, kx_r, go_s, gl_s, gi_s, gb_s2, gb_s3, gq_s, wt_nil, wt_int, wt_long, wt_ref, wt_null, nl_int, nl_long, nl_ref, nl_null, nl_none, rf_n, rf_s, rf_st, tl_s, tl_n, g0, gS, ex1, nb_b, nb_0, nb_1, nf_i, nf_l, nf_ra, nf_ro, nf_na, nf_no, nf_b0, nf_z0, t45_4, t45_5, true_and, and_true, List.set_cons_zero, List.set_cons_succ, List.length_cons, List.length_nil, rd_s, upw_s, ne_eq, not_false_eq_true, Nat.zero_add, Nat.add_zero, if_true, if_false, eq_self, hy, ne, upw_n, tyX3]
  repeat' first | with_reducible refine And.intro ?_ ?_ | exact n8a | omega
  obtain ⟨w1, hw1⟩ : ∃ w1, upw (upw w nM (.inl (0, 8, .inr (.inl fun _ => 0)))) y (.inr (7, [.int 0, .ref nM, .null, .null, .int 0, .int 0, .int 0])) = w1 := ⟨_, rfl⟩
  rw [hw1]
  have hy1 : w1 y = some (.inr (7, [.int 0, .ref nM, .null, .null, .int 0, .int 0, .int 0])) := by
    rw [← hw1]
    exact upw_s _ _ _
  have hn1 : w1 nM = some (.inl (0, 8, .inr (.inl fun _ => 0))) := by
    rw [← hw1, upw_n ne.symm]
    exact upw_s _ _ _
  have hF1 : FI g y w w1 := by
    rw [← hw1]
    exact (FI.rf.ext (ext_up2 ext.rf hqn)).up (by
      rw [upw_n ne]
      exact hy)
  simp only [eX3_init_12, eX3_init_12N, eX3_init_13, eX3_init_16, eX3_init_16R, eX3_init_17, ite_le, n45, n54, true_or, or_true, false_or, or_false, false_and, and_false, kx_l, kx_r, go_s, gl_s, gi_s, gb_s2, gb_s3, gq_s, wt_nil, wt_int, wt_long, wt_ref, wt_null, nl_int, nl_long, nl_ref, nl_null, nl_none, rf_n, rf_s, rf_st, tl_s, tl_n, g0, gS, ex1, nb_b, nb_0, nb_1, nf_i, nf_l, nf_ra, nf_ro, nf_na, nf_no, nf_b0, nf_z0, t45_4, t45_5, true_and, and_true, List.set_cons_zero, List.set_cons_succ, List.length_cons, List.length_nil, rd_s, upw_s, ne_eq, not_false_eq_true, Nat.zero_add, Nat.add_zero, if_true, if_false, eq_self]
  repeat' first | with_reducible refine And.intro ?_ ?_ | exact n8a | omega
  intro cL hqc
  repeat' first | with_reducible refine And.intro ?_ ?_ | exact n8a | omega
  refine sInitF (hF1.eg hE) hqc (fun D1 w2 hk2 hl2 hd2 => ?_)
  have hy2 := hk2.1 _ _ hy1
  simp only [eX3_init_20, ite_le, n45, n54, true_or, or_true, false_or, or_false, false_and, and_false, kx_l, kx_r, go_s, gl_s, gi_s, gb_s2, gb_s3, gq_s, wt_nil, wt_int, wt_long, wt_ref, wt_null, nl_int, nl_long, nl_ref, nl_null, nl_none, rf_n, rf_s, rf_st, tl_s, tl_n, g0, gS, ex1, nb_b, nb_0, nb_1, nf_i, nf_l, nf_ra, nf_ro, nf_na, nf_no, nf_b0, nf_z0, t45_4, t45_5, true_and, and_true, List.set_cons_zero, List.set_cons_succ, List.length_cons, List.length_nil, rd_s, upw_s, ne_eq, not_false_eq_true, Nat.zero_add, Nat.add_zero, if_true, if_false, eq_self, hy2, tyX3]
  repeat' first | with_reducible refine And.intro ?_ ?_ | exact n8a | omega
  obtain ⟨w3, hw3⟩ : ∃ w3, upw w2 y (.inr (7, [.int 0, .ref nM, .ref cL, .null, .int 0, .int 0, .int 0])) = w3 := ⟨_, rfl⟩
  rw [hw3]
  have hy3 : w3 y = some (.inr (7, [.int 0, .ref nM, .ref cL, .null, .int 0, .int 0, .int 0])) := by
    rw [← hw3]
    exact upw_s _ _ _
  have hn3 : w3 nM = some (.inl (0, 8, .inr (.inl fun _ => 0))) := by
    rw [← hw3, upw_n ne.symm]
    exact hk2.1 _ _ hn1
  have hl3 : LL g w3 cL D1 0 0 (fun _ => none) := by
    rw [← hw3]
    exact hl2.up hy2 (fun _ e => by cases e) (fun _ e => by cases e)
  have hF3 : FI g y w w3 := by
    rw [← hw3]
    exact (hF1.ext hk2).up hy2
  simp only [eX3_init_23, eX3_init_23N, eX3_init_24, eX3_init_27, eX3_init_27R, eX3_init_28, ite_le, n45, n54, true_or, or_true, false_or, or_false, false_and, and_false, kx_l, kx_r, go_s, gl_s, gi_s, gb_s2, gb_s3, gq_s, wt_nil, wt_int, wt_long, wt_ref, wt_null, nl_int, nl_long, nl_ref, nl_null, nl_none, rf_n, rf_s, rf_st, tl_s, tl_n, g0, gS, ex1, nb_b, nb_0, nb_1, nf_i, nf_l, nf_ra, nf_ro, nf_na, nf_no, nf_b0, nf_z0, t45_4, t45_5, true_and, and_true, List.set_cons_zero, List.set_cons_succ, List.length_cons, List.length_nil, rd_s, upw_s, ne_eq, not_false_eq_true, Nat.zero_add, Nat.add_zero, if_true, if_false, eq_self]
  repeat' first | with_reducible refine And.intro ?_ ?_ | exact n8a | omega
  intro pL hqp
  repeat' first | with_reducible refine And.intro ?_ ?_ | exact n8a | omega
  refine sInitF (hF3.eg hE) hqp (fun D2 w4 hk4 hl4 hd4 => ?_)
  have hy4 := hk4.1 _ _ hy3
  simp only [eX3_init_31, ite_le, n45, n54, true_or, or_true, false_or, or_false, false_and, and_false, kx_l, kx_r, go_s, gl_s, gi_s, gb_s2, gb_s3, gq_s, wt_nil, wt_int, wt_long, wt_ref, wt_null, nl_int, nl_long, nl_ref, nl_null, nl_none, rf_n, rf_s, rf_st, tl_s, tl_n, g0, gS, ex1, nb_b, nb_0, nb_1, nf_i, nf_l, nf_ra, nf_ro, nf_na, nf_no, nf_b0, nf_z0, t45_4, t45_5, true_and, and_true, List.set_cons_zero, List.set_cons_succ, List.length_cons, List.length_nil, rd_s, upw_s, ne_eq, not_false_eq_true, Nat.zero_add, Nat.add_zero, if_true, if_false, eq_self, hy4, tyX3]
  repeat' first | with_reducible refine And.intro ?_ ?_ | exact n8a | omega
  obtain ⟨w5, hw5⟩ : ∃ w5, upw w4 y (.inr (7, [.int 0, .ref nM, .ref cL, .ref pL, .int 0, .int 0, .int 0])) = w5 := ⟨_, rfl⟩
  rw [hw5]
  have hy5 : w5 y = some (.inr (7, [.int 0, .ref nM, .ref cL, .ref pL, .int 0, .int 0, .int 0])) := by
    rw [← hw5]
    exact upw_s _ _ _
  have hn5 : w5 nM = some (.inl (0, 8, .inr (.inl fun _ => 0))) := by
    rw [← hw5, upw_n ne.symm]
    exact hk4.1 _ _ hn3
  have hcn : w cL = none := by
    cases e : w cL with
    | none => rfl
    | some o =>
      have q := rd_none hqc
      by_cases h : cL = y
      · rw [h, hy1] at q
        cases q
      · rw [hF1.1 _ _ e h] at q
        cases q
  have hdn : w D1 = none := by
    cases e : w D1 with
    | none => rfl
    | some o =>
      by_cases h : D1 = y
      · rw [h, hy1] at hd2
        cases hd2
      · rw [hF1.1 _ _ e h] at hd2
        cases hd2
  have cp : cL ≠ pL := fun e => by
    obtain ⟨mc, z⟩ := hl3.1
    rw [e, rd_none hqp] at z
    cases z
  simp only [eX3_init_34, ite_le, n45, n54, true_or, or_true, false_or, or_false, false_and, and_false, kx_l, kx_r, go_s, gl_s, gi_s, gb_s2, gb_s3, gq_s, wt_nil, wt_int, wt_long, wt_ref, wt_null, nl_int, nl_long, nl_ref, nl_null, nl_none, rf_n, rf_s, rf_st, tl_s, tl_n, g0, gS, ex1, nb_b, nb_0, nb_1, nf_i, nf_l, nf_ra, nf_ro, nf_na, nf_no, nf_b0, nf_z0, t45_4, t45_5, true_and, and_true, List.set_cons_zero, List.set_cons_succ, List.length_cons, List.length_nil, rd_s, upw_s, ne_eq, not_false_eq_true, Nat.zero_add, Nat.add_zero, if_true, if_false, eq_self]
  refine flX3_init_36 (D2 := D2) hE hS hcn cp hqn' hQ 6 0 w5 D1 0 (fun _ => none) _ _ ?_ hy5 hn5 ?_ nr0 (fun _ _ => rfl) ?_ nr0 hdn (by decide) (by decide) (by omega) (by omega)
  · rw [← hw5]
    exact (hF3.ext hk4).up hy4
  · rw [← hw5]
    exact (hl3.ext hk4).up hy4 (fun _ e => by cases e) (fun _ e => by cases e)
  · rw [← hw5]
    exact hl4.up hy4 (fun _ e => by cases e) (fun _ e => by cases e)
end
end
/-! 78.lw0.lean.txt -/
section
section
variable {g : RO} {Q : Ot → Hw → Prop} {w : Hw} {x nA cA lA y nM o : Nat} {kn km th : Int32} {s s2 : AS}
def LW (g : RO) (w : Hw) (x nA cA lA y nM o : Nat) (kn km th : Int32) (s s2 : AS) : Prop := RF w x nA cA lA kn s ∧ sOk s ∧ MF g w y nM km th s2 ∧ nA ≠ nM ∧ (∃ a b : Value, w o = some (.inr (6, [a, b]))) ∧ ∀ (a : Nat) (z : Ob), g.2 a = some z → w a = none
def PO4 (o : Ob) : Prop := (∃ fs, o = .inr (5, fs)) ∨ (∃ fs, o = .inr (4, fs)) ∨ ∃ z, o = .inl (4, z)
theorem RF.mv {w' : Hw} (h : RF w x nA cA lA kn s) (m : ∀ (a : Nat) (z : Ob), w a = some z → PO4 z → w' a = some z) (mN : ∀ f : Nat → Int64, w nA = some (.inl (0, 8, .inr (.inl f))) → w' nA = some (.inl (0, 8, .inr (.inl f)))) : RF w' x nA cA lA kn s := by
  obtain ⟨gc, gl, ⟨h1, h2, h3, h4, h5, h6, h7⟩, k1, k2⟩ := h
  have r : ∀ b q, rAt w b q → rAt w' b q := fun b q hb => m _ _ hb (Or.inr (Or.inl ⟨_, rfl⟩))
  have rr : ∀ b, isR w b → isR w' b := fun b ⟨r0, r1, r2, r3, hb⟩ => ⟨r0, r1, r2, r3, m _ _ hb (Or.inr (Or.inl ⟨_, rfl⟩))⟩
  exact ⟨gc, gl, ⟨m _ _ h1 (Or.inl ⟨_, rfl⟩), mN _ h2, m _ _ h3 (Or.inr (Or.inr ⟨_, rfl⟩)), m _ _ h4 (Or.inr (Or.inr ⟨_, rfl⟩)), fun i b z => rr b (h5 i b z), fun i b z => rr b (h6 i b z), h7⟩, fun i hi => (k1 i hi).mp r, fun i hi => (k2 i hi).imp fun b z => ⟨z.1, r _ _ z.2⟩⟩
theorem RF.FM {w' : Hw} (h : RF w x nA cA lA kn s) (k : FM g nM w w') (hM : ∃ f : Nat → Int64, w nM = some (.inl (0, 8, .inr (.inl f)))) (hne : nA ≠ nM) : RF w' x nA cA lA kn s := by
  obtain ⟨fM, hM⟩ := hM
  refine h.mv (fun a z ha hP => k.1 a z ha (fun e => ?_) ?_) (fun f hf => k.1 _ _ hf hne rfl)
  · subst e
    rw [hM] at ha
    cases ha
    rcases hP with ⟨_, e⟩ | ⟨_, e⟩ | ⟨_, e⟩ <;> cases e
  · rcases hP with ⟨_, rfl⟩ | ⟨_, rfl⟩ | ⟨_, rfl⟩ <;> rfl
theorem MF.FC {w' : Hw} {fA : Nat → Int64} (h : MF g w y nM km th s2) (k : FC g nA w w') (hA : w nA = some (.inl (0, 8, .inr (.inl fA)))) (hne : nM ≠ nA) : MF g w' y nM km th s2 := by
  obtain ⟨cL, pL, D1, D2, c1, c2, h1, h2, a1, a2, a3, a4, a5, a6, a7, a8, a9, b1, b2⟩ := h
  have ll : ∀ {L D cap : Nat} {n : Int32} {h : Nat → Option Nat}, LL g w L D cap n h → LL g w' L D cap n h := fun hl => hl.kp (fun fs e => k.ne hA e (fun e => by cases e) rfl) (fun z e => k.ne hA e (fun e => by cases e) rfl) (fun o e1 e2 => k.2 _ o e1 e2)
  have rr : ∀ b r, rowA w b r → rowA w' b r := fun b r hb => k.ne hA hb (fun e => by cases e) rfl
  exact ⟨cL, pL, D1, D2, c1, c2, h1, h2, k.ne hA a1 (fun e => by cases e) rfl, k.1 _ _ a2 hne rfl, ll a3, fun i b z => k.row hA (a4 i b z), ll a5, fun i b z => k.row hA (a6 i b z), a7, a8, a9, fun i hi => (b1 i hi).mp rr, fun i hi => (b2 i hi).imp fun b z => ⟨z.1, rr _ _ z.2⟩⟩
theorem LW.cs (h : LW g w x nA cA lA y nM o kn km th s s2) : CS g w x nA cA lA kn s w := ⟨h.1, FC.rf⟩
theorem LW.cc (h : LW g w x nA cA lA y nM o kn km th s s2) : CC g w x nA cA lA kn w := h.cs.cc
theorem LW.ok (h : LW g w x nA cA lA y nM o kn km th s s2) : sOk s := h.2.1
theorem LW.ms (h : LW g w x nA cA lA y nM o kn km th s s2) : MS g w y nM km th s2 w := ⟨h.2.2.1, FM.rf⟩
theorem LW.ro (h : LW g w x nA cA lA y nM o kn km th s s2) : ∀ (a : Nat) (z : Ob), g.2 a = some z → w a = none := h.2.2.2.2.2
theorem LW.of {kn' : Int32} {s' : AS} {w' : Hw} (h : LW g w x nA cA lA y nM o kn km th s s2) (k : CS g w x nA cA lA kn' s' w') (ho : sOk s') : LW g w' x nA cA lA y nM o kn' km th s' s2 := by
  obtain ⟨h1, -, h2, h3, ⟨a, b, h4⟩, h5⟩ := h
  obtain ⟨gc, gl, ⟨r1, r2, -⟩, -⟩ := h1
  exact ⟨k.1, ho, h2.FC k.2 r2 h3.symm, h3, ⟨a, b, k.2.ne r2 h4 (fun e => by cases e) rfl⟩, fun a z e => k.2.2 a z e (h5 a z e)⟩
theorem LW.ofM {km' th' : Int32} {s2' : AS} {w' : Hw} (h : LW g w x nA cA lA y nM o kn km th s s2) (k : MS g w y nM km' th' s2' w') : LW g w' x nA cA lA y nM o kn km' th' s s2' := by
  obtain ⟨h1, ho, h2, h3, ⟨a, b, h4⟩, h5⟩ := h
  obtain ⟨cL, pL, D1, D2, c1, c2, h1', h2', a1, a2, -⟩ := h2
  exact ⟨h1.FM k.2 ⟨_, a2⟩ h3, ho, k.1, h3, ⟨a, b, k.2.1 _ _ h4 (ne_of h4 a2 (fun e => by cases e)) rfl⟩, fun a z e => k.2.2 a z e (h5 a z e)⟩
theorem LW.ext {w' : Hw} (h : LW g w x nA cA lA y nM o kn km th s s2) (k : ext g w w') : LW g w' x nA cA lA y nM o kn km th s s2 := h.of (h.cs.ext k) h.2.1
theorem LW.out {a b a' b' : Value} (h : LW g w x nA cA lA y nM o kn km th s s2) (ho : w o = some (.inr (6, [a, b]))) : LW g (upw w o (.inr (6, [a', b']))) x nA cA lA y nM o kn km th s s2 := by
  obtain ⟨h1, hk, h2, h3, -, h5⟩ := h
  obtain ⟨cL, pL, D1, D2, c1, c2, g1, g2, a1, a2, a3, a4, a5, a6, a7, a8, a9, b1, b2⟩ := h2
  refine ⟨h1.mv (fun c z hc hP => ?_) (fun f hf => ?_), hk, ⟨cL, pL, D1, D2, c1, c2, g1, g2, ?_, ?_, a3.up ho (fun _ e => by cases e) (fun _ e => by cases e), fun i b z => isRow_up (a4 i b z) ho (fun _ e => by cases e), a5.up ho (fun _ e => by cases e) (fun _ e => by cases e), fun i b z => isRow_up (a6 i b z) ho (fun _ e => by cases e), a7, a8, a9, fun i hi => (b1 i hi).mp fun _ _ z => rowA_up z ho (fun _ e => by cases e), fun i hi => (b2 i hi).imp fun _ z => ⟨z.1, rowA_up z.2 ho (fun _ e => by cases e)⟩⟩, h3, ⟨a', b', upw_s _ _ _⟩, fun a z e => ?_⟩
  · rw [upw_n]
    · exact hc
    · rintro rfl
      rw [ho] at hc
      cases hc
      rcases hP with ⟨_, e⟩ | ⟨_, e⟩ | ⟨_, e⟩ <;> cases e
  · rw [upw_n (ne_of hf ho (fun e => by cases e))]
    exact hf
  · rw [upw_n (ne_of a1 ho (fun e => by cases e))]
    exact a1
  · rw [upw_n (ne_of a2 ho (fun e => by cases e))]
    exact a2
  · rw [upw_n]
    · exact h5 a z e
    · rintro rfl
      rw [h5 _ _ e] at ho
      cases ho
theorem go_OF {K : List Value → Prop} (h : LW g w x nA cA lA y nM o kn km th s s2) (k : ∀ a b : Value, (∀ a' b' : Value, LW g (upw w o (.inr (6, [a', b']))) x nA cA lA y nM o kn km th s s2) → K [a, b]) : go (w o) 6 K := by
  obtain ⟨a, b, ho⟩ := h.2.2.2.2.1
  rw [ho, go_s]
  exact k a b (fun _ _ => h.out ho)
theorem LW.gx {K : List Value → Prop} (h : LW g w x nA cA lA y nM o kn km th s s2) (k : ∀ fs, K fs) : go (rd g w x) 5 K := by
  obtain ⟨gc, gl, ⟨r1, -⟩, -⟩ := h.1
  rw [rd_e r1, go_s]
  exact k _
theorem LW.gz {K : List Value → Prop} (h : LW g w x nA cA lA y nM o kn km th s s2) (k : ∀ fs, K fs) : go (rd g w y) 7 K := by
  obtain ⟨cL, pL, D1, D2, c1, c2, h1, h2, a1, -⟩ := h.2.2.1
  rw [rd_e a1, go_s]
  exact k _
/-- what is handed on -/
def outN (w : Hw) (o : Nat) (v : Int64) : Prop := ∃ b, w o = some (.inr (6, [.long v, b]))
theorem outN.mk {v : Int64} {b : Value} : outN (upw w o (.inr (6, [.long v, b]))) o v := ⟨b, upw_s _ _ _⟩
theorem outN.mv {v : Int64} {km' th' : Int32} {s2' : AS} {w' : Hw} (h : outN w o v) (hL : LW g w x nA cA lA y nM o kn km th s s2) (k : MS g w y nM km' th' s2' w') : outN w' o v := by
  obtain ⟨b, h⟩ := h
  obtain ⟨cL, pL, D1, D2, c1, c2, h1', h2', a1, a2, -⟩ := hL.2.2.1
  exact ⟨b, k.2.1 _ _ h (ne_of h a2 (fun e => by cases e)) rfl⟩
theorem go_ON {v : Int64} {K : List Value → Prop} (h : outN w o v) (k : ∀ b, K [.long v, b]) : go (rd g w o) 6 K := by
  obtain ⟨b, h⟩ := h
  rw [rd_e h, go_s]
  exact k b
theorem LW.rb {b : Nat} {z : Ob} (h : LW g w x nA cA lA y nM o kn km th s s2) (hb : g.2 b = some z) : rd g w b = some z := by
  unfold rd
  rw [h.ro b z hb]
  exact hb
theorem gi_W {b L : Nat} {xs : Nat → Int32} {K : Nat → (Nat → Int32) → Prop} (h : LW g w x nA cA lA y nM o kn km th s s2) (hb : g.2 b = some (.inl (1, L, .inl xs))) (k : K L xs) : gi (rd g w b) 1 K := by
  rw [h.rb hb]
  exact ⟨rfl, k⟩
theorem nsC {q : Option R4} {r : R4} (h : q = none) (k : q = some r) : False := by
  rw [h] at k
  cases k
theorem fstU {f : Nat → R4} {r : R4} {i j : Nat} (h1 : mP r (f i)) (h2 : ∀ k, k < i → ¬ mP r (f k)) (k1 : mP r (f j)) (k2 : ∀ k, k < j → ¬ mP r (f k)) : i = j := by
  rcases Nat.lt_trichotomy i j with q | q | q
  · exact absurd h1 (k2 i q)
  · exact q
  · exact absurd k1 (h2 j q)
end
end
/-! 78.lw1.lean.txt -/
section
section
variable {g : RO} {Q : Ot → Hw → Prop} {w : Hw} {x nA cA lA y nM o : Nat} {kn km th : Int32} {s s2 : AS}
set_option maxHeartbeats 4000000 in
theorem fL_set {a0 a1 a2 : Int32} (hL : LW g w x nA cA lA y nM o kn km th s s2) (hX : ¬ okN a0 → Q (.inl (some (.int 1))) w) (hQ : okN a0 → ∀ w', LW g w' x nA cA lA y nM o kn km th (sN s (vp_updL s.1 a0.toNatClampNeg (stV a1 a2))) s2 → outN w' o ((hiV (s.1 a0.toNatClampNeg)).toInt64) → Q (.inl (some (.int 0))) w') : WP (ML_set g) Q (0, [some (.ref x), some (.int a0), some (.int a1), some (.int a2), some (.ref o), none], [], w, 0, 0) := by
  have ho := hL.2.1
  simp only [eL_set_0, wt_nil, wt_ref, Nat.zero_add, Nat.add_zero]
  with_reducible refine And.intro ?_ ?_
  with_reducible refine LW.gx hL (fun _ => trivial)
  with_reducible refine And.intro ?_ ?_
  omega
  with_reducible refine And.intro ?_ ?_
  omega
  with_reducible refine And.intro ?_ ?_
  omega
  with_reducible refine fX1_set hL.cs (fun hXc0 => ?_) (fun hQc0 hQw hQh => ?_)
  simp only [kx_r]
  ((with_reducible refine isHgo ?_); refine hgo_h (HH := [(0, 13, 16, 19)]) (NN := [(19, "java/lang/IndexOutOfBoundsException")]) (h := 16) (E := "java/lang/IndexOutOfBoundsException") rfl rfl (by decide +kernel) (by decide) (fun _ => ?_))
  simp only [eL_set_16, nl_ref]
  with_reducible refine And.intro ?_ ?_
  omega
  with_reducible refine And.intro ?_ ?_
  omega
  with_reducible exact hX hXc0
  simp only [eL_set_9, eL_set_13, kx_l, tl_s, nf_l, true_and]
  with_reducible refine go_OF (LW.of hL hQh (by first | with_reducible exact ho | with_reducible exact ho.num | with_reducible exact ho.rf | with_reducible exact ho.mk (by assumption) | with_reducible exact ho.mk (ho.c' (by assumption) (by assumption)) | with_reducible exact ho.mkO (by assumption) (by assumption) | with_reducible exact ho.card0 | with_reducible exact ho.card (ho.c' (by assumption) (by assumption)) | with_reducible exact ho.card (ho.p' (by assumption)) | with_reducible exact ho.lay (ho.c' (by assumption) (by assumption)) (by assumption) | with_reducible exact ho.gap (by assumption) | with_reducible exact ho.tur | with_reducible exact ho.zero)) (fun _ _ hw => ?_)
  with_reducible refine And.intro ?_ ?_
  simp only [List.length_cons, List.length_nil, Nat.zero_add]
  omega
  with_reducible refine And.intro ?_ ?_
  omega
  with_reducible refine And.intro ?_ ?_
  omega
  simp only [List.set_cons_zero]
  with_reducible exact hQ hQc0 _ (hw _ _) outN.mk
set_option maxHeartbeats 4000000 in
theorem fL_setSmall {a0 a1 : Int32} (hL : LW g w x nA cA lA y nM o kn km th s s2) (hX : ¬ okN a0 → Q (.inl (some (.int 1))) w) (hQ : okN a0 → ∀ w', LW g w' x nA cA lA y nM o kn km th (sN s (vp_updL s.1 a0.toNatClampNeg a1.toInt64)) s2 → outN w' o ((loV (s.1 a0.toNatClampNeg)).toInt64) → Q (.inl (some (.int 0))) w') : WP (ML_setSmall g) Q (0, [some (.ref x), some (.int a0), some (.int a1), some (.ref o), none], [], w, 0, 0) := by
  have ho := hL.2.1
  simp only [eL_setSmall_0, wt_nil, wt_ref, Nat.zero_add, Nat.add_zero]
  with_reducible refine And.intro ?_ ?_
  with_reducible refine LW.gx hL (fun _ => trivial)
  with_reducible refine And.intro ?_ ?_
  omega
  with_reducible refine And.intro ?_ ?_
  omega
  with_reducible refine And.intro ?_ ?_
  omega
  with_reducible refine fX1_setSmall hL.cs (fun hXc0 => ?_) (fun hQc0 hQw hQh => ?_)
  simp only [kx_r]
  ((with_reducible refine isHgo ?_); refine hgo_h (HH := [(0, 11, 14, 19)]) (NN := [(19, "java/lang/IndexOutOfBoundsException")]) (h := 14) (E := "java/lang/IndexOutOfBoundsException") rfl rfl (by decide +kernel) (by decide) (fun _ => ?_))
  simp only [eL_setSmall_14, nl_ref]
  with_reducible refine And.intro ?_ ?_
  omega
  with_reducible refine And.intro ?_ ?_
  omega
  with_reducible exact hX hXc0
  simp only [eL_setSmall_7, eL_setSmall_11, kx_l, tl_s, nf_l, true_and]
  with_reducible refine go_OF (LW.of hL hQh (by first | with_reducible exact ho | with_reducible exact ho.num | with_reducible exact ho.rf | with_reducible exact ho.mk (by assumption) | with_reducible exact ho.mk (ho.c' (by assumption) (by assumption)) | with_reducible exact ho.mkO (by assumption) (by assumption) | with_reducible exact ho.card0 | with_reducible exact ho.card (ho.c' (by assumption) (by assumption)) | with_reducible exact ho.card (ho.p' (by assumption)) | with_reducible exact ho.lay (ho.c' (by assumption) (by assumption)) (by assumption) | with_reducible exact ho.gap (by assumption) | with_reducible exact ho.tur | with_reducible exact ho.zero)) (fun _ _ hw => ?_)
  with_reducible refine And.intro ?_ ?_
  simp only [List.length_cons, List.length_nil, Nat.zero_add]
  omega
  with_reducible refine And.intro ?_ ?_
  omega
  with_reducible refine And.intro ?_ ?_
  omega
  simp only [List.set_cons_zero]
  with_reducible exact hQ hQc0 _ (hw _ _) outN.mk
set_option maxHeartbeats 4000000 in
theorem fL_setEnd {a0 a1 : Int32} (hL : LW g w x nA cA lA y nM o kn km th s s2) (hX : ¬ okN a0 → Q (.inl (some (.int 1))) w) (hW : okN a0 → ¬ okW a1 3 → Q (.inl (some (.int 2))) w) (hQ : okN a0 → okW a1 3 → ∀ w', LW g w' x nA cA lA y nM o kn km th (sN s (vp_updL s.1 a0.toNatClampNeg (frV a1))) s2 → outN w' o ((loV (frV a1)).toInt64) → Q (.inl (some (.int 0))) w') : WP (ML_setEnd g) Q (0, [some (.ref x), some (.int a0), some (.int a1), some (.ref o), none], [], w, 0, 0) := by
  have ho := hL.2.1
  simp only [eL_setEnd_0, wt_nil, wt_ref, Nat.zero_add, Nat.add_zero]
  with_reducible refine And.intro ?_ ?_
  with_reducible refine LW.gx hL (fun _ => trivial)
  with_reducible refine And.intro ?_ ?_
  omega
  with_reducible refine And.intro ?_ ?_
  omega
  with_reducible refine And.intro ?_ ?_
  omega
  with_reducible refine fX1_setEnd hL.cs (fun hXc0 => ?_) (fun hWc0 hWc1 => ?_) (fun hQc0 hQc1 hQw hQh => ?_)
  simp only [kx_r]
  ((with_reducible refine isHgo ?_); refine hgo_h (HH := [(0, 11, 14, 19), (0, 11, 18, 28)]) (NN := [(19, "java/lang/IndexOutOfBoundsException"), (28, "java/lang/IllegalArgumentException")]) (h := 14) (E := "java/lang/IndexOutOfBoundsException") rfl rfl (by decide +kernel) (by decide) (fun _ => ?_))
  simp only [eL_setEnd_14, nl_ref]
  with_reducible refine And.intro ?_ ?_
  omega
  with_reducible refine And.intro ?_ ?_
  omega
  with_reducible exact hX hXc0
  simp only [kx_r]
  ((with_reducible refine isHgo ?_); refine hgo_h (HH := [(0, 11, 14, 19), (0, 11, 18, 28)]) (NN := [(19, "java/lang/IndexOutOfBoundsException"), (28, "java/lang/IllegalArgumentException")]) (h := 18) (E := "java/lang/IllegalArgumentException") rfl rfl (by decide +kernel) (by decide) (fun _ => ?_))
  simp only [eL_setEnd_18, nl_ref]
  with_reducible refine And.intro ?_ ?_
  omega
  with_reducible refine And.intro ?_ ?_
  omega
  with_reducible exact hW hWc0 hWc1
  simp only [eL_setEnd_7, eL_setEnd_11, kx_l, tl_s, nf_l, true_and]
  with_reducible refine go_OF (LW.of hL hQh (by first | with_reducible exact ho | with_reducible exact ho.num | with_reducible exact ho.rf | with_reducible exact ho.mk (by assumption) | with_reducible exact ho.mk (ho.c' (by assumption) (by assumption)) | with_reducible exact ho.mkO (by assumption) (by assumption) | with_reducible exact ho.card0 | with_reducible exact ho.card (ho.c' (by assumption) (by assumption)) | with_reducible exact ho.card (ho.p' (by assumption)) | with_reducible exact ho.lay (ho.c' (by assumption) (by assumption)) (by assumption) | with_reducible exact ho.gap (by assumption) | with_reducible exact ho.tur | with_reducible exact ho.zero)) (fun _ _ hw => ?_)
  with_reducible refine And.intro ?_ ?_
  simp only [List.length_cons, List.length_nil, Nat.zero_add]
  omega
  with_reducible refine And.intro ?_ ?_
  omega
  with_reducible refine And.intro ?_ ?_
  omega
  simp only [List.set_cons_zero]
  with_reducible exact hQ hQc0 hQc1 _ (hw _ _) outN.mk
set_option maxHeartbeats 4000000 in
theorem fL_move {a0 a1 : Int32} (hL : LW g w x nA cA lA y nM o kn km th s s2) (hX : ¬ okN a0 → Q (.inl (some (.int 1))) w) (hQ : okN a0 → ∀ w', LW g w' x nA cA lA y nM o kn km th (sN s (vp_updL s.1 a0.toNatClampNeg (s.1 a0.toNatClampNeg + a1.toInt64))) s2 → outN w' o ((loV (s.1 a0.toNatClampNeg + a1.toInt64)).toInt64) → Q (.inl (some (.int 0))) w') : WP (ML_move g) Q (0, [some (.ref x), some (.int a0), some (.int a1), some (.ref o), none], [], w, 0, 0) := by
  have ho := hL.2.1
  simp only [eL_move_0, wt_nil, wt_ref, Nat.zero_add, Nat.add_zero]
  with_reducible refine And.intro ?_ ?_
  with_reducible refine LW.gx hL (fun _ => trivial)
  with_reducible refine And.intro ?_ ?_
  omega
  with_reducible refine And.intro ?_ ?_
  omega
  with_reducible refine And.intro ?_ ?_
  omega
  with_reducible refine fX1_move hL.cs (fun hXc0 => ?_) (fun hQc0 hQw hQh => ?_)
  simp only [kx_r]
  ((with_reducible refine isHgo ?_); refine hgo_h (HH := [(0, 11, 14, 19)]) (NN := [(19, "java/lang/IndexOutOfBoundsException")]) (h := 14) (E := "java/lang/IndexOutOfBoundsException") rfl rfl (by decide +kernel) (by decide) (fun _ => ?_))
  simp only [eL_move_14, nl_ref]
  with_reducible refine And.intro ?_ ?_
  omega
  with_reducible refine And.intro ?_ ?_
  omega
  with_reducible exact hX hXc0
  simp only [eL_move_7, eL_move_11, kx_l, tl_s, nf_l, true_and]
  with_reducible refine go_OF (LW.of hL hQh (by first | with_reducible exact ho | with_reducible exact ho.num | with_reducible exact ho.rf | with_reducible exact ho.mk (by assumption) | with_reducible exact ho.mk (ho.c' (by assumption) (by assumption)) | with_reducible exact ho.mkO (by assumption) (by assumption) | with_reducible exact ho.card0 | with_reducible exact ho.card (ho.c' (by assumption) (by assumption)) | with_reducible exact ho.card (ho.p' (by assumption)) | with_reducible exact ho.lay (ho.c' (by assumption) (by assumption)) (by assumption) | with_reducible exact ho.gap (by assumption) | with_reducible exact ho.tur | with_reducible exact ho.zero)) (fun _ _ hw => ?_)
  with_reducible refine And.intro ?_ ?_
  simp only [List.length_cons, List.length_nil, Nat.zero_add]
  omega
  with_reducible refine And.intro ?_ ?_
  omega
  with_reducible refine And.intro ?_ ?_
  omega
  simp only [List.set_cons_zero]
  with_reducible exact hQ hQc0 _ (hw _ _) outN.mk
set_option maxHeartbeats 4000000 in
theorem fL_copy {a0 a1 : Int32} (hL : LW g w x nA cA lA y nM o kn km th s s2) (hX : ¬ (okN a0 ∧ okN a1) → Q (.inl (some (.int 1))) w) (hQ : okN a0 → okN a1 → ∀ w', LW g w' x nA cA lA y nM o kn km th (sN s (vp_updL s.1 a0.toNatClampNeg (s.1 a1.toNatClampNeg))) s2 → outN w' o ((loV (s.1 a1.toNatClampNeg)).toInt64) → Q (.inl (some (.int 0))) w') : WP (ML_copy g) Q (0, [some (.ref x), some (.int a0), some (.int a1), some (.ref o), none], [], w, 0, 0) := by
  have ho := hL.2.1
  simp only [eL_copy_0, wt_nil, wt_ref, Nat.zero_add, Nat.add_zero]
  with_reducible refine And.intro ?_ ?_
  with_reducible refine LW.gx hL (fun _ => trivial)
  with_reducible refine And.intro ?_ ?_
  omega
  with_reducible refine And.intro ?_ ?_
  omega
  with_reducible refine And.intro ?_ ?_
  omega
  with_reducible refine fX1_copy hL.cs (fun hXc0 => ?_) (fun hQc0 hQc1 hQw hQh => ?_)
  simp only [kx_r]
  ((with_reducible refine isHgo ?_); refine hgo_h (HH := [(0, 11, 14, 19)]) (NN := [(19, "java/lang/IndexOutOfBoundsException")]) (h := 14) (E := "java/lang/IndexOutOfBoundsException") rfl rfl (by decide +kernel) (by decide) (fun _ => ?_))
  simp only [eL_copy_14, nl_ref]
  with_reducible refine And.intro ?_ ?_
  omega
  with_reducible refine And.intro ?_ ?_
  omega
  with_reducible exact hX hXc0
  simp only [eL_copy_7, eL_copy_11, kx_l, tl_s, nf_l, true_and]
  with_reducible refine go_OF (LW.of hL hQh (by first | with_reducible exact ho | with_reducible exact ho.num | with_reducible exact ho.rf | with_reducible exact ho.mk (by assumption) | with_reducible exact ho.mk (ho.c' (by assumption) (by assumption)) | with_reducible exact ho.mkO (by assumption) (by assumption) | with_reducible exact ho.card0 | with_reducible exact ho.card (ho.c' (by assumption) (by assumption)) | with_reducible exact ho.card (ho.p' (by assumption)) | with_reducible exact ho.lay (ho.c' (by assumption) (by assumption)) (by assumption) | with_reducible exact ho.gap (by assumption) | with_reducible exact ho.tur | with_reducible exact ho.zero)) (fun _ _ hw => ?_)
  with_reducible refine And.intro ?_ ?_
  simp only [List.length_cons, List.length_nil, Nat.zero_add]
  omega
  with_reducible refine And.intro ?_ ?_
  omega
  with_reducible refine And.intro ?_ ?_
  omega
  simp only [List.set_cons_zero]
  with_reducible exact hQ hQc0 hQc1 _ (hw _ _) outN.mk
set_option maxHeartbeats 4000000 in
theorem fL_ofNumber {a0 a1 : Int32} (hL : LW g w x nA cA lA y nM o kn km th s s2) (hX : ¬ okN a0 → Q (.inl (some (.int 1))) w) (hQ : okN a0 → ∀ w', LW g w' x nA cA lA y nM o kn km th s s2 → outN w' o ((hfV (s.1 a0.toNatClampNeg) a1).toInt64) → Q (.inl (some (.int 0))) w') : WP (ML_ofNumber g) Q (0, [some (.ref x), some (.int a0), some (.int a1), some (.ref o), none], [], w, 0, 0) := by
  have ho := hL.2.1
  simp only [eL_ofNumber_0, wt_nil, wt_ref, Nat.zero_add, Nat.add_zero]
  with_reducible refine And.intro ?_ ?_
  with_reducible refine LW.gx hL (fun _ => trivial)
  with_reducible refine And.intro ?_ ?_
  omega
  with_reducible refine And.intro ?_ ?_
  omega
  with_reducible refine And.intro ?_ ?_
  omega
  with_reducible refine fX1_ofNumber hL.cs (fun hXc0 => ?_) (fun hQc0 => ?_)
  simp only [kx_r]
  ((with_reducible refine isHgo ?_); refine hgo_h (HH := [(0, 11, 14, 19)]) (NN := [(19, "java/lang/IndexOutOfBoundsException")]) (h := 14) (E := "java/lang/IndexOutOfBoundsException") rfl rfl (by decide +kernel) (by decide) (fun _ => ?_))
  simp only [eL_ofNumber_14, nl_ref]
  with_reducible refine And.intro ?_ ?_
  omega
  with_reducible refine And.intro ?_ ?_
  omega
  with_reducible exact hX hXc0
  simp only [eL_ofNumber_7, eL_ofNumber_11, kx_l, tl_s, nf_l, true_and]
  with_reducible refine go_OF hL (fun _ _ hw => ?_)
  with_reducible refine And.intro ?_ ?_
  simp only [List.length_cons, List.length_nil, Nat.zero_add]
  omega
  with_reducible refine And.intro ?_ ?_
  omega
  with_reducible refine And.intro ?_ ?_
  omega
  simp only [List.set_cons_zero]
  with_reducible exact hQ hQc0 _ (hw _ _) outN.mk
set_option maxHeartbeats 4000000 in
theorem gL_numberText {a0 : Int32} (hR : RG g) (hL : LW g w x nA cA lA y nM o kn km th s s2) (hQ : ∀ (v : Int32) (w' : Hw), LW g w' x nA cA lA y nM o kn km th s s2 → Q (.inl (some (.int v))) w') : WP (ML_numberText g) Q (0, [some (.ref x), some (.int a0), some (.ref o), none], [], w, 0, 0) := by
  simp only [eL_numberText_0, wt_nil, wt_ref, Nat.zero_add, Nat.add_zero]
  with_reducible refine And.intro ?_ ?_
  with_reducible refine LW.gx hL (fun _ => trivial)
  with_reducible refine And.intro ?_ ?_
  omega
  with_reducible refine And.intro ?_ ?_
  omega
  with_reducible refine And.intro ?_ ?_
  omega
  with_reducible refine sX1_numberText hL.cc hR.sg (hR.dg hL.ro) ?_ (fun _ _ _ => ?_)
  simp only [kx_r]
  ((with_reducible refine isHgo ?_); refine hgo_h (HH := [(0, 9, 12, 19)]) (NN := [(19, "java/lang/IndexOutOfBoundsException")]) (h := 12) (E := "java/lang/IndexOutOfBoundsException") rfl rfl (by decide +kernel) (by decide) (fun _ => ?_))
  simp only [eL_numberText_12, nl_ref]
  with_reducible refine And.intro ?_ ?_
  omega
  with_reducible refine And.intro ?_ ?_
  omega
  with_reducible exact hQ _ _ hL
  simp only [eL_numberText_6, eL_numberText_9, kx_l, tl_s, nf_ro, true_and, tyX2]
  with_reducible refine go_OF (by first | assumption | exact hL | exact hL.ext (by assumption)) (fun _ _ hw => ?_)
  with_reducible refine And.intro ?_ ?_
  simp only [List.length_cons, List.length_nil, Nat.zero_add]
  omega
  with_reducible refine And.intro ?_ ?_
  omega
  with_reducible refine And.intro ?_ ?_
  omega
  simp only [List.set_cons_zero, List.set_cons_succ]
  with_reducible exact hQ _ _ (hw _ _)
set_option maxHeartbeats 4000000 in
theorem fL_order {a0 a1 : Int32} (hL : LW g w x nA cA lA y nM o kn km th s s2) (hX : ¬ (okN a0 ∧ okN a1) → Q (.inl (some (.int 1))) w) (hQ : okN a0 → okN a1 → ∀ w', LW g w' x nA cA lA y nM o kn km th s s2 → outN w' o ((orV (s.1 a0.toNatClampNeg) (s.1 a1.toNatClampNeg)).toInt64) → Q (.inl (some (.int 0))) w') : WP (ML_order g) Q (0, [some (.ref x), some (.int a0), some (.int a1), some (.ref o), none], [], w, 0, 0) := by
  have ho := hL.2.1
  simp only [eL_order_0, wt_nil, wt_ref, Nat.zero_add, Nat.add_zero]
  with_reducible refine And.intro ?_ ?_
  with_reducible refine LW.gx hL (fun _ => trivial)
  with_reducible refine And.intro ?_ ?_
  omega
  with_reducible refine And.intro ?_ ?_
  omega
  with_reducible refine And.intro ?_ ?_
  omega
  with_reducible refine fX1_order hL.cs (fun hXc0 => ?_) (fun hQc0 hQc1 => ?_)
  simp only [kx_r]
  ((with_reducible refine isHgo ?_); refine hgo_h (HH := [(0, 11, 14, 19)]) (NN := [(19, "java/lang/IndexOutOfBoundsException")]) (h := 14) (E := "java/lang/IndexOutOfBoundsException") rfl rfl (by decide +kernel) (by decide) (fun _ => ?_))
  simp only [eL_order_14, nl_ref]
  with_reducible refine And.intro ?_ ?_
  omega
  with_reducible refine And.intro ?_ ?_
  omega
  with_reducible exact hX hXc0
  simp only [eL_order_7, eL_order_11, kx_l, tl_s, nf_l, true_and]
  with_reducible refine go_OF hL (fun _ _ hw => ?_)
  with_reducible refine And.intro ?_ ?_
  simp only [List.length_cons, List.length_nil, Nat.zero_add]
  omega
  with_reducible refine And.intro ?_ ?_
  omega
  with_reducible refine And.intro ?_ ?_
  omega
  simp only [List.set_cons_zero]
  with_reducible exact hQ hQc0 hQc1 _ (hw _ _) outN.mk
set_option maxHeartbeats 4000000 in
theorem fL_two {a0 a1 a2 : Int32} (hL : LW g w x nA cA lA y nM o kn km th s s2) (hX : ¬ (okC a0 ∧ okN a1 ∧ okN a2) → Q (.inl (some (.int 1))) w) (hT : okC a0 → okN a1 → okN a2 → oP (s.1 a1.toNatClampNeg) (s.1 a1.toNatClampNeg) (s.1 a2.toNatClampNeg) (s.1 a2.toNatClampNeg) → ∀ w', LW g w' x nA cA lA y nM o kn km th (sMk s a0.toNatClampNeg (s.1 a1.toNatClampNeg, s.1 a1.toNatClampNeg, s.1 a2.toNatClampNeg, s.1 a2.toNatClampNeg)) s2 → outN w' o ((1 : Int32).toInt64) → Q (.inl (some (.int 0))) w') (hF : okC a0 → okN a1 → okN a2 → ¬ oP (s.1 a1.toNatClampNeg) (s.1 a1.toNatClampNeg) (s.1 a2.toNatClampNeg) (s.1 a2.toNatClampNeg) → ∀ w', LW g w' x nA cA lA y nM o kn km th (sRf s) s2 → outN w' o ((-9 : Int32).toInt64) → Q (.inl (some (.int 0))) w') : WP (ML_two g) Q (0, [some (.ref x), some (.int a0), some (.int a1), some (.int a2), some (.ref o), none], [], w, 0, 0) := by
  have ho := hL.2.1
  simp only [eL_two_0, wt_nil, wt_ref, Nat.zero_add, Nat.add_zero]
  with_reducible refine And.intro ?_ ?_
  with_reducible refine LW.gx hL (fun _ => trivial)
  with_reducible refine And.intro ?_ ?_
  omega
  with_reducible refine And.intro ?_ ?_
  omega
  with_reducible refine And.intro ?_ ?_
  omega
  with_reducible refine fX1_two hL.cs (fun hXc0 => ?_) (fun hTc0 hTc1 hTc2 hTc3 hTw hTh => ?_) (fun hFc0 hFc1 hFc2 hFc3 hFw hFh => ?_)
  simp only [kx_r]
  ((with_reducible refine isHgo ?_); refine hgo_h (HH := [(0, 13, 16, 19)]) (NN := [(19, "java/lang/IndexOutOfBoundsException")]) (h := 16) (E := "java/lang/IndexOutOfBoundsException") rfl rfl (by decide +kernel) (by decide) (fun _ => ?_))
  simp only [eL_two_16, nl_ref]
  with_reducible refine And.intro ?_ ?_
  omega
  with_reducible refine And.intro ?_ ?_
  omega
  with_reducible exact hX hXc0
  simp only [eL_two_9, eL_two_13, kx_l, tl_s, nf_l, true_and]
  with_reducible refine go_OF (LW.of hL hTh (by first | with_reducible exact ho | with_reducible exact ho.num | with_reducible exact ho.rf | with_reducible exact ho.mk (by assumption) | with_reducible exact ho.mk (ho.c' (by assumption) (by assumption)) | with_reducible exact ho.mkO (by assumption) (by assumption) | with_reducible exact ho.card0 | with_reducible exact ho.card (ho.c' (by assumption) (by assumption)) | with_reducible exact ho.card (ho.p' (by assumption)) | with_reducible exact ho.lay (ho.c' (by assumption) (by assumption)) (by assumption) | with_reducible exact ho.gap (by assumption) | with_reducible exact ho.tur | with_reducible exact ho.zero)) (fun _ _ hw => ?_)
  with_reducible refine And.intro ?_ ?_
  simp only [List.length_cons, List.length_nil, Nat.zero_add]
  omega
  with_reducible refine And.intro ?_ ?_
  omega
  with_reducible refine And.intro ?_ ?_
  omega
  simp only [List.set_cons_zero]
  with_reducible exact hT hTc0 hTc1 hTc2 hTc3 _ (hw _ _) outN.mk
  simp only [eL_two_9, eL_two_13, kx_l, tl_s, nf_l, true_and]
  with_reducible refine go_OF (LW.of hL hFh (by first | with_reducible exact ho | with_reducible exact ho.num | with_reducible exact ho.rf | with_reducible exact ho.mk (by assumption) | with_reducible exact ho.mk (ho.c' (by assumption) (by assumption)) | with_reducible exact ho.mkO (by assumption) (by assumption) | with_reducible exact ho.card0 | with_reducible exact ho.card (ho.c' (by assumption) (by assumption)) | with_reducible exact ho.card (ho.p' (by assumption)) | with_reducible exact ho.lay (ho.c' (by assumption) (by assumption)) (by assumption) | with_reducible exact ho.gap (by assumption) | with_reducible exact ho.tur | with_reducible exact ho.zero)) (fun _ _ hw => ?_)
  with_reducible refine And.intro ?_ ?_
  simp only [List.length_cons, List.length_nil, Nat.zero_add]
  omega
  with_reducible refine And.intro ?_ ?_
  omega
  with_reducible refine And.intro ?_ ?_
  omega
  simp only [List.set_cons_zero]
  with_reducible exact hF hFc0 hFc1 hFc2 hFc3 _ (hw _ _) outN.mk
set_option maxHeartbeats 4000000 in
theorem fL_three {a0 a1 a2 a3 : Int32} (hL : LW g w x nA cA lA y nM o kn km th s s2) (hX : ¬ (okC a0 ∧ okN a1 ∧ okN a2 ∧ okN a3) → Q (.inl (some (.int 1))) w) (hT : okC a0 → okN a1 → okN a2 → okN a3 → oP (s.1 a1.toNatClampNeg) (s.1 a1.toNatClampNeg) (s.1 a2.toNatClampNeg) (s.1 a3.toNatClampNeg) → ∀ w', LW g w' x nA cA lA y nM o kn km th (sMk s a0.toNatClampNeg (s.1 a1.toNatClampNeg, s.1 a1.toNatClampNeg, s.1 a2.toNatClampNeg, s.1 a3.toNatClampNeg)) s2 → outN w' o ((1 : Int32).toInt64) → Q (.inl (some (.int 0))) w') (hF : okC a0 → okN a1 → okN a2 → okN a3 → ¬ oP (s.1 a1.toNatClampNeg) (s.1 a1.toNatClampNeg) (s.1 a2.toNatClampNeg) (s.1 a3.toNatClampNeg) → ∀ w', LW g w' x nA cA lA y nM o kn km th (sRf s) s2 → outN w' o ((-9 : Int32).toInt64) → Q (.inl (some (.int 0))) w') : WP (ML_three g) Q (0, [some (.ref x), some (.int a0), some (.int a1), some (.int a2), some (.int a3), some (.ref o), none], [], w, 0, 0) := by
  have ho := hL.2.1
  simp only [eL_three_0, wt_nil, wt_ref, Nat.zero_add, Nat.add_zero]
  with_reducible refine And.intro ?_ ?_
  with_reducible refine LW.gx hL (fun _ => trivial)
  with_reducible refine And.intro ?_ ?_
  omega
  with_reducible refine And.intro ?_ ?_
  omega
  with_reducible refine And.intro ?_ ?_
  omega
  with_reducible refine fX1_three hL.cs (fun hXc0 => ?_) (fun hTc0 hTc1 hTc2 hTc3 hTc4 hTw hTh => ?_) (fun hFc0 hFc1 hFc2 hFc3 hFc4 hFw hFh => ?_)
  simp only [kx_r]
  ((with_reducible refine isHgo ?_); refine hgo_h (HH := [(0, 15, 18, 19)]) (NN := [(19, "java/lang/IndexOutOfBoundsException")]) (h := 18) (E := "java/lang/IndexOutOfBoundsException") rfl rfl (by decide +kernel) (by decide) (fun _ => ?_))
  simp only [eL_three_18, nl_ref]
  with_reducible refine And.intro ?_ ?_
  omega
  with_reducible refine And.intro ?_ ?_
  omega
  with_reducible exact hX hXc0
  simp only [eL_three_11, eL_three_15, kx_l, tl_s, nf_l, true_and]
  with_reducible refine go_OF (LW.of hL hTh (by first | with_reducible exact ho | with_reducible exact ho.num | with_reducible exact ho.rf | with_reducible exact ho.mk (by assumption) | with_reducible exact ho.mk (ho.c' (by assumption) (by assumption)) | with_reducible exact ho.mkO (by assumption) (by assumption) | with_reducible exact ho.card0 | with_reducible exact ho.card (ho.c' (by assumption) (by assumption)) | with_reducible exact ho.card (ho.p' (by assumption)) | with_reducible exact ho.lay (ho.c' (by assumption) (by assumption)) (by assumption) | with_reducible exact ho.gap (by assumption) | with_reducible exact ho.tur | with_reducible exact ho.zero)) (fun _ _ hw => ?_)
  with_reducible refine And.intro ?_ ?_
  simp only [List.length_cons, List.length_nil, Nat.zero_add]
  omega
  with_reducible refine And.intro ?_ ?_
  omega
  with_reducible refine And.intro ?_ ?_
  omega
  simp only [List.set_cons_zero]
  with_reducible exact hT hTc0 hTc1 hTc2 hTc3 hTc4 _ (hw _ _) outN.mk
  simp only [eL_three_11, eL_three_15, kx_l, tl_s, nf_l, true_and]
  with_reducible refine go_OF (LW.of hL hFh (by first | with_reducible exact ho | with_reducible exact ho.num | with_reducible exact ho.rf | with_reducible exact ho.mk (by assumption) | with_reducible exact ho.mk (ho.c' (by assumption) (by assumption)) | with_reducible exact ho.mkO (by assumption) (by assumption) | with_reducible exact ho.card0 | with_reducible exact ho.card (ho.c' (by assumption) (by assumption)) | with_reducible exact ho.card (ho.p' (by assumption)) | with_reducible exact ho.lay (ho.c' (by assumption) (by assumption)) (by assumption) | with_reducible exact ho.gap (by assumption) | with_reducible exact ho.tur | with_reducible exact ho.zero)) (fun _ _ hw => ?_)
  with_reducible refine And.intro ?_ ?_
  simp only [List.length_cons, List.length_nil, Nat.zero_add]
  omega
  with_reducible refine And.intro ?_ ?_
  omega
  with_reducible refine And.intro ?_ ?_
  omega
  simp only [List.set_cons_zero]
  with_reducible exact hF hFc0 hFc1 hFc2 hFc3 hFc4 _ (hw _ _) outN.mk
set_option maxHeartbeats 4000000 in
theorem fL_four {a0 a1 a2 a3 a4 : Int32} (hL : LW g w x nA cA lA y nM o kn km th s s2) (hX : ¬ (okC a0 ∧ okN a1 ∧ okN a2 ∧ okN a3 ∧ okN a4) → Q (.inl (some (.int 1))) w) (hT : okC a0 → okN a1 → okN a2 → okN a3 → okN a4 → oP (s.1 a1.toNatClampNeg) (s.1 a2.toNatClampNeg) (s.1 a3.toNatClampNeg) (s.1 a4.toNatClampNeg) → ∀ w', LW g w' x nA cA lA y nM o kn km th (sMk s a0.toNatClampNeg (s.1 a1.toNatClampNeg, s.1 a2.toNatClampNeg, s.1 a3.toNatClampNeg, s.1 a4.toNatClampNeg)) s2 → outN w' o ((1 : Int32).toInt64) → Q (.inl (some (.int 0))) w') (hF : okC a0 → okN a1 → okN a2 → okN a3 → okN a4 → ¬ oP (s.1 a1.toNatClampNeg) (s.1 a2.toNatClampNeg) (s.1 a3.toNatClampNeg) (s.1 a4.toNatClampNeg) → ∀ w', LW g w' x nA cA lA y nM o kn km th (sRf s) s2 → outN w' o ((-9 : Int32).toInt64) → Q (.inl (some (.int 0))) w') : WP (ML_four g) Q (0, [some (.ref x), some (.int a0), some (.int a1), some (.int a2), some (.int a3), some (.int a4), some (.ref o), none], [], w, 0, 0) := by
  have ho := hL.2.1
  simp only [eL_four_0, wt_nil, wt_ref, Nat.zero_add, Nat.add_zero]
  with_reducible refine And.intro ?_ ?_
  with_reducible refine LW.gx hL (fun _ => trivial)
  with_reducible refine And.intro ?_ ?_
  omega
  with_reducible refine And.intro ?_ ?_
  omega
  with_reducible refine And.intro ?_ ?_
  omega
  with_reducible refine fX1_four hL.cs (fun hXc0 => ?_) (fun hTc0 hTc1 hTc2 hTc3 hTc4 hTc5 hTw hTh => ?_) (fun hFc0 hFc1 hFc2 hFc3 hFc4 hFc5 hFw hFh => ?_)
  simp only [kx_r]
  ((with_reducible refine isHgo ?_); refine hgo_h (HH := [(0, 17, 20, 19)]) (NN := [(19, "java/lang/IndexOutOfBoundsException")]) (h := 20) (E := "java/lang/IndexOutOfBoundsException") rfl rfl (by decide +kernel) (by decide) (fun _ => ?_))
  simp only [eL_four_20, nl_ref]
  with_reducible refine And.intro ?_ ?_
  omega
  with_reducible refine And.intro ?_ ?_
  omega
  with_reducible exact hX hXc0
  simp only [eL_four_13, eL_four_17, kx_l, tl_s, nf_l, true_and]
  with_reducible refine go_OF (LW.of hL hTh (by first | with_reducible exact ho | with_reducible exact ho.num | with_reducible exact ho.rf | with_reducible exact ho.mk (by assumption) | with_reducible exact ho.mk (ho.c' (by assumption) (by assumption)) | with_reducible exact ho.mkO (by assumption) (by assumption) | with_reducible exact ho.card0 | with_reducible exact ho.card (ho.c' (by assumption) (by assumption)) | with_reducible exact ho.card (ho.p' (by assumption)) | with_reducible exact ho.lay (ho.c' (by assumption) (by assumption)) (by assumption) | with_reducible exact ho.gap (by assumption) | with_reducible exact ho.tur | with_reducible exact ho.zero)) (fun _ _ hw => ?_)
  with_reducible refine And.intro ?_ ?_
  simp only [List.length_cons, List.length_nil, Nat.zero_add]
  omega
  with_reducible refine And.intro ?_ ?_
  omega
  with_reducible refine And.intro ?_ ?_
  omega
  simp only [List.set_cons_zero]
  with_reducible exact hT hTc0 hTc1 hTc2 hTc3 hTc4 hTc5 _ (hw _ _) outN.mk
  simp only [eL_four_13, eL_four_17, kx_l, tl_s, nf_l, true_and]
  with_reducible refine go_OF (LW.of hL hFh (by first | with_reducible exact ho | with_reducible exact ho.num | with_reducible exact ho.rf | with_reducible exact ho.mk (by assumption) | with_reducible exact ho.mk (ho.c' (by assumption) (by assumption)) | with_reducible exact ho.mkO (by assumption) (by assumption) | with_reducible exact ho.card0 | with_reducible exact ho.card (ho.c' (by assumption) (by assumption)) | with_reducible exact ho.card (ho.p' (by assumption)) | with_reducible exact ho.lay (ho.c' (by assumption) (by assumption)) (by assumption) | with_reducible exact ho.gap (by assumption) | with_reducible exact ho.tur | with_reducible exact ho.zero)) (fun _ _ hw => ?_)
  with_reducible refine And.intro ?_ ?_
  simp only [List.length_cons, List.length_nil, Nat.zero_add]
  omega
  with_reducible refine And.intro ?_ ?_
  omega
  with_reducible refine And.intro ?_ ?_
  omega
  simp only [List.set_cons_zero]
  with_reducible exact hF hFc0 hFc1 hFc2 hFc3 hFc4 hFc5 _ (hw _ _) outN.mk
end
end
/-! 78.lw2.lean.txt -/
section
section
variable {g : RO} {Q : Ot → Hw → Prop} {w : Hw} {x nA cA lA y nM o : Nat} {kn km th : Int32} {s s2 : AS}
set_option maxHeartbeats 4000000 in
theorem fL_twoSmall {a0 a1 a2 : Int32} (hL : LW g w x nA cA lA y nM o kn km th s s2) (hX : ¬ (okC a0) → Q (.inl (some (.int 1))) w) (hT : okC a0 → oP (a1.toInt64) (a1.toInt64) (a2.toInt64) (a2.toInt64) → ∀ w', LW g w' x nA cA lA y nM o kn km th (sMk s a0.toNatClampNeg (a1.toInt64, a1.toInt64, a2.toInt64, a2.toInt64)) s2 → outN w' o ((1 : Int32).toInt64) → Q (.inl (some (.int 0))) w') (hF : okC a0 → ¬ oP (a1.toInt64) (a1.toInt64) (a2.toInt64) (a2.toInt64) → ∀ w', LW g w' x nA cA lA y nM o kn km th (sRf s) s2 → outN w' o ((-9 : Int32).toInt64) → Q (.inl (some (.int 0))) w') : WP (ML_twoSmall g) Q (0, [some (.ref x), some (.int a0), some (.int a1), some (.int a2), some (.ref o), none], [], w, 0, 0) := by
  have ho := hL.2.1
  simp only [eL_twoSmall_0, wt_nil, wt_ref, Nat.zero_add, Nat.add_zero]
  with_reducible refine And.intro ?_ ?_
  with_reducible refine LW.gx hL (fun _ => trivial)
  with_reducible refine And.intro ?_ ?_
  omega
  with_reducible refine And.intro ?_ ?_
  omega
  with_reducible refine And.intro ?_ ?_
  omega
  with_reducible refine fX1_twoSmall hL.cs (fun hXc0 => ?_) (fun hTc0 hTc1 hTw hTh => ?_) (fun hFc0 hFc1 hFw hFh => ?_)
  simp only [kx_r]
  ((with_reducible refine isHgo ?_); refine hgo_h (HH := [(0, 13, 16, 19)]) (NN := [(19, "java/lang/IndexOutOfBoundsException")]) (h := 16) (E := "java/lang/IndexOutOfBoundsException") rfl rfl (by decide +kernel) (by decide) (fun _ => ?_))
  simp only [eL_twoSmall_16, nl_ref]
  with_reducible refine And.intro ?_ ?_
  omega
  with_reducible refine And.intro ?_ ?_
  omega
  with_reducible exact hX hXc0
  simp only [eL_twoSmall_9, eL_twoSmall_13, kx_l, tl_s, nf_l, true_and]
  with_reducible refine go_OF (LW.of hL hTh (by first | with_reducible exact ho | with_reducible exact ho.num | with_reducible exact ho.rf | with_reducible exact ho.mk (by assumption) | with_reducible exact ho.mk (ho.c' (by assumption) (by assumption)) | with_reducible exact ho.mkO (by assumption) (by assumption) | with_reducible exact ho.card0 | with_reducible exact ho.card (ho.c' (by assumption) (by assumption)) | with_reducible exact ho.card (ho.p' (by assumption)) | with_reducible exact ho.lay (ho.c' (by assumption) (by assumption)) (by assumption) | with_reducible exact ho.gap (by assumption) | with_reducible exact ho.tur | with_reducible exact ho.zero)) (fun _ _ hw => ?_)
  with_reducible refine And.intro ?_ ?_
  simp only [List.length_cons, List.length_nil, Nat.zero_add]
  omega
  with_reducible refine And.intro ?_ ?_
  omega
  with_reducible refine And.intro ?_ ?_
  omega
  simp only [List.set_cons_zero]
  with_reducible exact hT hTc0 hTc1 _ (hw _ _) outN.mk
  simp only [eL_twoSmall_9, eL_twoSmall_13, kx_l, tl_s, nf_l, true_and]
  with_reducible refine go_OF (LW.of hL hFh (by first | with_reducible exact ho | with_reducible exact ho.num | with_reducible exact ho.rf | with_reducible exact ho.mk (by assumption) | with_reducible exact ho.mk (ho.c' (by assumption) (by assumption)) | with_reducible exact ho.mkO (by assumption) (by assumption) | with_reducible exact ho.card0 | with_reducible exact ho.card (ho.c' (by assumption) (by assumption)) | with_reducible exact ho.card (ho.p' (by assumption)) | with_reducible exact ho.lay (ho.c' (by assumption) (by assumption)) (by assumption) | with_reducible exact ho.gap (by assumption) | with_reducible exact ho.tur | with_reducible exact ho.zero)) (fun _ _ hw => ?_)
  with_reducible refine And.intro ?_ ?_
  simp only [List.length_cons, List.length_nil, Nat.zero_add]
  omega
  with_reducible refine And.intro ?_ ?_
  omega
  with_reducible refine And.intro ?_ ?_
  omega
  simp only [List.set_cons_zero]
  with_reducible exact hF hFc0 hFc1 _ (hw _ _) outN.mk
set_option maxHeartbeats 4000000 in
theorem fL_threeSmall {a0 a1 a2 a3 : Int32} (hL : LW g w x nA cA lA y nM o kn km th s s2) (hX : ¬ (okC a0) → Q (.inl (some (.int 1))) w) (hT : okC a0 → oP (a1.toInt64) (a1.toInt64) (a2.toInt64) (a3.toInt64) → ∀ w', LW g w' x nA cA lA y nM o kn km th (sMk s a0.toNatClampNeg (a1.toInt64, a1.toInt64, a2.toInt64, a3.toInt64)) s2 → outN w' o ((1 : Int32).toInt64) → Q (.inl (some (.int 0))) w') (hF : okC a0 → ¬ oP (a1.toInt64) (a1.toInt64) (a2.toInt64) (a3.toInt64) → ∀ w', LW g w' x nA cA lA y nM o kn km th (sRf s) s2 → outN w' o ((-9 : Int32).toInt64) → Q (.inl (some (.int 0))) w') : WP (ML_threeSmall g) Q (0, [some (.ref x), some (.int a0), some (.int a1), some (.int a2), some (.int a3), some (.ref o), none], [], w, 0, 0) := by
  have ho := hL.2.1
  simp only [eL_threeSmall_0, wt_nil, wt_ref, Nat.zero_add, Nat.add_zero]
  with_reducible refine And.intro ?_ ?_
  with_reducible refine LW.gx hL (fun _ => trivial)
  with_reducible refine And.intro ?_ ?_
  omega
  with_reducible refine And.intro ?_ ?_
  omega
  with_reducible refine And.intro ?_ ?_
  omega
  with_reducible refine fX1_threeSmall hL.cs (fun hXc0 => ?_) (fun hTc0 hTc1 hTw hTh => ?_) (fun hFc0 hFc1 hFw hFh => ?_)
  simp only [kx_r]
  ((with_reducible refine isHgo ?_); refine hgo_h (HH := [(0, 15, 18, 19)]) (NN := [(19, "java/lang/IndexOutOfBoundsException")]) (h := 18) (E := "java/lang/IndexOutOfBoundsException") rfl rfl (by decide +kernel) (by decide) (fun _ => ?_))
  simp only [eL_threeSmall_18, nl_ref]
  with_reducible refine And.intro ?_ ?_
  omega
  with_reducible refine And.intro ?_ ?_
  omega
  with_reducible exact hX hXc0
  simp only [eL_threeSmall_11, eL_threeSmall_15, kx_l, tl_s, nf_l, true_and]
  with_reducible refine go_OF (LW.of hL hTh (by first | with_reducible exact ho | with_reducible exact ho.num | with_reducible exact ho.rf | with_reducible exact ho.mk (by assumption) | with_reducible exact ho.mk (ho.c' (by assumption) (by assumption)) | with_reducible exact ho.mkO (by assumption) (by assumption) | with_reducible exact ho.card0 | with_reducible exact ho.card (ho.c' (by assumption) (by assumption)) | with_reducible exact ho.card (ho.p' (by assumption)) | with_reducible exact ho.lay (ho.c' (by assumption) (by assumption)) (by assumption) | with_reducible exact ho.gap (by assumption) | with_reducible exact ho.tur | with_reducible exact ho.zero)) (fun _ _ hw => ?_)
  with_reducible refine And.intro ?_ ?_
  simp only [List.length_cons, List.length_nil, Nat.zero_add]
  omega
  with_reducible refine And.intro ?_ ?_
  omega
  with_reducible refine And.intro ?_ ?_
  omega
  simp only [List.set_cons_zero]
  with_reducible exact hT hTc0 hTc1 _ (hw _ _) outN.mk
  simp only [eL_threeSmall_11, eL_threeSmall_15, kx_l, tl_s, nf_l, true_and]
  with_reducible refine go_OF (LW.of hL hFh (by first | with_reducible exact ho | with_reducible exact ho.num | with_reducible exact ho.rf | with_reducible exact ho.mk (by assumption) | with_reducible exact ho.mk (ho.c' (by assumption) (by assumption)) | with_reducible exact ho.mkO (by assumption) (by assumption) | with_reducible exact ho.card0 | with_reducible exact ho.card (ho.c' (by assumption) (by assumption)) | with_reducible exact ho.card (ho.p' (by assumption)) | with_reducible exact ho.lay (ho.c' (by assumption) (by assumption)) (by assumption) | with_reducible exact ho.gap (by assumption) | with_reducible exact ho.tur | with_reducible exact ho.zero)) (fun _ _ hw => ?_)
  with_reducible refine And.intro ?_ ?_
  simp only [List.length_cons, List.length_nil, Nat.zero_add]
  omega
  with_reducible refine And.intro ?_ ?_
  omega
  with_reducible refine And.intro ?_ ?_
  omega
  simp only [List.set_cons_zero]
  with_reducible exact hF hFc0 hFc1 _ (hw _ _) outN.mk
set_option maxHeartbeats 4000000 in
theorem fL_fourSmall {a0 a1 a2 a3 a4 : Int32} (hL : LW g w x nA cA lA y nM o kn km th s s2) (hX : ¬ (okC a0) → Q (.inl (some (.int 1))) w) (hT : okC a0 → oP (a1.toInt64) (a2.toInt64) (a3.toInt64) (a4.toInt64) → ∀ w', LW g w' x nA cA lA y nM o kn km th (sMk s a0.toNatClampNeg (a1.toInt64, a2.toInt64, a3.toInt64, a4.toInt64)) s2 → outN w' o ((1 : Int32).toInt64) → Q (.inl (some (.int 0))) w') (hF : okC a0 → ¬ oP (a1.toInt64) (a2.toInt64) (a3.toInt64) (a4.toInt64) → ∀ w', LW g w' x nA cA lA y nM o kn km th (sRf s) s2 → outN w' o ((-9 : Int32).toInt64) → Q (.inl (some (.int 0))) w') : WP (ML_fourSmall g) Q (0, [some (.ref x), some (.int a0), some (.int a1), some (.int a2), some (.int a3), some (.int a4), some (.ref o), none], [], w, 0, 0) := by
  have ho := hL.2.1
  simp only [eL_fourSmall_0, wt_nil, wt_ref, Nat.zero_add, Nat.add_zero]
  with_reducible refine And.intro ?_ ?_
  with_reducible refine LW.gx hL (fun _ => trivial)
  with_reducible refine And.intro ?_ ?_
  omega
  with_reducible refine And.intro ?_ ?_
  omega
  with_reducible refine And.intro ?_ ?_
  omega
  with_reducible refine fX1_fourSmall hL.cs (fun hXc0 => ?_) (fun hTc0 hTc1 hTw hTh => ?_) (fun hFc0 hFc1 hFw hFh => ?_)
  simp only [kx_r]
  ((with_reducible refine isHgo ?_); refine hgo_h (HH := [(0, 17, 20, 19)]) (NN := [(19, "java/lang/IndexOutOfBoundsException")]) (h := 20) (E := "java/lang/IndexOutOfBoundsException") rfl rfl (by decide +kernel) (by decide) (fun _ => ?_))
  simp only [eL_fourSmall_20, nl_ref]
  with_reducible refine And.intro ?_ ?_
  omega
  with_reducible refine And.intro ?_ ?_
  omega
  with_reducible exact hX hXc0
  simp only [eL_fourSmall_13, eL_fourSmall_17, kx_l, tl_s, nf_l, true_and]
  with_reducible refine go_OF (LW.of hL hTh (by first | with_reducible exact ho | with_reducible exact ho.num | with_reducible exact ho.rf | with_reducible exact ho.mk (by assumption) | with_reducible exact ho.mk (ho.c' (by assumption) (by assumption)) | with_reducible exact ho.mkO (by assumption) (by assumption) | with_reducible exact ho.card0 | with_reducible exact ho.card (ho.c' (by assumption) (by assumption)) | with_reducible exact ho.card (ho.p' (by assumption)) | with_reducible exact ho.lay (ho.c' (by assumption) (by assumption)) (by assumption) | with_reducible exact ho.gap (by assumption) | with_reducible exact ho.tur | with_reducible exact ho.zero)) (fun _ _ hw => ?_)
  with_reducible refine And.intro ?_ ?_
  simp only [List.length_cons, List.length_nil, Nat.zero_add]
  omega
  with_reducible refine And.intro ?_ ?_
  omega
  with_reducible refine And.intro ?_ ?_
  omega
  simp only [List.set_cons_zero]
  with_reducible exact hT hTc0 hTc1 _ (hw _ _) outN.mk
  simp only [eL_fourSmall_13, eL_fourSmall_17, kx_l, tl_s, nf_l, true_and]
  with_reducible refine go_OF (LW.of hL hFh (by first | with_reducible exact ho | with_reducible exact ho.num | with_reducible exact ho.rf | with_reducible exact ho.mk (by assumption) | with_reducible exact ho.mk (ho.c' (by assumption) (by assumption)) | with_reducible exact ho.mkO (by assumption) (by assumption) | with_reducible exact ho.card0 | with_reducible exact ho.card (ho.c' (by assumption) (by assumption)) | with_reducible exact ho.card (ho.p' (by assumption)) | with_reducible exact ho.lay (ho.c' (by assumption) (by assumption)) (by assumption) | with_reducible exact ho.gap (by assumption) | with_reducible exact ho.tur | with_reducible exact ho.zero)) (fun _ _ hw => ?_)
  with_reducible refine And.intro ?_ ?_
  simp only [List.length_cons, List.length_nil, Nat.zero_add]
  omega
  with_reducible refine And.intro ?_ ?_
  omega
  with_reducible refine And.intro ?_ ?_
  omega
  simp only [List.set_cons_zero]
  with_reducible exact hF hFc0 hFc1 _ (hw _ _) outN.mk
set_option maxHeartbeats 4000000 in
theorem fL_again {a0 a1 : Int32} (hL : LW g w x nA cA lA y nM o kn km th s s2) (hX : ¬ (okC a0 ∧ okC a1) → Q (.inl (some (.int 1))) w) (hS : okC a0 → okC a1 → s.2.1 a1.toNatClampNeg = none → Q (.inl (some (.int 2))) w) (hQ : okC a0 → okC a1 → ∀ r, s.2.1 a1.toNatClampNeg = some r → ∀ w', LW g w' x nA cA lA y nM o kn km th (sMk s a0.toNatClampNeg r) s2 → outN w' o ((seV r).toInt64) → Q (.inl (some (.int 0))) w') : WP (ML_again g) Q (0, [some (.ref x), some (.int a0), some (.int a1), some (.ref o), none], [], w, 0, 0) := by
  have ho := hL.2.1
  simp only [eL_again_0, wt_nil, wt_ref, Nat.zero_add, Nat.add_zero]
  with_reducible refine And.intro ?_ ?_
  with_reducible refine LW.gx hL (fun _ => trivial)
  with_reducible refine And.intro ?_ ?_
  omega
  with_reducible refine And.intro ?_ ?_
  omega
  with_reducible refine And.intro ?_ ?_
  omega
  with_reducible refine fX1_again hL.cs ho (fun hXc0 => ?_) (fun hSc0 hSc1 hSc2 => ?_) (fun hQc0 hQc1 hQr hQc2 hQw hQh => ?_)
  simp only [kx_r]
  ((with_reducible refine isHgo ?_); refine hgo_h (HH := [(0, 11, 14, 19), (0, 11, 18, 74)]) (NN := [(19, "java/lang/IndexOutOfBoundsException"), (74, "java/lang/IllegalStateException")]) (h := 14) (E := "java/lang/IndexOutOfBoundsException") rfl rfl (by decide +kernel) (by decide) (fun _ => ?_))
  simp only [eL_again_14, nl_ref]
  with_reducible refine And.intro ?_ ?_
  omega
  with_reducible refine And.intro ?_ ?_
  omega
  with_reducible exact hX hXc0
  simp only [kx_r]
  ((with_reducible refine isHgo ?_); refine hgo_h (HH := [(0, 11, 14, 19), (0, 11, 18, 74)]) (NN := [(19, "java/lang/IndexOutOfBoundsException"), (74, "java/lang/IllegalStateException")]) (h := 18) (E := "java/lang/IllegalStateException") rfl rfl (by decide +kernel) (by decide) (fun _ => ?_))
  simp only [eL_again_18, nl_ref]
  with_reducible refine And.intro ?_ ?_
  omega
  with_reducible refine And.intro ?_ ?_
  omega
  with_reducible exact hS hSc0 hSc1 hSc2
  simp only [eL_again_7, eL_again_11, kx_l, tl_s, nf_l, true_and]
  with_reducible refine go_OF (LW.of hL hQh (by first | with_reducible exact ho | with_reducible exact ho.num | with_reducible exact ho.rf | with_reducible exact ho.mk (by assumption) | with_reducible exact ho.mk (ho.c' (by assumption) (by assumption)) | with_reducible exact ho.mkO (by assumption) (by assumption) | with_reducible exact ho.card0 | with_reducible exact ho.card (ho.c' (by assumption) (by assumption)) | with_reducible exact ho.card (ho.p' (by assumption)) | with_reducible exact ho.lay (ho.c' (by assumption) (by assumption)) (by assumption) | with_reducible exact ho.gap (by assumption) | with_reducible exact ho.tur | with_reducible exact ho.zero)) (fun _ _ hw => ?_)
  with_reducible refine And.intro ?_ ?_
  simp only [List.length_cons, List.length_nil, Nat.zero_add]
  omega
  with_reducible refine And.intro ?_ ?_
  omega
  with_reducible refine And.intro ?_ ?_
  omega
  simp only [List.set_cons_zero]
  with_reducible exact hQ hQc0 hQc1 hQr hQc2 _ (hw _ _) outN.mk
set_option maxHeartbeats 4000000 in
theorem fL_same {a0 a1 : Int32} (hL : LW g w x nA cA lA y nM o kn km th s s2) (hX : ¬ (okC a0 ∧ okC a1) → Q (.inl (some (.int 1))) w) (hS : okC a0 → okC a1 → s.2.1 a1.toNatClampNeg = none → Q (.inl (some (.int 2))) w) (hN : okC a0 → okC a1 → ∀ r, s.2.1 a1.toNatClampNeg = some r → s.2.1 a0.toNatClampNeg = none → ∀ w', LW g w' x nA cA lA y nM o kn km th (sC s (va_up s.2.1 a0.toNatClampNeg (some r))) s2 → outN w' o ((-1 : Int32).toInt64) → Q (.inl (some (.int 0))) w') (hT : okC a0 → okC a1 → ∀ r, s.2.1 a1.toNatClampNeg = some r → ∀ q, s.2.1 a0.toNatClampNeg = some q → mP q r → ∀ w', LW g w' x nA cA lA y nM o kn km th (sC s (va_up s.2.1 a0.toNatClampNeg (some r))) s2 → outN w' o ((1 : Int32).toInt64) → Q (.inl (some (.int 0))) w') (hF : okC a0 → okC a1 → ∀ r, s.2.1 a1.toNatClampNeg = some r → ∀ q, s.2.1 a0.toNatClampNeg = some q → ¬ mP q r → ∀ w', LW g w' x nA cA lA y nM o kn km th (sC s (va_up s.2.1 a0.toNatClampNeg (some r))) s2 → outN w' o ((0 : Int32).toInt64) → Q (.inl (some (.int 0))) w') : WP (ML_same g) Q (0, [some (.ref x), some (.int a0), some (.int a1), some (.ref o), none], [], w, 0, 0) := by
  have ho := hL.2.1
  simp only [eL_same_0, wt_nil, wt_ref, Nat.zero_add, Nat.add_zero]
  with_reducible refine And.intro ?_ ?_
  with_reducible refine LW.gx hL (fun _ => trivial)
  with_reducible refine And.intro ?_ ?_
  omega
  with_reducible refine And.intro ?_ ?_
  omega
  with_reducible refine And.intro ?_ ?_
  omega
  with_reducible refine fX1_same hL.cs (fun hXc0 => ?_) (fun hSc0 hSc1 hSc2 => ?_) (fun hNc0 hNc1 hNr hNc2 hNc3 hNw hNh => ?_) (fun hTc0 hTc1 hTr hTc2 hTq hTc3 hTc4 hTw hTh => ?_) (fun hFc0 hFc1 hFr hFc2 hFq hFc3 hFc4 hFw hFh => ?_)
  simp only [kx_r]
  ((with_reducible refine isHgo ?_); refine hgo_h (HH := [(0, 11, 14, 19), (0, 11, 18, 74)]) (NN := [(19, "java/lang/IndexOutOfBoundsException"), (74, "java/lang/IllegalStateException")]) (h := 14) (E := "java/lang/IndexOutOfBoundsException") rfl rfl (by decide +kernel) (by decide) (fun _ => ?_))
  simp only [eL_same_14, nl_ref]
  with_reducible refine And.intro ?_ ?_
  omega
  with_reducible refine And.intro ?_ ?_
  omega
  with_reducible exact hX hXc0
  simp only [kx_r]
  ((with_reducible refine isHgo ?_); refine hgo_h (HH := [(0, 11, 14, 19), (0, 11, 18, 74)]) (NN := [(19, "java/lang/IndexOutOfBoundsException"), (74, "java/lang/IllegalStateException")]) (h := 18) (E := "java/lang/IllegalStateException") rfl rfl (by decide +kernel) (by decide) (fun _ => ?_))
  simp only [eL_same_18, nl_ref]
  with_reducible refine And.intro ?_ ?_
  omega
  with_reducible refine And.intro ?_ ?_
  omega
  with_reducible exact hS hSc0 hSc1 hSc2
  simp only [eL_same_7, eL_same_11, kx_l, tl_s, nf_l, true_and]
  with_reducible refine go_OF (LW.of hL hNh (by first | with_reducible exact ho | with_reducible exact ho.num | with_reducible exact ho.rf | with_reducible exact ho.mk (by assumption) | with_reducible exact ho.mk (ho.c' (by assumption) (by assumption)) | with_reducible exact ho.mkO (by assumption) (by assumption) | with_reducible exact ho.card0 | with_reducible exact ho.card (ho.c' (by assumption) (by assumption)) | with_reducible exact ho.card (ho.p' (by assumption)) | with_reducible exact ho.lay (ho.c' (by assumption) (by assumption)) (by assumption) | with_reducible exact ho.gap (by assumption) | with_reducible exact ho.tur | with_reducible exact ho.zero)) (fun _ _ hw => ?_)
  with_reducible refine And.intro ?_ ?_
  simp only [List.length_cons, List.length_nil, Nat.zero_add]
  omega
  with_reducible refine And.intro ?_ ?_
  omega
  with_reducible refine And.intro ?_ ?_
  omega
  simp only [List.set_cons_zero]
  with_reducible exact hN hNc0 hNc1 hNr hNc2 hNc3 _ (hw _ _) outN.mk
  simp only [eL_same_7, eL_same_11, kx_l, tl_s, nf_l, true_and]
  with_reducible refine go_OF (LW.of hL hTh (by first | with_reducible exact ho | with_reducible exact ho.num | with_reducible exact ho.rf | with_reducible exact ho.mk (by assumption) | with_reducible exact ho.mk (ho.c' (by assumption) (by assumption)) | with_reducible exact ho.mkO (by assumption) (by assumption) | with_reducible exact ho.card0 | with_reducible exact ho.card (ho.c' (by assumption) (by assumption)) | with_reducible exact ho.card (ho.p' (by assumption)) | with_reducible exact ho.lay (ho.c' (by assumption) (by assumption)) (by assumption) | with_reducible exact ho.gap (by assumption) | with_reducible exact ho.tur | with_reducible exact ho.zero)) (fun _ _ hw => ?_)
  with_reducible refine And.intro ?_ ?_
  simp only [List.length_cons, List.length_nil, Nat.zero_add]
  omega
  with_reducible refine And.intro ?_ ?_
  omega
  with_reducible refine And.intro ?_ ?_
  omega
  simp only [List.set_cons_zero]
  with_reducible exact hT hTc0 hTc1 hTr hTc2 hTq hTc3 hTc4 _ (hw _ _) outN.mk
  simp only [eL_same_7, eL_same_11, kx_l, tl_s, nf_l, true_and]
  with_reducible refine go_OF (LW.of hL hFh (by first | with_reducible exact ho | with_reducible exact ho.num | with_reducible exact ho.rf | with_reducible exact ho.mk (by assumption) | with_reducible exact ho.mk (ho.c' (by assumption) (by assumption)) | with_reducible exact ho.mkO (by assumption) (by assumption) | with_reducible exact ho.card0 | with_reducible exact ho.card (ho.c' (by assumption) (by assumption)) | with_reducible exact ho.card (ho.p' (by assumption)) | with_reducible exact ho.lay (ho.c' (by assumption) (by assumption)) (by assumption) | with_reducible exact ho.gap (by assumption) | with_reducible exact ho.tur | with_reducible exact ho.zero)) (fun _ _ hw => ?_)
  with_reducible refine And.intro ?_ ?_
  simp only [List.length_cons, List.length_nil, Nat.zero_add]
  omega
  with_reducible refine And.intro ?_ ?_
  omega
  with_reducible refine And.intro ?_ ?_
  omega
  simp only [List.set_cons_zero]
  with_reducible exact hF hFc0 hFc1 hFr hFc2 hFq hFc3 hFc4 _ (hw _ _) outN.mk
set_option maxHeartbeats 4000000 in
theorem fL_outer {a0 a1 : Int32} (hL : LW g w x nA cA lA y nM o kn km th s s2) (hX : ¬ (okC a0 ∧ okC a1) → Q (.inl (some (.int 1))) w) (hS : okC a0 → okC a1 → s.2.1 a1.toNatClampNeg = none → Q (.inl (some (.int 2))) w) (hT : okC a0 → okC a1 → ∀ r, s.2.1 a1.toNatClampNeg = some r → fP r → ∀ w', LW g w' x nA cA lA y nM o kn km th (sMk s a0.toNatClampNeg (r.1, r.1, r.2.2.2, r.2.2.2)) s2 → outN w' o ((1 : Int32).toInt64) → Q (.inl (some (.int 0))) w') (hF : okC a0 → okC a1 → ∀ r, s.2.1 a1.toNatClampNeg = some r → ¬ fP r → ∀ w', LW g w' x nA cA lA y nM o kn km th (sMk s a0.toNatClampNeg (r.1, r.1, r.2.2.2, r.2.2.2)) s2 → outN w' o ((0 : Int32).toInt64) → Q (.inl (some (.int 0))) w') : WP (ML_outer g) Q (0, [some (.ref x), some (.int a0), some (.int a1), some (.ref o), none], [], w, 0, 0) := by
  have ho := hL.2.1
  simp only [eL_outer_0, wt_nil, wt_ref, Nat.zero_add, Nat.add_zero]
  with_reducible refine And.intro ?_ ?_
  with_reducible refine LW.gx hL (fun _ => trivial)
  with_reducible refine And.intro ?_ ?_
  omega
  with_reducible refine And.intro ?_ ?_
  omega
  with_reducible refine And.intro ?_ ?_
  omega
  with_reducible refine fX1_outer hL.cs ho (fun hXc0 => ?_) (fun hSc0 hSc1 hSc2 => ?_) (fun hTc0 hTc1 hTr hTc2 hTc3 hTw hTh => ?_) (fun hFc0 hFc1 hFr hFc2 hFc3 hFw hFh => ?_)
  simp only [kx_r]
  ((with_reducible refine isHgo ?_); refine hgo_h (HH := [(0, 11, 14, 19), (0, 11, 18, 74)]) (NN := [(19, "java/lang/IndexOutOfBoundsException"), (74, "java/lang/IllegalStateException")]) (h := 14) (E := "java/lang/IndexOutOfBoundsException") rfl rfl (by decide +kernel) (by decide) (fun _ => ?_))
  simp only [eL_outer_14, nl_ref]
  with_reducible refine And.intro ?_ ?_
  omega
  with_reducible refine And.intro ?_ ?_
  omega
  with_reducible exact hX hXc0
  simp only [kx_r]
  ((with_reducible refine isHgo ?_); refine hgo_h (HH := [(0, 11, 14, 19), (0, 11, 18, 74)]) (NN := [(19, "java/lang/IndexOutOfBoundsException"), (74, "java/lang/IllegalStateException")]) (h := 18) (E := "java/lang/IllegalStateException") rfl rfl (by decide +kernel) (by decide) (fun _ => ?_))
  simp only [eL_outer_18, nl_ref]
  with_reducible refine And.intro ?_ ?_
  omega
  with_reducible refine And.intro ?_ ?_
  omega
  with_reducible exact hS hSc0 hSc1 hSc2
  simp only [eL_outer_7, eL_outer_11, kx_l, tl_s, nf_l, true_and]
  with_reducible refine go_OF (LW.of hL hTh (by first | with_reducible exact ho | with_reducible exact ho.num | with_reducible exact ho.rf | with_reducible exact ho.mk (by assumption) | with_reducible exact ho.mk (ho.c' (by assumption) (by assumption)) | with_reducible exact ho.mkO (by assumption) (by assumption) | with_reducible exact ho.card0 | with_reducible exact ho.card (ho.c' (by assumption) (by assumption)) | with_reducible exact ho.card (ho.p' (by assumption)) | with_reducible exact ho.lay (ho.c' (by assumption) (by assumption)) (by assumption) | with_reducible exact ho.gap (by assumption) | with_reducible exact ho.tur | with_reducible exact ho.zero)) (fun _ _ hw => ?_)
  with_reducible refine And.intro ?_ ?_
  simp only [List.length_cons, List.length_nil, Nat.zero_add]
  omega
  with_reducible refine And.intro ?_ ?_
  omega
  with_reducible refine And.intro ?_ ?_
  omega
  simp only [List.set_cons_zero]
  with_reducible exact hT hTc0 hTc1 hTr hTc2 hTc3 _ (hw _ _) outN.mk
  simp only [eL_outer_7, eL_outer_11, kx_l, tl_s, nf_l, true_and]
  with_reducible refine go_OF (LW.of hL hFh (by first | with_reducible exact ho | with_reducible exact ho.num | with_reducible exact ho.rf | with_reducible exact ho.mk (by assumption) | with_reducible exact ho.mk (ho.c' (by assumption) (by assumption)) | with_reducible exact ho.mkO (by assumption) (by assumption) | with_reducible exact ho.card0 | with_reducible exact ho.card (ho.c' (by assumption) (by assumption)) | with_reducible exact ho.card (ho.p' (by assumption)) | with_reducible exact ho.lay (ho.c' (by assumption) (by assumption)) (by assumption) | with_reducible exact ho.gap (by assumption) | with_reducible exact ho.tur | with_reducible exact ho.zero)) (fun _ _ hw => ?_)
  with_reducible refine And.intro ?_ ?_
  simp only [List.length_cons, List.length_nil, Nat.zero_add]
  omega
  with_reducible refine And.intro ?_ ?_
  omega
  with_reducible refine And.intro ?_ ?_
  omega
  simp only [List.set_cons_zero]
  with_reducible exact hF hFc0 hFc1 hFr hFc2 hFc3 _ (hw _ _) outN.mk
set_option maxHeartbeats 4000000 in
theorem fL_inner {a0 a1 : Int32} (hL : LW g w x nA cA lA y nM o kn km th s s2) (hX : ¬ (okC a0 ∧ okC a1) → Q (.inl (some (.int 1))) w) (hS : okC a0 → okC a1 → s.2.1 a1.toNatClampNeg = none → Q (.inl (some (.int 2))) w) (hT : okC a0 → okC a1 → ∀ r, s.2.1 a1.toNatClampNeg = some r → oP r.2.1 r.2.1 r.2.2.1 r.2.2.1 → ∀ w', LW g w' x nA cA lA y nM o kn km th (sMk s a0.toNatClampNeg (r.2.1, r.2.1, r.2.2.1, r.2.2.1)) s2 → outN w' o ((1 : Int32).toInt64) → Q (.inl (some (.int 0))) w') (hF : okC a0 → okC a1 → ∀ r, s.2.1 a1.toNatClampNeg = some r → ¬ oP r.2.1 r.2.1 r.2.2.1 r.2.2.1 → ∀ w', LW g w' x nA cA lA y nM o kn km th (sRf s) s2 → outN w' o ((-9 : Int32).toInt64) → Q (.inl (some (.int 0))) w') : WP (ML_inner g) Q (0, [some (.ref x), some (.int a0), some (.int a1), some (.ref o), none], [], w, 0, 0) := by
  have ho := hL.2.1
  simp only [eL_inner_0, wt_nil, wt_ref, Nat.zero_add, Nat.add_zero]
  with_reducible refine And.intro ?_ ?_
  with_reducible refine LW.gx hL (fun _ => trivial)
  with_reducible refine And.intro ?_ ?_
  omega
  with_reducible refine And.intro ?_ ?_
  omega
  with_reducible refine And.intro ?_ ?_
  omega
  with_reducible refine fX1_inner hL.cs (fun hXc0 => ?_) (fun hSc0 hSc1 hSc2 => ?_) (fun hTc0 hTc1 hTr hTc2 hTc3 hTw hTh => ?_) (fun hFc0 hFc1 hFr hFc2 hFc3 hFw hFh => ?_)
  simp only [kx_r]
  ((with_reducible refine isHgo ?_); refine hgo_h (HH := [(0, 11, 14, 19), (0, 11, 18, 74)]) (NN := [(19, "java/lang/IndexOutOfBoundsException"), (74, "java/lang/IllegalStateException")]) (h := 14) (E := "java/lang/IndexOutOfBoundsException") rfl rfl (by decide +kernel) (by decide) (fun _ => ?_))
  simp only [eL_inner_14, nl_ref]
  with_reducible refine And.intro ?_ ?_
  omega
  with_reducible refine And.intro ?_ ?_
  omega
  with_reducible exact hX hXc0
  simp only [kx_r]
  ((with_reducible refine isHgo ?_); refine hgo_h (HH := [(0, 11, 14, 19), (0, 11, 18, 74)]) (NN := [(19, "java/lang/IndexOutOfBoundsException"), (74, "java/lang/IllegalStateException")]) (h := 18) (E := "java/lang/IllegalStateException") rfl rfl (by decide +kernel) (by decide) (fun _ => ?_))
  simp only [eL_inner_18, nl_ref]
  with_reducible refine And.intro ?_ ?_
  omega
  with_reducible refine And.intro ?_ ?_
  omega
  with_reducible exact hS hSc0 hSc1 hSc2
  simp only [eL_inner_7, eL_inner_11, kx_l, tl_s, nf_l, true_and]
  with_reducible refine go_OF (LW.of hL hTh (by first | with_reducible exact ho | with_reducible exact ho.num | with_reducible exact ho.rf | with_reducible exact ho.mk (by assumption) | with_reducible exact ho.mk (ho.c' (by assumption) (by assumption)) | with_reducible exact ho.mkO (by assumption) (by assumption) | with_reducible exact ho.card0 | with_reducible exact ho.card (ho.c' (by assumption) (by assumption)) | with_reducible exact ho.card (ho.p' (by assumption)) | with_reducible exact ho.lay (ho.c' (by assumption) (by assumption)) (by assumption) | with_reducible exact ho.gap (by assumption) | with_reducible exact ho.tur | with_reducible exact ho.zero)) (fun _ _ hw => ?_)
  with_reducible refine And.intro ?_ ?_
  simp only [List.length_cons, List.length_nil, Nat.zero_add]
  omega
  with_reducible refine And.intro ?_ ?_
  omega
  with_reducible refine And.intro ?_ ?_
  omega
  simp only [List.set_cons_zero]
  with_reducible exact hT hTc0 hTc1 hTr hTc2 hTc3 _ (hw _ _) outN.mk
  simp only [eL_inner_7, eL_inner_11, kx_l, tl_s, nf_l, true_and]
  with_reducible refine go_OF (LW.of hL hFh (by first | with_reducible exact ho | with_reducible exact ho.num | with_reducible exact ho.rf | with_reducible exact ho.mk (by assumption) | with_reducible exact ho.mk (ho.c' (by assumption) (by assumption)) | with_reducible exact ho.mkO (by assumption) (by assumption) | with_reducible exact ho.card0 | with_reducible exact ho.card (ho.c' (by assumption) (by assumption)) | with_reducible exact ho.card (ho.p' (by assumption)) | with_reducible exact ho.lay (ho.c' (by assumption) (by assumption)) (by assumption) | with_reducible exact ho.gap (by assumption) | with_reducible exact ho.tur | with_reducible exact ho.zero)) (fun _ _ hw => ?_)
  with_reducible refine And.intro ?_ ?_
  simp only [List.length_cons, List.length_nil, Nat.zero_add]
  omega
  with_reducible refine And.intro ?_ ?_
  omega
  with_reducible refine And.intro ?_ ?_
  omega
  simp only [List.set_cons_zero]
  with_reducible exact hF hFc0 hFc1 hFr hFc2 hFc3 _ (hw _ _) outN.mk
set_option maxHeartbeats 4000000 in
theorem fL_span {a0 a1 a2 : Int32} (hL : LW g w x nA cA lA y nM o kn km th s s2) (hX : ¬ (okC a0 ∧ okC a1 ∧ okC a2) → Q (.inl (some (.int 1))) w) (hS : okC a0 → okC a1 → okC a2 → (s.2.1 a1.toNatClampNeg = none ∨ s.2.1 a2.toNatClampNeg = none) → Q (.inl (some (.int 2))) w) (hT : okC a0 → okC a1 → okC a2 → ∀ r q, s.2.1 a1.toNatClampNeg = some r → s.2.1 a2.toNatClampNeg = some q → oP r.1 r.2.1 q.2.2.1 q.2.2.2 → ∀ w', LW g w' x nA cA lA y nM o kn km th (sMk s a0.toNatClampNeg (r.1, r.2.1, q.2.2.1, q.2.2.2)) s2 → outN w' o ((1 : Int32).toInt64) → Q (.inl (some (.int 0))) w') (hF : okC a0 → okC a1 → okC a2 → ∀ r q, s.2.1 a1.toNatClampNeg = some r → s.2.1 a2.toNatClampNeg = some q → ¬ oP r.1 r.2.1 q.2.2.1 q.2.2.2 → ∀ w', LW g w' x nA cA lA y nM o kn km th (sRf s) s2 → outN w' o ((-9 : Int32).toInt64) → Q (.inl (some (.int 0))) w') : WP (ML_span g) Q (0, [some (.ref x), some (.int a0), some (.int a1), some (.int a2), some (.ref o), none], [], w, 0, 0) := by
  have ho := hL.2.1
  simp only [eL_span_0, wt_nil, wt_ref, Nat.zero_add, Nat.add_zero]
  with_reducible refine And.intro ?_ ?_
  with_reducible refine LW.gx hL (fun _ => trivial)
  with_reducible refine And.intro ?_ ?_
  omega
  with_reducible refine And.intro ?_ ?_
  omega
  with_reducible refine And.intro ?_ ?_
  omega
  with_reducible refine fX1_span hL.cs (fun hXc0 => ?_) (fun hSc0 hSc1 hSc2 hSc3 => ?_) (fun hTc0 hTc1 hTc2 hTr hTq hTc3 hTc4 hTc5 hTw hTh => ?_) (fun hFc0 hFc1 hFc2 hFr hFq hFc3 hFc4 hFc5 hFw hFh => ?_)
  simp only [kx_r]
  ((with_reducible refine isHgo ?_); refine hgo_h (HH := [(0, 13, 16, 19), (0, 13, 20, 74)]) (NN := [(19, "java/lang/IndexOutOfBoundsException"), (74, "java/lang/IllegalStateException")]) (h := 16) (E := "java/lang/IndexOutOfBoundsException") rfl rfl (by decide +kernel) (by decide) (fun _ => ?_))
  simp only [eL_span_16, nl_ref]
  with_reducible refine And.intro ?_ ?_
  omega
  with_reducible refine And.intro ?_ ?_
  omega
  with_reducible exact hX hXc0
  simp only [kx_r]
  ((with_reducible refine isHgo ?_); refine hgo_h (HH := [(0, 13, 16, 19), (0, 13, 20, 74)]) (NN := [(19, "java/lang/IndexOutOfBoundsException"), (74, "java/lang/IllegalStateException")]) (h := 20) (E := "java/lang/IllegalStateException") rfl rfl (by decide +kernel) (by decide) (fun _ => ?_))
  simp only [eL_span_20, nl_ref]
  with_reducible refine And.intro ?_ ?_
  omega
  with_reducible refine And.intro ?_ ?_
  omega
  with_reducible exact hS hSc0 hSc1 hSc2 hSc3
  simp only [eL_span_9, eL_span_13, kx_l, tl_s, nf_l, true_and]
  with_reducible refine go_OF (LW.of hL hTh (by first | with_reducible exact ho | with_reducible exact ho.num | with_reducible exact ho.rf | with_reducible exact ho.mk (by assumption) | with_reducible exact ho.mk (ho.c' (by assumption) (by assumption)) | with_reducible exact ho.mkO (by assumption) (by assumption) | with_reducible exact ho.card0 | with_reducible exact ho.card (ho.c' (by assumption) (by assumption)) | with_reducible exact ho.card (ho.p' (by assumption)) | with_reducible exact ho.lay (ho.c' (by assumption) (by assumption)) (by assumption) | with_reducible exact ho.gap (by assumption) | with_reducible exact ho.tur | with_reducible exact ho.zero)) (fun _ _ hw => ?_)
  with_reducible refine And.intro ?_ ?_
  simp only [List.length_cons, List.length_nil, Nat.zero_add]
  omega
  with_reducible refine And.intro ?_ ?_
  omega
  with_reducible refine And.intro ?_ ?_
  omega
  simp only [List.set_cons_zero]
  with_reducible exact hT hTc0 hTc1 hTc2 hTr hTq hTc3 hTc4 hTc5 _ (hw _ _) outN.mk
  simp only [eL_span_9, eL_span_13, kx_l, tl_s, nf_l, true_and]
  with_reducible refine go_OF (LW.of hL hFh (by first | with_reducible exact ho | with_reducible exact ho.num | with_reducible exact ho.rf | with_reducible exact ho.mk (by assumption) | with_reducible exact ho.mk (ho.c' (by assumption) (by assumption)) | with_reducible exact ho.mkO (by assumption) (by assumption) | with_reducible exact ho.card0 | with_reducible exact ho.card (ho.c' (by assumption) (by assumption)) | with_reducible exact ho.card (ho.p' (by assumption)) | with_reducible exact ho.lay (ho.c' (by assumption) (by assumption)) (by assumption) | with_reducible exact ho.gap (by assumption) | with_reducible exact ho.tur | with_reducible exact ho.zero)) (fun _ _ hw => ?_)
  with_reducible refine And.intro ?_ ?_
  simp only [List.length_cons, List.length_nil, Nat.zero_add]
  omega
  with_reducible refine And.intro ?_ ?_
  omega
  with_reducible refine And.intro ?_ ?_
  omega
  simp only [List.set_cons_zero]
  with_reducible exact hF hFc0 hFc1 hFc2 hFr hFq hFc3 hFc4 hFc5 _ (hw _ _) outN.mk
set_option maxHeartbeats 4000000 in
theorem fL_shift {a0 a1 : Int32} (hL : LW g w x nA cA lA y nM o kn km th s s2) (hX : ¬ okC a0 → Q (.inl (some (.int 1))) w) (hS : okC a0 → s.2.1 a0.toNatClampNeg = none → Q (.inl (some (.int 2))) w) (hT : okC a0 → ∀ r, s.2.1 a0.toNatClampNeg = some r → oP (r.1 + a1.toInt64) (r.2.1 + a1.toInt64) (r.2.2.1 + a1.toInt64) (r.2.2.2 + a1.toInt64) → ∀ w', LW g w' x nA cA lA y nM o kn km th (sMk s a0.toNatClampNeg (r.1 + a1.toInt64, r.2.1 + a1.toInt64, r.2.2.1 + a1.toInt64, r.2.2.2 + a1.toInt64)) s2 → outN w' o ((1 : Int32).toInt64) → Q (.inl (some (.int 0))) w') (hF : okC a0 → ∀ r, s.2.1 a0.toNatClampNeg = some r → ¬ oP (r.1 + a1.toInt64) (r.2.1 + a1.toInt64) (r.2.2.1 + a1.toInt64) (r.2.2.2 + a1.toInt64) → ∀ w', LW g w' x nA cA lA y nM o kn km th (sRf s) s2 → outN w' o ((-9 : Int32).toInt64) → Q (.inl (some (.int 0))) w') : WP (ML_shift g) Q (0, [some (.ref x), some (.int a0), some (.int a1), some (.ref o), none], [], w, 0, 0) := by
  have ho := hL.2.1
  simp only [eL_shift_0, wt_nil, wt_ref, Nat.zero_add, Nat.add_zero]
  with_reducible refine And.intro ?_ ?_
  with_reducible refine LW.gx hL (fun _ => trivial)
  with_reducible refine And.intro ?_ ?_
  omega
  with_reducible refine And.intro ?_ ?_
  omega
  with_reducible refine And.intro ?_ ?_
  omega
  with_reducible refine fX1_shift hL.cs (fun hXc0 => ?_) (fun hSc0 hSc1 => ?_) (fun hTc0 hTr hTc1 hTc2 hTw hTh => ?_) (fun hFc0 hFr hFc1 hFc2 hFw hFh => ?_)
  simp only [kx_r]
  ((with_reducible refine isHgo ?_); refine hgo_h (HH := [(0, 11, 14, 19), (0, 11, 18, 74)]) (NN := [(19, "java/lang/IndexOutOfBoundsException"), (74, "java/lang/IllegalStateException")]) (h := 14) (E := "java/lang/IndexOutOfBoundsException") rfl rfl (by decide +kernel) (by decide) (fun _ => ?_))
  simp only [eL_shift_14, nl_ref]
  with_reducible refine And.intro ?_ ?_
  omega
  with_reducible refine And.intro ?_ ?_
  omega
  with_reducible exact hX hXc0
  simp only [kx_r]
  ((with_reducible refine isHgo ?_); refine hgo_h (HH := [(0, 11, 14, 19), (0, 11, 18, 74)]) (NN := [(19, "java/lang/IndexOutOfBoundsException"), (74, "java/lang/IllegalStateException")]) (h := 18) (E := "java/lang/IllegalStateException") rfl rfl (by decide +kernel) (by decide) (fun _ => ?_))
  simp only [eL_shift_18, nl_ref]
  with_reducible refine And.intro ?_ ?_
  omega
  with_reducible refine And.intro ?_ ?_
  omega
  with_reducible exact hS hSc0 hSc1
  simp only [eL_shift_7, eL_shift_11, kx_l, tl_s, nf_l, true_and]
  with_reducible refine go_OF (LW.of hL hTh (by first | with_reducible exact ho | with_reducible exact ho.num | with_reducible exact ho.rf | with_reducible exact ho.mk (by assumption) | with_reducible exact ho.mk (ho.c' (by assumption) (by assumption)) | with_reducible exact ho.mkO (by assumption) (by assumption) | with_reducible exact ho.card0 | with_reducible exact ho.card (ho.c' (by assumption) (by assumption)) | with_reducible exact ho.card (ho.p' (by assumption)) | with_reducible exact ho.lay (ho.c' (by assumption) (by assumption)) (by assumption) | with_reducible exact ho.gap (by assumption) | with_reducible exact ho.tur | with_reducible exact ho.zero)) (fun _ _ hw => ?_)
  with_reducible refine And.intro ?_ ?_
  simp only [List.length_cons, List.length_nil, Nat.zero_add]
  omega
  with_reducible refine And.intro ?_ ?_
  omega
  with_reducible refine And.intro ?_ ?_
  omega
  simp only [List.set_cons_zero]
  with_reducible exact hT hTc0 hTr hTc1 hTc2 _ (hw _ _) outN.mk
  simp only [eL_shift_7, eL_shift_11, kx_l, tl_s, nf_l, true_and]
  with_reducible refine go_OF (LW.of hL hFh (by first | with_reducible exact ho | with_reducible exact ho.num | with_reducible exact ho.rf | with_reducible exact ho.mk (by assumption) | with_reducible exact ho.mk (ho.c' (by assumption) (by assumption)) | with_reducible exact ho.mkO (by assumption) (by assumption) | with_reducible exact ho.card0 | with_reducible exact ho.card (ho.c' (by assumption) (by assumption)) | with_reducible exact ho.card (ho.p' (by assumption)) | with_reducible exact ho.lay (ho.c' (by assumption) (by assumption)) (by assumption) | with_reducible exact ho.gap (by assumption) | with_reducible exact ho.tur | with_reducible exact ho.zero)) (fun _ _ hw => ?_)
  with_reducible refine And.intro ?_ ?_
  simp only [List.length_cons, List.length_nil, Nat.zero_add]
  omega
  with_reducible refine And.intro ?_ ?_
  omega
  with_reducible refine And.intro ?_ ?_
  omega
  simp only [List.set_cons_zero]
  with_reducible exact hF hFc0 hFr hFc1 hFc2 _ (hw _ _) outN.mk
set_option maxHeartbeats 4000000 in
theorem fL_drop {a0 : Int32} (hL : LW g w x nA cA lA y nM o kn km th s s2) (hX : ¬ okC a0 → Q (.inl (some (.int 1))) w) (hN : okC a0 → s.2.1 a0.toNatClampNeg = none → ∀ w', LW g w' x nA cA lA y nM o kn km th (sC s (va_up s.2.1 a0.toNatClampNeg none)) s2 → outN w' o ((0 : Int32).toInt64) → Q (.inl (some (.int 0))) w') (hS : okC a0 → ∀ r, s.2.1 a0.toNatClampNeg = some r → ∀ w', LW g w' x nA cA lA y nM o kn km th (sC s (va_up s.2.1 a0.toNatClampNeg none)) s2 → outN w' o ((1 : Int32).toInt64) → Q (.inl (some (.int 0))) w') : WP (ML_drop g) Q (0, [some (.ref x), some (.int a0), some (.ref o), none], [], w, 0, 0) := by
  have ho := hL.2.1
  simp only [eL_drop_0, wt_nil, wt_ref, Nat.zero_add, Nat.add_zero]
  with_reducible refine And.intro ?_ ?_
  with_reducible refine LW.gx hL (fun _ => trivial)
  with_reducible refine And.intro ?_ ?_
  omega
  with_reducible refine And.intro ?_ ?_
  omega
  with_reducible refine And.intro ?_ ?_
  omega
  with_reducible refine fX1_drop hL.cs (fun hXc0 => ?_) (fun hNc0 hNc1 hNw hNh => ?_) (fun hSc0 hSr hSc1 hSw hSh => ?_)
  simp only [kx_r]
  ((with_reducible refine isHgo ?_); refine hgo_h (HH := [(0, 10, 13, 19)]) (NN := [(19, "java/lang/IndexOutOfBoundsException")]) (h := 13) (E := "java/lang/IndexOutOfBoundsException") rfl rfl (by decide +kernel) (by decide) (fun _ => ?_))
  simp only [eL_drop_13, nl_ref]
  with_reducible refine And.intro ?_ ?_
  omega
  with_reducible refine And.intro ?_ ?_
  omega
  with_reducible exact hX hXc0
  simp only [eL_drop_6, eL_drop_10, kx_l, tl_s, nf_l, true_and]
  with_reducible refine go_OF (LW.of hL hNh (by first | with_reducible exact ho | with_reducible exact ho.num | with_reducible exact ho.rf | with_reducible exact ho.mk (by assumption) | with_reducible exact ho.mk (ho.c' (by assumption) (by assumption)) | with_reducible exact ho.mkO (by assumption) (by assumption) | with_reducible exact ho.card0 | with_reducible exact ho.card (ho.c' (by assumption) (by assumption)) | with_reducible exact ho.card (ho.p' (by assumption)) | with_reducible exact ho.lay (ho.c' (by assumption) (by assumption)) (by assumption) | with_reducible exact ho.gap (by assumption) | with_reducible exact ho.tur | with_reducible exact ho.zero)) (fun _ _ hw => ?_)
  with_reducible refine And.intro ?_ ?_
  simp only [List.length_cons, List.length_nil, Nat.zero_add]
  omega
  with_reducible refine And.intro ?_ ?_
  omega
  with_reducible refine And.intro ?_ ?_
  omega
  simp only [List.set_cons_zero]
  with_reducible exact hN hNc0 hNc1 _ (hw _ _) outN.mk
  simp only [eL_drop_6, eL_drop_10, kx_l, tl_s, nf_l, true_and]
  with_reducible refine go_OF (LW.of hL hSh (by first | with_reducible exact ho | with_reducible exact ho.num | with_reducible exact ho.rf | with_reducible exact ho.mk (by assumption) | with_reducible exact ho.mk (ho.c' (by assumption) (by assumption)) | with_reducible exact ho.mkO (by assumption) (by assumption) | with_reducible exact ho.card0 | with_reducible exact ho.card (ho.c' (by assumption) (by assumption)) | with_reducible exact ho.card (ho.p' (by assumption)) | with_reducible exact ho.lay (ho.c' (by assumption) (by assumption)) (by assumption) | with_reducible exact ho.gap (by assumption) | with_reducible exact ho.tur | with_reducible exact ho.zero)) (fun _ _ hw => ?_)
  with_reducible refine And.intro ?_ ?_
  simp only [List.length_cons, List.length_nil, Nat.zero_add]
  omega
  with_reducible refine And.intro ?_ ?_
  omega
  with_reducible refine And.intro ?_ ?_
  omega
  simp only [List.set_cons_zero]
  with_reducible exact hS hSc0 hSr hSc1 _ (hw _ _) outN.mk
set_option maxHeartbeats 4000000 in
theorem fL_isThere {a0 : Int32} (hL : LW g w x nA cA lA y nM o kn km th s s2) (hX : ¬ okC a0 → Q (.inl (some (.int 1))) w) (hF : okC a0 → s.2.1 a0.toNatClampNeg = none → ∀ w', LW g w' x nA cA lA y nM o kn km th s s2 → outN w' o (0) → Q (.inl (some (.int 0))) w') (hT : okC a0 → ∀ r, s.2.1 a0.toNatClampNeg = some r → ∀ w', LW g w' x nA cA lA y nM o kn km th s s2 → outN w' o (1) → Q (.inl (some (.int 0))) w') : WP (ML_isThere g) Q (0, [some (.ref x), some (.int a0), some (.ref o), none], [], w, 0, 0) := by
  have ho := hL.2.1
  simp only [eL_isThere_0, wt_nil, wt_ref, Nat.zero_add, Nat.add_zero]
  with_reducible refine And.intro ?_ ?_
  with_reducible refine LW.gx hL (fun _ => trivial)
  with_reducible refine And.intro ?_ ?_
  omega
  with_reducible refine And.intro ?_ ?_
  omega
  with_reducible refine And.intro ?_ ?_
  omega
  with_reducible refine fX1_isThere hL.cs (fun hXc0 => ?_) (fun hFc0 hFc1 => ?_) (fun hTc0 hTr hTc1 => ?_)
  simp only [kx_r]
  ((with_reducible refine isHgo ?_); refine hgo_h (HH := [(0, 17, 20, 19)]) (NN := [(19, "java/lang/IndexOutOfBoundsException")]) (h := 20) (E := "java/lang/IndexOutOfBoundsException") rfl rfl (by decide +kernel) (by decide) (fun _ => ?_))
  simp only [eL_isThere_20, nl_ref]
  with_reducible refine And.intro ?_ ?_
  omega
  with_reducible refine And.intro ?_ ?_
  omega
  with_reducible exact hX hXc0
  simp only [eL_isThere_6, eL_isThere_9, eL_isThere_13, eL_isThere_14, eL_isThere_17, kx_l, tl_s, nf_l, true_and, if_true]
  with_reducible refine go_OF hL (fun _ _ hw => ?_)
  with_reducible refine And.intro ?_ ?_
  simp only [List.length_cons, List.length_nil, Nat.zero_add]
  omega
  with_reducible refine And.intro ?_ ?_
  omega
  with_reducible refine And.intro ?_ ?_
  omega
  simp only [List.set_cons_zero]
  with_reducible exact hF hFc0 hFc1 _ (hw _ _) outN.mk
  simp only [eL_isThere_6, eL_isThere_9, eL_isThere_13, eL_isThere_14, eL_isThere_17, i10, kx_l, tl_s, nf_l, true_and, if_false]
  with_reducible refine go_OF hL (fun _ _ hw => ?_)
  with_reducible refine And.intro ?_ ?_
  simp only [List.length_cons, List.length_nil, Nat.zero_add]
  omega
  with_reducible refine And.intro ?_ ?_
  omega
  with_reducible refine And.intro ?_ ?_
  omega
  simp only [List.set_cons_zero]
  with_reducible exact hT hTc0 hTr hTc1 _ (hw _ _) outN.mk
end
end
/-! 78.lw3.lean.txt -/
section
section
variable {g : RO} {Q : Ot → Hw → Prop} {w : Hw} {x nA cA lA y nM o : Nat} {kn km th : Int32} {s s2 : AS}
set_option maxHeartbeats 4000000 in
theorem fL_isFixed {a0 : Int32} (hL : LW g w x nA cA lA y nM o kn km th s s2) (hX : ¬ okC a0 → Q (.inl (some (.int 1))) w) (hS : okC a0 → s.2.1 a0.toNatClampNeg = none → Q (.inl (some (.int 2))) w) (hT : okC a0 → ∀ r, s.2.1 a0.toNatClampNeg = some r → fP r → ∀ w', LW g w' x nA cA lA y nM o kn km th s s2 → outN w' o (1) → Q (.inl (some (.int 0))) w') (hF : okC a0 → ∀ r, s.2.1 a0.toNatClampNeg = some r → ¬ (fP r) → ∀ w', LW g w' x nA cA lA y nM o kn km th s s2 → outN w' o (0) → Q (.inl (some (.int 0))) w') : WP (ML_isFixed g) Q (0, [some (.ref x), some (.int a0), some (.ref o), none], [], w, 0, 0) := by
  have ho := hL.2.1
  simp only [eL_isFixed_0, wt_nil, wt_ref, Nat.zero_add, Nat.add_zero]
  with_reducible refine And.intro ?_ ?_
  with_reducible refine LW.gx hL (fun _ => trivial)
  with_reducible refine And.intro ?_ ?_
  omega
  with_reducible refine And.intro ?_ ?_
  omega
  with_reducible refine And.intro ?_ ?_
  omega
  with_reducible refine fX1_isFixed hL.cs (fun hXc0 => ?_) (fun hSc0 hSc1 => ?_) (fun hTc0 hTr hTc1 hTc2 => ?_) (fun hFc0 hFr hFc1 hFc2 => ?_)
  simp only [kx_r]
  ((with_reducible refine isHgo ?_); refine hgo_h (HH := [(0, 17, 20, 19), (0, 17, 23, 74)]) (NN := [(19, "java/lang/IndexOutOfBoundsException"), (74, "java/lang/IllegalStateException")]) (h := 20) (E := "java/lang/IndexOutOfBoundsException") rfl rfl (by decide +kernel) (by decide) (fun _ => ?_))
  simp only [eL_isFixed_20, nl_ref]
  with_reducible refine And.intro ?_ ?_
  omega
  with_reducible refine And.intro ?_ ?_
  omega
  with_reducible exact hX hXc0
  simp only [kx_r]
  ((with_reducible refine isHgo ?_); refine hgo_h (HH := [(0, 17, 20, 19), (0, 17, 23, 74)]) (NN := [(19, "java/lang/IndexOutOfBoundsException"), (74, "java/lang/IllegalStateException")]) (h := 23) (E := "java/lang/IllegalStateException") rfl rfl (by decide +kernel) (by decide) (fun _ => ?_))
  simp only [eL_isFixed_23, nl_ref]
  with_reducible refine And.intro ?_ ?_
  omega
  with_reducible refine And.intro ?_ ?_
  omega
  with_reducible exact hS hSc0 hSc1
  simp only [eL_isFixed_6, eL_isFixed_9, eL_isFixed_13, eL_isFixed_14, eL_isFixed_17, i10, kx_l, tl_s, nf_l, true_and, if_false]
  with_reducible refine go_OF hL (fun _ _ hw => ?_)
  with_reducible refine And.intro ?_ ?_
  simp only [List.length_cons, List.length_nil, Nat.zero_add]
  omega
  with_reducible refine And.intro ?_ ?_
  omega
  with_reducible refine And.intro ?_ ?_
  omega
  simp only [List.set_cons_zero]
  with_reducible exact hT hTc0 hTr hTc1 hTc2 _ (hw _ _) outN.mk
  simp only [eL_isFixed_6, eL_isFixed_9, eL_isFixed_13, eL_isFixed_14, eL_isFixed_17, kx_l, tl_s, nf_l, true_and, if_true]
  with_reducible refine go_OF hL (fun _ _ hw => ?_)
  with_reducible refine And.intro ?_ ?_
  simp only [List.length_cons, List.length_nil, Nat.zero_add]
  omega
  with_reducible refine And.intro ?_ ?_
  omega
  with_reducible refine And.intro ?_ ?_
  omega
  simp only [List.set_cons_zero]
  with_reducible exact hF hFc0 hFr hFc1 hFc2 _ (hw _ _) outN.mk
set_option maxHeartbeats 4000000 in
theorem fL_isSmall {a0 : Int32} (hL : LW g w x nA cA lA y nM o kn km th s s2) (hX : ¬ okC a0 → Q (.inl (some (.int 1))) w) (hS : okC a0 → s.2.1 a0.toNatClampNeg = none → Q (.inl (some (.int 2))) w) (hT : okC a0 → ∀ r, s.2.1 a0.toNatClampNeg = some r → sP r → ∀ w', LW g w' x nA cA lA y nM o kn km th s s2 → outN w' o (1) → Q (.inl (some (.int 0))) w') (hF : okC a0 → ∀ r, s.2.1 a0.toNatClampNeg = some r → ¬ (sP r) → ∀ w', LW g w' x nA cA lA y nM o kn km th s s2 → outN w' o (0) → Q (.inl (some (.int 0))) w') : WP (ML_isSmall g) Q (0, [some (.ref x), some (.int a0), some (.ref o), none], [], w, 0, 0) := by
  have ho := hL.2.1
  simp only [eL_isSmall_0, wt_nil, wt_ref, Nat.zero_add, Nat.add_zero]
  with_reducible refine And.intro ?_ ?_
  with_reducible refine LW.gx hL (fun _ => trivial)
  with_reducible refine And.intro ?_ ?_
  omega
  with_reducible refine And.intro ?_ ?_
  omega
  with_reducible refine And.intro ?_ ?_
  omega
  with_reducible refine fX1_isSmall hL.cs (fun hXc0 => ?_) (fun hSc0 hSc1 => ?_) (fun hTc0 hTr hTc1 hTc2 => ?_) (fun hFc0 hFr hFc1 hFc2 => ?_)
  simp only [kx_r]
  ((with_reducible refine isHgo ?_); refine hgo_h (HH := [(0, 17, 20, 19), (0, 17, 23, 74)]) (NN := [(19, "java/lang/IndexOutOfBoundsException"), (74, "java/lang/IllegalStateException")]) (h := 20) (E := "java/lang/IndexOutOfBoundsException") rfl rfl (by decide +kernel) (by decide) (fun _ => ?_))
  simp only [eL_isSmall_20, nl_ref]
  with_reducible refine And.intro ?_ ?_
  omega
  with_reducible refine And.intro ?_ ?_
  omega
  with_reducible exact hX hXc0
  simp only [kx_r]
  ((with_reducible refine isHgo ?_); refine hgo_h (HH := [(0, 17, 20, 19), (0, 17, 23, 74)]) (NN := [(19, "java/lang/IndexOutOfBoundsException"), (74, "java/lang/IllegalStateException")]) (h := 23) (E := "java/lang/IllegalStateException") rfl rfl (by decide +kernel) (by decide) (fun _ => ?_))
  simp only [eL_isSmall_23, nl_ref]
  with_reducible refine And.intro ?_ ?_
  omega
  with_reducible refine And.intro ?_ ?_
  omega
  with_reducible exact hS hSc0 hSc1
  simp only [eL_isSmall_6, eL_isSmall_9, eL_isSmall_13, eL_isSmall_14, eL_isSmall_17, i10, kx_l, tl_s, nf_l, true_and, if_false]
  with_reducible refine go_OF hL (fun _ _ hw => ?_)
  with_reducible refine And.intro ?_ ?_
  simp only [List.length_cons, List.length_nil, Nat.zero_add]
  omega
  with_reducible refine And.intro ?_ ?_
  omega
  with_reducible refine And.intro ?_ ?_
  omega
  simp only [List.set_cons_zero]
  with_reducible exact hT hTc0 hTr hTc1 hTc2 _ (hw _ _) outN.mk
  simp only [eL_isSmall_6, eL_isSmall_9, eL_isSmall_13, eL_isSmall_14, eL_isSmall_17, kx_l, tl_s, nf_l, true_and, if_true]
  with_reducible refine go_OF hL (fun _ _ hw => ?_)
  with_reducible refine And.intro ?_ ?_
  simp only [List.length_cons, List.length_nil, Nat.zero_add]
  omega
  with_reducible refine And.intro ?_ ?_
  omega
  with_reducible refine And.intro ?_ ?_
  omega
  simp only [List.set_cons_zero]
  with_reducible exact hF hFc0 hFr hFc1 hFc2 _ (hw _ _) outN.mk
set_option maxHeartbeats 4000000 in
theorem fL_end {a0 a1 a2 : Int32} (hL : LW g w x nA cA lA y nM o kn km th s s2) (hX : ¬ okC a0 → Q (.inl (some (.int 1))) w) (hW : okC a0 → ¬ okW a1 3 → Q (.inl (some (.int 2))) w) (hS : okC a0 → okW a1 3 → s.2.1 a0.toNatClampNeg = none → Q (.inl (some (.int 3))) w) (hQ : okC a0 → okW a1 3 → ∀ r, s.2.1 a0.toNatClampNeg = some r → ∀ w', LW g w' x nA cA lA y nM o kn km th s s2 → outN w' o ((hfV (eV r a1) a2).toInt64) → Q (.inl (some (.int 0))) w') : WP (ML_end g) Q (0, [some (.ref x), some (.int a0), some (.int a1), some (.int a2), some (.ref o), none], [], w, 0, 0) := by
  have ho := hL.2.1
  simp only [eL_end_0, wt_nil, wt_ref, Nat.zero_add, Nat.add_zero]
  with_reducible refine And.intro ?_ ?_
  with_reducible refine LW.gx hL (fun _ => trivial)
  with_reducible refine And.intro ?_ ?_
  omega
  with_reducible refine And.intro ?_ ?_
  omega
  with_reducible refine And.intro ?_ ?_
  omega
  with_reducible refine fX1_end hL.cs (fun hXc0 => ?_) (fun hWc0 hWc1 => ?_) (fun hSc0 hSc1 hSc2 => ?_) (fun hQc0 hQc1 hQr hQc2 => ?_)
  simp only [kx_r]
  ((with_reducible refine isHgo ?_); refine hgo_h (HH := [(0, 13, 16, 19), (0, 13, 20, 28), (0, 13, 24, 74)]) (NN := [(19, "java/lang/IndexOutOfBoundsException"), (28, "java/lang/IllegalArgumentException"), (74, "java/lang/IllegalStateException")]) (h := 16) (E := "java/lang/IndexOutOfBoundsException") rfl rfl (by decide +kernel) (by decide) (fun _ => ?_))
  simp only [eL_end_16, nl_ref]
  with_reducible refine And.intro ?_ ?_
  omega
  with_reducible refine And.intro ?_ ?_
  omega
  with_reducible exact hX hXc0
  simp only [kx_r]
  ((with_reducible refine isHgo ?_); refine hgo_h (HH := [(0, 13, 16, 19), (0, 13, 20, 28), (0, 13, 24, 74)]) (NN := [(19, "java/lang/IndexOutOfBoundsException"), (28, "java/lang/IllegalArgumentException"), (74, "java/lang/IllegalStateException")]) (h := 20) (E := "java/lang/IllegalArgumentException") rfl rfl (by decide +kernel) (by decide) (fun _ => ?_))
  simp only [eL_end_20, nl_ref]
  with_reducible refine And.intro ?_ ?_
  omega
  with_reducible refine And.intro ?_ ?_
  omega
  with_reducible exact hW hWc0 hWc1
  simp only [kx_r]
  ((with_reducible refine isHgo ?_); refine hgo_h (HH := [(0, 13, 16, 19), (0, 13, 20, 28), (0, 13, 24, 74)]) (NN := [(19, "java/lang/IndexOutOfBoundsException"), (28, "java/lang/IllegalArgumentException"), (74, "java/lang/IllegalStateException")]) (h := 24) (E := "java/lang/IllegalStateException") rfl rfl (by decide +kernel) (by decide) (fun _ => ?_))
  simp only [eL_end_24, nl_ref]
  with_reducible refine And.intro ?_ ?_
  omega
  with_reducible refine And.intro ?_ ?_
  omega
  with_reducible exact hS hSc0 hSc1 hSc2
  simp only [eL_end_9, eL_end_13, kx_l, tl_s, nf_l, true_and]
  with_reducible refine go_OF hL (fun _ _ hw => ?_)
  with_reducible refine And.intro ?_ ?_
  simp only [List.length_cons, List.length_nil, Nat.zero_add]
  omega
  with_reducible refine And.intro ?_ ?_
  omega
  with_reducible refine And.intro ?_ ?_
  omega
  simp only [List.set_cons_zero]
  with_reducible exact hQ hQc0 hQc1 hQr hQc2 _ (hw _ _) outN.mk
set_option maxHeartbeats 4000000 in
theorem fL_take {a0 a1 a2 : Int32} (hL : LW g w x nA cA lA y nM o kn km th s s2) (hX : ¬ (okC a0 ∧ okN a2) → Q (.inl (some (.int 1))) w) (hW : okC a0 → okN a2 → ¬ okW a1 3 → Q (.inl (some (.int 2))) w) (hS : okC a0 → okN a2 → okW a1 3 → s.2.1 a0.toNatClampNeg = none → Q (.inl (some (.int 3))) w) (hQ : okC a0 → okN a2 → okW a1 3 → ∀ r, s.2.1 a0.toNatClampNeg = some r → ∀ w', LW g w' x nA cA lA y nM o kn km th (sN s (vp_updL s.1 a2.toNatClampNeg (eV r a1))) s2 → outN w' o ((loV (eV r a1)).toInt64) → Q (.inl (some (.int 0))) w') : WP (ML_take g) Q (0, [some (.ref x), some (.int a0), some (.int a1), some (.int a2), some (.ref o), none], [], w, 0, 0) := by
  have ho := hL.2.1
  simp only [eL_take_0, wt_nil, wt_ref, Nat.zero_add, Nat.add_zero]
  with_reducible refine And.intro ?_ ?_
  with_reducible refine LW.gx hL (fun _ => trivial)
  with_reducible refine And.intro ?_ ?_
  omega
  with_reducible refine And.intro ?_ ?_
  omega
  with_reducible refine And.intro ?_ ?_
  omega
  with_reducible refine fX1_take hL.cs (fun hXc0 => ?_) (fun hWc0 hWc1 hWc2 => ?_) (fun hSc0 hSc1 hSc2 hSc3 => ?_) (fun hQc0 hQc1 hQc2 hQr hQc3 hQw hQh => ?_)
  simp only [kx_r]
  ((with_reducible refine isHgo ?_); refine hgo_h (HH := [(0, 13, 16, 19), (0, 13, 20, 28), (0, 13, 24, 74)]) (NN := [(19, "java/lang/IndexOutOfBoundsException"), (28, "java/lang/IllegalArgumentException"), (74, "java/lang/IllegalStateException")]) (h := 16) (E := "java/lang/IndexOutOfBoundsException") rfl rfl (by decide +kernel) (by decide) (fun _ => ?_))
  simp only [eL_take_16, nl_ref]
  with_reducible refine And.intro ?_ ?_
  omega
  with_reducible refine And.intro ?_ ?_
  omega
  with_reducible exact hX hXc0
  simp only [kx_r]
  ((with_reducible refine isHgo ?_); refine hgo_h (HH := [(0, 13, 16, 19), (0, 13, 20, 28), (0, 13, 24, 74)]) (NN := [(19, "java/lang/IndexOutOfBoundsException"), (28, "java/lang/IllegalArgumentException"), (74, "java/lang/IllegalStateException")]) (h := 20) (E := "java/lang/IllegalArgumentException") rfl rfl (by decide +kernel) (by decide) (fun _ => ?_))
  simp only [eL_take_20, nl_ref]
  with_reducible refine And.intro ?_ ?_
  omega
  with_reducible refine And.intro ?_ ?_
  omega
  with_reducible exact hW hWc0 hWc1 hWc2
  simp only [kx_r]
  ((with_reducible refine isHgo ?_); refine hgo_h (HH := [(0, 13, 16, 19), (0, 13, 20, 28), (0, 13, 24, 74)]) (NN := [(19, "java/lang/IndexOutOfBoundsException"), (28, "java/lang/IllegalArgumentException"), (74, "java/lang/IllegalStateException")]) (h := 24) (E := "java/lang/IllegalStateException") rfl rfl (by decide +kernel) (by decide) (fun _ => ?_))
  simp only [eL_take_24, nl_ref]
  with_reducible refine And.intro ?_ ?_
  omega
  with_reducible refine And.intro ?_ ?_
  omega
  with_reducible exact hS hSc0 hSc1 hSc2 hSc3
  simp only [eL_take_9, eL_take_13, kx_l, tl_s, nf_l, true_and]
  with_reducible refine go_OF (LW.of hL hQh (by first | with_reducible exact ho | with_reducible exact ho.num | with_reducible exact ho.rf | with_reducible exact ho.mk (by assumption) | with_reducible exact ho.mk (ho.c' (by assumption) (by assumption)) | with_reducible exact ho.mkO (by assumption) (by assumption) | with_reducible exact ho.card0 | with_reducible exact ho.card (ho.c' (by assumption) (by assumption)) | with_reducible exact ho.card (ho.p' (by assumption)) | with_reducible exact ho.lay (ho.c' (by assumption) (by assumption)) (by assumption) | with_reducible exact ho.gap (by assumption) | with_reducible exact ho.tur | with_reducible exact ho.zero)) (fun _ _ hw => ?_)
  with_reducible refine And.intro ?_ ?_
  simp only [List.length_cons, List.length_nil, Nat.zero_add]
  omega
  with_reducible refine And.intro ?_ ?_
  omega
  with_reducible refine And.intro ?_ ?_
  omega
  simp only [List.set_cons_zero]
  with_reducible exact hQ hQc0 hQc1 hQc2 hQr hQc3 _ (hw _ _) outN.mk
set_option maxHeartbeats 4000000 in
theorem gL_cardText {a0 : Int32} (hR : RG g) (hL : LW g w x nA cA lA y nM o kn km th s s2) (hQ : ∀ (v : Int32) (w' : Hw), LW g w' x nA cA lA y nM o kn km th s s2 → Q (.inl (some (.int v))) w') : WP (ML_cardText g) Q (0, [some (.ref x), some (.int a0), some (.ref o), none], [], w, 0, 0) := by
  simp only [eL_cardText_0, wt_nil, wt_ref, Nat.zero_add, Nat.add_zero]
  with_reducible refine And.intro ?_ ?_
  with_reducible refine LW.gx hL (fun _ => trivial)
  with_reducible refine And.intro ?_ ?_
  omega
  with_reducible refine And.intro ?_ ?_
  omega
  with_reducible refine And.intro ?_ ?_
  omega
  with_reducible refine sX1_cardText hL.cc hR.sg (hR.dg hL.ro) hR.r20 ?_ (fun _ _ _ => ?_)
  simp only [kx_r]
  ((with_reducible refine isHgo ?_); refine hgo_h (HH := [(0, 9, 12, 19)]) (NN := [(19, "java/lang/IndexOutOfBoundsException")]) (h := 12) (E := "java/lang/IndexOutOfBoundsException") rfl rfl (by decide +kernel) (by decide) (fun _ => ?_))
  simp only [eL_cardText_12, nl_ref]
  with_reducible refine And.intro ?_ ?_
  omega
  with_reducible refine And.intro ?_ ?_
  omega
  with_reducible exact hQ _ _ hL
  simp only [eL_cardText_6, eL_cardText_9, kx_l, tl_s, nf_ro, true_and, tyX2]
  with_reducible refine go_OF (by first | assumption | exact hL | exact hL.ext (by assumption)) (fun _ _ hw => ?_)
  with_reducible refine And.intro ?_ ?_
  simp only [List.length_cons, List.length_nil, Nat.zero_add]
  omega
  with_reducible refine And.intro ?_ ?_
  omega
  with_reducible refine And.intro ?_ ?_
  omega
  simp only [List.set_cons_zero, List.set_cons_succ]
  with_reducible exact hQ _ _ (hw _ _)
set_option maxHeartbeats 4000000 in
theorem fL_isValid {a0 a1 : Int32} (hL : LW g w x nA cA lA y nM o kn km th s s2) (hX : ¬ (okC a0 ∧ okN a1) → Q (.inl (some (.int 1))) w) (hS : okC a0 → okN a1 → s.2.1 a0.toNatClampNeg = none → Q (.inl (some (.int 2))) w) (hT : okC a0 → okN a1 → ∀ r, s.2.1 a0.toNatClampNeg = some r → hP r (s.1 a1.toNatClampNeg) → ∀ w', LW g w' x nA cA lA y nM o kn km th s s2 → outN w' o (1) → Q (.inl (some (.int 0))) w') (hF : okC a0 → okN a1 → ∀ r, s.2.1 a0.toNatClampNeg = some r → ¬ (hP r (s.1 a1.toNatClampNeg)) → ∀ w', LW g w' x nA cA lA y nM o kn km th s s2 → outN w' o (0) → Q (.inl (some (.int 0))) w') : WP (ML_isValid g) Q (0, [some (.ref x), some (.int a0), some (.int a1), some (.ref o), none], [], w, 0, 0) := by
  have ho := hL.2.1
  simp only [eL_isValid_0, wt_nil, wt_ref, Nat.zero_add, Nat.add_zero]
  with_reducible refine And.intro ?_ ?_
  with_reducible refine LW.gx hL (fun _ => trivial)
  with_reducible refine And.intro ?_ ?_
  omega
  with_reducible refine And.intro ?_ ?_
  omega
  with_reducible refine And.intro ?_ ?_
  omega
  with_reducible refine fX1_isValid hL.cs (fun hXc0 => ?_) (fun hSc0 hSc1 hSc2 => ?_) (fun hTc0 hTc1 hTr hTc2 hTc3 => ?_) (fun hFc0 hFc1 hFr hFc2 hFc3 => ?_)
  simp only [kx_r]
  ((with_reducible refine isHgo ?_); refine hgo_h (HH := [(0, 18, 21, 19), (0, 18, 25, 74)]) (NN := [(19, "java/lang/IndexOutOfBoundsException"), (74, "java/lang/IllegalStateException")]) (h := 21) (E := "java/lang/IndexOutOfBoundsException") rfl rfl (by decide +kernel) (by decide) (fun _ => ?_))
  simp only [eL_isValid_21, nl_ref]
  with_reducible refine And.intro ?_ ?_
  omega
  with_reducible refine And.intro ?_ ?_
  omega
  with_reducible exact hX hXc0
  simp only [kx_r]
  ((with_reducible refine isHgo ?_); refine hgo_h (HH := [(0, 18, 21, 19), (0, 18, 25, 74)]) (NN := [(19, "java/lang/IndexOutOfBoundsException"), (74, "java/lang/IllegalStateException")]) (h := 25) (E := "java/lang/IllegalStateException") rfl rfl (by decide +kernel) (by decide) (fun _ => ?_))
  simp only [eL_isValid_25, nl_ref]
  with_reducible refine And.intro ?_ ?_
  omega
  with_reducible refine And.intro ?_ ?_
  omega
  with_reducible exact hS hSc0 hSc1 hSc2
  simp only [eL_isValid_7, eL_isValid_10, eL_isValid_14, eL_isValid_15, eL_isValid_18, i10, kx_l, tl_s, nf_l, true_and, if_false]
  with_reducible refine go_OF hL (fun _ _ hw => ?_)
  with_reducible refine And.intro ?_ ?_
  simp only [List.length_cons, List.length_nil, Nat.zero_add]
  omega
  with_reducible refine And.intro ?_ ?_
  omega
  with_reducible refine And.intro ?_ ?_
  omega
  simp only [List.set_cons_zero]
  with_reducible exact hT hTc0 hTc1 hTr hTc2 hTc3 _ (hw _ _) outN.mk
  simp only [eL_isValid_7, eL_isValid_10, eL_isValid_14, eL_isValid_15, eL_isValid_18, kx_l, tl_s, nf_l, true_and, if_true]
  with_reducible refine go_OF hL (fun _ _ hw => ?_)
  with_reducible refine And.intro ?_ ?_
  simp only [List.length_cons, List.length_nil, Nat.zero_add]
  omega
  with_reducible refine And.intro ?_ ?_
  omega
  with_reducible refine And.intro ?_ ?_
  omega
  simp only [List.set_cons_zero]
  with_reducible exact hF hFc0 hFc1 hFr hFc2 hFc3 _ (hw _ _) outN.mk
set_option maxHeartbeats 4000000 in
theorem fL_isValidSmall {a0 a1 : Int32} (hL : LW g w x nA cA lA y nM o kn km th s s2) (hX : ¬ (okC a0 ∧ okN a1) → Q (.inl (some (.int 1))) w) (hS : okC a0 → okN a1 → s.2.1 a0.toNatClampNeg = none → Q (.inl (some (.int 2))) w) (hT : okC a0 → okN a1 → ∀ r, s.2.1 a0.toNatClampNeg = some r → (sP r ∧ hP r (s.1 a1.toNatClampNeg)) → ∀ w', LW g w' x nA cA lA y nM o kn km th s s2 → outN w' o (1) → Q (.inl (some (.int 0))) w') (hF : okC a0 → okN a1 → ∀ r, s.2.1 a0.toNatClampNeg = some r → ¬ ((sP r ∧ hP r (s.1 a1.toNatClampNeg))) → ∀ w', LW g w' x nA cA lA y nM o kn km th s s2 → outN w' o (0) → Q (.inl (some (.int 0))) w') : WP (ML_isValidSmall g) Q (0, [some (.ref x), some (.int a0), some (.int a1), some (.ref o), none], [], w, 0, 0) := by
  have ho := hL.2.1
  simp only [eL_isValidSmall_0, wt_nil, wt_ref, Nat.zero_add, Nat.add_zero]
  with_reducible refine And.intro ?_ ?_
  with_reducible refine LW.gx hL (fun _ => trivial)
  with_reducible refine And.intro ?_ ?_
  omega
  with_reducible refine And.intro ?_ ?_
  omega
  with_reducible refine And.intro ?_ ?_
  omega
  with_reducible refine fX1_isValidSmall hL.cs (fun hXc0 => ?_) (fun hSc0 hSc1 hSc2 => ?_) (fun hTc0 hTc1 hTr hTc2 hTc3 => ?_) (fun hFc0 hFc1 hFr hFc2 hFc3 => ?_)
  simp only [kx_r]
  ((with_reducible refine isHgo ?_); refine hgo_h (HH := [(0, 18, 21, 19), (0, 18, 25, 74)]) (NN := [(19, "java/lang/IndexOutOfBoundsException"), (74, "java/lang/IllegalStateException")]) (h := 21) (E := "java/lang/IndexOutOfBoundsException") rfl rfl (by decide +kernel) (by decide) (fun _ => ?_))
  simp only [eL_isValidSmall_21, nl_ref]
  with_reducible refine And.intro ?_ ?_
  omega
  with_reducible refine And.intro ?_ ?_
  omega
  with_reducible exact hX hXc0
  simp only [kx_r]
  ((with_reducible refine isHgo ?_); refine hgo_h (HH := [(0, 18, 21, 19), (0, 18, 25, 74)]) (NN := [(19, "java/lang/IndexOutOfBoundsException"), (74, "java/lang/IllegalStateException")]) (h := 25) (E := "java/lang/IllegalStateException") rfl rfl (by decide +kernel) (by decide) (fun _ => ?_))
  simp only [eL_isValidSmall_25, nl_ref]
  with_reducible refine And.intro ?_ ?_
  omega
  with_reducible refine And.intro ?_ ?_
  omega
  with_reducible exact hS hSc0 hSc1 hSc2
  simp only [eL_isValidSmall_7, eL_isValidSmall_10, eL_isValidSmall_14, eL_isValidSmall_15, eL_isValidSmall_18, i10, kx_l, tl_s, nf_l, true_and, if_false]
  with_reducible refine go_OF hL (fun _ _ hw => ?_)
  with_reducible refine And.intro ?_ ?_
  simp only [List.length_cons, List.length_nil, Nat.zero_add]
  omega
  with_reducible refine And.intro ?_ ?_
  omega
  with_reducible refine And.intro ?_ ?_
  omega
  simp only [List.set_cons_zero]
  with_reducible exact hT hTc0 hTc1 hTr hTc2 hTc3 _ (hw _ _) outN.mk
  simp only [eL_isValidSmall_7, eL_isValidSmall_10, eL_isValidSmall_14, eL_isValidSmall_15, eL_isValidSmall_18, kx_l, tl_s, nf_l, true_and, if_true]
  with_reducible refine go_OF hL (fun _ _ hw => ?_)
  with_reducible refine And.intro ?_ ?_
  simp only [List.length_cons, List.length_nil, Nat.zero_add]
  omega
  with_reducible refine And.intro ?_ ?_
  omega
  with_reducible refine And.intro ?_ ?_
  omega
  simp only [List.set_cons_zero]
  with_reducible exact hF hFc0 hFc1 hFr hFc2 hFc3 _ (hw _ _) outN.mk
set_option maxHeartbeats 4000000 in
theorem fL_whichValid {a0 a1 : Int32} (hL : LW g w x nA cA lA y nM o kn km th s s2) (hX : ¬ okC a0 → Q (.inl (some (.int 1))) w) (hS : okC a0 → s.2.1 a0.toNatClampNeg = none → Q (.inl (some (.int 2))) w) (hQ : okC a0 → ∀ r, s.2.1 a0.toNatClampNeg = some r → ∀ w', LW g w' x nA cA lA y nM o kn km th s s2 → outN w' o ((wV r a1.toInt64).toInt64) → Q (.inl (some (.int 0))) w') : WP (ML_whichValid g) Q (0, [some (.ref x), some (.int a0), some (.int a1), some (.ref o), none], [], w, 0, 0) := by
  have ho := hL.2.1
  simp only [eL_whichValid_0, wt_nil, wt_ref, Nat.zero_add, Nat.add_zero]
  with_reducible refine And.intro ?_ ?_
  with_reducible refine LW.gx hL (fun _ => trivial)
  with_reducible refine And.intro ?_ ?_
  omega
  with_reducible refine And.intro ?_ ?_
  omega
  with_reducible refine And.intro ?_ ?_
  omega
  with_reducible refine fX1_whichValid hL.cs (fun hXc0 => ?_) (fun hSc0 hSc1 => ?_) (fun hQc0 hQr hQc1 => ?_)
  simp only [kx_r]
  ((with_reducible refine isHgo ?_); refine hgo_h (HH := [(0, 11, 14, 19), (0, 11, 18, 74)]) (NN := [(19, "java/lang/IndexOutOfBoundsException"), (74, "java/lang/IllegalStateException")]) (h := 14) (E := "java/lang/IndexOutOfBoundsException") rfl rfl (by decide +kernel) (by decide) (fun _ => ?_))
  simp only [eL_whichValid_14, nl_ref]
  with_reducible refine And.intro ?_ ?_
  omega
  with_reducible refine And.intro ?_ ?_
  omega
  with_reducible exact hX hXc0
  simp only [kx_r]
  ((with_reducible refine isHgo ?_); refine hgo_h (HH := [(0, 11, 14, 19), (0, 11, 18, 74)]) (NN := [(19, "java/lang/IndexOutOfBoundsException"), (74, "java/lang/IllegalStateException")]) (h := 18) (E := "java/lang/IllegalStateException") rfl rfl (by decide +kernel) (by decide) (fun _ => ?_))
  simp only [eL_whichValid_18, nl_ref]
  with_reducible refine And.intro ?_ ?_
  omega
  with_reducible refine And.intro ?_ ?_
  omega
  with_reducible exact hS hSc0 hSc1
  simp only [eL_whichValid_7, eL_whichValid_11, kx_l, tl_s, nf_l, true_and]
  with_reducible refine go_OF hL (fun _ _ hw => ?_)
  with_reducible refine And.intro ?_ ?_
  simp only [List.length_cons, List.length_nil, Nat.zero_add]
  omega
  with_reducible refine And.intro ?_ ?_
  omega
  with_reducible refine And.intro ?_ ?_
  omega
  simp only [List.set_cons_zero]
  with_reducible exact hQ hQc0 hQr hQc1 _ (hw _ _) outN.mk
set_option maxHeartbeats 4000000 in
theorem fL_around {a0 a1 a2 : Int32} (hL : LW g w x nA cA lA y nM o kn km th s s2) (hX : ¬ okC a0 → Q (.inl (some (.int 1))) w) (hW : okC a0 → ¬ okW a1 3 → Q (.inl (some (.int 2))) w) (hS : okC a0 → okW a1 3 → s.2.1 a0.toNatClampNeg = none → Q (.inl (some (.int 3))) w) (hQ : okC a0 → okW a1 3 → ∀ r, s.2.1 a0.toNatClampNeg = some r → ∀ w', LW g w' x nA cA lA y nM o kn km th s s2 → outN w' o ((nV r (eV r a1) a2).toInt64) → Q (.inl (some (.int 0))) w') : WP (ML_around g) Q (0, [some (.ref x), some (.int a0), some (.int a1), some (.int a2), some (.ref o), none], [], w, 0, 0) := by
  have ho := hL.2.1
  simp only [eL_around_0, wt_nil, wt_ref, Nat.zero_add, Nat.add_zero]
  with_reducible refine And.intro ?_ ?_
  with_reducible refine LW.gx hL (fun _ => trivial)
  with_reducible refine And.intro ?_ ?_
  omega
  with_reducible refine And.intro ?_ ?_
  omega
  with_reducible refine And.intro ?_ ?_
  omega
  with_reducible refine fX1_around hL.cs (fun hXc0 => ?_) (fun hWc0 hWc1 => ?_) (fun hSc0 hSc1 hSc2 => ?_) (fun hQc0 hQc1 hQr hQc2 => ?_)
  simp only [kx_r]
  ((with_reducible refine isHgo ?_); refine hgo_h (HH := [(0, 13, 16, 19), (0, 13, 20, 28), (0, 13, 24, 74)]) (NN := [(19, "java/lang/IndexOutOfBoundsException"), (28, "java/lang/IllegalArgumentException"), (74, "java/lang/IllegalStateException")]) (h := 16) (E := "java/lang/IndexOutOfBoundsException") rfl rfl (by decide +kernel) (by decide) (fun _ => ?_))
  simp only [eL_around_16, nl_ref]
  with_reducible refine And.intro ?_ ?_
  omega
  with_reducible refine And.intro ?_ ?_
  omega
  with_reducible exact hX hXc0
  simp only [kx_r]
  ((with_reducible refine isHgo ?_); refine hgo_h (HH := [(0, 13, 16, 19), (0, 13, 20, 28), (0, 13, 24, 74)]) (NN := [(19, "java/lang/IndexOutOfBoundsException"), (28, "java/lang/IllegalArgumentException"), (74, "java/lang/IllegalStateException")]) (h := 20) (E := "java/lang/IllegalArgumentException") rfl rfl (by decide +kernel) (by decide) (fun _ => ?_))
  simp only [eL_around_20, nl_ref]
  with_reducible refine And.intro ?_ ?_
  omega
  with_reducible refine And.intro ?_ ?_
  omega
  with_reducible exact hW hWc0 hWc1
  simp only [kx_r]
  ((with_reducible refine isHgo ?_); refine hgo_h (HH := [(0, 13, 16, 19), (0, 13, 20, 28), (0, 13, 24, 74)]) (NN := [(19, "java/lang/IndexOutOfBoundsException"), (28, "java/lang/IllegalArgumentException"), (74, "java/lang/IllegalStateException")]) (h := 24) (E := "java/lang/IllegalStateException") rfl rfl (by decide +kernel) (by decide) (fun _ => ?_))
  simp only [eL_around_24, nl_ref]
  with_reducible refine And.intro ?_ ?_
  omega
  with_reducible refine And.intro ?_ ?_
  omega
  with_reducible exact hS hSc0 hSc1 hSc2
  simp only [eL_around_9, eL_around_13, kx_l, tl_s, nf_l, true_and]
  with_reducible refine go_OF hL (fun _ _ hw => ?_)
  with_reducible refine And.intro ?_ ?_
  simp only [List.length_cons, List.length_nil, Nat.zero_add]
  omega
  with_reducible refine And.intro ?_ ?_
  omega
  with_reducible refine And.intro ?_ ?_
  omega
  simp only [List.set_cons_zero]
  with_reducible exact hQ hQc0 hQc1 hQr hQc2 _ (hw _ _) outN.mk
set_option maxHeartbeats 4000000 in
theorem gL_count {a0 a1 a2 : Int32} (hR : RG g) (hL : LW g w x nA cA lA y nM o kn km th s s2) (hQ : ∀ (v : Int32) (w' : Hw), LW g w' x nA cA lA y nM o kn km th s s2 → Q (.inl (some (.int v))) w') : WP (ML_count g) Q (0, [some (.ref x), some (.int a0), some (.int a1), some (.int a2), some (.ref o), none], [], w, 0, 0) := by
  simp only [eL_count_0, wt_nil, wt_ref, Nat.zero_add, Nat.add_zero]
  with_reducible refine And.intro ?_ ?_
  with_reducible refine LW.gx hL (fun _ => trivial)
  with_reducible refine And.intro ?_ ?_
  omega
  with_reducible refine And.intro ?_ ?_
  omega
  with_reducible refine And.intro ?_ ?_
  omega
  with_reducible refine sX1_count hL.cc ?_ ?_ ?_ (fun _ => ?_)
  simp only [kx_r]
  ((with_reducible refine isHgo ?_); refine hgo_h (HH := [(0, 13, 16, 19), (0, 13, 20, 28), (0, 13, 24, 74)]) (NN := [(19, "java/lang/IndexOutOfBoundsException"), (28, "java/lang/IllegalArgumentException"), (74, "java/lang/IllegalStateException")]) (h := 16) (E := "java/lang/IndexOutOfBoundsException") rfl rfl (by decide +kernel) (by decide) (fun _ => ?_))
  simp only [eL_count_16, nl_ref]
  with_reducible refine And.intro ?_ ?_
  omega
  with_reducible refine And.intro ?_ ?_
  omega
  with_reducible exact hQ _ _ hL
  simp only [kx_r]
  ((with_reducible refine isHgo ?_); refine hgo_h (HH := [(0, 13, 16, 19), (0, 13, 20, 28), (0, 13, 24, 74)]) (NN := [(19, "java/lang/IndexOutOfBoundsException"), (28, "java/lang/IllegalArgumentException"), (74, "java/lang/IllegalStateException")]) (h := 20) (E := "java/lang/IllegalArgumentException") rfl rfl (by decide +kernel) (by decide) (fun _ => ?_))
  simp only [eL_count_20, nl_ref]
  with_reducible refine And.intro ?_ ?_
  omega
  with_reducible refine And.intro ?_ ?_
  omega
  with_reducible exact hQ _ _ hL
  simp only [kx_r]
  ((with_reducible refine isHgo ?_); refine hgo_h (HH := [(0, 13, 16, 19), (0, 13, 20, 28), (0, 13, 24, 74)]) (NN := [(19, "java/lang/IndexOutOfBoundsException"), (28, "java/lang/IllegalArgumentException"), (74, "java/lang/IllegalStateException")]) (h := 24) (E := "java/lang/IllegalStateException") rfl rfl (by decide +kernel) (by decide) (fun _ => ?_))
  simp only [eL_count_24, nl_ref]
  with_reducible refine And.intro ?_ ?_
  omega
  with_reducible refine And.intro ?_ ?_
  omega
  with_reducible exact hQ _ _ hL
  simp only [eL_count_9, eL_count_13, kx_l, tl_s, nf_l, true_and]
  with_reducible refine go_OF (by first | assumption | exact hL | exact hL.ext (by assumption)) (fun _ _ hw => ?_)
  with_reducible refine And.intro ?_ ?_
  simp only [List.length_cons, List.length_nil, Nat.zero_add]
  omega
  with_reducible refine And.intro ?_ ?_
  omega
  with_reducible refine And.intro ?_ ?_
  omega
  simp only [List.set_cons_zero]
  with_reducible exact hQ _ _ (hw _ _)
set_option maxHeartbeats 4000000 in
theorem gL_who {a0 a1 : Int32} (hR : RG g) (hL : LW g w x nA cA lA y nM o kn km th s s2) (hQ : ∀ (v : Int32) (w' : Hw), LW g w' x nA cA lA y nM o kn km th s s2 → Q (.inl (some (.int v))) w') : WP (ML_who g) Q (0, [some (.ref x), some (.int a0), some (.int a1), some (.ref o), none], [], w, 0, 0) := by
  simp only [eL_who_0, wt_nil, wt_ref, Nat.zero_add, Nat.add_zero]
  with_reducible refine And.intro ?_ ?_
  with_reducible refine LW.gx hL (fun _ => trivial)
  with_reducible refine And.intro ?_ ?_
  omega
  with_reducible refine And.intro ?_ ?_
  omega
  with_reducible refine And.intro ?_ ?_
  omega
  with_reducible refine sX1_who hL.cc ?_ ?_ (fun _ => ?_)
  simp only [kx_r]
  ((with_reducible refine isHgo ?_); refine hgo_h (HH := [(0, 11, 14, 19), (0, 11, 18, 28)]) (NN := [(19, "java/lang/IndexOutOfBoundsException"), (28, "java/lang/IllegalArgumentException")]) (h := 14) (E := "java/lang/IndexOutOfBoundsException") rfl rfl (by decide +kernel) (by decide) (fun _ => ?_))
  simp only [eL_who_14, nl_ref]
  with_reducible refine And.intro ?_ ?_
  omega
  with_reducible refine And.intro ?_ ?_
  omega
  with_reducible exact hQ _ _ hL
  simp only [kx_r]
  ((with_reducible refine isHgo ?_); refine hgo_h (HH := [(0, 11, 14, 19), (0, 11, 18, 28)]) (NN := [(19, "java/lang/IndexOutOfBoundsException"), (28, "java/lang/IllegalArgumentException")]) (h := 18) (E := "java/lang/IllegalArgumentException") rfl rfl (by decide +kernel) (by decide) (fun _ => ?_))
  simp only [eL_who_18, nl_ref]
  with_reducible refine And.intro ?_ ?_
  omega
  with_reducible refine And.intro ?_ ?_
  omega
  with_reducible exact hQ _ _ hL
  simp only [eL_who_7, eL_who_11, kx_l, tl_s, nf_l, true_and]
  with_reducible refine go_OF (by first | assumption | exact hL | exact hL.ext (by assumption)) (fun _ _ hw => ?_)
  with_reducible refine And.intro ?_ ?_
  simp only [List.length_cons, List.length_nil, Nat.zero_add]
  omega
  with_reducible refine And.intro ?_ ?_
  omega
  with_reducible refine And.intro ?_ ?_
  omega
  simp only [List.set_cons_zero]
  with_reducible exact hQ _ _ (hw _ _)
end
end
/-! 78.lw4.lean.txt -/
section
section
variable {g : RO} {Q : Ot → Hw → Prop} {w : Hw} {x nA cA lA y nM o : Nat} {kn km th : Int32} {s s2 : AS}
set_option maxHeartbeats 4000000 in
theorem gL_which {a0 : Int32} (hR : RG g) (hL : LW g w x nA cA lA y nM o kn km th s s2) (hQ : ∀ (v : Int32) (w' : Hw), LW g w' x nA cA lA y nM o kn km th s s2 → Q (.inl (some (.int v))) w') : WP (ML_which g) Q (0, [some (.ref x), some (.int a0), some (.ref o), none], [], w, 0, 0) := by
  simp only [eL_which_0, wt_nil, wt_ref, Nat.zero_add, Nat.add_zero]
  with_reducible refine And.intro ?_ ?_
  with_reducible refine LW.gx hL (fun _ => trivial)
  with_reducible refine And.intro ?_ ?_
  omega
  with_reducible refine And.intro ?_ ?_
  omega
  with_reducible refine And.intro ?_ ?_
  omega
  with_reducible refine sX1_which hL.cc ?_ (fun _ => ?_)
  simp only [kx_r]
  ((with_reducible refine isHgo ?_); refine hgo_h (HH := [(0, 10, 13, 28)]) (NN := [(28, "java/lang/IllegalArgumentException")]) (h := 13) (E := "java/lang/IllegalArgumentException") rfl rfl (by decide +kernel) (by decide) (fun _ => ?_))
  simp only [eL_which_13, nl_ref]
  with_reducible refine And.intro ?_ ?_
  omega
  with_reducible refine And.intro ?_ ?_
  omega
  with_reducible exact hQ _ _ hL
  simp only [eL_which_6, eL_which_10, kx_l, tl_s, nf_l, true_and]
  with_reducible refine go_OF (by first | assumption | exact hL | exact hL.ext (by assumption)) (fun _ _ hw => ?_)
  with_reducible refine And.intro ?_ ?_
  simp only [List.length_cons, List.length_nil, Nat.zero_add]
  omega
  with_reducible refine And.intro ?_ ?_
  omega
  with_reducible refine And.intro ?_ ?_
  omega
  simp only [List.set_cons_zero]
  with_reducible exact hQ _ _ (hw _ _)
set_option maxHeartbeats 4000000 in
theorem fL_areSame {a0 a1 : Int32} (hL : LW g w x nA cA lA y nM o kn km th s s2) (hX : ¬ (okC a0 ∧ okC a1) → Q (.inl (some (.int 1))) w) (hS : okC a0 → okC a1 → (s.2.1 a0.toNatClampNeg = none ∨ s.2.1 a1.toNatClampNeg = none) → Q (.inl (some (.int 2))) w) (hT : okC a0 → okC a1 → ∀ r q, s.2.1 a0.toNatClampNeg = some r → s.2.1 a1.toNatClampNeg = some q → mP r q → ∀ w', LW g w' x nA cA lA y nM o kn km th s s2 → outN w' o (1) → Q (.inl (some (.int 0))) w') (hF : okC a0 → okC a1 → ∀ r q, s.2.1 a0.toNatClampNeg = some r → s.2.1 a1.toNatClampNeg = some q → ¬ mP r q → ∀ w', LW g w' x nA cA lA y nM o kn km th s s2 → outN w' o (0) → Q (.inl (some (.int 0))) w') : WP (ML_areSame g) Q (0, [some (.ref x), some (.int a0), some (.int a1), some (.ref o), none], [], w, 0, 0) := by
  have ho := hL.2.1
  simp only [eL_areSame_0, wt_nil, wt_ref, Nat.zero_add, Nat.add_zero]
  with_reducible refine And.intro ?_ ?_
  with_reducible refine LW.gx hL (fun _ => trivial)
  with_reducible refine And.intro ?_ ?_
  omega
  with_reducible refine And.intro ?_ ?_
  omega
  with_reducible refine And.intro ?_ ?_
  omega
  with_reducible refine fX1_areSame hL.cs (fun hXc0 => ?_) (fun hSc0 hSc1 hSc2 => ?_) (fun hTc0 hTc1 hTr hTq hTc2 hTc3 hTc4 => ?_) (fun hFc0 hFc1 hFr hFq hFc2 hFc3 hFc4 => ?_)
  simp only [kx_r]
  ((with_reducible refine isHgo ?_); refine hgo_h (HH := [(0, 18, 21, 19), (0, 18, 25, 74)]) (NN := [(19, "java/lang/IndexOutOfBoundsException"), (74, "java/lang/IllegalStateException")]) (h := 21) (E := "java/lang/IndexOutOfBoundsException") rfl rfl (by decide +kernel) (by decide) (fun _ => ?_))
  simp only [eL_areSame_21, nl_ref]
  with_reducible refine And.intro ?_ ?_
  omega
  with_reducible refine And.intro ?_ ?_
  omega
  with_reducible exact hX hXc0
  simp only [kx_r]
  ((with_reducible refine isHgo ?_); refine hgo_h (HH := [(0, 18, 21, 19), (0, 18, 25, 74)]) (NN := [(19, "java/lang/IndexOutOfBoundsException"), (74, "java/lang/IllegalStateException")]) (h := 25) (E := "java/lang/IllegalStateException") rfl rfl (by decide +kernel) (by decide) (fun _ => ?_))
  simp only [eL_areSame_25, nl_ref]
  with_reducible refine And.intro ?_ ?_
  omega
  with_reducible refine And.intro ?_ ?_
  omega
  with_reducible exact hS hSc0 hSc1 hSc2
  simp only [eL_areSame_7, eL_areSame_10, eL_areSame_14, eL_areSame_15, eL_areSame_18, i10, kx_l, tl_s, nf_l, true_and, if_false]
  with_reducible refine go_OF hL (fun _ _ hw => ?_)
  with_reducible refine And.intro ?_ ?_
  simp only [List.length_cons, List.length_nil, Nat.zero_add]
  omega
  with_reducible refine And.intro ?_ ?_
  omega
  with_reducible refine And.intro ?_ ?_
  omega
  simp only [List.set_cons_zero]
  with_reducible exact hT hTc0 hTc1 hTr hTq hTc2 hTc3 hTc4 _ (hw _ _) outN.mk
  simp only [eL_areSame_7, eL_areSame_10, eL_areSame_14, eL_areSame_15, eL_areSame_18, kx_l, tl_s, nf_l, true_and, if_true]
  with_reducible refine go_OF hL (fun _ _ hw => ?_)
  with_reducible refine And.intro ?_ ?_
  simp only [List.length_cons, List.length_nil, Nat.zero_add]
  omega
  with_reducible refine And.intro ?_ ?_
  omega
  with_reducible refine And.intro ?_ ?_
  omega
  simp only [List.set_cons_zero]
  with_reducible exact hF hFc0 hFc1 hFr hFq hFc2 hFc3 hFc4 _ (hw _ _) outN.mk
set_option maxHeartbeats 4000000 in
theorem gL_isSameAs {a0 a1 : Int32} (hR : RG g) (hL : LW g w x nA cA lA y nM o kn km th s s2) (hQ : ∀ (v : Int32) (w' : Hw), LW g w' x nA cA lA y nM o kn km th s s2 → Q (.inl (some (.int v))) w') : WP (ML_isSameAs g) Q (0, [some (.ref x), some (.int a0), some (.int a1), some (.ref o), none], [], w, 0, 0) := by
  simp only [eL_isSameAs_0, wt_nil, wt_ref, Nat.zero_add, Nat.add_zero]
  with_reducible refine And.intro ?_ ?_
  with_reducible refine LW.gx hL (fun _ => trivial)
  with_reducible refine And.intro ?_ ?_
  omega
  with_reducible refine And.intro ?_ ?_
  omega
  with_reducible refine And.intro ?_ ?_
  omega
  with_reducible refine sX1_isSameAs hL.cc ?_ ?_ ?_ (fun _ _ _ => ?_)
  simp only [kx_r]
  ((with_reducible refine isHgo ?_); refine hgo_h (HH := [(0, 18, 21, 19), (0, 18, 25, 28), (0, 18, 29, 74)]) (NN := [(19, "java/lang/IndexOutOfBoundsException"), (28, "java/lang/IllegalArgumentException"), (74, "java/lang/IllegalStateException")]) (h := 21) (E := "java/lang/IndexOutOfBoundsException") rfl rfl (by decide +kernel) (by decide) (fun _ => ?_))
  simp only [eL_isSameAs_21, nl_ref]
  with_reducible refine And.intro ?_ ?_
  omega
  with_reducible refine And.intro ?_ ?_
  omega
  with_reducible exact hQ _ _ hL
  simp only [kx_r]
  ((with_reducible refine isHgo ?_); refine hgo_h (HH := [(0, 18, 21, 19), (0, 18, 25, 28), (0, 18, 29, 74)]) (NN := [(19, "java/lang/IndexOutOfBoundsException"), (28, "java/lang/IllegalArgumentException"), (74, "java/lang/IllegalStateException")]) (h := 25) (E := "java/lang/IllegalArgumentException") rfl rfl (by decide +kernel) (by decide) (fun _ => ?_))
  simp only [eL_isSameAs_25, nl_ref]
  with_reducible refine And.intro ?_ ?_
  omega
  with_reducible refine And.intro ?_ ?_
  omega
  with_reducible exact hQ _ _ hL
  simp only [kx_r]
  ((with_reducible refine isHgo ?_); refine hgo_h (HH := [(0, 18, 21, 19), (0, 18, 25, 28), (0, 18, 29, 74)]) (NN := [(19, "java/lang/IndexOutOfBoundsException"), (28, "java/lang/IllegalArgumentException"), (74, "java/lang/IllegalStateException")]) (h := 29) (E := "java/lang/IllegalStateException") rfl rfl (by decide +kernel) (by decide) (fun _ => ?_))
  simp only [eL_isSameAs_29, nl_ref]
  with_reducible refine And.intro ?_ ?_
  omega
  with_reducible refine And.intro ?_ ?_
  omega
  with_reducible exact hQ _ _ hL
  simp only [eL_isSameAs_7, eL_isSameAs_10, eL_isSameAs_14, eL_isSameAs_15, eL_isSameAs_18, kx_l, tl_s, nf_l, true_and]
  split
  with_reducible refine go_OF (by first | assumption | exact hL | exact hL.ext (by assumption)) (fun _ _ hw => ?_)
  with_reducible refine And.intro ?_ ?_
  simp only [List.length_cons, List.length_nil, Nat.zero_add]
  omega
  with_reducible refine And.intro ?_ ?_
  omega
  with_reducible refine And.intro ?_ ?_
  omega
  simp only [List.set_cons_zero]
  with_reducible exact hQ _ _ (hw _ _)
  with_reducible refine go_OF (by first | assumption | exact hL | exact hL.ext (by assumption)) (fun _ _ hw => ?_)
  with_reducible refine And.intro ?_ ?_
  simp only [List.length_cons, List.length_nil, Nat.zero_add]
  omega
  with_reducible refine And.intro ?_ ?_
  omega
  with_reducible refine And.intro ?_ ?_
  omega
  simp only [List.set_cons_zero]
  with_reducible exact hQ _ _ (hw _ _)
set_option maxHeartbeats 4000000 in
theorem gL_likes {a0 : Int32} (hR : RG g) (hL : LW g w x nA cA lA y nM o kn km th s s2) (hQ : ∀ (v : Int32) (w' : Hw), LW g w' x nA cA lA y nM o kn km th s s2 → Q (.inl (some (.int v))) w') : WP (ML_likes g) Q (0, [some (.ref x), some (.int a0), some (.ref o), none], [], w, 0, 0) := by
  simp only [eL_likes_0, wt_nil, wt_ref, Nat.zero_add, Nat.add_zero]
  with_reducible refine And.intro ?_ ?_
  with_reducible refine LW.gx hL (fun _ => trivial)
  with_reducible refine And.intro ?_ ?_
  omega
  with_reducible refine And.intro ?_ ?_
  omega
  with_reducible refine And.intro ?_ ?_
  omega
  with_reducible refine sX1_likes hL.cc ?_ ?_ (fun _ => ?_)
  simp only [kx_r]
  ((with_reducible refine isHgo ?_); refine hgo_h (HH := [(0, 10, 13, 19), (0, 10, 16, 74)]) (NN := [(19, "java/lang/IndexOutOfBoundsException"), (74, "java/lang/IllegalStateException")]) (h := 13) (E := "java/lang/IndexOutOfBoundsException") rfl rfl (by decide +kernel) (by decide) (fun _ => ?_))
  simp only [eL_likes_13, nl_ref]
  with_reducible refine And.intro ?_ ?_
  omega
  with_reducible refine And.intro ?_ ?_
  omega
  with_reducible exact hQ _ _ hL
  simp only [kx_r]
  ((with_reducible refine isHgo ?_); refine hgo_h (HH := [(0, 10, 13, 19), (0, 10, 16, 74)]) (NN := [(19, "java/lang/IndexOutOfBoundsException"), (74, "java/lang/IllegalStateException")]) (h := 16) (E := "java/lang/IllegalStateException") rfl rfl (by decide +kernel) (by decide) (fun _ => ?_))
  simp only [eL_likes_16, nl_ref]
  with_reducible refine And.intro ?_ ?_
  omega
  with_reducible refine And.intro ?_ ?_
  omega
  with_reducible exact hQ _ _ hL
  simp only [eL_likes_6, eL_likes_10, kx_l, tl_s, nf_l, true_and]
  with_reducible refine go_OF (by first | assumption | exact hL | exact hL.ext (by assumption)) (fun _ _ hw => ?_)
  with_reducible refine And.intro ?_ ?_
  simp only [List.length_cons, List.length_nil, Nat.zero_add]
  omega
  with_reducible refine And.intro ?_ ?_
  omega
  with_reducible refine And.intro ?_ ?_
  omega
  simp only [List.set_cons_zero]
  with_reducible exact hQ _ _ (hw _ _)
set_option maxHeartbeats 4000000 in
theorem fL_lay {a0 : Int32} (hL : LW g w x nA cA lA y nM o kn km th s s2) (hX : ¬ okC a0 → Q (.inl (some (.int 1))) w) (hS : okC a0 → s.2.1 a0.toNatClampNeg = none → Q (.inl (some (.int 2))) w) (hF : okC a0 → ∀ r, s.2.1 a0.toNatClampNeg = some r → ¬ s.2.2.1 < 12 → ∀ w', LW g w' x nA cA lA y nM o kn km th (sRf s) s2 → outN w' o ((-9 : Int32).toInt64) → Q (.inl (some (.int 0))) w') (hQ : okC a0 → ∀ r, s.2.1 a0.toNatClampNeg = some r → s.2.2.1 < 12 → ∀ w', LW g w' x nA cA lA y nM o kn km th (sP_ s (s.2.2.1 + 1) (va_up s.2.2.2.1 s.2.2.1.toNatClampNeg r)) s2 → outN w' o ((s.2.2.1 + 1).toInt64) → Q (.inl (some (.int 0))) w') : WP (ML_lay g) Q (0, [some (.ref x), some (.int a0), some (.ref o), none], [], w, 0, 0) := by
  have ho := hL.2.1
  simp only [eL_lay_0, wt_nil, wt_ref, Nat.zero_add, Nat.add_zero]
  with_reducible refine And.intro ?_ ?_
  with_reducible refine LW.gx hL (fun _ => trivial)
  with_reducible refine And.intro ?_ ?_
  omega
  with_reducible refine And.intro ?_ ?_
  omega
  with_reducible refine And.intro ?_ ?_
  omega
  with_reducible refine fX1_lay hL.cs (fun hXc0 => ?_) (fun hSc0 hSc1 => ?_) (fun hFc0 hFr hFc1 hFc2 hFw hFh => ?_) (fun hQc0 hQr hQc1 hQc2 hQw hQh => ?_)
  simp only [kx_r]
  ((with_reducible refine isHgo ?_); refine hgo_h (HH := [(0, 10, 13, 19), (0, 10, 16, 74)]) (NN := [(19, "java/lang/IndexOutOfBoundsException"), (74, "java/lang/IllegalStateException")]) (h := 13) (E := "java/lang/IndexOutOfBoundsException") rfl rfl (by decide +kernel) (by decide) (fun _ => ?_))
  simp only [eL_lay_13, nl_ref]
  with_reducible refine And.intro ?_ ?_
  omega
  with_reducible refine And.intro ?_ ?_
  omega
  with_reducible exact hX hXc0
  simp only [kx_r]
  ((with_reducible refine isHgo ?_); refine hgo_h (HH := [(0, 10, 13, 19), (0, 10, 16, 74)]) (NN := [(19, "java/lang/IndexOutOfBoundsException"), (74, "java/lang/IllegalStateException")]) (h := 16) (E := "java/lang/IllegalStateException") rfl rfl (by decide +kernel) (by decide) (fun _ => ?_))
  simp only [eL_lay_16, nl_ref]
  with_reducible refine And.intro ?_ ?_
  omega
  with_reducible refine And.intro ?_ ?_
  omega
  with_reducible exact hS hSc0 hSc1
  simp only [eL_lay_6, eL_lay_10, kx_l, tl_s, nf_l, true_and]
  with_reducible refine go_OF (LW.of hL hFh (by first | with_reducible exact ho | with_reducible exact ho.num | with_reducible exact ho.rf | with_reducible exact ho.mk (by assumption) | with_reducible exact ho.mk (ho.c' (by assumption) (by assumption)) | with_reducible exact ho.mkO (by assumption) (by assumption) | with_reducible exact ho.card0 | with_reducible exact ho.card (ho.c' (by assumption) (by assumption)) | with_reducible exact ho.card (ho.p' (by assumption)) | with_reducible exact ho.lay (ho.c' (by assumption) (by assumption)) (by assumption) | with_reducible exact ho.gap (by assumption) | with_reducible exact ho.tur | with_reducible exact ho.zero)) (fun _ _ hw => ?_)
  with_reducible refine And.intro ?_ ?_
  simp only [List.length_cons, List.length_nil, Nat.zero_add]
  omega
  with_reducible refine And.intro ?_ ?_
  omega
  with_reducible refine And.intro ?_ ?_
  omega
  simp only [List.set_cons_zero]
  with_reducible exact hF hFc0 hFr hFc1 hFc2 _ (hw _ _) outN.mk
  simp only [eL_lay_6, eL_lay_10, kx_l, tl_s, nf_l, true_and]
  with_reducible refine go_OF (LW.of hL hQh (by first | with_reducible exact ho | with_reducible exact ho.num | with_reducible exact ho.rf | with_reducible exact ho.mk (by assumption) | with_reducible exact ho.mk (ho.c' (by assumption) (by assumption)) | with_reducible exact ho.mkO (by assumption) (by assumption) | with_reducible exact ho.card0 | with_reducible exact ho.card (ho.c' (by assumption) (by assumption)) | with_reducible exact ho.card (ho.p' (by assumption)) | with_reducible exact ho.lay (ho.c' (by assumption) (by assumption)) (by assumption) | with_reducible exact ho.gap (by assumption) | with_reducible exact ho.tur | with_reducible exact ho.zero)) (fun _ _ hw => ?_)
  with_reducible refine And.intro ?_ ?_
  simp only [List.length_cons, List.length_nil, Nat.zero_add]
  omega
  with_reducible refine And.intro ?_ ?_
  omega
  with_reducible refine And.intro ?_ ?_
  omega
  simp only [List.set_cons_zero]
  with_reducible exact hQ hQc0 hQr hQc1 hQc2 _ (hw _ _) outN.mk
set_option maxHeartbeats 4000000 in
theorem fL_seek {a0 a1 : Int32} (hL : LW g w x nA cA lA y nM o kn km th s s2) (hX : ¬ okC a0 → Q (.inl (some (.int 1))) w) (hS : okC a0 → s.2.1 a0.toNatClampNeg = none → Q (.inl (some (.int 2))) w) (hN : okC a0 → ∀ r, s.2.1 a0.toNatClampNeg = some r → (∀ i, i < s.2.2.1.toInt.toNat → ¬ mP r (s.2.2.2.1 i)) → ∀ w', LW g w' x nA cA lA y nM o kn km th s s2 → outN w' o ((-1 : Int32).toInt64) → Q (.inl (some (.int 0))) w') (hF : a1 = 0 → okC a0 → ∀ r, s.2.1 a0.toNatClampNeg = some r → ∀ i, i < s.2.2.1.toInt.toNat → mP r (s.2.2.2.1 i) → (∀ k, k < i → ¬ mP r (s.2.2.2.1 k)) → ∀ w', LW g w' x nA cA lA y nM o kn km th s s2 → outN w' o ((Int32.ofNat i).toInt64) → Q (.inl (some (.int 0))) w') (hLL : ¬ a1 = 0 → okC a0 → ∀ r, s.2.1 a0.toNatClampNeg = some r → ∀ i, i < s.2.2.1.toInt.toNat → mP r (s.2.2.2.1 i) → (∀ k, i + 1 ≤ k → k < s.2.2.1.toInt.toNat → ¬ mP r (s.2.2.2.1 k)) → ∀ w', LW g w' x nA cA lA y nM o kn km th s s2 → outN w' o ((Int32.ofNat i).toInt64) → Q (.inl (some (.int 0))) w') : WP (ML_seek g) Q (0, [some (.ref x), some (.int a0), some (.int a1), some (.ref o), none], [], w, 0, 0) := by
  have ho := hL.2.1
  simp only [eL_seek_0, wt_nil, wt_ref, Nat.zero_add, Nat.add_zero]
  with_reducible refine And.intro ?_ ?_
  with_reducible refine LW.gx hL (fun _ => trivial)
  with_reducible refine And.intro ?_ ?_
  omega
  with_reducible refine And.intro ?_ ?_
  omega
  with_reducible refine And.intro ?_ ?_
  omega
  with_reducible refine fX1_seek hL.cs (fun hXc0 => ?_) (fun hSc0 hSc1 => ?_) (fun hNc0 hNr hNc1 hNc2 => ?_) (fun hFc0 hFc1 hFr hFc2 hFi hFc3 hFc4 hFc5 => ?_) (fun hLLc0 hLLc1 hLLr hLLc2 hLLi hLLc3 hLLc4 hLLc5 => ?_)
  simp only [kx_r]
  ((with_reducible refine isHgo ?_); refine hgo_h (HH := [(0, 11, 14, 19), (0, 11, 18, 74)]) (NN := [(19, "java/lang/IndexOutOfBoundsException"), (74, "java/lang/IllegalStateException")]) (h := 14) (E := "java/lang/IndexOutOfBoundsException") rfl rfl (by decide +kernel) (by decide) (fun _ => ?_))
  simp only [eL_seek_14, nl_ref]
  with_reducible refine And.intro ?_ ?_
  omega
  with_reducible refine And.intro ?_ ?_
  omega
  with_reducible exact hX hXc0
  simp only [kx_r]
  ((with_reducible refine isHgo ?_); refine hgo_h (HH := [(0, 11, 14, 19), (0, 11, 18, 74)]) (NN := [(19, "java/lang/IndexOutOfBoundsException"), (74, "java/lang/IllegalStateException")]) (h := 18) (E := "java/lang/IllegalStateException") rfl rfl (by decide +kernel) (by decide) (fun _ => ?_))
  simp only [eL_seek_18, nl_ref]
  with_reducible refine And.intro ?_ ?_
  omega
  with_reducible refine And.intro ?_ ?_
  omega
  with_reducible exact hS hSc0 hSc1
  simp only [eL_seek_7, eL_seek_11, kx_l, tl_s, nf_l, true_and]
  with_reducible refine go_OF hL (fun _ _ hw => ?_)
  with_reducible refine And.intro ?_ ?_
  simp only [List.length_cons, List.length_nil, Nat.zero_add]
  omega
  with_reducible refine And.intro ?_ ?_
  omega
  with_reducible refine And.intro ?_ ?_
  omega
  simp only [List.set_cons_zero]
  with_reducible exact hN hNc0 hNr hNc1 hNc2 _ (hw _ _) outN.mk
  simp only [eL_seek_7, eL_seek_11, kx_l, tl_s, nf_l, true_and]
  with_reducible refine go_OF hL (fun _ _ hw => ?_)
  with_reducible refine And.intro ?_ ?_
  simp only [List.length_cons, List.length_nil, Nat.zero_add]
  omega
  with_reducible refine And.intro ?_ ?_
  omega
  with_reducible refine And.intro ?_ ?_
  omega
  simp only [List.set_cons_zero]
  with_reducible exact hF hFc0 hFc1 hFr hFc2 hFi hFc3 hFc4 hFc5 _ (hw _ _) outN.mk
  simp only [eL_seek_7, eL_seek_11, kx_l, tl_s, nf_l, true_and]
  with_reducible refine go_OF hL (fun _ _ hw => ?_)
  with_reducible refine And.intro ?_ ?_
  simp only [List.length_cons, List.length_nil, Nat.zero_add]
  omega
  with_reducible refine And.intro ?_ ?_
  omega
  with_reducible refine And.intro ?_ ?_
  omega
  simp only [List.set_cons_zero]
  with_reducible exact hLL hLLc0 hLLc1 hLLr hLLc2 hLLi hLLc3 hLLc4 hLLc5 _ (hw _ _) outN.mk
set_option maxHeartbeats 4000000 in
theorem fL_howOften {a0 : Int32} (hL : LW g w x nA cA lA y nM o kn km th s s2) (hX : ¬ okC a0 → Q (.inl (some (.int 1))) w) (hS : okC a0 → s.2.1 a0.toNatClampNeg = none → Q (.inl (some (.int 2))) w) (hQ : okC a0 → ∀ r, s.2.1 a0.toNatClampNeg = some r → ∀ w', LW g w' x nA cA lA y nM o kn km th s s2 → outN w' o ((fsum (fun j => bI (decide (mP r (s.2.2.2.1 j)))) s.2.2.1.toInt.toNat).toInt64) → Q (.inl (some (.int 0))) w') : WP (ML_howOften g) Q (0, [some (.ref x), some (.int a0), some (.ref o), none], [], w, 0, 0) := by
  have ho := hL.2.1
  simp only [eL_howOften_0, wt_nil, wt_ref, Nat.zero_add, Nat.add_zero]
  with_reducible refine And.intro ?_ ?_
  with_reducible refine LW.gx hL (fun _ => trivial)
  with_reducible refine And.intro ?_ ?_
  omega
  with_reducible refine And.intro ?_ ?_
  omega
  with_reducible refine And.intro ?_ ?_
  omega
  with_reducible refine fX1_howOften hL.cs (fun hXc0 => ?_) (fun hSc0 hSc1 => ?_) (fun hQc0 hQr hQc1 => ?_)
  simp only [kx_r]
  ((with_reducible refine isHgo ?_); refine hgo_h (HH := [(0, 10, 13, 19), (0, 10, 16, 74)]) (NN := [(19, "java/lang/IndexOutOfBoundsException"), (74, "java/lang/IllegalStateException")]) (h := 13) (E := "java/lang/IndexOutOfBoundsException") rfl rfl (by decide +kernel) (by decide) (fun _ => ?_))
  simp only [eL_howOften_13, nl_ref]
  with_reducible refine And.intro ?_ ?_
  omega
  with_reducible refine And.intro ?_ ?_
  omega
  with_reducible exact hX hXc0
  simp only [kx_r]
  ((with_reducible refine isHgo ?_); refine hgo_h (HH := [(0, 10, 13, 19), (0, 10, 16, 74)]) (NN := [(19, "java/lang/IndexOutOfBoundsException"), (74, "java/lang/IllegalStateException")]) (h := 16) (E := "java/lang/IllegalStateException") rfl rfl (by decide +kernel) (by decide) (fun _ => ?_))
  simp only [eL_howOften_16, nl_ref]
  with_reducible refine And.intro ?_ ?_
  omega
  with_reducible refine And.intro ?_ ?_
  omega
  with_reducible exact hS hSc0 hSc1
  simp only [eL_howOften_6, eL_howOften_10, kx_l, tl_s, nf_l, true_and]
  with_reducible refine go_OF hL (fun _ _ hw => ?_)
  with_reducible refine And.intro ?_ ?_
  simp only [List.length_cons, List.length_nil, Nat.zero_add]
  omega
  with_reducible refine And.intro ?_ ?_
  omega
  with_reducible refine And.intro ?_ ?_
  omega
  simp only [List.set_cons_zero]
  with_reducible exact hQ hQc0 hQr hQc1 _ (hw _ _) outN.mk
set_option maxHeartbeats 4000000 in
theorem fL_lift {a0 : Int32} (hL : LW g w x nA cA lA y nM o kn km th s s2) (hX : ¬ okC a0 → Q (.inl (some (.int 1))) w) (hS : okC a0 → s.2.1 a0.toNatClampNeg = none → Q (.inl (some (.int 2))) w) (hN : okC a0 → ∀ r, s.2.1 a0.toNatClampNeg = some r → (∀ i, i < s.2.2.1.toInt.toNat → ¬ mP r (s.2.2.2.1 i)) → ∀ w', LW g w' x nA cA lA y nM o kn km th s s2 → outN w' o ((0 : Int32).toInt64) → Q (.inl (some (.int 0))) w') (hQ : okC a0 → ∀ r, s.2.1 a0.toNatClampNeg = some r → ∀ i, i < s.2.2.1.toInt.toNat → mP r (s.2.2.2.1 i) → (∀ k, k < i → ¬ mP r (s.2.2.2.1 k)) → ∀ w', LW g w' x nA cA lA y nM o kn km th (sP_ s (s.2.2.1 - 1) (rmv s.2.2.2.1 i)) s2 → outN w' o ((1 : Int32).toInt64) → Q (.inl (some (.int 0))) w') : WP (ML_lift g) Q (0, [some (.ref x), some (.int a0), some (.ref o), none], [], w, 0, 0) := by
  have ho := hL.2.1
  simp only [eL_lift_0, wt_nil, wt_ref, Nat.zero_add, Nat.add_zero]
  with_reducible refine And.intro ?_ ?_
  with_reducible refine LW.gx hL (fun _ => trivial)
  with_reducible refine And.intro ?_ ?_
  omega
  with_reducible refine And.intro ?_ ?_
  omega
  with_reducible refine And.intro ?_ ?_
  omega
  with_reducible refine fX1_lift hL.cs (fun hXc0 => ?_) (fun hSc0 hSc1 => ?_) (fun hNc0 hNr hNc1 hNc2 => ?_) (fun hQc0 hQr hQc1 hQi hQc2 hQc3 hQc4 hQw hQh => ?_)
  simp only [kx_r]
  ((with_reducible refine isHgo ?_); refine hgo_h (HH := [(0, 10, 13, 19), (0, 10, 16, 74)]) (NN := [(19, "java/lang/IndexOutOfBoundsException"), (74, "java/lang/IllegalStateException")]) (h := 13) (E := "java/lang/IndexOutOfBoundsException") rfl rfl (by decide +kernel) (by decide) (fun _ => ?_))
  simp only [eL_lift_13, nl_ref]
  with_reducible refine And.intro ?_ ?_
  omega
  with_reducible refine And.intro ?_ ?_
  omega
  with_reducible exact hX hXc0
  simp only [kx_r]
  ((with_reducible refine isHgo ?_); refine hgo_h (HH := [(0, 10, 13, 19), (0, 10, 16, 74)]) (NN := [(19, "java/lang/IndexOutOfBoundsException"), (74, "java/lang/IllegalStateException")]) (h := 16) (E := "java/lang/IllegalStateException") rfl rfl (by decide +kernel) (by decide) (fun _ => ?_))
  simp only [eL_lift_16, nl_ref]
  with_reducible refine And.intro ?_ ?_
  omega
  with_reducible refine And.intro ?_ ?_
  omega
  with_reducible exact hS hSc0 hSc1
  simp only [eL_lift_6, eL_lift_10, kx_l, tl_s, nf_l, true_and]
  with_reducible refine go_OF hL (fun _ _ hw => ?_)
  with_reducible refine And.intro ?_ ?_
  simp only [List.length_cons, List.length_nil, Nat.zero_add]
  omega
  with_reducible refine And.intro ?_ ?_
  omega
  with_reducible refine And.intro ?_ ?_
  omega
  simp only [List.set_cons_zero]
  with_reducible exact hN hNc0 hNr hNc1 hNc2 _ (hw _ _) outN.mk
  simp only [eL_lift_6, eL_lift_10, kx_l, tl_s, nf_l, true_and]
  with_reducible refine go_OF (LW.of hL hQh (by first | with_reducible exact ho | with_reducible exact ho.num | with_reducible exact ho.rf | with_reducible exact ho.mk (by assumption) | with_reducible exact ho.mk (ho.c' (by assumption) (by assumption)) | with_reducible exact ho.mkO (by assumption) (by assumption) | with_reducible exact ho.card0 | with_reducible exact ho.card (ho.c' (by assumption) (by assumption)) | with_reducible exact ho.card (ho.p' (by assumption)) | with_reducible exact ho.lay (ho.c' (by assumption) (by assumption)) (by assumption) | with_reducible exact ho.gap (by assumption) | with_reducible exact ho.tur | with_reducible exact ho.zero)) (fun _ _ hw => ?_)
  with_reducible refine And.intro ?_ ?_
  simp only [List.length_cons, List.length_nil, Nat.zero_add]
  omega
  with_reducible refine And.intro ?_ ?_
  omega
  with_reducible refine And.intro ?_ ?_
  omega
  simp only [List.set_cons_zero]
  with_reducible exact hQ hQc0 hQr hQc1 hQi hQc2 hQc3 hQc4 _ (hw _ _) outN.mk
set_option maxHeartbeats 4000000 in
theorem fL_pick {a0 a1 : Int32} (hL : LW g w x nA cA lA y nM o kn km th s s2) (hX : ¬ (okP s.2.2.1 a0 ∧ okC a1) → Q (.inl (some (.int 1))) w) (hN : okP s.2.2.1 a0 → okC a1 → s.2.1 a1.toNatClampNeg = none → ∀ w', LW g w' x nA cA lA y nM o kn km th (sC s (va_up s.2.1 a1.toNatClampNeg (some (s.2.2.2.1 a0.toNatClampNeg)))) s2 → outN w' o ((0 : Int32).toInt64) → Q (.inl (some (.int 0))) w') (hS : okP s.2.2.1 a0 → okC a1 → ∀ r, s.2.1 a1.toNatClampNeg = some r → ∀ w', LW g w' x nA cA lA y nM o kn km th (sC s (va_up s.2.1 a1.toNatClampNeg (some (s.2.2.2.1 a0.toNatClampNeg)))) s2 → outN w' o ((1 : Int32).toInt64) → Q (.inl (some (.int 0))) w') : WP (ML_pick g) Q (0, [some (.ref x), some (.int a0), some (.int a1), some (.ref o), none], [], w, 0, 0) := by
  have ho := hL.2.1
  simp only [eL_pick_0, wt_nil, wt_ref, Nat.zero_add, Nat.add_zero]
  with_reducible refine And.intro ?_ ?_
  with_reducible refine LW.gx hL (fun _ => trivial)
  with_reducible refine And.intro ?_ ?_
  omega
  with_reducible refine And.intro ?_ ?_
  omega
  with_reducible refine And.intro ?_ ?_
  omega
  with_reducible refine fX1_pick hL.cs (fun hXc0 => ?_) (fun hNc0 hNc1 hNc2 hNw hNh => ?_) (fun hSc0 hSc1 hSr hSc2 hSw hSh => ?_)
  simp only [kx_r]
  ((with_reducible refine isHgo ?_); refine hgo_h (HH := [(0, 11, 14, 19)]) (NN := [(19, "java/lang/IndexOutOfBoundsException")]) (h := 14) (E := "java/lang/IndexOutOfBoundsException") rfl rfl (by decide +kernel) (by decide) (fun _ => ?_))
  simp only [eL_pick_14, nl_ref]
  with_reducible refine And.intro ?_ ?_
  omega
  with_reducible refine And.intro ?_ ?_
  omega
  with_reducible exact hX hXc0
  simp only [eL_pick_7, eL_pick_11, kx_l, tl_s, nf_l, true_and]
  with_reducible refine go_OF (LW.of hL hNh (by first | with_reducible exact ho | with_reducible exact ho.num | with_reducible exact ho.rf | with_reducible exact ho.mk (by assumption) | with_reducible exact ho.mk (ho.c' (by assumption) (by assumption)) | with_reducible exact ho.mkO (by assumption) (by assumption) | with_reducible exact ho.card0 | with_reducible exact ho.card (ho.c' (by assumption) (by assumption)) | with_reducible exact ho.card (ho.p' (by assumption)) | with_reducible exact ho.lay (ho.c' (by assumption) (by assumption)) (by assumption) | with_reducible exact ho.gap (by assumption) | with_reducible exact ho.tur | with_reducible exact ho.zero)) (fun _ _ hw => ?_)
  with_reducible refine And.intro ?_ ?_
  simp only [List.length_cons, List.length_nil, Nat.zero_add]
  omega
  with_reducible refine And.intro ?_ ?_
  omega
  with_reducible refine And.intro ?_ ?_
  omega
  simp only [List.set_cons_zero]
  with_reducible exact hN hNc0 hNc1 hNc2 _ (hw _ _) outN.mk
  simp only [eL_pick_7, eL_pick_11, kx_l, tl_s, nf_l, true_and]
  with_reducible refine go_OF (LW.of hL hSh (by first | with_reducible exact ho | with_reducible exact ho.num | with_reducible exact ho.rf | with_reducible exact ho.mk (by assumption) | with_reducible exact ho.mk (ho.c' (by assumption) (by assumption)) | with_reducible exact ho.mkO (by assumption) (by assumption) | with_reducible exact ho.card0 | with_reducible exact ho.card (ho.c' (by assumption) (by assumption)) | with_reducible exact ho.card (ho.p' (by assumption)) | with_reducible exact ho.lay (ho.c' (by assumption) (by assumption)) (by assumption) | with_reducible exact ho.gap (by assumption) | with_reducible exact ho.tur | with_reducible exact ho.zero)) (fun _ _ hw => ?_)
  with_reducible refine And.intro ?_ ?_
  simp only [List.length_cons, List.length_nil, Nat.zero_add]
  omega
  with_reducible refine And.intro ?_ ?_
  omega
  with_reducible refine And.intro ?_ ?_
  omega
  simp only [List.set_cons_zero]
  with_reducible exact hS hSc0 hSc1 hSr hSc2 _ (hw _ _) outN.mk
set_option maxHeartbeats 4000000 in
theorem gL_pile {a0 a1 : Int32} (hR : RG g) (hL : LW g w x nA cA lA y nM o kn km th s s2) (hQ : ∀ (v : Int32) (w' : Hw), LW g w' x nA cA lA y nM o kn km th s s2 → Q (.inl (some (.int v))) w') : WP (ML_pile g) Q (0, [some (.ref x), some (.int a0), some (.int a1), some (.ref o), none], [], w, 0, 0) := by
  simp only [eL_pile_0, wt_nil, wt_ref, Nat.zero_add, Nat.add_zero]
  with_reducible refine And.intro ?_ ?_
  with_reducible refine LW.gx hL (fun _ => trivial)
  with_reducible refine And.intro ?_ ?_
  omega
  with_reducible refine And.intro ?_ ?_
  omega
  with_reducible refine And.intro ?_ ?_
  omega
  with_reducible refine sX1_pile hL.cc ?_ ?_ (fun _ => ?_)
  simp only [kx_r]
  ((with_reducible refine isHgo ?_); refine hgo_h (HH := [(0, 11, 14, 19), (0, 11, 18, 28)]) (NN := [(19, "java/lang/IndexOutOfBoundsException"), (28, "java/lang/IllegalArgumentException")]) (h := 14) (E := "java/lang/IndexOutOfBoundsException") rfl rfl (by decide +kernel) (by decide) (fun _ => ?_))
  simp only [eL_pile_14, nl_ref]
  with_reducible refine And.intro ?_ ?_
  omega
  with_reducible refine And.intro ?_ ?_
  omega
  with_reducible exact hQ _ _ hL
  simp only [kx_r]
  ((with_reducible refine isHgo ?_); refine hgo_h (HH := [(0, 11, 14, 19), (0, 11, 18, 28)]) (NN := [(19, "java/lang/IndexOutOfBoundsException"), (28, "java/lang/IllegalArgumentException")]) (h := 18) (E := "java/lang/IllegalArgumentException") rfl rfl (by decide +kernel) (by decide) (fun _ => ?_))
  simp only [eL_pile_18, nl_ref]
  with_reducible refine And.intro ?_ ?_
  omega
  with_reducible refine And.intro ?_ ?_
  omega
  with_reducible exact hQ _ _ hL
  simp only [eL_pile_7, eL_pile_11, kx_l, tl_s, nf_l, true_and]
  with_reducible refine go_OF (by first | assumption | exact hL | exact hL.ext (by assumption)) (fun _ _ hw => ?_)
  with_reducible refine And.intro ?_ ?_
  simp only [List.length_cons, List.length_nil, Nat.zero_add]
  omega
  with_reducible refine And.intro ?_ ?_
  omega
  with_reducible refine And.intro ?_ ?_
  omega
  simp only [List.set_cons_zero]
  with_reducible exact hQ _ _ (hw _ _)
set_option maxHeartbeats 4000000 in
theorem gL_house {a0 : Int32} (hR : RG g) (hL : LW g w x nA cA lA y nM o kn km th s s2) (hQ : ∀ (v : Int32) (w' : Hw), LW g w' x nA cA lA y nM o kn km th s s2 → Q (.inl (some (.int v))) w') : WP (ML_house g) Q (0, [some (.ref x), some (.int a0), some (.ref o), none], [], w, 0, 0) := by
  repeat' first
    | with_reducible assumption
    | with_reducible refine And.intro ?_ ?_
    | with_reducible refine LW.gx hL (fun _ => trivial)
    | with_reducible refine sX1_house hL.cc ?_ (fun _ => ?_)
    | ((with_reducible refine isHgo ?_); refine hgo_h (HH := [(0, 10, 13, 28)]) (NN := [(28, "java/lang/IllegalArgumentException")]) (h := 13) (E := "java/lang/IllegalArgumentException") rfl rfl (by decide +kernel) (by decide) (fun _ => ?_))
    | with_reducible refine go_OF (by first | assumption | exact hL | exact hL.ext (by assumption)) (fun _ _ hw => ?_)
    | with_reducible exact hQ _ _ (hw _ _)
    | with_reducible exact hQ _ _ hL
    | simp only [eL_house_0, eL_house_0N, eL_house_1, eL_house_1N, eL_house_2, eL_house_6, eL_house_10, eL_house_13, eL_house_13N, eL_house_14, ite_le, n45, n54, true_or, or_true, false_or, or_false, false_and, and_false, kx_l, kx_r, go_s, gl_s, gi_s, gb_s2, gb_s3, gq_s, wt_nil, wt_int, wt_long, wt_ref, wt_null, nl_int, nl_long, nl_ref, nl_null, nl_none, rf_n, rf_s, rf_st, tl_s, tl_n, g0, gS, ex1, nb_b, nb_0, nb_1, nf_i, nf_l, nf_ra, nf_ro, nf_na, nf_no, nf_b0, nf_z0, t45_4, t45_5, true_and, and_true, List.set_cons_zero, List.set_cons_succ, List.length_cons, List.length_nil, rd_s, upw_s, ne_eq, not_false_eq_true, Nat.zero_add, Nat.add_zero, if_true, if_false, eq_self, tyX2]
    | split
    | with_reducible intro _
    | omega
end
end
/-! 79.cw0.lean.txt -/
section
section
variable {g : RO} {w : Hw} {x nA cA lA y nM o b L k n : Nat} {xs : Nat → Int32} {i kn th : Int32} {s : AS} {l5 l6 : Option Value}
def QLaw : Ot → Hw → Prop := fun o _ => o = .inl (some (.int 1))
theorem vpin (h0 : 0 ≤ i.toInt) (h1 : i.toInt < (L : Int)) : vp_in i L := by
  rintro (h | h)
  · have h2 := i32_lt h
    have e : (0 : Int32).toInt = 0 := rfl
    omega
  · have e : i.toNatClampNeg = i.toInt.toNat := rfl
    omega
theorem gi_L (h : LW g w x nA cA lA y nM o kn kn th s s) (hb : g.2 b = some (.inl (1, L, .inl xs))) {K : Nat → (Nat → Int32) → Prop} (k : K L xs) : gi (rd g w b) 1 K := gi_W h hb k
theorem n12z : ((1 : Int32) = 0) = False := eq_false (by decide)
theorem n2z : ((2 : Int32) = 0) = False := eq_false (by decide)
theorem n3z : ((3 : Int32) = 0) = False := eq_false (by decide)
set_option maxHeartbeats 4000000 in
theorem cL_0 (hR : RG g) (hb : g.2 b = some (.inl (1, L, .inl xs))) (hL : LW g w x nA cA lA y nM o kn kn th s s) (v1 : vp_in (i + 1) L) (v2 : vp_in (i + 2) L) (v3 : vp_in (i + 3) L) (v4 : vp_in (i + 4) L) (v5 : vp_in (i + 5) L) (hk : k + 114 ≤ 58408) (hn : n + 2834 ≤ 1451408) (next : (∀ (l5' l6' : Option Value) (w' : Hw) (k' n' : Nat) (kn' th' : Int32) (s' : AS), LW g w' x nA cA lA y nM o kn' kn' th' s' s' → k' ≤ k + 114 → n' ≤ n + 2834 → WP (ML_law g) QLaw (2246, [some (.ref b), some (.ref x), some (.ref y), some (.ref o), some (.int i), l5', l6'], [], w', k', n'))) : WP (ML_law g) QLaw (256, [some (.ref b), some (.ref x), some (.ref y), some (.ref o), some (.int i), l5, l6], [], w, k, n) := by
  simp only [eL_law_256, eL_law_263, eL_law_269, eL_law_275, wt_nil]
  with_reducible refine gi_W hL hb ?_
  with_reducible refine And.intro ?_ ?_
  with_reducible assumption
  with_reducible refine gi_W hL hb ?_
  with_reducible refine And.intro ?_ ?_
  with_reducible assumption
  with_reducible refine gi_W hL hb ?_
  with_reducible refine And.intro ?_ ?_
  with_reducible assumption
  with_reducible refine And.intro ?_ ?_
  omega
  with_reducible refine And.intro ?_ ?_
  omega
  with_reducible refine And.intro ?_ ?_
  omega
  with_reducible refine fL_set hL (fun hXpc0 => ?_) (fun hQpc0 hQpw hQph hQpo => ?_)
  simp only [eL_law_279, eL_law_283, eL_law_288, eL_law_294, eL_law_300, kx_l, wt_nil, nl_int, tl_s, Nat.add_zero]
  with_reducible refine gi_W hL hb ?_
  with_reducible refine And.intro ?_ ?_
  with_reducible assumption
  with_reducible refine gi_W hL hb ?_
  with_reducible refine And.intro ?_ ?_
  with_reducible assumption
  with_reducible refine gi_W hL hb ?_
  with_reducible refine And.intro ?_ ?_
  with_reducible assumption
  with_reducible refine And.intro ?_ ?_
  with_reducible refine LW.gz hL (fun _ => trivial)
  with_reducible refine And.intro ?_ ?_
  omega
  with_reducible refine And.intro ?_ ?_
  omega
  with_reducible refine And.intro ?_ ?_
  omega
  with_reducible refine fX3_set (LW.ms hL) (fun hXqc0 hXqw hXqh => ?_) (fun hQqc0 hQqw hQqh => ?_)
  simp only [eL_law_303, kx_l, nl_int, tl_s]
  with_reducible exact next _ _ _ _ _ _ _ _ (LW.ofM hL hXqh) (by omega) (by omega)
  with_reducible exact absurd hQqc0 hXpc0
  simp only [eL_law_279, eL_law_283, eL_law_288, eL_law_294, eL_law_300, kx_l, wt_nil, nl_int, tl_s, Nat.add_zero]
  with_reducible refine gi_W hQph hb ?_
  with_reducible refine And.intro ?_ ?_
  with_reducible assumption
  with_reducible refine gi_W hQph hb ?_
  with_reducible refine And.intro ?_ ?_
  with_reducible assumption
  with_reducible refine gi_W hQph hb ?_
  with_reducible refine And.intro ?_ ?_
  with_reducible assumption
  with_reducible refine And.intro ?_ ?_
  with_reducible refine LW.gz hQph (fun _ => trivial)
  with_reducible refine And.intro ?_ ?_
  omega
  with_reducible refine And.intro ?_ ?_
  omega
  with_reducible refine And.intro ?_ ?_
  omega
  with_reducible refine fX3_set (LW.ms hQph) (fun hXqc0 hXqw hXqh => ?_) (fun hQqc0 hQqw hQqh => ?_)
  with_reducible exact absurd hQpc0 hXqc0
  simp only [eL_law_303, kx_l, nl_int, tl_s]
  with_reducible exact next _ _ _ _ _ _ _ _ (LW.ofM hQph hQqh) (by omega) (by omega)
set_option maxHeartbeats 4000000 in
theorem cL_1 (hR : RG g) (hb : g.2 b = some (.inl (1, L, .inl xs))) (hL : LW g w x nA cA lA y nM o kn kn th s s) (v1 : vp_in (i + 1) L) (v2 : vp_in (i + 2) L) (v3 : vp_in (i + 3) L) (v4 : vp_in (i + 4) L) (v5 : vp_in (i + 5) L) (hk : k + 114 ≤ 58408) (hn : n + 2834 ≤ 1451408) (next : (∀ (l5' l6' : Option Value) (w' : Hw) (k' n' : Nat) (kn' th' : Int32) (s' : AS), LW g w' x nA cA lA y nM o kn' kn' th' s' s' → k' ≤ k + 114 → n' ≤ n + 2834 → WP (ML_law g) QLaw (2246, [some (.ref b), some (.ref x), some (.ref y), some (.ref o), some (.int i), l5', l6'], [], w', k', n'))) : WP (ML_law g) QLaw (308, [some (.ref b), some (.ref x), some (.ref y), some (.ref o), some (.int i), l5, l6], [], w, k, n) := by
  simp only [eL_law_308, eL_law_315, eL_law_321, wt_nil]
  with_reducible refine gi_W hL hb ?_
  with_reducible refine And.intro ?_ ?_
  with_reducible assumption
  with_reducible refine gi_W hL hb ?_
  with_reducible refine And.intro ?_ ?_
  with_reducible assumption
  with_reducible refine And.intro ?_ ?_
  omega
  with_reducible refine And.intro ?_ ?_
  omega
  with_reducible refine And.intro ?_ ?_
  omega
  with_reducible refine fL_setSmall hL (fun hXpc0 => ?_) (fun hQpc0 hQpw hQph hQpo => ?_)
  simp only [eL_law_325, eL_law_329, eL_law_334, eL_law_340, kx_l, wt_nil, nl_int, tl_s, Nat.add_zero]
  with_reducible refine gi_W hL hb ?_
  with_reducible refine And.intro ?_ ?_
  with_reducible assumption
  with_reducible refine gi_W hL hb ?_
  with_reducible refine And.intro ?_ ?_
  with_reducible assumption
  with_reducible refine And.intro ?_ ?_
  with_reducible refine LW.gz hL (fun _ => trivial)
  with_reducible refine And.intro ?_ ?_
  omega
  with_reducible refine And.intro ?_ ?_
  omega
  with_reducible refine And.intro ?_ ?_
  omega
  with_reducible refine fX3_setSmall (LW.ms hL) (fun hXqc0 hXqw hXqh => ?_) (fun hQqc0 hQqw hQqh => ?_)
  simp only [eL_law_343, kx_l, nl_int, tl_s]
  with_reducible exact next _ _ _ _ _ _ _ _ (LW.ofM hL hXqh) (by omega) (by omega)
  with_reducible exact absurd hQqc0 hXpc0
  simp only [eL_law_325, eL_law_329, eL_law_334, eL_law_340, kx_l, wt_nil, nl_int, tl_s, Nat.add_zero]
  with_reducible refine gi_W hQph hb ?_
  with_reducible refine And.intro ?_ ?_
  with_reducible assumption
  with_reducible refine gi_W hQph hb ?_
  with_reducible refine And.intro ?_ ?_
  with_reducible assumption
  with_reducible refine And.intro ?_ ?_
  with_reducible refine LW.gz hQph (fun _ => trivial)
  with_reducible refine And.intro ?_ ?_
  omega
  with_reducible refine And.intro ?_ ?_
  omega
  with_reducible refine And.intro ?_ ?_
  omega
  with_reducible refine fX3_setSmall (LW.ms hQph) (fun hXqc0 hXqw hXqh => ?_) (fun hQqc0 hQqw hQqh => ?_)
  with_reducible exact absurd hQpc0 hXqc0
  simp only [eL_law_343, kx_l, nl_int, tl_s]
  with_reducible exact next _ _ _ _ _ _ _ _ (LW.ofM hQph hQqh) (by omega) (by omega)
set_option maxHeartbeats 4000000 in
theorem cL_2 (hR : RG g) (hb : g.2 b = some (.inl (1, L, .inl xs))) (hL : LW g w x nA cA lA y nM o kn kn th s s) (v1 : vp_in (i + 1) L) (v2 : vp_in (i + 2) L) (v3 : vp_in (i + 3) L) (v4 : vp_in (i + 4) L) (v5 : vp_in (i + 5) L) (hk : k + 114 ≤ 58408) (hn : n + 2834 ≤ 1451408) (next : (∀ (l5' l6' : Option Value) (w' : Hw) (k' n' : Nat) (kn' th' : Int32) (s' : AS), LW g w' x nA cA lA y nM o kn' kn' th' s' s' → k' ≤ k + 114 → n' ≤ n + 2834 → WP (ML_law g) QLaw (2246, [some (.ref b), some (.ref x), some (.ref y), some (.ref o), some (.int i), l5', l6'], [], w', k', n'))) : WP (ML_law g) QLaw (348, [some (.ref b), some (.ref x), some (.ref y), some (.ref o), some (.int i), l5, l6], [], w, k, n) := by
  simp only [eL_law_348, eL_law_355, eL_law_361, wt_nil]
  with_reducible refine gi_W hL hb ?_
  with_reducible refine And.intro ?_ ?_
  with_reducible assumption
  with_reducible refine gi_W hL hb ?_
  with_reducible refine And.intro ?_ ?_
  with_reducible assumption
  with_reducible refine And.intro ?_ ?_
  omega
  with_reducible refine And.intro ?_ ?_
  omega
  with_reducible refine And.intro ?_ ?_
  omega
  with_reducible refine fL_setEnd hL (fun hXpc0 => ?_) (fun hWpc0 hWpc1 => ?_) (fun hQpc0 hQpc1 hQpw hQph hQpo => ?_)
  simp only [eL_law_365, eL_law_369, eL_law_374, eL_law_380, kx_l, wt_nil, nl_int, tl_s]
  with_reducible refine gi_W hL hb ?_
  with_reducible refine And.intro ?_ ?_
  with_reducible assumption
  with_reducible refine gi_W hL hb ?_
  with_reducible refine And.intro ?_ ?_
  with_reducible assumption
  with_reducible refine And.intro ?_ ?_
  with_reducible refine LW.gz hL (fun _ => trivial)
  with_reducible refine And.intro ?_ ?_
  omega
  with_reducible refine And.intro ?_ ?_
  omega
  with_reducible refine And.intro ?_ ?_
  omega
  with_reducible refine fX3_setEnd (LW.ms hL) (fun hXqc0 hXqw hXqh => ?_) (fun hWqc0 hWqc1 hWqw hWqh => ?_) (fun hQqc0 hQqc1 hQqw hQqh => ?_)
  simp only [eL_law_383, kx_l, nl_int, tl_s]
  with_reducible exact next _ _ _ _ _ _ _ _ (LW.ofM hL hXqh) (by omega) (by omega)
  with_reducible exact absurd hWqc0 hXpc0
  with_reducible exact absurd hQqc0 hXpc0
  simp only [eL_law_365, eL_law_369, eL_law_374, eL_law_380, kx_l, wt_nil, nl_int, tl_s]
  with_reducible refine gi_W hL hb ?_
  with_reducible refine And.intro ?_ ?_
  with_reducible assumption
  with_reducible refine gi_W hL hb ?_
  with_reducible refine And.intro ?_ ?_
  with_reducible assumption
  with_reducible refine And.intro ?_ ?_
  with_reducible refine LW.gz hL (fun _ => trivial)
  with_reducible refine And.intro ?_ ?_
  omega
  with_reducible refine And.intro ?_ ?_
  omega
  with_reducible refine And.intro ?_ ?_
  omega
  with_reducible refine fX3_setEnd (LW.ms hL) (fun hXqc0 hXqw hXqh => ?_) (fun hWqc0 hWqc1 hWqw hWqh => ?_) (fun hQqc0 hQqc1 hQqw hQqh => ?_)
  with_reducible exact absurd hWpc0 hXqc0
  simp only [eL_law_383, kx_l, nl_int, tl_s]
  with_reducible exact next _ _ _ _ _ _ _ _ (LW.ofM hL hWqh) (by omega) (by omega)
  with_reducible exact absurd hQqc1 hWpc1
  simp only [eL_law_365, eL_law_369, eL_law_374, eL_law_380, kx_l, wt_nil, nl_int, tl_s]
  with_reducible refine gi_W hQph hb ?_
  with_reducible refine And.intro ?_ ?_
  with_reducible assumption
  with_reducible refine gi_W hQph hb ?_
  with_reducible refine And.intro ?_ ?_
  with_reducible assumption
  with_reducible refine And.intro ?_ ?_
  with_reducible refine LW.gz hQph (fun _ => trivial)
  with_reducible refine And.intro ?_ ?_
  omega
  with_reducible refine And.intro ?_ ?_
  omega
  with_reducible refine And.intro ?_ ?_
  omega
  with_reducible refine fX3_setEnd (LW.ms hQph) (fun hXqc0 hXqw hXqh => ?_) (fun hWqc0 hWqc1 hWqw hWqh => ?_) (fun hQqc0 hQqc1 hQqw hQqh => ?_)
  with_reducible exact absurd hQpc0 hXqc0
  with_reducible exact absurd hQpc1 hWqc1
  simp only [eL_law_383, kx_l, nl_int, tl_s]
  with_reducible exact next _ _ _ _ _ _ _ _ (LW.ofM hQph hQqh) (by omega) (by omega)
set_option maxHeartbeats 4000000 in
theorem cL_3 (hR : RG g) (hb : g.2 b = some (.inl (1, L, .inl xs))) (hL : LW g w x nA cA lA y nM o kn kn th s s) (v1 : vp_in (i + 1) L) (v2 : vp_in (i + 2) L) (v3 : vp_in (i + 3) L) (v4 : vp_in (i + 4) L) (v5 : vp_in (i + 5) L) (hk : k + 114 ≤ 58408) (hn : n + 2834 ≤ 1451408) (next : (∀ (l5' l6' : Option Value) (w' : Hw) (k' n' : Nat) (kn' th' : Int32) (s' : AS), LW g w' x nA cA lA y nM o kn' kn' th' s' s' → k' ≤ k + 114 → n' ≤ n + 2834 → WP (ML_law g) QLaw (2246, [some (.ref b), some (.ref x), some (.ref y), some (.ref o), some (.int i), l5', l6'], [], w', k', n'))) : WP (ML_law g) QLaw (388, [some (.ref b), some (.ref x), some (.ref y), some (.ref o), some (.int i), l5, l6], [], w, k, n) := by
  simp only [eL_law_388, eL_law_395, eL_law_401, wt_nil]
  with_reducible refine gi_W hL hb ?_
  with_reducible refine And.intro ?_ ?_
  with_reducible assumption
  with_reducible refine gi_W hL hb ?_
  with_reducible refine And.intro ?_ ?_
  with_reducible assumption
  with_reducible refine And.intro ?_ ?_
  omega
  with_reducible refine And.intro ?_ ?_
  omega
  with_reducible refine And.intro ?_ ?_
  omega
  with_reducible refine fL_move hL (fun hXpc0 => ?_) (fun hQpc0 hQpw hQph hQpo => ?_)
  simp only [eL_law_405, eL_law_409, eL_law_414, eL_law_420, kx_l, wt_nil, nl_int, tl_s, Nat.add_zero]
  with_reducible refine gi_W hL hb ?_
  with_reducible refine And.intro ?_ ?_
  with_reducible assumption
  with_reducible refine gi_W hL hb ?_
  with_reducible refine And.intro ?_ ?_
  with_reducible assumption
  with_reducible refine And.intro ?_ ?_
  with_reducible refine LW.gz hL (fun _ => trivial)
  with_reducible refine And.intro ?_ ?_
  omega
  with_reducible refine And.intro ?_ ?_
  omega
  with_reducible refine And.intro ?_ ?_
  omega
  with_reducible refine fX3_move (LW.ms hL) (fun hXqc0 hXqw hXqh => ?_) (fun hQqc0 hQqw hQqh => ?_)
  simp only [eL_law_423, kx_l, nl_int, tl_s]
  with_reducible exact next _ _ _ _ _ _ _ _ (LW.ofM hL hXqh) (by omega) (by omega)
  with_reducible exact absurd hQqc0 hXpc0
  simp only [eL_law_405, eL_law_409, eL_law_414, eL_law_420, kx_l, wt_nil, nl_int, tl_s, Nat.add_zero]
  with_reducible refine gi_W hQph hb ?_
  with_reducible refine And.intro ?_ ?_
  with_reducible assumption
  with_reducible refine gi_W hQph hb ?_
  with_reducible refine And.intro ?_ ?_
  with_reducible assumption
  with_reducible refine And.intro ?_ ?_
  with_reducible refine LW.gz hQph (fun _ => trivial)
  with_reducible refine And.intro ?_ ?_
  omega
  with_reducible refine And.intro ?_ ?_
  omega
  with_reducible refine And.intro ?_ ?_
  omega
  with_reducible refine fX3_move (LW.ms hQph) (fun hXqc0 hXqw hXqh => ?_) (fun hQqc0 hQqw hQqh => ?_)
  with_reducible exact absurd hQpc0 hXqc0
  simp only [eL_law_423, kx_l, nl_int, tl_s]
  with_reducible exact next _ _ _ _ _ _ _ _ (LW.ofM hQph hQqh) (by omega) (by omega)
set_option maxHeartbeats 4000000 in
theorem cL_4 (hR : RG g) (hb : g.2 b = some (.inl (1, L, .inl xs))) (hL : LW g w x nA cA lA y nM o kn kn th s s) (v1 : vp_in (i + 1) L) (v2 : vp_in (i + 2) L) (v3 : vp_in (i + 3) L) (v4 : vp_in (i + 4) L) (v5 : vp_in (i + 5) L) (hk : k + 114 ≤ 58408) (hn : n + 2834 ≤ 1451408) (next : (∀ (l5' l6' : Option Value) (w' : Hw) (k' n' : Nat) (kn' th' : Int32) (s' : AS), LW g w' x nA cA lA y nM o kn' kn' th' s' s' → k' ≤ k + 114 → n' ≤ n + 2834 → WP (ML_law g) QLaw (2246, [some (.ref b), some (.ref x), some (.ref y), some (.ref o), some (.int i), l5', l6'], [], w', k', n'))) : WP (ML_law g) QLaw (428, [some (.ref b), some (.ref x), some (.ref y), some (.ref o), some (.int i), l5, l6], [], w, k, n) := by
  simp only [eL_law_428, eL_law_435, eL_law_441, wt_nil]
  with_reducible refine gi_W hL hb ?_
  with_reducible refine And.intro ?_ ?_
  with_reducible assumption
  with_reducible refine gi_W hL hb ?_
  with_reducible refine And.intro ?_ ?_
  with_reducible assumption
  with_reducible refine And.intro ?_ ?_
  omega
  with_reducible refine And.intro ?_ ?_
  omega
  with_reducible refine And.intro ?_ ?_
  omega
  with_reducible refine fL_copy hL (fun hXpc0 => ?_) (fun hQpc0 hQpc1 hQpw hQph hQpo => ?_)
  simp only [eL_law_445, eL_law_449, eL_law_454, eL_law_460, kx_l, wt_nil, nl_int, tl_s, Nat.add_zero]
  with_reducible refine gi_W hL hb ?_
  with_reducible refine And.intro ?_ ?_
  with_reducible assumption
  with_reducible refine gi_W hL hb ?_
  with_reducible refine And.intro ?_ ?_
  with_reducible assumption
  with_reducible refine And.intro ?_ ?_
  with_reducible refine LW.gz hL (fun _ => trivial)
  with_reducible refine And.intro ?_ ?_
  omega
  with_reducible refine And.intro ?_ ?_
  omega
  with_reducible refine And.intro ?_ ?_
  omega
  with_reducible refine fX3_copy (LW.ms hL) (fun hXqc0 hXqw hXqh => ?_) (fun hQqc0 hQqc1 hQqw hQqh => ?_)
  simp only [eL_law_463, kx_l, nl_int, tl_s]
  with_reducible exact next _ _ _ _ _ _ _ _ (LW.ofM hL hXqh) (by omega) (by omega)
  with_reducible exact absurd (And.intro hQqc0 hQqc1) hXpc0
  simp only [eL_law_445, eL_law_449, eL_law_454, eL_law_460, kx_l, wt_nil, nl_int, tl_s, Nat.add_zero]
  with_reducible refine gi_W hQph hb ?_
  with_reducible refine And.intro ?_ ?_
  with_reducible assumption
  with_reducible refine gi_W hQph hb ?_
  with_reducible refine And.intro ?_ ?_
  with_reducible assumption
  with_reducible refine And.intro ?_ ?_
  with_reducible refine LW.gz hQph (fun _ => trivial)
  with_reducible refine And.intro ?_ ?_
  omega
  with_reducible refine And.intro ?_ ?_
  omega
  with_reducible refine And.intro ?_ ?_
  omega
  with_reducible refine fX3_copy (LW.ms hQph) (fun hXqc0 hXqw hXqh => ?_) (fun hQqc0 hQqc1 hQqw hQqh => ?_)
  with_reducible exact absurd (And.intro hQpc0 hQpc1) hXqc0
  simp only [eL_law_463, kx_l, nl_int, tl_s]
  with_reducible exact next _ _ _ _ _ _ _ _ (LW.ofM hQph hQqh) (by omega) (by omega)
set_option maxHeartbeats 4000000 in
theorem cL_5 (hR : RG g) (hb : g.2 b = some (.inl (1, L, .inl xs))) (hL : LW g w x nA cA lA y nM o kn kn th s s) (v1 : vp_in (i + 1) L) (v2 : vp_in (i + 2) L) (v3 : vp_in (i + 3) L) (v4 : vp_in (i + 4) L) (v5 : vp_in (i + 5) L) (hk : k + 114 ≤ 58408) (hn : n + 2834 ≤ 1451408) (next : (∀ (l5' l6' : Option Value) (w' : Hw) (k' n' : Nat) (kn' th' : Int32) (s' : AS), LW g w' x nA cA lA y nM o kn' kn' th' s' s' → k' ≤ k + 114 → n' ≤ n + 2834 → WP (ML_law g) QLaw (2246, [some (.ref b), some (.ref x), some (.ref y), some (.ref o), some (.int i), l5', l6'], [], w', k', n'))) : WP (ML_law g) QLaw (468, [some (.ref b), some (.ref x), some (.ref y), some (.ref o), some (.int i), l5, l6], [], w, k, n) := by
  simp only [eL_law_468, eL_law_475, eL_law_481, eL_law_484, eL_law_488, eL_law_489, wt_nil]
  with_reducible refine gi_W hL hb ?_
  with_reducible refine And.intro ?_ ?_
  with_reducible assumption
  with_reducible refine gi_W hL hb ?_
  with_reducible refine And.intro ?_ ?_
  with_reducible assumption
  split
  with_reducible refine And.intro ?_ ?_
  omega
  with_reducible refine And.intro ?_ ?_
  omega
  with_reducible refine And.intro ?_ ?_
  omega
  with_reducible refine fL_ofNumber hL (fun hXpc0 => ?_) (fun hQpc0 hQpw hQph hQpo => ?_)
  simp only [eL_law_493, eL_law_497, eL_law_502, eL_law_508, eL_law_511, eL_law_515, eL_law_516, kx_l, wt_nil, nl_int, tl_s, Nat.add_zero]
  with_reducible refine gi_W hL hb ?_
  with_reducible refine And.intro ?_ ?_
  with_reducible assumption
  with_reducible refine gi_W hL hb ?_
  with_reducible refine And.intro ?_ ?_
  with_reducible assumption
  split
  with_reducible refine And.intro ?_ ?_
  with_reducible refine LW.gz hL (fun _ => trivial)
  with_reducible refine And.intro ?_ ?_
  omega
  with_reducible refine And.intro ?_ ?_
  omega
  with_reducible refine And.intro ?_ ?_
  omega
  with_reducible refine fX3_ofNumber (LW.ms hL) (fun hXqc0 hXqw hXqh => ?_) (fun hQqc0 hQqw hQqh => ?_)
  simp only [eL_law_519, kx_l, nl_int, tl_s]
  with_reducible exact next _ _ _ _ _ _ _ _ (LW.ofM hL hXqh) (by omega) (by omega)
  with_reducible exact absurd hQqc0 hXpc0
  with_reducible refine And.intro ?_ ?_
  with_reducible refine LW.gz hL (fun _ => trivial)
  with_reducible refine And.intro ?_ ?_
  with_reducible exact absurd (show xs (i + 2).toNatClampNeg = 0 by assumption) (by assumption)
  with_reducible refine And.intro ?_ ?_
  with_reducible exact absurd (show xs (i + 2).toNatClampNeg = 0 by assumption) (by assumption)
  with_reducible refine And.intro ?_ ?_
  with_reducible exact absurd (show xs (i + 2).toNatClampNeg = 0 by assumption) (by assumption)
  with_reducible refine fX3_ofNumber (LW.ms hL) (fun hXqc0 hXqw hXqh => ?_) (fun hQqc0 hQqw hQqh => ?_)
  with_reducible exact absurd (show xs (i + 2).toNatClampNeg = 0 by assumption) (by assumption)
  with_reducible exact absurd hQqc0 hXpc0
  simp only [eL_law_493, eL_law_497, eL_law_502, eL_law_508, eL_law_511, eL_law_515, eL_law_516, kx_l, wt_nil, nl_int, tl_s, Nat.add_zero]
  with_reducible refine gi_W hQph hb ?_
  with_reducible refine And.intro ?_ ?_
  with_reducible assumption
  with_reducible refine gi_W hQph hb ?_
  with_reducible refine And.intro ?_ ?_
  with_reducible assumption
  split
  with_reducible refine And.intro ?_ ?_
  with_reducible refine LW.gz hQph (fun _ => trivial)
  with_reducible refine And.intro ?_ ?_
  omega
  with_reducible refine And.intro ?_ ?_
  omega
  with_reducible refine And.intro ?_ ?_
  omega
  with_reducible refine fX3_ofNumber (LW.ms hQph) (fun hXqc0 hXqw hXqh => ?_) (fun hQqc0 hQqw hQqh => ?_)
  with_reducible exact absurd hQpc0 hXqc0
  simp only [eL_law_519, kx_l, nl_int, tl_s]
  with_reducible exact next _ _ _ _ _ _ _ _ (LW.ofM hQph hQqh) (by omega) (by omega)
  with_reducible refine And.intro ?_ ?_
  with_reducible refine LW.gz hQph (fun _ => trivial)
  with_reducible refine And.intro ?_ ?_
  with_reducible exact absurd (show xs (i + 2).toNatClampNeg = 0 by assumption) (by assumption)
  with_reducible refine And.intro ?_ ?_
  with_reducible exact absurd (show xs (i + 2).toNatClampNeg = 0 by assumption) (by assumption)
  with_reducible refine And.intro ?_ ?_
  with_reducible exact absurd (show xs (i + 2).toNatClampNeg = 0 by assumption) (by assumption)
  with_reducible refine fX3_ofNumber (LW.ms hQph) (fun hXqc0 hXqw hXqh => ?_) (fun hQqc0 hQqw hQqh => ?_)
  with_reducible exact absurd hQpc0 hXqc0
  with_reducible exact absurd (show xs (i + 2).toNatClampNeg = 0 by assumption) (by assumption)
  with_reducible refine And.intro ?_ ?_
  omega
  with_reducible refine And.intro ?_ ?_
  omega
  with_reducible refine And.intro ?_ ?_
  omega
  with_reducible refine fL_ofNumber hL (fun hXpc0 => ?_) (fun hQpc0 hQpw hQph hQpo => ?_)
  simp only [eL_law_493, eL_law_497, eL_law_502, eL_law_508, eL_law_511, eL_law_515, eL_law_516, kx_l, wt_nil, nl_int, tl_s, Nat.add_zero]
  with_reducible refine gi_W hL hb ?_
  with_reducible refine And.intro ?_ ?_
  with_reducible assumption
  with_reducible refine gi_W hL hb ?_
  with_reducible refine And.intro ?_ ?_
  with_reducible assumption
  split
  with_reducible refine And.intro ?_ ?_
  with_reducible refine LW.gz hL (fun _ => trivial)
  with_reducible refine And.intro ?_ ?_
  with_reducible exact absurd (show xs (i + 2).toNatClampNeg = 0 by assumption) (by assumption)
  with_reducible refine And.intro ?_ ?_
  with_reducible exact absurd (show xs (i + 2).toNatClampNeg = 0 by assumption) (by assumption)
  with_reducible refine And.intro ?_ ?_
  with_reducible exact absurd (show xs (i + 2).toNatClampNeg = 0 by assumption) (by assumption)
  with_reducible refine fX3_ofNumber (LW.ms hL) (fun hXqc0 hXqw hXqh => ?_) (fun hQqc0 hQqw hQqh => ?_)
  with_reducible exact absurd (show xs (i + 2).toNatClampNeg = 0 by assumption) (by assumption)
  with_reducible exact absurd hQqc0 hXpc0
  with_reducible refine And.intro ?_ ?_
  with_reducible refine LW.gz hL (fun _ => trivial)
  with_reducible refine And.intro ?_ ?_
  omega
  with_reducible refine And.intro ?_ ?_
  omega
  with_reducible refine And.intro ?_ ?_
  omega
  with_reducible refine fX3_ofNumber (LW.ms hL) (fun hXqc0 hXqw hXqh => ?_) (fun hQqc0 hQqw hQqh => ?_)
  simp only [eL_law_519, kx_l, nl_int, tl_s]
  with_reducible exact next _ _ _ _ _ _ _ _ (LW.ofM hL hXqh) (by omega) (by omega)
  with_reducible exact absurd hQqc0 hXpc0
  simp only [eL_law_493, eL_law_497, eL_law_502, eL_law_508, eL_law_511, eL_law_515, eL_law_516, kx_l, wt_nil, nl_int, tl_s, Nat.add_zero]
  with_reducible refine gi_W hQph hb ?_
  with_reducible refine And.intro ?_ ?_
  with_reducible assumption
  with_reducible refine gi_W hQph hb ?_
  with_reducible refine And.intro ?_ ?_
  with_reducible assumption
  split
  with_reducible refine And.intro ?_ ?_
  with_reducible refine LW.gz hQph (fun _ => trivial)
  with_reducible refine And.intro ?_ ?_
  with_reducible exact absurd (show xs (i + 2).toNatClampNeg = 0 by assumption) (by assumption)
  with_reducible refine And.intro ?_ ?_
  with_reducible exact absurd (show xs (i + 2).toNatClampNeg = 0 by assumption) (by assumption)
  with_reducible refine And.intro ?_ ?_
  with_reducible exact absurd (show xs (i + 2).toNatClampNeg = 0 by assumption) (by assumption)
  with_reducible refine fX3_ofNumber (LW.ms hQph) (fun hXqc0 hXqw hXqh => ?_) (fun hQqc0 hQqw hQqh => ?_)
  with_reducible exact absurd hQpc0 hXqc0
  with_reducible exact absurd (show xs (i + 2).toNatClampNeg = 0 by assumption) (by assumption)
  with_reducible refine And.intro ?_ ?_
  with_reducible refine LW.gz hQph (fun _ => trivial)
  with_reducible refine And.intro ?_ ?_
  omega
  with_reducible refine And.intro ?_ ?_
  omega
  with_reducible refine And.intro ?_ ?_
  omega
  with_reducible refine fX3_ofNumber (LW.ms hQph) (fun hXqc0 hXqw hXqh => ?_) (fun hQqc0 hQqw hQqh => ?_)
  with_reducible exact absurd hQpc0 hXqc0
  simp only [eL_law_519, kx_l, nl_int, tl_s]
  with_reducible exact next _ _ _ _ _ _ _ _ (LW.ofM hQph hQqh) (by omega) (by omega)
set_option maxHeartbeats 4000000 in
theorem cL_6 (hR : RG g) (hb : g.2 b = some (.inl (1, L, .inl xs))) (hL : LW g w x nA cA lA y nM o kn kn th s s) (v1 : vp_in (i + 1) L) (v2 : vp_in (i + 2) L) (v3 : vp_in (i + 3) L) (v4 : vp_in (i + 4) L) (v5 : vp_in (i + 5) L) (hk : k + 114 ≤ 58408) (hn : n + 2834 ≤ 1451408) (next : (∀ (l5' l6' : Option Value) (w' : Hw) (k' n' : Nat) (kn' th' : Int32) (s' : AS), LW g w' x nA cA lA y nM o kn' kn' th' s' s' → k' ≤ k + 114 → n' ≤ n + 2834 → WP (ML_law g) QLaw (2246, [some (.ref b), some (.ref x), some (.ref y), some (.ref o), some (.int i), l5', l6'], [], w', k', n'))) : WP (ML_law g) QLaw (524, [some (.ref b), some (.ref x), some (.ref y), some (.ref o), some (.int i), l5, l6], [], w, k, n) := by
  simp only [eL_law_524, eL_law_531, wt_nil]
  with_reducible refine gi_W hL hb ?_
  with_reducible refine And.intro ?_ ?_
  with_reducible assumption
  with_reducible refine And.intro ?_ ?_
  omega
  with_reducible refine And.intro ?_ ?_
  omega
  with_reducible refine And.intro ?_ ?_
  omega
  with_reducible refine gL_numberText hR hL (fun v1 w1 h1 => ?_)
  simp only [eL_law_535, eL_law_539, eL_law_544, kx_l, wt_nil, nl_int, tl_s]
  with_reducible refine gi_W h1 hb ?_
  with_reducible refine And.intro ?_ ?_
  with_reducible assumption
  with_reducible refine And.intro ?_ ?_
  with_reducible refine LW.gz h1 (fun _ => trivial)
  with_reducible refine And.intro ?_ ?_
  omega
  with_reducible refine And.intro ?_ ?_
  omega
  with_reducible refine And.intro ?_ ?_
  omega
  with_reducible refine gX3_numberText (LW.ms h1) hR.sg (hR.dg (LW.ro h1)) (hR.tx (LW.ro h1)) (fun v2 t2 w2 m2 => ?_)
  simp only [eL_law_547, kx_l, nl_int, tl_s]
  with_reducible exact next _ _ _ _ _ _ _ _ (LW.ofM h1 m2) (by omega) (by omega)
set_option maxHeartbeats 4000000 in
theorem cL_7 (hR : RG g) (hb : g.2 b = some (.inl (1, L, .inl xs))) (hL : LW g w x nA cA lA y nM o kn kn th s s) (v1 : vp_in (i + 1) L) (v2 : vp_in (i + 2) L) (v3 : vp_in (i + 3) L) (v4 : vp_in (i + 4) L) (v5 : vp_in (i + 5) L) (hk : k + 114 ≤ 58408) (hn : n + 2834 ≤ 1451408) (next : (∀ (l5' l6' : Option Value) (w' : Hw) (k' n' : Nat) (kn' th' : Int32) (s' : AS), LW g w' x nA cA lA y nM o kn' kn' th' s' s' → k' ≤ k + 114 → n' ≤ n + 2834 → WP (ML_law g) QLaw (2246, [some (.ref b), some (.ref x), some (.ref y), some (.ref o), some (.int i), l5', l6'], [], w', k', n'))) : WP (ML_law g) QLaw (552, [some (.ref b), some (.ref x), some (.ref y), some (.ref o), some (.int i), l5, l6], [], w, k, n) := by
  simp only [eL_law_552, eL_law_559, eL_law_565, wt_nil]
  with_reducible refine gi_W hL hb ?_
  with_reducible refine And.intro ?_ ?_
  with_reducible assumption
  with_reducible refine gi_W hL hb ?_
  with_reducible refine And.intro ?_ ?_
  with_reducible assumption
  with_reducible refine And.intro ?_ ?_
  omega
  with_reducible refine And.intro ?_ ?_
  omega
  with_reducible refine And.intro ?_ ?_
  omega
  with_reducible refine fL_order hL (fun hXpc0 => ?_) (fun hQpc0 hQpc1 hQpw hQph hQpo => ?_)
  simp only [eL_law_569, eL_law_573, eL_law_578, eL_law_584, kx_l, wt_nil, nl_int, tl_s, Nat.add_zero]
  with_reducible refine gi_W hL hb ?_
  with_reducible refine And.intro ?_ ?_
  with_reducible assumption
  with_reducible refine gi_W hL hb ?_
  with_reducible refine And.intro ?_ ?_
  with_reducible assumption
  with_reducible refine And.intro ?_ ?_
  with_reducible refine LW.gz hL (fun _ => trivial)
  with_reducible refine And.intro ?_ ?_
  omega
  with_reducible refine And.intro ?_ ?_
  omega
  with_reducible refine And.intro ?_ ?_
  omega
  with_reducible refine fX3_order (LW.ms hL) (fun hXqc0 hXqw hXqh => ?_) (fun hQqc0 hQqc1 hQqw hQqh => ?_)
  simp only [eL_law_587, kx_l, nl_int, tl_s]
  with_reducible exact next _ _ _ _ _ _ _ _ (LW.ofM hL hXqh) (by omega) (by omega)
  with_reducible exact absurd (And.intro hQqc0 hQqc1) hXpc0
  simp only [eL_law_569, eL_law_573, eL_law_578, eL_law_584, kx_l, wt_nil, nl_int, tl_s, Nat.add_zero]
  with_reducible refine gi_W hQph hb ?_
  with_reducible refine And.intro ?_ ?_
  with_reducible assumption
  with_reducible refine gi_W hQph hb ?_
  with_reducible refine And.intro ?_ ?_
  with_reducible assumption
  with_reducible refine And.intro ?_ ?_
  with_reducible refine LW.gz hQph (fun _ => trivial)
  with_reducible refine And.intro ?_ ?_
  omega
  with_reducible refine And.intro ?_ ?_
  omega
  with_reducible refine And.intro ?_ ?_
  omega
  with_reducible refine fX3_order (LW.ms hQph) (fun hXqc0 hXqw hXqh => ?_) (fun hQqc0 hQqc1 hQqw hQqh => ?_)
  with_reducible exact absurd (And.intro hQpc0 hQpc1) hXqc0
  simp only [eL_law_587, kx_l, nl_int, tl_s]
  with_reducible exact next _ _ _ _ _ _ _ _ (LW.ofM hQph hQqh) (by omega) (by omega)
set_option maxHeartbeats 4000000 in
theorem cL_8 (hR : RG g) (hb : g.2 b = some (.inl (1, L, .inl xs))) (hL : LW g w x nA cA lA y nM o kn kn th s s) (v1 : vp_in (i + 1) L) (v2 : vp_in (i + 2) L) (v3 : vp_in (i + 3) L) (v4 : vp_in (i + 4) L) (v5 : vp_in (i + 5) L) (hk : k + 114 ≤ 58408) (hn : n + 2834 ≤ 1451408) (next : (∀ (l5' l6' : Option Value) (w' : Hw) (k' n' : Nat) (kn' th' : Int32) (s' : AS), LW g w' x nA cA lA y nM o kn' kn' th' s' s' → k' ≤ k + 114 → n' ≤ n + 2834 → WP (ML_law g) QLaw (2246, [some (.ref b), some (.ref x), some (.ref y), some (.ref o), some (.int i), l5', l6'], [], w', k', n'))) : WP (ML_law g) QLaw (592, [some (.ref b), some (.ref x), some (.ref y), some (.ref o), some (.int i), l5, l6], [], w, k, n) := by
  simp only [eL_law_592, eL_law_599, eL_law_605, eL_law_611, wt_nil]
  with_reducible refine gi_W hL hb ?_
  with_reducible refine And.intro ?_ ?_
  with_reducible assumption
  with_reducible refine gi_W hL hb ?_
  with_reducible refine And.intro ?_ ?_
  with_reducible assumption
  with_reducible refine gi_W hL hb ?_
  with_reducible refine And.intro ?_ ?_
  with_reducible assumption
  with_reducible refine And.intro ?_ ?_
  omega
  with_reducible refine And.intro ?_ ?_
  omega
  with_reducible refine And.intro ?_ ?_
  omega
  with_reducible refine fL_two hL (fun hXpc0 => ?_) (fun hTpc0 hTpc1 hTpc2 hTpc3 hTpw hTph hTpo => ?_) (fun hFpc0 hFpc1 hFpc2 hFpc3 hFpw hFph hFpo => ?_)
  simp only [eL_law_615, eL_law_619, eL_law_624, eL_law_630, eL_law_636, kx_l, wt_nil, nl_int, tl_s]
  with_reducible refine gi_W hL hb ?_
  with_reducible refine And.intro ?_ ?_
  with_reducible assumption
  with_reducible refine gi_W hL hb ?_
  with_reducible refine And.intro ?_ ?_
  with_reducible assumption
  with_reducible refine gi_W hL hb ?_
  with_reducible refine And.intro ?_ ?_
  with_reducible assumption
  with_reducible refine And.intro ?_ ?_
  with_reducible refine LW.gz hL (fun _ => trivial)
  with_reducible refine And.intro ?_ ?_
  omega
  with_reducible refine And.intro ?_ ?_
  omega
  with_reducible refine And.intro ?_ ?_
  omega
  with_reducible refine fX3_two (LW.ms hL) (fun hXqc0 hXqw hXqh => ?_) (fun hTqc0 hTqc1 hTqc2 hTqc3 hTqw hTqh => ?_) (fun hFqc0 hFqc1 hFqc2 hFqc3 hFqw hFqh => ?_)
  simp only [eL_law_639, kx_l, nl_int, tl_s]
  with_reducible exact next _ _ _ _ _ _ _ _ (LW.ofM hL hXqh) (by omega) (by omega)
  with_reducible exact absurd (And.intro hTqc0 (And.intro hTqc1 hTqc2)) hXpc0
  with_reducible exact absurd (And.intro hFqc0 (And.intro hFqc1 hFqc2)) hXpc0
  simp only [eL_law_615, eL_law_619, eL_law_624, eL_law_630, eL_law_636, kx_l, wt_nil, nl_int, tl_s]
  with_reducible refine gi_W hTph hb ?_
  with_reducible refine And.intro ?_ ?_
  with_reducible assumption
  with_reducible refine gi_W hTph hb ?_
  with_reducible refine And.intro ?_ ?_
  with_reducible assumption
  with_reducible refine gi_W hTph hb ?_
  with_reducible refine And.intro ?_ ?_
  with_reducible assumption
  with_reducible refine And.intro ?_ ?_
  with_reducible refine LW.gz hTph (fun _ => trivial)
  with_reducible refine And.intro ?_ ?_
  omega
  with_reducible refine And.intro ?_ ?_
  omega
  with_reducible refine And.intro ?_ ?_
  omega
  with_reducible refine fX3_two (LW.ms hTph) (fun hXqc0 hXqw hXqh => ?_) (fun hTqc0 hTqc1 hTqc2 hTqc3 hTqw hTqh => ?_) (fun hFqc0 hFqc1 hFqc2 hFqc3 hFqw hFqh => ?_)
  with_reducible exact absurd (And.intro hTpc0 (And.intro hTpc1 hTpc2)) hXqc0
  simp only [eL_law_639, kx_l, nl_int, tl_s]
  with_reducible exact next _ _ _ _ _ _ _ _ (LW.ofM hTph hTqh) (by omega) (by omega)
  with_reducible exact absurd hTpc3 hFqc3
  simp only [eL_law_615, eL_law_619, eL_law_624, eL_law_630, eL_law_636, kx_l, wt_nil, nl_int, tl_s]
  with_reducible refine gi_W hFph hb ?_
  with_reducible refine And.intro ?_ ?_
  with_reducible assumption
  with_reducible refine gi_W hFph hb ?_
  with_reducible refine And.intro ?_ ?_
  with_reducible assumption
  with_reducible refine gi_W hFph hb ?_
  with_reducible refine And.intro ?_ ?_
  with_reducible assumption
  with_reducible refine And.intro ?_ ?_
  with_reducible refine LW.gz hFph (fun _ => trivial)
  with_reducible refine And.intro ?_ ?_
  omega
  with_reducible refine And.intro ?_ ?_
  omega
  with_reducible refine And.intro ?_ ?_
  omega
  with_reducible refine fX3_two (LW.ms hFph) (fun hXqc0 hXqw hXqh => ?_) (fun hTqc0 hTqc1 hTqc2 hTqc3 hTqw hTqh => ?_) (fun hFqc0 hFqc1 hFqc2 hFqc3 hFqw hFqh => ?_)
  with_reducible exact absurd (And.intro hFpc0 (And.intro hFpc1 hFpc2)) hXqc0
  with_reducible exact absurd hTqc3 hFpc3
  simp only [eL_law_639, kx_l, nl_int, tl_s]
  with_reducible exact next _ _ _ _ _ _ _ _ (LW.ofM hFph hFqh) (by omega) (by omega)
set_option maxHeartbeats 4000000 in
theorem cL_9 (hR : RG g) (hb : g.2 b = some (.inl (1, L, .inl xs))) (hL : LW g w x nA cA lA y nM o kn kn th s s) (v1 : vp_in (i + 1) L) (v2 : vp_in (i + 2) L) (v3 : vp_in (i + 3) L) (v4 : vp_in (i + 4) L) (v5 : vp_in (i + 5) L) (hk : k + 114 ≤ 58408) (hn : n + 2834 ≤ 1451408) (next : (∀ (l5' l6' : Option Value) (w' : Hw) (k' n' : Nat) (kn' th' : Int32) (s' : AS), LW g w' x nA cA lA y nM o kn' kn' th' s' s' → k' ≤ k + 114 → n' ≤ n + 2834 → WP (ML_law g) QLaw (2246, [some (.ref b), some (.ref x), some (.ref y), some (.ref o), some (.int i), l5', l6'], [], w', k', n'))) : WP (ML_law g) QLaw (644, [some (.ref b), some (.ref x), some (.ref y), some (.ref o), some (.int i), l5, l6], [], w, k, n) := by
  simp only [eL_law_644, eL_law_651, eL_law_657, eL_law_663, eL_law_669, wt_nil]
  with_reducible refine gi_W hL hb ?_
  with_reducible refine And.intro ?_ ?_
  with_reducible assumption
  with_reducible refine gi_W hL hb ?_
  with_reducible refine And.intro ?_ ?_
  with_reducible assumption
  with_reducible refine gi_W hL hb ?_
  with_reducible refine And.intro ?_ ?_
  with_reducible assumption
  with_reducible refine gi_W hL hb ?_
  with_reducible refine And.intro ?_ ?_
  with_reducible assumption
  with_reducible refine And.intro ?_ ?_
  omega
  with_reducible refine And.intro ?_ ?_
  omega
  with_reducible refine And.intro ?_ ?_
  omega
  with_reducible refine fL_three hL (fun hXpc0 => ?_) (fun hTpc0 hTpc1 hTpc2 hTpc3 hTpc4 hTpw hTph hTpo => ?_) (fun hFpc0 hFpc1 hFpc2 hFpc3 hFpc4 hFpw hFph hFpo => ?_)
  simp only [eL_law_673, eL_law_677, eL_law_682, eL_law_688, eL_law_694, eL_law_700, kx_l, wt_nil, nl_int, tl_s]
  with_reducible refine gi_W hL hb ?_
  with_reducible refine And.intro ?_ ?_
  with_reducible assumption
  with_reducible refine gi_W hL hb ?_
  with_reducible refine And.intro ?_ ?_
  with_reducible assumption
  with_reducible refine gi_W hL hb ?_
  with_reducible refine And.intro ?_ ?_
  with_reducible assumption
  with_reducible refine gi_W hL hb ?_
  with_reducible refine And.intro ?_ ?_
  with_reducible assumption
  with_reducible refine And.intro ?_ ?_
  with_reducible refine LW.gz hL (fun _ => trivial)
  with_reducible refine And.intro ?_ ?_
  omega
  with_reducible refine And.intro ?_ ?_
  omega
  with_reducible refine And.intro ?_ ?_
  omega
  with_reducible refine fX3_three (LW.ms hL) (fun hXqc0 hXqw hXqh => ?_) (fun hTqc0 hTqc1 hTqc2 hTqc3 hTqc4 hTqw hTqh => ?_) (fun hFqc0 hFqc1 hFqc2 hFqc3 hFqc4 hFqw hFqh => ?_)
  simp only [eL_law_703, kx_l, nl_int, tl_s]
  with_reducible exact next _ _ _ _ _ _ _ _ (LW.ofM hL hXqh) (by omega) (by omega)
  with_reducible exact absurd (And.intro hTqc0 (And.intro hTqc1 (And.intro hTqc2 hTqc3))) hXpc0
  with_reducible exact absurd (And.intro hFqc0 (And.intro hFqc1 (And.intro hFqc2 hFqc3))) hXpc0
  simp only [eL_law_673, eL_law_677, eL_law_682, eL_law_688, eL_law_694, eL_law_700, kx_l, wt_nil, nl_int, tl_s]
  with_reducible refine gi_W hTph hb ?_
  with_reducible refine And.intro ?_ ?_
  with_reducible assumption
  with_reducible refine gi_W hTph hb ?_
  with_reducible refine And.intro ?_ ?_
  with_reducible assumption
  with_reducible refine gi_W hTph hb ?_
  with_reducible refine And.intro ?_ ?_
  with_reducible assumption
  with_reducible refine gi_W hTph hb ?_
  with_reducible refine And.intro ?_ ?_
  with_reducible assumption
  with_reducible refine And.intro ?_ ?_
  with_reducible refine LW.gz hTph (fun _ => trivial)
  with_reducible refine And.intro ?_ ?_
  omega
  with_reducible refine And.intro ?_ ?_
  omega
  with_reducible refine And.intro ?_ ?_
  omega
  with_reducible refine fX3_three (LW.ms hTph) (fun hXqc0 hXqw hXqh => ?_) (fun hTqc0 hTqc1 hTqc2 hTqc3 hTqc4 hTqw hTqh => ?_) (fun hFqc0 hFqc1 hFqc2 hFqc3 hFqc4 hFqw hFqh => ?_)
  with_reducible exact absurd (And.intro hTpc0 (And.intro hTpc1 (And.intro hTpc2 hTpc3))) hXqc0
  simp only [eL_law_703, kx_l, nl_int, tl_s]
  with_reducible exact next _ _ _ _ _ _ _ _ (LW.ofM hTph hTqh) (by omega) (by omega)
  with_reducible exact absurd hTpc4 hFqc4
  simp only [eL_law_673, eL_law_677, eL_law_682, eL_law_688, eL_law_694, eL_law_700, kx_l, wt_nil, nl_int, tl_s]
  with_reducible refine gi_W hFph hb ?_
  with_reducible refine And.intro ?_ ?_
  with_reducible assumption
  with_reducible refine gi_W hFph hb ?_
  with_reducible refine And.intro ?_ ?_
  with_reducible assumption
  with_reducible refine gi_W hFph hb ?_
  with_reducible refine And.intro ?_ ?_
  with_reducible assumption
  with_reducible refine gi_W hFph hb ?_
  with_reducible refine And.intro ?_ ?_
  with_reducible assumption
  with_reducible refine And.intro ?_ ?_
  with_reducible refine LW.gz hFph (fun _ => trivial)
  with_reducible refine And.intro ?_ ?_
  omega
  with_reducible refine And.intro ?_ ?_
  omega
  with_reducible refine And.intro ?_ ?_
  omega
  with_reducible refine fX3_three (LW.ms hFph) (fun hXqc0 hXqw hXqh => ?_) (fun hTqc0 hTqc1 hTqc2 hTqc3 hTqc4 hTqw hTqh => ?_) (fun hFqc0 hFqc1 hFqc2 hFqc3 hFqc4 hFqw hFqh => ?_)
  with_reducible exact absurd (And.intro hFpc0 (And.intro hFpc1 (And.intro hFpc2 hFpc3))) hXqc0
  with_reducible exact absurd hTqc4 hFpc4
  simp only [eL_law_703, kx_l, nl_int, tl_s]
  with_reducible exact next _ _ _ _ _ _ _ _ (LW.ofM hFph hFqh) (by omega) (by omega)
set_option maxHeartbeats 4000000 in
theorem cL_10 (hR : RG g) (hb : g.2 b = some (.inl (1, L, .inl xs))) (hL : LW g w x nA cA lA y nM o kn kn th s s) (v1 : vp_in (i + 1) L) (v2 : vp_in (i + 2) L) (v3 : vp_in (i + 3) L) (v4 : vp_in (i + 4) L) (v5 : vp_in (i + 5) L) (hk : k + 114 ≤ 58408) (hn : n + 2834 ≤ 1451408) (next : (∀ (l5' l6' : Option Value) (w' : Hw) (k' n' : Nat) (kn' th' : Int32) (s' : AS), LW g w' x nA cA lA y nM o kn' kn' th' s' s' → k' ≤ k + 114 → n' ≤ n + 2834 → WP (ML_law g) QLaw (2246, [some (.ref b), some (.ref x), some (.ref y), some (.ref o), some (.int i), l5', l6'], [], w', k', n'))) : WP (ML_law g) QLaw (708, [some (.ref b), some (.ref x), some (.ref y), some (.ref o), some (.int i), l5, l6], [], w, k, n) := by
  simp only [eL_law_708, eL_law_715, eL_law_721, eL_law_727, eL_law_733, eL_law_739, wt_nil]
  with_reducible refine gi_W hL hb ?_
  with_reducible refine And.intro ?_ ?_
  with_reducible assumption
  with_reducible refine gi_W hL hb ?_
  with_reducible refine And.intro ?_ ?_
  with_reducible assumption
  with_reducible refine gi_W hL hb ?_
  with_reducible refine And.intro ?_ ?_
  with_reducible assumption
  with_reducible refine gi_W hL hb ?_
  with_reducible refine And.intro ?_ ?_
  with_reducible assumption
  with_reducible refine gi_W hL hb ?_
  with_reducible refine And.intro ?_ ?_
  with_reducible assumption
  with_reducible refine And.intro ?_ ?_
  omega
  with_reducible refine And.intro ?_ ?_
  omega
  with_reducible refine And.intro ?_ ?_
  omega
  with_reducible refine fL_four hL (fun hXpc0 => ?_) (fun hTpc0 hTpc1 hTpc2 hTpc3 hTpc4 hTpc5 hTpw hTph hTpo => ?_) (fun hFpc0 hFpc1 hFpc2 hFpc3 hFpc4 hFpc5 hFpw hFph hFpo => ?_)
  simp only [eL_law_743, eL_law_747, eL_law_752, eL_law_758, eL_law_764, eL_law_770, eL_law_776, kx_l, wt_nil, nl_int, tl_s]
  with_reducible refine gi_W hL hb ?_
  with_reducible refine And.intro ?_ ?_
  with_reducible assumption
  with_reducible refine gi_W hL hb ?_
  with_reducible refine And.intro ?_ ?_
  with_reducible assumption
  with_reducible refine gi_W hL hb ?_
  with_reducible refine And.intro ?_ ?_
  with_reducible assumption
  with_reducible refine gi_W hL hb ?_
  with_reducible refine And.intro ?_ ?_
  with_reducible assumption
  with_reducible refine gi_W hL hb ?_
  with_reducible refine And.intro ?_ ?_
  with_reducible assumption
  with_reducible refine And.intro ?_ ?_
  with_reducible refine LW.gz hL (fun _ => trivial)
  with_reducible refine And.intro ?_ ?_
  omega
  with_reducible refine And.intro ?_ ?_
  omega
  with_reducible refine And.intro ?_ ?_
  omega
  with_reducible refine fX3_four (LW.ms hL) (fun hXqc0 hXqw hXqh => ?_) (fun hTqc0 hTqc1 hTqc2 hTqc3 hTqc4 hTqc5 hTqw hTqh => ?_) (fun hFqc0 hFqc1 hFqc2 hFqc3 hFqc4 hFqc5 hFqw hFqh => ?_)
  simp only [eL_law_779, kx_l, nl_int, tl_s]
  with_reducible exact next _ _ _ _ _ _ _ _ (LW.ofM hL hXqh) (by omega) (by omega)
  with_reducible exact absurd (And.intro hTqc0 (And.intro hTqc1 (And.intro hTqc2 (And.intro hTqc3 hTqc4)))) hXpc0
  with_reducible exact absurd (And.intro hFqc0 (And.intro hFqc1 (And.intro hFqc2 (And.intro hFqc3 hFqc4)))) hXpc0
  simp only [eL_law_743, eL_law_747, eL_law_752, eL_law_758, eL_law_764, eL_law_770, eL_law_776, kx_l, wt_nil, nl_int, tl_s]
  with_reducible refine gi_W hTph hb ?_
  with_reducible refine And.intro ?_ ?_
  with_reducible assumption
  with_reducible refine gi_W hTph hb ?_
  with_reducible refine And.intro ?_ ?_
  with_reducible assumption
  with_reducible refine gi_W hTph hb ?_
  with_reducible refine And.intro ?_ ?_
  with_reducible assumption
  with_reducible refine gi_W hTph hb ?_
  with_reducible refine And.intro ?_ ?_
  with_reducible assumption
  with_reducible refine gi_W hTph hb ?_
  with_reducible refine And.intro ?_ ?_
  with_reducible assumption
  with_reducible refine And.intro ?_ ?_
  with_reducible refine LW.gz hTph (fun _ => trivial)
  with_reducible refine And.intro ?_ ?_
  omega
  with_reducible refine And.intro ?_ ?_
  omega
  with_reducible refine And.intro ?_ ?_
  omega
  with_reducible refine fX3_four (LW.ms hTph) (fun hXqc0 hXqw hXqh => ?_) (fun hTqc0 hTqc1 hTqc2 hTqc3 hTqc4 hTqc5 hTqw hTqh => ?_) (fun hFqc0 hFqc1 hFqc2 hFqc3 hFqc4 hFqc5 hFqw hFqh => ?_)
  with_reducible exact absurd (And.intro hTpc0 (And.intro hTpc1 (And.intro hTpc2 (And.intro hTpc3 hTpc4)))) hXqc0
  simp only [eL_law_779, kx_l, nl_int, tl_s]
  with_reducible exact next _ _ _ _ _ _ _ _ (LW.ofM hTph hTqh) (by omega) (by omega)
  with_reducible exact absurd hTpc5 hFqc5
  simp only [eL_law_743, eL_law_747, eL_law_752, eL_law_758, eL_law_764, eL_law_770, eL_law_776, kx_l, wt_nil, nl_int, tl_s]
  with_reducible refine gi_W hFph hb ?_
  with_reducible refine And.intro ?_ ?_
  with_reducible assumption
  with_reducible refine gi_W hFph hb ?_
  with_reducible refine And.intro ?_ ?_
  with_reducible assumption
  with_reducible refine gi_W hFph hb ?_
  with_reducible refine And.intro ?_ ?_
  with_reducible assumption
  with_reducible refine gi_W hFph hb ?_
  with_reducible refine And.intro ?_ ?_
  with_reducible assumption
  with_reducible refine gi_W hFph hb ?_
  with_reducible refine And.intro ?_ ?_
  with_reducible assumption
  with_reducible refine And.intro ?_ ?_
  with_reducible refine LW.gz hFph (fun _ => trivial)
  with_reducible refine And.intro ?_ ?_
  omega
  with_reducible refine And.intro ?_ ?_
  omega
  with_reducible refine And.intro ?_ ?_
  omega
  with_reducible refine fX3_four (LW.ms hFph) (fun hXqc0 hXqw hXqh => ?_) (fun hTqc0 hTqc1 hTqc2 hTqc3 hTqc4 hTqc5 hTqw hTqh => ?_) (fun hFqc0 hFqc1 hFqc2 hFqc3 hFqc4 hFqc5 hFqw hFqh => ?_)
  with_reducible exact absurd (And.intro hFpc0 (And.intro hFpc1 (And.intro hFpc2 (And.intro hFpc3 hFpc4)))) hXqc0
  with_reducible exact absurd hTqc5 hFpc5
  simp only [eL_law_779, kx_l, nl_int, tl_s]
  with_reducible exact next _ _ _ _ _ _ _ _ (LW.ofM hFph hFqh) (by omega) (by omega)
set_option maxHeartbeats 4000000 in
theorem cL_11 (hR : RG g) (hb : g.2 b = some (.inl (1, L, .inl xs))) (hL : LW g w x nA cA lA y nM o kn kn th s s) (v1 : vp_in (i + 1) L) (v2 : vp_in (i + 2) L) (v3 : vp_in (i + 3) L) (v4 : vp_in (i + 4) L) (v5 : vp_in (i + 5) L) (hk : k + 114 ≤ 58408) (hn : n + 2834 ≤ 1451408) (next : (∀ (l5' l6' : Option Value) (w' : Hw) (k' n' : Nat) (kn' th' : Int32) (s' : AS), LW g w' x nA cA lA y nM o kn' kn' th' s' s' → k' ≤ k + 114 → n' ≤ n + 2834 → WP (ML_law g) QLaw (2246, [some (.ref b), some (.ref x), some (.ref y), some (.ref o), some (.int i), l5', l6'], [], w', k', n'))) : WP (ML_law g) QLaw (784, [some (.ref b), some (.ref x), some (.ref y), some (.ref o), some (.int i), l5, l6], [], w, k, n) := by
  simp only [eL_law_784, eL_law_791, eL_law_797, eL_law_803, wt_nil]
  with_reducible refine gi_W hL hb ?_
  with_reducible refine And.intro ?_ ?_
  with_reducible assumption
  with_reducible refine gi_W hL hb ?_
  with_reducible refine And.intro ?_ ?_
  with_reducible assumption
  with_reducible refine gi_W hL hb ?_
  with_reducible refine And.intro ?_ ?_
  with_reducible assumption
  with_reducible refine And.intro ?_ ?_
  omega
  with_reducible refine And.intro ?_ ?_
  omega
  with_reducible refine And.intro ?_ ?_
  omega
  with_reducible refine fL_twoSmall hL (fun hXpc0 => ?_) (fun hTpc0 hTpc1 hTpw hTph hTpo => ?_) (fun hFpc0 hFpc1 hFpw hFph hFpo => ?_)
  simp only [eL_law_807, eL_law_811, eL_law_816, eL_law_822, eL_law_828, kx_l, wt_nil, nl_int, tl_s]
  with_reducible refine gi_W hL hb ?_
  with_reducible refine And.intro ?_ ?_
  with_reducible assumption
  with_reducible refine gi_W hL hb ?_
  with_reducible refine And.intro ?_ ?_
  with_reducible assumption
  with_reducible refine gi_W hL hb ?_
  with_reducible refine And.intro ?_ ?_
  with_reducible assumption
  with_reducible refine And.intro ?_ ?_
  with_reducible refine LW.gz hL (fun _ => trivial)
  with_reducible refine And.intro ?_ ?_
  omega
  with_reducible refine And.intro ?_ ?_
  omega
  with_reducible refine And.intro ?_ ?_
  omega
  with_reducible refine fX3_twoSmall (LW.ms hL) (fun hXqc0 hXqw hXqh => ?_) (fun hTqc0 hTqc1 hTqw hTqh => ?_) (fun hFqc0 hFqc1 hFqw hFqh => ?_)
  simp only [eL_law_831, kx_l, nl_int, tl_s]
  with_reducible exact next _ _ _ _ _ _ _ _ (LW.ofM hL hXqh) (by omega) (by omega)
  with_reducible exact absurd hTqc0 hXpc0
  with_reducible exact absurd hFqc0 hXpc0
  simp only [eL_law_807, eL_law_811, eL_law_816, eL_law_822, eL_law_828, kx_l, wt_nil, nl_int, tl_s]
  with_reducible refine gi_W hTph hb ?_
  with_reducible refine And.intro ?_ ?_
  with_reducible assumption
  with_reducible refine gi_W hTph hb ?_
  with_reducible refine And.intro ?_ ?_
  with_reducible assumption
  with_reducible refine gi_W hTph hb ?_
  with_reducible refine And.intro ?_ ?_
  with_reducible assumption
  with_reducible refine And.intro ?_ ?_
  with_reducible refine LW.gz hTph (fun _ => trivial)
  with_reducible refine And.intro ?_ ?_
  omega
  with_reducible refine And.intro ?_ ?_
  omega
  with_reducible refine And.intro ?_ ?_
  omega
  with_reducible refine fX3_twoSmall (LW.ms hTph) (fun hXqc0 hXqw hXqh => ?_) (fun hTqc0 hTqc1 hTqw hTqh => ?_) (fun hFqc0 hFqc1 hFqw hFqh => ?_)
  with_reducible exact absurd hTpc0 hXqc0
  simp only [eL_law_831, kx_l, nl_int, tl_s]
  with_reducible exact next _ _ _ _ _ _ _ _ (LW.ofM hTph hTqh) (by omega) (by omega)
  with_reducible exact absurd hTpc1 hFqc1
  simp only [eL_law_807, eL_law_811, eL_law_816, eL_law_822, eL_law_828, kx_l, wt_nil, nl_int, tl_s]
  with_reducible refine gi_W hFph hb ?_
  with_reducible refine And.intro ?_ ?_
  with_reducible assumption
  with_reducible refine gi_W hFph hb ?_
  with_reducible refine And.intro ?_ ?_
  with_reducible assumption
  with_reducible refine gi_W hFph hb ?_
  with_reducible refine And.intro ?_ ?_
  with_reducible assumption
  with_reducible refine And.intro ?_ ?_
  with_reducible refine LW.gz hFph (fun _ => trivial)
  with_reducible refine And.intro ?_ ?_
  omega
  with_reducible refine And.intro ?_ ?_
  omega
  with_reducible refine And.intro ?_ ?_
  omega
  with_reducible refine fX3_twoSmall (LW.ms hFph) (fun hXqc0 hXqw hXqh => ?_) (fun hTqc0 hTqc1 hTqw hTqh => ?_) (fun hFqc0 hFqc1 hFqw hFqh => ?_)
  with_reducible exact absurd hFpc0 hXqc0
  with_reducible exact absurd hTqc1 hFpc1
  simp only [eL_law_831, kx_l, nl_int, tl_s]
  with_reducible exact next _ _ _ _ _ _ _ _ (LW.ofM hFph hFqh) (by omega) (by omega)
end
end
/-! 79.cw1.lean.txt -/
section
section
variable {g : RO} {w : Hw} {x nA cA lA y nM o b L k n : Nat} {xs : Nat → Int32} {i kn th : Int32} {s : AS} {l5 l6 : Option Value}
set_option maxHeartbeats 4000000 in
theorem cL_12 (hR : RG g) (hb : g.2 b = some (.inl (1, L, .inl xs))) (hL : LW g w x nA cA lA y nM o kn kn th s s) (v1 : vp_in (i + 1) L) (v2 : vp_in (i + 2) L) (v3 : vp_in (i + 3) L) (v4 : vp_in (i + 4) L) (v5 : vp_in (i + 5) L) (hk : k + 114 ≤ 58408) (hn : n + 2834 ≤ 1451408) (next : (∀ (l5' l6' : Option Value) (w' : Hw) (k' n' : Nat) (kn' th' : Int32) (s' : AS), LW g w' x nA cA lA y nM o kn' kn' th' s' s' → k' ≤ k + 114 → n' ≤ n + 2834 → WP (ML_law g) QLaw (2246, [some (.ref b), some (.ref x), some (.ref y), some (.ref o), some (.int i), l5', l6'], [], w', k', n'))) : WP (ML_law g) QLaw (836, [some (.ref b), some (.ref x), some (.ref y), some (.ref o), some (.int i), l5, l6], [], w, k, n) := by
  simp only [eL_law_836, eL_law_843, eL_law_849, eL_law_855, eL_law_861, wt_nil]
  with_reducible refine gi_W hL hb ?_
  with_reducible refine And.intro ?_ ?_
  with_reducible assumption
  with_reducible refine gi_W hL hb ?_
  with_reducible refine And.intro ?_ ?_
  with_reducible assumption
  with_reducible refine gi_W hL hb ?_
  with_reducible refine And.intro ?_ ?_
  with_reducible assumption
  with_reducible refine gi_W hL hb ?_
  with_reducible refine And.intro ?_ ?_
  with_reducible assumption
  with_reducible refine And.intro ?_ ?_
  omega
  with_reducible refine And.intro ?_ ?_
  omega
  with_reducible refine And.intro ?_ ?_
  omega
  with_reducible refine fL_threeSmall hL (fun hXpc0 => ?_) (fun hTpc0 hTpc1 hTpw hTph hTpo => ?_) (fun hFpc0 hFpc1 hFpw hFph hFpo => ?_)
  simp only [eL_law_865, eL_law_869, eL_law_874, eL_law_880, eL_law_886, eL_law_892, kx_l, wt_nil, nl_int, tl_s]
  with_reducible refine gi_W hL hb ?_
  with_reducible refine And.intro ?_ ?_
  with_reducible assumption
  with_reducible refine gi_W hL hb ?_
  with_reducible refine And.intro ?_ ?_
  with_reducible assumption
  with_reducible refine gi_W hL hb ?_
  with_reducible refine And.intro ?_ ?_
  with_reducible assumption
  with_reducible refine gi_W hL hb ?_
  with_reducible refine And.intro ?_ ?_
  with_reducible assumption
  with_reducible refine And.intro ?_ ?_
  with_reducible refine LW.gz hL (fun _ => trivial)
  with_reducible refine And.intro ?_ ?_
  omega
  with_reducible refine And.intro ?_ ?_
  omega
  with_reducible refine And.intro ?_ ?_
  omega
  with_reducible refine fX3_threeSmall (LW.ms hL) (fun hXqc0 hXqw hXqh => ?_) (fun hTqc0 hTqc1 hTqw hTqh => ?_) (fun hFqc0 hFqc1 hFqw hFqh => ?_)
  simp only [eL_law_895, kx_l, nl_int, tl_s]
  with_reducible exact next _ _ _ _ _ _ _ _ (LW.ofM hL hXqh) (by omega) (by omega)
  with_reducible exact absurd hTqc0 hXpc0
  with_reducible exact absurd hFqc0 hXpc0
  simp only [eL_law_865, eL_law_869, eL_law_874, eL_law_880, eL_law_886, eL_law_892, kx_l, wt_nil, nl_int, tl_s]
  with_reducible refine gi_W hTph hb ?_
  with_reducible refine And.intro ?_ ?_
  with_reducible assumption
  with_reducible refine gi_W hTph hb ?_
  with_reducible refine And.intro ?_ ?_
  with_reducible assumption
  with_reducible refine gi_W hTph hb ?_
  with_reducible refine And.intro ?_ ?_
  with_reducible assumption
  with_reducible refine gi_W hTph hb ?_
  with_reducible refine And.intro ?_ ?_
  with_reducible assumption
  with_reducible refine And.intro ?_ ?_
  with_reducible refine LW.gz hTph (fun _ => trivial)
  with_reducible refine And.intro ?_ ?_
  omega
  with_reducible refine And.intro ?_ ?_
  omega
  with_reducible refine And.intro ?_ ?_
  omega
  with_reducible refine fX3_threeSmall (LW.ms hTph) (fun hXqc0 hXqw hXqh => ?_) (fun hTqc0 hTqc1 hTqw hTqh => ?_) (fun hFqc0 hFqc1 hFqw hFqh => ?_)
  with_reducible exact absurd hTpc0 hXqc0
  simp only [eL_law_895, kx_l, nl_int, tl_s]
  with_reducible exact next _ _ _ _ _ _ _ _ (LW.ofM hTph hTqh) (by omega) (by omega)
  with_reducible exact absurd hTpc1 hFqc1
  simp only [eL_law_865, eL_law_869, eL_law_874, eL_law_880, eL_law_886, eL_law_892, kx_l, wt_nil, nl_int, tl_s]
  with_reducible refine gi_W hFph hb ?_
  with_reducible refine And.intro ?_ ?_
  with_reducible assumption
  with_reducible refine gi_W hFph hb ?_
  with_reducible refine And.intro ?_ ?_
  with_reducible assumption
  with_reducible refine gi_W hFph hb ?_
  with_reducible refine And.intro ?_ ?_
  with_reducible assumption
  with_reducible refine gi_W hFph hb ?_
  with_reducible refine And.intro ?_ ?_
  with_reducible assumption
  with_reducible refine And.intro ?_ ?_
  with_reducible refine LW.gz hFph (fun _ => trivial)
  with_reducible refine And.intro ?_ ?_
  omega
  with_reducible refine And.intro ?_ ?_
  omega
  with_reducible refine And.intro ?_ ?_
  omega
  with_reducible refine fX3_threeSmall (LW.ms hFph) (fun hXqc0 hXqw hXqh => ?_) (fun hTqc0 hTqc1 hTqw hTqh => ?_) (fun hFqc0 hFqc1 hFqw hFqh => ?_)
  with_reducible exact absurd hFpc0 hXqc0
  with_reducible exact absurd hTqc1 hFpc1
  simp only [eL_law_895, kx_l, nl_int, tl_s]
  with_reducible exact next _ _ _ _ _ _ _ _ (LW.ofM hFph hFqh) (by omega) (by omega)
set_option maxHeartbeats 4000000 in
theorem cL_13 (hR : RG g) (hb : g.2 b = some (.inl (1, L, .inl xs))) (hL : LW g w x nA cA lA y nM o kn kn th s s) (v1 : vp_in (i + 1) L) (v2 : vp_in (i + 2) L) (v3 : vp_in (i + 3) L) (v4 : vp_in (i + 4) L) (v5 : vp_in (i + 5) L) (hk : k + 114 ≤ 58408) (hn : n + 2834 ≤ 1451408) (next : (∀ (l5' l6' : Option Value) (w' : Hw) (k' n' : Nat) (kn' th' : Int32) (s' : AS), LW g w' x nA cA lA y nM o kn' kn' th' s' s' → k' ≤ k + 114 → n' ≤ n + 2834 → WP (ML_law g) QLaw (2246, [some (.ref b), some (.ref x), some (.ref y), some (.ref o), some (.int i), l5', l6'], [], w', k', n'))) : WP (ML_law g) QLaw (900, [some (.ref b), some (.ref x), some (.ref y), some (.ref o), some (.int i), l5, l6], [], w, k, n) := by
  simp only [eL_law_900, eL_law_907, eL_law_913, eL_law_919, eL_law_925, eL_law_931, wt_nil]
  with_reducible refine gi_W hL hb ?_
  with_reducible refine And.intro ?_ ?_
  with_reducible assumption
  with_reducible refine gi_W hL hb ?_
  with_reducible refine And.intro ?_ ?_
  with_reducible assumption
  with_reducible refine gi_W hL hb ?_
  with_reducible refine And.intro ?_ ?_
  with_reducible assumption
  with_reducible refine gi_W hL hb ?_
  with_reducible refine And.intro ?_ ?_
  with_reducible assumption
  with_reducible refine gi_W hL hb ?_
  with_reducible refine And.intro ?_ ?_
  with_reducible assumption
  with_reducible refine And.intro ?_ ?_
  omega
  with_reducible refine And.intro ?_ ?_
  omega
  with_reducible refine And.intro ?_ ?_
  omega
  with_reducible refine fL_fourSmall hL (fun hXpc0 => ?_) (fun hTpc0 hTpc1 hTpw hTph hTpo => ?_) (fun hFpc0 hFpc1 hFpw hFph hFpo => ?_)
  simp only [eL_law_935, eL_law_939, eL_law_944, eL_law_950, eL_law_956, eL_law_962, eL_law_968, kx_l, wt_nil, nl_int, tl_s]
  with_reducible refine gi_W hL hb ?_
  with_reducible refine And.intro ?_ ?_
  with_reducible assumption
  with_reducible refine gi_W hL hb ?_
  with_reducible refine And.intro ?_ ?_
  with_reducible assumption
  with_reducible refine gi_W hL hb ?_
  with_reducible refine And.intro ?_ ?_
  with_reducible assumption
  with_reducible refine gi_W hL hb ?_
  with_reducible refine And.intro ?_ ?_
  with_reducible assumption
  with_reducible refine gi_W hL hb ?_
  with_reducible refine And.intro ?_ ?_
  with_reducible assumption
  with_reducible refine And.intro ?_ ?_
  with_reducible refine LW.gz hL (fun _ => trivial)
  with_reducible refine And.intro ?_ ?_
  omega
  with_reducible refine And.intro ?_ ?_
  omega
  with_reducible refine And.intro ?_ ?_
  omega
  with_reducible refine fX3_fourSmall (LW.ms hL) (fun hXqc0 hXqw hXqh => ?_) (fun hTqc0 hTqc1 hTqw hTqh => ?_) (fun hFqc0 hFqc1 hFqw hFqh => ?_)
  simp only [eL_law_971, kx_l, nl_int, tl_s]
  with_reducible exact next _ _ _ _ _ _ _ _ (LW.ofM hL hXqh) (by omega) (by omega)
  with_reducible exact absurd hTqc0 hXpc0
  with_reducible exact absurd hFqc0 hXpc0
  simp only [eL_law_935, eL_law_939, eL_law_944, eL_law_950, eL_law_956, eL_law_962, eL_law_968, kx_l, wt_nil, nl_int, tl_s]
  with_reducible refine gi_W hTph hb ?_
  with_reducible refine And.intro ?_ ?_
  with_reducible assumption
  with_reducible refine gi_W hTph hb ?_
  with_reducible refine And.intro ?_ ?_
  with_reducible assumption
  with_reducible refine gi_W hTph hb ?_
  with_reducible refine And.intro ?_ ?_
  with_reducible assumption
  with_reducible refine gi_W hTph hb ?_
  with_reducible refine And.intro ?_ ?_
  with_reducible assumption
  with_reducible refine gi_W hTph hb ?_
  with_reducible refine And.intro ?_ ?_
  with_reducible assumption
  with_reducible refine And.intro ?_ ?_
  with_reducible refine LW.gz hTph (fun _ => trivial)
  with_reducible refine And.intro ?_ ?_
  omega
  with_reducible refine And.intro ?_ ?_
  omega
  with_reducible refine And.intro ?_ ?_
  omega
  with_reducible refine fX3_fourSmall (LW.ms hTph) (fun hXqc0 hXqw hXqh => ?_) (fun hTqc0 hTqc1 hTqw hTqh => ?_) (fun hFqc0 hFqc1 hFqw hFqh => ?_)
  with_reducible exact absurd hTpc0 hXqc0
  simp only [eL_law_971, kx_l, nl_int, tl_s]
  with_reducible exact next _ _ _ _ _ _ _ _ (LW.ofM hTph hTqh) (by omega) (by omega)
  with_reducible exact absurd hTpc1 hFqc1
  simp only [eL_law_935, eL_law_939, eL_law_944, eL_law_950, eL_law_956, eL_law_962, eL_law_968, kx_l, wt_nil, nl_int, tl_s]
  with_reducible refine gi_W hFph hb ?_
  with_reducible refine And.intro ?_ ?_
  with_reducible assumption
  with_reducible refine gi_W hFph hb ?_
  with_reducible refine And.intro ?_ ?_
  with_reducible assumption
  with_reducible refine gi_W hFph hb ?_
  with_reducible refine And.intro ?_ ?_
  with_reducible assumption
  with_reducible refine gi_W hFph hb ?_
  with_reducible refine And.intro ?_ ?_
  with_reducible assumption
  with_reducible refine gi_W hFph hb ?_
  with_reducible refine And.intro ?_ ?_
  with_reducible assumption
  with_reducible refine And.intro ?_ ?_
  with_reducible refine LW.gz hFph (fun _ => trivial)
  with_reducible refine And.intro ?_ ?_
  omega
  with_reducible refine And.intro ?_ ?_
  omega
  with_reducible refine And.intro ?_ ?_
  omega
  with_reducible refine fX3_fourSmall (LW.ms hFph) (fun hXqc0 hXqw hXqh => ?_) (fun hTqc0 hTqc1 hTqw hTqh => ?_) (fun hFqc0 hFqc1 hFqw hFqh => ?_)
  with_reducible exact absurd hFpc0 hXqc0
  with_reducible exact absurd hTqc1 hFpc1
  simp only [eL_law_971, kx_l, nl_int, tl_s]
  with_reducible exact next _ _ _ _ _ _ _ _ (LW.ofM hFph hFqh) (by omega) (by omega)
set_option maxHeartbeats 4000000 in
theorem cL_14 (hR : RG g) (hb : g.2 b = some (.inl (1, L, .inl xs))) (hL : LW g w x nA cA lA y nM o kn kn th s s) (v1 : vp_in (i + 1) L) (v2 : vp_in (i + 2) L) (v3 : vp_in (i + 3) L) (v4 : vp_in (i + 4) L) (v5 : vp_in (i + 5) L) (hk : k + 114 ≤ 58408) (hn : n + 2834 ≤ 1451408) (next : (∀ (l5' l6' : Option Value) (w' : Hw) (k' n' : Nat) (kn' th' : Int32) (s' : AS), LW g w' x nA cA lA y nM o kn' kn' th' s' s' → k' ≤ k + 114 → n' ≤ n + 2834 → WP (ML_law g) QLaw (2246, [some (.ref b), some (.ref x), some (.ref y), some (.ref o), some (.int i), l5', l6'], [], w', k', n'))) : WP (ML_law g) QLaw (976, [some (.ref b), some (.ref x), some (.ref y), some (.ref o), some (.int i), l5, l6], [], w, k, n) := by
  simp only [eL_law_976, eL_law_983, eL_law_989, wt_nil]
  with_reducible refine gi_W hL hb ?_
  with_reducible refine And.intro ?_ ?_
  with_reducible assumption
  with_reducible refine gi_W hL hb ?_
  with_reducible refine And.intro ?_ ?_
  with_reducible assumption
  with_reducible refine And.intro ?_ ?_
  omega
  with_reducible refine And.intro ?_ ?_
  omega
  with_reducible refine And.intro ?_ ?_
  omega
  with_reducible refine fL_again hL (fun hXpc0 => ?_) (fun hSpc0 hSpc1 hSpc2 => ?_) (fun hQpc0 hQpc1 hQpr hQpc2 hQpw hQph hQpo => ?_)
  simp only [eL_law_993, eL_law_997, eL_law_1002, eL_law_1008, kx_l, wt_nil, nl_int, tl_s]
  with_reducible refine gi_W hL hb ?_
  with_reducible refine And.intro ?_ ?_
  with_reducible assumption
  with_reducible refine gi_W hL hb ?_
  with_reducible refine And.intro ?_ ?_
  with_reducible assumption
  with_reducible refine And.intro ?_ ?_
  with_reducible refine LW.gz hL (fun _ => trivial)
  with_reducible refine And.intro ?_ ?_
  omega
  with_reducible refine And.intro ?_ ?_
  omega
  with_reducible refine And.intro ?_ ?_
  omega
  with_reducible refine fX3_again (LW.ms hL) hL.ok (fun hXqc0 hXqw hXqh => ?_) (fun hSqc0 hSqc1 hSqc2 hSqw hSqh => ?_) (fun hQqc0 hQqc1 hQqr hQqc2 hQqw hQqh => ?_)
  simp only [eL_law_1011, kx_l, nl_int, tl_s]
  with_reducible exact next _ _ _ _ _ _ _ _ (LW.ofM hL hXqh) (by omega) (by omega)
  with_reducible exact absurd (And.intro hSqc0 hSqc1) hXpc0
  with_reducible exact absurd (And.intro hQqc0 hQqc1) hXpc0
  simp only [eL_law_993, eL_law_997, eL_law_1002, eL_law_1008, kx_l, wt_nil, nl_int, tl_s]
  with_reducible refine gi_W hL hb ?_
  with_reducible refine And.intro ?_ ?_
  with_reducible assumption
  with_reducible refine gi_W hL hb ?_
  with_reducible refine And.intro ?_ ?_
  with_reducible assumption
  with_reducible refine And.intro ?_ ?_
  with_reducible refine LW.gz hL (fun _ => trivial)
  with_reducible refine And.intro ?_ ?_
  omega
  with_reducible refine And.intro ?_ ?_
  omega
  with_reducible refine And.intro ?_ ?_
  omega
  with_reducible refine fX3_again (LW.ms hL) hL.ok (fun hXqc0 hXqw hXqh => ?_) (fun hSqc0 hSqc1 hSqc2 hSqw hSqh => ?_) (fun hQqc0 hQqc1 hQqr hQqc2 hQqw hQqh => ?_)
  with_reducible exact absurd (And.intro hSpc0 hSpc1) hXqc0
  simp only [eL_law_1011, kx_l, nl_int, tl_s]
  with_reducible exact next _ _ _ _ _ _ _ _ (LW.ofM hL hSqh) (by omega) (by omega)
  with_reducible exact (nsC hSpc2 hQqc2).elim
  simp only [eL_law_993, eL_law_997, eL_law_1002, eL_law_1008, kx_l, wt_nil, nl_int, tl_s]
  with_reducible refine gi_W hQph hb ?_
  with_reducible refine And.intro ?_ ?_
  with_reducible assumption
  with_reducible refine gi_W hQph hb ?_
  with_reducible refine And.intro ?_ ?_
  with_reducible assumption
  with_reducible refine And.intro ?_ ?_
  with_reducible refine LW.gz hQph (fun _ => trivial)
  with_reducible refine And.intro ?_ ?_
  omega
  with_reducible refine And.intro ?_ ?_
  omega
  with_reducible refine And.intro ?_ ?_
  omega
  with_reducible refine fX3_again (LW.ms hQph) hL.ok (fun hXqc0 hXqw hXqh => ?_) (fun hSqc0 hSqc1 hSqc2 hSqw hSqh => ?_) (fun hQqc0 hQqc1 hQqr hQqc2 hQqw hQqh => ?_)
  with_reducible exact absurd (And.intro hQpc0 hQpc1) hXqc0
  with_reducible exact (nsC hSqc2 hQpc2).elim
  cases Option.some.inj (hQpc2.symm.trans hQqc2); clear hQqc2
  simp only [eL_law_1011, kx_l, nl_int, tl_s]
  with_reducible exact next _ _ _ _ _ _ _ _ (LW.ofM hQph hQqh) (by omega) (by omega)
set_option maxHeartbeats 4000000 in
theorem cL_15 (hR : RG g) (hb : g.2 b = some (.inl (1, L, .inl xs))) (hL : LW g w x nA cA lA y nM o kn kn th s s) (v1 : vp_in (i + 1) L) (v2 : vp_in (i + 2) L) (v3 : vp_in (i + 3) L) (v4 : vp_in (i + 4) L) (v5 : vp_in (i + 5) L) (hk : k + 114 ≤ 58408) (hn : n + 2834 ≤ 1451408) (next : (∀ (l5' l6' : Option Value) (w' : Hw) (k' n' : Nat) (kn' th' : Int32) (s' : AS), LW g w' x nA cA lA y nM o kn' kn' th' s' s' → k' ≤ k + 114 → n' ≤ n + 2834 → WP (ML_law g) QLaw (2246, [some (.ref b), some (.ref x), some (.ref y), some (.ref o), some (.int i), l5', l6'], [], w', k', n'))) : WP (ML_law g) QLaw (1016, [some (.ref b), some (.ref x), some (.ref y), some (.ref o), some (.int i), l5, l6], [], w, k, n) := by
  simp only [eL_law_1016, eL_law_1023, eL_law_1029, wt_nil]
  with_reducible refine gi_W hL hb ?_
  with_reducible refine And.intro ?_ ?_
  with_reducible assumption
  with_reducible refine gi_W hL hb ?_
  with_reducible refine And.intro ?_ ?_
  with_reducible assumption
  with_reducible refine And.intro ?_ ?_
  omega
  with_reducible refine And.intro ?_ ?_
  omega
  with_reducible refine And.intro ?_ ?_
  omega
  with_reducible refine fL_same hL (fun hXpc0 => ?_) (fun hSpc0 hSpc1 hSpc2 => ?_) (fun hNpc0 hNpc1 hNpr hNpc2 hNpc3 hNpw hNph hNpo => ?_) (fun hTpc0 hTpc1 hTpr hTpc2 hTpq hTpc3 hTpc4 hTpw hTph hTpo => ?_) (fun hFpc0 hFpc1 hFpr hFpc2 hFpq hFpc3 hFpc4 hFpw hFph hFpo => ?_)
  simp only [eL_law_1033, eL_law_1037, eL_law_1042, eL_law_1048, kx_l, wt_nil, nl_int, tl_s, Nat.add_zero]
  with_reducible refine gi_W hL hb ?_
  with_reducible refine And.intro ?_ ?_
  with_reducible assumption
  with_reducible refine gi_W hL hb ?_
  with_reducible refine And.intro ?_ ?_
  with_reducible assumption
  with_reducible refine And.intro ?_ ?_
  with_reducible refine LW.gz hL (fun _ => trivial)
  with_reducible refine And.intro ?_ ?_
  omega
  with_reducible refine And.intro ?_ ?_
  omega
  with_reducible refine And.intro ?_ ?_
  omega
  with_reducible refine fX3_same_ (LW.ms hL) (fun hXqc0 hXqw hXqh => ?_) (fun hSqc0 hSqc1 hSqc2 hSqw hSqh => ?_) (fun hNqc0 hNqc1 hNqr hNqc2 hNqc3 hNqw hNqh => ?_) (fun hTqc0 hTqc1 hTqr hTqc2 hTqq hTqc3 hTqc4 hTqw hTqh => ?_) (fun hFqc0 hFqc1 hFqr hFqc2 hFqq hFqc3 hFqc4 hFqw hFqh => ?_)
  simp only [eL_law_1051, kx_l, nl_int, tl_s]
  with_reducible exact next _ _ _ _ _ _ _ _ (LW.ofM hL hXqh) (by omega) (by omega)
  with_reducible exact absurd (And.intro hSqc0 hSqc1) hXpc0
  with_reducible exact absurd (And.intro hNqc0 hNqc1) hXpc0
  with_reducible exact absurd (And.intro hTqc0 hTqc1) hXpc0
  with_reducible exact absurd (And.intro hFqc0 hFqc1) hXpc0
  simp only [eL_law_1033, eL_law_1037, eL_law_1042, eL_law_1048, kx_l, wt_nil, nl_int, tl_s, Nat.add_zero]
  with_reducible refine gi_W hL hb ?_
  with_reducible refine And.intro ?_ ?_
  with_reducible assumption
  with_reducible refine gi_W hL hb ?_
  with_reducible refine And.intro ?_ ?_
  with_reducible assumption
  with_reducible refine And.intro ?_ ?_
  with_reducible refine LW.gz hL (fun _ => trivial)
  with_reducible refine And.intro ?_ ?_
  omega
  with_reducible refine And.intro ?_ ?_
  omega
  with_reducible refine And.intro ?_ ?_
  omega
  with_reducible refine fX3_same_ (LW.ms hL) (fun hXqc0 hXqw hXqh => ?_) (fun hSqc0 hSqc1 hSqc2 hSqw hSqh => ?_) (fun hNqc0 hNqc1 hNqr hNqc2 hNqc3 hNqw hNqh => ?_) (fun hTqc0 hTqc1 hTqr hTqc2 hTqq hTqc3 hTqc4 hTqw hTqh => ?_) (fun hFqc0 hFqc1 hFqr hFqc2 hFqq hFqc3 hFqc4 hFqw hFqh => ?_)
  with_reducible exact absurd (And.intro hSpc0 hSpc1) hXqc0
  simp only [eL_law_1051, kx_l, nl_int, tl_s]
  with_reducible exact next _ _ _ _ _ _ _ _ (LW.ofM hL hSqh) (by omega) (by omega)
  with_reducible exact (nsC hSpc2 hNqc2).elim
  with_reducible exact (nsC hSpc2 hTqc2).elim
  with_reducible exact (nsC hSpc2 hFqc2).elim
  simp only [eL_law_1033, eL_law_1037, eL_law_1042, eL_law_1048, kx_l, wt_nil, nl_int, tl_s, Nat.add_zero]
  with_reducible refine gi_W hNph hb ?_
  with_reducible refine And.intro ?_ ?_
  with_reducible assumption
  with_reducible refine gi_W hNph hb ?_
  with_reducible refine And.intro ?_ ?_
  with_reducible assumption
  with_reducible refine And.intro ?_ ?_
  with_reducible refine LW.gz hNph (fun _ => trivial)
  with_reducible refine And.intro ?_ ?_
  omega
  with_reducible refine And.intro ?_ ?_
  omega
  with_reducible refine And.intro ?_ ?_
  omega
  with_reducible refine fX3_same_ (LW.ms hNph) (fun hXqc0 hXqw hXqh => ?_) (fun hSqc0 hSqc1 hSqc2 hSqw hSqh => ?_) (fun hNqc0 hNqc1 hNqr hNqc2 hNqc3 hNqw hNqh => ?_) (fun hTqc0 hTqc1 hTqr hTqc2 hTqq hTqc3 hTqc4 hTqw hTqh => ?_) (fun hFqc0 hFqc1 hFqr hFqc2 hFqq hFqc3 hFqc4 hFqw hFqh => ?_)
  with_reducible exact absurd (And.intro hNpc0 hNpc1) hXqc0
  with_reducible exact (nsC hSqc2 hNpc2).elim
  cases Option.some.inj (hNpc2.symm.trans hNqc2); clear hNqc2
  simp only [eL_law_1051, kx_l, nl_int, tl_s]
  with_reducible exact next _ _ _ _ _ _ _ _ (LW.ofM hNph hNqh) (by omega) (by omega)
  cases Option.some.inj (hNpc2.symm.trans hTqc2); clear hTqc2
  with_reducible exact (nsC hNpc3 hTqc3).elim
  cases Option.some.inj (hNpc2.symm.trans hFqc2); clear hFqc2
  with_reducible exact (nsC hNpc3 hFqc3).elim
  simp only [eL_law_1033, eL_law_1037, eL_law_1042, eL_law_1048, kx_l, wt_nil, nl_int, tl_s, Nat.add_zero]
  with_reducible refine gi_W hTph hb ?_
  with_reducible refine And.intro ?_ ?_
  with_reducible assumption
  with_reducible refine gi_W hTph hb ?_
  with_reducible refine And.intro ?_ ?_
  with_reducible assumption
  with_reducible refine And.intro ?_ ?_
  with_reducible refine LW.gz hTph (fun _ => trivial)
  with_reducible refine And.intro ?_ ?_
  omega
  with_reducible refine And.intro ?_ ?_
  omega
  with_reducible refine And.intro ?_ ?_
  omega
  with_reducible refine fX3_same_ (LW.ms hTph) (fun hXqc0 hXqw hXqh => ?_) (fun hSqc0 hSqc1 hSqc2 hSqw hSqh => ?_) (fun hNqc0 hNqc1 hNqr hNqc2 hNqc3 hNqw hNqh => ?_) (fun hTqc0 hTqc1 hTqr hTqc2 hTqq hTqc3 hTqc4 hTqw hTqh => ?_) (fun hFqc0 hFqc1 hFqr hFqc2 hFqq hFqc3 hFqc4 hFqw hFqh => ?_)
  with_reducible exact absurd (And.intro hTpc0 hTpc1) hXqc0
  with_reducible exact (nsC hSqc2 hTpc2).elim
  cases Option.some.inj (hTpc2.symm.trans hNqc2); clear hNqc2
  with_reducible exact (nsC hNqc3 hTpc3).elim
  cases Option.some.inj (hTpc2.symm.trans hTqc2); clear hTqc2
  cases Option.some.inj (hTpc3.symm.trans hTqc3); clear hTqc3
  simp only [eL_law_1051, kx_l, nl_int, tl_s]
  with_reducible exact next _ _ _ _ _ _ _ _ (LW.ofM hTph hTqh) (by omega) (by omega)
  cases Option.some.inj (hTpc2.symm.trans hFqc2); clear hFqc2
  cases Option.some.inj (hTpc3.symm.trans hFqc3); clear hFqc3
  with_reducible exact absurd hTpc4 hFqc4
  simp only [eL_law_1033, eL_law_1037, eL_law_1042, eL_law_1048, kx_l, wt_nil, nl_int, tl_s, Nat.add_zero]
  with_reducible refine gi_W hFph hb ?_
  with_reducible refine And.intro ?_ ?_
  with_reducible assumption
  with_reducible refine gi_W hFph hb ?_
  with_reducible refine And.intro ?_ ?_
  with_reducible assumption
  with_reducible refine And.intro ?_ ?_
  with_reducible refine LW.gz hFph (fun _ => trivial)
  with_reducible refine And.intro ?_ ?_
  omega
  with_reducible refine And.intro ?_ ?_
  omega
  with_reducible refine And.intro ?_ ?_
  omega
  with_reducible refine fX3_same_ (LW.ms hFph) (fun hXqc0 hXqw hXqh => ?_) (fun hSqc0 hSqc1 hSqc2 hSqw hSqh => ?_) (fun hNqc0 hNqc1 hNqr hNqc2 hNqc3 hNqw hNqh => ?_) (fun hTqc0 hTqc1 hTqr hTqc2 hTqq hTqc3 hTqc4 hTqw hTqh => ?_) (fun hFqc0 hFqc1 hFqr hFqc2 hFqq hFqc3 hFqc4 hFqw hFqh => ?_)
  with_reducible exact absurd (And.intro hFpc0 hFpc1) hXqc0
  with_reducible exact (nsC hSqc2 hFpc2).elim
  cases Option.some.inj (hFpc2.symm.trans hNqc2); clear hNqc2
  with_reducible exact (nsC hNqc3 hFpc3).elim
  cases Option.some.inj (hFpc2.symm.trans hTqc2); clear hTqc2
  cases Option.some.inj (hFpc3.symm.trans hTqc3); clear hTqc3
  with_reducible exact absurd hTqc4 hFpc4
  cases Option.some.inj (hFpc2.symm.trans hFqc2); clear hFqc2
  cases Option.some.inj (hFpc3.symm.trans hFqc3); clear hFqc3
  simp only [eL_law_1051, kx_l, nl_int, tl_s]
  with_reducible exact next _ _ _ _ _ _ _ _ (LW.ofM hFph hFqh) (by omega) (by omega)
set_option maxHeartbeats 4000000 in
theorem cL_16 (hR : RG g) (hb : g.2 b = some (.inl (1, L, .inl xs))) (hL : LW g w x nA cA lA y nM o kn kn th s s) (v1 : vp_in (i + 1) L) (v2 : vp_in (i + 2) L) (v3 : vp_in (i + 3) L) (v4 : vp_in (i + 4) L) (v5 : vp_in (i + 5) L) (hk : k + 114 ≤ 58408) (hn : n + 2834 ≤ 1451408) (next : (∀ (l5' l6' : Option Value) (w' : Hw) (k' n' : Nat) (kn' th' : Int32) (s' : AS), LW g w' x nA cA lA y nM o kn' kn' th' s' s' → k' ≤ k + 114 → n' ≤ n + 2834 → WP (ML_law g) QLaw (2246, [some (.ref b), some (.ref x), some (.ref y), some (.ref o), some (.int i), l5', l6'], [], w', k', n'))) : WP (ML_law g) QLaw (1056, [some (.ref b), some (.ref x), some (.ref y), some (.ref o), some (.int i), l5, l6], [], w, k, n) := by
  simp only [eL_law_1056, eL_law_1063, eL_law_1069, wt_nil]
  with_reducible refine gi_W hL hb ?_
  with_reducible refine And.intro ?_ ?_
  with_reducible assumption
  with_reducible refine gi_W hL hb ?_
  with_reducible refine And.intro ?_ ?_
  with_reducible assumption
  with_reducible refine And.intro ?_ ?_
  omega
  with_reducible refine And.intro ?_ ?_
  omega
  with_reducible refine And.intro ?_ ?_
  omega
  with_reducible refine fL_outer hL (fun hXpc0 => ?_) (fun hSpc0 hSpc1 hSpc2 => ?_) (fun hTpc0 hTpc1 hTpr hTpc2 hTpc3 hTpw hTph hTpo => ?_) (fun hFpc0 hFpc1 hFpr hFpc2 hFpc3 hFpw hFph hFpo => ?_)
  simp only [eL_law_1073, eL_law_1077, eL_law_1082, eL_law_1088, kx_l, wt_nil, nl_int, tl_s]
  with_reducible refine gi_W hL hb ?_
  with_reducible refine And.intro ?_ ?_
  with_reducible assumption
  with_reducible refine gi_W hL hb ?_
  with_reducible refine And.intro ?_ ?_
  with_reducible assumption
  with_reducible refine And.intro ?_ ?_
  with_reducible refine LW.gz hL (fun _ => trivial)
  with_reducible refine And.intro ?_ ?_
  omega
  with_reducible refine And.intro ?_ ?_
  omega
  with_reducible refine And.intro ?_ ?_
  omega
  with_reducible refine fX3_outer (LW.ms hL) hL.ok (fun hXqc0 hXqw hXqh => ?_) (fun hSqc0 hSqc1 hSqc2 hSqw hSqh => ?_) (fun hTqc0 hTqc1 hTqr hTqc2 hTqc3 hTqw hTqh => ?_) (fun hFqc0 hFqc1 hFqr hFqc2 hFqc3 hFqw hFqh => ?_)
  simp only [eL_law_1091, kx_l, nl_int, tl_s]
  with_reducible exact next _ _ _ _ _ _ _ _ (LW.ofM hL hXqh) (by omega) (by omega)
  with_reducible exact absurd (And.intro hSqc0 hSqc1) hXpc0
  with_reducible exact absurd (And.intro hTqc0 hTqc1) hXpc0
  with_reducible exact absurd (And.intro hFqc0 hFqc1) hXpc0
  simp only [eL_law_1073, eL_law_1077, eL_law_1082, eL_law_1088, kx_l, wt_nil, nl_int, tl_s]
  with_reducible refine gi_W hL hb ?_
  with_reducible refine And.intro ?_ ?_
  with_reducible assumption
  with_reducible refine gi_W hL hb ?_
  with_reducible refine And.intro ?_ ?_
  with_reducible assumption
  with_reducible refine And.intro ?_ ?_
  with_reducible refine LW.gz hL (fun _ => trivial)
  with_reducible refine And.intro ?_ ?_
  omega
  with_reducible refine And.intro ?_ ?_
  omega
  with_reducible refine And.intro ?_ ?_
  omega
  with_reducible refine fX3_outer (LW.ms hL) hL.ok (fun hXqc0 hXqw hXqh => ?_) (fun hSqc0 hSqc1 hSqc2 hSqw hSqh => ?_) (fun hTqc0 hTqc1 hTqr hTqc2 hTqc3 hTqw hTqh => ?_) (fun hFqc0 hFqc1 hFqr hFqc2 hFqc3 hFqw hFqh => ?_)
  with_reducible exact absurd (And.intro hSpc0 hSpc1) hXqc0
  simp only [eL_law_1091, kx_l, nl_int, tl_s]
  with_reducible exact next _ _ _ _ _ _ _ _ (LW.ofM hL hSqh) (by omega) (by omega)
  with_reducible exact (nsC hSpc2 hTqc2).elim
  with_reducible exact (nsC hSpc2 hFqc2).elim
  simp only [eL_law_1073, eL_law_1077, eL_law_1082, eL_law_1088, kx_l, wt_nil, nl_int, tl_s]
  with_reducible refine gi_W hTph hb ?_
  with_reducible refine And.intro ?_ ?_
  with_reducible assumption
  with_reducible refine gi_W hTph hb ?_
  with_reducible refine And.intro ?_ ?_
  with_reducible assumption
  with_reducible refine And.intro ?_ ?_
  with_reducible refine LW.gz hTph (fun _ => trivial)
  with_reducible refine And.intro ?_ ?_
  omega
  with_reducible refine And.intro ?_ ?_
  omega
  with_reducible refine And.intro ?_ ?_
  omega
  with_reducible refine fX3_outer (LW.ms hTph) hL.ok (fun hXqc0 hXqw hXqh => ?_) (fun hSqc0 hSqc1 hSqc2 hSqw hSqh => ?_) (fun hTqc0 hTqc1 hTqr hTqc2 hTqc3 hTqw hTqh => ?_) (fun hFqc0 hFqc1 hFqr hFqc2 hFqc3 hFqw hFqh => ?_)
  with_reducible exact absurd (And.intro hTpc0 hTpc1) hXqc0
  with_reducible exact (nsC hSqc2 hTpc2).elim
  cases Option.some.inj (hTpc2.symm.trans hTqc2); clear hTqc2
  simp only [eL_law_1091, kx_l, nl_int, tl_s]
  with_reducible exact next _ _ _ _ _ _ _ _ (LW.ofM hTph hTqh) (by omega) (by omega)
  cases Option.some.inj (hTpc2.symm.trans hFqc2); clear hFqc2
  with_reducible exact absurd hTpc3 hFqc3
  simp only [eL_law_1073, eL_law_1077, eL_law_1082, eL_law_1088, kx_l, wt_nil, nl_int, tl_s]
  with_reducible refine gi_W hFph hb ?_
  with_reducible refine And.intro ?_ ?_
  with_reducible assumption
  with_reducible refine gi_W hFph hb ?_
  with_reducible refine And.intro ?_ ?_
  with_reducible assumption
  with_reducible refine And.intro ?_ ?_
  with_reducible refine LW.gz hFph (fun _ => trivial)
  with_reducible refine And.intro ?_ ?_
  omega
  with_reducible refine And.intro ?_ ?_
  omega
  with_reducible refine And.intro ?_ ?_
  omega
  with_reducible refine fX3_outer (LW.ms hFph) hL.ok (fun hXqc0 hXqw hXqh => ?_) (fun hSqc0 hSqc1 hSqc2 hSqw hSqh => ?_) (fun hTqc0 hTqc1 hTqr hTqc2 hTqc3 hTqw hTqh => ?_) (fun hFqc0 hFqc1 hFqr hFqc2 hFqc3 hFqw hFqh => ?_)
  with_reducible exact absurd (And.intro hFpc0 hFpc1) hXqc0
  with_reducible exact (nsC hSqc2 hFpc2).elim
  cases Option.some.inj (hFpc2.symm.trans hTqc2); clear hTqc2
  with_reducible exact absurd hTqc3 hFpc3
  cases Option.some.inj (hFpc2.symm.trans hFqc2); clear hFqc2
  simp only [eL_law_1091, kx_l, nl_int, tl_s]
  with_reducible exact next _ _ _ _ _ _ _ _ (LW.ofM hFph hFqh) (by omega) (by omega)
set_option maxHeartbeats 4000000 in
theorem cL_17 (hR : RG g) (hb : g.2 b = some (.inl (1, L, .inl xs))) (hL : LW g w x nA cA lA y nM o kn kn th s s) (v1 : vp_in (i + 1) L) (v2 : vp_in (i + 2) L) (v3 : vp_in (i + 3) L) (v4 : vp_in (i + 4) L) (v5 : vp_in (i + 5) L) (hk : k + 114 ≤ 58408) (hn : n + 2834 ≤ 1451408) (next : (∀ (l5' l6' : Option Value) (w' : Hw) (k' n' : Nat) (kn' th' : Int32) (s' : AS), LW g w' x nA cA lA y nM o kn' kn' th' s' s' → k' ≤ k + 114 → n' ≤ n + 2834 → WP (ML_law g) QLaw (2246, [some (.ref b), some (.ref x), some (.ref y), some (.ref o), some (.int i), l5', l6'], [], w', k', n'))) : WP (ML_law g) QLaw (1096, [some (.ref b), some (.ref x), some (.ref y), some (.ref o), some (.int i), l5, l6], [], w, k, n) := by
  simp only [eL_law_1096, eL_law_1103, eL_law_1109, wt_nil]
  with_reducible refine gi_W hL hb ?_
  with_reducible refine And.intro ?_ ?_
  with_reducible assumption
  with_reducible refine gi_W hL hb ?_
  with_reducible refine And.intro ?_ ?_
  with_reducible assumption
  with_reducible refine And.intro ?_ ?_
  omega
  with_reducible refine And.intro ?_ ?_
  omega
  with_reducible refine And.intro ?_ ?_
  omega
  with_reducible refine fL_inner hL (fun hXpc0 => ?_) (fun hSpc0 hSpc1 hSpc2 => ?_) (fun hTpc0 hTpc1 hTpr hTpc2 hTpc3 hTpw hTph hTpo => ?_) (fun hFpc0 hFpc1 hFpr hFpc2 hFpc3 hFpw hFph hFpo => ?_)
  simp only [eL_law_1113, eL_law_1117, eL_law_1122, eL_law_1128, kx_l, wt_nil, nl_int, tl_s]
  with_reducible refine gi_W hL hb ?_
  with_reducible refine And.intro ?_ ?_
  with_reducible assumption
  with_reducible refine gi_W hL hb ?_
  with_reducible refine And.intro ?_ ?_
  with_reducible assumption
  with_reducible refine And.intro ?_ ?_
  with_reducible refine LW.gz hL (fun _ => trivial)
  with_reducible refine And.intro ?_ ?_
  omega
  with_reducible refine And.intro ?_ ?_
  omega
  with_reducible refine And.intro ?_ ?_
  omega
  with_reducible refine fX3_inner (LW.ms hL) (fun hXqc0 hXqw hXqh => ?_) (fun hSqc0 hSqc1 hSqc2 hSqw hSqh => ?_) (fun hTqc0 hTqc1 hTqr hTqc2 hTqc3 hTqw hTqh => ?_) (fun hFqc0 hFqc1 hFqr hFqc2 hFqc3 hFqw hFqh => ?_)
  simp only [eL_law_1131, kx_l, nl_int, tl_s]
  with_reducible exact next _ _ _ _ _ _ _ _ (LW.ofM hL hXqh) (by omega) (by omega)
  with_reducible exact absurd (And.intro hSqc0 hSqc1) hXpc0
  with_reducible exact absurd (And.intro hTqc0 hTqc1) hXpc0
  with_reducible exact absurd (And.intro hFqc0 hFqc1) hXpc0
  simp only [eL_law_1113, eL_law_1117, eL_law_1122, eL_law_1128, kx_l, wt_nil, nl_int, tl_s]
  with_reducible refine gi_W hL hb ?_
  with_reducible refine And.intro ?_ ?_
  with_reducible assumption
  with_reducible refine gi_W hL hb ?_
  with_reducible refine And.intro ?_ ?_
  with_reducible assumption
  with_reducible refine And.intro ?_ ?_
  with_reducible refine LW.gz hL (fun _ => trivial)
  with_reducible refine And.intro ?_ ?_
  omega
  with_reducible refine And.intro ?_ ?_
  omega
  with_reducible refine And.intro ?_ ?_
  omega
  with_reducible refine fX3_inner (LW.ms hL) (fun hXqc0 hXqw hXqh => ?_) (fun hSqc0 hSqc1 hSqc2 hSqw hSqh => ?_) (fun hTqc0 hTqc1 hTqr hTqc2 hTqc3 hTqw hTqh => ?_) (fun hFqc0 hFqc1 hFqr hFqc2 hFqc3 hFqw hFqh => ?_)
  with_reducible exact absurd (And.intro hSpc0 hSpc1) hXqc0
  simp only [eL_law_1131, kx_l, nl_int, tl_s]
  with_reducible exact next _ _ _ _ _ _ _ _ (LW.ofM hL hSqh) (by omega) (by omega)
  with_reducible exact (nsC hSpc2 hTqc2).elim
  with_reducible exact (nsC hSpc2 hFqc2).elim
  simp only [eL_law_1113, eL_law_1117, eL_law_1122, eL_law_1128, kx_l, wt_nil, nl_int, tl_s]
  with_reducible refine gi_W hTph hb ?_
  with_reducible refine And.intro ?_ ?_
  with_reducible assumption
  with_reducible refine gi_W hTph hb ?_
  with_reducible refine And.intro ?_ ?_
  with_reducible assumption
  with_reducible refine And.intro ?_ ?_
  with_reducible refine LW.gz hTph (fun _ => trivial)
  with_reducible refine And.intro ?_ ?_
  omega
  with_reducible refine And.intro ?_ ?_
  omega
  with_reducible refine And.intro ?_ ?_
  omega
  with_reducible refine fX3_inner (LW.ms hTph) (fun hXqc0 hXqw hXqh => ?_) (fun hSqc0 hSqc1 hSqc2 hSqw hSqh => ?_) (fun hTqc0 hTqc1 hTqr hTqc2 hTqc3 hTqw hTqh => ?_) (fun hFqc0 hFqc1 hFqr hFqc2 hFqc3 hFqw hFqh => ?_)
  with_reducible exact absurd (And.intro hTpc0 hTpc1) hXqc0
  with_reducible exact (nsC hSqc2 hTpc2).elim
  cases Option.some.inj (hTpc2.symm.trans hTqc2); clear hTqc2
  simp only [eL_law_1131, kx_l, nl_int, tl_s]
  with_reducible exact next _ _ _ _ _ _ _ _ (LW.ofM hTph hTqh) (by omega) (by omega)
  cases Option.some.inj (hTpc2.symm.trans hFqc2); clear hFqc2
  with_reducible exact absurd hTpc3 hFqc3
  simp only [eL_law_1113, eL_law_1117, eL_law_1122, eL_law_1128, kx_l, wt_nil, nl_int, tl_s]
  with_reducible refine gi_W hFph hb ?_
  with_reducible refine And.intro ?_ ?_
  with_reducible assumption
  with_reducible refine gi_W hFph hb ?_
  with_reducible refine And.intro ?_ ?_
  with_reducible assumption
  with_reducible refine And.intro ?_ ?_
  with_reducible refine LW.gz hFph (fun _ => trivial)
  with_reducible refine And.intro ?_ ?_
  omega
  with_reducible refine And.intro ?_ ?_
  omega
  with_reducible refine And.intro ?_ ?_
  omega
  with_reducible refine fX3_inner (LW.ms hFph) (fun hXqc0 hXqw hXqh => ?_) (fun hSqc0 hSqc1 hSqc2 hSqw hSqh => ?_) (fun hTqc0 hTqc1 hTqr hTqc2 hTqc3 hTqw hTqh => ?_) (fun hFqc0 hFqc1 hFqr hFqc2 hFqc3 hFqw hFqh => ?_)
  with_reducible exact absurd (And.intro hFpc0 hFpc1) hXqc0
  with_reducible exact (nsC hSqc2 hFpc2).elim
  cases Option.some.inj (hFpc2.symm.trans hTqc2); clear hTqc2
  with_reducible exact absurd hTqc3 hFpc3
  cases Option.some.inj (hFpc2.symm.trans hFqc2); clear hFqc2
  simp only [eL_law_1131, kx_l, nl_int, tl_s]
  with_reducible exact next _ _ _ _ _ _ _ _ (LW.ofM hFph hFqh) (by omega) (by omega)
set_option maxHeartbeats 4000000 in
theorem cL_18 (hR : RG g) (hb : g.2 b = some (.inl (1, L, .inl xs))) (hL : LW g w x nA cA lA y nM o kn kn th s s) (v1 : vp_in (i + 1) L) (v2 : vp_in (i + 2) L) (v3 : vp_in (i + 3) L) (v4 : vp_in (i + 4) L) (v5 : vp_in (i + 5) L) (hk : k + 114 ≤ 58408) (hn : n + 2834 ≤ 1451408) (next : (∀ (l5' l6' : Option Value) (w' : Hw) (k' n' : Nat) (kn' th' : Int32) (s' : AS), LW g w' x nA cA lA y nM o kn' kn' th' s' s' → k' ≤ k + 114 → n' ≤ n + 2834 → WP (ML_law g) QLaw (2246, [some (.ref b), some (.ref x), some (.ref y), some (.ref o), some (.int i), l5', l6'], [], w', k', n'))) : WP (ML_law g) QLaw (1136, [some (.ref b), some (.ref x), some (.ref y), some (.ref o), some (.int i), l5, l6], [], w, k, n) := by
  simp only [eL_law_1136, eL_law_1143, eL_law_1149, eL_law_1155, wt_nil]
  with_reducible refine gi_W hL hb ?_
  with_reducible refine And.intro ?_ ?_
  with_reducible assumption
  with_reducible refine gi_W hL hb ?_
  with_reducible refine And.intro ?_ ?_
  with_reducible assumption
  with_reducible refine gi_W hL hb ?_
  with_reducible refine And.intro ?_ ?_
  with_reducible assumption
  with_reducible refine And.intro ?_ ?_
  omega
  with_reducible refine And.intro ?_ ?_
  omega
  with_reducible refine And.intro ?_ ?_
  omega
  with_reducible refine fL_span hL (fun hXpc0 => ?_) (fun hSpc0 hSpc1 hSpc2 hSpc3 => ?_) (fun hTpc0 hTpc1 hTpc2 hTpr hTpq hTpc3 hTpc4 hTpc5 hTpw hTph hTpo => ?_) (fun hFpc0 hFpc1 hFpc2 hFpr hFpq hFpc3 hFpc4 hFpc5 hFpw hFph hFpo => ?_)
  simp only [eL_law_1159, eL_law_1163, eL_law_1168, eL_law_1174, eL_law_1180, kx_l, wt_nil, nl_int, tl_s]
  with_reducible refine gi_W hL hb ?_
  with_reducible refine And.intro ?_ ?_
  with_reducible assumption
  with_reducible refine gi_W hL hb ?_
  with_reducible refine And.intro ?_ ?_
  with_reducible assumption
  with_reducible refine gi_W hL hb ?_
  with_reducible refine And.intro ?_ ?_
  with_reducible assumption
  with_reducible refine And.intro ?_ ?_
  with_reducible refine LW.gz hL (fun _ => trivial)
  with_reducible refine And.intro ?_ ?_
  omega
  with_reducible refine And.intro ?_ ?_
  omega
  with_reducible refine And.intro ?_ ?_
  omega
  with_reducible refine fX3_span (LW.ms hL) (fun hXqc0 hXqw hXqh => ?_) (fun hSqc0 hSqc1 hSqc2 hSqc3 hSqw hSqh => ?_) (fun hTqc0 hTqc1 hTqc2 hTqr hTqq hTqc3 hTqc4 hTqc5 hTqw hTqh => ?_) (fun hFqc0 hFqc1 hFqc2 hFqr hFqq hFqc3 hFqc4 hFqc5 hFqw hFqh => ?_)
  simp only [eL_law_1183, kx_l, nl_int, tl_s]
  with_reducible exact next _ _ _ _ _ _ _ _ (LW.ofM hL hXqh) (by omega) (by omega)
  with_reducible exact absurd (And.intro hSqc0 (And.intro hSqc1 hSqc2)) hXpc0
  with_reducible exact absurd (And.intro hTqc0 (And.intro hTqc1 hTqc2)) hXpc0
  with_reducible exact absurd (And.intro hFqc0 (And.intro hFqc1 hFqc2)) hXpc0
  simp only [eL_law_1159, eL_law_1163, eL_law_1168, eL_law_1174, eL_law_1180, kx_l, wt_nil, nl_int, tl_s]
  with_reducible refine gi_W hL hb ?_
  with_reducible refine And.intro ?_ ?_
  with_reducible assumption
  with_reducible refine gi_W hL hb ?_
  with_reducible refine And.intro ?_ ?_
  with_reducible assumption
  with_reducible refine gi_W hL hb ?_
  with_reducible refine And.intro ?_ ?_
  with_reducible assumption
  with_reducible refine And.intro ?_ ?_
  with_reducible refine LW.gz hL (fun _ => trivial)
  with_reducible refine And.intro ?_ ?_
  omega
  with_reducible refine And.intro ?_ ?_
  omega
  with_reducible refine And.intro ?_ ?_
  omega
  with_reducible refine fX3_span (LW.ms hL) (fun hXqc0 hXqw hXqh => ?_) (fun hSqc0 hSqc1 hSqc2 hSqc3 hSqw hSqh => ?_) (fun hTqc0 hTqc1 hTqc2 hTqr hTqq hTqc3 hTqc4 hTqc5 hTqw hTqh => ?_) (fun hFqc0 hFqc1 hFqc2 hFqr hFqq hFqc3 hFqc4 hFqc5 hFqw hFqh => ?_)
  with_reducible exact absurd (And.intro hSpc0 (And.intro hSpc1 hSpc2)) hXqc0
  simp only [eL_law_1183, kx_l, nl_int, tl_s]
  with_reducible exact next _ _ _ _ _ _ _ _ (LW.ofM hL hSqh) (by omega) (by omega)
  with_reducible exact (hSpc3.elim (fun e => nsC e hTqc3) (fun e => nsC e hTqc4)).elim
  with_reducible exact (hSpc3.elim (fun e => nsC e hFqc3) (fun e => nsC e hFqc4)).elim
  simp only [eL_law_1159, eL_law_1163, eL_law_1168, eL_law_1174, eL_law_1180, kx_l, wt_nil, nl_int, tl_s]
  with_reducible refine gi_W hTph hb ?_
  with_reducible refine And.intro ?_ ?_
  with_reducible assumption
  with_reducible refine gi_W hTph hb ?_
  with_reducible refine And.intro ?_ ?_
  with_reducible assumption
  with_reducible refine gi_W hTph hb ?_
  with_reducible refine And.intro ?_ ?_
  with_reducible assumption
  with_reducible refine And.intro ?_ ?_
  with_reducible refine LW.gz hTph (fun _ => trivial)
  with_reducible refine And.intro ?_ ?_
  omega
  with_reducible refine And.intro ?_ ?_
  omega
  with_reducible refine And.intro ?_ ?_
  omega
  with_reducible refine fX3_span (LW.ms hTph) (fun hXqc0 hXqw hXqh => ?_) (fun hSqc0 hSqc1 hSqc2 hSqc3 hSqw hSqh => ?_) (fun hTqc0 hTqc1 hTqc2 hTqr hTqq hTqc3 hTqc4 hTqc5 hTqw hTqh => ?_) (fun hFqc0 hFqc1 hFqc2 hFqr hFqq hFqc3 hFqc4 hFqc5 hFqw hFqh => ?_)
  with_reducible exact absurd (And.intro hTpc0 (And.intro hTpc1 hTpc2)) hXqc0
  with_reducible exact (hSqc3.elim (fun e => nsC e hTpc3) (fun e => nsC e hTpc4)).elim
  cases Option.some.inj (hTpc3.symm.trans hTqc3); clear hTqc3
  cases Option.some.inj (hTpc4.symm.trans hTqc4); clear hTqc4
  simp only [eL_law_1183, kx_l, nl_int, tl_s]
  with_reducible exact next _ _ _ _ _ _ _ _ (LW.ofM hTph hTqh) (by omega) (by omega)
  cases Option.some.inj (hTpc3.symm.trans hFqc3); clear hFqc3
  cases Option.some.inj (hTpc4.symm.trans hFqc4); clear hFqc4
  with_reducible exact absurd hTpc5 hFqc5
  simp only [eL_law_1159, eL_law_1163, eL_law_1168, eL_law_1174, eL_law_1180, kx_l, wt_nil, nl_int, tl_s]
  with_reducible refine gi_W hFph hb ?_
  with_reducible refine And.intro ?_ ?_
  with_reducible assumption
  with_reducible refine gi_W hFph hb ?_
  with_reducible refine And.intro ?_ ?_
  with_reducible assumption
  with_reducible refine gi_W hFph hb ?_
  with_reducible refine And.intro ?_ ?_
  with_reducible assumption
  with_reducible refine And.intro ?_ ?_
  with_reducible refine LW.gz hFph (fun _ => trivial)
  with_reducible refine And.intro ?_ ?_
  omega
  with_reducible refine And.intro ?_ ?_
  omega
  with_reducible refine And.intro ?_ ?_
  omega
  with_reducible refine fX3_span (LW.ms hFph) (fun hXqc0 hXqw hXqh => ?_) (fun hSqc0 hSqc1 hSqc2 hSqc3 hSqw hSqh => ?_) (fun hTqc0 hTqc1 hTqc2 hTqr hTqq hTqc3 hTqc4 hTqc5 hTqw hTqh => ?_) (fun hFqc0 hFqc1 hFqc2 hFqr hFqq hFqc3 hFqc4 hFqc5 hFqw hFqh => ?_)
  with_reducible exact absurd (And.intro hFpc0 (And.intro hFpc1 hFpc2)) hXqc0
  with_reducible exact (hSqc3.elim (fun e => nsC e hFpc3) (fun e => nsC e hFpc4)).elim
  cases Option.some.inj (hFpc3.symm.trans hTqc3); clear hTqc3
  cases Option.some.inj (hFpc4.symm.trans hTqc4); clear hTqc4
  with_reducible exact absurd hTqc5 hFpc5
  cases Option.some.inj (hFpc3.symm.trans hFqc3); clear hFqc3
  cases Option.some.inj (hFpc4.symm.trans hFqc4); clear hFqc4
  simp only [eL_law_1183, kx_l, nl_int, tl_s]
  with_reducible exact next _ _ _ _ _ _ _ _ (LW.ofM hFph hFqh) (by omega) (by omega)
set_option maxHeartbeats 4000000 in
theorem cL_19 (hR : RG g) (hb : g.2 b = some (.inl (1, L, .inl xs))) (hL : LW g w x nA cA lA y nM o kn kn th s s) (v1 : vp_in (i + 1) L) (v2 : vp_in (i + 2) L) (v3 : vp_in (i + 3) L) (v4 : vp_in (i + 4) L) (v5 : vp_in (i + 5) L) (hk : k + 114 ≤ 58408) (hn : n + 2834 ≤ 1451408) (next : (∀ (l5' l6' : Option Value) (w' : Hw) (k' n' : Nat) (kn' th' : Int32) (s' : AS), LW g w' x nA cA lA y nM o kn' kn' th' s' s' → k' ≤ k + 114 → n' ≤ n + 2834 → WP (ML_law g) QLaw (2246, [some (.ref b), some (.ref x), some (.ref y), some (.ref o), some (.int i), l5', l6'], [], w', k', n'))) : WP (ML_law g) QLaw (1188, [some (.ref b), some (.ref x), some (.ref y), some (.ref o), some (.int i), l5, l6], [], w, k, n) := by
  simp only [eL_law_1188, eL_law_1195, eL_law_1201, wt_nil]
  with_reducible refine gi_W hL hb ?_
  with_reducible refine And.intro ?_ ?_
  with_reducible assumption
  with_reducible refine gi_W hL hb ?_
  with_reducible refine And.intro ?_ ?_
  with_reducible assumption
  with_reducible refine And.intro ?_ ?_
  omega
  with_reducible refine And.intro ?_ ?_
  omega
  with_reducible refine And.intro ?_ ?_
  omega
  with_reducible refine fL_shift hL (fun hXpc0 => ?_) (fun hSpc0 hSpc1 => ?_) (fun hTpc0 hTpr hTpc1 hTpc2 hTpw hTph hTpo => ?_) (fun hFpc0 hFpr hFpc1 hFpc2 hFpw hFph hFpo => ?_)
  simp only [eL_law_1205, eL_law_1209, eL_law_1214, eL_law_1220, kx_l, wt_nil, nl_int, tl_s]
  with_reducible refine gi_W hL hb ?_
  with_reducible refine And.intro ?_ ?_
  with_reducible assumption
  with_reducible refine gi_W hL hb ?_
  with_reducible refine And.intro ?_ ?_
  with_reducible assumption
  with_reducible refine And.intro ?_ ?_
  with_reducible refine LW.gz hL (fun _ => trivial)
  with_reducible refine And.intro ?_ ?_
  omega
  with_reducible refine And.intro ?_ ?_
  omega
  with_reducible refine And.intro ?_ ?_
  omega
  with_reducible refine fX3_shift (LW.ms hL) (fun hXqc0 hXqw hXqh => ?_) (fun hSqc0 hSqc1 hSqw hSqh => ?_) (fun hTqc0 hTqr hTqc1 hTqc2 hTqw hTqh => ?_) (fun hFqc0 hFqr hFqc1 hFqc2 hFqw hFqh => ?_)
  simp only [eL_law_1223, kx_l, nl_int, tl_s]
  with_reducible exact next _ _ _ _ _ _ _ _ (LW.ofM hL hXqh) (by omega) (by omega)
  with_reducible exact absurd hSqc0 hXpc0
  with_reducible exact absurd hTqc0 hXpc0
  with_reducible exact absurd hFqc0 hXpc0
  simp only [eL_law_1205, eL_law_1209, eL_law_1214, eL_law_1220, kx_l, wt_nil, nl_int, tl_s]
  with_reducible refine gi_W hL hb ?_
  with_reducible refine And.intro ?_ ?_
  with_reducible assumption
  with_reducible refine gi_W hL hb ?_
  with_reducible refine And.intro ?_ ?_
  with_reducible assumption
  with_reducible refine And.intro ?_ ?_
  with_reducible refine LW.gz hL (fun _ => trivial)
  with_reducible refine And.intro ?_ ?_
  omega
  with_reducible refine And.intro ?_ ?_
  omega
  with_reducible refine And.intro ?_ ?_
  omega
  with_reducible refine fX3_shift (LW.ms hL) (fun hXqc0 hXqw hXqh => ?_) (fun hSqc0 hSqc1 hSqw hSqh => ?_) (fun hTqc0 hTqr hTqc1 hTqc2 hTqw hTqh => ?_) (fun hFqc0 hFqr hFqc1 hFqc2 hFqw hFqh => ?_)
  with_reducible exact absurd hSpc0 hXqc0
  simp only [eL_law_1223, kx_l, nl_int, tl_s]
  with_reducible exact next _ _ _ _ _ _ _ _ (LW.ofM hL hSqh) (by omega) (by omega)
  with_reducible exact (nsC hSpc1 hTqc1).elim
  with_reducible exact (nsC hSpc1 hFqc1).elim
  simp only [eL_law_1205, eL_law_1209, eL_law_1214, eL_law_1220, kx_l, wt_nil, nl_int, tl_s]
  with_reducible refine gi_W hTph hb ?_
  with_reducible refine And.intro ?_ ?_
  with_reducible assumption
  with_reducible refine gi_W hTph hb ?_
  with_reducible refine And.intro ?_ ?_
  with_reducible assumption
  with_reducible refine And.intro ?_ ?_
  with_reducible refine LW.gz hTph (fun _ => trivial)
  with_reducible refine And.intro ?_ ?_
  omega
  with_reducible refine And.intro ?_ ?_
  omega
  with_reducible refine And.intro ?_ ?_
  omega
  with_reducible refine fX3_shift (LW.ms hTph) (fun hXqc0 hXqw hXqh => ?_) (fun hSqc0 hSqc1 hSqw hSqh => ?_) (fun hTqc0 hTqr hTqc1 hTqc2 hTqw hTqh => ?_) (fun hFqc0 hFqr hFqc1 hFqc2 hFqw hFqh => ?_)
  with_reducible exact absurd hTpc0 hXqc0
  with_reducible exact (nsC hSqc1 hTpc1).elim
  cases Option.some.inj (hTpc1.symm.trans hTqc1); clear hTqc1
  simp only [eL_law_1223, kx_l, nl_int, tl_s]
  with_reducible exact next _ _ _ _ _ _ _ _ (LW.ofM hTph hTqh) (by omega) (by omega)
  cases Option.some.inj (hTpc1.symm.trans hFqc1); clear hFqc1
  with_reducible exact absurd hTpc2 hFqc2
  simp only [eL_law_1205, eL_law_1209, eL_law_1214, eL_law_1220, kx_l, wt_nil, nl_int, tl_s]
  with_reducible refine gi_W hFph hb ?_
  with_reducible refine And.intro ?_ ?_
  with_reducible assumption
  with_reducible refine gi_W hFph hb ?_
  with_reducible refine And.intro ?_ ?_
  with_reducible assumption
  with_reducible refine And.intro ?_ ?_
  with_reducible refine LW.gz hFph (fun _ => trivial)
  with_reducible refine And.intro ?_ ?_
  omega
  with_reducible refine And.intro ?_ ?_
  omega
  with_reducible refine And.intro ?_ ?_
  omega
  with_reducible refine fX3_shift (LW.ms hFph) (fun hXqc0 hXqw hXqh => ?_) (fun hSqc0 hSqc1 hSqw hSqh => ?_) (fun hTqc0 hTqr hTqc1 hTqc2 hTqw hTqh => ?_) (fun hFqc0 hFqr hFqc1 hFqc2 hFqw hFqh => ?_)
  with_reducible exact absurd hFpc0 hXqc0
  with_reducible exact (nsC hSqc1 hFpc1).elim
  cases Option.some.inj (hFpc1.symm.trans hTqc1); clear hTqc1
  with_reducible exact absurd hTqc2 hFpc2
  cases Option.some.inj (hFpc1.symm.trans hFqc1); clear hFqc1
  simp only [eL_law_1223, kx_l, nl_int, tl_s]
  with_reducible exact next _ _ _ _ _ _ _ _ (LW.ofM hFph hFqh) (by omega) (by omega)
set_option maxHeartbeats 4000000 in
theorem cL_20 (hR : RG g) (hb : g.2 b = some (.inl (1, L, .inl xs))) (hL : LW g w x nA cA lA y nM o kn kn th s s) (v1 : vp_in (i + 1) L) (v2 : vp_in (i + 2) L) (v3 : vp_in (i + 3) L) (v4 : vp_in (i + 4) L) (v5 : vp_in (i + 5) L) (hk : k + 114 ≤ 58408) (hn : n + 2834 ≤ 1451408) (next : (∀ (l5' l6' : Option Value) (w' : Hw) (k' n' : Nat) (kn' th' : Int32) (s' : AS), LW g w' x nA cA lA y nM o kn' kn' th' s' s' → k' ≤ k + 114 → n' ≤ n + 2834 → WP (ML_law g) QLaw (2246, [some (.ref b), some (.ref x), some (.ref y), some (.ref o), some (.int i), l5', l6'], [], w', k', n'))) : WP (ML_law g) QLaw (1228, [some (.ref b), some (.ref x), some (.ref y), some (.ref o), some (.int i), l5, l6], [], w, k, n) := by
  simp only [eL_law_1228, eL_law_1235, wt_nil]
  with_reducible refine gi_W hL hb ?_
  with_reducible refine And.intro ?_ ?_
  with_reducible assumption
  with_reducible refine And.intro ?_ ?_
  omega
  with_reducible refine And.intro ?_ ?_
  omega
  with_reducible refine And.intro ?_ ?_
  omega
  with_reducible refine fL_drop hL (fun hXpc0 => ?_) (fun hNpc0 hNpc1 hNpw hNph hNpo => ?_) (fun hSpc0 hSpr hSpc1 hSpw hSph hSpo => ?_)
  simp only [eL_law_1239, eL_law_1243, eL_law_1248, kx_l, wt_nil, nl_int, tl_s, Nat.add_zero]
  with_reducible refine gi_W hL hb ?_
  with_reducible refine And.intro ?_ ?_
  with_reducible assumption
  with_reducible refine And.intro ?_ ?_
  with_reducible refine LW.gz hL (fun _ => trivial)
  with_reducible refine And.intro ?_ ?_
  omega
  with_reducible refine And.intro ?_ ?_
  omega
  with_reducible refine And.intro ?_ ?_
  omega
  with_reducible refine fX3_drop (LW.ms hL) (fun hXqc0 hXqw hXqh => ?_) (fun hNqc0 hNqc1 hNqw hNqh => ?_) (fun hSqc0 hSqr hSqc1 hSqw hSqh => ?_)
  simp only [eL_law_1251, kx_l, nl_int, tl_s]
  with_reducible exact next _ _ _ _ _ _ _ _ (LW.ofM hL hXqh) (by omega) (by omega)
  with_reducible exact absurd hNqc0 hXpc0
  with_reducible exact absurd hSqc0 hXpc0
  simp only [eL_law_1239, eL_law_1243, eL_law_1248, kx_l, wt_nil, nl_int, tl_s, Nat.add_zero]
  with_reducible refine gi_W hNph hb ?_
  with_reducible refine And.intro ?_ ?_
  with_reducible assumption
  with_reducible refine And.intro ?_ ?_
  with_reducible refine LW.gz hNph (fun _ => trivial)
  with_reducible refine And.intro ?_ ?_
  omega
  with_reducible refine And.intro ?_ ?_
  omega
  with_reducible refine And.intro ?_ ?_
  omega
  with_reducible refine fX3_drop (LW.ms hNph) (fun hXqc0 hXqw hXqh => ?_) (fun hNqc0 hNqc1 hNqw hNqh => ?_) (fun hSqc0 hSqr hSqc1 hSqw hSqh => ?_)
  with_reducible exact absurd hNpc0 hXqc0
  simp only [eL_law_1251, kx_l, nl_int, tl_s]
  with_reducible exact next _ _ _ _ _ _ _ _ (LW.ofM hNph hNqh) (by omega) (by omega)
  with_reducible exact (nsC hNpc1 hSqc1).elim
  simp only [eL_law_1239, eL_law_1243, eL_law_1248, kx_l, wt_nil, nl_int, tl_s, Nat.add_zero]
  with_reducible refine gi_W hSph hb ?_
  with_reducible refine And.intro ?_ ?_
  with_reducible assumption
  with_reducible refine And.intro ?_ ?_
  with_reducible refine LW.gz hSph (fun _ => trivial)
  with_reducible refine And.intro ?_ ?_
  omega
  with_reducible refine And.intro ?_ ?_
  omega
  with_reducible refine And.intro ?_ ?_
  omega
  with_reducible refine fX3_drop (LW.ms hSph) (fun hXqc0 hXqw hXqh => ?_) (fun hNqc0 hNqc1 hNqw hNqh => ?_) (fun hSqc0 hSqr hSqc1 hSqw hSqh => ?_)
  with_reducible exact absurd hSpc0 hXqc0
  with_reducible exact (nsC hNqc1 hSpc1).elim
  cases Option.some.inj (hSpc1.symm.trans hSqc1); clear hSqc1
  simp only [eL_law_1251, kx_l, nl_int, tl_s]
  with_reducible exact next _ _ _ _ _ _ _ _ (LW.ofM hSph hSqh) (by omega) (by omega)
set_option maxHeartbeats 4000000 in
theorem cL_21 (hR : RG g) (hb : g.2 b = some (.inl (1, L, .inl xs))) (hL : LW g w x nA cA lA y nM o kn kn th s s) (v1 : vp_in (i + 1) L) (v2 : vp_in (i + 2) L) (v3 : vp_in (i + 3) L) (v4 : vp_in (i + 4) L) (v5 : vp_in (i + 5) L) (hk : k + 114 ≤ 58408) (hn : n + 2834 ≤ 1451408) (next : (∀ (l5' l6' : Option Value) (w' : Hw) (k' n' : Nat) (kn' th' : Int32) (s' : AS), LW g w' x nA cA lA y nM o kn' kn' th' s' s' → k' ≤ k + 114 → n' ≤ n + 2834 → WP (ML_law g) QLaw (2246, [some (.ref b), some (.ref x), some (.ref y), some (.ref o), some (.int i), l5', l6'], [], w', k', n'))) : WP (ML_law g) QLaw (1256, [some (.ref b), some (.ref x), some (.ref y), some (.ref o), some (.int i), l5, l6], [], w, k, n) := by
  simp only [eL_law_1256, eL_law_1263, wt_nil]
  with_reducible refine gi_W hL hb ?_
  with_reducible refine And.intro ?_ ?_
  with_reducible assumption
  with_reducible refine And.intro ?_ ?_
  omega
  with_reducible refine And.intro ?_ ?_
  omega
  with_reducible refine And.intro ?_ ?_
  omega
  with_reducible refine fL_isThere hL (fun hXpc0 => ?_) (fun hFpc0 hFpc1 hFpw hFph hFpo => ?_) (fun hTpc0 hTpr hTpc1 hTpw hTph hTpo => ?_)
  simp only [eL_law_1267, eL_law_1271, eL_law_1276, kx_l, wt_nil, nl_int, tl_s, Nat.add_zero]
  with_reducible refine gi_W hL hb ?_
  with_reducible refine And.intro ?_ ?_
  with_reducible assumption
  with_reducible refine And.intro ?_ ?_
  with_reducible refine LW.gz hL (fun _ => trivial)
  with_reducible refine And.intro ?_ ?_
  omega
  with_reducible refine And.intro ?_ ?_
  omega
  with_reducible refine And.intro ?_ ?_
  omega
  with_reducible refine fX3_isThere (LW.ms hL) (fun hXqc0 hXqw hXqh => ?_) (fun hFqc0 hFqc1 hFqw hFqh => ?_) (fun hTqc0 hTqr hTqc1 hTqw hTqh => ?_)
  simp only [eL_law_1279, kx_l, nl_int, tl_s]
  with_reducible exact next _ _ _ _ _ _ _ _ (LW.ofM hL hXqh) (by omega) (by omega)
  with_reducible exact absurd hFqc0 hXpc0
  with_reducible exact absurd hTqc0 hXpc0
  simp only [eL_law_1267, eL_law_1271, eL_law_1276, kx_l, wt_nil, nl_int, tl_s, Nat.add_zero]
  with_reducible refine gi_W hFph hb ?_
  with_reducible refine And.intro ?_ ?_
  with_reducible assumption
  with_reducible refine And.intro ?_ ?_
  with_reducible refine LW.gz hFph (fun _ => trivial)
  with_reducible refine And.intro ?_ ?_
  omega
  with_reducible refine And.intro ?_ ?_
  omega
  with_reducible refine And.intro ?_ ?_
  omega
  with_reducible refine fX3_isThere (LW.ms hFph) (fun hXqc0 hXqw hXqh => ?_) (fun hFqc0 hFqc1 hFqw hFqh => ?_) (fun hTqc0 hTqr hTqc1 hTqw hTqh => ?_)
  with_reducible exact absurd hFpc0 hXqc0
  simp only [eL_law_1279, kx_l, nl_int, tl_s]
  with_reducible exact next _ _ _ _ _ _ _ _ (LW.ofM hFph hFqh) (by omega) (by omega)
  with_reducible exact (nsC hFpc1 hTqc1).elim
  simp only [eL_law_1267, eL_law_1271, eL_law_1276, kx_l, wt_nil, nl_int, tl_s, Nat.add_zero]
  with_reducible refine gi_W hTph hb ?_
  with_reducible refine And.intro ?_ ?_
  with_reducible assumption
  with_reducible refine And.intro ?_ ?_
  with_reducible refine LW.gz hTph (fun _ => trivial)
  with_reducible refine And.intro ?_ ?_
  omega
  with_reducible refine And.intro ?_ ?_
  omega
  with_reducible refine And.intro ?_ ?_
  omega
  with_reducible refine fX3_isThere (LW.ms hTph) (fun hXqc0 hXqw hXqh => ?_) (fun hFqc0 hFqc1 hFqw hFqh => ?_) (fun hTqc0 hTqr hTqc1 hTqw hTqh => ?_)
  with_reducible exact absurd hTpc0 hXqc0
  with_reducible exact (nsC hFqc1 hTpc1).elim
  cases Option.some.inj (hTpc1.symm.trans hTqc1); clear hTqc1
  simp only [eL_law_1279, kx_l, nl_int, tl_s]
  with_reducible exact next _ _ _ _ _ _ _ _ (LW.ofM hTph hTqh) (by omega) (by omega)
set_option maxHeartbeats 4000000 in
theorem cL_22 (hR : RG g) (hb : g.2 b = some (.inl (1, L, .inl xs))) (hL : LW g w x nA cA lA y nM o kn kn th s s) (v1 : vp_in (i + 1) L) (v2 : vp_in (i + 2) L) (v3 : vp_in (i + 3) L) (v4 : vp_in (i + 4) L) (v5 : vp_in (i + 5) L) (hk : k + 114 ≤ 58408) (hn : n + 2834 ≤ 1451408) (next : (∀ (l5' l6' : Option Value) (w' : Hw) (k' n' : Nat) (kn' th' : Int32) (s' : AS), LW g w' x nA cA lA y nM o kn' kn' th' s' s' → k' ≤ k + 114 → n' ≤ n + 2834 → WP (ML_law g) QLaw (2246, [some (.ref b), some (.ref x), some (.ref y), some (.ref o), some (.int i), l5', l6'], [], w', k', n'))) : WP (ML_law g) QLaw (1284, [some (.ref b), some (.ref x), some (.ref y), some (.ref o), some (.int i), l5, l6], [], w, k, n) := by
  simp only [eL_law_1284, eL_law_1291, wt_nil]
  with_reducible refine gi_W hL hb ?_
  with_reducible refine And.intro ?_ ?_
  with_reducible assumption
  with_reducible refine And.intro ?_ ?_
  omega
  with_reducible refine And.intro ?_ ?_
  omega
  with_reducible refine And.intro ?_ ?_
  omega
  with_reducible refine fL_isFixed hL (fun hXpc0 => ?_) (fun hSpc0 hSpc1 => ?_) (fun hTpc0 hTpr hTpc1 hTpc2 hTpw hTph hTpo => ?_) (fun hFpc0 hFpr hFpc1 hFpc2 hFpw hFph hFpo => ?_)
  simp only [eL_law_1295, eL_law_1299, eL_law_1304, kx_l, wt_nil, nl_int, tl_s, Nat.add_zero]
  with_reducible refine gi_W hL hb ?_
  with_reducible refine And.intro ?_ ?_
  with_reducible assumption
  with_reducible refine And.intro ?_ ?_
  with_reducible refine LW.gz hL (fun _ => trivial)
  with_reducible refine And.intro ?_ ?_
  omega
  with_reducible refine And.intro ?_ ?_
  omega
  with_reducible refine And.intro ?_ ?_
  omega
  with_reducible refine fX3_isFixed (LW.ms hL) (fun hXqc0 hXqw hXqh => ?_) (fun hSqc0 hSqc1 hSqw hSqh => ?_) (fun hTqc0 hTqr hTqc1 hTqc2 hTqw hTqh => ?_) (fun hFqc0 hFqr hFqc1 hFqc2 hFqw hFqh => ?_)
  simp only [eL_law_1307, kx_l, nl_int, tl_s]
  with_reducible exact next _ _ _ _ _ _ _ _ (LW.ofM hL hXqh) (by omega) (by omega)
  with_reducible exact absurd hSqc0 hXpc0
  with_reducible exact absurd hTqc0 hXpc0
  with_reducible exact absurd hFqc0 hXpc0
  simp only [eL_law_1295, eL_law_1299, eL_law_1304, kx_l, wt_nil, nl_int, tl_s, Nat.add_zero]
  with_reducible refine gi_W hL hb ?_
  with_reducible refine And.intro ?_ ?_
  with_reducible assumption
  with_reducible refine And.intro ?_ ?_
  with_reducible refine LW.gz hL (fun _ => trivial)
  with_reducible refine And.intro ?_ ?_
  omega
  with_reducible refine And.intro ?_ ?_
  omega
  with_reducible refine And.intro ?_ ?_
  omega
  with_reducible refine fX3_isFixed (LW.ms hL) (fun hXqc0 hXqw hXqh => ?_) (fun hSqc0 hSqc1 hSqw hSqh => ?_) (fun hTqc0 hTqr hTqc1 hTqc2 hTqw hTqh => ?_) (fun hFqc0 hFqr hFqc1 hFqc2 hFqw hFqh => ?_)
  with_reducible exact absurd hSpc0 hXqc0
  simp only [eL_law_1307, kx_l, nl_int, tl_s]
  with_reducible exact next _ _ _ _ _ _ _ _ (LW.ofM hL hSqh) (by omega) (by omega)
  with_reducible exact (nsC hSpc1 hTqc1).elim
  with_reducible exact (nsC hSpc1 hFqc1).elim
  simp only [eL_law_1295, eL_law_1299, eL_law_1304, kx_l, wt_nil, nl_int, tl_s, Nat.add_zero]
  with_reducible refine gi_W hTph hb ?_
  with_reducible refine And.intro ?_ ?_
  with_reducible assumption
  with_reducible refine And.intro ?_ ?_
  with_reducible refine LW.gz hTph (fun _ => trivial)
  with_reducible refine And.intro ?_ ?_
  omega
  with_reducible refine And.intro ?_ ?_
  omega
  with_reducible refine And.intro ?_ ?_
  omega
  with_reducible refine fX3_isFixed (LW.ms hTph) (fun hXqc0 hXqw hXqh => ?_) (fun hSqc0 hSqc1 hSqw hSqh => ?_) (fun hTqc0 hTqr hTqc1 hTqc2 hTqw hTqh => ?_) (fun hFqc0 hFqr hFqc1 hFqc2 hFqw hFqh => ?_)
  with_reducible exact absurd hTpc0 hXqc0
  with_reducible exact (nsC hSqc1 hTpc1).elim
  cases Option.some.inj (hTpc1.symm.trans hTqc1); clear hTqc1
  simp only [eL_law_1307, kx_l, nl_int, tl_s]
  with_reducible exact next _ _ _ _ _ _ _ _ (LW.ofM hTph hTqh) (by omega) (by omega)
  cases Option.some.inj (hTpc1.symm.trans hFqc1); clear hFqc1
  with_reducible exact absurd hTpc2 hFqc2
  simp only [eL_law_1295, eL_law_1299, eL_law_1304, kx_l, wt_nil, nl_int, tl_s, Nat.add_zero]
  with_reducible refine gi_W hFph hb ?_
  with_reducible refine And.intro ?_ ?_
  with_reducible assumption
  with_reducible refine And.intro ?_ ?_
  with_reducible refine LW.gz hFph (fun _ => trivial)
  with_reducible refine And.intro ?_ ?_
  omega
  with_reducible refine And.intro ?_ ?_
  omega
  with_reducible refine And.intro ?_ ?_
  omega
  with_reducible refine fX3_isFixed (LW.ms hFph) (fun hXqc0 hXqw hXqh => ?_) (fun hSqc0 hSqc1 hSqw hSqh => ?_) (fun hTqc0 hTqr hTqc1 hTqc2 hTqw hTqh => ?_) (fun hFqc0 hFqr hFqc1 hFqc2 hFqw hFqh => ?_)
  with_reducible exact absurd hFpc0 hXqc0
  with_reducible exact (nsC hSqc1 hFpc1).elim
  cases Option.some.inj (hFpc1.symm.trans hTqc1); clear hTqc1
  with_reducible exact absurd hTqc2 hFpc2
  cases Option.some.inj (hFpc1.symm.trans hFqc1); clear hFqc1
  simp only [eL_law_1307, kx_l, nl_int, tl_s]
  with_reducible exact next _ _ _ _ _ _ _ _ (LW.ofM hFph hFqh) (by omega) (by omega)
set_option maxHeartbeats 4000000 in
theorem cL_23 (hR : RG g) (hb : g.2 b = some (.inl (1, L, .inl xs))) (hL : LW g w x nA cA lA y nM o kn kn th s s) (v1 : vp_in (i + 1) L) (v2 : vp_in (i + 2) L) (v3 : vp_in (i + 3) L) (v4 : vp_in (i + 4) L) (v5 : vp_in (i + 5) L) (hk : k + 114 ≤ 58408) (hn : n + 2834 ≤ 1451408) (next : (∀ (l5' l6' : Option Value) (w' : Hw) (k' n' : Nat) (kn' th' : Int32) (s' : AS), LW g w' x nA cA lA y nM o kn' kn' th' s' s' → k' ≤ k + 114 → n' ≤ n + 2834 → WP (ML_law g) QLaw (2246, [some (.ref b), some (.ref x), some (.ref y), some (.ref o), some (.int i), l5', l6'], [], w', k', n'))) : WP (ML_law g) QLaw (1312, [some (.ref b), some (.ref x), some (.ref y), some (.ref o), some (.int i), l5, l6], [], w, k, n) := by
  simp only [eL_law_1312, eL_law_1319, wt_nil]
  with_reducible refine gi_W hL hb ?_
  with_reducible refine And.intro ?_ ?_
  with_reducible assumption
  with_reducible refine And.intro ?_ ?_
  omega
  with_reducible refine And.intro ?_ ?_
  omega
  with_reducible refine And.intro ?_ ?_
  omega
  with_reducible refine fL_isSmall hL (fun hXpc0 => ?_) (fun hSpc0 hSpc1 => ?_) (fun hTpc0 hTpr hTpc1 hTpc2 hTpw hTph hTpo => ?_) (fun hFpc0 hFpr hFpc1 hFpc2 hFpw hFph hFpo => ?_)
  simp only [eL_law_1323, eL_law_1327, eL_law_1332, kx_l, wt_nil, nl_int, tl_s, Nat.add_zero]
  with_reducible refine gi_W hL hb ?_
  with_reducible refine And.intro ?_ ?_
  with_reducible assumption
  with_reducible refine And.intro ?_ ?_
  with_reducible refine LW.gz hL (fun _ => trivial)
  with_reducible refine And.intro ?_ ?_
  omega
  with_reducible refine And.intro ?_ ?_
  omega
  with_reducible refine And.intro ?_ ?_
  omega
  with_reducible refine fX3_isSmall (LW.ms hL) (fun hXqc0 hXqw hXqh => ?_) (fun hSqc0 hSqc1 hSqw hSqh => ?_) (fun hTqc0 hTqr hTqc1 hTqc2 hTqw hTqh => ?_) (fun hFqc0 hFqr hFqc1 hFqc2 hFqw hFqh => ?_)
  simp only [eL_law_1335, kx_l, nl_int, tl_s]
  with_reducible exact next _ _ _ _ _ _ _ _ (LW.ofM hL hXqh) (by omega) (by omega)
  with_reducible exact absurd hSqc0 hXpc0
  with_reducible exact absurd hTqc0 hXpc0
  with_reducible exact absurd hFqc0 hXpc0
  simp only [eL_law_1323, eL_law_1327, eL_law_1332, kx_l, wt_nil, nl_int, tl_s, Nat.add_zero]
  with_reducible refine gi_W hL hb ?_
  with_reducible refine And.intro ?_ ?_
  with_reducible assumption
  with_reducible refine And.intro ?_ ?_
  with_reducible refine LW.gz hL (fun _ => trivial)
  with_reducible refine And.intro ?_ ?_
  omega
  with_reducible refine And.intro ?_ ?_
  omega
  with_reducible refine And.intro ?_ ?_
  omega
  with_reducible refine fX3_isSmall (LW.ms hL) (fun hXqc0 hXqw hXqh => ?_) (fun hSqc0 hSqc1 hSqw hSqh => ?_) (fun hTqc0 hTqr hTqc1 hTqc2 hTqw hTqh => ?_) (fun hFqc0 hFqr hFqc1 hFqc2 hFqw hFqh => ?_)
  with_reducible exact absurd hSpc0 hXqc0
  simp only [eL_law_1335, kx_l, nl_int, tl_s]
  with_reducible exact next _ _ _ _ _ _ _ _ (LW.ofM hL hSqh) (by omega) (by omega)
  with_reducible exact (nsC hSpc1 hTqc1).elim
  with_reducible exact (nsC hSpc1 hFqc1).elim
  simp only [eL_law_1323, eL_law_1327, eL_law_1332, kx_l, wt_nil, nl_int, tl_s, Nat.add_zero]
  with_reducible refine gi_W hTph hb ?_
  with_reducible refine And.intro ?_ ?_
  with_reducible assumption
  with_reducible refine And.intro ?_ ?_
  with_reducible refine LW.gz hTph (fun _ => trivial)
  with_reducible refine And.intro ?_ ?_
  omega
  with_reducible refine And.intro ?_ ?_
  omega
  with_reducible refine And.intro ?_ ?_
  omega
  with_reducible refine fX3_isSmall (LW.ms hTph) (fun hXqc0 hXqw hXqh => ?_) (fun hSqc0 hSqc1 hSqw hSqh => ?_) (fun hTqc0 hTqr hTqc1 hTqc2 hTqw hTqh => ?_) (fun hFqc0 hFqr hFqc1 hFqc2 hFqw hFqh => ?_)
  with_reducible exact absurd hTpc0 hXqc0
  with_reducible exact (nsC hSqc1 hTpc1).elim
  cases Option.some.inj (hTpc1.symm.trans hTqc1); clear hTqc1
  simp only [eL_law_1335, kx_l, nl_int, tl_s]
  with_reducible exact next _ _ _ _ _ _ _ _ (LW.ofM hTph hTqh) (by omega) (by omega)
  cases Option.some.inj (hTpc1.symm.trans hFqc1); clear hFqc1
  with_reducible exact absurd hTpc2 hFqc2
  simp only [eL_law_1323, eL_law_1327, eL_law_1332, kx_l, wt_nil, nl_int, tl_s, Nat.add_zero]
  with_reducible refine gi_W hFph hb ?_
  with_reducible refine And.intro ?_ ?_
  with_reducible assumption
  with_reducible refine And.intro ?_ ?_
  with_reducible refine LW.gz hFph (fun _ => trivial)
  with_reducible refine And.intro ?_ ?_
  omega
  with_reducible refine And.intro ?_ ?_
  omega
  with_reducible refine And.intro ?_ ?_
  omega
  with_reducible refine fX3_isSmall (LW.ms hFph) (fun hXqc0 hXqw hXqh => ?_) (fun hSqc0 hSqc1 hSqw hSqh => ?_) (fun hTqc0 hTqr hTqc1 hTqc2 hTqw hTqh => ?_) (fun hFqc0 hFqr hFqc1 hFqc2 hFqw hFqh => ?_)
  with_reducible exact absurd hFpc0 hXqc0
  with_reducible exact (nsC hSqc1 hFpc1).elim
  cases Option.some.inj (hFpc1.symm.trans hTqc1); clear hTqc1
  with_reducible exact absurd hTqc2 hFpc2
  cases Option.some.inj (hFpc1.symm.trans hFqc1); clear hFqc1
  simp only [eL_law_1335, kx_l, nl_int, tl_s]
  with_reducible exact next _ _ _ _ _ _ _ _ (LW.ofM hFph hFqh) (by omega) (by omega)
end
end
/-! 79.cw2.lean.txt -/
section
section
variable {g : RO} {w : Hw} {x nA cA lA y nM o b L k n : Nat} {xs : Nat → Int32} {i kn th : Int32} {s : AS} {l5 l6 : Option Value}
set_option maxHeartbeats 4000000 in
theorem cL_24 (hR : RG g) (hb : g.2 b = some (.inl (1, L, .inl xs))) (hL : LW g w x nA cA lA y nM o kn kn th s s) (v1 : vp_in (i + 1) L) (v2 : vp_in (i + 2) L) (v3 : vp_in (i + 3) L) (v4 : vp_in (i + 4) L) (v5 : vp_in (i + 5) L) (hk : k + 114 ≤ 58408) (hn : n + 2834 ≤ 1451408) (next : (∀ (l5' l6' : Option Value) (w' : Hw) (k' n' : Nat) (kn' th' : Int32) (s' : AS), LW g w' x nA cA lA y nM o kn' kn' th' s' s' → k' ≤ k + 114 → n' ≤ n + 2834 → WP (ML_law g) QLaw (2246, [some (.ref b), some (.ref x), some (.ref y), some (.ref o), some (.int i), l5', l6'], [], w', k', n'))) : WP (ML_law g) QLaw (1340, [some (.ref b), some (.ref x), some (.ref y), some (.ref o), some (.int i), l5, l6], [], w, k, n) := by
  simp only [eL_law_1340, eL_law_1347, eL_law_1353, eL_law_1359, eL_law_1362, eL_law_1366, eL_law_1367, wt_nil]
  with_reducible refine gi_W hL hb ?_
  with_reducible refine And.intro ?_ ?_
  with_reducible assumption
  with_reducible refine gi_W hL hb ?_
  with_reducible refine And.intro ?_ ?_
  with_reducible assumption
  with_reducible refine gi_W hL hb ?_
  with_reducible refine And.intro ?_ ?_
  with_reducible assumption
  split
  with_reducible refine And.intro ?_ ?_
  omega
  with_reducible refine And.intro ?_ ?_
  omega
  with_reducible refine And.intro ?_ ?_
  omega
  with_reducible refine fL_end hL (fun hXpc0 => ?_) (fun hWpc0 hWpc1 => ?_) (fun hSpc0 hSpc1 hSpc2 => ?_) (fun hQpc0 hQpc1 hQpr hQpc2 hQpw hQph hQpo => ?_)
  simp only [eL_law_1371, eL_law_1375, eL_law_1380, eL_law_1386, eL_law_1392, eL_law_1395, eL_law_1399, eL_law_1400, kx_l, wt_nil, nl_int, tl_s, Nat.add_zero]
  with_reducible refine gi_W hL hb ?_
  with_reducible refine And.intro ?_ ?_
  with_reducible assumption
  with_reducible refine gi_W hL hb ?_
  with_reducible refine And.intro ?_ ?_
  with_reducible assumption
  with_reducible refine gi_W hL hb ?_
  with_reducible refine And.intro ?_ ?_
  with_reducible assumption
  split
  with_reducible refine And.intro ?_ ?_
  with_reducible refine LW.gz hL (fun _ => trivial)
  with_reducible refine And.intro ?_ ?_
  omega
  with_reducible refine And.intro ?_ ?_
  omega
  with_reducible refine And.intro ?_ ?_
  omega
  with_reducible refine fX3_end (LW.ms hL) (fun hXqc0 hXqw hXqh => ?_) (fun hWqc0 hWqc1 hWqw hWqh => ?_) (fun hSqc0 hSqc1 hSqc2 hSqw hSqh => ?_) (fun hQqc0 hQqc1 hQqr hQqc2 hQqw hQqh => ?_)
  simp only [eL_law_1403, kx_l, nl_int, tl_s]
  with_reducible exact next _ _ _ _ _ _ _ _ (LW.ofM hL hXqh) (by omega) (by omega)
  with_reducible exact absurd hWqc0 hXpc0
  with_reducible exact absurd hSqc0 hXpc0
  with_reducible exact absurd hQqc0 hXpc0
  with_reducible refine And.intro ?_ ?_
  with_reducible refine LW.gz hL (fun _ => trivial)
  with_reducible refine And.intro ?_ ?_
  with_reducible exact absurd (show xs (i + 3).toNatClampNeg = 0 by assumption) (by assumption)
  with_reducible refine And.intro ?_ ?_
  with_reducible exact absurd (show xs (i + 3).toNatClampNeg = 0 by assumption) (by assumption)
  with_reducible refine And.intro ?_ ?_
  with_reducible exact absurd (show xs (i + 3).toNatClampNeg = 0 by assumption) (by assumption)
  with_reducible refine fX3_end (LW.ms hL) (fun hXqc0 hXqw hXqh => ?_) (fun hWqc0 hWqc1 hWqw hWqh => ?_) (fun hSqc0 hSqc1 hSqc2 hSqw hSqh => ?_) (fun hQqc0 hQqc1 hQqr hQqc2 hQqw hQqh => ?_)
  with_reducible exact absurd (show xs (i + 3).toNatClampNeg = 0 by assumption) (by assumption)
  with_reducible exact absurd hWqc0 hXpc0
  with_reducible exact absurd hSqc0 hXpc0
  with_reducible exact absurd hQqc0 hXpc0
  simp only [eL_law_1371, eL_law_1375, eL_law_1380, eL_law_1386, eL_law_1392, eL_law_1395, eL_law_1399, eL_law_1400, kx_l, wt_nil, nl_int, tl_s, Nat.add_zero]
  with_reducible refine gi_W hL hb ?_
  with_reducible refine And.intro ?_ ?_
  with_reducible assumption
  with_reducible refine gi_W hL hb ?_
  with_reducible refine And.intro ?_ ?_
  with_reducible assumption
  with_reducible refine gi_W hL hb ?_
  with_reducible refine And.intro ?_ ?_
  with_reducible assumption
  split
  with_reducible refine And.intro ?_ ?_
  with_reducible refine LW.gz hL (fun _ => trivial)
  with_reducible refine And.intro ?_ ?_
  omega
  with_reducible refine And.intro ?_ ?_
  omega
  with_reducible refine And.intro ?_ ?_
  omega
  with_reducible refine fX3_end (LW.ms hL) (fun hXqc0 hXqw hXqh => ?_) (fun hWqc0 hWqc1 hWqw hWqh => ?_) (fun hSqc0 hSqc1 hSqc2 hSqw hSqh => ?_) (fun hQqc0 hQqc1 hQqr hQqc2 hQqw hQqh => ?_)
  with_reducible exact absurd hWpc0 hXqc0
  simp only [eL_law_1403, kx_l, nl_int, tl_s]
  with_reducible exact next _ _ _ _ _ _ _ _ (LW.ofM hL hWqh) (by omega) (by omega)
  with_reducible exact absurd hSqc1 hWpc1
  with_reducible exact absurd hQqc1 hWpc1
  with_reducible refine And.intro ?_ ?_
  with_reducible refine LW.gz hL (fun _ => trivial)
  with_reducible refine And.intro ?_ ?_
  with_reducible exact absurd (show xs (i + 3).toNatClampNeg = 0 by assumption) (by assumption)
  with_reducible refine And.intro ?_ ?_
  with_reducible exact absurd (show xs (i + 3).toNatClampNeg = 0 by assumption) (by assumption)
  with_reducible refine And.intro ?_ ?_
  with_reducible exact absurd (show xs (i + 3).toNatClampNeg = 0 by assumption) (by assumption)
  with_reducible refine fX3_end (LW.ms hL) (fun hXqc0 hXqw hXqh => ?_) (fun hWqc0 hWqc1 hWqw hWqh => ?_) (fun hSqc0 hSqc1 hSqc2 hSqw hSqh => ?_) (fun hQqc0 hQqc1 hQqr hQqc2 hQqw hQqh => ?_)
  with_reducible exact absurd hWpc0 hXqc0
  with_reducible exact absurd (show xs (i + 3).toNatClampNeg = 0 by assumption) (by assumption)
  with_reducible exact absurd hSqc1 hWpc1
  with_reducible exact absurd hQqc1 hWpc1
  simp only [eL_law_1371, eL_law_1375, eL_law_1380, eL_law_1386, eL_law_1392, eL_law_1395, eL_law_1399, eL_law_1400, kx_l, wt_nil, nl_int, tl_s, Nat.add_zero]
  with_reducible refine gi_W hL hb ?_
  with_reducible refine And.intro ?_ ?_
  with_reducible assumption
  with_reducible refine gi_W hL hb ?_
  with_reducible refine And.intro ?_ ?_
  with_reducible assumption
  with_reducible refine gi_W hL hb ?_
  with_reducible refine And.intro ?_ ?_
  with_reducible assumption
  split
  with_reducible refine And.intro ?_ ?_
  with_reducible refine LW.gz hL (fun _ => trivial)
  with_reducible refine And.intro ?_ ?_
  omega
  with_reducible refine And.intro ?_ ?_
  omega
  with_reducible refine And.intro ?_ ?_
  omega
  with_reducible refine fX3_end (LW.ms hL) (fun hXqc0 hXqw hXqh => ?_) (fun hWqc0 hWqc1 hWqw hWqh => ?_) (fun hSqc0 hSqc1 hSqc2 hSqw hSqh => ?_) (fun hQqc0 hQqc1 hQqr hQqc2 hQqw hQqh => ?_)
  with_reducible exact absurd hSpc0 hXqc0
  with_reducible exact absurd hSpc1 hWqc1
  simp only [eL_law_1403, kx_l, nl_int, tl_s]
  with_reducible exact next _ _ _ _ _ _ _ _ (LW.ofM hL hSqh) (by omega) (by omega)
  with_reducible exact (nsC hSpc2 hQqc2).elim
  with_reducible refine And.intro ?_ ?_
  with_reducible refine LW.gz hL (fun _ => trivial)
  with_reducible refine And.intro ?_ ?_
  with_reducible exact absurd (show xs (i + 3).toNatClampNeg = 0 by assumption) (by assumption)
  with_reducible refine And.intro ?_ ?_
  with_reducible exact absurd (show xs (i + 3).toNatClampNeg = 0 by assumption) (by assumption)
  with_reducible refine And.intro ?_ ?_
  with_reducible exact absurd (show xs (i + 3).toNatClampNeg = 0 by assumption) (by assumption)
  with_reducible refine fX3_end (LW.ms hL) (fun hXqc0 hXqw hXqh => ?_) (fun hWqc0 hWqc1 hWqw hWqh => ?_) (fun hSqc0 hSqc1 hSqc2 hSqw hSqh => ?_) (fun hQqc0 hQqc1 hQqr hQqc2 hQqw hQqh => ?_)
  with_reducible exact absurd hSpc0 hXqc0
  with_reducible exact absurd hSpc1 hWqc1
  with_reducible exact absurd (show xs (i + 3).toNatClampNeg = 0 by assumption) (by assumption)
  with_reducible exact (nsC hSpc2 hQqc2).elim
  simp only [eL_law_1371, eL_law_1375, eL_law_1380, eL_law_1386, eL_law_1392, eL_law_1395, eL_law_1399, eL_law_1400, kx_l, wt_nil, nl_int, tl_s, Nat.add_zero]
  with_reducible refine gi_W hQph hb ?_
  with_reducible refine And.intro ?_ ?_
  with_reducible assumption
  with_reducible refine gi_W hQph hb ?_
  with_reducible refine And.intro ?_ ?_
  with_reducible assumption
  with_reducible refine gi_W hQph hb ?_
  with_reducible refine And.intro ?_ ?_
  with_reducible assumption
  split
  with_reducible refine And.intro ?_ ?_
  with_reducible refine LW.gz hQph (fun _ => trivial)
  with_reducible refine And.intro ?_ ?_
  omega
  with_reducible refine And.intro ?_ ?_
  omega
  with_reducible refine And.intro ?_ ?_
  omega
  with_reducible refine fX3_end (LW.ms hQph) (fun hXqc0 hXqw hXqh => ?_) (fun hWqc0 hWqc1 hWqw hWqh => ?_) (fun hSqc0 hSqc1 hSqc2 hSqw hSqh => ?_) (fun hQqc0 hQqc1 hQqr hQqc2 hQqw hQqh => ?_)
  with_reducible exact absurd hQpc0 hXqc0
  with_reducible exact absurd hQpc1 hWqc1
  with_reducible exact (nsC hSqc2 hQpc2).elim
  cases Option.some.inj (hQpc2.symm.trans hQqc2); clear hQqc2
  simp only [eL_law_1403, kx_l, nl_int, tl_s]
  with_reducible exact next _ _ _ _ _ _ _ _ (LW.ofM hQph hQqh) (by omega) (by omega)
  with_reducible refine And.intro ?_ ?_
  with_reducible refine LW.gz hQph (fun _ => trivial)
  with_reducible refine And.intro ?_ ?_
  with_reducible exact absurd (show xs (i + 3).toNatClampNeg = 0 by assumption) (by assumption)
  with_reducible refine And.intro ?_ ?_
  with_reducible exact absurd (show xs (i + 3).toNatClampNeg = 0 by assumption) (by assumption)
  with_reducible refine And.intro ?_ ?_
  with_reducible exact absurd (show xs (i + 3).toNatClampNeg = 0 by assumption) (by assumption)
  with_reducible refine fX3_end (LW.ms hQph) (fun hXqc0 hXqw hXqh => ?_) (fun hWqc0 hWqc1 hWqw hWqh => ?_) (fun hSqc0 hSqc1 hSqc2 hSqw hSqh => ?_) (fun hQqc0 hQqc1 hQqr hQqc2 hQqw hQqh => ?_)
  with_reducible exact absurd hQpc0 hXqc0
  with_reducible exact absurd hQpc1 hWqc1
  with_reducible exact (nsC hSqc2 hQpc2).elim
  cases Option.some.inj (hQpc2.symm.trans hQqc2); clear hQqc2
  with_reducible exact absurd (show xs (i + 3).toNatClampNeg = 0 by assumption) (by assumption)
  with_reducible refine And.intro ?_ ?_
  omega
  with_reducible refine And.intro ?_ ?_
  omega
  with_reducible refine And.intro ?_ ?_
  omega
  with_reducible refine fL_end hL (fun hXpc0 => ?_) (fun hWpc0 hWpc1 => ?_) (fun hSpc0 hSpc1 hSpc2 => ?_) (fun hQpc0 hQpc1 hQpr hQpc2 hQpw hQph hQpo => ?_)
  simp only [eL_law_1371, eL_law_1375, eL_law_1380, eL_law_1386, eL_law_1392, eL_law_1395, eL_law_1399, eL_law_1400, kx_l, wt_nil, nl_int, tl_s, Nat.add_zero]
  with_reducible refine gi_W hL hb ?_
  with_reducible refine And.intro ?_ ?_
  with_reducible assumption
  with_reducible refine gi_W hL hb ?_
  with_reducible refine And.intro ?_ ?_
  with_reducible assumption
  with_reducible refine gi_W hL hb ?_
  with_reducible refine And.intro ?_ ?_
  with_reducible assumption
  split
  with_reducible refine And.intro ?_ ?_
  with_reducible refine LW.gz hL (fun _ => trivial)
  with_reducible refine And.intro ?_ ?_
  with_reducible exact absurd (show xs (i + 3).toNatClampNeg = 0 by assumption) (by assumption)
  with_reducible refine And.intro ?_ ?_
  with_reducible exact absurd (show xs (i + 3).toNatClampNeg = 0 by assumption) (by assumption)
  with_reducible refine And.intro ?_ ?_
  with_reducible exact absurd (show xs (i + 3).toNatClampNeg = 0 by assumption) (by assumption)
  with_reducible refine fX3_end (LW.ms hL) (fun hXqc0 hXqw hXqh => ?_) (fun hWqc0 hWqc1 hWqw hWqh => ?_) (fun hSqc0 hSqc1 hSqc2 hSqw hSqh => ?_) (fun hQqc0 hQqc1 hQqr hQqc2 hQqw hQqh => ?_)
  with_reducible exact absurd (show xs (i + 3).toNatClampNeg = 0 by assumption) (by assumption)
  with_reducible exact absurd hWqc0 hXpc0
  with_reducible exact absurd hSqc0 hXpc0
  with_reducible exact absurd hQqc0 hXpc0
  with_reducible refine And.intro ?_ ?_
  with_reducible refine LW.gz hL (fun _ => trivial)
  with_reducible refine And.intro ?_ ?_
  omega
  with_reducible refine And.intro ?_ ?_
  omega
  with_reducible refine And.intro ?_ ?_
  omega
  with_reducible refine fX3_end (LW.ms hL) (fun hXqc0 hXqw hXqh => ?_) (fun hWqc0 hWqc1 hWqw hWqh => ?_) (fun hSqc0 hSqc1 hSqc2 hSqw hSqh => ?_) (fun hQqc0 hQqc1 hQqr hQqc2 hQqw hQqh => ?_)
  simp only [eL_law_1403, kx_l, nl_int, tl_s]
  with_reducible exact next _ _ _ _ _ _ _ _ (LW.ofM hL hXqh) (by omega) (by omega)
  with_reducible exact absurd hWqc0 hXpc0
  with_reducible exact absurd hSqc0 hXpc0
  with_reducible exact absurd hQqc0 hXpc0
  simp only [eL_law_1371, eL_law_1375, eL_law_1380, eL_law_1386, eL_law_1392, eL_law_1395, eL_law_1399, eL_law_1400, kx_l, wt_nil, nl_int, tl_s, Nat.add_zero]
  with_reducible refine gi_W hL hb ?_
  with_reducible refine And.intro ?_ ?_
  with_reducible assumption
  with_reducible refine gi_W hL hb ?_
  with_reducible refine And.intro ?_ ?_
  with_reducible assumption
  with_reducible refine gi_W hL hb ?_
  with_reducible refine And.intro ?_ ?_
  with_reducible assumption
  split
  with_reducible refine And.intro ?_ ?_
  with_reducible refine LW.gz hL (fun _ => trivial)
  with_reducible refine And.intro ?_ ?_
  with_reducible exact absurd (show xs (i + 3).toNatClampNeg = 0 by assumption) (by assumption)
  with_reducible refine And.intro ?_ ?_
  with_reducible exact absurd (show xs (i + 3).toNatClampNeg = 0 by assumption) (by assumption)
  with_reducible refine And.intro ?_ ?_
  with_reducible exact absurd (show xs (i + 3).toNatClampNeg = 0 by assumption) (by assumption)
  with_reducible refine fX3_end (LW.ms hL) (fun hXqc0 hXqw hXqh => ?_) (fun hWqc0 hWqc1 hWqw hWqh => ?_) (fun hSqc0 hSqc1 hSqc2 hSqw hSqh => ?_) (fun hQqc0 hQqc1 hQqr hQqc2 hQqw hQqh => ?_)
  with_reducible exact absurd hWpc0 hXqc0
  with_reducible exact absurd (show xs (i + 3).toNatClampNeg = 0 by assumption) (by assumption)
  with_reducible exact absurd hSqc1 hWpc1
  with_reducible exact absurd hQqc1 hWpc1
  with_reducible refine And.intro ?_ ?_
  with_reducible refine LW.gz hL (fun _ => trivial)
  with_reducible refine And.intro ?_ ?_
  omega
  with_reducible refine And.intro ?_ ?_
  omega
  with_reducible refine And.intro ?_ ?_
  omega
  with_reducible refine fX3_end (LW.ms hL) (fun hXqc0 hXqw hXqh => ?_) (fun hWqc0 hWqc1 hWqw hWqh => ?_) (fun hSqc0 hSqc1 hSqc2 hSqw hSqh => ?_) (fun hQqc0 hQqc1 hQqr hQqc2 hQqw hQqh => ?_)
  with_reducible exact absurd hWpc0 hXqc0
  simp only [eL_law_1403, kx_l, nl_int, tl_s]
  with_reducible exact next _ _ _ _ _ _ _ _ (LW.ofM hL hWqh) (by omega) (by omega)
  with_reducible exact absurd hSqc1 hWpc1
  with_reducible exact absurd hQqc1 hWpc1
  simp only [eL_law_1371, eL_law_1375, eL_law_1380, eL_law_1386, eL_law_1392, eL_law_1395, eL_law_1399, eL_law_1400, kx_l, wt_nil, nl_int, tl_s, Nat.add_zero]
  with_reducible refine gi_W hL hb ?_
  with_reducible refine And.intro ?_ ?_
  with_reducible assumption
  with_reducible refine gi_W hL hb ?_
  with_reducible refine And.intro ?_ ?_
  with_reducible assumption
  with_reducible refine gi_W hL hb ?_
  with_reducible refine And.intro ?_ ?_
  with_reducible assumption
  split
  with_reducible refine And.intro ?_ ?_
  with_reducible refine LW.gz hL (fun _ => trivial)
  with_reducible refine And.intro ?_ ?_
  with_reducible exact absurd (show xs (i + 3).toNatClampNeg = 0 by assumption) (by assumption)
  with_reducible refine And.intro ?_ ?_
  with_reducible exact absurd (show xs (i + 3).toNatClampNeg = 0 by assumption) (by assumption)
  with_reducible refine And.intro ?_ ?_
  with_reducible exact absurd (show xs (i + 3).toNatClampNeg = 0 by assumption) (by assumption)
  with_reducible refine fX3_end (LW.ms hL) (fun hXqc0 hXqw hXqh => ?_) (fun hWqc0 hWqc1 hWqw hWqh => ?_) (fun hSqc0 hSqc1 hSqc2 hSqw hSqh => ?_) (fun hQqc0 hQqc1 hQqr hQqc2 hQqw hQqh => ?_)
  with_reducible exact absurd hSpc0 hXqc0
  with_reducible exact absurd hSpc1 hWqc1
  with_reducible exact absurd (show xs (i + 3).toNatClampNeg = 0 by assumption) (by assumption)
  with_reducible exact (nsC hSpc2 hQqc2).elim
  with_reducible refine And.intro ?_ ?_
  with_reducible refine LW.gz hL (fun _ => trivial)
  with_reducible refine And.intro ?_ ?_
  omega
  with_reducible refine And.intro ?_ ?_
  omega
  with_reducible refine And.intro ?_ ?_
  omega
  with_reducible refine fX3_end (LW.ms hL) (fun hXqc0 hXqw hXqh => ?_) (fun hWqc0 hWqc1 hWqw hWqh => ?_) (fun hSqc0 hSqc1 hSqc2 hSqw hSqh => ?_) (fun hQqc0 hQqc1 hQqr hQqc2 hQqw hQqh => ?_)
  with_reducible exact absurd hSpc0 hXqc0
  with_reducible exact absurd hSpc1 hWqc1
  simp only [eL_law_1403, kx_l, nl_int, tl_s]
  with_reducible exact next _ _ _ _ _ _ _ _ (LW.ofM hL hSqh) (by omega) (by omega)
  with_reducible exact (nsC hSpc2 hQqc2).elim
  simp only [eL_law_1371, eL_law_1375, eL_law_1380, eL_law_1386, eL_law_1392, eL_law_1395, eL_law_1399, eL_law_1400, kx_l, wt_nil, nl_int, tl_s, Nat.add_zero]
  with_reducible refine gi_W hQph hb ?_
  with_reducible refine And.intro ?_ ?_
  with_reducible assumption
  with_reducible refine gi_W hQph hb ?_
  with_reducible refine And.intro ?_ ?_
  with_reducible assumption
  with_reducible refine gi_W hQph hb ?_
  with_reducible refine And.intro ?_ ?_
  with_reducible assumption
  split
  with_reducible refine And.intro ?_ ?_
  with_reducible refine LW.gz hQph (fun _ => trivial)
  with_reducible refine And.intro ?_ ?_
  with_reducible exact absurd (show xs (i + 3).toNatClampNeg = 0 by assumption) (by assumption)
  with_reducible refine And.intro ?_ ?_
  with_reducible exact absurd (show xs (i + 3).toNatClampNeg = 0 by assumption) (by assumption)
  with_reducible refine And.intro ?_ ?_
  with_reducible exact absurd (show xs (i + 3).toNatClampNeg = 0 by assumption) (by assumption)
  with_reducible refine fX3_end (LW.ms hQph) (fun hXqc0 hXqw hXqh => ?_) (fun hWqc0 hWqc1 hWqw hWqh => ?_) (fun hSqc0 hSqc1 hSqc2 hSqw hSqh => ?_) (fun hQqc0 hQqc1 hQqr hQqc2 hQqw hQqh => ?_)
  with_reducible exact absurd hQpc0 hXqc0
  with_reducible exact absurd hQpc1 hWqc1
  with_reducible exact (nsC hSqc2 hQpc2).elim
  cases Option.some.inj (hQpc2.symm.trans hQqc2); clear hQqc2
  with_reducible exact absurd (show xs (i + 3).toNatClampNeg = 0 by assumption) (by assumption)
  with_reducible refine And.intro ?_ ?_
  with_reducible refine LW.gz hQph (fun _ => trivial)
  with_reducible refine And.intro ?_ ?_
  omega
  with_reducible refine And.intro ?_ ?_
  omega
  with_reducible refine And.intro ?_ ?_
  omega
  with_reducible refine fX3_end (LW.ms hQph) (fun hXqc0 hXqw hXqh => ?_) (fun hWqc0 hWqc1 hWqw hWqh => ?_) (fun hSqc0 hSqc1 hSqc2 hSqw hSqh => ?_) (fun hQqc0 hQqc1 hQqr hQqc2 hQqw hQqh => ?_)
  with_reducible exact absurd hQpc0 hXqc0
  with_reducible exact absurd hQpc1 hWqc1
  with_reducible exact (nsC hSqc2 hQpc2).elim
  cases Option.some.inj (hQpc2.symm.trans hQqc2); clear hQqc2
  simp only [eL_law_1403, kx_l, nl_int, tl_s]
  with_reducible exact next _ _ _ _ _ _ _ _ (LW.ofM hQph hQqh) (by omega) (by omega)
set_option maxHeartbeats 4000000 in
theorem cL_25 (hR : RG g) (hb : g.2 b = some (.inl (1, L, .inl xs))) (hL : LW g w x nA cA lA y nM o kn kn th s s) (v1 : vp_in (i + 1) L) (v2 : vp_in (i + 2) L) (v3 : vp_in (i + 3) L) (v4 : vp_in (i + 4) L) (v5 : vp_in (i + 5) L) (hk : k + 114 ≤ 58408) (hn : n + 2834 ≤ 1451408) (next : (∀ (l5' l6' : Option Value) (w' : Hw) (k' n' : Nat) (kn' th' : Int32) (s' : AS), LW g w' x nA cA lA y nM o kn' kn' th' s' s' → k' ≤ k + 114 → n' ≤ n + 2834 → WP (ML_law g) QLaw (2246, [some (.ref b), some (.ref x), some (.ref y), some (.ref o), some (.int i), l5', l6'], [], w', k', n'))) : WP (ML_law g) QLaw (1408, [some (.ref b), some (.ref x), some (.ref y), some (.ref o), some (.int i), l5, l6], [], w, k, n) := by
  simp only [eL_law_1408, eL_law_1415, eL_law_1421, eL_law_1427, wt_nil]
  with_reducible refine gi_W hL hb ?_
  with_reducible refine And.intro ?_ ?_
  with_reducible assumption
  with_reducible refine gi_W hL hb ?_
  with_reducible refine And.intro ?_ ?_
  with_reducible assumption
  with_reducible refine gi_W hL hb ?_
  with_reducible refine And.intro ?_ ?_
  with_reducible assumption
  with_reducible refine And.intro ?_ ?_
  omega
  with_reducible refine And.intro ?_ ?_
  omega
  with_reducible refine And.intro ?_ ?_
  omega
  with_reducible refine fL_take hL (fun hXpc0 => ?_) (fun hWpc0 hWpc1 hWpc2 => ?_) (fun hSpc0 hSpc1 hSpc2 hSpc3 => ?_) (fun hQpc0 hQpc1 hQpc2 hQpr hQpc3 hQpw hQph hQpo => ?_)
  simp only [eL_law_1431, eL_law_1435, eL_law_1440, eL_law_1446, eL_law_1452, kx_l, wt_nil, nl_int, tl_s, Nat.add_zero]
  with_reducible refine gi_W hL hb ?_
  with_reducible refine And.intro ?_ ?_
  with_reducible assumption
  with_reducible refine gi_W hL hb ?_
  with_reducible refine And.intro ?_ ?_
  with_reducible assumption
  with_reducible refine gi_W hL hb ?_
  with_reducible refine And.intro ?_ ?_
  with_reducible assumption
  with_reducible refine And.intro ?_ ?_
  with_reducible refine LW.gz hL (fun _ => trivial)
  with_reducible refine And.intro ?_ ?_
  omega
  with_reducible refine And.intro ?_ ?_
  omega
  with_reducible refine And.intro ?_ ?_
  omega
  with_reducible refine fX3_take (LW.ms hL) (fun hXqc0 hXqw hXqh => ?_) (fun hWqc0 hWqc1 hWqc2 hWqw hWqh => ?_) (fun hSqc0 hSqc1 hSqc2 hSqc3 hSqw hSqh => ?_) (fun hQqc0 hQqc1 hQqc2 hQqr hQqc3 hQqw hQqh => ?_)
  simp only [eL_law_1455, kx_l, nl_int, tl_s]
  with_reducible exact next _ _ _ _ _ _ _ _ (LW.ofM hL hXqh) (by omega) (by omega)
  with_reducible exact absurd (And.intro hWqc0 hWqc1) hXpc0
  with_reducible exact absurd (And.intro hSqc0 hSqc1) hXpc0
  with_reducible exact absurd (And.intro hQqc0 hQqc1) hXpc0
  simp only [eL_law_1431, eL_law_1435, eL_law_1440, eL_law_1446, eL_law_1452, kx_l, wt_nil, nl_int, tl_s, Nat.add_zero]
  with_reducible refine gi_W hL hb ?_
  with_reducible refine And.intro ?_ ?_
  with_reducible assumption
  with_reducible refine gi_W hL hb ?_
  with_reducible refine And.intro ?_ ?_
  with_reducible assumption
  with_reducible refine gi_W hL hb ?_
  with_reducible refine And.intro ?_ ?_
  with_reducible assumption
  with_reducible refine And.intro ?_ ?_
  with_reducible refine LW.gz hL (fun _ => trivial)
  with_reducible refine And.intro ?_ ?_
  omega
  with_reducible refine And.intro ?_ ?_
  omega
  with_reducible refine And.intro ?_ ?_
  omega
  with_reducible refine fX3_take (LW.ms hL) (fun hXqc0 hXqw hXqh => ?_) (fun hWqc0 hWqc1 hWqc2 hWqw hWqh => ?_) (fun hSqc0 hSqc1 hSqc2 hSqc3 hSqw hSqh => ?_) (fun hQqc0 hQqc1 hQqc2 hQqr hQqc3 hQqw hQqh => ?_)
  with_reducible exact absurd (And.intro hWpc0 hWpc1) hXqc0
  simp only [eL_law_1455, kx_l, nl_int, tl_s]
  with_reducible exact next _ _ _ _ _ _ _ _ (LW.ofM hL hWqh) (by omega) (by omega)
  with_reducible exact absurd hSqc2 hWpc2
  with_reducible exact absurd hQqc2 hWpc2
  simp only [eL_law_1431, eL_law_1435, eL_law_1440, eL_law_1446, eL_law_1452, kx_l, wt_nil, nl_int, tl_s, Nat.add_zero]
  with_reducible refine gi_W hL hb ?_
  with_reducible refine And.intro ?_ ?_
  with_reducible assumption
  with_reducible refine gi_W hL hb ?_
  with_reducible refine And.intro ?_ ?_
  with_reducible assumption
  with_reducible refine gi_W hL hb ?_
  with_reducible refine And.intro ?_ ?_
  with_reducible assumption
  with_reducible refine And.intro ?_ ?_
  with_reducible refine LW.gz hL (fun _ => trivial)
  with_reducible refine And.intro ?_ ?_
  omega
  with_reducible refine And.intro ?_ ?_
  omega
  with_reducible refine And.intro ?_ ?_
  omega
  with_reducible refine fX3_take (LW.ms hL) (fun hXqc0 hXqw hXqh => ?_) (fun hWqc0 hWqc1 hWqc2 hWqw hWqh => ?_) (fun hSqc0 hSqc1 hSqc2 hSqc3 hSqw hSqh => ?_) (fun hQqc0 hQqc1 hQqc2 hQqr hQqc3 hQqw hQqh => ?_)
  with_reducible exact absurd (And.intro hSpc0 hSpc1) hXqc0
  with_reducible exact absurd hSpc2 hWqc2
  simp only [eL_law_1455, kx_l, nl_int, tl_s]
  with_reducible exact next _ _ _ _ _ _ _ _ (LW.ofM hL hSqh) (by omega) (by omega)
  with_reducible exact (nsC hSpc3 hQqc3).elim
  simp only [eL_law_1431, eL_law_1435, eL_law_1440, eL_law_1446, eL_law_1452, kx_l, wt_nil, nl_int, tl_s, Nat.add_zero]
  with_reducible refine gi_W hQph hb ?_
  with_reducible refine And.intro ?_ ?_
  with_reducible assumption
  with_reducible refine gi_W hQph hb ?_
  with_reducible refine And.intro ?_ ?_
  with_reducible assumption
  with_reducible refine gi_W hQph hb ?_
  with_reducible refine And.intro ?_ ?_
  with_reducible assumption
  with_reducible refine And.intro ?_ ?_
  with_reducible refine LW.gz hQph (fun _ => trivial)
  with_reducible refine And.intro ?_ ?_
  omega
  with_reducible refine And.intro ?_ ?_
  omega
  with_reducible refine And.intro ?_ ?_
  omega
  with_reducible refine fX3_take (LW.ms hQph) (fun hXqc0 hXqw hXqh => ?_) (fun hWqc0 hWqc1 hWqc2 hWqw hWqh => ?_) (fun hSqc0 hSqc1 hSqc2 hSqc3 hSqw hSqh => ?_) (fun hQqc0 hQqc1 hQqc2 hQqr hQqc3 hQqw hQqh => ?_)
  with_reducible exact absurd (And.intro hQpc0 hQpc1) hXqc0
  with_reducible exact absurd hQpc2 hWqc2
  with_reducible exact (nsC hSqc3 hQpc3).elim
  cases Option.some.inj (hQpc3.symm.trans hQqc3); clear hQqc3
  simp only [eL_law_1455, kx_l, nl_int, tl_s]
  with_reducible exact next _ _ _ _ _ _ _ _ (LW.ofM hQph hQqh) (by omega) (by omega)
set_option maxHeartbeats 4000000 in
theorem cL_26 (hR : RG g) (hb : g.2 b = some (.inl (1, L, .inl xs))) (hL : LW g w x nA cA lA y nM o kn kn th s s) (v1 : vp_in (i + 1) L) (v2 : vp_in (i + 2) L) (v3 : vp_in (i + 3) L) (v4 : vp_in (i + 4) L) (v5 : vp_in (i + 5) L) (hk : k + 114 ≤ 58408) (hn : n + 2834 ≤ 1451408) (next : (∀ (l5' l6' : Option Value) (w' : Hw) (k' n' : Nat) (kn' th' : Int32) (s' : AS), LW g w' x nA cA lA y nM o kn' kn' th' s' s' → k' ≤ k + 114 → n' ≤ n + 2834 → WP (ML_law g) QLaw (2246, [some (.ref b), some (.ref x), some (.ref y), some (.ref o), some (.int i), l5', l6'], [], w', k', n'))) : WP (ML_law g) QLaw (1460, [some (.ref b), some (.ref x), some (.ref y), some (.ref o), some (.int i), l5, l6], [], w, k, n) := by
  simp only [eL_law_1460, eL_law_1467, wt_nil]
  with_reducible refine gi_W hL hb ?_
  with_reducible refine And.intro ?_ ?_
  with_reducible assumption
  with_reducible refine And.intro ?_ ?_
  omega
  with_reducible refine And.intro ?_ ?_
  omega
  with_reducible refine And.intro ?_ ?_
  omega
  with_reducible refine gL_cardText hR hL (fun v1 w1 h1 => ?_)
  simp only [eL_law_1471, eL_law_1475, eL_law_1480, kx_l, wt_nil, nl_int, tl_s]
  with_reducible refine gi_W h1 hb ?_
  with_reducible refine And.intro ?_ ?_
  with_reducible assumption
  with_reducible refine And.intro ?_ ?_
  with_reducible refine LW.gz h1 (fun _ => trivial)
  with_reducible refine And.intro ?_ ?_
  omega
  with_reducible refine And.intro ?_ ?_
  omega
  with_reducible refine And.intro ?_ ?_
  with_reducible assumption
  with_reducible refine gX3_cardText (LW.ms h1) hR.sg (hR.dg (LW.ro h1)) (hR.tx (LW.ro h1)) (fun v2 t2 w2 m2 => ?_)
  simp only [eL_law_1483, kx_l, nl_int, tl_s]
  with_reducible exact next _ _ _ _ _ _ _ _ (LW.ofM h1 m2) (by omega) (by omega)
set_option maxHeartbeats 4000000 in
theorem cL_27 (hR : RG g) (hb : g.2 b = some (.inl (1, L, .inl xs))) (hL : LW g w x nA cA lA y nM o kn kn th s s) (v1 : vp_in (i + 1) L) (v2 : vp_in (i + 2) L) (v3 : vp_in (i + 3) L) (v4 : vp_in (i + 4) L) (v5 : vp_in (i + 5) L) (hk : k + 114 ≤ 58408) (hn : n + 2834 ≤ 1451408) (next : (∀ (l5' l6' : Option Value) (w' : Hw) (k' n' : Nat) (kn' th' : Int32) (s' : AS), LW g w' x nA cA lA y nM o kn' kn' th' s' s' → k' ≤ k + 114 → n' ≤ n + 2834 → WP (ML_law g) QLaw (2246, [some (.ref b), some (.ref x), some (.ref y), some (.ref o), some (.int i), l5', l6'], [], w', k', n'))) : WP (ML_law g) QLaw (1488, [some (.ref b), some (.ref x), some (.ref y), some (.ref o), some (.int i), l5, l6], [], w, k, n) := by
  simp only [eL_law_1488, eL_law_1495, eL_law_1501, wt_nil]
  with_reducible refine gi_W hL hb ?_
  with_reducible refine And.intro ?_ ?_
  with_reducible assumption
  with_reducible refine gi_W hL hb ?_
  with_reducible refine And.intro ?_ ?_
  with_reducible assumption
  with_reducible refine And.intro ?_ ?_
  omega
  with_reducible refine And.intro ?_ ?_
  omega
  with_reducible refine And.intro ?_ ?_
  omega
  with_reducible refine fL_isValid hL (fun hXpc0 => ?_) (fun hSpc0 hSpc1 hSpc2 => ?_) (fun hTpc0 hTpc1 hTpr hTpc2 hTpc3 hTpw hTph hTpo => ?_) (fun hFpc0 hFpc1 hFpr hFpc2 hFpc3 hFpw hFph hFpo => ?_)
  simp only [eL_law_1505, eL_law_1509, eL_law_1514, eL_law_1520, kx_l, wt_nil, nl_int, tl_s, Nat.add_zero]
  with_reducible refine gi_W hL hb ?_
  with_reducible refine And.intro ?_ ?_
  with_reducible assumption
  with_reducible refine gi_W hL hb ?_
  with_reducible refine And.intro ?_ ?_
  with_reducible assumption
  with_reducible refine And.intro ?_ ?_
  with_reducible refine LW.gz hL (fun _ => trivial)
  with_reducible refine And.intro ?_ ?_
  omega
  with_reducible refine And.intro ?_ ?_
  omega
  with_reducible refine And.intro ?_ ?_
  omega
  with_reducible refine fX3_isValid (LW.ms hL) (fun hXqc0 hXqw hXqh => ?_) (fun hSqc0 hSqc1 hSqc2 hSqw hSqh => ?_) (fun hTqc0 hTqc1 hTqr hTqc2 hTqc3 hTqw hTqh => ?_) (fun hFqc0 hFqc1 hFqr hFqc2 hFqc3 hFqw hFqh => ?_)
  simp only [eL_law_1523, kx_l, nl_int, tl_s]
  with_reducible exact next _ _ _ _ _ _ _ _ (LW.ofM hL hXqh) (by omega) (by omega)
  with_reducible exact absurd (And.intro hSqc0 hSqc1) hXpc0
  with_reducible exact absurd (And.intro hTqc0 hTqc1) hXpc0
  with_reducible exact absurd (And.intro hFqc0 hFqc1) hXpc0
  simp only [eL_law_1505, eL_law_1509, eL_law_1514, eL_law_1520, kx_l, wt_nil, nl_int, tl_s, Nat.add_zero]
  with_reducible refine gi_W hL hb ?_
  with_reducible refine And.intro ?_ ?_
  with_reducible assumption
  with_reducible refine gi_W hL hb ?_
  with_reducible refine And.intro ?_ ?_
  with_reducible assumption
  with_reducible refine And.intro ?_ ?_
  with_reducible refine LW.gz hL (fun _ => trivial)
  with_reducible refine And.intro ?_ ?_
  omega
  with_reducible refine And.intro ?_ ?_
  omega
  with_reducible refine And.intro ?_ ?_
  omega
  with_reducible refine fX3_isValid (LW.ms hL) (fun hXqc0 hXqw hXqh => ?_) (fun hSqc0 hSqc1 hSqc2 hSqw hSqh => ?_) (fun hTqc0 hTqc1 hTqr hTqc2 hTqc3 hTqw hTqh => ?_) (fun hFqc0 hFqc1 hFqr hFqc2 hFqc3 hFqw hFqh => ?_)
  with_reducible exact absurd (And.intro hSpc0 hSpc1) hXqc0
  simp only [eL_law_1523, kx_l, nl_int, tl_s]
  with_reducible exact next _ _ _ _ _ _ _ _ (LW.ofM hL hSqh) (by omega) (by omega)
  with_reducible exact (nsC hSpc2 hTqc2).elim
  with_reducible exact (nsC hSpc2 hFqc2).elim
  simp only [eL_law_1505, eL_law_1509, eL_law_1514, eL_law_1520, kx_l, wt_nil, nl_int, tl_s, Nat.add_zero]
  with_reducible refine gi_W hTph hb ?_
  with_reducible refine And.intro ?_ ?_
  with_reducible assumption
  with_reducible refine gi_W hTph hb ?_
  with_reducible refine And.intro ?_ ?_
  with_reducible assumption
  with_reducible refine And.intro ?_ ?_
  with_reducible refine LW.gz hTph (fun _ => trivial)
  with_reducible refine And.intro ?_ ?_
  omega
  with_reducible refine And.intro ?_ ?_
  omega
  with_reducible refine And.intro ?_ ?_
  omega
  with_reducible refine fX3_isValid (LW.ms hTph) (fun hXqc0 hXqw hXqh => ?_) (fun hSqc0 hSqc1 hSqc2 hSqw hSqh => ?_) (fun hTqc0 hTqc1 hTqr hTqc2 hTqc3 hTqw hTqh => ?_) (fun hFqc0 hFqc1 hFqr hFqc2 hFqc3 hFqw hFqh => ?_)
  with_reducible exact absurd (And.intro hTpc0 hTpc1) hXqc0
  with_reducible exact (nsC hSqc2 hTpc2).elim
  cases Option.some.inj (hTpc2.symm.trans hTqc2); clear hTqc2
  simp only [eL_law_1523, kx_l, nl_int, tl_s]
  with_reducible exact next _ _ _ _ _ _ _ _ (LW.ofM hTph hTqh) (by omega) (by omega)
  cases Option.some.inj (hTpc2.symm.trans hFqc2); clear hFqc2
  with_reducible exact absurd hTpc3 hFqc3
  simp only [eL_law_1505, eL_law_1509, eL_law_1514, eL_law_1520, kx_l, wt_nil, nl_int, tl_s, Nat.add_zero]
  with_reducible refine gi_W hFph hb ?_
  with_reducible refine And.intro ?_ ?_
  with_reducible assumption
  with_reducible refine gi_W hFph hb ?_
  with_reducible refine And.intro ?_ ?_
  with_reducible assumption
  with_reducible refine And.intro ?_ ?_
  with_reducible refine LW.gz hFph (fun _ => trivial)
  with_reducible refine And.intro ?_ ?_
  omega
  with_reducible refine And.intro ?_ ?_
  omega
  with_reducible refine And.intro ?_ ?_
  omega
  with_reducible refine fX3_isValid (LW.ms hFph) (fun hXqc0 hXqw hXqh => ?_) (fun hSqc0 hSqc1 hSqc2 hSqw hSqh => ?_) (fun hTqc0 hTqc1 hTqr hTqc2 hTqc3 hTqw hTqh => ?_) (fun hFqc0 hFqc1 hFqr hFqc2 hFqc3 hFqw hFqh => ?_)
  with_reducible exact absurd (And.intro hFpc0 hFpc1) hXqc0
  with_reducible exact (nsC hSqc2 hFpc2).elim
  cases Option.some.inj (hFpc2.symm.trans hTqc2); clear hTqc2
  with_reducible exact absurd hTqc3 hFpc3
  cases Option.some.inj (hFpc2.symm.trans hFqc2); clear hFqc2
  simp only [eL_law_1523, kx_l, nl_int, tl_s]
  with_reducible exact next _ _ _ _ _ _ _ _ (LW.ofM hFph hFqh) (by omega) (by omega)
set_option maxHeartbeats 4000000 in
theorem cL_28 (hR : RG g) (hb : g.2 b = some (.inl (1, L, .inl xs))) (hL : LW g w x nA cA lA y nM o kn kn th s s) (v1 : vp_in (i + 1) L) (v2 : vp_in (i + 2) L) (v3 : vp_in (i + 3) L) (v4 : vp_in (i + 4) L) (v5 : vp_in (i + 5) L) (hk : k + 114 ≤ 58408) (hn : n + 2834 ≤ 1451408) (next : (∀ (l5' l6' : Option Value) (w' : Hw) (k' n' : Nat) (kn' th' : Int32) (s' : AS), LW g w' x nA cA lA y nM o kn' kn' th' s' s' → k' ≤ k + 114 → n' ≤ n + 2834 → WP (ML_law g) QLaw (2246, [some (.ref b), some (.ref x), some (.ref y), some (.ref o), some (.int i), l5', l6'], [], w', k', n'))) : WP (ML_law g) QLaw (1528, [some (.ref b), some (.ref x), some (.ref y), some (.ref o), some (.int i), l5, l6], [], w, k, n) := by
  simp only [eL_law_1528, eL_law_1535, eL_law_1541, wt_nil]
  with_reducible refine gi_W hL hb ?_
  with_reducible refine And.intro ?_ ?_
  with_reducible assumption
  with_reducible refine gi_W hL hb ?_
  with_reducible refine And.intro ?_ ?_
  with_reducible assumption
  with_reducible refine And.intro ?_ ?_
  omega
  with_reducible refine And.intro ?_ ?_
  omega
  with_reducible refine And.intro ?_ ?_
  omega
  with_reducible refine fL_isValidSmall hL (fun hXpc0 => ?_) (fun hSpc0 hSpc1 hSpc2 => ?_) (fun hTpc0 hTpc1 hTpr hTpc2 hTpc3 hTpw hTph hTpo => ?_) (fun hFpc0 hFpc1 hFpr hFpc2 hFpc3 hFpw hFph hFpo => ?_)
  simp only [eL_law_1545, eL_law_1549, eL_law_1554, eL_law_1558, eL_law_1560, kx_l, wt_nil, nl_int, tl_s, Nat.add_zero]
  with_reducible refine gi_W hL hb ?_
  with_reducible refine And.intro ?_ ?_
  with_reducible assumption
  with_reducible refine gi_W hL hb ?_
  with_reducible refine And.intro ?_ ?_
  with_reducible assumption
  with_reducible refine And.intro ?_ ?_
  with_reducible refine LW.gz hL (fun _ => trivial)
  with_reducible refine And.intro ?_ ?_
  omega
  with_reducible refine And.intro ?_ ?_
  omega
  with_reducible refine And.intro ?_ ?_
  omega
  with_reducible refine fX3_isValidSmall (LW.ms hL) (fun hXqc0 hXqw hXqh => ?_) (fun hSqc0 hSqc1 hSqc2 hSqw hSqh => ?_) (fun hTqc0 hTqc1 hTqr hTqc2 hTqc3 hTqw hTqh => ?_) (fun hFqc0 hFqc1 hFqr hFqc2 hFqc3 hFqw hFqh => ?_)
  simp only [eL_law_1563, kx_l, nl_int, tl_s]
  with_reducible exact next _ _ _ _ _ _ _ _ (LW.ofM hL hXqh) (by omega) (by omega)
  with_reducible exact absurd (And.intro hSqc0 hSqc1) hXpc0
  with_reducible exact absurd (And.intro hTqc0 hTqc1) hXpc0
  with_reducible exact absurd (And.intro hFqc0 hFqc1) hXpc0
  simp only [eL_law_1545, eL_law_1549, eL_law_1554, eL_law_1558, eL_law_1560, kx_l, wt_nil, nl_int, tl_s, Nat.add_zero]
  with_reducible refine gi_W hL hb ?_
  with_reducible refine And.intro ?_ ?_
  with_reducible assumption
  with_reducible refine gi_W hL hb ?_
  with_reducible refine And.intro ?_ ?_
  with_reducible assumption
  with_reducible refine And.intro ?_ ?_
  with_reducible refine LW.gz hL (fun _ => trivial)
  with_reducible refine And.intro ?_ ?_
  omega
  with_reducible refine And.intro ?_ ?_
  omega
  with_reducible refine And.intro ?_ ?_
  omega
  with_reducible refine fX3_isValidSmall (LW.ms hL) (fun hXqc0 hXqw hXqh => ?_) (fun hSqc0 hSqc1 hSqc2 hSqw hSqh => ?_) (fun hTqc0 hTqc1 hTqr hTqc2 hTqc3 hTqw hTqh => ?_) (fun hFqc0 hFqc1 hFqr hFqc2 hFqc3 hFqw hFqh => ?_)
  with_reducible exact absurd (And.intro hSpc0 hSpc1) hXqc0
  simp only [eL_law_1563, kx_l, nl_int, tl_s]
  with_reducible exact next _ _ _ _ _ _ _ _ (LW.ofM hL hSqh) (by omega) (by omega)
  with_reducible exact (nsC hSpc2 hTqc2).elim
  with_reducible exact (nsC hSpc2 hFqc2).elim
  simp only [eL_law_1545, eL_law_1549, eL_law_1554, eL_law_1558, eL_law_1560, kx_l, wt_nil, nl_int, tl_s, Nat.add_zero]
  with_reducible refine gi_W hTph hb ?_
  with_reducible refine And.intro ?_ ?_
  with_reducible assumption
  with_reducible refine gi_W hTph hb ?_
  with_reducible refine And.intro ?_ ?_
  with_reducible assumption
  with_reducible refine And.intro ?_ ?_
  with_reducible refine LW.gz hTph (fun _ => trivial)
  with_reducible refine And.intro ?_ ?_
  omega
  with_reducible refine And.intro ?_ ?_
  omega
  with_reducible refine And.intro ?_ ?_
  omega
  with_reducible refine fX3_isValidSmall (LW.ms hTph) (fun hXqc0 hXqw hXqh => ?_) (fun hSqc0 hSqc1 hSqc2 hSqw hSqh => ?_) (fun hTqc0 hTqc1 hTqr hTqc2 hTqc3 hTqw hTqh => ?_) (fun hFqc0 hFqc1 hFqr hFqc2 hFqc3 hFqw hFqh => ?_)
  with_reducible exact absurd (And.intro hTpc0 hTpc1) hXqc0
  with_reducible exact (nsC hSqc2 hTpc2).elim
  cases Option.some.inj (hTpc2.symm.trans hTqc2); clear hTqc2
  simp only [eL_law_1563, kx_l, nl_int, tl_s]
  with_reducible exact next _ _ _ _ _ _ _ _ (LW.ofM hTph hTqh) (by omega) (by omega)
  cases Option.some.inj (hTpc2.symm.trans hFqc2); clear hFqc2
  with_reducible exact absurd hTpc3 hFqc3
  simp only [eL_law_1545, eL_law_1549, eL_law_1554, eL_law_1558, eL_law_1560, kx_l, wt_nil, nl_int, tl_s, Nat.add_zero]
  with_reducible refine gi_W hFph hb ?_
  with_reducible refine And.intro ?_ ?_
  with_reducible assumption
  with_reducible refine gi_W hFph hb ?_
  with_reducible refine And.intro ?_ ?_
  with_reducible assumption
  with_reducible refine And.intro ?_ ?_
  with_reducible refine LW.gz hFph (fun _ => trivial)
  with_reducible refine And.intro ?_ ?_
  omega
  with_reducible refine And.intro ?_ ?_
  omega
  with_reducible refine And.intro ?_ ?_
  omega
  with_reducible refine fX3_isValidSmall (LW.ms hFph) (fun hXqc0 hXqw hXqh => ?_) (fun hSqc0 hSqc1 hSqc2 hSqw hSqh => ?_) (fun hTqc0 hTqc1 hTqr hTqc2 hTqc3 hTqw hTqh => ?_) (fun hFqc0 hFqc1 hFqr hFqc2 hFqc3 hFqw hFqh => ?_)
  with_reducible exact absurd (And.intro hFpc0 hFpc1) hXqc0
  with_reducible exact (nsC hSqc2 hFpc2).elim
  cases Option.some.inj (hFpc2.symm.trans hTqc2); clear hTqc2
  with_reducible exact absurd hTqc3 hFpc3
  cases Option.some.inj (hFpc2.symm.trans hFqc2); clear hFqc2
  simp only [eL_law_1563, kx_l, nl_int, tl_s]
  with_reducible exact next _ _ _ _ _ _ _ _ (LW.ofM hFph hFqh) (by omega) (by omega)
set_option maxHeartbeats 4000000 in
theorem cL_29 (hR : RG g) (hb : g.2 b = some (.inl (1, L, .inl xs))) (hL : LW g w x nA cA lA y nM o kn kn th s s) (v1 : vp_in (i + 1) L) (v2 : vp_in (i + 2) L) (v3 : vp_in (i + 3) L) (v4 : vp_in (i + 4) L) (v5 : vp_in (i + 5) L) (hk : k + 114 ≤ 58408) (hn : n + 2834 ≤ 1451408) (next : (∀ (l5' l6' : Option Value) (w' : Hw) (k' n' : Nat) (kn' th' : Int32) (s' : AS), LW g w' x nA cA lA y nM o kn' kn' th' s' s' → k' ≤ k + 114 → n' ≤ n + 2834 → WP (ML_law g) QLaw (2246, [some (.ref b), some (.ref x), some (.ref y), some (.ref o), some (.int i), l5', l6'], [], w', k', n'))) : WP (ML_law g) QLaw (1568, [some (.ref b), some (.ref x), some (.ref y), some (.ref o), some (.int i), l5, l6], [], w, k, n) := by
  simp only [eL_law_1568, eL_law_1575, eL_law_1581, wt_nil]
  with_reducible refine gi_W hL hb ?_
  with_reducible refine And.intro ?_ ?_
  with_reducible assumption
  with_reducible refine gi_W hL hb ?_
  with_reducible refine And.intro ?_ ?_
  with_reducible assumption
  with_reducible refine And.intro ?_ ?_
  omega
  with_reducible refine And.intro ?_ ?_
  omega
  with_reducible refine And.intro ?_ ?_
  omega
  with_reducible refine fL_whichValid hL (fun hXpc0 => ?_) (fun hSpc0 hSpc1 => ?_) (fun hQpc0 hQpr hQpc1 hQpw hQph hQpo => ?_)
  simp only [eL_law_1585, eL_law_1589, eL_law_1594, eL_law_1600, kx_l, wt_nil, nl_int, tl_s, Nat.add_zero]
  with_reducible refine gi_W hL hb ?_
  with_reducible refine And.intro ?_ ?_
  with_reducible assumption
  with_reducible refine gi_W hL hb ?_
  with_reducible refine And.intro ?_ ?_
  with_reducible assumption
  with_reducible refine And.intro ?_ ?_
  with_reducible refine LW.gz hL (fun _ => trivial)
  with_reducible refine And.intro ?_ ?_
  omega
  with_reducible refine And.intro ?_ ?_
  omega
  with_reducible refine And.intro ?_ ?_
  omega
  with_reducible refine gX3_whichValid (LW.ms hL) (fun v2 t2 w2 m2 => ?_)
  simp only [eL_law_1603, kx_l, nl_int, tl_s]
  with_reducible exact next _ _ _ _ _ _ _ _ (LW.ofM hL m2) (by omega) (by omega)
  simp only [eL_law_1585, eL_law_1589, eL_law_1594, eL_law_1600, kx_l, wt_nil, nl_int, tl_s, Nat.add_zero]
  with_reducible refine gi_W hL hb ?_
  with_reducible refine And.intro ?_ ?_
  with_reducible assumption
  with_reducible refine gi_W hL hb ?_
  with_reducible refine And.intro ?_ ?_
  with_reducible assumption
  with_reducible refine And.intro ?_ ?_
  with_reducible refine LW.gz hL (fun _ => trivial)
  with_reducible refine And.intro ?_ ?_
  omega
  with_reducible refine And.intro ?_ ?_
  omega
  with_reducible refine And.intro ?_ ?_
  omega
  with_reducible refine gX3_whichValid (LW.ms hL) (fun v2 t2 w2 m2 => ?_)
  simp only [eL_law_1603, kx_l, nl_int, tl_s]
  with_reducible exact next _ _ _ _ _ _ _ _ (LW.ofM hL m2) (by omega) (by omega)
  simp only [eL_law_1585, eL_law_1589, eL_law_1594, eL_law_1600, kx_l, wt_nil, nl_int, tl_s, Nat.add_zero]
  with_reducible refine gi_W hQph hb ?_
  with_reducible refine And.intro ?_ ?_
  with_reducible assumption
  with_reducible refine gi_W hQph hb ?_
  with_reducible refine And.intro ?_ ?_
  with_reducible assumption
  with_reducible refine And.intro ?_ ?_
  with_reducible refine LW.gz hQph (fun _ => trivial)
  with_reducible refine And.intro ?_ ?_
  omega
  with_reducible refine And.intro ?_ ?_
  omega
  with_reducible refine And.intro ?_ ?_
  omega
  with_reducible refine gX3_whichValid (LW.ms hQph) (fun v2 t2 w2 m2 => ?_)
  simp only [eL_law_1603, kx_l, nl_int, tl_s]
  with_reducible exact next _ _ _ _ _ _ _ _ (LW.ofM hQph m2) (by omega) (by omega)
set_option maxHeartbeats 4000000 in
theorem cL_30 (hR : RG g) (hb : g.2 b = some (.inl (1, L, .inl xs))) (hL : LW g w x nA cA lA y nM o kn kn th s s) (v1 : vp_in (i + 1) L) (v2 : vp_in (i + 2) L) (v3 : vp_in (i + 3) L) (v4 : vp_in (i + 4) L) (v5 : vp_in (i + 5) L) (hk : k + 114 ≤ 58408) (hn : n + 2834 ≤ 1451408) (next : (∀ (l5' l6' : Option Value) (w' : Hw) (k' n' : Nat) (kn' th' : Int32) (s' : AS), LW g w' x nA cA lA y nM o kn' kn' th' s' s' → k' ≤ k + 114 → n' ≤ n + 2834 → WP (ML_law g) QLaw (2246, [some (.ref b), some (.ref x), some (.ref y), some (.ref o), some (.int i), l5', l6'], [], w', k', n'))) : WP (ML_law g) QLaw (1608, [some (.ref b), some (.ref x), some (.ref y), some (.ref o), some (.int i), l5, l6], [], w, k, n) := by
  simp only [eL_law_1608, eL_law_1615, eL_law_1621, eL_law_1627, eL_law_1630, eL_law_1634, eL_law_1635, wt_nil]
  with_reducible refine gi_W hL hb ?_
  with_reducible refine And.intro ?_ ?_
  with_reducible assumption
  with_reducible refine gi_W hL hb ?_
  with_reducible refine And.intro ?_ ?_
  with_reducible assumption
  with_reducible refine gi_W hL hb ?_
  with_reducible refine And.intro ?_ ?_
  with_reducible assumption
  split
  with_reducible refine And.intro ?_ ?_
  omega
  with_reducible refine And.intro ?_ ?_
  omega
  with_reducible refine And.intro ?_ ?_
  omega
  with_reducible refine fL_around hL (fun hXpc0 => ?_) (fun hWpc0 hWpc1 => ?_) (fun hSpc0 hSpc1 hSpc2 => ?_) (fun hQpc0 hQpc1 hQpr hQpc2 hQpw hQph hQpo => ?_)
  simp only [eL_law_1639, eL_law_1643, eL_law_1648, eL_law_1654, eL_law_1660, eL_law_1663, eL_law_1667, eL_law_1668, kx_l, wt_nil, nl_int, tl_s, Nat.add_zero]
  with_reducible refine gi_W hL hb ?_
  with_reducible refine And.intro ?_ ?_
  with_reducible assumption
  with_reducible refine gi_W hL hb ?_
  with_reducible refine And.intro ?_ ?_
  with_reducible assumption
  with_reducible refine gi_W hL hb ?_
  with_reducible refine And.intro ?_ ?_
  with_reducible assumption
  split
  with_reducible refine And.intro ?_ ?_
  with_reducible refine LW.gz hL (fun _ => trivial)
  with_reducible refine And.intro ?_ ?_
  omega
  with_reducible refine And.intro ?_ ?_
  omega
  with_reducible refine And.intro ?_ ?_
  omega
  with_reducible refine gX3_around (LW.ms hL) (fun v2 t2 w2 m2 => ?_)
  simp only [eL_law_1671, kx_l, nl_int, tl_s]
  with_reducible exact next _ _ _ _ _ _ _ _ (LW.ofM hL m2) (by omega) (by omega)
  with_reducible refine And.intro ?_ ?_
  with_reducible refine LW.gz hL (fun _ => trivial)
  with_reducible refine And.intro ?_ ?_
  with_reducible exact absurd (show xs (i + 3).toNatClampNeg = 0 by assumption) (by assumption)
  with_reducible refine And.intro ?_ ?_
  with_reducible exact absurd (show xs (i + 3).toNatClampNeg = 0 by assumption) (by assumption)
  with_reducible refine And.intro ?_ ?_
  with_reducible exact absurd (show xs (i + 3).toNatClampNeg = 0 by assumption) (by assumption)
  with_reducible refine gX3_around (LW.ms hL) (fun v2 t2 w2 m2 => ?_)
  with_reducible exact absurd (show xs (i + 3).toNatClampNeg = 0 by assumption) (by assumption)
  simp only [eL_law_1639, eL_law_1643, eL_law_1648, eL_law_1654, eL_law_1660, eL_law_1663, eL_law_1667, eL_law_1668, kx_l, wt_nil, nl_int, tl_s, Nat.add_zero]
  with_reducible refine gi_W hL hb ?_
  with_reducible refine And.intro ?_ ?_
  with_reducible assumption
  with_reducible refine gi_W hL hb ?_
  with_reducible refine And.intro ?_ ?_
  with_reducible assumption
  with_reducible refine gi_W hL hb ?_
  with_reducible refine And.intro ?_ ?_
  with_reducible assumption
  split
  with_reducible refine And.intro ?_ ?_
  with_reducible refine LW.gz hL (fun _ => trivial)
  with_reducible refine And.intro ?_ ?_
  omega
  with_reducible refine And.intro ?_ ?_
  omega
  with_reducible refine And.intro ?_ ?_
  omega
  with_reducible refine gX3_around (LW.ms hL) (fun v2 t2 w2 m2 => ?_)
  simp only [eL_law_1671, kx_l, nl_int, tl_s]
  with_reducible exact next _ _ _ _ _ _ _ _ (LW.ofM hL m2) (by omega) (by omega)
  with_reducible refine And.intro ?_ ?_
  with_reducible refine LW.gz hL (fun _ => trivial)
  with_reducible refine And.intro ?_ ?_
  with_reducible exact absurd (show xs (i + 3).toNatClampNeg = 0 by assumption) (by assumption)
  with_reducible refine And.intro ?_ ?_
  with_reducible exact absurd (show xs (i + 3).toNatClampNeg = 0 by assumption) (by assumption)
  with_reducible refine And.intro ?_ ?_
  with_reducible exact absurd (show xs (i + 3).toNatClampNeg = 0 by assumption) (by assumption)
  with_reducible refine gX3_around (LW.ms hL) (fun v2 t2 w2 m2 => ?_)
  with_reducible exact absurd (show xs (i + 3).toNatClampNeg = 0 by assumption) (by assumption)
  simp only [eL_law_1639, eL_law_1643, eL_law_1648, eL_law_1654, eL_law_1660, eL_law_1663, eL_law_1667, eL_law_1668, kx_l, wt_nil, nl_int, tl_s, Nat.add_zero]
  with_reducible refine gi_W hL hb ?_
  with_reducible refine And.intro ?_ ?_
  with_reducible assumption
  with_reducible refine gi_W hL hb ?_
  with_reducible refine And.intro ?_ ?_
  with_reducible assumption
  with_reducible refine gi_W hL hb ?_
  with_reducible refine And.intro ?_ ?_
  with_reducible assumption
  split
  with_reducible refine And.intro ?_ ?_
  with_reducible refine LW.gz hL (fun _ => trivial)
  with_reducible refine And.intro ?_ ?_
  omega
  with_reducible refine And.intro ?_ ?_
  omega
  with_reducible refine And.intro ?_ ?_
  omega
  with_reducible refine gX3_around (LW.ms hL) (fun v2 t2 w2 m2 => ?_)
  simp only [eL_law_1671, kx_l, nl_int, tl_s]
  with_reducible exact next _ _ _ _ _ _ _ _ (LW.ofM hL m2) (by omega) (by omega)
  with_reducible refine And.intro ?_ ?_
  with_reducible refine LW.gz hL (fun _ => trivial)
  with_reducible refine And.intro ?_ ?_
  with_reducible exact absurd (show xs (i + 3).toNatClampNeg = 0 by assumption) (by assumption)
  with_reducible refine And.intro ?_ ?_
  with_reducible exact absurd (show xs (i + 3).toNatClampNeg = 0 by assumption) (by assumption)
  with_reducible refine And.intro ?_ ?_
  with_reducible exact absurd (show xs (i + 3).toNatClampNeg = 0 by assumption) (by assumption)
  with_reducible refine gX3_around (LW.ms hL) (fun v2 t2 w2 m2 => ?_)
  with_reducible exact absurd (show xs (i + 3).toNatClampNeg = 0 by assumption) (by assumption)
  simp only [eL_law_1639, eL_law_1643, eL_law_1648, eL_law_1654, eL_law_1660, eL_law_1663, eL_law_1667, eL_law_1668, kx_l, wt_nil, nl_int, tl_s, Nat.add_zero]
  with_reducible refine gi_W hQph hb ?_
  with_reducible refine And.intro ?_ ?_
  with_reducible assumption
  with_reducible refine gi_W hQph hb ?_
  with_reducible refine And.intro ?_ ?_
  with_reducible assumption
  with_reducible refine gi_W hQph hb ?_
  with_reducible refine And.intro ?_ ?_
  with_reducible assumption
  split
  with_reducible refine And.intro ?_ ?_
  with_reducible refine LW.gz hQph (fun _ => trivial)
  with_reducible refine And.intro ?_ ?_
  omega
  with_reducible refine And.intro ?_ ?_
  omega
  with_reducible refine And.intro ?_ ?_
  omega
  with_reducible refine gX3_around (LW.ms hQph) (fun v2 t2 w2 m2 => ?_)
  simp only [eL_law_1671, kx_l, nl_int, tl_s]
  with_reducible exact next _ _ _ _ _ _ _ _ (LW.ofM hQph m2) (by omega) (by omega)
  with_reducible refine And.intro ?_ ?_
  with_reducible refine LW.gz hQph (fun _ => trivial)
  with_reducible refine And.intro ?_ ?_
  with_reducible exact absurd (show xs (i + 3).toNatClampNeg = 0 by assumption) (by assumption)
  with_reducible refine And.intro ?_ ?_
  with_reducible exact absurd (show xs (i + 3).toNatClampNeg = 0 by assumption) (by assumption)
  with_reducible refine And.intro ?_ ?_
  with_reducible exact absurd (show xs (i + 3).toNatClampNeg = 0 by assumption) (by assumption)
  with_reducible refine gX3_around (LW.ms hQph) (fun v2 t2 w2 m2 => ?_)
  with_reducible exact absurd (show xs (i + 3).toNatClampNeg = 0 by assumption) (by assumption)
  with_reducible refine And.intro ?_ ?_
  omega
  with_reducible refine And.intro ?_ ?_
  omega
  with_reducible refine And.intro ?_ ?_
  omega
  with_reducible refine fL_around hL (fun hXpc0 => ?_) (fun hWpc0 hWpc1 => ?_) (fun hSpc0 hSpc1 hSpc2 => ?_) (fun hQpc0 hQpc1 hQpr hQpc2 hQpw hQph hQpo => ?_)
  simp only [eL_law_1639, eL_law_1643, eL_law_1648, eL_law_1654, eL_law_1660, eL_law_1663, eL_law_1667, eL_law_1668, kx_l, wt_nil, nl_int, tl_s, Nat.add_zero]
  with_reducible refine gi_W hL hb ?_
  with_reducible refine And.intro ?_ ?_
  with_reducible assumption
  with_reducible refine gi_W hL hb ?_
  with_reducible refine And.intro ?_ ?_
  with_reducible assumption
  with_reducible refine gi_W hL hb ?_
  with_reducible refine And.intro ?_ ?_
  with_reducible assumption
  split
  with_reducible refine And.intro ?_ ?_
  with_reducible refine LW.gz hL (fun _ => trivial)
  with_reducible refine And.intro ?_ ?_
  with_reducible exact absurd (show xs (i + 3).toNatClampNeg = 0 by assumption) (by assumption)
  with_reducible refine And.intro ?_ ?_
  with_reducible exact absurd (show xs (i + 3).toNatClampNeg = 0 by assumption) (by assumption)
  with_reducible refine And.intro ?_ ?_
  with_reducible exact absurd (show xs (i + 3).toNatClampNeg = 0 by assumption) (by assumption)
  with_reducible refine gX3_around (LW.ms hL) (fun v2 t2 w2 m2 => ?_)
  with_reducible exact absurd (show xs (i + 3).toNatClampNeg = 0 by assumption) (by assumption)
  with_reducible refine And.intro ?_ ?_
  with_reducible refine LW.gz hL (fun _ => trivial)
  with_reducible refine And.intro ?_ ?_
  omega
  with_reducible refine And.intro ?_ ?_
  omega
  with_reducible refine And.intro ?_ ?_
  omega
  with_reducible refine gX3_around (LW.ms hL) (fun v2 t2 w2 m2 => ?_)
  simp only [eL_law_1671, kx_l, nl_int, tl_s]
  with_reducible exact next _ _ _ _ _ _ _ _ (LW.ofM hL m2) (by omega) (by omega)
  simp only [eL_law_1639, eL_law_1643, eL_law_1648, eL_law_1654, eL_law_1660, eL_law_1663, eL_law_1667, eL_law_1668, kx_l, wt_nil, nl_int, tl_s, Nat.add_zero]
  with_reducible refine gi_W hL hb ?_
  with_reducible refine And.intro ?_ ?_
  with_reducible assumption
  with_reducible refine gi_W hL hb ?_
  with_reducible refine And.intro ?_ ?_
  with_reducible assumption
  with_reducible refine gi_W hL hb ?_
  with_reducible refine And.intro ?_ ?_
  with_reducible assumption
  split
  with_reducible refine And.intro ?_ ?_
  with_reducible refine LW.gz hL (fun _ => trivial)
  with_reducible refine And.intro ?_ ?_
  with_reducible exact absurd (show xs (i + 3).toNatClampNeg = 0 by assumption) (by assumption)
  with_reducible refine And.intro ?_ ?_
  with_reducible exact absurd (show xs (i + 3).toNatClampNeg = 0 by assumption) (by assumption)
  with_reducible refine And.intro ?_ ?_
  with_reducible exact absurd (show xs (i + 3).toNatClampNeg = 0 by assumption) (by assumption)
  with_reducible refine gX3_around (LW.ms hL) (fun v2 t2 w2 m2 => ?_)
  with_reducible exact absurd (show xs (i + 3).toNatClampNeg = 0 by assumption) (by assumption)
  with_reducible refine And.intro ?_ ?_
  with_reducible refine LW.gz hL (fun _ => trivial)
  with_reducible refine And.intro ?_ ?_
  omega
  with_reducible refine And.intro ?_ ?_
  omega
  with_reducible refine And.intro ?_ ?_
  omega
  with_reducible refine gX3_around (LW.ms hL) (fun v2 t2 w2 m2 => ?_)
  simp only [eL_law_1671, kx_l, nl_int, tl_s]
  with_reducible exact next _ _ _ _ _ _ _ _ (LW.ofM hL m2) (by omega) (by omega)
  simp only [eL_law_1639, eL_law_1643, eL_law_1648, eL_law_1654, eL_law_1660, eL_law_1663, eL_law_1667, eL_law_1668, kx_l, wt_nil, nl_int, tl_s, Nat.add_zero]
  with_reducible refine gi_W hL hb ?_
  with_reducible refine And.intro ?_ ?_
  with_reducible assumption
  with_reducible refine gi_W hL hb ?_
  with_reducible refine And.intro ?_ ?_
  with_reducible assumption
  with_reducible refine gi_W hL hb ?_
  with_reducible refine And.intro ?_ ?_
  with_reducible assumption
  split
  with_reducible refine And.intro ?_ ?_
  with_reducible refine LW.gz hL (fun _ => trivial)
  with_reducible refine And.intro ?_ ?_
  with_reducible exact absurd (show xs (i + 3).toNatClampNeg = 0 by assumption) (by assumption)
  with_reducible refine And.intro ?_ ?_
  with_reducible exact absurd (show xs (i + 3).toNatClampNeg = 0 by assumption) (by assumption)
  with_reducible refine And.intro ?_ ?_
  with_reducible exact absurd (show xs (i + 3).toNatClampNeg = 0 by assumption) (by assumption)
  with_reducible refine gX3_around (LW.ms hL) (fun v2 t2 w2 m2 => ?_)
  with_reducible exact absurd (show xs (i + 3).toNatClampNeg = 0 by assumption) (by assumption)
  with_reducible refine And.intro ?_ ?_
  with_reducible refine LW.gz hL (fun _ => trivial)
  with_reducible refine And.intro ?_ ?_
  omega
  with_reducible refine And.intro ?_ ?_
  omega
  with_reducible refine And.intro ?_ ?_
  omega
  with_reducible refine gX3_around (LW.ms hL) (fun v2 t2 w2 m2 => ?_)
  simp only [eL_law_1671, kx_l, nl_int, tl_s]
  with_reducible exact next _ _ _ _ _ _ _ _ (LW.ofM hL m2) (by omega) (by omega)
  simp only [eL_law_1639, eL_law_1643, eL_law_1648, eL_law_1654, eL_law_1660, eL_law_1663, eL_law_1667, eL_law_1668, kx_l, wt_nil, nl_int, tl_s, Nat.add_zero]
  with_reducible refine gi_W hQph hb ?_
  with_reducible refine And.intro ?_ ?_
  with_reducible assumption
  with_reducible refine gi_W hQph hb ?_
  with_reducible refine And.intro ?_ ?_
  with_reducible assumption
  with_reducible refine gi_W hQph hb ?_
  with_reducible refine And.intro ?_ ?_
  with_reducible assumption
  split
  with_reducible refine And.intro ?_ ?_
  with_reducible refine LW.gz hQph (fun _ => trivial)
  with_reducible refine And.intro ?_ ?_
  with_reducible exact absurd (show xs (i + 3).toNatClampNeg = 0 by assumption) (by assumption)
  with_reducible refine And.intro ?_ ?_
  with_reducible exact absurd (show xs (i + 3).toNatClampNeg = 0 by assumption) (by assumption)
  with_reducible refine And.intro ?_ ?_
  with_reducible exact absurd (show xs (i + 3).toNatClampNeg = 0 by assumption) (by assumption)
  with_reducible refine gX3_around (LW.ms hQph) (fun v2 t2 w2 m2 => ?_)
  with_reducible exact absurd (show xs (i + 3).toNatClampNeg = 0 by assumption) (by assumption)
  with_reducible refine And.intro ?_ ?_
  with_reducible refine LW.gz hQph (fun _ => trivial)
  with_reducible refine And.intro ?_ ?_
  omega
  with_reducible refine And.intro ?_ ?_
  omega
  with_reducible refine And.intro ?_ ?_
  omega
  with_reducible refine gX3_around (LW.ms hQph) (fun v2 t2 w2 m2 => ?_)
  simp only [eL_law_1671, kx_l, nl_int, tl_s]
  with_reducible exact next _ _ _ _ _ _ _ _ (LW.ofM hQph m2) (by omega) (by omega)
set_option maxHeartbeats 4000000 in
theorem cL_31 (hR : RG g) (hb : g.2 b = some (.inl (1, L, .inl xs))) (hL : LW g w x nA cA lA y nM o kn kn th s s) (v1 : vp_in (i + 1) L) (v2 : vp_in (i + 2) L) (v3 : vp_in (i + 3) L) (v4 : vp_in (i + 4) L) (v5 : vp_in (i + 5) L) (hk : k + 114 ≤ 58408) (hn : n + 2834 ≤ 1451408) (next : (∀ (l5' l6' : Option Value) (w' : Hw) (k' n' : Nat) (kn' th' : Int32) (s' : AS), LW g w' x nA cA lA y nM o kn' kn' th' s' s' → k' ≤ k + 114 → n' ≤ n + 2834 → WP (ML_law g) QLaw (2246, [some (.ref b), some (.ref x), some (.ref y), some (.ref o), some (.int i), l5', l6'], [], w', k', n'))) : WP (ML_law g) QLaw (1676, [some (.ref b), some (.ref x), some (.ref y), some (.ref o), some (.int i), l5, l6], [], w, k, n) := by
  simp only [eL_law_1676, eL_law_1683, eL_law_1689, eL_law_1695, wt_nil]
  with_reducible refine gi_W hL hb ?_
  with_reducible refine And.intro ?_ ?_
  with_reducible assumption
  with_reducible refine gi_W hL hb ?_
  with_reducible refine And.intro ?_ ?_
  with_reducible assumption
  with_reducible refine gi_W hL hb ?_
  with_reducible refine And.intro ?_ ?_
  with_reducible assumption
  with_reducible refine And.intro ?_ ?_
  omega
  with_reducible refine And.intro ?_ ?_
  omega
  with_reducible refine And.intro ?_ ?_
  omega
  with_reducible refine gL_count hR hL (fun v1 w1 h1 => ?_)
  simp only [eL_law_1699, eL_law_1703, eL_law_1708, eL_law_1714, eL_law_1720, kx_l, wt_nil, nl_int, tl_s, Nat.add_zero]
  with_reducible refine gi_W h1 hb ?_
  with_reducible refine And.intro ?_ ?_
  with_reducible assumption
  with_reducible refine gi_W h1 hb ?_
  with_reducible refine And.intro ?_ ?_
  with_reducible assumption
  with_reducible refine gi_W h1 hb ?_
  with_reducible refine And.intro ?_ ?_
  with_reducible assumption
  with_reducible refine And.intro ?_ ?_
  with_reducible refine LW.gz h1 (fun _ => trivial)
  with_reducible refine And.intro ?_ ?_
  omega
  with_reducible refine And.intro ?_ ?_
  omega
  with_reducible refine And.intro ?_ ?_
  omega
  with_reducible refine gX3_count (LW.ms h1) (fun v2 t2 w2 m2 => ?_)
  simp only [eL_law_1723, kx_l, nl_int, tl_s]
  with_reducible exact next _ _ _ _ _ _ _ _ (LW.ofM h1 m2) (by omega) (by omega)
set_option maxHeartbeats 4000000 in
theorem cL_32 (hR : RG g) (hb : g.2 b = some (.inl (1, L, .inl xs))) (hL : LW g w x nA cA lA y nM o kn kn th s s) (v1 : vp_in (i + 1) L) (v2 : vp_in (i + 2) L) (v3 : vp_in (i + 3) L) (v4 : vp_in (i + 4) L) (v5 : vp_in (i + 5) L) (hk : k + 114 ≤ 58408) (hn : n + 2834 ≤ 1451408) (next : (∀ (l5' l6' : Option Value) (w' : Hw) (k' n' : Nat) (kn' th' : Int32) (s' : AS), LW g w' x nA cA lA y nM o kn' kn' th' s' s' → k' ≤ k + 114 → n' ≤ n + 2834 → WP (ML_law g) QLaw (2246, [some (.ref b), some (.ref x), some (.ref y), some (.ref o), some (.int i), l5', l6'], [], w', k', n'))) : WP (ML_law g) QLaw (1728, [some (.ref b), some (.ref x), some (.ref y), some (.ref o), some (.int i), l5, l6], [], w, k, n) := by
  simp only [eL_law_1728, eL_law_1735, eL_law_1741, wt_nil]
  with_reducible refine gi_W hL hb ?_
  with_reducible refine And.intro ?_ ?_
  with_reducible assumption
  with_reducible refine gi_W hL hb ?_
  with_reducible refine And.intro ?_ ?_
  with_reducible assumption
  with_reducible refine And.intro ?_ ?_
  omega
  with_reducible refine And.intro ?_ ?_
  omega
  with_reducible refine And.intro ?_ ?_
  omega
  with_reducible refine gL_who hR hL (fun v1 w1 h1 => ?_)
  simp only [eL_law_1745, eL_law_1749, eL_law_1754, eL_law_1760, kx_l, wt_nil, nl_int, tl_s, Nat.add_zero]
  with_reducible refine gi_W h1 hb ?_
  with_reducible refine And.intro ?_ ?_
  with_reducible assumption
  with_reducible refine gi_W h1 hb ?_
  with_reducible refine And.intro ?_ ?_
  with_reducible assumption
  with_reducible refine And.intro ?_ ?_
  with_reducible refine LW.gz h1 (fun _ => trivial)
  with_reducible refine And.intro ?_ ?_
  omega
  with_reducible refine And.intro ?_ ?_
  omega
  with_reducible refine And.intro ?_ ?_
  omega
  with_reducible refine gX3_who (LW.ms h1) (fun v2 t2 w2 m2 => ?_)
  simp only [eL_law_1763, kx_l, nl_int, tl_s]
  with_reducible exact next _ _ _ _ _ _ _ _ (LW.ofM h1 m2) (by omega) (by omega)
set_option maxHeartbeats 4000000 in
theorem cL_33 (hR : RG g) (hb : g.2 b = some (.inl (1, L, .inl xs))) (hL : LW g w x nA cA lA y nM o kn kn th s s) (v1 : vp_in (i + 1) L) (v2 : vp_in (i + 2) L) (v3 : vp_in (i + 3) L) (v4 : vp_in (i + 4) L) (v5 : vp_in (i + 5) L) (hk : k + 114 ≤ 58408) (hn : n + 2834 ≤ 1451408) (next : (∀ (l5' l6' : Option Value) (w' : Hw) (k' n' : Nat) (kn' th' : Int32) (s' : AS), LW g w' x nA cA lA y nM o kn' kn' th' s' s' → k' ≤ k + 114 → n' ≤ n + 2834 → WP (ML_law g) QLaw (2246, [some (.ref b), some (.ref x), some (.ref y), some (.ref o), some (.int i), l5', l6'], [], w', k', n'))) : WP (ML_law g) QLaw (1768, [some (.ref b), some (.ref x), some (.ref y), some (.ref o), some (.int i), l5, l6], [], w, k, n) := by
  simp only [eL_law_1768, eL_law_1775, wt_nil]
  with_reducible refine gi_W hL hb ?_
  with_reducible refine And.intro ?_ ?_
  with_reducible assumption
  with_reducible refine And.intro ?_ ?_
  omega
  with_reducible refine And.intro ?_ ?_
  omega
  with_reducible refine And.intro ?_ ?_
  omega
  with_reducible refine gL_which hR hL (fun v1 w1 h1 => ?_)
  simp only [eL_law_1779, eL_law_1783, eL_law_1788, kx_l, wt_nil, nl_int, tl_s, Nat.add_zero]
  with_reducible refine gi_W h1 hb ?_
  with_reducible refine And.intro ?_ ?_
  with_reducible assumption
  with_reducible refine And.intro ?_ ?_
  with_reducible refine LW.gz h1 (fun _ => trivial)
  with_reducible refine And.intro ?_ ?_
  omega
  with_reducible refine And.intro ?_ ?_
  omega
  with_reducible refine And.intro ?_ ?_
  omega
  with_reducible refine gX3_which (LW.ms h1) (fun v2 t2 w2 m2 => ?_)
  simp only [eL_law_1791, kx_l, nl_int, tl_s]
  with_reducible exact next _ _ _ _ _ _ _ _ (LW.ofM h1 m2) (by omega) (by omega)
set_option maxHeartbeats 4000000 in
theorem cL_34 (hR : RG g) (hb : g.2 b = some (.inl (1, L, .inl xs))) (hL : LW g w x nA cA lA y nM o kn kn th s s) (v1 : vp_in (i + 1) L) (v2 : vp_in (i + 2) L) (v3 : vp_in (i + 3) L) (v4 : vp_in (i + 4) L) (v5 : vp_in (i + 5) L) (hk : k + 114 ≤ 58408) (hn : n + 2834 ≤ 1451408) (next : (∀ (l5' l6' : Option Value) (w' : Hw) (k' n' : Nat) (kn' th' : Int32) (s' : AS), LW g w' x nA cA lA y nM o kn' kn' th' s' s' → k' ≤ k + 114 → n' ≤ n + 2834 → WP (ML_law g) QLaw (2246, [some (.ref b), some (.ref x), some (.ref y), some (.ref o), some (.int i), l5', l6'], [], w', k', n'))) : WP (ML_law g) QLaw (1796, [some (.ref b), some (.ref x), some (.ref y), some (.ref o), some (.int i), l5, l6], [], w, k, n) := by
  simp only [eL_law_1796, eL_law_1803, eL_law_1809, wt_nil]
  with_reducible refine gi_W hL hb ?_
  with_reducible refine And.intro ?_ ?_
  with_reducible assumption
  with_reducible refine gi_W hL hb ?_
  with_reducible refine And.intro ?_ ?_
  with_reducible assumption
  with_reducible refine And.intro ?_ ?_
  omega
  with_reducible refine And.intro ?_ ?_
  omega
  with_reducible refine And.intro ?_ ?_
  omega
  with_reducible refine fL_areSame hL (fun hXpc0 => ?_) (fun hSpc0 hSpc1 hSpc2 => ?_) (fun hTpc0 hTpc1 hTpr hTpq hTpc2 hTpc3 hTpc4 hTpw hTph hTpo => ?_) (fun hFpc0 hFpc1 hFpr hFpq hFpc2 hFpc3 hFpc4 hFpw hFph hFpo => ?_)
  simp only [eL_law_1813, eL_law_1817, eL_law_1822, eL_law_1828, kx_l, wt_nil, nl_int, tl_s, Nat.add_zero]
  with_reducible refine gi_W hL hb ?_
  with_reducible refine And.intro ?_ ?_
  with_reducible assumption
  with_reducible refine gi_W hL hb ?_
  with_reducible refine And.intro ?_ ?_
  with_reducible assumption
  with_reducible refine And.intro ?_ ?_
  with_reducible refine LW.gz hL (fun _ => trivial)
  with_reducible refine And.intro ?_ ?_
  omega
  with_reducible refine And.intro ?_ ?_
  omega
  with_reducible refine And.intro ?_ ?_
  omega
  with_reducible refine fX3_areSame (LW.ms hL) (fun hXqc0 hXqw hXqh => ?_) (fun hSqc0 hSqc1 hSqc2 hSqw hSqh => ?_) (fun hTqc0 hTqc1 hTqr hTqq hTqc2 hTqc3 hTqc4 hTqw hTqh => ?_) (fun hFqc0 hFqc1 hFqr hFqq hFqc2 hFqc3 hFqc4 hFqw hFqh => ?_)
  simp only [eL_law_1831, kx_l, nl_int, tl_s]
  with_reducible exact next _ _ _ _ _ _ _ _ (LW.ofM hL hXqh) (by omega) (by omega)
  with_reducible exact absurd (And.intro hSqc0 hSqc1) hXpc0
  with_reducible exact absurd (And.intro hTqc0 hTqc1) hXpc0
  with_reducible exact absurd (And.intro hFqc0 hFqc1) hXpc0
  simp only [eL_law_1813, eL_law_1817, eL_law_1822, eL_law_1828, kx_l, wt_nil, nl_int, tl_s, Nat.add_zero]
  with_reducible refine gi_W hL hb ?_
  with_reducible refine And.intro ?_ ?_
  with_reducible assumption
  with_reducible refine gi_W hL hb ?_
  with_reducible refine And.intro ?_ ?_
  with_reducible assumption
  with_reducible refine And.intro ?_ ?_
  with_reducible refine LW.gz hL (fun _ => trivial)
  with_reducible refine And.intro ?_ ?_
  omega
  with_reducible refine And.intro ?_ ?_
  omega
  with_reducible refine And.intro ?_ ?_
  omega
  with_reducible refine fX3_areSame (LW.ms hL) (fun hXqc0 hXqw hXqh => ?_) (fun hSqc0 hSqc1 hSqc2 hSqw hSqh => ?_) (fun hTqc0 hTqc1 hTqr hTqq hTqc2 hTqc3 hTqc4 hTqw hTqh => ?_) (fun hFqc0 hFqc1 hFqr hFqq hFqc2 hFqc3 hFqc4 hFqw hFqh => ?_)
  with_reducible exact absurd (And.intro hSpc0 hSpc1) hXqc0
  simp only [eL_law_1831, kx_l, nl_int, tl_s]
  with_reducible exact next _ _ _ _ _ _ _ _ (LW.ofM hL hSqh) (by omega) (by omega)
  with_reducible exact (hSpc2.elim (fun e => nsC e hTqc2) (fun e => nsC e hTqc3)).elim
  with_reducible exact (hSpc2.elim (fun e => nsC e hFqc2) (fun e => nsC e hFqc3)).elim
  simp only [eL_law_1813, eL_law_1817, eL_law_1822, eL_law_1828, kx_l, wt_nil, nl_int, tl_s, Nat.add_zero]
  with_reducible refine gi_W hTph hb ?_
  with_reducible refine And.intro ?_ ?_
  with_reducible assumption
  with_reducible refine gi_W hTph hb ?_
  with_reducible refine And.intro ?_ ?_
  with_reducible assumption
  with_reducible refine And.intro ?_ ?_
  with_reducible refine LW.gz hTph (fun _ => trivial)
  with_reducible refine And.intro ?_ ?_
  omega
  with_reducible refine And.intro ?_ ?_
  omega
  with_reducible refine And.intro ?_ ?_
  omega
  with_reducible refine fX3_areSame (LW.ms hTph) (fun hXqc0 hXqw hXqh => ?_) (fun hSqc0 hSqc1 hSqc2 hSqw hSqh => ?_) (fun hTqc0 hTqc1 hTqr hTqq hTqc2 hTqc3 hTqc4 hTqw hTqh => ?_) (fun hFqc0 hFqc1 hFqr hFqq hFqc2 hFqc3 hFqc4 hFqw hFqh => ?_)
  with_reducible exact absurd (And.intro hTpc0 hTpc1) hXqc0
  with_reducible exact (hSqc2.elim (fun e => nsC e hTpc2) (fun e => nsC e hTpc3)).elim
  cases Option.some.inj (hTpc2.symm.trans hTqc2); clear hTqc2
  cases Option.some.inj (hTpc3.symm.trans hTqc3); clear hTqc3
  simp only [eL_law_1831, kx_l, nl_int, tl_s]
  with_reducible exact next _ _ _ _ _ _ _ _ (LW.ofM hTph hTqh) (by omega) (by omega)
  cases Option.some.inj (hTpc2.symm.trans hFqc2); clear hFqc2
  cases Option.some.inj (hTpc3.symm.trans hFqc3); clear hFqc3
  with_reducible exact absurd hTpc4 hFqc4
  simp only [eL_law_1813, eL_law_1817, eL_law_1822, eL_law_1828, kx_l, wt_nil, nl_int, tl_s, Nat.add_zero]
  with_reducible refine gi_W hFph hb ?_
  with_reducible refine And.intro ?_ ?_
  with_reducible assumption
  with_reducible refine gi_W hFph hb ?_
  with_reducible refine And.intro ?_ ?_
  with_reducible assumption
  with_reducible refine And.intro ?_ ?_
  with_reducible refine LW.gz hFph (fun _ => trivial)
  with_reducible refine And.intro ?_ ?_
  omega
  with_reducible refine And.intro ?_ ?_
  omega
  with_reducible refine And.intro ?_ ?_
  omega
  with_reducible refine fX3_areSame (LW.ms hFph) (fun hXqc0 hXqw hXqh => ?_) (fun hSqc0 hSqc1 hSqc2 hSqw hSqh => ?_) (fun hTqc0 hTqc1 hTqr hTqq hTqc2 hTqc3 hTqc4 hTqw hTqh => ?_) (fun hFqc0 hFqc1 hFqr hFqq hFqc2 hFqc3 hFqc4 hFqw hFqh => ?_)
  with_reducible exact absurd (And.intro hFpc0 hFpc1) hXqc0
  with_reducible exact (hSqc2.elim (fun e => nsC e hFpc2) (fun e => nsC e hFpc3)).elim
  cases Option.some.inj (hFpc2.symm.trans hTqc2); clear hTqc2
  cases Option.some.inj (hFpc3.symm.trans hTqc3); clear hTqc3
  with_reducible exact absurd hTqc4 hFpc4
  cases Option.some.inj (hFpc2.symm.trans hFqc2); clear hFqc2
  cases Option.some.inj (hFpc3.symm.trans hFqc3); clear hFqc3
  simp only [eL_law_1831, kx_l, nl_int, tl_s]
  with_reducible exact next _ _ _ _ _ _ _ _ (LW.ofM hFph hFqh) (by omega) (by omega)
set_option maxHeartbeats 4000000 in
theorem cL_35 (hR : RG g) (hb : g.2 b = some (.inl (1, L, .inl xs))) (hL : LW g w x nA cA lA y nM o kn kn th s s) (v1 : vp_in (i + 1) L) (v2 : vp_in (i + 2) L) (v3 : vp_in (i + 3) L) (v4 : vp_in (i + 4) L) (v5 : vp_in (i + 5) L) (hk : k + 114 ≤ 58408) (hn : n + 2834 ≤ 1451408) (next : (∀ (l5' l6' : Option Value) (w' : Hw) (k' n' : Nat) (kn' th' : Int32) (s' : AS), LW g w' x nA cA lA y nM o kn' kn' th' s' s' → k' ≤ k + 114 → n' ≤ n + 2834 → WP (ML_law g) QLaw (2246, [some (.ref b), some (.ref x), some (.ref y), some (.ref o), some (.int i), l5', l6'], [], w', k', n'))) : WP (ML_law g) QLaw (1836, [some (.ref b), some (.ref x), some (.ref y), some (.ref o), some (.int i), l5, l6], [], w, k, n) := by
  simp only [eL_law_1836, eL_law_1843, eL_law_1849, wt_nil]
  with_reducible refine gi_W hL hb ?_
  with_reducible refine And.intro ?_ ?_
  with_reducible assumption
  with_reducible refine gi_W hL hb ?_
  with_reducible refine And.intro ?_ ?_
  with_reducible assumption
  with_reducible refine And.intro ?_ ?_
  omega
  with_reducible refine And.intro ?_ ?_
  omega
  with_reducible refine And.intro ?_ ?_
  omega
  with_reducible refine gL_isSameAs hR hL (fun v1 w1 h1 => ?_)
  simp only [eL_law_1853, eL_law_1857, eL_law_1862, eL_law_1868, kx_l, wt_nil, nl_int, tl_s, Nat.add_zero]
  with_reducible refine gi_W h1 hb ?_
  with_reducible refine And.intro ?_ ?_
  with_reducible assumption
  with_reducible refine gi_W h1 hb ?_
  with_reducible refine And.intro ?_ ?_
  with_reducible assumption
  with_reducible refine And.intro ?_ ?_
  with_reducible refine LW.gz h1 (fun _ => trivial)
  with_reducible refine And.intro ?_ ?_
  omega
  with_reducible refine And.intro ?_ ?_
  omega
  with_reducible refine And.intro ?_ ?_
  omega
  with_reducible refine gX3_isSameAs (LW.ms h1) (fun v2 t2 w2 m2 => ?_)
  simp only [eL_law_1871, kx_l, nl_int, tl_s]
  with_reducible exact next _ _ _ _ _ _ _ _ (LW.ofM h1 m2) (by omega) (by omega)
end
end
/-! 79.cw3.lean.txt -/
section
section
variable {g : RO} {w : Hw} {x nA cA lA y nM o b L k n : Nat} {xs : Nat → Int32} {i kn th : Int32} {s : AS} {l5 l6 : Option Value}
set_option maxHeartbeats 4000000 in
theorem cL_36 (hR : RG g) (hb : g.2 b = some (.inl (1, L, .inl xs))) (hL : LW g w x nA cA lA y nM o kn kn th s s) (v1 : vp_in (i + 1) L) (v2 : vp_in (i + 2) L) (v3 : vp_in (i + 3) L) (v4 : vp_in (i + 4) L) (v5 : vp_in (i + 5) L) (hk : k + 114 ≤ 58408) (hn : n + 2834 ≤ 1451408) (next : (∀ (l5' l6' : Option Value) (w' : Hw) (k' n' : Nat) (kn' th' : Int32) (s' : AS), LW g w' x nA cA lA y nM o kn' kn' th' s' s' → k' ≤ k + 114 → n' ≤ n + 2834 → WP (ML_law g) QLaw (2246, [some (.ref b), some (.ref x), some (.ref y), some (.ref o), some (.int i), l5', l6'], [], w', k', n'))) : WP (ML_law g) QLaw (1876, [some (.ref b), some (.ref x), some (.ref y), some (.ref o), some (.int i), l5, l6], [], w, k, n) := by
  simp only [eL_law_1876, eL_law_1883, wt_nil]
  with_reducible refine gi_W hL hb ?_
  with_reducible refine And.intro ?_ ?_
  with_reducible assumption
  with_reducible refine And.intro ?_ ?_
  omega
  with_reducible refine And.intro ?_ ?_
  omega
  with_reducible refine And.intro ?_ ?_
  omega
  with_reducible refine gL_likes hR hL (fun v1 w1 h1 => ?_)
  simp only [eL_law_1887, eL_law_1891, eL_law_1896, kx_l, wt_nil, nl_int, tl_s, Nat.add_zero]
  with_reducible refine gi_W h1 hb ?_
  with_reducible refine And.intro ?_ ?_
  with_reducible assumption
  with_reducible refine And.intro ?_ ?_
  with_reducible refine LW.gz h1 (fun _ => trivial)
  with_reducible refine And.intro ?_ ?_
  omega
  with_reducible refine And.intro ?_ ?_
  omega
  with_reducible refine And.intro ?_ ?_
  omega
  with_reducible refine gX3_likes (LW.ms h1) (fun v2 t2 w2 m2 => ?_)
  simp only [eL_law_1899, kx_l, nl_int, tl_s]
  with_reducible exact next _ _ _ _ _ _ _ _ (LW.ofM h1 m2) (by omega) (by omega)
set_option maxHeartbeats 4000000 in
theorem cL_37 (hR : RG g) (hb : g.2 b = some (.inl (1, L, .inl xs))) (hL : LW g w x nA cA lA y nM o kn kn th s s) (v1 : vp_in (i + 1) L) (v2 : vp_in (i + 2) L) (v3 : vp_in (i + 3) L) (v4 : vp_in (i + 4) L) (v5 : vp_in (i + 5) L) (hk : k + 114 ≤ 58408) (hn : n + 2834 ≤ 1451408) (next : (∀ (l5' l6' : Option Value) (w' : Hw) (k' n' : Nat) (kn' th' : Int32) (s' : AS), LW g w' x nA cA lA y nM o kn' kn' th' s' s' → k' ≤ k + 114 → n' ≤ n + 2834 → WP (ML_law g) QLaw (2246, [some (.ref b), some (.ref x), some (.ref y), some (.ref o), some (.int i), l5', l6'], [], w', k', n'))) : WP (ML_law g) QLaw (1904, [some (.ref b), some (.ref x), some (.ref y), some (.ref o), some (.int i), l5, l6], [], w, k, n) := by
  simp only [eL_law_1904, eL_law_1911, wt_nil]
  with_reducible refine gi_W hL hb ?_
  with_reducible refine And.intro ?_ ?_
  with_reducible assumption
  with_reducible refine And.intro ?_ ?_
  omega
  with_reducible refine And.intro ?_ ?_
  omega
  with_reducible refine And.intro ?_ ?_
  omega
  with_reducible refine fL_lay hL (fun hXpc0 => ?_) (fun hSpc0 hSpc1 => ?_) (fun hFpc0 hFpr hFpc1 hFpc2 hFpw hFph hFpo => ?_) (fun hQpc0 hQpr hQpc1 hQpc2 hQpw hQph hQpo => ?_)
  simp only [eL_law_1915, eL_law_1919, eL_law_1924, kx_l, wt_nil, nl_int, tl_s]
  with_reducible refine gi_W hL hb ?_
  with_reducible refine And.intro ?_ ?_
  with_reducible assumption
  with_reducible refine And.intro ?_ ?_
  with_reducible refine LW.gz hL (fun _ => trivial)
  with_reducible refine And.intro ?_ ?_
  omega
  with_reducible refine And.intro ?_ ?_
  omega
  with_reducible refine And.intro ?_ ?_
  omega
  with_reducible refine fX3_lay (LW.ms hL) (hR.eg (LW.ro hL)) hR.sg (fun hXqc0 hXqw hXqh => ?_) (fun hSqc0 hSqc1 hSqw hSqh => ?_) (fun hFqc0 hFqr hFqc1 hFqc2 hFqw hFqh => ?_) (fun hQqc0 hQqr hQqc1 hQqc2 hQqw hQqh => ?_)
  simp only [eL_law_1927, kx_l, nl_int, tl_s]
  with_reducible exact next _ _ _ _ _ _ _ _ (LW.ofM hL hXqh) (by omega) (by omega)
  with_reducible exact absurd hSqc0 hXpc0
  with_reducible exact absurd hFqc0 hXpc0
  with_reducible exact absurd hQqc0 hXpc0
  simp only [eL_law_1915, eL_law_1919, eL_law_1924, kx_l, wt_nil, nl_int, tl_s]
  with_reducible refine gi_W hL hb ?_
  with_reducible refine And.intro ?_ ?_
  with_reducible assumption
  with_reducible refine And.intro ?_ ?_
  with_reducible refine LW.gz hL (fun _ => trivial)
  with_reducible refine And.intro ?_ ?_
  omega
  with_reducible refine And.intro ?_ ?_
  omega
  with_reducible refine And.intro ?_ ?_
  omega
  with_reducible refine fX3_lay (LW.ms hL) (hR.eg (LW.ro hL)) hR.sg (fun hXqc0 hXqw hXqh => ?_) (fun hSqc0 hSqc1 hSqw hSqh => ?_) (fun hFqc0 hFqr hFqc1 hFqc2 hFqw hFqh => ?_) (fun hQqc0 hQqr hQqc1 hQqc2 hQqw hQqh => ?_)
  with_reducible exact absurd hSpc0 hXqc0
  simp only [eL_law_1927, kx_l, nl_int, tl_s]
  with_reducible exact next _ _ _ _ _ _ _ _ (LW.ofM hL hSqh) (by omega) (by omega)
  with_reducible exact (nsC hSpc1 hFqc1).elim
  with_reducible exact (nsC hSpc1 hQqc1).elim
  simp only [eL_law_1915, eL_law_1919, eL_law_1924, kx_l, wt_nil, nl_int, tl_s]
  with_reducible refine gi_W hFph hb ?_
  with_reducible refine And.intro ?_ ?_
  with_reducible assumption
  with_reducible refine And.intro ?_ ?_
  with_reducible refine LW.gz hFph (fun _ => trivial)
  with_reducible refine And.intro ?_ ?_
  omega
  with_reducible refine And.intro ?_ ?_
  omega
  with_reducible refine And.intro ?_ ?_
  omega
  with_reducible refine fX3_lay (LW.ms hFph) (hR.eg (LW.ro hFph)) hR.sg (fun hXqc0 hXqw hXqh => ?_) (fun hSqc0 hSqc1 hSqw hSqh => ?_) (fun hFqc0 hFqr hFqc1 hFqc2 hFqw hFqh => ?_) (fun hQqc0 hQqr hQqc1 hQqc2 hQqw hQqh => ?_)
  with_reducible exact absurd hFpc0 hXqc0
  with_reducible exact (nsC hSqc1 hFpc1).elim
  cases Option.some.inj (hFpc1.symm.trans hFqc1); clear hFqc1
  simp only [eL_law_1927, kx_l, nl_int, tl_s]
  with_reducible exact next _ _ _ _ _ _ _ _ (LW.ofM hFph hFqh) (by omega) (by omega)
  cases Option.some.inj (hFpc1.symm.trans hQqc1); clear hQqc1
  with_reducible exact absurd hQqc2 hFpc2
  simp only [eL_law_1915, eL_law_1919, eL_law_1924, kx_l, wt_nil, nl_int, tl_s]
  with_reducible refine gi_W hQph hb ?_
  with_reducible refine And.intro ?_ ?_
  with_reducible assumption
  with_reducible refine And.intro ?_ ?_
  with_reducible refine LW.gz hQph (fun _ => trivial)
  with_reducible refine And.intro ?_ ?_
  omega
  with_reducible refine And.intro ?_ ?_
  omega
  with_reducible refine And.intro ?_ ?_
  omega
  with_reducible refine fX3_lay (LW.ms hQph) (hR.eg (LW.ro hQph)) hR.sg (fun hXqc0 hXqw hXqh => ?_) (fun hSqc0 hSqc1 hSqw hSqh => ?_) (fun hFqc0 hFqr hFqc1 hFqc2 hFqw hFqh => ?_) (fun hQqc0 hQqr hQqc1 hQqc2 hQqw hQqh => ?_)
  with_reducible exact absurd hQpc0 hXqc0
  with_reducible exact (nsC hSqc1 hQpc1).elim
  cases Option.some.inj (hQpc1.symm.trans hFqc1); clear hFqc1
  with_reducible exact absurd hQpc2 hFqc2
  cases Option.some.inj (hQpc1.symm.trans hQqc1); clear hQqc1
  simp only [eL_law_1927, kx_l, nl_int, tl_s]
  with_reducible exact next _ _ _ _ _ _ _ _ (LW.ofM hQph hQqh) (by omega) (by omega)
set_option maxHeartbeats 4000000 in
theorem cL_38 (hR : RG g) (hb : g.2 b = some (.inl (1, L, .inl xs))) (hL : LW g w x nA cA lA y nM o kn kn th s s) (v1 : vp_in (i + 1) L) (v2 : vp_in (i + 2) L) (v3 : vp_in (i + 3) L) (v4 : vp_in (i + 4) L) (v5 : vp_in (i + 5) L) (hk : k + 114 ≤ 58408) (hn : n + 2834 ≤ 1451408) (next : (∀ (l5' l6' : Option Value) (w' : Hw) (k' n' : Nat) (kn' th' : Int32) (s' : AS), LW g w' x nA cA lA y nM o kn' kn' th' s' s' → k' ≤ k + 114 → n' ≤ n + 2834 → WP (ML_law g) QLaw (2246, [some (.ref b), some (.ref x), some (.ref y), some (.ref o), some (.int i), l5', l6'], [], w', k', n'))) : WP (ML_law g) QLaw (1932, [some (.ref b), some (.ref x), some (.ref y), some (.ref o), some (.int i), l5, l6], [], w, k, n) := by
  simp only [eL_law_1932, eL_law_1939, eL_law_1945, eL_law_1948, eL_law_1952, eL_law_1953, wt_nil]
  with_reducible refine gi_W hL hb ?_
  with_reducible refine And.intro ?_ ?_
  with_reducible assumption
  with_reducible refine gi_W hL hb ?_
  with_reducible refine And.intro ?_ ?_
  with_reducible assumption
  split
  with_reducible refine And.intro ?_ ?_
  omega
  with_reducible refine And.intro ?_ ?_
  omega
  with_reducible refine And.intro ?_ ?_
  omega
  with_reducible refine fL_seek hL (fun hXpc0 => ?_) (fun hSpc0 hSpc1 => ?_) (fun hNpc0 hNpr hNpc1 hNpc2 hNpw hNph hNpo => ?_) (fun hFpc0 hFpc1 hFpr hFpc2 hFpi hFpc3 hFpc4 hFpc5 hFpw hFph hFpo => ?_) (fun hLLpc0 hLLpc1 hLLpr hLLpc2 hLLpi hLLpc3 hLLpc4 hLLpc5 hLLpw hLLph hLLpo => ?_)
  simp only [eL_law_1957, eL_law_1961, eL_law_1966, eL_law_1972, eL_law_1975, eL_law_1979, eL_law_1980, kx_l, wt_nil, nl_int, tl_s, Nat.add_zero]
  with_reducible refine gi_W hL hb ?_
  with_reducible refine And.intro ?_ ?_
  with_reducible assumption
  with_reducible refine gi_W hL hb ?_
  with_reducible refine And.intro ?_ ?_
  with_reducible assumption
  split
  with_reducible refine And.intro ?_ ?_
  with_reducible refine LW.gz hL (fun _ => trivial)
  with_reducible refine And.intro ?_ ?_
  omega
  with_reducible refine And.intro ?_ ?_
  omega
  with_reducible refine And.intro ?_ ?_
  omega
  with_reducible refine fX3_seek (LW.ms hL) (fun hXqc0 hXqw hXqh => ?_) (fun hSqc0 hSqc1 hSqw hSqh => ?_) (fun hQqc0 hQqr hQqc1 hQqw hQqh => ?_)
  simp only [eL_law_1983, kx_l, nl_int, tl_s]
  with_reducible exact next _ _ _ _ _ _ _ _ (LW.ofM hL hXqh) (by omega) (by omega)
  with_reducible exact absurd hSqc0 hXpc0
  with_reducible exact absurd hQqc0 hXpc0
  with_reducible refine And.intro ?_ ?_
  with_reducible refine LW.gz hL (fun _ => trivial)
  with_reducible refine And.intro ?_ ?_
  with_reducible exact absurd (show xs (i + 2).toNatClampNeg = 0 by assumption) (by assumption)
  with_reducible refine And.intro ?_ ?_
  with_reducible exact absurd (show xs (i + 2).toNatClampNeg = 0 by assumption) (by assumption)
  with_reducible refine And.intro ?_ ?_
  with_reducible exact absurd (show xs (i + 2).toNatClampNeg = 0 by assumption) (by assumption)
  with_reducible refine fX3_seek (LW.ms hL) (fun hXqc0 hXqw hXqh => ?_) (fun hSqc0 hSqc1 hSqw hSqh => ?_) (fun hQqc0 hQqr hQqc1 hQqw hQqh => ?_)
  with_reducible exact absurd (show xs (i + 2).toNatClampNeg = 0 by assumption) (by assumption)
  with_reducible exact absurd hSqc0 hXpc0
  with_reducible exact absurd hQqc0 hXpc0
  simp only [eL_law_1957, eL_law_1961, eL_law_1966, eL_law_1972, eL_law_1975, eL_law_1979, eL_law_1980, kx_l, wt_nil, nl_int, tl_s, Nat.add_zero]
  with_reducible refine gi_W hL hb ?_
  with_reducible refine And.intro ?_ ?_
  with_reducible assumption
  with_reducible refine gi_W hL hb ?_
  with_reducible refine And.intro ?_ ?_
  with_reducible assumption
  split
  with_reducible refine And.intro ?_ ?_
  with_reducible refine LW.gz hL (fun _ => trivial)
  with_reducible refine And.intro ?_ ?_
  omega
  with_reducible refine And.intro ?_ ?_
  omega
  with_reducible refine And.intro ?_ ?_
  omega
  with_reducible refine fX3_seek (LW.ms hL) (fun hXqc0 hXqw hXqh => ?_) (fun hSqc0 hSqc1 hSqw hSqh => ?_) (fun hQqc0 hQqr hQqc1 hQqw hQqh => ?_)
  with_reducible exact absurd hSpc0 hXqc0
  simp only [eL_law_1983, kx_l, nl_int, tl_s]
  with_reducible exact next _ _ _ _ _ _ _ _ (LW.ofM hL hSqh) (by omega) (by omega)
  with_reducible exact (nsC hSpc1 hQqc1).elim
  with_reducible refine And.intro ?_ ?_
  with_reducible refine LW.gz hL (fun _ => trivial)
  with_reducible refine And.intro ?_ ?_
  with_reducible exact absurd (show xs (i + 2).toNatClampNeg = 0 by assumption) (by assumption)
  with_reducible refine And.intro ?_ ?_
  with_reducible exact absurd (show xs (i + 2).toNatClampNeg = 0 by assumption) (by assumption)
  with_reducible refine And.intro ?_ ?_
  with_reducible exact absurd (show xs (i + 2).toNatClampNeg = 0 by assumption) (by assumption)
  with_reducible refine fX3_seek (LW.ms hL) (fun hXqc0 hXqw hXqh => ?_) (fun hSqc0 hSqc1 hSqw hSqh => ?_) (fun hQqc0 hQqr hQqc1 hQqw hQqh => ?_)
  with_reducible exact absurd hSpc0 hXqc0
  with_reducible exact absurd (show xs (i + 2).toNatClampNeg = 0 by assumption) (by assumption)
  with_reducible exact (nsC hSpc1 hQqc1).elim
  simp only [eL_law_1957, eL_law_1961, eL_law_1966, eL_law_1972, eL_law_1975, eL_law_1979, eL_law_1980, kx_l, wt_nil, nl_int, tl_s, Nat.add_zero]
  with_reducible refine gi_W hNph hb ?_
  with_reducible refine And.intro ?_ ?_
  with_reducible assumption
  with_reducible refine gi_W hNph hb ?_
  with_reducible refine And.intro ?_ ?_
  with_reducible assumption
  split
  with_reducible refine And.intro ?_ ?_
  with_reducible refine LW.gz hNph (fun _ => trivial)
  with_reducible refine And.intro ?_ ?_
  omega
  with_reducible refine And.intro ?_ ?_
  omega
  with_reducible refine And.intro ?_ ?_
  omega
  with_reducible refine fX3_seek (LW.ms hNph) (fun hXqc0 hXqw hXqh => ?_) (fun hSqc0 hSqc1 hSqw hSqh => ?_) (fun hQqc0 hQqr hQqc1 hQqw hQqh => ?_)
  with_reducible exact absurd hNpc0 hXqc0
  with_reducible exact (nsC hSqc1 hNpc1).elim
  cases Option.some.inj (hNpc1.symm.trans hQqc1); clear hQqc1
  simp only [eL_law_1983, kx_l, nl_int, tl_s]
  with_reducible exact next _ _ _ _ _ _ _ _ (LW.ofM hNph hQqh) (by omega) (by omega)
  with_reducible refine And.intro ?_ ?_
  with_reducible refine LW.gz hNph (fun _ => trivial)
  with_reducible refine And.intro ?_ ?_
  with_reducible exact absurd (show xs (i + 2).toNatClampNeg = 0 by assumption) (by assumption)
  with_reducible refine And.intro ?_ ?_
  with_reducible exact absurd (show xs (i + 2).toNatClampNeg = 0 by assumption) (by assumption)
  with_reducible refine And.intro ?_ ?_
  with_reducible exact absurd (show xs (i + 2).toNatClampNeg = 0 by assumption) (by assumption)
  with_reducible refine fX3_seek (LW.ms hNph) (fun hXqc0 hXqw hXqh => ?_) (fun hSqc0 hSqc1 hSqw hSqh => ?_) (fun hQqc0 hQqr hQqc1 hQqw hQqh => ?_)
  with_reducible exact absurd hNpc0 hXqc0
  with_reducible exact (nsC hSqc1 hNpc1).elim
  cases Option.some.inj (hNpc1.symm.trans hQqc1); clear hQqc1
  with_reducible exact absurd (show xs (i + 2).toNatClampNeg = 0 by assumption) (by assumption)
  simp only [eL_law_1957, eL_law_1961, eL_law_1966, eL_law_1972, eL_law_1975, eL_law_1979, eL_law_1980, kx_l, wt_nil, nl_int, tl_s, Nat.add_zero]
  with_reducible refine gi_W hFph hb ?_
  with_reducible refine And.intro ?_ ?_
  with_reducible assumption
  with_reducible refine gi_W hFph hb ?_
  with_reducible refine And.intro ?_ ?_
  with_reducible assumption
  split
  with_reducible refine And.intro ?_ ?_
  with_reducible refine LW.gz hFph (fun _ => trivial)
  with_reducible refine And.intro ?_ ?_
  omega
  with_reducible refine And.intro ?_ ?_
  omega
  with_reducible refine And.intro ?_ ?_
  omega
  with_reducible refine fX3_seek (LW.ms hFph) (fun hXqc0 hXqw hXqh => ?_) (fun hSqc0 hSqc1 hSqw hSqh => ?_) (fun hQqc0 hQqr hQqc1 hQqw hQqh => ?_)
  with_reducible exact absurd hFpc1 hXqc0
  with_reducible exact (nsC hSqc1 hFpc2).elim
  cases Option.some.inj (hFpc2.symm.trans hQqc1); clear hQqc1
  simp only [eL_law_1983, kx_l, nl_int, tl_s]
  with_reducible exact next _ _ _ _ _ _ _ _ (LW.ofM hFph hQqh) (by omega) (by omega)
  with_reducible refine And.intro ?_ ?_
  with_reducible refine LW.gz hFph (fun _ => trivial)
  with_reducible refine And.intro ?_ ?_
  with_reducible exact absurd (show xs (i + 2).toNatClampNeg = 0 by assumption) (by assumption)
  with_reducible refine And.intro ?_ ?_
  with_reducible exact absurd (show xs (i + 2).toNatClampNeg = 0 by assumption) (by assumption)
  with_reducible refine And.intro ?_ ?_
  with_reducible exact absurd (show xs (i + 2).toNatClampNeg = 0 by assumption) (by assumption)
  with_reducible refine fX3_seek (LW.ms hFph) (fun hXqc0 hXqw hXqh => ?_) (fun hSqc0 hSqc1 hSqw hSqh => ?_) (fun hQqc0 hQqr hQqc1 hQqw hQqh => ?_)
  with_reducible exact absurd hFpc1 hXqc0
  with_reducible exact (nsC hSqc1 hFpc2).elim
  cases Option.some.inj (hFpc2.symm.trans hQqc1); clear hQqc1
  with_reducible exact absurd (show xs (i + 2).toNatClampNeg = 0 by assumption) (by assumption)
  simp only [eL_law_1957, eL_law_1961, eL_law_1966, eL_law_1972, eL_law_1975, eL_law_1979, eL_law_1980, kx_l, wt_nil, nl_int, tl_s, Nat.add_zero]
  with_reducible refine gi_W hLLph hb ?_
  with_reducible refine And.intro ?_ ?_
  with_reducible assumption
  with_reducible refine gi_W hLLph hb ?_
  with_reducible refine And.intro ?_ ?_
  with_reducible assumption
  split
  with_reducible refine And.intro ?_ ?_
  with_reducible refine LW.gz hLLph (fun _ => trivial)
  with_reducible refine And.intro ?_ ?_
  omega
  with_reducible refine And.intro ?_ ?_
  omega
  with_reducible refine And.intro ?_ ?_
  omega
  with_reducible refine fX3_seek (LW.ms hLLph) (fun hXqc0 hXqw hXqh => ?_) (fun hSqc0 hSqc1 hSqw hSqh => ?_) (fun hQqc0 hQqr hQqc1 hQqw hQqh => ?_)
  with_reducible exact absurd hLLpc1 hXqc0
  with_reducible exact (nsC hSqc1 hLLpc2).elim
  cases Option.some.inj (hLLpc2.symm.trans hQqc1); clear hQqc1
  simp only [eL_law_1983, kx_l, nl_int, tl_s]
  with_reducible exact next _ _ _ _ _ _ _ _ (LW.ofM hLLph hQqh) (by omega) (by omega)
  with_reducible refine And.intro ?_ ?_
  with_reducible refine LW.gz hLLph (fun _ => trivial)
  with_reducible refine And.intro ?_ ?_
  with_reducible exact absurd (show xs (i + 2).toNatClampNeg = 0 by assumption) (by assumption)
  with_reducible refine And.intro ?_ ?_
  with_reducible exact absurd (show xs (i + 2).toNatClampNeg = 0 by assumption) (by assumption)
  with_reducible refine And.intro ?_ ?_
  with_reducible exact absurd (show xs (i + 2).toNatClampNeg = 0 by assumption) (by assumption)
  with_reducible refine fX3_seek (LW.ms hLLph) (fun hXqc0 hXqw hXqh => ?_) (fun hSqc0 hSqc1 hSqw hSqh => ?_) (fun hQqc0 hQqr hQqc1 hQqw hQqh => ?_)
  with_reducible exact absurd hLLpc1 hXqc0
  with_reducible exact (nsC hSqc1 hLLpc2).elim
  cases Option.some.inj (hLLpc2.symm.trans hQqc1); clear hQqc1
  with_reducible exact absurd (show xs (i + 2).toNatClampNeg = 0 by assumption) (by assumption)
  with_reducible refine And.intro ?_ ?_
  omega
  with_reducible refine And.intro ?_ ?_
  omega
  with_reducible refine And.intro ?_ ?_
  omega
  with_reducible refine fL_seek hL (fun hXpc0 => ?_) (fun hSpc0 hSpc1 => ?_) (fun hNpc0 hNpr hNpc1 hNpc2 hNpw hNph hNpo => ?_) (fun hFpc0 hFpc1 hFpr hFpc2 hFpi hFpc3 hFpc4 hFpc5 hFpw hFph hFpo => ?_) (fun hLLpc0 hLLpc1 hLLpr hLLpc2 hLLpi hLLpc3 hLLpc4 hLLpc5 hLLpw hLLph hLLpo => ?_)
  simp only [eL_law_1957, eL_law_1961, eL_law_1966, eL_law_1972, eL_law_1975, eL_law_1979, eL_law_1980, kx_l, wt_nil, nl_int, tl_s, Nat.add_zero]
  with_reducible refine gi_W hL hb ?_
  with_reducible refine And.intro ?_ ?_
  with_reducible assumption
  with_reducible refine gi_W hL hb ?_
  with_reducible refine And.intro ?_ ?_
  with_reducible assumption
  split
  with_reducible refine And.intro ?_ ?_
  with_reducible refine LW.gz hL (fun _ => trivial)
  with_reducible refine And.intro ?_ ?_
  with_reducible exact absurd (show xs (i + 2).toNatClampNeg = 0 by assumption) (by assumption)
  with_reducible refine And.intro ?_ ?_
  with_reducible exact absurd (show xs (i + 2).toNatClampNeg = 0 by assumption) (by assumption)
  with_reducible refine And.intro ?_ ?_
  with_reducible exact absurd (show xs (i + 2).toNatClampNeg = 0 by assumption) (by assumption)
  with_reducible refine fX3_seek (LW.ms hL) (fun hXqc0 hXqw hXqh => ?_) (fun hSqc0 hSqc1 hSqw hSqh => ?_) (fun hQqc0 hQqr hQqc1 hQqw hQqh => ?_)
  with_reducible exact absurd (show xs (i + 2).toNatClampNeg = 0 by assumption) (by assumption)
  with_reducible exact absurd hSqc0 hXpc0
  with_reducible exact absurd hQqc0 hXpc0
  with_reducible refine And.intro ?_ ?_
  with_reducible refine LW.gz hL (fun _ => trivial)
  with_reducible refine And.intro ?_ ?_
  omega
  with_reducible refine And.intro ?_ ?_
  omega
  with_reducible refine And.intro ?_ ?_
  omega
  with_reducible refine fX3_seek (LW.ms hL) (fun hXqc0 hXqw hXqh => ?_) (fun hSqc0 hSqc1 hSqw hSqh => ?_) (fun hQqc0 hQqr hQqc1 hQqw hQqh => ?_)
  simp only [eL_law_1983, kx_l, nl_int, tl_s]
  with_reducible exact next _ _ _ _ _ _ _ _ (LW.ofM hL hXqh) (by omega) (by omega)
  with_reducible exact absurd hSqc0 hXpc0
  with_reducible exact absurd hQqc0 hXpc0
  simp only [eL_law_1957, eL_law_1961, eL_law_1966, eL_law_1972, eL_law_1975, eL_law_1979, eL_law_1980, kx_l, wt_nil, nl_int, tl_s, Nat.add_zero]
  with_reducible refine gi_W hL hb ?_
  with_reducible refine And.intro ?_ ?_
  with_reducible assumption
  with_reducible refine gi_W hL hb ?_
  with_reducible refine And.intro ?_ ?_
  with_reducible assumption
  split
  with_reducible refine And.intro ?_ ?_
  with_reducible refine LW.gz hL (fun _ => trivial)
  with_reducible refine And.intro ?_ ?_
  with_reducible exact absurd (show xs (i + 2).toNatClampNeg = 0 by assumption) (by assumption)
  with_reducible refine And.intro ?_ ?_
  with_reducible exact absurd (show xs (i + 2).toNatClampNeg = 0 by assumption) (by assumption)
  with_reducible refine And.intro ?_ ?_
  with_reducible exact absurd (show xs (i + 2).toNatClampNeg = 0 by assumption) (by assumption)
  with_reducible refine fX3_seek (LW.ms hL) (fun hXqc0 hXqw hXqh => ?_) (fun hSqc0 hSqc1 hSqw hSqh => ?_) (fun hQqc0 hQqr hQqc1 hQqw hQqh => ?_)
  with_reducible exact absurd hSpc0 hXqc0
  with_reducible exact absurd (show xs (i + 2).toNatClampNeg = 0 by assumption) (by assumption)
  with_reducible exact (nsC hSpc1 hQqc1).elim
  with_reducible refine And.intro ?_ ?_
  with_reducible refine LW.gz hL (fun _ => trivial)
  with_reducible refine And.intro ?_ ?_
  omega
  with_reducible refine And.intro ?_ ?_
  omega
  with_reducible refine And.intro ?_ ?_
  omega
  with_reducible refine fX3_seek (LW.ms hL) (fun hXqc0 hXqw hXqh => ?_) (fun hSqc0 hSqc1 hSqw hSqh => ?_) (fun hQqc0 hQqr hQqc1 hQqw hQqh => ?_)
  with_reducible exact absurd hSpc0 hXqc0
  simp only [eL_law_1983, kx_l, nl_int, tl_s]
  with_reducible exact next _ _ _ _ _ _ _ _ (LW.ofM hL hSqh) (by omega) (by omega)
  with_reducible exact (nsC hSpc1 hQqc1).elim
  simp only [eL_law_1957, eL_law_1961, eL_law_1966, eL_law_1972, eL_law_1975, eL_law_1979, eL_law_1980, kx_l, wt_nil, nl_int, tl_s, Nat.add_zero]
  with_reducible refine gi_W hNph hb ?_
  with_reducible refine And.intro ?_ ?_
  with_reducible assumption
  with_reducible refine gi_W hNph hb ?_
  with_reducible refine And.intro ?_ ?_
  with_reducible assumption
  split
  with_reducible refine And.intro ?_ ?_
  with_reducible refine LW.gz hNph (fun _ => trivial)
  with_reducible refine And.intro ?_ ?_
  with_reducible exact absurd (show xs (i + 2).toNatClampNeg = 0 by assumption) (by assumption)
  with_reducible refine And.intro ?_ ?_
  with_reducible exact absurd (show xs (i + 2).toNatClampNeg = 0 by assumption) (by assumption)
  with_reducible refine And.intro ?_ ?_
  with_reducible exact absurd (show xs (i + 2).toNatClampNeg = 0 by assumption) (by assumption)
  with_reducible refine fX3_seek (LW.ms hNph) (fun hXqc0 hXqw hXqh => ?_) (fun hSqc0 hSqc1 hSqw hSqh => ?_) (fun hQqc0 hQqr hQqc1 hQqw hQqh => ?_)
  with_reducible exact absurd hNpc0 hXqc0
  with_reducible exact (nsC hSqc1 hNpc1).elim
  cases Option.some.inj (hNpc1.symm.trans hQqc1); clear hQqc1
  with_reducible exact absurd (show xs (i + 2).toNatClampNeg = 0 by assumption) (by assumption)
  with_reducible refine And.intro ?_ ?_
  with_reducible refine LW.gz hNph (fun _ => trivial)
  with_reducible refine And.intro ?_ ?_
  omega
  with_reducible refine And.intro ?_ ?_
  omega
  with_reducible refine And.intro ?_ ?_
  omega
  with_reducible refine fX3_seek (LW.ms hNph) (fun hXqc0 hXqw hXqh => ?_) (fun hSqc0 hSqc1 hSqw hSqh => ?_) (fun hQqc0 hQqr hQqc1 hQqw hQqh => ?_)
  with_reducible exact absurd hNpc0 hXqc0
  with_reducible exact (nsC hSqc1 hNpc1).elim
  cases Option.some.inj (hNpc1.symm.trans hQqc1); clear hQqc1
  simp only [eL_law_1983, kx_l, nl_int, tl_s]
  with_reducible exact next _ _ _ _ _ _ _ _ (LW.ofM hNph hQqh) (by omega) (by omega)
  simp only [eL_law_1957, eL_law_1961, eL_law_1966, eL_law_1972, eL_law_1975, eL_law_1979, eL_law_1980, kx_l, wt_nil, nl_int, tl_s, Nat.add_zero]
  with_reducible refine gi_W hFph hb ?_
  with_reducible refine And.intro ?_ ?_
  with_reducible assumption
  with_reducible refine gi_W hFph hb ?_
  with_reducible refine And.intro ?_ ?_
  with_reducible assumption
  split
  with_reducible refine And.intro ?_ ?_
  with_reducible refine LW.gz hFph (fun _ => trivial)
  with_reducible refine And.intro ?_ ?_
  with_reducible exact absurd (show xs (i + 2).toNatClampNeg = 0 by assumption) (by assumption)
  with_reducible refine And.intro ?_ ?_
  with_reducible exact absurd (show xs (i + 2).toNatClampNeg = 0 by assumption) (by assumption)
  with_reducible refine And.intro ?_ ?_
  with_reducible exact absurd (show xs (i + 2).toNatClampNeg = 0 by assumption) (by assumption)
  with_reducible refine fX3_seek (LW.ms hFph) (fun hXqc0 hXqw hXqh => ?_) (fun hSqc0 hSqc1 hSqw hSqh => ?_) (fun hQqc0 hQqr hQqc1 hQqw hQqh => ?_)
  with_reducible exact absurd hFpc1 hXqc0
  with_reducible exact (nsC hSqc1 hFpc2).elim
  cases Option.some.inj (hFpc2.symm.trans hQqc1); clear hQqc1
  with_reducible exact absurd (show xs (i + 2).toNatClampNeg = 0 by assumption) (by assumption)
  with_reducible refine And.intro ?_ ?_
  with_reducible refine LW.gz hFph (fun _ => trivial)
  with_reducible refine And.intro ?_ ?_
  omega
  with_reducible refine And.intro ?_ ?_
  omega
  with_reducible refine And.intro ?_ ?_
  omega
  with_reducible refine fX3_seek (LW.ms hFph) (fun hXqc0 hXqw hXqh => ?_) (fun hSqc0 hSqc1 hSqw hSqh => ?_) (fun hQqc0 hQqr hQqc1 hQqw hQqh => ?_)
  with_reducible exact absurd hFpc1 hXqc0
  with_reducible exact (nsC hSqc1 hFpc2).elim
  cases Option.some.inj (hFpc2.symm.trans hQqc1); clear hQqc1
  simp only [eL_law_1983, kx_l, nl_int, tl_s]
  with_reducible exact next _ _ _ _ _ _ _ _ (LW.ofM hFph hQqh) (by omega) (by omega)
  simp only [eL_law_1957, eL_law_1961, eL_law_1966, eL_law_1972, eL_law_1975, eL_law_1979, eL_law_1980, kx_l, wt_nil, nl_int, tl_s, Nat.add_zero]
  with_reducible refine gi_W hLLph hb ?_
  with_reducible refine And.intro ?_ ?_
  with_reducible assumption
  with_reducible refine gi_W hLLph hb ?_
  with_reducible refine And.intro ?_ ?_
  with_reducible assumption
  split
  with_reducible refine And.intro ?_ ?_
  with_reducible refine LW.gz hLLph (fun _ => trivial)
  with_reducible refine And.intro ?_ ?_
  with_reducible exact absurd (show xs (i + 2).toNatClampNeg = 0 by assumption) (by assumption)
  with_reducible refine And.intro ?_ ?_
  with_reducible exact absurd (show xs (i + 2).toNatClampNeg = 0 by assumption) (by assumption)
  with_reducible refine And.intro ?_ ?_
  with_reducible exact absurd (show xs (i + 2).toNatClampNeg = 0 by assumption) (by assumption)
  with_reducible refine fX3_seek (LW.ms hLLph) (fun hXqc0 hXqw hXqh => ?_) (fun hSqc0 hSqc1 hSqw hSqh => ?_) (fun hQqc0 hQqr hQqc1 hQqw hQqh => ?_)
  with_reducible exact absurd hLLpc1 hXqc0
  with_reducible exact (nsC hSqc1 hLLpc2).elim
  cases Option.some.inj (hLLpc2.symm.trans hQqc1); clear hQqc1
  with_reducible exact absurd (show xs (i + 2).toNatClampNeg = 0 by assumption) (by assumption)
  with_reducible refine And.intro ?_ ?_
  with_reducible refine LW.gz hLLph (fun _ => trivial)
  with_reducible refine And.intro ?_ ?_
  omega
  with_reducible refine And.intro ?_ ?_
  omega
  with_reducible refine And.intro ?_ ?_
  omega
  with_reducible refine fX3_seek (LW.ms hLLph) (fun hXqc0 hXqw hXqh => ?_) (fun hSqc0 hSqc1 hSqw hSqh => ?_) (fun hQqc0 hQqr hQqc1 hQqw hQqh => ?_)
  with_reducible exact absurd hLLpc1 hXqc0
  with_reducible exact (nsC hSqc1 hLLpc2).elim
  cases Option.some.inj (hLLpc2.symm.trans hQqc1); clear hQqc1
  simp only [eL_law_1983, kx_l, nl_int, tl_s]
  with_reducible exact next _ _ _ _ _ _ _ _ (LW.ofM hLLph hQqh) (by omega) (by omega)
set_option maxHeartbeats 4000000 in
theorem cL_39 (hR : RG g) (hb : g.2 b = some (.inl (1, L, .inl xs))) (hL : LW g w x nA cA lA y nM o kn kn th s s) (v1 : vp_in (i + 1) L) (v2 : vp_in (i + 2) L) (v3 : vp_in (i + 3) L) (v4 : vp_in (i + 4) L) (v5 : vp_in (i + 5) L) (hk : k + 114 ≤ 58408) (hn : n + 2834 ≤ 1451408) (next : (∀ (l5' l6' : Option Value) (w' : Hw) (k' n' : Nat) (kn' th' : Int32) (s' : AS), LW g w' x nA cA lA y nM o kn' kn' th' s' s' → k' ≤ k + 114 → n' ≤ n + 2834 → WP (ML_law g) QLaw (2246, [some (.ref b), some (.ref x), some (.ref y), some (.ref o), some (.int i), l5', l6'], [], w', k', n'))) : WP (ML_law g) QLaw (1988, [some (.ref b), some (.ref x), some (.ref y), some (.ref o), some (.int i), l5, l6], [], w, k, n) := by
  simp only [eL_law_1988, eL_law_1995, wt_nil]
  with_reducible refine gi_W hL hb ?_
  with_reducible refine And.intro ?_ ?_
  with_reducible assumption
  with_reducible refine And.intro ?_ ?_
  omega
  with_reducible refine And.intro ?_ ?_
  omega
  with_reducible refine And.intro ?_ ?_
  omega
  with_reducible refine fL_howOften hL (fun hXpc0 => ?_) (fun hSpc0 hSpc1 => ?_) (fun hQpc0 hQpr hQpc1 hQpw hQph hQpo => ?_)
  simp only [eL_law_1999, eL_law_2003, eL_law_2008, kx_l, wt_nil, nl_int, tl_s]
  with_reducible refine gi_W hL hb ?_
  with_reducible refine And.intro ?_ ?_
  with_reducible assumption
  with_reducible refine And.intro ?_ ?_
  with_reducible refine LW.gz hL (fun _ => trivial)
  with_reducible refine And.intro ?_ ?_
  omega
  with_reducible refine And.intro ?_ ?_
  omega
  with_reducible refine And.intro ?_ ?_
  omega
  with_reducible refine gX3_howOften (LW.ms hL) (fun v2 t2 w2 m2 => ?_)
  simp only [eL_law_2011, kx_l, nl_int, tl_s]
  with_reducible exact next _ _ _ _ _ _ _ _ (LW.ofM hL m2) (by omega) (by omega)
  simp only [eL_law_1999, eL_law_2003, eL_law_2008, kx_l, wt_nil, nl_int, tl_s]
  with_reducible refine gi_W hL hb ?_
  with_reducible refine And.intro ?_ ?_
  with_reducible assumption
  with_reducible refine And.intro ?_ ?_
  with_reducible refine LW.gz hL (fun _ => trivial)
  with_reducible refine And.intro ?_ ?_
  omega
  with_reducible refine And.intro ?_ ?_
  omega
  with_reducible refine And.intro ?_ ?_
  omega
  with_reducible refine gX3_howOften (LW.ms hL) (fun v2 t2 w2 m2 => ?_)
  simp only [eL_law_2011, kx_l, nl_int, tl_s]
  with_reducible exact next _ _ _ _ _ _ _ _ (LW.ofM hL m2) (by omega) (by omega)
  simp only [eL_law_1999, eL_law_2003, eL_law_2008, kx_l, wt_nil, nl_int, tl_s]
  with_reducible refine gi_W hQph hb ?_
  with_reducible refine And.intro ?_ ?_
  with_reducible assumption
  with_reducible refine And.intro ?_ ?_
  with_reducible refine LW.gz hQph (fun _ => trivial)
  with_reducible refine And.intro ?_ ?_
  omega
  with_reducible refine And.intro ?_ ?_
  omega
  with_reducible refine And.intro ?_ ?_
  omega
  with_reducible refine gX3_howOften (LW.ms hQph) (fun v2 t2 w2 m2 => ?_)
  simp only [eL_law_2011, kx_l, nl_int, tl_s]
  with_reducible exact next _ _ _ _ _ _ _ _ (LW.ofM hQph m2) (by omega) (by omega)
set_option maxHeartbeats 4000000 in
theorem cL_40 (hR : RG g) (hb : g.2 b = some (.inl (1, L, .inl xs))) (hL : LW g w x nA cA lA y nM o kn kn th s s) (v1 : vp_in (i + 1) L) (v2 : vp_in (i + 2) L) (v3 : vp_in (i + 3) L) (v4 : vp_in (i + 4) L) (v5 : vp_in (i + 5) L) (hk : k + 114 ≤ 58408) (hn : n + 2834 ≤ 1451408) (next : (∀ (l5' l6' : Option Value) (w' : Hw) (k' n' : Nat) (kn' th' : Int32) (s' : AS), LW g w' x nA cA lA y nM o kn' kn' th' s' s' → k' ≤ k + 114 → n' ≤ n + 2834 → WP (ML_law g) QLaw (2246, [some (.ref b), some (.ref x), some (.ref y), some (.ref o), some (.int i), l5', l6'], [], w', k', n'))) : WP (ML_law g) QLaw (2016, [some (.ref b), some (.ref x), some (.ref y), some (.ref o), some (.int i), l5, l6], [], w, k, n) := by
  simp only [eL_law_2016, eL_law_2023, wt_nil]
  with_reducible refine gi_W hL hb ?_
  with_reducible refine And.intro ?_ ?_
  with_reducible assumption
  with_reducible refine And.intro ?_ ?_
  omega
  with_reducible refine And.intro ?_ ?_
  omega
  with_reducible refine And.intro ?_ ?_
  omega
  with_reducible refine fL_lift hL (fun hXpc0 => ?_) (fun hSpc0 hSpc1 => ?_) (fun hNpc0 hNpr hNpc1 hNpc2 hNpw hNph hNpo => ?_) (fun hQpc0 hQpr hQpc1 hQpi hQpc2 hQpc3 hQpc4 hQpw hQph hQpo => ?_)
  simp only [eL_law_2027, eL_law_2031, eL_law_2036, kx_l, wt_nil, nl_int, tl_s, Nat.add_zero]
  with_reducible refine gi_W hL hb ?_
  with_reducible refine And.intro ?_ ?_
  with_reducible assumption
  with_reducible refine And.intro ?_ ?_
  with_reducible refine LW.gz hL (fun _ => trivial)
  with_reducible refine And.intro ?_ ?_
  omega
  with_reducible refine And.intro ?_ ?_
  omega
  with_reducible refine And.intro ?_ ?_
  omega
  with_reducible refine fX3_lift (LW.ms hL) (fun hXqc0 hXqw hXqh => ?_) (fun hSqc0 hSqc1 hSqw hSqh => ?_) (fun hNqc0 hNqr hNqc1 hNqc2 hNqw hNqh => ?_) (fun hQqc0 hQqr hQqc1 hQqi hQqc2 hQqc3 hQqc4 hQqw hQqh => ?_)
  simp only [eL_law_2039, kx_l, nl_int, tl_s]
  with_reducible exact next _ _ _ _ _ _ _ _ (LW.ofM hL hXqh) (by omega) (by omega)
  with_reducible exact absurd hSqc0 hXpc0
  with_reducible exact absurd hNqc0 hXpc0
  with_reducible exact absurd hQqc0 hXpc0
  simp only [eL_law_2027, eL_law_2031, eL_law_2036, kx_l, wt_nil, nl_int, tl_s, Nat.add_zero]
  with_reducible refine gi_W hL hb ?_
  with_reducible refine And.intro ?_ ?_
  with_reducible assumption
  with_reducible refine And.intro ?_ ?_
  with_reducible refine LW.gz hL (fun _ => trivial)
  with_reducible refine And.intro ?_ ?_
  omega
  with_reducible refine And.intro ?_ ?_
  omega
  with_reducible refine And.intro ?_ ?_
  omega
  with_reducible refine fX3_lift (LW.ms hL) (fun hXqc0 hXqw hXqh => ?_) (fun hSqc0 hSqc1 hSqw hSqh => ?_) (fun hNqc0 hNqr hNqc1 hNqc2 hNqw hNqh => ?_) (fun hQqc0 hQqr hQqc1 hQqi hQqc2 hQqc3 hQqc4 hQqw hQqh => ?_)
  with_reducible exact absurd hSpc0 hXqc0
  simp only [eL_law_2039, kx_l, nl_int, tl_s]
  with_reducible exact next _ _ _ _ _ _ _ _ (LW.ofM hL hSqh) (by omega) (by omega)
  with_reducible exact (nsC hSpc1 hNqc1).elim
  with_reducible exact (nsC hSpc1 hQqc1).elim
  simp only [eL_law_2027, eL_law_2031, eL_law_2036, kx_l, wt_nil, nl_int, tl_s, Nat.add_zero]
  with_reducible refine gi_W hNph hb ?_
  with_reducible refine And.intro ?_ ?_
  with_reducible assumption
  with_reducible refine And.intro ?_ ?_
  with_reducible refine LW.gz hNph (fun _ => trivial)
  with_reducible refine And.intro ?_ ?_
  omega
  with_reducible refine And.intro ?_ ?_
  omega
  with_reducible refine And.intro ?_ ?_
  omega
  with_reducible refine fX3_lift (LW.ms hNph) (fun hXqc0 hXqw hXqh => ?_) (fun hSqc0 hSqc1 hSqw hSqh => ?_) (fun hNqc0 hNqr hNqc1 hNqc2 hNqw hNqh => ?_) (fun hQqc0 hQqr hQqc1 hQqi hQqc2 hQqc3 hQqc4 hQqw hQqh => ?_)
  with_reducible exact absurd hNpc0 hXqc0
  with_reducible exact (nsC hSqc1 hNpc1).elim
  cases Option.some.inj (hNpc1.symm.trans hNqc1); clear hNqc1
  simp only [eL_law_2039, kx_l, nl_int, tl_s]
  with_reducible exact next _ _ _ _ _ _ _ _ (LW.ofM hNph hNqh) (by omega) (by omega)
  cases Option.some.inj (hNpc1.symm.trans hQqc1); clear hQqc1
  with_reducible exact absurd hQqc3 (hNpc2 _ hQqc2)
  simp only [eL_law_2027, eL_law_2031, eL_law_2036, kx_l, wt_nil, nl_int, tl_s, Nat.add_zero]
  with_reducible refine gi_W hQph hb ?_
  with_reducible refine And.intro ?_ ?_
  with_reducible assumption
  with_reducible refine And.intro ?_ ?_
  with_reducible refine LW.gz hQph (fun _ => trivial)
  with_reducible refine And.intro ?_ ?_
  omega
  with_reducible refine And.intro ?_ ?_
  omega
  with_reducible refine And.intro ?_ ?_
  omega
  with_reducible refine fX3_lift (LW.ms hQph) (fun hXqc0 hXqw hXqh => ?_) (fun hSqc0 hSqc1 hSqw hSqh => ?_) (fun hNqc0 hNqr hNqc1 hNqc2 hNqw hNqh => ?_) (fun hQqc0 hQqr hQqc1 hQqi hQqc2 hQqc3 hQqc4 hQqw hQqh => ?_)
  with_reducible exact absurd hQpc0 hXqc0
  with_reducible exact (nsC hSqc1 hQpc1).elim
  cases Option.some.inj (hQpc1.symm.trans hNqc1); clear hNqc1
  with_reducible exact absurd hQpc3 (hNqc2 _ hQpc2)
  cases Option.some.inj (hQpc1.symm.trans hQqc1); clear hQqc1
  cases fstU hQpc3 hQpc4 hQqc3 hQqc4; clear hQqc2 hQqc3 hQqc4
  simp only [eL_law_2039, kx_l, nl_int, tl_s]
  with_reducible exact next _ _ _ _ _ _ _ _ (LW.ofM hQph hQqh) (by omega) (by omega)
set_option maxHeartbeats 4000000 in
theorem cL_41 (hR : RG g) (hb : g.2 b = some (.inl (1, L, .inl xs))) (hL : LW g w x nA cA lA y nM o kn kn th s s) (v1 : vp_in (i + 1) L) (v2 : vp_in (i + 2) L) (v3 : vp_in (i + 3) L) (v4 : vp_in (i + 4) L) (v5 : vp_in (i + 5) L) (hk : k + 114 ≤ 58408) (hn : n + 2834 ≤ 1451408) (next : (∀ (l5' l6' : Option Value) (w' : Hw) (k' n' : Nat) (kn' th' : Int32) (s' : AS), LW g w' x nA cA lA y nM o kn' kn' th' s' s' → k' ≤ k + 114 → n' ≤ n + 2834 → WP (ML_law g) QLaw (2246, [some (.ref b), some (.ref x), some (.ref y), some (.ref o), some (.int i), l5', l6'], [], w', k', n'))) : WP (ML_law g) QLaw (2044, [some (.ref b), some (.ref x), some (.ref y), some (.ref o), some (.int i), l5, l6], [], w, k, n) := by
  repeat' first
    | with_reducible assumption
    | with_reducible refine And.intro ?_ ?_
    | with_reducible refine gi_W hL hb ?_
    | with_reducible refine LW.gx hL (fun _ => trivial)
    | cases Option.some.inj (hSpc2.symm.trans hSqc2); clear hSqc2
    | with_reducible exact absurd (And.intro hNqc0 hNqc1) hXpc0
    | with_reducible exact absurd (And.intro hSqc0 hSqc1) hXpc0
    | with_reducible exact absurd (And.intro hNpc0 hNpc1) hXqc0
    | with_reducible exact (nsC hNpc2 hSqc2).elim
    | with_reducible exact absurd (And.intro hSpc0 hSpc1) hXqc0
    | with_reducible exact (nsC hNqc2 hSpc2).elim
    | with_reducible refine fL_pick hL (fun hXpc0 => ?_) (fun hNpc0 hNpc1 hNpc2 hNpw hNph hNpo => ?_) (fun hSpc0 hSpc1 hSpr hSpc2 hSpw hSph hSpo => ?_)
    | with_reducible refine fX3_pick (LW.ms hL) (fun hXqc0 hXqw hXqh => ?_) (fun hNqc0 hNqc1 hNqc2 hNqw hNqh => ?_) (fun hSqc0 hSqc1 hSqr hSqc2 hSqw hSqh => ?_)
    | with_reducible refine fX3_pick (LW.ms hNph) (fun hXqc0 hXqw hXqh => ?_) (fun hNqc0 hNqc1 hNqc2 hNqw hNqh => ?_) (fun hSqc0 hSqc1 hSqr hSqc2 hSqw hSqh => ?_)
    | with_reducible refine fX3_pick (LW.ms hSph) (fun hXqc0 hXqw hXqh => ?_) (fun hNqc0 hNqc1 hNqc2 hNqw hNqh => ?_) (fun hSqc0 hSqc1 hSqr hSqc2 hSqw hSqh => ?_)
    | with_reducible refine LW.gz hL (fun _ => trivial)
    | with_reducible refine gi_W hL hb ?_
    | with_reducible refine LW.gz hNph (fun _ => trivial)
    | with_reducible refine gi_W hNph hb ?_
    | with_reducible refine LW.gz hSph (fun _ => trivial)
    | with_reducible refine gi_W hSph hb ?_
    | with_reducible exact next _ _ _ _ _ _ _ _ (LW.ofM hL hXqh) (by omega) (by omega)
    | with_reducible exact next _ _ _ _ _ _ _ _ (LW.ofM hL hNqh) (by omega) (by omega)
    | with_reducible exact next _ _ _ _ _ _ _ _ (LW.ofM hL hSqh) (by omega) (by omega)
    | with_reducible exact next _ _ _ _ _ _ _ _ (LW.ofM hNph hXqh) (by omega) (by omega)
    | with_reducible exact next _ _ _ _ _ _ _ _ (LW.ofM hNph hNqh) (by omega) (by omega)
    | with_reducible exact next _ _ _ _ _ _ _ _ (LW.ofM hNph hSqh) (by omega) (by omega)
    | with_reducible exact next _ _ _ _ _ _ _ _ (LW.ofM hSph hXqh) (by omega) (by omega)
    | with_reducible exact next _ _ _ _ _ _ _ _ (LW.ofM hSph hNqh) (by omega) (by omega)
    | with_reducible exact next _ _ _ _ _ _ _ _ (LW.ofM hSph hSqh) (by omega) (by omega)
    | with_reducible refine LW.gz (LW.ofM hL hXqh) (fun _ => trivial)
    | with_reducible refine fX3_thrown (LW.ms (LW.ofM hL hXqh)) ?_
    | with_reducible refine LW.gz (LW.ofM hL hNqh) (fun _ => trivial)
    | with_reducible refine fX3_thrown (LW.ms (LW.ofM hL hNqh)) ?_
    | with_reducible refine LW.gz (LW.ofM hL hSqh) (fun _ => trivial)
    | with_reducible refine fX3_thrown (LW.ms (LW.ofM hL hSqh)) ?_
    | with_reducible refine LW.gz (LW.ofM hNph hXqh) (fun _ => trivial)
    | with_reducible refine fX3_thrown (LW.ms (LW.ofM hNph hXqh)) ?_
    | with_reducible refine go_ON (outN.mv hNpo hNph hXqh) (fun _ => ?_)
    | with_reducible refine LW.gz (LW.ofM hNph hNqh) (fun _ => trivial)
    | with_reducible refine fX3_thrown (LW.ms (LW.ofM hNph hNqh)) ?_
    | with_reducible refine go_ON (outN.mv hNpo hNph hNqh) (fun _ => ?_)
    | with_reducible refine LW.gz (LW.ofM hNph hSqh) (fun _ => trivial)
    | with_reducible refine fX3_thrown (LW.ms (LW.ofM hNph hSqh)) ?_
    | with_reducible refine go_ON (outN.mv hNpo hNph hSqh) (fun _ => ?_)
    | with_reducible refine LW.gz (LW.ofM hSph hXqh) (fun _ => trivial)
    | with_reducible refine fX3_thrown (LW.ms (LW.ofM hSph hXqh)) ?_
    | with_reducible refine go_ON (outN.mv hSpo hSph hXqh) (fun _ => ?_)
    | with_reducible refine LW.gz (LW.ofM hSph hNqh) (fun _ => trivial)
    | with_reducible refine fX3_thrown (LW.ms (LW.ofM hSph hNqh)) ?_
    | with_reducible refine go_ON (outN.mv hSpo hSph hNqh) (fun _ => ?_)
    | with_reducible refine LW.gz (LW.ofM hSph hSqh) (fun _ => trivial)
    | with_reducible refine fX3_thrown (LW.ms (LW.ofM hSph hSqh)) ?_
    | with_reducible refine go_ON (outN.mv hSpo hSph hSqh) (fun _ => ?_)
    | with_reducible exact absurd (show xs (i + 1).toNatClampNeg = 0 by assumption) (by assumption)
    | with_reducible exact absurd (show xs (i + 2).toNatClampNeg = 0 by assumption) (by assumption)
    | with_reducible exact absurd (show xs (i + 3).toNatClampNeg = 0 by assumption) (by assumption)
    | with_reducible exact absurd (show xs (i + 4).toNatClampNeg = 0 by assumption) (by assumption)
    | with_reducible exact absurd (show xs (i + 5).toNatClampNeg = 0 by assumption) (by assumption)
    | simp only [eL_law_2044, eL_law_2044N, eL_law_2045, eL_law_2045N, eL_law_2046, eL_law_2051, eL_law_2051N, eL_law_2052, eL_law_2057, eL_law_2057N, eL_law_2058RR, eL_law_2058NR, eL_law_2058RN, eL_law_2058NN, eL_law_2061, eL_law_2063, eL_law_2063N, eL_law_2064, eL_law_2064N, eL_law_2065, eL_law_2070, eL_law_2070N, eL_law_2071, eL_law_2076, eL_law_2079, eL_law_2081, eL_law_2081N, eL_law_2082, eL_law_2085, eL_law_2090, eL_law_2092, eL_law_2097, eL_law_2097N, eL_law_2098, eL_law_2101, eL_law_2108, eL_law_2110, ite_le, n45, n54, true_or, or_true, false_or, or_false, false_and, and_false, kx_l, kx_r, go_s, gl_s, gi_s, gb_s2, gb_s3, gq_s, wt_nil, wt_int, wt_long, wt_ref, wt_null, nl_int, nl_long, nl_ref, nl_null, nl_none, rf_n, rf_s, rf_st, tl_s, tl_n, g0, gS, ex1, nb_b, nb_0, nb_1, nf_i, nf_l, nf_ra, nf_ro, nf_na, nf_no, nf_b0, nf_z0, t45_4, t45_5, true_and, and_true, List.set_cons_zero, List.set_cons_succ, List.length_cons, List.length_nil, rd_s, upw_s, ne_eq, not_false_eq_true, Nat.zero_add, Nat.add_zero, if_true, if_false, eq_self, lgz, n12z, n2z, n3z, i00, not_true]
    | split
    | with_reducible intro _
    | omega
set_option maxHeartbeats 4000000 in
theorem cL_42 (hR : RG g) (hb : g.2 b = some (.inl (1, L, .inl xs))) (hL : LW g w x nA cA lA y nM o kn kn th s s) (v1 : vp_in (i + 1) L) (v2 : vp_in (i + 2) L) (v3 : vp_in (i + 3) L) (v4 : vp_in (i + 4) L) (v5 : vp_in (i + 5) L) (hk : k + 114 ≤ 58408) (hn : n + 2834 ≤ 1451408) (next : (∀ (l5' l6' : Option Value) (w' : Hw) (k' n' : Nat) (kn' th' : Int32) (s' : AS), LW g w' x nA cA lA y nM o kn' kn' th' s' s' → k' ≤ k + 114 → n' ≤ n + 2834 → WP (ML_law g) QLaw (2246, [some (.ref b), some (.ref x), some (.ref y), some (.ref o), some (.int i), l5', l6'], [], w', k', n'))) : WP (ML_law g) QLaw (2113, [some (.ref b), some (.ref x), some (.ref y), some (.ref o), some (.int i), l5, l6], [], w, k, n) := by
  simp only [eL_law_2113, wt_nil, Nat.add_zero]
  with_reducible refine And.intro ?_ ?_
  with_reducible refine LW.gx hL (fun _ => trivial)
  with_reducible refine And.intro ?_ ?_
  omega
  with_reducible refine And.intro ?_ ?_
  omega
  with_reducible refine And.intro ?_ ?_
  omega
  with_reducible refine fX1_turn hL.cs (fun w1 c1 => ?_)
  simp only [eL_law_2117, kx_l, wt_nil, tl_s]
  with_reducible refine And.intro ?_ ?_
  with_reducible refine LW.gz (hL.of c1 hL.ok.tur) (fun _ => trivial)
  with_reducible refine And.intro ?_ ?_
  omega
  with_reducible refine And.intro ?_ ?_
  omega
  with_reducible refine And.intro ?_ ?_
  omega
  with_reducible refine fX3_turn (LW.ms (hL.of c1 hL.ok.tur)) (hR.eg (LW.ro (hL.of c1 hL.ok.tur))) hR.sg (fun hQqw hQqh => ?_)
  simp only [eL_law_2122, kx_l, tl_s]
  with_reducible exact next _ _ _ _ _ _ _ _ (LW.ofM (hL.of c1 hL.ok.tur) hQqh) (by omega) (by omega)
set_option maxHeartbeats 4000000 in
theorem cL_43 (hR : RG g) (hb : g.2 b = some (.inl (1, L, .inl xs))) (hL : LW g w x nA cA lA y nM o kn kn th s s) (v1 : vp_in (i + 1) L) (v2 : vp_in (i + 2) L) (v3 : vp_in (i + 3) L) (v4 : vp_in (i + 4) L) (v5 : vp_in (i + 5) L) (hk : k + 114 ≤ 58408) (hn : n + 2834 ≤ 1451408) (next : (∀ (l5' l6' : Option Value) (w' : Hw) (k' n' : Nat) (kn' th' : Int32) (s' : AS), LW g w' x nA cA lA y nM o kn' kn' th' s' s' → k' ≤ k + 114 → n' ≤ n + 2834 → WP (ML_law g) QLaw (2246, [some (.ref b), some (.ref x), some (.ref y), some (.ref o), some (.int i), l5', l6'], [], w', k', n'))) : WP (ML_law g) QLaw (2126, [some (.ref b), some (.ref x), some (.ref y), some (.ref o), some (.int i), l5, l6], [], w, k, n) := by
  simp only [eL_law_2126, wt_nil, Nat.add_zero]
  with_reducible refine And.intro ?_ ?_
  with_reducible refine LW.gx hL (fun _ => trivial)
  with_reducible refine And.intro ?_ ?_
  omega
  with_reducible refine And.intro ?_ ?_
  omega
  with_reducible refine And.intro ?_ ?_
  omega
  with_reducible refine fX1_sweep hL.cs (fun w1 c1 => ?_)
  simp only [eL_law_2130, kx_l, wt_nil, tl_s]
  with_reducible refine And.intro ?_ ?_
  with_reducible refine LW.gz (hL.of (c1 s.2.2.2.1) hL.ok.zero) (fun _ => trivial)
  with_reducible refine And.intro ?_ ?_
  omega
  with_reducible refine And.intro ?_ ?_
  omega
  with_reducible refine And.intro ?_ ?_
  omega
  with_reducible refine fX3_sweep (LW.ms (hL.of (c1 s.2.2.2.1) hL.ok.zero)) (hR.eg (LW.ro (hL.of (c1 s.2.2.2.1) hL.ok.zero))) hR.sg (fun hQqw hQqh => ?_)
  simp only [eL_law_2135, kx_l, tl_s]
  with_reducible exact next _ _ _ _ _ _ _ _ (LW.ofM (hL.of (c1 s.2.2.2.1) hL.ok.zero) (hQqh s.2.2.2.1)) (by omega) (by omega)
set_option maxHeartbeats 4000000 in
theorem cL_44 (hR : RG g) (hb : g.2 b = some (.inl (1, L, .inl xs))) (hL : LW g w x nA cA lA y nM o kn kn th s s) (v1 : vp_in (i + 1) L) (v2 : vp_in (i + 2) L) (v3 : vp_in (i + 3) L) (v4 : vp_in (i + 4) L) (v5 : vp_in (i + 5) L) (hk : k + 114 ≤ 58408) (hn : n + 2834 ≤ 1451408) (next : (∀ (l5' l6' : Option Value) (w' : Hw) (k' n' : Nat) (kn' th' : Int32) (s' : AS), LW g w' x nA cA lA y nM o kn' kn' th' s' s' → k' ≤ k + 114 → n' ≤ n + 2834 → WP (ML_law g) QLaw (2246, [some (.ref b), some (.ref x), some (.ref y), some (.ref o), some (.int i), l5', l6'], [], w', k', n'))) : WP (ML_law g) QLaw (2139, [some (.ref b), some (.ref x), some (.ref y), some (.ref o), some (.int i), l5, l6], [], w, k, n) := by
  simp only [eL_law_2139, eL_law_2146, eL_law_2152, wt_nil]
  with_reducible refine gi_W hL hb ?_
  with_reducible refine And.intro ?_ ?_
  with_reducible assumption
  with_reducible refine gi_W hL hb ?_
  with_reducible refine And.intro ?_ ?_
  with_reducible assumption
  with_reducible refine And.intro ?_ ?_
  omega
  with_reducible refine And.intro ?_ ?_
  omega
  with_reducible refine And.intro ?_ ?_
  omega
  with_reducible refine gL_pile hR hL (fun v1 w1 h1 => ?_)
  simp only [eL_law_2156, eL_law_2160, eL_law_2165, eL_law_2171, kx_l, wt_nil, nl_int, tl_s]
  with_reducible refine gi_W h1 hb ?_
  with_reducible refine And.intro ?_ ?_
  with_reducible assumption
  with_reducible refine gi_W h1 hb ?_
  with_reducible refine And.intro ?_ ?_
  with_reducible assumption
  with_reducible refine And.intro ?_ ?_
  with_reducible refine LW.gz h1 (fun _ => trivial)
  with_reducible refine And.intro ?_ ?_
  omega
  with_reducible refine And.intro ?_ ?_
  omega
  with_reducible refine And.intro ?_ ?_
  omega
  with_reducible refine gX3_pile (LW.ms h1) (fun v2 t2 w2 m2 => ?_)
  simp only [eL_law_2174, kx_l, nl_int, tl_s]
  with_reducible exact next _ _ _ _ _ _ _ _ (LW.ofM h1 m2) (by omega) (by omega)
set_option maxHeartbeats 4000000 in
theorem cL_45 (hR : RG g) (hb : g.2 b = some (.inl (1, L, .inl xs))) (hL : LW g w x nA cA lA y nM o kn kn th s s) (v1 : vp_in (i + 1) L) (v2 : vp_in (i + 2) L) (v3 : vp_in (i + 3) L) (v4 : vp_in (i + 4) L) (v5 : vp_in (i + 5) L) (hk : k + 114 ≤ 58408) (hn : n + 2834 ≤ 1451408) (next : (∀ (l5' l6' : Option Value) (w' : Hw) (k' n' : Nat) (kn' th' : Int32) (s' : AS), LW g w' x nA cA lA y nM o kn' kn' th' s' s' → k' ≤ k + 114 → n' ≤ n + 2834 → WP (ML_law g) QLaw (2246, [some (.ref b), some (.ref x), some (.ref y), some (.ref o), some (.int i), l5', l6'], [], w', k', n'))) : WP (ML_law g) QLaw (2179, [some (.ref b), some (.ref x), some (.ref y), some (.ref o), some (.int i), l5, l6], [], w, k, n) := by
  repeat' first
    | with_reducible assumption
    | with_reducible refine And.intro ?_ ?_
    | with_reducible refine gi_W hL hb ?_
    | with_reducible refine LW.gx hL (fun _ => trivial)
    | with_reducible refine gL_house hR hL (fun v1 w1 h1 => ?_)
    | with_reducible refine gX3_house (LW.ms h1) (fun v2 t2 w2 m2 => ?_)
    | with_reducible refine LW.gz h1 (fun _ => trivial)
    | with_reducible refine gi_W h1 hb ?_
    | with_reducible exact next _ _ _ _ _ _ _ _ (LW.ofM h1 m2) (by omega) (by omega)
    | with_reducible exact absurd (show xs (i + 1).toNatClampNeg = 0 by assumption) (by assumption)
    | with_reducible exact absurd (show xs (i + 2).toNatClampNeg = 0 by assumption) (by assumption)
    | with_reducible exact absurd (show xs (i + 3).toNatClampNeg = 0 by assumption) (by assumption)
    | with_reducible exact absurd (show xs (i + 4).toNatClampNeg = 0 by assumption) (by assumption)
    | with_reducible exact absurd (show xs (i + 5).toNatClampNeg = 0 by assumption) (by assumption)
    | simp only [eL_law_2179, eL_law_2179N, eL_law_2180, eL_law_2180N, eL_law_2181, eL_law_2186, eL_law_2186N, eL_law_2187RR, eL_law_2187NR, eL_law_2187RN, eL_law_2187NN, eL_law_2190, eL_law_2192, eL_law_2192N, eL_law_2193, eL_law_2193N, eL_law_2194, eL_law_2199, eL_law_2202, ite_le, n45, n54, true_or, or_true, false_or, or_false, false_and, and_false, kx_l, kx_r, go_s, gl_s, gi_s, gb_s2, gb_s3, gq_s, wt_nil, wt_int, wt_long, wt_ref, wt_null, nl_int, nl_long, nl_ref, nl_null, nl_none, rf_n, rf_s, rf_st, tl_s, tl_n, g0, gS, ex1, nb_b, nb_0, nb_1, nf_i, nf_l, nf_ra, nf_ro, nf_na, nf_no, nf_b0, nf_z0, t45_4, t45_5, true_and, and_true, List.set_cons_zero, List.set_cons_succ, List.length_cons, List.length_nil, rd_s, upw_s, ne_eq, not_false_eq_true, Nat.zero_add, Nat.add_zero, if_true, if_false, eq_self, lgz, n12z, n2z, n3z, i00, not_true]
    | split
    | with_reducible intro _
    | omega
set_option maxHeartbeats 4000000 in
theorem cL_46 (hR : RG g) (hb : g.2 b = some (.inl (1, L, .inl xs))) (hL : LW g w x nA cA lA y nM o kn kn th s s) (v1 : vp_in (i + 1) L) (v2 : vp_in (i + 2) L) (v3 : vp_in (i + 3) L) (v4 : vp_in (i + 4) L) (v5 : vp_in (i + 5) L) (hk : k + 114 ≤ 58408) (hn : n + 2834 ≤ 1451408) (next : (∀ (l5' l6' : Option Value) (w' : Hw) (k' n' : Nat) (kn' th' : Int32) (s' : AS), LW g w' x nA cA lA y nM o kn' kn' th' s' s' → k' ≤ k + 114 → n' ≤ n + 2834 → WP (ML_law g) QLaw (2246, [some (.ref b), some (.ref x), some (.ref y), some (.ref o), some (.int i), l5', l6'], [], w', k', n'))) : WP (ML_law g) QLaw (2207, [some (.ref b), some (.ref x), some (.ref y), some (.ref o), some (.int i), l5, l6], [], w, k, n) := by
  simp only [eL_law_2207, wt_nil, Nat.add_zero]
  with_reducible refine And.intro ?_ ?_
  with_reducible refine LW.gx hL (fun _ => trivial)
  with_reducible refine And.intro ?_ ?_
  omega
  with_reducible refine And.intro ?_ ?_
  omega
  with_reducible refine And.intro ?_ ?_
  omega
  with_reducible refine fX1_knock hL.cs (fun w1 c1 => ?_)
  simp only [eL_law_2211, kx_l, wt_nil, tl_s, Nat.add_zero]
  with_reducible refine And.intro ?_ ?_
  with_reducible refine LW.gz (hL.of c1 hL.ok) (fun _ => trivial)
  with_reducible refine And.intro ?_ ?_
  omega
  with_reducible refine And.intro ?_ ?_
  omega
  with_reducible refine And.intro ?_ ?_
  omega
  with_reducible refine fX3_knock (LW.ms (hL.of c1 hL.ok)) (fun hQqw hQqh => ?_)
  simp only [eL_law_2216, kx_l, tl_s]
  with_reducible exact next _ _ _ _ _ _ _ _ (LW.ofM (hL.of c1 hL.ok) hQqh) (by omega) (by omega)
set_option maxHeartbeats 4000000 in
theorem cL_47 (hR : RG g) (hb : g.2 b = some (.inl (1, L, .inl xs))) (hL : LW g w x nA cA lA y nM o kn kn th s s) (v1 : vp_in (i + 1) L) (v2 : vp_in (i + 2) L) (v3 : vp_in (i + 3) L) (v4 : vp_in (i + 4) L) (v5 : vp_in (i + 5) L) (hk : k + 114 ≤ 58408) (hn : n + 2834 ≤ 1451408) (next : (∀ (l5' l6' : Option Value) (w' : Hw) (k' n' : Nat) (kn' th' : Int32) (s' : AS), LW g w' x nA cA lA y nM o kn' kn' th' s' s' → k' ≤ k + 114 → n' ≤ n + 2834 → WP (ML_law g) QLaw (2246, [some (.ref b), some (.ref x), some (.ref y), some (.ref o), some (.int i), l5', l6'], [], w', k', n'))) : WP (ML_law g) QLaw (2220, [some (.ref b), some (.ref x), some (.ref y), some (.ref o), some (.int i), l5, l6], [], w, k, n) := by
  simp only [eL_law_2220, wt_nil]
  with_reducible refine And.intro ?_ ?_
  with_reducible refine LW.gx hL (fun _ => trivial)
  with_reducible refine And.intro ?_ ?_
  omega
  with_reducible refine And.intro ?_ ?_
  omega
  with_reducible refine And.intro ?_ ?_
  omega
  with_reducible refine sX1_isSound hL.cc (fun v1 w1 k1 => ?_)
  simp only [eL_law_2224, kx_l, wt_nil, tl_s, Nat.add_zero]
  with_reducible refine And.intro ?_ ?_
  with_reducible refine LW.gz (hL.ext k1) (fun _ => trivial)
  with_reducible refine And.intro ?_ ?_
  omega
  with_reducible refine And.intro ?_ ?_
  omega
  with_reducible refine And.intro ?_ ?_
  omega
  with_reducible refine fX3_isSound (LW.ms (hL.ext k1)) (fun hQqw hQqh => ?_)
  simp only [eL_law_2229, kx_l, tl_s]
  with_reducible exact next _ _ _ _ _ _ _ _ (LW.ofM (hL.ext k1) hQqh) (by omega) (by omega)
end
end
/-! 79.cw4.lean.txt -/
section
section
variable {g : RO} {w : Hw} {x nA cA lA y nM o b L k n : Nat} {xs : Nat → Int32} {i kn th : Int32} {s : AS} {l5 l6 : Option Value}
set_option maxHeartbeats 4000000 in
theorem cL_48 (hR : RG g) (hb : g.2 b = some (.inl (1, L, .inl xs))) (hL : LW g w x nA cA lA y nM o kn kn th s s) (v1 : vp_in (i + 1) L) (v2 : vp_in (i + 2) L) (v3 : vp_in (i + 3) L) (v4 : vp_in (i + 4) L) (v5 : vp_in (i + 5) L) (hk : k + 114 ≤ 58408) (hn : n + 2834 ≤ 1451408) (next : (∀ (l5' l6' : Option Value) (w' : Hw) (k' n' : Nat) (kn' th' : Int32) (s' : AS), LW g w' x nA cA lA y nM o kn' kn' th' s' s' → k' ≤ k + 114 → n' ≤ n + 2834 → WP (ML_law g) QLaw (2246, [some (.ref b), some (.ref x), some (.ref y), some (.ref o), some (.int i), l5', l6'], [], w', k', n'))) : WP (ML_law g) QLaw (2233, [some (.ref b), some (.ref x), some (.ref y), some (.ref o), some (.int i), l5, l6], [], w, k, n) := by
  simp only [eL_law_2233, wt_nil]
  with_reducible refine And.intro ?_ ?_
  with_reducible refine LW.gx hL (fun _ => trivial)
  with_reducible refine And.intro ?_ ?_
  omega
  with_reducible refine And.intro ?_ ?_
  omega
  with_reducible refine And.intro ?_ ?_
  omega
  with_reducible refine sX1_digest hL.cc (fun v1 w1 k1 => ?_)
  simp only [eL_law_2237, eL_law_2238, kx_l, wt_nil, tl_s]
  with_reducible refine And.intro ?_ ?_
  with_reducible refine LW.gz (hL.ext k1) (fun _ => trivial)
  with_reducible refine And.intro ?_ ?_
  omega
  with_reducible refine And.intro ?_ ?_
  with_reducible assumption
  with_reducible refine And.intro ?_ ?_
  omega
  with_reducible refine gX3_digest (LW.ms (hL.ext k1)) (fun v2 t2 w2 m2 => ?_)
  simp only [eL_law_2242, eL_law_2243, kx_l, tl_s]
  with_reducible exact next _ _ _ _ _ _ _ _ (LW.ofM (hL.ext k1) m2) (by omega) (by omega)
end
end
/-! 79.loop.lean.txt -/
section
section
variable {g : RO} {w : Hw} {x nA cA lA y nM o b L k n : Nat} {xs : Nat → Int32} {i kn th : Int32} {s : AS} {l5 l6 : Option Value}
theorem sw63 (a : Int32) : ∃ m : Nat, m < 64 ∧ a &&& 63 = Int32.ofNat m := by
  refine ⟨(a &&& 63).toBitVec.toNat, ?_, ?_⟩
  · rw [Int32.toBitVec_and, BitVec.toNat_and]
    exact Nat.lt_of_le_of_lt Nat.and_le_right (by decide)
  · apply Int32.toBitVec_inj.mp
    show (a &&& 63).toBitVec = BitVec.ofNat 32 _
    rw [BitVec.ofNat_toNat, BitVec.setWidth_eq]
theorem bud {k k' j c K : Nat} (h : k ≤ K + c * j) (h' : k' ≤ k + c) : k' ≤ K + c * (j + 1) := by
  rw [Nat.mul_succ]
  omega
theorem ofL (h : L ≤ 3072) : (Int32.ofNat L).toInt = (L : Int) := nI_toInt (by omega)
theorem ofL6 (h : L ≤ 3072) : (Int32.ofNat L - 6).toInt = (L : Int) - 6 := by
  have e := ofL h
  have z : (6 : Int32).toInt = 6 := rfl
  rw [i32_sub (by omega) (by omega), e, z]
theorem ad6 {c : Int32} (h0 : 0 ≤ i.toInt) (h1 : i.toInt ≤ 3072) (c0 : 0 ≤ c.toInt) (c1 : c.toInt ≤ 6) : (i + c).toInt = i.toInt + c.toInt := i32_add (by omega) (by omega)
theorem vp6 {c : Int32} (hL3 : L ≤ 3072) (h0 : 0 ≤ i.toInt) (h1 : i.toInt + 6 ≤ (L : Int)) (c0 : 0 ≤ c.toInt) (c1 : c.toInt ≤ 5) : vp_in (i + c) L := by
  have e := ad6 (i := i) (c := c) h0 (by omega) c0 (by omega)
  exact vpin (by omega) (by omega)
set_option maxHeartbeats 8000000 in
theorem sw_law {a : Int32} (hR : RG g) (hb : g.2 b = some (.inl (1, L, .inl xs))) (hL : LW g w x nA cA lA y nM o kn kn th s s) (v1 : vp_in (i + 1) L) (v2 : vp_in (i + 2) L) (v3 : vp_in (i + 3) L) (v4 : vp_in (i + 4) L) (v5 : vp_in (i + 5) L) (hk : k + 114 ≤ 58408) (hn : n + 2834 ≤ 1451408) (next : (∀ (l5' l6' : Option Value) (w' : Hw) (k' n' : Nat) (kn' th' : Int32) (s' : AS), LW g w' x nA cA lA y nM o kn' kn' th' s' s' → k' ≤ k + 114 → n' ≤ n + 2834 → WP (ML_law g) QLaw (2246, [some (.ref b), some (.ref x), some (.ref y), some (.ref o), some (.int i), l5', l6'], [], w', k', n'))) : WP (ML_law g) QLaw (44, [some (.ref b), some (.ref x), some (.ref y), some (.ref o), some (.int i), l5, l6], [.int (a &&& 63)], w, k, n) := by
  obtain ⟨m, hm, e⟩ := sw63 a
  rw [e]
  clear e
  match m, hm with
  | 0, _ => exact (eL_law_44_0 (g := g) (Q := QLaw)).symm ▸ cL_0 hR hb hL v1 v2 v3 v4 v5 hk hn next
  | 1, _ => exact (eL_law_44_1 (g := g) (Q := QLaw)).symm ▸ cL_1 hR hb hL v1 v2 v3 v4 v5 hk hn next
  | 2, _ => exact (eL_law_44_2 (g := g) (Q := QLaw)).symm ▸ cL_2 hR hb hL v1 v2 v3 v4 v5 hk hn next
  | 3, _ => exact (eL_law_44_3 (g := g) (Q := QLaw)).symm ▸ cL_3 hR hb hL v1 v2 v3 v4 v5 hk hn next
  | 4, _ => exact (eL_law_44_4 (g := g) (Q := QLaw)).symm ▸ cL_4 hR hb hL v1 v2 v3 v4 v5 hk hn next
  | 5, _ => exact (eL_law_44_5 (g := g) (Q := QLaw)).symm ▸ cL_5 hR hb hL v1 v2 v3 v4 v5 hk hn next
  | 6, _ => exact (eL_law_44_6 (g := g) (Q := QLaw)).symm ▸ cL_6 hR hb hL v1 v2 v3 v4 v5 hk hn next
  | 7, _ => exact (eL_law_44_7 (g := g) (Q := QLaw)).symm ▸ cL_7 hR hb hL v1 v2 v3 v4 v5 hk hn next
  | 8, _ => exact (eL_law_44_8 (g := g) (Q := QLaw)).symm ▸ cL_8 hR hb hL v1 v2 v3 v4 v5 hk hn next
  | 9, _ => exact (eL_law_44_9 (g := g) (Q := QLaw)).symm ▸ cL_9 hR hb hL v1 v2 v3 v4 v5 hk hn next
  | 10, _ => exact (eL_law_44_10 (g := g) (Q := QLaw)).symm ▸ cL_10 hR hb hL v1 v2 v3 v4 v5 hk hn next
  | 11, _ => exact (eL_law_44_11 (g := g) (Q := QLaw)).symm ▸ cL_11 hR hb hL v1 v2 v3 v4 v5 hk hn next
  | 12, _ => exact (eL_law_44_12 (g := g) (Q := QLaw)).symm ▸ cL_12 hR hb hL v1 v2 v3 v4 v5 hk hn next
  | 13, _ => exact (eL_law_44_13 (g := g) (Q := QLaw)).symm ▸ cL_13 hR hb hL v1 v2 v3 v4 v5 hk hn next
  | 14, _ => exact (eL_law_44_14 (g := g) (Q := QLaw)).symm ▸ cL_14 hR hb hL v1 v2 v3 v4 v5 hk hn next
  | 15, _ => exact (eL_law_44_15 (g := g) (Q := QLaw)).symm ▸ cL_15 hR hb hL v1 v2 v3 v4 v5 hk hn next
  | 16, _ => exact (eL_law_44_16 (g := g) (Q := QLaw)).symm ▸ cL_16 hR hb hL v1 v2 v3 v4 v5 hk hn next
  | 17, _ => exact (eL_law_44_17 (g := g) (Q := QLaw)).symm ▸ cL_17 hR hb hL v1 v2 v3 v4 v5 hk hn next
  | 18, _ => exact (eL_law_44_18 (g := g) (Q := QLaw)).symm ▸ cL_18 hR hb hL v1 v2 v3 v4 v5 hk hn next
  | 19, _ => exact (eL_law_44_19 (g := g) (Q := QLaw)).symm ▸ cL_19 hR hb hL v1 v2 v3 v4 v5 hk hn next
  | 20, _ => exact (eL_law_44_20 (g := g) (Q := QLaw)).symm ▸ cL_20 hR hb hL v1 v2 v3 v4 v5 hk hn next
  | 21, _ => exact (eL_law_44_21 (g := g) (Q := QLaw)).symm ▸ cL_21 hR hb hL v1 v2 v3 v4 v5 hk hn next
  | 22, _ => exact (eL_law_44_22 (g := g) (Q := QLaw)).symm ▸ cL_22 hR hb hL v1 v2 v3 v4 v5 hk hn next
  | 23, _ => exact (eL_law_44_23 (g := g) (Q := QLaw)).symm ▸ cL_23 hR hb hL v1 v2 v3 v4 v5 hk hn next
  | 24, _ => exact (eL_law_44_24 (g := g) (Q := QLaw)).symm ▸ cL_24 hR hb hL v1 v2 v3 v4 v5 hk hn next
  | 25, _ => exact (eL_law_44_25 (g := g) (Q := QLaw)).symm ▸ cL_25 hR hb hL v1 v2 v3 v4 v5 hk hn next
  | 26, _ => exact (eL_law_44_26 (g := g) (Q := QLaw)).symm ▸ cL_26 hR hb hL v1 v2 v3 v4 v5 hk hn next
  | 27, _ => exact (eL_law_44_27 (g := g) (Q := QLaw)).symm ▸ cL_27 hR hb hL v1 v2 v3 v4 v5 hk hn next
  | 28, _ => exact (eL_law_44_28 (g := g) (Q := QLaw)).symm ▸ cL_28 hR hb hL v1 v2 v3 v4 v5 hk hn next
  | 29, _ => exact (eL_law_44_29 (g := g) (Q := QLaw)).symm ▸ cL_29 hR hb hL v1 v2 v3 v4 v5 hk hn next
  | 30, _ => exact (eL_law_44_30 (g := g) (Q := QLaw)).symm ▸ cL_30 hR hb hL v1 v2 v3 v4 v5 hk hn next
  | 31, _ => exact (eL_law_44_31 (g := g) (Q := QLaw)).symm ▸ cL_31 hR hb hL v1 v2 v3 v4 v5 hk hn next
  | 32, _ => exact (eL_law_44_32 (g := g) (Q := QLaw)).symm ▸ cL_32 hR hb hL v1 v2 v3 v4 v5 hk hn next
  | 33, _ => exact (eL_law_44_33 (g := g) (Q := QLaw)).symm ▸ cL_33 hR hb hL v1 v2 v3 v4 v5 hk hn next
  | 34, _ => exact (eL_law_44_34 (g := g) (Q := QLaw)).symm ▸ cL_34 hR hb hL v1 v2 v3 v4 v5 hk hn next
  | 35, _ => exact (eL_law_44_35 (g := g) (Q := QLaw)).symm ▸ cL_35 hR hb hL v1 v2 v3 v4 v5 hk hn next
  | 36, _ => exact (eL_law_44_36 (g := g) (Q := QLaw)).symm ▸ cL_36 hR hb hL v1 v2 v3 v4 v5 hk hn next
  | 37, _ => exact (eL_law_44_37 (g := g) (Q := QLaw)).symm ▸ cL_37 hR hb hL v1 v2 v3 v4 v5 hk hn next
  | 38, _ => exact (eL_law_44_38 (g := g) (Q := QLaw)).symm ▸ cL_38 hR hb hL v1 v2 v3 v4 v5 hk hn next
  | 39, _ => exact (eL_law_44_39 (g := g) (Q := QLaw)).symm ▸ cL_39 hR hb hL v1 v2 v3 v4 v5 hk hn next
  | 40, _ => exact (eL_law_44_40 (g := g) (Q := QLaw)).symm ▸ cL_40 hR hb hL v1 v2 v3 v4 v5 hk hn next
  | 41, _ => exact (eL_law_44_41 (g := g) (Q := QLaw)).symm ▸ cL_41 hR hb hL v1 v2 v3 v4 v5 hk hn next
  | 42, _ => exact (eL_law_44_42 (g := g) (Q := QLaw)).symm ▸ cL_42 hR hb hL v1 v2 v3 v4 v5 hk hn next
  | 43, _ => exact (eL_law_44_43 (g := g) (Q := QLaw)).symm ▸ cL_43 hR hb hL v1 v2 v3 v4 v5 hk hn next
  | 44, _ => exact (eL_law_44_44 (g := g) (Q := QLaw)).symm ▸ cL_44 hR hb hL v1 v2 v3 v4 v5 hk hn next
  | 45, _ => exact (eL_law_44_45 (g := g) (Q := QLaw)).symm ▸ cL_45 hR hb hL v1 v2 v3 v4 v5 hk hn next
  | 46, _ => exact (eL_law_44_46 (g := g) (Q := QLaw)).symm ▸ cL_46 hR hb hL v1 v2 v3 v4 v5 hk hn next
  | 47, _ => exact (eL_law_44_47 (g := g) (Q := QLaw)).symm ▸ cL_47 hR hb hL v1 v2 v3 v4 v5 hk hn next
  | 48, _ => exact (eL_law_44_48 (g := g) (Q := QLaw)).symm ▸ cL_48 hR hb hL v1 v2 v3 v4 v5 hk hn next
  | m + 49, h =>
    have e : (Int32.ofNat (m + 49)).toInt = ((m + 49 : Nat) : Int) := nI_toInt (by omega)
    rw [eL_law_44_d (Or.inr (by omega))]
    exact next _ _ _ _ _ _ _ _ hL (by omega) (by omega)
set_option maxHeartbeats 4000000 in
theorem law_loop (hR : RG g) (hb : g.2 b = some (.inl (1, L, .inl xs))) (hL3 : L ≤ 3072) : ∀ (d j : Nat) (i kn th : Int32) (s : AS) (w : Hw) (l5 l6 : Option Value) (k n : Nat), i.toInt = 6 * (j : Int) → L ≤ 6 * (j + d) → 6 * j ≤ 3072 → LW g w x nA cA lA y nM o kn kn th s s → k ≤ 40 + 114 * j → n ≤ 400 + 2834 * j → WP (ML_law g) QLaw (27, [some (.ref b), some (.ref x), some (.ref y), some (.ref o), some (.int i), l5, l6], [], w, k, n) := by
  intro d
  induction d with
  | zero =>
    intro j i kn th s w l5 l6 k n hi hd hj hL hk hn
    have e := ofL6 hL3
    have lt : Int32.ofNat L - 6 < i := i32_of_lt (by omega)
    simp only [eL_law_27, eL_law_29, eL_law_29N, eL_law_30]
    refine ⟨1, (L, .inl xs), hL.rb hb, by decide, ?_⟩
    simp only [eL_law_31, if_pos lt]
    simp only [eL_law_2252]
    exact ⟨rfl, by omega, by omega, rfl⟩
  | succ d ih =>
    intro j i kn th s w l5 l6 k n hi hd hj hL hk hn
    have e := ofL6 hL3
    simp only [eL_law_27, eL_law_29, eL_law_29N, eL_law_30]
    refine ⟨1, (L, .inl xs), hL.rb hb, by decide, ?_⟩
    simp only [eL_law_31]
    by_cases lt : Int32.ofNat L - 6 < i
    · rw [if_pos lt]
      simp only [eL_law_2252]
      exact ⟨rfl, by omega, by omega, rfl⟩
    · rw [if_neg lt]
      have h6 := i32_nlt lt
      have h0 : 0 ≤ i.toInt := by omega
      have hi6 : i.toInt + 6 ≤ (L : Int) := by omega
      simp only [eL_law_37, eL_law_37N, eL_law_38]
      refine gi_L hL hb ⟨vpin h0 (by omega), ?_⟩
      simp only [eL_law_41]
      refine sw_law hR hb hL (vp6 hL3 h0 hi6 (by decide) (by decide)) (vp6 hL3 h0 hi6 (by decide) (by decide)) (vp6 hL3 h0 hi6 (by decide) (by decide)) (vp6 hL3 h0 hi6 (by decide) (by decide)) (vp6 hL3 h0 hi6 (by decide) (by decide)) (by omega) (by omega) (fun l5' l6' w' k' n' kn' th' s' hL' hk' hn' => ?_)
      simp only [eL_law_2246, nl_ref, nl_int]
      have e6 := ad6 (i := i) (c := 6) h0 (by omega) (by decide) (by decide)
      have z6 : (6 : Int32).toInt = 6 := rfl
      exact ih (j + 1) (i + 6) kn' th' s' w' l5' l6' k' n' (by omega) (by omega) (by omega) hL' (bud hk hk') (bud hn hn')
end
end
