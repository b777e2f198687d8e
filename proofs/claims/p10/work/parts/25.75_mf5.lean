section
section
variable {g : RO} {Q : Ot → Hw → Prop} {w0 w : Hw} {y nM : Nat} {kd th : Int32} {s : AS}
set_option maxHeartbeats 4000000 in
theorem fX3_two {a0 a1 a2 : Int32} (hM : MS g w0 y nM kd th s w) (hX : ¬ (okC a0 ∧ okN a1 ∧ okN a2) → ∀ w', MS g w0 y nM kd 1 s w' → Q (.inl (some (.int 0))) w') (hT : okC a0 → okN a1 → okN a2 → oP (s.1 a1.toNatClampNeg) (s.1 a1.toNatClampNeg) (s.1 a2.toNatClampNeg) (s.1 a2.toNatClampNeg) → ∀ w', MS g w0 y nM kd 0 (sMk s a0.toNatClampNeg (s.1 a1.toNatClampNeg, s.1 a1.toNatClampNeg, s.1 a2.toNatClampNeg, s.1 a2.toNatClampNeg)) w' → Q (.inl (some (.int 1))) w') (hF : okC a0 → okN a1 → okN a2 → ¬ oP (s.1 a1.toNatClampNeg) (s.1 a1.toNatClampNeg) (s.1 a2.toNatClampNeg) (s.1 a2.toNatClampNeg) → ∀ w', MS g w0 y nM kd 0 (sRf s) w' → Q (.inl (some (.int (-9)))) w') : WP (MX3_two g) Q (0, [some (.ref y), some (.int a0), some (.int a1), some (.int a2)], [], w, 0, 0) := by
  simp only [eX3_two_0, wt_nil, wt_ref, Nat.add_zero]
  with_reducible refine And.intro ?_ ?_
  omega
  with_reducible refine And.intro ?_ ?_
  omega
  with_reducible refine And.intro ?_ ?_
  omega
  with_reducible refine fX3_isNoCard (fun _ => ?_) (fun _ => ?_)
  simp only [eX3_two_5, eX3_two_8, eX3_two_22, eX3_two_27, i10, if_false, kx_l, wt_nil, wt_ref, tl_s, Nat.add_zero]
  with_reducible refine And.intro ?_ ?_
  with_reducible refine go_S (by assumption) (fun _ _ hY => ?_)
  with_reducible exact trivial
  with_reducible refine And.intro ?_ ?_
  omega
  with_reducible refine And.intro ?_ ?_
  omega
  with_reducible refine And.intro ?_ ?_
  omega
  with_reducible refine fX3_start (by assumption) (by decide) (fun _ w1 h1 => ?_) (fun _ w1 h1 => ?_)
  with_reducible exact absurd (by assumption) n10'
  simp only [eX3_two_31, eX3_two_34, eX3_two_38, eX3_two_44, eX3_two_67, i10, if_false, kx_l, tl_s]
  with_reducible refine And.intro ?_ ?_
  omega
  with_reducible refine And.intro ?_ ?_
  omega
  with_reducible exact hX (fun h => absurd h.1 (by assumption)) _ (by assumption)
  simp only [eX3_two_5, eX3_two_8, eX3_two_22, eX3_two_27, if_true, kx_l, wt_nil, wt_ref, tl_s, Nat.add_zero]
  with_reducible refine And.intro ?_ ?_
  omega
  with_reducible refine And.intro ?_ ?_
  omega
  with_reducible refine And.intro ?_ ?_
  omega
  with_reducible refine fX3_isNoNumber (fun _ => ?_) (fun _ => ?_)
  simp only [eX3_two_12, eX3_two_15, eX3_two_22, eX3_two_27, i10, if_false, kx_l, wt_nil, wt_ref, tl_s, Nat.add_zero]
  with_reducible refine And.intro ?_ ?_
  with_reducible refine go_S (by assumption) (fun _ _ hY => ?_)
  with_reducible exact trivial
  with_reducible refine And.intro ?_ ?_
  omega
  with_reducible refine And.intro ?_ ?_
  omega
  with_reducible refine And.intro ?_ ?_
  omega
  with_reducible refine fX3_start (by assumption) (by decide) (fun _ w1 h1 => ?_) (fun _ w1 h1 => ?_)
  with_reducible exact absurd (by assumption) n10'
  simp only [eX3_two_31, eX3_two_34, eX3_two_38, eX3_two_44, eX3_two_67, i10, if_false, kx_l, tl_s]
  with_reducible refine And.intro ?_ ?_
  omega
  with_reducible refine And.intro ?_ ?_
  omega
  with_reducible exact hX (fun h => absurd h.2.1 (by assumption)) _ (by assumption)
  simp only [eX3_two_12, eX3_two_15, eX3_two_22, eX3_two_27, if_true, kx_l, wt_nil, wt_ref, tl_s, Nat.add_zero]
  with_reducible refine And.intro ?_ ?_
  omega
  with_reducible refine And.intro ?_ ?_
  omega
  with_reducible refine And.intro ?_ ?_
  omega
  with_reducible refine fX3_isNoNumber (fun _ => ?_) (fun _ => ?_)
  simp only [eX3_two_19, eX3_two_22, eX3_two_26, eX3_two_27, i10, if_false, kx_l, wt_nil, tl_s, Nat.add_zero]
  with_reducible refine And.intro ?_ ?_
  with_reducible refine go_S (by assumption) (fun _ _ hY => ?_)
  with_reducible exact trivial
  with_reducible refine And.intro ?_ ?_
  omega
  with_reducible refine And.intro ?_ ?_
  omega
  with_reducible refine And.intro ?_ ?_
  omega
  with_reducible refine fX3_start (by assumption) (by decide) (fun _ w1 h1 => ?_) (fun _ w1 h1 => ?_)
  with_reducible exact absurd (by assumption) n10'
  simp only [eX3_two_31, eX3_two_34, eX3_two_38, eX3_two_44, eX3_two_67, i10, if_false, kx_l, tl_s]
  with_reducible refine And.intro ?_ ?_
  omega
  with_reducible refine And.intro ?_ ?_
  omega
  with_reducible exact hX (fun h => absurd h.2.2 (by assumption)) _ (by assumption)
  simp only [eX3_two_19, eX3_two_22, eX3_two_26, eX3_two_27, if_true, kx_l, wt_nil, tl_s, Nat.add_zero]
  with_reducible refine And.intro ?_ ?_
  with_reducible refine go_S (by assumption) (fun _ _ hY => ?_)
  with_reducible exact trivial
  with_reducible refine And.intro ?_ ?_
  omega
  with_reducible refine And.intro ?_ ?_
  omega
  with_reducible refine And.intro ?_ ?_
  omega
  with_reducible refine fX3_start (by assumption) (by decide) (fun _ w1 h1 => ?_) (fun _ w1 h1 => ?_)
  simp only [eX3_two_31, eX3_two_34, eX3_two_38, eX3_two_44, eX3_two_67, if_true, kx_l, tl_s]
  with_reducible refine go_S (by assumption) (fun _ _ hY => ?_)
  simp only [eX3_two_45, eX3_two_46, eX3_two_50, g0, gS, ex1]
  with_reducible refine gl_S (by assumption) ?_
  with_reducible refine And.intro ?_ ?_
  with_reducible exact vpi8k (by assumption)
  with_reducible refine go_S (by assumption) (fun _ _ hY => ?_)
  simp only [eX3_two_51, eX3_two_52, eX3_two_56, g0, gS, ex1]
  with_reducible refine gl_S (by assumption) ?_
  with_reducible refine And.intro ?_ ?_
  with_reducible exact vpi8k (by assumption)
  with_reducible refine go_S (by assumption) (fun _ _ hY => ?_)
  simp only [eX3_two_57, eX3_two_58, eX3_two_62, g0, gS, ex1]
  with_reducible refine gl_S (by assumption) ?_
  with_reducible refine And.intro ?_ ?_
  with_reducible exact vpi8k (by assumption)
  with_reducible refine go_S (by assumption) (fun _ _ hY => ?_)
  simp only [eX3_two_63, eX3_two_64, wt_nil, g0, gS, ex1, Nat.zero_add]
  with_reducible refine gl_S (by assumption) ?_
  with_reducible refine And.intro ?_ ?_
  with_reducible exact vpi8k (by assumption)
  with_reducible refine And.intro ?_ ?_
  with_reducible refine go_S (by assumption) (fun _ _ hY => ?_)
  with_reducible exact trivial
  with_reducible refine And.intro ?_ ?_
  omega
  with_reducible refine And.intro ?_ ?_
  omega
  with_reducible refine And.intro ?_ ?_
  omega
  with_reducible refine fX3_make (by assumption) (by assumption) (fun hyes w3 h3 => ?_) (fun hno w3 h3 => ?_)
  simp only [eX3_two_67, kx_l, tl_s]
  with_reducible refine And.intro ?_ ?_
  omega
  with_reducible refine And.intro ?_ ?_
  omega
  with_reducible exact hT (by assumption) (by assumption) (by assumption) hyes _ h3
  simp only [eX3_two_67, kx_l, tl_s]
  with_reducible refine And.intro ?_ ?_
  omega
  with_reducible refine And.intro ?_ ?_
  omega
  with_reducible exact hF (by assumption) (by assumption) (by assumption) hno _ h3
  with_reducible exact n00x (by assumption)
set_option maxHeartbeats 4000000 in
theorem fX3_three {a0 a1 a2 a3 : Int32} (hM : MS g w0 y nM kd th s w) (hX : ¬ (okC a0 ∧ okN a1 ∧ okN a2 ∧ okN a3) → ∀ w', MS g w0 y nM kd 1 s w' → Q (.inl (some (.int 0))) w') (hT : okC a0 → okN a1 → okN a2 → okN a3 → oP (s.1 a1.toNatClampNeg) (s.1 a1.toNatClampNeg) (s.1 a2.toNatClampNeg) (s.1 a3.toNatClampNeg) → ∀ w', MS g w0 y nM kd 0 (sMk s a0.toNatClampNeg (s.1 a1.toNatClampNeg, s.1 a1.toNatClampNeg, s.1 a2.toNatClampNeg, s.1 a3.toNatClampNeg)) w' → Q (.inl (some (.int 1))) w') (hF : okC a0 → okN a1 → okN a2 → okN a3 → ¬ oP (s.1 a1.toNatClampNeg) (s.1 a1.toNatClampNeg) (s.1 a2.toNatClampNeg) (s.1 a3.toNatClampNeg) → ∀ w', MS g w0 y nM kd 0 (sRf s) w' → Q (.inl (some (.int (-9)))) w') : WP (MX3_three g) Q (0, [some (.ref y), some (.int a0), some (.int a1), some (.int a2), some (.int a3)], [], w, 0, 0) := by
  simp only [eX3_three_0, wt_nil, wt_ref, Nat.add_zero]
  with_reducible refine And.intro ?_ ?_
  omega
  with_reducible refine And.intro ?_ ?_
  omega
  with_reducible refine And.intro ?_ ?_
  omega
  with_reducible refine fX3_isNoCard (fun _ => ?_) (fun _ => ?_)
  simp only [eX3_three_5, eX3_three_8, eX3_three_30, eX3_three_35, i10, if_false, kx_l, wt_nil, wt_ref, tl_s, Nat.add_zero]
  with_reducible refine And.intro ?_ ?_
  with_reducible refine go_S (by assumption) (fun _ _ hY => ?_)
  with_reducible exact trivial
  with_reducible refine And.intro ?_ ?_
  omega
  with_reducible refine And.intro ?_ ?_
  omega
  with_reducible refine And.intro ?_ ?_
  omega
  with_reducible refine fX3_start (by assumption) (by decide) (fun _ w1 h1 => ?_) (fun _ w1 h1 => ?_)
  with_reducible exact absurd (by assumption) n10'
  simp only [eX3_three_39, eX3_three_42, eX3_three_46, eX3_three_52, eX3_three_76, i10, if_false, kx_l, tl_s]
  with_reducible refine And.intro ?_ ?_
  omega
  with_reducible refine And.intro ?_ ?_
  omega
  with_reducible exact hX (fun h => absurd h.1 (by assumption)) _ (by assumption)
  simp only [eX3_three_5, eX3_three_8, eX3_three_30, eX3_three_35, if_true, kx_l, wt_nil, wt_ref, tl_s, Nat.add_zero]
  with_reducible refine And.intro ?_ ?_
  omega
  with_reducible refine And.intro ?_ ?_
  omega
  with_reducible refine And.intro ?_ ?_
  omega
  with_reducible refine fX3_isNoNumber (fun _ => ?_) (fun _ => ?_)
  simp only [eX3_three_12, eX3_three_15, eX3_three_30, eX3_three_35, i10, if_false, kx_l, wt_nil, wt_ref, tl_s, Nat.add_zero]
  with_reducible refine And.intro ?_ ?_
  with_reducible refine go_S (by assumption) (fun _ _ hY => ?_)
  with_reducible exact trivial
  with_reducible refine And.intro ?_ ?_
  omega
  with_reducible refine And.intro ?_ ?_
  omega
  with_reducible refine And.intro ?_ ?_
  omega
  with_reducible refine fX3_start (by assumption) (by decide) (fun _ w1 h1 => ?_) (fun _ w1 h1 => ?_)
  with_reducible exact absurd (by assumption) n10'
  simp only [eX3_three_39, eX3_three_42, eX3_three_46, eX3_three_52, eX3_three_76, i10, if_false, kx_l, tl_s]
  with_reducible refine And.intro ?_ ?_
  omega
  with_reducible refine And.intro ?_ ?_
  omega
  with_reducible exact hX (fun h => absurd h.2.1 (by assumption)) _ (by assumption)
  simp only [eX3_three_12, eX3_three_15, eX3_three_30, eX3_three_35, if_true, kx_l, wt_nil, wt_ref, tl_s, Nat.add_zero]
  with_reducible refine And.intro ?_ ?_
  omega
  with_reducible refine And.intro ?_ ?_
  omega
  with_reducible refine And.intro ?_ ?_
  omega
  with_reducible refine fX3_isNoNumber (fun _ => ?_) (fun _ => ?_)
  simp only [eX3_three_19, eX3_three_22, eX3_three_30, eX3_three_35, i10, if_false, kx_l, wt_nil, wt_ref, tl_s, Nat.add_zero]
  with_reducible refine And.intro ?_ ?_
  with_reducible refine go_S (by assumption) (fun _ _ hY => ?_)
  with_reducible exact trivial
  with_reducible refine And.intro ?_ ?_
  omega
  with_reducible refine And.intro ?_ ?_
  omega
  with_reducible refine And.intro ?_ ?_
  omega
  with_reducible refine fX3_start (by assumption) (by decide) (fun _ w1 h1 => ?_) (fun _ w1 h1 => ?_)
  with_reducible exact absurd (by assumption) n10'
  simp only [eX3_three_39, eX3_three_42, eX3_three_46, eX3_three_52, eX3_three_76, i10, if_false, kx_l, tl_s]
  with_reducible refine And.intro ?_ ?_
  omega
  with_reducible refine And.intro ?_ ?_
  omega
  with_reducible exact hX (fun h => absurd h.2.2.1 (by assumption)) _ (by assumption)
  simp only [eX3_three_19, eX3_three_22, eX3_three_30, eX3_three_35, if_true, kx_l, wt_nil, wt_ref, tl_s, Nat.add_zero]
  with_reducible refine And.intro ?_ ?_
  omega
  with_reducible refine And.intro ?_ ?_
  omega
  with_reducible refine And.intro ?_ ?_
  omega
  with_reducible refine fX3_isNoNumber (fun _ => ?_) (fun _ => ?_)
  simp only [eX3_three_27, eX3_three_30, eX3_three_34, eX3_three_35, i10, if_false, kx_l, wt_nil, tl_s, Nat.add_zero]
  with_reducible refine And.intro ?_ ?_
  with_reducible refine go_S (by assumption) (fun _ _ hY => ?_)
  with_reducible exact trivial
  with_reducible refine And.intro ?_ ?_
  omega
  with_reducible refine And.intro ?_ ?_
  omega
  with_reducible refine And.intro ?_ ?_
  omega
  with_reducible refine fX3_start (by assumption) (by decide) (fun _ w1 h1 => ?_) (fun _ w1 h1 => ?_)
  with_reducible exact absurd (by assumption) n10'
  simp only [eX3_three_39, eX3_three_42, eX3_three_46, eX3_three_52, eX3_three_76, i10, if_false, kx_l, tl_s]
  with_reducible refine And.intro ?_ ?_
  omega
  with_reducible refine And.intro ?_ ?_
  omega
  with_reducible exact hX (fun h => absurd h.2.2.2 (by assumption)) _ (by assumption)
  simp only [eX3_three_27, eX3_three_30, eX3_three_34, eX3_three_35, if_true, kx_l, wt_nil, tl_s, Nat.add_zero]
  with_reducible refine And.intro ?_ ?_
  with_reducible refine go_S (by assumption) (fun _ _ hY => ?_)
  with_reducible exact trivial
  with_reducible refine And.intro ?_ ?_
  omega
  with_reducible refine And.intro ?_ ?_
  omega
  with_reducible refine And.intro ?_ ?_
  omega
  with_reducible refine fX3_start (by assumption) (by decide) (fun _ w1 h1 => ?_) (fun _ w1 h1 => ?_)
  simp only [eX3_three_39, eX3_three_42, eX3_three_46, eX3_three_52, eX3_three_76, if_true, kx_l, tl_s]
  with_reducible refine go_S (by assumption) (fun _ _ hY => ?_)
  simp only [eX3_three_53, eX3_three_54, eX3_three_58, g0, gS, ex1]
  with_reducible refine gl_S (by assumption) ?_
  with_reducible refine And.intro ?_ ?_
  with_reducible exact vpi8k (by assumption)
  with_reducible refine go_S (by assumption) (fun _ _ hY => ?_)
  simp only [eX3_three_59, eX3_three_60, eX3_three_64, g0, gS, ex1]
  with_reducible refine gl_S (by assumption) ?_
  with_reducible refine And.intro ?_ ?_
  with_reducible exact vpi8k (by assumption)
  with_reducible refine go_S (by assumption) (fun _ _ hY => ?_)
  simp only [eX3_three_65, eX3_three_66, eX3_three_70, g0, gS, ex1]
  with_reducible refine gl_S (by assumption) ?_
  with_reducible refine And.intro ?_ ?_
  with_reducible exact vpi8k (by assumption)
  with_reducible refine go_S (by assumption) (fun _ _ hY => ?_)
  simp only [eX3_three_72, eX3_three_73, wt_nil, g0, gS, ex1, Nat.zero_add]
  with_reducible refine gl_S (by assumption) ?_
  with_reducible refine And.intro ?_ ?_
  with_reducible exact vpi8k (by assumption)
  with_reducible refine And.intro ?_ ?_
  with_reducible refine go_S (by assumption) (fun _ _ hY => ?_)
  with_reducible exact trivial
  with_reducible refine And.intro ?_ ?_
  omega
  with_reducible refine And.intro ?_ ?_
  omega
  with_reducible refine And.intro ?_ ?_
  omega
  with_reducible refine fX3_make (by assumption) (by assumption) (fun hyes w3 h3 => ?_) (fun hno w3 h3 => ?_)
  simp only [eX3_three_76, kx_l, tl_s]
  with_reducible refine And.intro ?_ ?_
  omega
  with_reducible refine And.intro ?_ ?_
  omega
  with_reducible exact hT (by assumption) (by assumption) (by assumption) (by assumption) hyes _ h3
  simp only [eX3_three_76, kx_l, tl_s]
  with_reducible refine And.intro ?_ ?_
  omega
  with_reducible refine And.intro ?_ ?_
  omega
  with_reducible exact hF (by assumption) (by assumption) (by assumption) (by assumption) hno _ h3
  with_reducible exact n00x (by assumption)
set_option maxHeartbeats 4000000 in
theorem fX3_four {a0 a1 a2 a3 a4 : Int32} (hM : MS g w0 y nM kd th s w) (hX : ¬ (okC a0 ∧ okN a1 ∧ okN a2 ∧ okN a3 ∧ okN a4) → ∀ w', MS g w0 y nM kd 1 s w' → Q (.inl (some (.int 0))) w') (hT : okC a0 → okN a1 → okN a2 → okN a3 → okN a4 → oP (s.1 a1.toNatClampNeg) (s.1 a2.toNatClampNeg) (s.1 a3.toNatClampNeg) (s.1 a4.toNatClampNeg) → ∀ w', MS g w0 y nM kd 0 (sMk s a0.toNatClampNeg (s.1 a1.toNatClampNeg, s.1 a2.toNatClampNeg, s.1 a3.toNatClampNeg, s.1 a4.toNatClampNeg)) w' → Q (.inl (some (.int 1))) w') (hF : okC a0 → okN a1 → okN a2 → okN a3 → okN a4 → ¬ oP (s.1 a1.toNatClampNeg) (s.1 a2.toNatClampNeg) (s.1 a3.toNatClampNeg) (s.1 a4.toNatClampNeg) → ∀ w', MS g w0 y nM kd 0 (sRf s) w' → Q (.inl (some (.int (-9)))) w') : WP (MX3_four g) Q (0, [some (.ref y), some (.int a0), some (.int a1), some (.int a2), some (.int a3), some (.int a4)], [], w, 0, 0) := by
  simp only [eX3_four_0, wt_nil, wt_ref, Nat.add_zero]
  with_reducible refine And.intro ?_ ?_
  omega
  with_reducible refine And.intro ?_ ?_
  omega
  with_reducible refine And.intro ?_ ?_
  omega
  with_reducible refine fX3_isNoCard (fun _ => ?_) (fun _ => ?_)
  simp only [eX3_four_5, eX3_four_8, eX3_four_38, eX3_four_43, i10, if_false, kx_l, wt_nil, wt_ref, tl_s, Nat.add_zero]
  with_reducible refine And.intro ?_ ?_
  with_reducible refine go_S (by assumption) (fun _ _ hY => ?_)
  with_reducible exact trivial
  with_reducible refine And.intro ?_ ?_
  omega
  with_reducible refine And.intro ?_ ?_
  omega
  with_reducible refine And.intro ?_ ?_
  omega
  with_reducible refine fX3_start (by assumption) (by decide) (fun _ w1 h1 => ?_) (fun _ w1 h1 => ?_)
  with_reducible exact absurd (by assumption) n10'
  simp only [eX3_four_47, eX3_four_50, eX3_four_54, eX3_four_60, eX3_four_85, i10, if_false, kx_l, tl_s]
  with_reducible refine And.intro ?_ ?_
  omega
  with_reducible refine And.intro ?_ ?_
  omega
  with_reducible exact hX (fun h => absurd h.1 (by assumption)) _ (by assumption)
  simp only [eX3_four_5, eX3_four_8, eX3_four_38, eX3_four_43, if_true, kx_l, wt_nil, wt_ref, tl_s, Nat.add_zero]
  with_reducible refine And.intro ?_ ?_
  omega
  with_reducible refine And.intro ?_ ?_
  omega
  with_reducible refine And.intro ?_ ?_
  omega
  with_reducible refine fX3_isNoNumber (fun _ => ?_) (fun _ => ?_)
  simp only [eX3_four_12, eX3_four_15, eX3_four_38, eX3_four_43, i10, if_false, kx_l, wt_nil, wt_ref, tl_s, Nat.add_zero]
  with_reducible refine And.intro ?_ ?_
  with_reducible refine go_S (by assumption) (fun _ _ hY => ?_)
  with_reducible exact trivial
  with_reducible refine And.intro ?_ ?_
  omega
  with_reducible refine And.intro ?_ ?_
  omega
  with_reducible refine And.intro ?_ ?_
  omega
  with_reducible refine fX3_start (by assumption) (by decide) (fun _ w1 h1 => ?_) (fun _ w1 h1 => ?_)
  with_reducible exact absurd (by assumption) n10'
  simp only [eX3_four_47, eX3_four_50, eX3_four_54, eX3_four_60, eX3_four_85, i10, if_false, kx_l, tl_s]
  with_reducible refine And.intro ?_ ?_
  omega
  with_reducible refine And.intro ?_ ?_
  omega
  with_reducible exact hX (fun h => absurd h.2.1 (by assumption)) _ (by assumption)
  simp only [eX3_four_12, eX3_four_15, eX3_four_38, eX3_four_43, if_true, kx_l, wt_nil, wt_ref, tl_s, Nat.add_zero]
  with_reducible refine And.intro ?_ ?_
  omega
  with_reducible refine And.intro ?_ ?_
  omega
  with_reducible refine And.intro ?_ ?_
  omega
  with_reducible refine fX3_isNoNumber (fun _ => ?_) (fun _ => ?_)
  simp only [eX3_four_19, eX3_four_22, eX3_four_38, eX3_four_43, i10, if_false, kx_l, wt_nil, wt_ref, tl_s, Nat.add_zero]
  with_reducible refine And.intro ?_ ?_
  with_reducible refine go_S (by assumption) (fun _ _ hY => ?_)
  with_reducible exact trivial
  with_reducible refine And.intro ?_ ?_
  omega
  with_reducible refine And.intro ?_ ?_
  omega
  with_reducible refine And.intro ?_ ?_
  omega
  with_reducible refine fX3_start (by assumption) (by decide) (fun _ w1 h1 => ?_) (fun _ w1 h1 => ?_)
  with_reducible exact absurd (by assumption) n10'
  simp only [eX3_four_47, eX3_four_50, eX3_four_54, eX3_four_60, eX3_four_85, i10, if_false, kx_l, tl_s]
  with_reducible refine And.intro ?_ ?_
  omega
  with_reducible refine And.intro ?_ ?_
  omega
  with_reducible exact hX (fun h => absurd h.2.2.1 (by assumption)) _ (by assumption)
  simp only [eX3_four_19, eX3_four_22, eX3_four_38, eX3_four_43, if_true, kx_l, wt_nil, wt_ref, tl_s, Nat.add_zero]
  with_reducible refine And.intro ?_ ?_
  omega
  with_reducible refine And.intro ?_ ?_
  omega
  with_reducible refine And.intro ?_ ?_
  omega
  with_reducible refine fX3_isNoNumber (fun _ => ?_) (fun _ => ?_)
  simp only [eX3_four_27, eX3_four_30, eX3_four_38, eX3_four_43, i10, if_false, kx_l, wt_nil, wt_ref, tl_s, Nat.add_zero]
  with_reducible refine And.intro ?_ ?_
  with_reducible refine go_S (by assumption) (fun _ _ hY => ?_)
  with_reducible exact trivial
  with_reducible refine And.intro ?_ ?_
  omega
  with_reducible refine And.intro ?_ ?_
  omega
  with_reducible refine And.intro ?_ ?_
  omega
  with_reducible refine fX3_start (by assumption) (by decide) (fun _ w1 h1 => ?_) (fun _ w1 h1 => ?_)
  with_reducible exact absurd (by assumption) n10'
  simp only [eX3_four_47, eX3_four_50, eX3_four_54, eX3_four_60, eX3_four_85, i10, if_false, kx_l, tl_s]
  with_reducible refine And.intro ?_ ?_
  omega
  with_reducible refine And.intro ?_ ?_
  omega
  with_reducible exact hX (fun h => absurd h.2.2.2.1 (by assumption)) _ (by assumption)
  simp only [eX3_four_27, eX3_four_30, eX3_four_38, eX3_four_43, if_true, kx_l, wt_nil, wt_ref, tl_s, Nat.add_zero]
  with_reducible refine And.intro ?_ ?_
  omega
  with_reducible refine And.intro ?_ ?_
  omega
  with_reducible refine And.intro ?_ ?_
  omega
  with_reducible refine fX3_isNoNumber (fun _ => ?_) (fun _ => ?_)
  simp only [eX3_four_35, eX3_four_38, eX3_four_42, eX3_four_43, i10, if_false, kx_l, wt_nil, tl_s, Nat.add_zero]
  with_reducible refine And.intro ?_ ?_
  with_reducible refine go_S (by assumption) (fun _ _ hY => ?_)
  with_reducible exact trivial
  with_reducible refine And.intro ?_ ?_
  omega
  with_reducible refine And.intro ?_ ?_
  omega
  with_reducible refine And.intro ?_ ?_
  omega
  with_reducible refine fX3_start (by assumption) (by decide) (fun _ w1 h1 => ?_) (fun _ w1 h1 => ?_)
  with_reducible exact absurd (by assumption) n10'
  simp only [eX3_four_47, eX3_four_50, eX3_four_54, eX3_four_60, eX3_four_85, i10, if_false, kx_l, tl_s]
  with_reducible refine And.intro ?_ ?_
  omega
  with_reducible refine And.intro ?_ ?_
  omega
  with_reducible exact hX (fun h => absurd h.2.2.2.2 (by assumption)) _ (by assumption)
  simp only [eX3_four_35, eX3_four_38, eX3_four_42, eX3_four_43, if_true, kx_l, wt_nil, tl_s, Nat.add_zero]
  with_reducible refine And.intro ?_ ?_
  with_reducible refine go_S (by assumption) (fun _ _ hY => ?_)
  with_reducible exact trivial
  with_reducible refine And.intro ?_ ?_
  omega
  with_reducible refine And.intro ?_ ?_
  omega
  with_reducible refine And.intro ?_ ?_
  omega
  with_reducible refine fX3_start (by assumption) (by decide) (fun _ w1 h1 => ?_) (fun _ w1 h1 => ?_)
  simp only [eX3_four_47, eX3_four_50, eX3_four_54, eX3_four_60, eX3_four_85, if_true, kx_l, tl_s]
  with_reducible refine go_S (by assumption) (fun _ _ hY => ?_)
  simp only [eX3_four_61, eX3_four_62, eX3_four_66, g0, gS, ex1]
  with_reducible refine gl_S (by assumption) ?_
  with_reducible refine And.intro ?_ ?_
  with_reducible exact vpi8k (by assumption)
  with_reducible refine go_S (by assumption) (fun _ _ hY => ?_)
  simp only [eX3_four_67, eX3_four_68, eX3_four_72, g0, gS, ex1]
  with_reducible refine gl_S (by assumption) ?_
  with_reducible refine And.intro ?_ ?_
  with_reducible exact vpi8k (by assumption)
  with_reducible refine go_S (by assumption) (fun _ _ hY => ?_)
  simp only [eX3_four_74, eX3_four_75, eX3_four_79, g0, gS, ex1]
  with_reducible refine gl_S (by assumption) ?_
  with_reducible refine And.intro ?_ ?_
  with_reducible exact vpi8k (by assumption)
  with_reducible refine go_S (by assumption) (fun _ _ hY => ?_)
  simp only [eX3_four_81, eX3_four_82, wt_nil, g0, gS, ex1, Nat.zero_add]
  with_reducible refine gl_S (by assumption) ?_
  with_reducible refine And.intro ?_ ?_
  with_reducible exact vpi8k (by assumption)
  with_reducible refine And.intro ?_ ?_
  with_reducible refine go_S (by assumption) (fun _ _ hY => ?_)
  with_reducible exact trivial
  with_reducible refine And.intro ?_ ?_
  omega
  with_reducible refine And.intro ?_ ?_
  omega
  with_reducible refine And.intro ?_ ?_
  omega
  with_reducible refine fX3_make (by assumption) (by assumption) (fun hyes w3 h3 => ?_) (fun hno w3 h3 => ?_)
  simp only [eX3_four_85, kx_l, tl_s]
  with_reducible refine And.intro ?_ ?_
  omega
  with_reducible refine And.intro ?_ ?_
  omega
  with_reducible exact hT (by assumption) (by assumption) (by assumption) (by assumption) (by assumption) hyes _ h3
  simp only [eX3_four_85, kx_l, tl_s]
  with_reducible refine And.intro ?_ ?_
  omega
  with_reducible refine And.intro ?_ ?_
  omega
  with_reducible exact hF (by assumption) (by assumption) (by assumption) (by assumption) (by assumption) hno _ h3
  with_reducible exact n00x (by assumption)
set_option maxHeartbeats 4000000 in
theorem fX3_twoSmall {a0 a1 a2 : Int32} (hM : MS g w0 y nM kd th s w) (hX : ¬ (okC a0) → ∀ w', MS g w0 y nM kd 1 s w' → Q (.inl (some (.int 0))) w') (hT : okC a0 → oP (a1.toInt64) (a1.toInt64) (a2.toInt64) (a2.toInt64) → ∀ w', MS g w0 y nM kd 0 (sMk s a0.toNatClampNeg (a1.toInt64, a1.toInt64, a2.toInt64, a2.toInt64)) w' → Q (.inl (some (.int 1))) w') (hF : okC a0 → ¬ oP (a1.toInt64) (a1.toInt64) (a2.toInt64) (a2.toInt64) → ∀ w', MS g w0 y nM kd 0 (sRf s) w' → Q (.inl (some (.int (-9)))) w') : WP (MX3_twoSmall g) Q (0, [some (.ref y), some (.int a0), some (.int a1), some (.int a2)], [], w, 0, 0) := by
  simp only [eX3_twoSmall_0, eX3_twoSmall_5, wt_nil, wt_ref, Nat.add_zero]
  with_reducible refine And.intro ?_ ?_
  omega
  with_reducible refine And.intro ?_ ?_
  omega
  with_reducible refine And.intro ?_ ?_
  omega
  with_reducible refine fX3_isNoCard (fun _ => ?_) (fun _ => ?_)
  simp only [eX3_twoSmall_6, kx_l, wt_nil, tl_s, Nat.add_zero]
  with_reducible refine And.intro ?_ ?_
  with_reducible refine go_S (by assumption) (fun _ _ hY => ?_)
  with_reducible exact trivial
  with_reducible refine And.intro ?_ ?_
  omega
  with_reducible refine And.intro ?_ ?_
  omega
  with_reducible refine And.intro ?_ ?_
  omega
  with_reducible refine fX3_start (by assumption) (by decide) (fun _ w1 h1 => ?_) (fun _ w1 h1 => ?_)
  with_reducible exact absurd (by assumption) n10'
  simp only [eX3_twoSmall_9, eX3_twoSmall_12, eX3_twoSmall_16, eX3_twoSmall_29, i10, if_false, kx_l, wt_nil, tl_s, Nat.zero_add]
  with_reducible refine And.intro ?_ ?_
  omega
  with_reducible refine And.intro ?_ ?_
  omega
  with_reducible exact hX (fun h => absurd h (by assumption)) _ (by assumption)
  simp only [eX3_twoSmall_6, kx_l, wt_nil, tl_s, Nat.add_zero]
  with_reducible refine And.intro ?_ ?_
  with_reducible refine go_S (by assumption) (fun _ _ hY => ?_)
  with_reducible exact trivial
  with_reducible refine And.intro ?_ ?_
  omega
  with_reducible refine And.intro ?_ ?_
  omega
  with_reducible refine And.intro ?_ ?_
  omega
  with_reducible refine fX3_start (by assumption) (by decide) (fun _ w1 h1 => ?_) (fun _ w1 h1 => ?_)
  simp only [eX3_twoSmall_9, eX3_twoSmall_12, eX3_twoSmall_16, eX3_twoSmall_29, if_true, kx_l, wt_nil, tl_s, Nat.zero_add]
  with_reducible refine And.intro ?_ ?_
  with_reducible refine go_S (by assumption) (fun _ _ hY => ?_)
  with_reducible exact trivial
  with_reducible refine And.intro ?_ ?_
  omega
  with_reducible refine And.intro ?_ ?_
  omega
  with_reducible refine And.intro ?_ ?_
  omega
  with_reducible refine fX3_make (by assumption) (by assumption) (fun hyes w3 h3 => ?_) (fun hno w3 h3 => ?_)
  simp only [eX3_twoSmall_29, kx_l, tl_s]
  with_reducible refine And.intro ?_ ?_
  omega
  with_reducible refine And.intro ?_ ?_
  omega
  with_reducible exact hT (by assumption) hyes _ h3
  simp only [eX3_twoSmall_29, kx_l, tl_s]
  with_reducible refine And.intro ?_ ?_
  omega
  with_reducible refine And.intro ?_ ?_
  omega
  with_reducible exact hF (by assumption) hno _ h3
  with_reducible exact n00x (by assumption)
set_option maxHeartbeats 4000000 in
theorem fX3_threeSmall {a0 a1 a2 a3 : Int32} (hM : MS g w0 y nM kd th s w) (hX : ¬ (okC a0) → ∀ w', MS g w0 y nM kd 1 s w' → Q (.inl (some (.int 0))) w') (hT : okC a0 → oP (a1.toInt64) (a1.toInt64) (a2.toInt64) (a3.toInt64) → ∀ w', MS g w0 y nM kd 0 (sMk s a0.toNatClampNeg (a1.toInt64, a1.toInt64, a2.toInt64, a3.toInt64)) w' → Q (.inl (some (.int 1))) w') (hF : okC a0 → ¬ oP (a1.toInt64) (a1.toInt64) (a2.toInt64) (a3.toInt64) → ∀ w', MS g w0 y nM kd 0 (sRf s) w' → Q (.inl (some (.int (-9)))) w') : WP (MX3_threeSmall g) Q (0, [some (.ref y), some (.int a0), some (.int a1), some (.int a2), some (.int a3)], [], w, 0, 0) := by
  simp only [eX3_threeSmall_0, eX3_threeSmall_5, wt_nil, wt_ref, Nat.add_zero]
  with_reducible refine And.intro ?_ ?_
  omega
  with_reducible refine And.intro ?_ ?_
  omega
  with_reducible refine And.intro ?_ ?_
  omega
  with_reducible refine fX3_isNoCard (fun _ => ?_) (fun _ => ?_)
  simp only [eX3_threeSmall_6, kx_l, wt_nil, tl_s, Nat.add_zero]
  with_reducible refine And.intro ?_ ?_
  with_reducible refine go_S (by assumption) (fun _ _ hY => ?_)
  with_reducible exact trivial
  with_reducible refine And.intro ?_ ?_
  omega
  with_reducible refine And.intro ?_ ?_
  omega
  with_reducible refine And.intro ?_ ?_
  omega
  with_reducible refine fX3_start (by assumption) (by decide) (fun _ w1 h1 => ?_) (fun _ w1 h1 => ?_)
  with_reducible exact absurd (by assumption) n10'
  simp only [eX3_threeSmall_9, eX3_threeSmall_12, eX3_threeSmall_16, eX3_threeSmall_30, i10, if_false, kx_l, wt_nil, tl_s, Nat.zero_add]
  with_reducible refine And.intro ?_ ?_
  omega
  with_reducible refine And.intro ?_ ?_
  omega
  with_reducible exact hX (fun h => absurd h (by assumption)) _ (by assumption)
  simp only [eX3_threeSmall_6, kx_l, wt_nil, tl_s, Nat.add_zero]
  with_reducible refine And.intro ?_ ?_
  with_reducible refine go_S (by assumption) (fun _ _ hY => ?_)
  with_reducible exact trivial
  with_reducible refine And.intro ?_ ?_
  omega
  with_reducible refine And.intro ?_ ?_
  omega
  with_reducible refine And.intro ?_ ?_
  omega
  with_reducible refine fX3_start (by assumption) (by decide) (fun _ w1 h1 => ?_) (fun _ w1 h1 => ?_)
  simp only [eX3_threeSmall_9, eX3_threeSmall_12, eX3_threeSmall_16, eX3_threeSmall_30, if_true, kx_l, wt_nil, tl_s, Nat.zero_add]
  with_reducible refine And.intro ?_ ?_
  with_reducible refine go_S (by assumption) (fun _ _ hY => ?_)
  with_reducible exact trivial
  with_reducible refine And.intro ?_ ?_
  omega
  with_reducible refine And.intro ?_ ?_
  omega
  with_reducible refine And.intro ?_ ?_
  omega
  with_reducible refine fX3_make (by assumption) (by assumption) (fun hyes w3 h3 => ?_) (fun hno w3 h3 => ?_)
  simp only [eX3_threeSmall_30, kx_l, tl_s]
  with_reducible refine And.intro ?_ ?_
  omega
  with_reducible refine And.intro ?_ ?_
  omega
  with_reducible exact hT (by assumption) hyes _ h3
  simp only [eX3_threeSmall_30, kx_l, tl_s]
  with_reducible refine And.intro ?_ ?_
  omega
  with_reducible refine And.intro ?_ ?_
  omega
  with_reducible exact hF (by assumption) hno _ h3
  with_reducible exact n00x (by assumption)
set_option maxHeartbeats 4000000 in
theorem fX3_fourSmall {a0 a1 a2 a3 a4 : Int32} (hM : MS g w0 y nM kd th s w) (hX : ¬ (okC a0) → ∀ w', MS g w0 y nM kd 1 s w' → Q (.inl (some (.int 0))) w') (hT : okC a0 → oP (a1.toInt64) (a2.toInt64) (a3.toInt64) (a4.toInt64) → ∀ w', MS g w0 y nM kd 0 (sMk s a0.toNatClampNeg (a1.toInt64, a2.toInt64, a3.toInt64, a4.toInt64)) w' → Q (.inl (some (.int 1))) w') (hF : okC a0 → ¬ oP (a1.toInt64) (a2.toInt64) (a3.toInt64) (a4.toInt64) → ∀ w', MS g w0 y nM kd 0 (sRf s) w' → Q (.inl (some (.int (-9)))) w') : WP (MX3_fourSmall g) Q (0, [some (.ref y), some (.int a0), some (.int a1), some (.int a2), some (.int a3), some (.int a4)], [], w, 0, 0) := by
  simp only [eX3_fourSmall_0, eX3_fourSmall_5, wt_nil, wt_ref, Nat.add_zero]
  with_reducible refine And.intro ?_ ?_
  omega
  with_reducible refine And.intro ?_ ?_
  omega
  with_reducible refine And.intro ?_ ?_
  omega
  with_reducible refine fX3_isNoCard (fun _ => ?_) (fun _ => ?_)
  simp only [eX3_fourSmall_6, kx_l, wt_nil, tl_s, Nat.add_zero]
  with_reducible refine And.intro ?_ ?_
  with_reducible refine go_S (by assumption) (fun _ _ hY => ?_)
  with_reducible exact trivial
  with_reducible refine And.intro ?_ ?_
  omega
  with_reducible refine And.intro ?_ ?_
  omega
  with_reducible refine And.intro ?_ ?_
  omega
  with_reducible refine fX3_start (by assumption) (by decide) (fun _ w1 h1 => ?_) (fun _ w1 h1 => ?_)
  with_reducible exact absurd (by assumption) n10'
  simp only [eX3_fourSmall_9, eX3_fourSmall_12, eX3_fourSmall_16, eX3_fourSmall_31, i10, if_false, kx_l, wt_nil, tl_s, Nat.zero_add]
  with_reducible refine And.intro ?_ ?_
  omega
  with_reducible refine And.intro ?_ ?_
  omega
  with_reducible exact hX (fun h => absurd h (by assumption)) _ (by assumption)
  simp only [eX3_fourSmall_6, kx_l, wt_nil, tl_s, Nat.add_zero]
  with_reducible refine And.intro ?_ ?_
  with_reducible refine go_S (by assumption) (fun _ _ hY => ?_)
  with_reducible exact trivial
  with_reducible refine And.intro ?_ ?_
  omega
  with_reducible refine And.intro ?_ ?_
  omega
  with_reducible refine And.intro ?_ ?_
  omega
  with_reducible refine fX3_start (by assumption) (by decide) (fun _ w1 h1 => ?_) (fun _ w1 h1 => ?_)
  simp only [eX3_fourSmall_9, eX3_fourSmall_12, eX3_fourSmall_16, eX3_fourSmall_31, if_true, kx_l, wt_nil, tl_s, Nat.zero_add]
  with_reducible refine And.intro ?_ ?_
  with_reducible refine go_S (by assumption) (fun _ _ hY => ?_)
  with_reducible exact trivial
  with_reducible refine And.intro ?_ ?_
  omega
  with_reducible refine And.intro ?_ ?_
  omega
  with_reducible refine And.intro ?_ ?_
  omega
  with_reducible refine fX3_make (by assumption) (by assumption) (fun hyes w3 h3 => ?_) (fun hno w3 h3 => ?_)
  simp only [eX3_fourSmall_31, kx_l, tl_s]
  with_reducible refine And.intro ?_ ?_
  omega
  with_reducible refine And.intro ?_ ?_
  omega
  with_reducible exact hT (by assumption) hyes _ h3
  simp only [eX3_fourSmall_31, kx_l, tl_s]
  with_reducible refine And.intro ?_ ?_
  omega
  with_reducible refine And.intro ?_ ?_
  omega
  with_reducible exact hF (by assumption) hno _ h3
  with_reducible exact n00x (by assumption)
end
end
