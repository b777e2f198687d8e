/-! 75.mf3.lean.txt -/
section
section
variable {g : RO} {Q : Ot → Hw → Prop} {w0 w : Hw} {y nM : Nat} {kd th : Int32} {s : AS}
theorem frE {a : Int32} (h : okW a 3) : vp_updL (vp_updL (vp_updL (vp_updL (fun _ => 0) (0 : Int32).toNatClampNeg (-9223372036854775808)) (1 : Int32).toNatClampNeg 9223372036854775807) (2 : Int32).toNatClampNeg (-2147483648)) (3 : Int32).toNatClampNeg 2147483647 a.toNatClampNeg = frV a := rvE (r := (-9223372036854775808, 9223372036854775807, -2147483648, 2147483647)) h.1 h.2
set_option maxHeartbeats 4000000 in
theorem fX3_set {a0 a1 a2 : Int32} (hM : MS g w0 y nM kd th s w) (hX : ¬ (okN a0) → ∀ w', MS g w0 y nM kd 1 s w' → Q (.inl (some (.int 0))) w') (hQ : okN a0 → ∀ w', MS g w0 y nM kd 0 (sN s (vp_updL s.1 a0.toNatClampNeg (stV a1 a2))) w' → Q (.inl (some (.int (hiV (s.1 a0.toNatClampNeg))))) w') : WP (MX3_set g) Q (0, [some (.ref y), some (.int a0), some (.int a1), some (.int a2), none], [], w, 0, 0) := by
  simp only [eX3_set_0, eX3_set_5, wt_nil, wt_ref, Nat.add_zero]
  with_reducible refine And.intro ?_ ?_
  omega
  with_reducible refine And.intro ?_ ?_
  omega
  with_reducible refine And.intro ?_ ?_
  omega
  with_reducible refine fX3_isNoNumber (fun _ => ?_) (fun _ => ?_)
  simp only [eX3_set_6, kx_l, wt_nil, tl_s, Nat.add_zero]
  with_reducible refine And.intro ?_ ?_
  with_reducible refine go_S (by assumption) (fun _ _ hY => ?_)
  with_reducible exact trivial
  with_reducible refine And.intro ?_ ?_
  omega
  with_reducible refine And.intro ?_ ?_
  omega
  with_reducible refine And.intro ?_ ?_
  omega
  with_reducible refine fX3_start (by assumption) (by decide) (fun _ w1 h1 => ?_) (fun _ w1 h1 => ?_)
  with_reducible exact absurd (by assumption) n10'
  simp only [eX3_set_9, eX3_set_12, eX3_set_14, eX3_set_18, i10, if_false, kx_l, tl_s]
  with_reducible refine And.intro ?_ ?_
  omega
  with_reducible refine And.intro ?_ ?_
  omega
  with_reducible exact hX (fun h => absurd h (by assumption)) _ (by assumption)
  simp only [eX3_set_6, kx_l, wt_nil, tl_s, Nat.add_zero]
  with_reducible refine And.intro ?_ ?_
  with_reducible refine go_S (by assumption) (fun _ _ hY => ?_)
  with_reducible exact trivial
  with_reducible refine And.intro ?_ ?_
  omega
  with_reducible refine And.intro ?_ ?_
  omega
  with_reducible refine And.intro ?_ ?_
  omega
  with_reducible refine fX3_start (by assumption) (by decide) (fun _ w1 h1 => ?_) (fun _ w1 h1 => ?_)
  simp only [eX3_set_9, eX3_set_12, eX3_set_14, eX3_set_18, if_true, kx_l, tl_s]
  with_reducible refine go_S (by assumption) (fun _ _ hY => ?_)
  simp only [eX3_set_19, eX3_set_20, wt_nil, g0, gS, ex1, Nat.add_zero]
  with_reducible refine gl_S (by assumption) ?_
  with_reducible refine And.intro ?_ ?_
  with_reducible exact vpi8k (by assumption)
  with_reducible refine And.intro ?_ ?_
  omega
  with_reducible refine And.intro ?_ ?_
  omega
  with_reducible refine And.intro ?_ ?_
  omega
  with_reducible refine fX3_high ?_
  simp only [eX3_set_23, eX3_set_29, eX3_set_40, eX3_set_49, eX3_set_51, ite_le, kx_l, nl_int, tl_s]
  with_reducible refine go_S (by assumption) (fun _ _ hY => ?_)
  simp only [eX3_set_52, eX3_set_53, g0, gS, ex1]
  with_reducible refine itx (fun _ => ?_) (fun _ => ?_)
  with_reducible refine gl_Sw (by assumption) (fun hf => ?_)
  with_reducible refine And.intro ?_ ?_
  with_reducible exact vpi8k (by assumption)
  with_reducible refine And.intro ?_ ?_
  omega
  with_reducible refine And.intro ?_ ?_
  omega
  (rw [stN (by assumption)]; exact hQ (by assumption) _ (hf _))
  with_reducible refine gl_Sw (by assumption) (fun hf => ?_)
  with_reducible refine And.intro ?_ ?_
  with_reducible exact vpi8k (by assumption)
  with_reducible refine And.intro ?_ ?_
  omega
  with_reducible refine And.intro ?_ ?_
  omega
  (rw [stP (by assumption)]; exact hQ (by assumption) _ (hf _))
  with_reducible exact n00x (by assumption)
set_option maxHeartbeats 4000000 in
theorem fX3_setSmall {a0 a1 : Int32} (hM : MS g w0 y nM kd th s w) (hX : ¬ (okN a0) → ∀ w', MS g w0 y nM kd 1 s w' → Q (.inl (some (.int 0))) w') (hQ : okN a0 → ∀ w', MS g w0 y nM kd 0 (sN s (vp_updL s.1 a0.toNatClampNeg a1.toInt64)) w' → Q (.inl (some (.int (loV (s.1 a0.toNatClampNeg))))) w') : WP (MX3_setSmall g) Q (0, [some (.ref y), some (.int a0), some (.int a1), none], [], w, 0, 0) := by
  simp only [eX3_setSmall_0, eX3_setSmall_5, wt_nil, wt_ref, Nat.add_zero]
  with_reducible refine And.intro ?_ ?_
  omega
  with_reducible refine And.intro ?_ ?_
  omega
  with_reducible refine And.intro ?_ ?_
  omega
  with_reducible refine fX3_isNoNumber (fun _ => ?_) (fun _ => ?_)
  simp only [eX3_setSmall_6, kx_l, wt_nil, tl_s, Nat.add_zero]
  with_reducible refine And.intro ?_ ?_
  with_reducible refine go_S (by assumption) (fun _ _ hY => ?_)
  with_reducible exact trivial
  with_reducible refine And.intro ?_ ?_
  omega
  with_reducible refine And.intro ?_ ?_
  omega
  with_reducible refine And.intro ?_ ?_
  omega
  with_reducible refine fX3_start (by assumption) (by decide) (fun _ w1 h1 => ?_) (fun _ w1 h1 => ?_)
  with_reducible exact absurd (by assumption) n10'
  simp only [eX3_setSmall_9, eX3_setSmall_12, eX3_setSmall_14, eX3_setSmall_18, i10, if_false, kx_l, tl_s]
  with_reducible refine And.intro ?_ ?_
  omega
  with_reducible refine And.intro ?_ ?_
  omega
  with_reducible exact hX (fun h => absurd h (by assumption)) _ (by assumption)
  simp only [eX3_setSmall_6, kx_l, wt_nil, tl_s, Nat.add_zero]
  with_reducible refine And.intro ?_ ?_
  with_reducible refine go_S (by assumption) (fun _ _ hY => ?_)
  with_reducible exact trivial
  with_reducible refine And.intro ?_ ?_
  omega
  with_reducible refine And.intro ?_ ?_
  omega
  with_reducible refine And.intro ?_ ?_
  omega
  with_reducible refine fX3_start (by assumption) (by decide) (fun _ w1 h1 => ?_) (fun _ w1 h1 => ?_)
  simp only [eX3_setSmall_9, eX3_setSmall_12, eX3_setSmall_14, eX3_setSmall_18, if_true, kx_l, tl_s]
  with_reducible refine go_S (by assumption) (fun _ _ hY => ?_)
  simp only [eX3_setSmall_19, eX3_setSmall_20, wt_nil, g0, gS, ex1, Nat.add_zero]
  with_reducible refine gl_S (by assumption) ?_
  with_reducible refine And.intro ?_ ?_
  with_reducible exact vpi8k (by assumption)
  with_reducible refine And.intro ?_ ?_
  omega
  with_reducible refine And.intro ?_ ?_
  omega
  with_reducible refine And.intro ?_ ?_
  omega
  with_reducible refine fX3_low ?_
  simp only [eX3_setSmall_23, eX3_setSmall_28, kx_l, nl_int, tl_s]
  with_reducible refine go_S (by assumption) (fun _ _ hY => ?_)
  simp only [eX3_setSmall_31, eX3_setSmall_32, g0, gS, ex1]
  with_reducible refine gl_Sw (by assumption) (fun hf => ?_)
  with_reducible refine And.intro ?_ ?_
  with_reducible exact vpi8k (by assumption)
  with_reducible refine And.intro ?_ ?_
  omega
  with_reducible refine And.intro ?_ ?_
  omega
  with_reducible exact hQ (by assumption) _ (hf _)
  with_reducible exact n00x (by assumption)
set_option maxHeartbeats 4000000 in
theorem fX3_setEnd {a0 a1 : Int32} (hM : MS g w0 y nM kd th s w) (hX : ¬ (okN a0) → ∀ w', MS g w0 y nM kd 1 s w' → Q (.inl (some (.int 0))) w') (hW : okN a0 → ¬ okW a1 3 → ∀ w', MS g w0 y nM kd 2 s w' → Q (.inl (some (.int 0))) w') (hQ : okN a0 → okW a1 3 → ∀ w', MS g w0 y nM kd 0 (sN s (vp_updL s.1 a0.toNatClampNeg (frV a1))) w' → Q (.inl (some (.int (loV (frV a1))))) w') : WP (MX3_setEnd g) Q (0, [some (.ref y), some (.int a0), some (.int a1), none], [], w, 0, 0) := by
  simp only [eX3_setEnd_0, eX3_setEnd_5, wt_nil, wt_ref, Nat.add_zero]
  with_reducible refine And.intro ?_ ?_
  omega
  with_reducible refine And.intro ?_ ?_
  omega
  with_reducible refine And.intro ?_ ?_
  omega
  with_reducible refine fX3_isNoNumber (fun _ => ?_) (fun _ => ?_)
  simp only [eX3_setEnd_6, kx_l, wt_nil, tl_s, Nat.add_zero]
  with_reducible refine And.intro ?_ ?_
  with_reducible refine go_S (by assumption) (fun _ _ hY => ?_)
  with_reducible exact trivial
  with_reducible refine And.intro ?_ ?_
  omega
  with_reducible refine And.intro ?_ ?_
  omega
  with_reducible refine And.intro ?_ ?_
  omega
  with_reducible refine fX3_start (by assumption) (by decide) (fun _ w1 h1 => ?_) (fun _ w1 h1 => ?_)
  with_reducible exact absurd (by assumption) n10'
  simp only [eX3_setEnd_9, eX3_setEnd_12, eX3_setEnd_34, i10, if_false, kx_l, wt_nil, wt_ref, tl_s, Nat.add_zero]
  with_reducible refine And.intro ?_ ?_
  omega
  with_reducible refine And.intro ?_ ?_
  omega
  with_reducible exact hX (fun h => absurd h (by assumption)) _ (by assumption)
  simp only [eX3_setEnd_6, kx_l, wt_nil, tl_s, Nat.add_zero]
  with_reducible refine And.intro ?_ ?_
  with_reducible refine go_S (by assumption) (fun _ _ hY => ?_)
  with_reducible exact trivial
  with_reducible refine And.intro ?_ ?_
  omega
  with_reducible refine And.intro ?_ ?_
  omega
  with_reducible refine And.intro ?_ ?_
  omega
  with_reducible refine fX3_start (by assumption) (by decide) (fun _ w1 h1 => ?_) (fun _ w1 h1 => ?_)
  simp only [eX3_setEnd_9, eX3_setEnd_12, eX3_setEnd_34, if_true, kx_l, wt_nil, wt_ref, tl_s, Nat.add_zero]
  with_reducible refine And.intro ?_ ?_
  omega
  with_reducible refine And.intro ?_ ?_
  omega
  with_reducible refine And.intro ?_ ?_
  omega
  with_reducible refine fX3_isIn (fun _ _ => ?_) (fun _ => ?_)
  simp only [eX3_setEnd_19, eX3_setEnd_22, eX3_setEnd_26, eX3_setEnd_27, i10, if_false, kx_l, wt_nil, tl_s, Nat.add_zero]
  with_reducible refine And.intro ?_ ?_
  with_reducible refine go_S (by assumption) (fun _ _ hY => ?_)
  with_reducible exact trivial
  with_reducible refine And.intro ?_ ?_
  omega
  with_reducible refine And.intro ?_ ?_
  omega
  with_reducible refine And.intro ?_ ?_
  omega
  with_reducible refine fX3_refuse (by assumption) (by decide) (fun _ => ?_) (fun _ w2 h2 => ?_)
  simp only [eX3_setEnd_31, eX3_setEnd_34, eX3_setEnd_36, eX3_setEnd_39R, eX3_setEnd_45R, eX3_setEnd_51R, eX3_setEnd_57R, eX3_setEnd_63, eX3_setEnd_67, eX3_setEnd_69, if_true, n4e, upw2q, kx_l, gl_s, wt_nil, nl_int, tl_s, rd_s, upw_s, Nat.zero_add, Nat.add_zero]
  with_reducible refine And.intro ?_ ?_
  with_reducible exact n4a
  with_reducible refine And.intro ?_ ?_
  omega
  with_reducible refine And.intro ?_ ?_
  omega
  with_reducible refine And.intro ?_ ?_
  omega
  with_reducible intro _
  with_reducible intro _
  with_reducible refine And.intro ?_ ?_
  with_reducible exact vpi4.1
  with_reducible refine And.intro ?_ ?_
  with_reducible exact vpi4.2.1
  with_reducible refine And.intro ?_ ?_
  with_reducible exact vpi4.2.2.1
  with_reducible refine And.intro ?_ ?_
  with_reducible exact vpi4.2.2.2
  with_reducible refine And.intro ?_ ?_
  with_reducible exact vpi4n (by assumption) (by assumption)
  with_reducible refine And.intro ?_ ?_
  with_reducible refine go_S (MS.fr (by assumption) (by assumption)) (fun _ _ hY => ?_)
  with_reducible exact trivial
  with_reducible refine And.intro ?_ ?_
  omega
  with_reducible refine And.intro ?_ ?_
  omega
  with_reducible refine And.intro ?_ ?_
  omega
  (rw [frE ⟨by assumption, by assumption⟩]; refine fX3_become (MS.fr (by assumption) (by assumption)) (by assumption) (fun w3 h3 => ?_))
  simp only [eX3_setEnd_72, kx_l, tl_s]
  with_reducible refine And.intro ?_ ?_
  omega
  with_reducible refine And.intro ?_ ?_
  omega
  with_reducible exact hQ (by assumption) ⟨by assumption, by assumption⟩ _ (by assumption)
  with_reducible exact n00x (by assumption)
  simp only [eX3_setEnd_19, eX3_setEnd_22, eX3_setEnd_26, eX3_setEnd_27, if_true, kx_l, wt_nil, tl_s, Nat.add_zero]
  with_reducible refine And.intro ?_ ?_
  with_reducible refine go_S (by assumption) (fun _ _ hY => ?_)
  with_reducible exact trivial
  with_reducible refine And.intro ?_ ?_
  omega
  with_reducible refine And.intro ?_ ?_
  omega
  with_reducible refine And.intro ?_ ?_
  omega
  with_reducible refine fX3_refuse (by assumption) (by decide) (fun _ => ?_) (fun _ w2 h2 => ?_)
  with_reducible exact absurd (by assumption) n10'
  simp only [eX3_setEnd_31, eX3_setEnd_34, eX3_setEnd_36, eX3_setEnd_39R, eX3_setEnd_45R, eX3_setEnd_51R, eX3_setEnd_57R, eX3_setEnd_63, eX3_setEnd_67, eX3_setEnd_69, i10, if_false, n4e, upw2q, kx_l, gl_s, wt_nil, nl_int, tl_s, rd_s, upw_s, Nat.zero_add, Nat.add_zero]
  with_reducible refine And.intro ?_ ?_
  omega
  with_reducible refine And.intro ?_ ?_
  omega
  with_reducible exact hW (by assumption) (nokW (by assumption)) _ (by assumption)
  with_reducible exact n00x (by assumption)
set_option maxHeartbeats 4000000 in
theorem fX3_move {a0 a1 : Int32} (hM : MS g w0 y nM kd th s w) (hX : ¬ (okN a0) → ∀ w', MS g w0 y nM kd 1 s w' → Q (.inl (some (.int 0))) w') (hQ : okN a0 → ∀ w', MS g w0 y nM kd 0 (sN s (vp_updL s.1 a0.toNatClampNeg (s.1 a0.toNatClampNeg + a1.toInt64))) w' → Q (.inl (some (.int (loV (s.1 a0.toNatClampNeg + a1.toInt64))))) w') : WP (MX3_move g) Q (0, [some (.ref y), some (.int a0), some (.int a1)], [], w, 0, 0) := by
  simp only [eX3_move_0, eX3_move_5, wt_nil, wt_ref, Nat.add_zero]
  with_reducible refine And.intro ?_ ?_
  omega
  with_reducible refine And.intro ?_ ?_
  omega
  with_reducible refine And.intro ?_ ?_
  omega
  with_reducible refine fX3_isNoNumber (fun _ => ?_) (fun _ => ?_)
  simp only [eX3_move_6, kx_l, wt_nil, tl_s, Nat.add_zero]
  with_reducible refine And.intro ?_ ?_
  with_reducible refine go_S (by assumption) (fun _ _ hY => ?_)
  with_reducible exact trivial
  with_reducible refine And.intro ?_ ?_
  omega
  with_reducible refine And.intro ?_ ?_
  omega
  with_reducible refine And.intro ?_ ?_
  omega
  with_reducible refine fX3_start (by assumption) (by decide) (fun _ w1 h1 => ?_) (fun _ w1 h1 => ?_)
  with_reducible exact absurd (by assumption) n10'
  simp only [eX3_move_9, eX3_move_12, eX3_move_16, eX3_move_22, eX3_move_30, i10, if_false, kx_l, tl_s]
  with_reducible refine And.intro ?_ ?_
  omega
  with_reducible refine And.intro ?_ ?_
  omega
  with_reducible exact hX (fun h => absurd h (by assumption)) _ (by assumption)
  simp only [eX3_move_6, kx_l, wt_nil, tl_s, Nat.add_zero]
  with_reducible refine And.intro ?_ ?_
  with_reducible refine go_S (by assumption) (fun _ _ hY => ?_)
  with_reducible exact trivial
  with_reducible refine And.intro ?_ ?_
  omega
  with_reducible refine And.intro ?_ ?_
  omega
  with_reducible refine And.intro ?_ ?_
  omega
  with_reducible refine fX3_start (by assumption) (by decide) (fun _ w1 h1 => ?_) (fun _ w1 h1 => ?_)
  simp only [eX3_move_9, eX3_move_12, eX3_move_16, eX3_move_22, eX3_move_30, if_true, kx_l, tl_s]
  with_reducible refine go_S (by assumption) (fun _ _ hY => ?_)
  simp only [eX3_move_23, eX3_move_24, wt_nil, g0, gS, ex1, Nat.add_zero]
  with_reducible refine gl_S (by assumption) ?_
  with_reducible refine And.intro ?_ ?_
  with_reducible exact vpi8k (by assumption)
  with_reducible refine And.intro ?_ ?_
  with_reducible refine go_S (by assumption) (fun _ _ hY => ?_)
  with_reducible exact trivial
  with_reducible refine And.intro ?_ ?_
  omega
  with_reducible refine And.intro ?_ ?_
  omega
  with_reducible refine And.intro ?_ ?_
  omega
  with_reducible refine fX3_become (by assumption) (by assumption) (fun w3 h3 => ?_)
  simp only [eX3_move_30, kx_l, tl_s]
  with_reducible refine And.intro ?_ ?_
  omega
  with_reducible refine And.intro ?_ ?_
  omega
  with_reducible exact hQ (by assumption) _ (by assumption)
  with_reducible exact n00x (by assumption)
set_option maxHeartbeats 4000000 in
theorem fX3_copy {a0 a1 : Int32} (hM : MS g w0 y nM kd th s w) (hX : ¬ (okN a0 ∧ okN a1) → ∀ w', MS g w0 y nM kd 1 s w' → Q (.inl (some (.int 0))) w') (hQ : okN a0 → okN a1 → ∀ w', MS g w0 y nM kd 0 (sN s (vp_updL s.1 a0.toNatClampNeg (s.1 a1.toNatClampNeg))) w' → Q (.inl (some (.int (loV (s.1 a1.toNatClampNeg))))) w') : WP (MX3_copy g) Q (0, [some (.ref y), some (.int a0), some (.int a1)], [], w, 0, 0) := by
  simp only [eX3_copy_0, wt_nil, wt_ref, Nat.add_zero]
  with_reducible refine And.intro ?_ ?_
  omega
  with_reducible refine And.intro ?_ ?_
  omega
  with_reducible refine And.intro ?_ ?_
  omega
  with_reducible refine fX3_isNoNumber (fun _ => ?_) (fun _ => ?_)
  simp only [eX3_copy_5, eX3_copy_8, eX3_copy_15, eX3_copy_20, i10, if_false, kx_l, wt_nil, wt_ref, tl_s, Nat.add_zero]
  with_reducible refine And.intro ?_ ?_
  with_reducible refine go_S (by assumption) (fun _ _ hY => ?_)
  with_reducible exact trivial
  with_reducible refine And.intro ?_ ?_
  omega
  with_reducible refine And.intro ?_ ?_
  omega
  with_reducible refine And.intro ?_ ?_
  omega
  with_reducible refine fX3_start (by assumption) (by decide) (fun _ w1 h1 => ?_) (fun _ w1 h1 => ?_)
  with_reducible exact absurd (by assumption) n10'
  simp only [eX3_copy_24, eX3_copy_27, eX3_copy_31, eX3_copy_37, eX3_copy_42, i10, if_false, kx_l, tl_s]
  with_reducible refine And.intro ?_ ?_
  omega
  with_reducible refine And.intro ?_ ?_
  omega
  with_reducible exact hX (fun h => absurd h.1 (by assumption)) _ (by assumption)
  simp only [eX3_copy_5, eX3_copy_8, eX3_copy_15, eX3_copy_20, if_true, kx_l, wt_nil, wt_ref, tl_s, Nat.add_zero]
  with_reducible refine And.intro ?_ ?_
  omega
  with_reducible refine And.intro ?_ ?_
  omega
  with_reducible refine And.intro ?_ ?_
  omega
  with_reducible refine fX3_isNoNumber (fun _ => ?_) (fun _ => ?_)
  simp only [eX3_copy_12, eX3_copy_15, eX3_copy_19, eX3_copy_20, i10, if_false, kx_l, wt_nil, tl_s, Nat.add_zero]
  with_reducible refine And.intro ?_ ?_
  with_reducible refine go_S (by assumption) (fun _ _ hY => ?_)
  with_reducible exact trivial
  with_reducible refine And.intro ?_ ?_
  omega
  with_reducible refine And.intro ?_ ?_
  omega
  with_reducible refine And.intro ?_ ?_
  omega
  with_reducible refine fX3_start (by assumption) (by decide) (fun _ w1 h1 => ?_) (fun _ w1 h1 => ?_)
  with_reducible exact absurd (by assumption) n10'
  simp only [eX3_copy_24, eX3_copy_27, eX3_copy_31, eX3_copy_37, eX3_copy_42, i10, if_false, kx_l, tl_s]
  with_reducible refine And.intro ?_ ?_
  omega
  with_reducible refine And.intro ?_ ?_
  omega
  with_reducible exact hX (fun h => absurd h.2 (by assumption)) _ (by assumption)
  simp only [eX3_copy_12, eX3_copy_15, eX3_copy_19, eX3_copy_20, if_true, kx_l, wt_nil, tl_s, Nat.add_zero]
  with_reducible refine And.intro ?_ ?_
  with_reducible refine go_S (by assumption) (fun _ _ hY => ?_)
  with_reducible exact trivial
  with_reducible refine And.intro ?_ ?_
  omega
  with_reducible refine And.intro ?_ ?_
  omega
  with_reducible refine And.intro ?_ ?_
  omega
  with_reducible refine fX3_start (by assumption) (by decide) (fun _ w1 h1 => ?_) (fun _ w1 h1 => ?_)
  simp only [eX3_copy_24, eX3_copy_27, eX3_copy_31, eX3_copy_37, eX3_copy_42, if_true, kx_l, tl_s]
  with_reducible refine go_S (by assumption) (fun _ _ hY => ?_)
  simp only [eX3_copy_38, eX3_copy_39, wt_nil, g0, gS, ex1, Nat.add_zero]
  with_reducible refine gl_S (by assumption) ?_
  with_reducible refine And.intro ?_ ?_
  with_reducible exact vpi8k (by assumption)
  with_reducible refine And.intro ?_ ?_
  with_reducible refine go_S (by assumption) (fun _ _ hY => ?_)
  with_reducible exact trivial
  with_reducible refine And.intro ?_ ?_
  omega
  with_reducible refine And.intro ?_ ?_
  omega
  with_reducible refine And.intro ?_ ?_
  omega
  with_reducible refine fX3_become (by assumption) (by assumption) (fun w3 h3 => ?_)
  simp only [eX3_copy_42, kx_l, tl_s]
  with_reducible refine And.intro ?_ ?_
  omega
  with_reducible refine And.intro ?_ ?_
  omega
  with_reducible exact hQ (by assumption) (by assumption) _ (by assumption)
  with_reducible exact n00x (by assumption)
set_option maxHeartbeats 4000000 in
theorem fX3_ofNumber {a0 a1 : Int32} (hM : MS g w0 y nM kd th s w) (hX : ¬ (okN a0) → ∀ w', MS g w0 y nM kd 1 s w' → Q (.inl (some (.int 0))) w') (hQ : okN a0 → ∀ w', MS g w0 y nM kd 0 s w' → Q (.inl (some (.int (hfV (s.1 a0.toNatClampNeg) a1)))) w') : WP (MX3_ofNumber g) Q (0, [some (.ref y), some (.int a0), some (.int a1)], [], w, 0, 0) := by
  simp only [eX3_ofNumber_0, eX3_ofNumber_5, wt_nil, wt_ref, Nat.add_zero]
  with_reducible refine And.intro ?_ ?_
  omega
  with_reducible refine And.intro ?_ ?_
  omega
  with_reducible refine And.intro ?_ ?_
  omega
  with_reducible refine fX3_isNoNumber (fun _ => ?_) (fun _ => ?_)
  simp only [eX3_ofNumber_6, kx_l, wt_nil, tl_s, Nat.add_zero]
  with_reducible refine And.intro ?_ ?_
  with_reducible refine go_S (by assumption) (fun _ _ hY => ?_)
  with_reducible exact trivial
  with_reducible refine And.intro ?_ ?_
  omega
  with_reducible refine And.intro ?_ ?_
  omega
  with_reducible refine And.intro ?_ ?_
  omega
  with_reducible refine fX3_start (by assumption) (by decide) (fun _ w1 h1 => ?_) (fun _ w1 h1 => ?_)
  with_reducible exact absurd (by assumption) n10'
  simp only [eX3_ofNumber_9, eX3_ofNumber_12, eX3_ofNumber_14, eX3_ofNumber_18, eX3_ofNumber_22, eX3_ofNumber_30, eX3_ofNumber_34, i10, if_false, kx_l, tl_s]
  with_reducible refine And.intro ?_ ?_
  omega
  with_reducible refine And.intro ?_ ?_
  omega
  with_reducible exact hX (fun h => absurd h (by assumption)) _ (by assumption)
  simp only [eX3_ofNumber_6, kx_l, wt_nil, tl_s, Nat.add_zero]
  with_reducible refine And.intro ?_ ?_
  with_reducible refine go_S (by assumption) (fun _ _ hY => ?_)
  with_reducible exact trivial
  with_reducible refine And.intro ?_ ?_
  omega
  with_reducible refine And.intro ?_ ?_
  omega
  with_reducible refine And.intro ?_ ?_
  omega
  with_reducible refine fX3_start (by assumption) (by decide) (fun _ w1 h1 => ?_) (fun _ w1 h1 => ?_)
  simp only [eX3_ofNumber_9, eX3_ofNumber_12, eX3_ofNumber_14, eX3_ofNumber_18, eX3_ofNumber_22, eX3_ofNumber_30, eX3_ofNumber_34, if_true, kx_l, tl_s]
  with_reducible refine itx (fun _ => ?_) (fun _ => ?_)
  with_reducible refine go_S (by assumption) (fun _ _ hY => ?_)
  simp only [eX3_ofNumber_35, eX3_ofNumber_36, wt_nil, g0, gS, ex1, Nat.add_zero]
  with_reducible refine gl_S (by assumption) ?_
  with_reducible refine And.intro ?_ ?_
  with_reducible exact vpi8k (by assumption)
  with_reducible refine And.intro ?_ ?_
  omega
  with_reducible refine And.intro ?_ ?_
  omega
  with_reducible refine And.intro ?_ ?_
  omega
  with_reducible refine fX3_low ?_
  simp only [eX3_ofNumber_39, kx_l, tl_s]
  with_reducible refine And.intro ?_ ?_
  omega
  with_reducible refine And.intro ?_ ?_
  omega
  (rw [← hfV_e (a := s.1 a0.toNatClampNeg) (h := a1) (by assumption)]; exact hQ (by assumption) _ (by assumption))
  with_reducible refine go_S (by assumption) (fun _ _ hY => ?_)
  simp only [eX3_ofNumber_23, eX3_ofNumber_24, eX3_ofNumber_27, wt_nil, g0, gS, ex1, Nat.add_zero]
  with_reducible refine gl_S (by assumption) ?_
  with_reducible refine And.intro ?_ ?_
  with_reducible exact vpi8k (by assumption)
  with_reducible refine And.intro ?_ ?_
  omega
  with_reducible refine And.intro ?_ ?_
  omega
  with_reducible refine And.intro ?_ ?_
  omega
  with_reducible refine fX3_high ?_
  simp only [eX3_ofNumber_39, kx_l, tl_s]
  with_reducible refine And.intro ?_ ?_
  omega
  with_reducible refine And.intro ?_ ?_
  omega
  (rw [← hfV_n (a := s.1 a0.toNatClampNeg) (h := a1) (by assumption)]; exact hQ (by assumption) _ (by assumption))
  with_reducible exact n00x (by assumption)
set_option maxHeartbeats 4000000 in
theorem fX3_order {a0 a1 : Int32} (hM : MS g w0 y nM kd th s w) (hX : ¬ (okN a0 ∧ okN a1) → ∀ w', MS g w0 y nM kd 1 s w' → Q (.inl (some (.int 0))) w') (hQ : okN a0 → okN a1 → ∀ w', MS g w0 y nM kd 0 s w' → Q (.inl (some (.int (orV (s.1 a0.toNatClampNeg) (s.1 a1.toNatClampNeg))))) w') : WP (MX3_order g) Q (0, [some (.ref y), some (.int a0), some (.int a1)], [], w, 0, 0) := by
  simp only [eX3_order_0, wt_nil, wt_ref, Nat.add_zero]
  with_reducible refine And.intro ?_ ?_
  omega
  with_reducible refine And.intro ?_ ?_
  omega
  with_reducible refine And.intro ?_ ?_
  omega
  with_reducible refine fX3_isNoNumber (fun _ => ?_) (fun _ => ?_)
  simp only [eX3_order_5, eX3_order_8, eX3_order_15, eX3_order_20, i10, if_false, kx_l, wt_nil, wt_ref, tl_s, Nat.add_zero]
  with_reducible refine And.intro ?_ ?_
  with_reducible refine go_S (by assumption) (fun _ _ hY => ?_)
  with_reducible exact trivial
  with_reducible refine And.intro ?_ ?_
  omega
  with_reducible refine And.intro ?_ ?_
  omega
  with_reducible refine And.intro ?_ ?_
  omega
  with_reducible refine fX3_start (by assumption) (by decide) (fun _ w1 h1 => ?_) (fun _ w1 h1 => ?_)
  with_reducible exact absurd (by assumption) n10'
  simp only [eX3_order_24, eX3_order_27, eX3_order_29, eX3_order_33, i10, if_false, kx_l, tl_s]
  with_reducible refine And.intro ?_ ?_
  omega
  with_reducible refine And.intro ?_ ?_
  omega
  with_reducible exact hX (fun h => absurd h.1 (by assumption)) _ (by assumption)
  simp only [eX3_order_5, eX3_order_8, eX3_order_15, eX3_order_20, if_true, kx_l, wt_nil, wt_ref, tl_s, Nat.add_zero]
  with_reducible refine And.intro ?_ ?_
  omega
  with_reducible refine And.intro ?_ ?_
  omega
  with_reducible refine And.intro ?_ ?_
  omega
  with_reducible refine fX3_isNoNumber (fun _ => ?_) (fun _ => ?_)
  simp only [eX3_order_12, eX3_order_15, eX3_order_19, eX3_order_20, i10, if_false, kx_l, wt_nil, tl_s, Nat.add_zero]
  with_reducible refine And.intro ?_ ?_
  with_reducible refine go_S (by assumption) (fun _ _ hY => ?_)
  with_reducible exact trivial
  with_reducible refine And.intro ?_ ?_
  omega
  with_reducible refine And.intro ?_ ?_
  omega
  with_reducible refine And.intro ?_ ?_
  omega
  with_reducible refine fX3_start (by assumption) (by decide) (fun _ w1 h1 => ?_) (fun _ w1 h1 => ?_)
  with_reducible exact absurd (by assumption) n10'
  simp only [eX3_order_24, eX3_order_27, eX3_order_29, eX3_order_33, i10, if_false, kx_l, tl_s]
  with_reducible refine And.intro ?_ ?_
  omega
  with_reducible refine And.intro ?_ ?_
  omega
  with_reducible exact hX (fun h => absurd h.2 (by assumption)) _ (by assumption)
  simp only [eX3_order_12, eX3_order_15, eX3_order_19, eX3_order_20, if_true, kx_l, wt_nil, tl_s, Nat.add_zero]
  with_reducible refine And.intro ?_ ?_
  with_reducible refine go_S (by assumption) (fun _ _ hY => ?_)
  with_reducible exact trivial
  with_reducible refine And.intro ?_ ?_
  omega
  with_reducible refine And.intro ?_ ?_
  omega
  with_reducible refine And.intro ?_ ?_
  omega
  with_reducible refine fX3_start (by assumption) (by decide) (fun _ w1 h1 => ?_) (fun _ w1 h1 => ?_)
  simp only [eX3_order_24, eX3_order_27, eX3_order_29, eX3_order_33, if_true, kx_l, tl_s]
  with_reducible refine go_S (by assumption) (fun _ _ hY => ?_)
  simp only [eX3_order_34, eX3_order_35, eX3_order_39, g0, gS, ex1]
  with_reducible refine gl_S (by assumption) ?_
  with_reducible refine And.intro ?_ ?_
  with_reducible exact vpi8k (by assumption)
  with_reducible refine go_S (by assumption) (fun _ _ hY => ?_)
  simp only [eX3_order_40, eX3_order_41, eX3_order_45, eX3_order_49, eX3_order_53, eX3_order_73, lgn, ite_le, g0, gS, ex1]
  with_reducible refine gl_S (by assumption) ?_
  with_reducible refine And.intro ?_ ?_
  with_reducible exact vpi8k (by assumption)
  with_reducible refine itx (fun _ => ?_) (fun _ => ?_)
  with_reducible refine And.intro ?_ ?_
  omega
  with_reducible refine And.intro ?_ ?_
  omega
  (rw [← orV_1 (a := s.1 a0.toNatClampNeg) (b := s.1 a1.toNatClampNeg) (by assumption)]; exact hQ (by assumption) (by assumption) _ (by assumption))
  with_reducible refine go_S (by assumption) (fun _ _ hY => ?_)
  simp only [eX3_order_54, eX3_order_55, eX3_order_59, g0, gS, ex1]
  with_reducible refine gl_S (by assumption) ?_
  with_reducible refine And.intro ?_ ?_
  with_reducible exact vpi8k (by assumption)
  with_reducible refine go_S (by assumption) (fun _ _ hY => ?_)
  simp only [eX3_order_60, eX3_order_61, eX3_order_65, eX3_order_69, eX3_order_70, lgp, ite_le, wt_nil, g0, gS, ex1, Nat.add_zero]
  with_reducible refine gl_S (by assumption) ?_
  with_reducible refine And.intro ?_ ?_
  with_reducible exact vpi8k (by assumption)
  with_reducible refine itx (fun _ => ?_) (fun _ => ?_)
  with_reducible refine And.intro ?_ ?_
  omega
  with_reducible refine And.intro ?_ ?_
  omega
  with_reducible refine And.intro ?_ ?_
  omega
  with_reducible refine fX3_one (Or.inr rfl) ?_
  simp only [eX3_order_73, kx_l, tl_s]
  with_reducible refine And.intro ?_ ?_
  omega
  with_reducible refine And.intro ?_ ?_
  omega
  (rw [← orV_2 (a := s.1 a0.toNatClampNeg) (b := s.1 a1.toNatClampNeg) (by assumption) (by assumption)]; exact hQ (by assumption) (by assumption) _ (by assumption))
  with_reducible refine And.intro ?_ ?_
  omega
  with_reducible refine And.intro ?_ ?_
  omega
  with_reducible refine And.intro ?_ ?_
  omega
  with_reducible refine fX3_one (Or.inl rfl) ?_
  simp only [eX3_order_73, kx_l, tl_s]
  with_reducible refine And.intro ?_ ?_
  omega
  with_reducible refine And.intro ?_ ?_
  omega
  (rw [← orV_3 (a := s.1 a0.toNatClampNeg) (b := s.1 a1.toNatClampNeg) (by assumption) (by assumption)]; exact hQ (by assumption) (by assumption) _ (by assumption))
  with_reducible exact n00x (by assumption)
end
end
/-! 75.mf4.lean.txt -/
section
section
variable {g : RO} {Q : Ot → Hw → Prop} {w0 w : Hw} {y nM : Nat} {kd th : Int32} {s : AS}
theorem rowA_nw {q : Nat} {a b c d : Int64} : rowA (upw w q (.inl (0, 4, .inr (.inl (vp_updL (vp_updL (vp_updL (vp_updL (fun _ => 0) (0 : Int32).toNatClampNeg a) (1 : Int32).toNatClampNeg b) (2 : Int32).toNatClampNeg c) (3 : Int32).toNatClampNeg d))))) q (a, b, c, d) := upw_s _ _ _
/-- two rows compared: each place so far -/
def eqF (r t : R4) : Nat → Int32
  | 0 => 1
  | j + 1 => eqF r t j &&& (if (rV r j).toInt = (rV t j).toInt then 1 else 0)
theorem eqF_t {r t : R4} {j : Nat} (h : (rV r j).toInt = (rV t j).toInt) : eqF r t j &&& 1 = eqF r t (j + 1) := by
  show _ = eqF r t j &&& (if (rV r j).toInt = (rV t j).toInt then 1 else 0)
  rw [if_pos h]
theorem eqF_f {r t : R4} {j : Nat} (h : ¬ (rV r j).toInt = (rV t j).toInt) : eqF r t j &&& 0 = eqF r t (j + 1) := by
  show _ = eqF r t j &&& (if (rV r j).toInt = (rV t j).toInt then 1 else 0)
  rw [if_neg h]
theorem eqF_4 {r t : R4} : eqF r t 4 = (((1 &&& (if r.1.toInt = t.1.toInt then 1 else 0)) &&& (if r.2.1.toInt = t.2.1.toInt then 1 else 0)) &&& (if r.2.2.1.toInt = t.2.2.1.toInt then 1 else 0)) &&& (if r.2.2.2.toInt = t.2.2.2.toInt then 1 else 0) := rfl
theorem eqF_T {r t : R4} (h : mP r t) : eqF r t 4 = 1 := by
  rw [eqF_4, if_pos h.1, if_pos h.2.1, if_pos h.2.2.1, if_pos h.2.2.2]
  decide
theorem eqF_F {r t : R4} (h : ¬ mP r t) : eqF r t 4 = 0 := by
  rw [eqF_4]
  by_cases h1 : r.1.toInt = t.1.toInt
  · by_cases h2 : r.2.1.toInt = t.2.1.toInt
    · by_cases h3 : r.2.2.1.toInt = t.2.2.1.toInt
      · by_cases h4 : r.2.2.2.toInt = t.2.2.2.toInt
        · exact absurd ⟨h1, h2, h3, h4⟩ h
        · rw [if_pos h1, if_pos h2, if_pos h3, if_neg h4]
          decide
      · rw [if_pos h1, if_pos h2, if_neg h3]
        split <;> decide
    · rw [if_pos h1, if_neg h2]
      split <;> split <;> decide
  · rw [if_neg h1]
    split <;> split <;> split <;> decide
theorem eqF_b {r t : R4} {v : Int32} (h : v = 1 ∨ v = 0) : narrow .boolean (.int v) = .int v := by rcases h with rfl | rfl <;> rfl
theorem eqF_z {r t : R4} : eqF r t 4 = 1 ∨ eqF r t 4 = 0 := by
  by_cases h : mP r t
  · exact Or.inl (eqF_T h)
  · exact Or.inr (eqF_F h)
theorem nbF {r t : R4} : narrow .boolean (.int (eqF r t 4)) = .int (eqF r t 4) := eqF_b (r := r) (t := t) eqF_z
theorem vpi4j {j : Nat} (h : j < 4) : vp_in (Int32.ofNat j) 4 := by
  have h9 : j < 1000 := by omega
  refine vpi (oN0 h9) (i32_of_lt (b := 4) ?_) (by decide)
  rw [oNt h9]
  show (j : Int) < 4
  omega
set_option maxHeartbeats 4000000 in
theorem flX3_same_4 {p q : Nat} {r t : R4} (hp : rowA w p r) (hq : rowA w q t) (hQ : Q (.inl (some (.int (eqF r t 4)))) w) : ∀ (d j : Nat)  (kz mz : Nat), j + d = 4 → kz ≤ 0 → mz ≤ 0 → WP (MX3_same g) Q (4, [some (.ref p), some (.ref q), some (.int (eqF r t j)), some (.int (Int32.ofNat j))], [], w, kz, mz) := by
  intro d
  induction d with
  | zero =>
    intro j  kz mz hjd hkz hmz
    have h9 : j < 1000 := (by omega)
    have hlt : ¬ Int32.ofNat j < 4 := oNg (B := 4) h9 rfl (by omega)
    have hnn := oN0 h9
    have hcl := oNc h9
    obtain rfl : j = 4 := by omega
    rw [eX3_same_4]
    simp only [eX3_same_5, eX3_same_9, eX3_same_13, eX3_same_16, eX3_same_20, eX3_same_24, eX3_same_25, eX3_same_33, lgz, if_false, hlt, hcl, ite_le, nl_int, nl_ref]
    with_reducible refine And.intro ?_ ?_
    with_reducible exact nbF
    with_reducible refine And.intro ?_ ?_
    with_reducible assumption
    with_reducible refine And.intro ?_ ?_
    with_reducible assumption
    with_reducible assumption
  | succ d ih =>
    intro j  kz mz hjd hkz hmz
    have h9 : j < 1000 := (by omega)
    have hlt : Int32.ofNat j < 4 := oNl (B := 4) h9 rfl (by omega)
    have hjN : j < 4 := by omega
    have hnn := oN0 h9
    have hcl := oNc h9
    rw [eX3_same_4]
    simp only [eX3_same_5, eX3_same_9, eX3_same_13, eX3_same_16, eX3_same_20, eX3_same_24, eX3_same_25, eX3_same_33, lgz, if_true, hlt, hcl, ite_le, nl_int, nl_ref]
    with_reducible refine gl_A hp ?_
    with_reducible refine And.intro ?_ ?_
    with_reducible exact vpi4j (by omega)
    with_reducible refine gl_A hq ?_
    with_reducible refine And.intro ?_ ?_
    with_reducible exact vpi4j (by omega)
    with_reducible refine itx (fun _ => ?_) (fun _ => ?_)
    (rw [oN1, eqF_t (by assumption)]; exact ih (j + 1)  _ _ (by omega) (by first | assumption | omega) (by first | assumption | omega))
    (rw [oN1, eqF_f (by assumption)]; exact ih (j + 1)  _ _ (by omega) (by first | assumption | omega) (by first | assumption | omega))
set_option maxHeartbeats 4000000 in
theorem fX3_same {p q : Nat} {r t : R4} (hp : rowA w p r) (hq : rowA w q t) (hT : mP r t → Q (.inl (some (.int 1))) w) (hF : ¬ mP r t → Q (.inl (some (.int 0))) w) : WP (MX3_same g) Q (0, [some (.ref p), some (.ref q), none, none], [], w, 0, 0) := by
  have hQ : Q (.inl (some (.int (eqF r t 4)))) w := by
    by_cases h : mP r t
    · rw [eqF_T h]
      exact hT h
    · rw [eqF_F h]
      exact hF h
  simp only [eX3_same_0, nl_int, nl_ref]
  ((with_reducible refine isWP (pc := 4) ?_); exact flX3_same_4 hp hq hQ 4 0 _ _ rfl (by decide) (by decide))
set_option maxHeartbeats 4000000 in
theorem fX3_areInOrder {a0 a1 a2 a3 : Int64}  (hT : oP a0 a1 a2 a3 → Q (.inl (some (.int 1))) w) (hF : ¬ (oP a0 a1 a2 a3) → Q (.inl (some (.int 0))) w) : WP (MX3_areInOrder g) Q (0, [some (.long a0), none, some (.long a1), none, some (.long a2), none, some (.long a3), none], [], w, 0, 0) := by
  simp only [eX3_areInOrder_0, eX3_areInOrder_6, eX3_areInOrder_14, eX3_areInOrder_21, eX3_areInOrder_28, eX3_areInOrder_32, eX3_areInOrder_33, lgp, nb_0, nb_1, true_and]
  with_reducible refine itx (fun _ => ?_) (fun _ => ?_)
  with_reducible refine And.intro ?_ ?_
  omega
  with_reducible refine And.intro ?_ ?_
  omega
  with_reducible exact hF (by omega)
  with_reducible refine itx (fun _ => ?_) (fun _ => ?_)
  with_reducible refine And.intro ?_ ?_
  omega
  with_reducible refine And.intro ?_ ?_
  omega
  with_reducible exact hF (by omega)
  with_reducible refine itx (fun _ => ?_) (fun _ => ?_)
  with_reducible refine And.intro ?_ ?_
  omega
  with_reducible refine And.intro ?_ ?_
  omega
  with_reducible exact hF (by omega)
  with_reducible refine itx (fun _ => ?_) (fun _ => ?_)
  with_reducible refine And.intro ?_ ?_
  omega
  with_reducible refine And.intro ?_ ?_
  omega
  with_reducible exact hF (by omega)
  with_reducible refine And.intro ?_ ?_
  omega
  with_reducible refine And.intro ?_ ?_
  omega
  with_reducible exact hT (by omega)
set_option maxHeartbeats 4000000 in
theorem fX3_fixed {p : Nat} {r : R4} (hp : rowA w p r) (hT : fP r → Q (.inl (some (.int 1))) w) (hF : ¬ (fP r) → Q (.inl (some (.int 0))) w) : WP (MX3_fixed g) Q (0, [some (.ref p)], [], w, 0, 0) := by
  simp only [eX3_fixed_0, eX3_fixed_3, eX3_fixed_6, eX3_fixed_10, eX3_fixed_13, eX3_fixed_16, eX3_fixed_20, eX3_fixed_24, eX3_fixed_25, lgz, nb_0, nb_1, true_and]
  with_reducible refine gl_A (by assumption) ?_
  with_reducible refine And.intro ?_ ?_
  with_reducible exact vpi4.1
  with_reducible refine gl_A (by assumption) ?_
  with_reducible refine And.intro ?_ ?_
  with_reducible exact vpi4.2.1
  simp only [rv0, rv1]
  with_reducible refine itx (fun _ => ?_) (fun _ => ?_)
  with_reducible refine gl_A (by assumption) ?_
  with_reducible refine And.intro ?_ ?_
  with_reducible exact vpi4.2.2.1
  with_reducible refine gl_A (by assumption) ?_
  with_reducible refine And.intro ?_ ?_
  with_reducible exact vpi4.2.2.2
  simp only [rv2, rv3]
  with_reducible refine itx (fun _ => ?_) (fun _ => ?_)
  with_reducible refine And.intro ?_ ?_
  omega
  with_reducible refine And.intro ?_ ?_
  omega
  with_reducible exact hT (by omega)
  with_reducible refine And.intro ?_ ?_
  omega
  with_reducible refine And.intro ?_ ?_
  omega
  with_reducible exact hF (by omega)
  with_reducible refine And.intro ?_ ?_
  omega
  with_reducible refine And.intro ?_ ?_
  omega
  with_reducible exact hF (by omega)
set_option maxHeartbeats 4000000 in
theorem fX3_small {p : Nat} {r : R4} (hp : rowA w p r) (hT : sP r → Q (.inl (some (.int 1))) w) (hF : ¬ (sP r) → Q (.inl (some (.int 0))) w) : WP (MX3_small g) Q (0, [some (.ref p)], [], w, 0, 0) := by
  simp only [eX3_small_0, eX3_small_3, eX3_small_10, eX3_small_13, eX3_small_20, eX3_small_24, eX3_small_25, lgp, lgn, lmi, lmx, nb_0, nb_1, true_and]
  with_reducible refine gl_A (by assumption) ?_
  with_reducible refine And.intro ?_ ?_
  with_reducible exact vpi4.1
  simp only [rv0]
  with_reducible refine itx (fun _ => ?_) (fun _ => ?_)
  with_reducible refine And.intro ?_ ?_
  omega
  with_reducible refine And.intro ?_ ?_
  omega
  with_reducible exact hF (by omega)
  with_reducible refine gl_A (by assumption) ?_
  with_reducible refine And.intro ?_ ?_
  with_reducible exact vpi4.2.2.2
  simp only [rv3]
  with_reducible refine itx (fun _ => ?_) (fun _ => ?_)
  with_reducible refine And.intro ?_ ?_
  omega
  with_reducible refine And.intro ?_ ?_
  omega
  with_reducible exact hF (by omega)
  with_reducible refine And.intro ?_ ?_
  omega
  with_reducible refine And.intro ?_ ?_
  omega
  with_reducible exact hT (by omega)
set_option maxHeartbeats 4000000 in
theorem fX3_valid {p : Nat} {r : R4} {a : Int64} {b : Int32} (hp : rowA w p r) (hT : ((b = 0 ∨ sP r) ∧ hP r a) → Q (.inl (some (.int 1))) w) (hF : ¬ ((b = 0 ∨ sP r) ∧ hP r a) → Q (.inl (some (.int 0))) w) : WP (MX3_valid g) Q (0, [some (.ref p), some (.long a), none, some (.int b)], [], w, 0, 0) := by
  simp only [eX3_valid_0, eX3_valid_4, eX3_valid_8, eX3_valid_12, eX3_valid_16, eX3_valid_20, eX3_valid_27, eX3_valid_31, eX3_valid_32, lgp, lgn, wt_nil, nb_0, nb_1, true_and, Nat.add_zero]
  with_reducible refine gl_A (by assumption) ?_
  with_reducible refine And.intro ?_ ?_
  with_reducible exact vpi4.1
  simp only [rv0]
  with_reducible refine itx (fun _ => ?_) (fun _ => ?_)
  with_reducible refine And.intro ?_ ?_
  omega
  with_reducible refine And.intro ?_ ?_
  omega
  with_reducible exact hF (fun h => absurd h.2 (by omega))
  with_reducible refine gl_A (by assumption) ?_
  with_reducible refine And.intro ?_ ?_
  with_reducible exact vpi4.2.2.2
  simp only [rv3]
  with_reducible refine itx (fun _ => ?_) (fun _ => ?_)
  with_reducible refine And.intro ?_ ?_
  omega
  with_reducible refine And.intro ?_ ?_
  omega
  with_reducible exact hF (fun h => absurd h.2 (by omega))
  with_reducible refine itx (fun _ => ?_) (fun _ => ?_)
  with_reducible refine And.intro ?_ ?_
  omega
  with_reducible refine And.intro ?_ ?_
  omega
  with_reducible exact hT ⟨Or.inl (by assumption), by omega⟩
  with_reducible refine And.intro ?_ ?_
  omega
  with_reducible refine And.intro ?_ ?_
  omega
  with_reducible refine And.intro ?_ ?_
  omega
  with_reducible refine fX3_small hp (fun _ => ?_) (fun _ => ?_)
  simp only [eX3_valid_24, eX3_valid_27, eX3_valid_31, eX3_valid_32, i10, if_false, kx_l, tl_s, nb_0, nb_1, true_and]
  with_reducible refine And.intro ?_ ?_
  omega
  with_reducible refine And.intro ?_ ?_
  omega
  with_reducible exact hT ⟨Or.inr (by assumption), by omega⟩
  simp only [eX3_valid_24, eX3_valid_27, eX3_valid_31, eX3_valid_32, if_true, kx_l, tl_s, nb_0, nb_1, true_and]
  with_reducible refine And.intro ?_ ?_
  omega
  with_reducible refine And.intro ?_ ?_
  omega
  with_reducible exact hF (fun h => h.1.elim (fun e => absurd e (by assumption)) (fun e => absurd e (by assumption)))
set_option maxHeartbeats 4000000 in
theorem fX3_isBare {a : Int32} (hM : MS g w0 y nM kd th s w) (k : okC a) (h1 : s.2.1 a.toNatClampNeg = none → Q (.inl (some (.int 1))) w) (h0 : ∀ r, s.2.1 a.toNatClampNeg = some r → Q (.inl (some (.int 0))) w) : WP (MX3_isBare g) Q (0, [some (.ref y), some (.int a)], [], w, 0, 0) := by
  simp only [eX3_isBare_0, eX3_isBare_1, eX3_isBare_4]
  with_reducible refine go_S (by assumption) (fun _ _ hY => ?_)
  simp only [eX3_isBare_5, wt_nil, g0, gS, ex1, Nat.add_zero]
  with_reducible refine And.intro ?_ ?_
  with_reducible exact MS.gC (by assumption) (by assumption)
  with_reducible refine And.intro ?_ ?_
  omega
  with_reducible refine And.intro ?_ ?_
  omega
  with_reducible refine And.intro ?_ ?_
  omega
  with_reducible refine sGetF (by assumption) (by assumption) k (fun _ => ?_) (fun _ _ _ hb => ?_)
  simp only [eX3_isBare_8N, eX3_isBare_11, eX3_isBare_16, kx_l, tl_s, nb_1, true_and]
  with_reducible refine And.intro ?_ ?_
  omega
  with_reducible refine And.intro ?_ ?_
  omega
  with_reducible exact h1 (by assumption)
  simp only [eX3_isBare_8R, eX3_isBare_15, eX3_isBare_16, kx_l, tl_s, nb_0, true_and]
  with_reducible refine And.intro ?_ ?_
  omega
  with_reducible refine And.intro ?_ ?_
  omega
  with_reducible exact h0 _ (by assumption)
set_option maxHeartbeats 4000000 in
theorem fX3_make {a : Int32} {p q r t : Int64} (hM : MS g w0 y nM kd th s w) (k : okC a) (hT : oP p q r t → ∀ w', MS g w0 y nM kd th (sMk s a.toNatClampNeg (p, q, r, t)) w' → Q (.inl (some (.int 1))) w') (hF : ¬ oP p q r t → ∀ w', MS g w0 y nM kd th (sRf s) w' → Q (.inl (some (.int (-9)))) w') : WP (MX3_make g) Q (0, [some (.ref y), some (.int a), some (.long p), none, some (.long q), none, some (.long r), none, some (.long t), none], [], w, 0, 0) := by
  simp only [eX3_make_0, wt_nil, Nat.add_zero]
  with_reducible refine And.intro ?_ ?_
  omega
  with_reducible refine And.intro ?_ ?_
  omega
  with_reducible refine And.intro ?_ ?_
  omega
  with_reducible refine fX3_areInOrder (fun hyes => ?_) (fun hno => ?_)
  simp only [eX3_make_10, eX3_make_13, eX3_make_18, eX3_make_22, eX3_make_26R, eX3_make_30R, eX3_make_35R, eX3_make_40R, i10, if_false, n4e, upw2q, kx_l, gl_s, wt_nil, tl_s, upw_s, Nat.zero_add, Nat.add_zero]
  with_reducible refine go_S hM (fun _ _ hY => ?_)
  simp only [eX3_make_45R, wt_nil, g0, gS, ex1, Nat.add_zero]
  with_reducible refine And.intro ?_ ?_
  with_reducible exact n4a
  with_reducible refine And.intro ?_ ?_
  omega
  with_reducible refine And.intro ?_ ?_
  omega
  with_reducible refine And.intro ?_ ?_
  omega
  with_reducible intro _
  with_reducible intro _
  with_reducible refine And.intro ?_ ?_
  with_reducible exact vpi4.1
  with_reducible refine And.intro ?_ ?_
  with_reducible exact vpi4.2.1
  with_reducible refine And.intro ?_ ?_
  with_reducible exact vpi4.2.2.1
  with_reducible refine And.intro ?_ ?_
  with_reducible exact vpi4.2.2.2
  with_reducible refine And.intro ?_ ?_
  with_reducible exact MS.gC (MS.fr hM (by assumption)) (isY.fr hY (by assumption))
  with_reducible refine And.intro ?_ ?_
  omega
  with_reducible refine And.intro ?_ ?_
  omega
  with_reducible refine And.intro ?_ ?_
  omega
  (with_reducible refine sSetFR (MS.fr hM (by assumption)) (isY.fr hY (by assumption)) rowA_nw k (fun w1 h1 => ?_) (fun _ w1 h1 => ?_))
  simp only [eX3_make_48N, eX3_make_49, eX3_make_54, kx_l, tl_s]
  with_reducible refine go_S h1 (fun _ _ hY1 => ?_)
  simp only [eX3_make_55, eX3_make_59, g0, gS, ex1, nf_i, true_and]
  with_reducible refine go_Sw h1 (fun _ _ _ hw => ?_)
  with_reducible refine And.intro ?_ ?_
  simp only [List.length_cons, List.length_nil, Nat.zero_add]
  omega
  with_reducible refine And.intro ?_ ?_
  omega
  with_reducible refine And.intro ?_ ?_
  omega
  ((with_reducible refine isQ (Q := Q) ?_); exact hT hyes _ (hw _ _ _ _))
  simp only [eX3_make_48R, eX3_make_49, eX3_make_54, kx_l, tl_s]
  with_reducible refine go_S h1 (fun _ _ hY1 => ?_)
  simp only [eX3_make_55, eX3_make_59, g0, gS, ex1, nf_i, true_and]
  with_reducible refine go_Sw h1 (fun _ _ _ hw => ?_)
  with_reducible refine And.intro ?_ ?_
  simp only [List.length_cons, List.length_nil, Nat.zero_add]
  omega
  with_reducible refine And.intro ?_ ?_
  omega
  with_reducible refine And.intro ?_ ?_
  omega
  ((with_reducible refine isQ (Q := Q) ?_); exact hT hyes _ (hw _ _ _ _))
  simp only [eX3_make_10, eX3_make_13, eX3_make_18, eX3_make_22, eX3_make_26R, eX3_make_30R, eX3_make_35R, eX3_make_40R, if_true, n4e, upw2q, kx_l, gl_s, wt_nil, tl_s, upw_s, Nat.zero_add, Nat.add_zero]
  with_reducible refine And.intro ?_ ?_
  with_reducible refine go_S hM (fun _ _ hY => ?_)
  with_reducible exact trivial
  with_reducible refine And.intro ?_ ?_
  omega
  with_reducible refine And.intro ?_ ?_
  omega
  with_reducible refine And.intro ?_ ?_
  omega
  with_reducible refine fX3_no hM (fun w1 h1 => ?_)
  simp only [eX3_make_17, kx_l, tl_s]
  with_reducible refine And.intro ?_ ?_
  omega
  with_reducible refine And.intro ?_ ?_
  omega
  with_reducible exact hF hno _ h1
theorem fX3_makeR {a : Int32} {p q r t : Int64} (hM : MS g w0 y nM kd th s w) (k : okC a) (hT : oP p q r t → ∀ w', MS g w0 y nM kd th (sMk s a.toNatClampNeg (p, q, r, t)) w' → MS g w y nM kd th (sMk s a.toNatClampNeg (p, q, r, t)) w' → Q (.inl (some (.int 1))) w') (hF : ¬ oP p q r t → ∀ w', MS g w0 y nM kd th (sRf s) w' → Q (.inl (some (.int (-9)))) w') : WP (MX3_make g) Q (0, [some (.ref y), some (.int a), some (.long p), none, some (.long q), none, some (.long r), none, some (.long t), none], [], w, 0, 0) := fX3_make hM.st k (fun e w' h => hT e w' (hM.cat h) h) (fun e w' h => hF e w' (hM.cat h))
set_option maxHeartbeats 4000000 in
theorem fX3_isNoPair {a c : Int32} (hM : MS g w0 y nM kd th s w) (hX : ¬ (okC a ∧ okC c) → ∀ w', MS g w0 y nM kd 1 s w' → Q (.inl (some (.int 1))) w') (hS : okC a → okC c → s.2.1 c.toNatClampNeg = none → ∀ w', MS g w0 y nM kd 2 s w' → Q (.inl (some (.int 1))) w') (hQ : okC a → okC c → ∀ r, s.2.1 c.toNatClampNeg = some r → ∀ w', MS g w0 y nM kd 0 s w' → Q (.inl (some (.int 0))) w') : WP (MX3_isNoPair g) Q (0, [some (.ref y), some (.int a), some (.int c)], [], w, 0, 0) := by
  simp only [eX3_isNoPair_0, wt_nil, wt_ref, Nat.add_zero]
  with_reducible refine And.intro ?_ ?_
  omega
  with_reducible refine And.intro ?_ ?_
  omega
  with_reducible refine And.intro ?_ ?_
  omega
  with_reducible refine fX3_isNoCard (fun _ => ?_) (fun _ => ?_)
  simp only [eX3_isNoPair_5, eX3_isNoPair_8, eX3_isNoPair_15, eX3_isNoPair_20, i10, if_false, kx_l, wt_nil, wt_ref, tl_s, Nat.add_zero]
  with_reducible refine And.intro ?_ ?_
  with_reducible refine go_S (by assumption) (fun _ _ hY => ?_)
  with_reducible exact trivial
  with_reducible refine And.intro ?_ ?_
  omega
  with_reducible refine And.intro ?_ ?_
  omega
  with_reducible refine And.intro ?_ ?_
  omega
  with_reducible refine fX3_start (by assumption) (by decide) (fun _ w1 h1 => ?_) (fun _ w1 h1 => ?_)
  with_reducible exact absurd (by assumption) n10'
  simp only [eX3_isNoPair_24, eX3_isNoPair_27, eX3_isNoPair_33, eX3_isNoPair_40, eX3_isNoPair_45, i10, if_false, kx_l, wt_nil, wt_ref, tl_s, nb_1, true_and, Nat.add_zero]
  with_reducible refine And.intro ?_ ?_
  omega
  with_reducible refine And.intro ?_ ?_
  omega
  with_reducible exact hX (fun h => absurd h.1 (by assumption)) _ (by assumption)
  simp only [eX3_isNoPair_5, eX3_isNoPair_8, eX3_isNoPair_15, eX3_isNoPair_20, if_true, kx_l, wt_nil, wt_ref, tl_s, Nat.add_zero]
  with_reducible refine And.intro ?_ ?_
  omega
  with_reducible refine And.intro ?_ ?_
  omega
  with_reducible refine And.intro ?_ ?_
  omega
  with_reducible refine fX3_isNoCard (fun _ => ?_) (fun _ => ?_)
  simp only [eX3_isNoPair_12, eX3_isNoPair_15, eX3_isNoPair_19, eX3_isNoPair_20, i10, if_false, kx_l, wt_nil, tl_s, Nat.add_zero]
  with_reducible refine And.intro ?_ ?_
  with_reducible refine go_S (by assumption) (fun _ _ hY => ?_)
  with_reducible exact trivial
  with_reducible refine And.intro ?_ ?_
  omega
  with_reducible refine And.intro ?_ ?_
  omega
  with_reducible refine And.intro ?_ ?_
  omega
  with_reducible refine fX3_start (by assumption) (by decide) (fun _ w1 h1 => ?_) (fun _ w1 h1 => ?_)
  with_reducible exact absurd (by assumption) n10'
  simp only [eX3_isNoPair_24, eX3_isNoPair_27, eX3_isNoPair_33, eX3_isNoPair_40, eX3_isNoPair_45, i10, if_false, kx_l, wt_nil, wt_ref, tl_s, nb_1, true_and, Nat.add_zero]
  with_reducible refine And.intro ?_ ?_
  omega
  with_reducible refine And.intro ?_ ?_
  omega
  with_reducible exact hX (fun h => absurd h.2 (by assumption)) _ (by assumption)
  simp only [eX3_isNoPair_12, eX3_isNoPair_15, eX3_isNoPair_19, eX3_isNoPair_20, if_true, kx_l, wt_nil, tl_s, Nat.add_zero]
  with_reducible refine And.intro ?_ ?_
  with_reducible refine go_S (by assumption) (fun _ _ hY => ?_)
  with_reducible exact trivial
  with_reducible refine And.intro ?_ ?_
  omega
  with_reducible refine And.intro ?_ ?_
  omega
  with_reducible refine And.intro ?_ ?_
  omega
  with_reducible refine fX3_start (by assumption) (by decide) (fun _ w1 h1 => ?_) (fun _ w1 h1 => ?_)
  simp only [eX3_isNoPair_24, eX3_isNoPair_27, eX3_isNoPair_33, eX3_isNoPair_40, eX3_isNoPair_45, if_true, kx_l, wt_nil, wt_ref, tl_s, nb_1, true_and, Nat.add_zero]
  with_reducible refine And.intro ?_ ?_
  with_reducible refine go_S (by assumption) (fun _ _ hY => ?_)
  with_reducible exact trivial
  with_reducible refine And.intro ?_ ?_
  omega
  with_reducible refine And.intro ?_ ?_
  omega
  with_reducible refine And.intro ?_ ?_
  omega
  with_reducible refine fX3_isBare (by assumption) (by assumption) (fun _ => ?_) (fun _ _ => ?_)
  simp only [eX3_isNoPair_34, kx_l, wt_nil, tl_s, Nat.add_zero]
  with_reducible refine And.intro ?_ ?_
  with_reducible refine go_S (by assumption) (fun _ _ hY => ?_)
  with_reducible exact trivial
  with_reducible refine And.intro ?_ ?_
  omega
  with_reducible refine And.intro ?_ ?_
  omega
  with_reducible refine And.intro ?_ ?_
  omega
  with_reducible refine fX3_refuse (by assumption) (by decide) (fun _ => ?_) (fun _ w2 h2 => ?_)
  with_reducible exact absurd (by assumption) n10'
  simp only [eX3_isNoPair_37, eX3_isNoPair_40, eX3_isNoPair_44, eX3_isNoPair_45, i10, if_false, kx_l, tl_s, nb_0, nb_1, true_and]
  with_reducible refine And.intro ?_ ?_
  omega
  with_reducible refine And.intro ?_ ?_
  omega
  with_reducible exact hS (by assumption) (by assumption) (by assumption) _ (by assumption)
  simp only [eX3_isNoPair_34, kx_l, wt_nil, tl_s, Nat.add_zero]
  with_reducible refine And.intro ?_ ?_
  with_reducible refine go_S (by assumption) (fun _ _ hY => ?_)
  with_reducible exact trivial
  with_reducible refine And.intro ?_ ?_
  omega
  with_reducible refine And.intro ?_ ?_
  omega
  with_reducible refine And.intro ?_ ?_
  omega
  with_reducible refine fX3_refuse (by assumption) (by decide) (fun _ => ?_) (fun _ w2 h2 => ?_)
  simp only [eX3_isNoPair_37, eX3_isNoPair_40, eX3_isNoPair_44, eX3_isNoPair_45, if_true, kx_l, tl_s, nb_0, nb_1, true_and]
  with_reducible refine And.intro ?_ ?_
  omega
  with_reducible refine And.intro ?_ ?_
  omega
  with_reducible exact hQ (by assumption) (by assumption) _ (by assumption) _ (by assumption)
  with_reducible exact n00x (by assumption)
  with_reducible exact n00x (by assumption)
set_option maxHeartbeats 4000000 in
theorem fX3_isNone {a : Int32} (hM : MS g w0 y nM kd th s w) (hX : ¬ (okC a) → ∀ w', MS g w0 y nM kd 1 s w' → Q (.inl (some (.int 1))) w') (hS : okC a → s.2.1 a.toNatClampNeg = none → ∀ w', MS g w0 y nM kd 2 s w' → Q (.inl (some (.int 1))) w') (hQ : okC a → ∀ r, s.2.1 a.toNatClampNeg = some r → ∀ w', MS g w0 y nM kd 0 s w' → Q (.inl (some (.int 0))) w') : WP (MX3_isNone g) Q (0, [some (.ref y), some (.int a)], [], w, 0, 0) := by
  simp only [eX3_isNone_0, eX3_isNone_5, wt_nil, wt_ref, Nat.add_zero]
  with_reducible refine And.intro ?_ ?_
  omega
  with_reducible refine And.intro ?_ ?_
  omega
  with_reducible refine And.intro ?_ ?_
  omega
  with_reducible refine fX3_isNoCard (fun _ => ?_) (fun _ => ?_)
  simp only [eX3_isNone_6, kx_l, wt_nil, tl_s, Nat.add_zero]
  with_reducible refine And.intro ?_ ?_
  with_reducible refine go_S (by assumption) (fun _ _ hY => ?_)
  with_reducible exact trivial
  with_reducible refine And.intro ?_ ?_
  omega
  with_reducible refine And.intro ?_ ?_
  omega
  with_reducible refine And.intro ?_ ?_
  omega
  with_reducible refine fX3_start (by assumption) (by decide) (fun _ w1 h1 => ?_) (fun _ w1 h1 => ?_)
  with_reducible exact absurd (by assumption) n10'
  simp only [eX3_isNone_9, eX3_isNone_12, eX3_isNone_18, eX3_isNone_25, eX3_isNone_30, i10, if_false, kx_l, wt_nil, wt_ref, tl_s, nb_1, true_and, Nat.add_zero]
  with_reducible refine And.intro ?_ ?_
  omega
  with_reducible refine And.intro ?_ ?_
  omega
  with_reducible exact hX (fun h => absurd h (by assumption)) _ (by assumption)
  simp only [eX3_isNone_6, kx_l, wt_nil, tl_s, Nat.add_zero]
  with_reducible refine And.intro ?_ ?_
  with_reducible refine go_S (by assumption) (fun _ _ hY => ?_)
  with_reducible exact trivial
  with_reducible refine And.intro ?_ ?_
  omega
  with_reducible refine And.intro ?_ ?_
  omega
  with_reducible refine And.intro ?_ ?_
  omega
  with_reducible refine fX3_start (by assumption) (by decide) (fun _ w1 h1 => ?_) (fun _ w1 h1 => ?_)
  simp only [eX3_isNone_9, eX3_isNone_12, eX3_isNone_18, eX3_isNone_25, eX3_isNone_30, if_true, kx_l, wt_nil, wt_ref, tl_s, nb_1, true_and, Nat.add_zero]
  with_reducible refine And.intro ?_ ?_
  with_reducible refine go_S (by assumption) (fun _ _ hY => ?_)
  with_reducible exact trivial
  with_reducible refine And.intro ?_ ?_
  omega
  with_reducible refine And.intro ?_ ?_
  omega
  with_reducible refine And.intro ?_ ?_
  omega
  with_reducible refine fX3_isBare (by assumption) (by assumption) (fun _ => ?_) (fun _ _ => ?_)
  simp only [eX3_isNone_19, kx_l, wt_nil, tl_s, Nat.add_zero]
  with_reducible refine And.intro ?_ ?_
  with_reducible refine go_S (by assumption) (fun _ _ hY => ?_)
  with_reducible exact trivial
  with_reducible refine And.intro ?_ ?_
  omega
  with_reducible refine And.intro ?_ ?_
  omega
  with_reducible refine And.intro ?_ ?_
  omega
  with_reducible refine fX3_refuse (by assumption) (by decide) (fun _ => ?_) (fun _ w2 h2 => ?_)
  with_reducible exact absurd (by assumption) n10'
  simp only [eX3_isNone_22, eX3_isNone_25, eX3_isNone_29, eX3_isNone_30, i10, if_false, kx_l, tl_s, nb_0, nb_1, true_and]
  with_reducible refine And.intro ?_ ?_
  omega
  with_reducible refine And.intro ?_ ?_
  omega
  with_reducible exact hS (by assumption) (by assumption) _ (by assumption)
  simp only [eX3_isNone_19, kx_l, wt_nil, tl_s, Nat.add_zero]
  with_reducible refine And.intro ?_ ?_
  with_reducible refine go_S (by assumption) (fun _ _ hY => ?_)
  with_reducible exact trivial
  with_reducible refine And.intro ?_ ?_
  omega
  with_reducible refine And.intro ?_ ?_
  omega
  with_reducible refine And.intro ?_ ?_
  omega
  with_reducible refine fX3_refuse (by assumption) (by decide) (fun _ => ?_) (fun _ w2 h2 => ?_)
  simp only [eX3_isNone_22, eX3_isNone_25, eX3_isNone_29, eX3_isNone_30, if_true, kx_l, tl_s, nb_0, nb_1, true_and]
  with_reducible refine And.intro ?_ ?_
  omega
  with_reducible refine And.intro ?_ ?_
  omega
  with_reducible exact hQ (by assumption) _ (by assumption) _ (by assumption)
  with_reducible exact n00x (by assumption)
  with_reducible exact n00x (by assumption)
set_option maxHeartbeats 4000000 in
theorem fX3_isNoEnd_ {a c : Int32} (hM : MS g w0 y nM kd th s w) (hX : ¬ (okC a) → ∀ w', MS g w0 y nM kd 1 s w' → Q (.inl (some (.int 1))) w') (hW : okC a → ¬ okW c 3 → ∀ w', MS g w0 y nM kd 2 s w' → Q (.inl (some (.int 1))) w') (hS : okC a → okW c 3 → s.2.1 a.toNatClampNeg = none → ∀ w', MS g w0 y nM kd 3 s w' → Q (.inl (some (.int 1))) w') (hQ : okC a → okW c 3 → ∀ r, s.2.1 a.toNatClampNeg = some r → ∀ w', MS g w0 y nM kd 0 s w' → Q (.inl (some (.int 0))) w') : WP (MX3_isNoEnd_ g) Q (0, [some (.ref y), some (.int a), some (.int c)], [], w, 0, 0) := by
  simp only [eX3_isNoEnd__0, eX3_isNoEnd__5, wt_nil, wt_ref, Nat.add_zero]
  with_reducible refine And.intro ?_ ?_
  omega
  with_reducible refine And.intro ?_ ?_
  omega
  with_reducible refine And.intro ?_ ?_
  omega
  with_reducible refine fX3_isNoCard (fun _ => ?_) (fun _ => ?_)
  simp only [eX3_isNoEnd__6, kx_l, wt_nil, tl_s, Nat.add_zero]
  with_reducible refine And.intro ?_ ?_
  with_reducible refine go_S (by assumption) (fun _ _ hY => ?_)
  with_reducible exact trivial
  with_reducible refine And.intro ?_ ?_
  omega
  with_reducible refine And.intro ?_ ?_
  omega
  with_reducible refine And.intro ?_ ?_
  omega
  with_reducible refine fX3_start (by assumption) (by decide) (fun _ w1 h1 => ?_) (fun _ w1 h1 => ?_)
  with_reducible exact absurd (by assumption) n10'
  simp only [eX3_isNoEnd__9, eX3_isNoEnd__12, eX3_isNoEnd__17, eX3_isNoEnd__37, eX3_isNoEnd__42, i10, if_false, kx_l, wt_nil, wt_ref, tl_s, nb_1, true_and, Nat.add_zero]
  with_reducible refine And.intro ?_ ?_
  omega
  with_reducible refine And.intro ?_ ?_
  omega
  with_reducible exact hX (fun h => absurd h (by assumption)) _ (by assumption)
  simp only [eX3_isNoEnd__6, kx_l, wt_nil, tl_s, Nat.add_zero]
  with_reducible refine And.intro ?_ ?_
  with_reducible refine go_S (by assumption) (fun _ _ hY => ?_)
  with_reducible exact trivial
  with_reducible refine And.intro ?_ ?_
  omega
  with_reducible refine And.intro ?_ ?_
  omega
  with_reducible refine And.intro ?_ ?_
  omega
  with_reducible refine fX3_start (by assumption) (by decide) (fun _ w1 h1 => ?_) (fun _ w1 h1 => ?_)
  simp only [eX3_isNoEnd__9, eX3_isNoEnd__12, eX3_isNoEnd__17, eX3_isNoEnd__37, eX3_isNoEnd__42, if_true, kx_l, wt_nil, wt_ref, tl_s, nb_1, true_and, Nat.add_zero]
  with_reducible refine And.intro ?_ ?_
  omega
  with_reducible refine And.intro ?_ ?_
  omega
  with_reducible refine And.intro ?_ ?_
  omega
  with_reducible refine fX3_isNoEnd (fun _ => ?_) (fun _ => ?_)
  simp only [eX3_isNoEnd__18, kx_l, wt_nil, tl_s, Nat.add_zero]
  with_reducible refine And.intro ?_ ?_
  with_reducible refine go_S (by assumption) (fun _ _ hY => ?_)
  with_reducible exact trivial
  with_reducible refine And.intro ?_ ?_
  omega
  with_reducible refine And.intro ?_ ?_
  omega
  with_reducible refine And.intro ?_ ?_
  omega
  with_reducible refine fX3_refuse (by assumption) (by decide) (fun _ => ?_) (fun _ w2 h2 => ?_)
  with_reducible exact absurd (by assumption) n10'
  simp only [eX3_isNoEnd__21, eX3_isNoEnd__24, eX3_isNoEnd__30, eX3_isNoEnd__37, eX3_isNoEnd__42, i10, if_false, kx_l, wt_nil, wt_ref, tl_s, nb_1, true_and, Nat.add_zero]
  with_reducible refine And.intro ?_ ?_
  omega
  with_reducible refine And.intro ?_ ?_
  omega
  with_reducible exact hW (by assumption) (by assumption) _ (by assumption)
  simp only [eX3_isNoEnd__18, kx_l, wt_nil, tl_s, Nat.add_zero]
  with_reducible refine And.intro ?_ ?_
  with_reducible refine go_S (by assumption) (fun _ _ hY => ?_)
  with_reducible exact trivial
  with_reducible refine And.intro ?_ ?_
  omega
  with_reducible refine And.intro ?_ ?_
  omega
  with_reducible refine And.intro ?_ ?_
  omega
  with_reducible refine fX3_refuse (by assumption) (by decide) (fun _ => ?_) (fun _ w2 h2 => ?_)
  simp only [eX3_isNoEnd__21, eX3_isNoEnd__24, eX3_isNoEnd__30, eX3_isNoEnd__37, eX3_isNoEnd__42, if_true, kx_l, wt_nil, wt_ref, tl_s, nb_1, true_and, Nat.add_zero]
  with_reducible refine And.intro ?_ ?_
  with_reducible refine go_S (by assumption) (fun _ _ hY => ?_)
  with_reducible exact trivial
  with_reducible refine And.intro ?_ ?_
  omega
  with_reducible refine And.intro ?_ ?_
  omega
  with_reducible refine And.intro ?_ ?_
  omega
  with_reducible refine fX3_isBare (by assumption) (by assumption) (fun _ => ?_) (fun _ _ => ?_)
  simp only [eX3_isNoEnd__31, kx_l, wt_nil, tl_s, Nat.add_zero]
  with_reducible refine And.intro ?_ ?_
  with_reducible refine go_S (by assumption) (fun _ _ hY => ?_)
  with_reducible exact trivial
  with_reducible refine And.intro ?_ ?_
  omega
  with_reducible refine And.intro ?_ ?_
  omega
  with_reducible refine And.intro ?_ ?_
  omega
  with_reducible refine fX3_refuse (by assumption) (by decide) (fun _ => ?_) (fun _ w2 h2 => ?_)
  with_reducible exact absurd (by assumption) n10'
  simp only [eX3_isNoEnd__34, eX3_isNoEnd__37, eX3_isNoEnd__41, eX3_isNoEnd__42, i10, if_false, kx_l, tl_s, nb_0, nb_1, true_and]
  with_reducible refine And.intro ?_ ?_
  omega
  with_reducible refine And.intro ?_ ?_
  omega
  with_reducible exact hS (by assumption) (by assumption) (by assumption) _ (by assumption)
  simp only [eX3_isNoEnd__31, kx_l, wt_nil, tl_s, Nat.add_zero]
  with_reducible refine And.intro ?_ ?_
  with_reducible refine go_S (by assumption) (fun _ _ hY => ?_)
  with_reducible exact trivial
  with_reducible refine And.intro ?_ ?_
  omega
  with_reducible refine And.intro ?_ ?_
  omega
  with_reducible refine And.intro ?_ ?_
  omega
  with_reducible refine fX3_refuse (by assumption) (by decide) (fun _ => ?_) (fun _ w2 h2 => ?_)
  simp only [eX3_isNoEnd__34, eX3_isNoEnd__37, eX3_isNoEnd__41, eX3_isNoEnd__42, if_true, kx_l, tl_s, nb_0, nb_1, true_and]
  with_reducible refine And.intro ?_ ?_
  omega
  with_reducible refine And.intro ?_ ?_
  omega
  with_reducible exact hQ (by assumption) (by assumption) _ (by assumption) _ (by assumption)
  with_reducible exact n00x (by assumption)
  with_reducible exact n00x (by assumption)
  with_reducible exact n00x (by assumption)
set_option maxHeartbeats 4000000 in
theorem fX3_isNoAsked {a c : Int32} (hM : MS g w0 y nM kd th s w) (hX : ¬ (okC a ∧ okN c) → ∀ w', MS g w0 y nM kd 1 s w' → Q (.inl (some (.int 1))) w') (hS : okC a → okN c → s.2.1 a.toNatClampNeg = none → ∀ w', MS g w0 y nM kd 2 s w' → Q (.inl (some (.int 1))) w') (hQ : okC a → okN c → ∀ r, s.2.1 a.toNatClampNeg = some r → ∀ w', MS g w0 y nM kd 0 s w' → Q (.inl (some (.int 0))) w') : WP (MX3_isNoAsked g) Q (0, [some (.ref y), some (.int a), some (.int c)], [], w, 0, 0) := by
  simp only [eX3_isNoAsked_0, wt_nil, wt_ref, Nat.add_zero]
  with_reducible refine And.intro ?_ ?_
  omega
  with_reducible refine And.intro ?_ ?_
  omega
  with_reducible refine And.intro ?_ ?_
  omega
  with_reducible refine fX3_isNoCard (fun _ => ?_) (fun _ => ?_)
  simp only [eX3_isNoAsked_5, eX3_isNoAsked_8, eX3_isNoAsked_15, eX3_isNoAsked_20, i10, if_false, kx_l, wt_nil, wt_ref, tl_s, Nat.add_zero]
  with_reducible refine And.intro ?_ ?_
  with_reducible refine go_S (by assumption) (fun _ _ hY => ?_)
  with_reducible exact trivial
  with_reducible refine And.intro ?_ ?_
  omega
  with_reducible refine And.intro ?_ ?_
  omega
  with_reducible refine And.intro ?_ ?_
  omega
  with_reducible refine fX3_start (by assumption) (by decide) (fun _ w1 h1 => ?_) (fun _ w1 h1 => ?_)
  with_reducible exact absurd (by assumption) n10'
  simp only [eX3_isNoAsked_24, eX3_isNoAsked_27, eX3_isNoAsked_33, eX3_isNoAsked_40, eX3_isNoAsked_45, i10, if_false, kx_l, wt_nil, wt_ref, tl_s, nb_1, true_and, Nat.add_zero]
  with_reducible refine And.intro ?_ ?_
  omega
  with_reducible refine And.intro ?_ ?_
  omega
  with_reducible exact hX (fun h => absurd h.1 (by assumption)) _ (by assumption)
  simp only [eX3_isNoAsked_5, eX3_isNoAsked_8, eX3_isNoAsked_15, eX3_isNoAsked_20, if_true, kx_l, wt_nil, wt_ref, tl_s, Nat.add_zero]
  with_reducible refine And.intro ?_ ?_
  omega
  with_reducible refine And.intro ?_ ?_
  omega
  with_reducible refine And.intro ?_ ?_
  omega
  with_reducible refine fX3_isNoNumber (fun _ => ?_) (fun _ => ?_)
  simp only [eX3_isNoAsked_12, eX3_isNoAsked_15, eX3_isNoAsked_19, eX3_isNoAsked_20, i10, if_false, kx_l, wt_nil, tl_s, Nat.add_zero]
  with_reducible refine And.intro ?_ ?_
  with_reducible refine go_S (by assumption) (fun _ _ hY => ?_)
  with_reducible exact trivial
  with_reducible refine And.intro ?_ ?_
  omega
  with_reducible refine And.intro ?_ ?_
  omega
  with_reducible refine And.intro ?_ ?_
  omega
  with_reducible refine fX3_start (by assumption) (by decide) (fun _ w1 h1 => ?_) (fun _ w1 h1 => ?_)
  with_reducible exact absurd (by assumption) n10'
  simp only [eX3_isNoAsked_24, eX3_isNoAsked_27, eX3_isNoAsked_33, eX3_isNoAsked_40, eX3_isNoAsked_45, i10, if_false, kx_l, wt_nil, wt_ref, tl_s, nb_1, true_and, Nat.add_zero]
  with_reducible refine And.intro ?_ ?_
  omega
  with_reducible refine And.intro ?_ ?_
  omega
  with_reducible exact hX (fun h => absurd h.2 (by assumption)) _ (by assumption)
  simp only [eX3_isNoAsked_12, eX3_isNoAsked_15, eX3_isNoAsked_19, eX3_isNoAsked_20, if_true, kx_l, wt_nil, tl_s, Nat.add_zero]
  with_reducible refine And.intro ?_ ?_
  with_reducible refine go_S (by assumption) (fun _ _ hY => ?_)
  with_reducible exact trivial
  with_reducible refine And.intro ?_ ?_
  omega
  with_reducible refine And.intro ?_ ?_
  omega
  with_reducible refine And.intro ?_ ?_
  omega
  with_reducible refine fX3_start (by assumption) (by decide) (fun _ w1 h1 => ?_) (fun _ w1 h1 => ?_)
  simp only [eX3_isNoAsked_24, eX3_isNoAsked_27, eX3_isNoAsked_33, eX3_isNoAsked_40, eX3_isNoAsked_45, if_true, kx_l, wt_nil, wt_ref, tl_s, nb_1, true_and, Nat.add_zero]
  with_reducible refine And.intro ?_ ?_
  with_reducible refine go_S (by assumption) (fun _ _ hY => ?_)
  with_reducible exact trivial
  with_reducible refine And.intro ?_ ?_
  omega
  with_reducible refine And.intro ?_ ?_
  omega
  with_reducible refine And.intro ?_ ?_
  omega
  with_reducible refine fX3_isBare (by assumption) (by assumption) (fun _ => ?_) (fun _ _ => ?_)
  simp only [eX3_isNoAsked_34, kx_l, wt_nil, tl_s, Nat.add_zero]
  with_reducible refine And.intro ?_ ?_
  with_reducible refine go_S (by assumption) (fun _ _ hY => ?_)
  with_reducible exact trivial
  with_reducible refine And.intro ?_ ?_
  omega
  with_reducible refine And.intro ?_ ?_
  omega
  with_reducible refine And.intro ?_ ?_
  omega
  with_reducible refine fX3_refuse (by assumption) (by decide) (fun _ => ?_) (fun _ w2 h2 => ?_)
  with_reducible exact absurd (by assumption) n10'
  simp only [eX3_isNoAsked_37, eX3_isNoAsked_40, eX3_isNoAsked_44, eX3_isNoAsked_45, i10, if_false, kx_l, tl_s, nb_0, nb_1, true_and]
  with_reducible refine And.intro ?_ ?_
  omega
  with_reducible refine And.intro ?_ ?_
  omega
  with_reducible exact hS (by assumption) (by assumption) (by assumption) _ (by assumption)
  simp only [eX3_isNoAsked_34, kx_l, wt_nil, tl_s, Nat.add_zero]
  with_reducible refine And.intro ?_ ?_
  with_reducible refine go_S (by assumption) (fun _ _ hY => ?_)
  with_reducible exact trivial
  with_reducible refine And.intro ?_ ?_
  omega
  with_reducible refine And.intro ?_ ?_
  omega
  with_reducible refine And.intro ?_ ?_
  omega
  with_reducible refine fX3_refuse (by assumption) (by decide) (fun _ => ?_) (fun _ w2 h2 => ?_)
  simp only [eX3_isNoAsked_37, eX3_isNoAsked_40, eX3_isNoAsked_44, eX3_isNoAsked_45, if_true, kx_l, tl_s, nb_0, nb_1, true_and]
  with_reducible refine And.intro ?_ ?_
  omega
  with_reducible refine And.intro ?_ ?_
  omega
  with_reducible exact hQ (by assumption) (by assumption) _ (by assumption) _ (by assumption)
  with_reducible exact n00x (by assumption)
  with_reducible exact n00x (by assumption)
end
end
/-! 75.mf5.lean.txt -/
section
section
variable {g : RO} {Q : Ot → Hw → Prop} {w0 w : Hw} {y nM : Nat} {kd th : Int32} {s : AS}
set_option maxHeartbeats 4000000 in
theorem fX3_two {a0 a1 a2 : Int32} (hM : MS g w0 y nM kd th s w) (hX : ¬ (okC a0 ∧ okN a1 ∧ okN a2) → ∀ w', MS g w0 y nM kd 1 s w' → Q (.inl (some (.int 0))) w') (hT : okC a0 → okN a1 → okN a2 → oP (s.1 a1.toNatClampNeg) (s.1 a1.toNatClampNeg) (s.1 a2.toNatClampNeg) (s.1 a2.toNatClampNeg) → ∀ w', MS g w0 y nM kd 0 (sMk s a0.toNatClampNeg (s.1 a1.toNatClampNeg, s.1 a1.toNatClampNeg, s.1 a2.toNatClampNeg, s.1 a2.toNatClampNeg)) w' → Q (.inl (some (.int 1))) w') (hF : okC a0 → okN a1 → okN a2 → ¬ oP (s.1 a1.toNatClampNeg) (s.1 a1.toNatClampNeg) (s.1 a2.toNatClampNeg) (s.1 a2.toNatClampNeg) → ∀ w', MS g w0 y nM kd 0 (sRf s) w' → Q (.inl (some (.int (-9)))) w') : WP (MX3_two g) Q (0, [some (.ref y), some (.int a0), some (.int a1), some (.int a2)], [], w, 0, 0) := by
  simp only [eX3_two_0, wt_nil, wt_ref, Nat.add_zero]
  with_reducible refine And.intro ?_ ?_
  omega
  with_reducible refine And.intro ?_ ?_
  omega
  with_reducible refine And.intro ?_ ?_
  omega
  with_reducible refine fX3_isNoCard (fun _ => ?_) (fun _ => ?_)
  simp only [eX3_two_5, eX3_two_8, eX3_two_22, eX3_two_27, i10, if_false, kx_l, wt_nil, wt_ref, tl_s, Nat.add_zero]
  with_reducible refine And.intro ?_ ?_
  with_reducible refine go_S (by assumption) (fun _ _ hY => ?_)
  with_reducible exact trivial
  with_reducible refine And.intro ?_ ?_
  omega
  with_reducible refine And.intro ?_ ?_
  omega
  with_reducible refine And.intro ?_ ?_
  omega
  with_reducible refine fX3_start (by assumption) (by decide) (fun _ w1 h1 => ?_) (fun _ w1 h1 => ?_)
  with_reducible exact absurd (by assumption) n10'
  simp only [eX3_two_31, eX3_two_34, eX3_two_38, eX3_two_44, eX3_two_67, i10, if_false, kx_l, tl_s]
  with_reducible refine And.intro ?_ ?_
  omega
  with_reducible refine And.intro ?_ ?_
  omega
  with_reducible exact hX (fun h => absurd h.1 (by assumption)) _ (by assumption)
  simp only [eX3_two_5, eX3_two_8, eX3_two_22, eX3_two_27, if_true, kx_l, wt_nil, wt_ref, tl_s, Nat.add_zero]
  with_reducible refine And.intro ?_ ?_
  omega
  with_reducible refine And.intro ?_ ?_
  omega
  with_reducible refine And.intro ?_ ?_
  omega
  with_reducible refine fX3_isNoNumber (fun _ => ?_) (fun _ => ?_)
  simp only [eX3_two_12, eX3_two_15, eX3_two_22, eX3_two_27, i10, if_false, kx_l, wt_nil, wt_ref, tl_s, Nat.add_zero]
  with_reducible refine And.intro ?_ ?_
  with_reducible refine go_S (by assumption) (fun _ _ hY => ?_)
  with_reducible exact trivial
  with_reducible refine And.intro ?_ ?_
  omega
  with_reducible refine And.intro ?_ ?_
  omega
  with_reducible refine And.intro ?_ ?_
  omega
  with_reducible refine fX3_start (by assumption) (by decide) (fun _ w1 h1 => ?_) (fun _ w1 h1 => ?_)
  with_reducible exact absurd (by assumption) n10'
  simp only [eX3_two_31, eX3_two_34, eX3_two_38, eX3_two_44, eX3_two_67, i10, if_false, kx_l, tl_s]
  with_reducible refine And.intro ?_ ?_
  omega
  with_reducible refine And.intro ?_ ?_
  omega
  with_reducible exact hX (fun h => absurd h.2.1 (by assumption)) _ (by assumption)
  simp only [eX3_two_12, eX3_two_15, eX3_two_22, eX3_two_27, if_true, kx_l, wt_nil, wt_ref, tl_s, Nat.add_zero]
  with_reducible refine And.intro ?_ ?_
  omega
  with_reducible refine And.intro ?_ ?_
  omega
  with_reducible refine And.intro ?_ ?_
  omega
  with_reducible refine fX3_isNoNumber (fun _ => ?_) (fun _ => ?_)
  simp only [eX3_two_19, eX3_two_22, eX3_two_26, eX3_two_27, i10, if_false, kx_l, wt_nil, tl_s, Nat.add_zero]
  with_reducible refine And.intro ?_ ?_
  with_reducible refine go_S (by assumption) (fun _ _ hY => ?_)
  with_reducible exact trivial
  with_reducible refine And.intro ?_ ?_
  omega
  with_reducible refine And.intro ?_ ?_
  omega
  with_reducible refine And.intro ?_ ?_
  omega
  with_reducible refine fX3_start (by assumption) (by decide) (fun _ w1 h1 => ?_) (fun _ w1 h1 => ?_)
  with_reducible exact absurd (by assumption) n10'
  simp only [eX3_two_31, eX3_two_34, eX3_two_38, eX3_two_44, eX3_two_67, i10, if_false, kx_l, tl_s]
  with_reducible refine And.intro ?_ ?_
  omega
  with_reducible refine And.intro ?_ ?_
  omega
  with_reducible exact hX (fun h => absurd h.2.2 (by assumption)) _ (by assumption)
  simp only [eX3_two_19, eX3_two_22, eX3_two_26, eX3_two_27, if_true, kx_l, wt_nil, tl_s, Nat.add_zero]
  with_reducible refine And.intro ?_ ?_
  with_reducible refine go_S (by assumption) (fun _ _ hY => ?_)
  with_reducible exact trivial
  with_reducible refine And.intro ?_ ?_
  omega
  with_reducible refine And.intro ?_ ?_
  omega
  with_reducible refine And.intro ?_ ?_
  omega
  with_reducible refine fX3_start (by assumption) (by decide) (fun _ w1 h1 => ?_) (fun _ w1 h1 => ?_)
  simp only [eX3_two_31, eX3_two_34, eX3_two_38, eX3_two_44, eX3_two_67, if_true, kx_l, tl_s]
  with_reducible refine go_S (by assumption) (fun _ _ hY => ?_)
  simp only [eX3_two_45, eX3_two_46, eX3_two_50, g0, gS, ex1]
  with_reducible refine gl_S (by assumption) ?_
  with_reducible refine And.intro ?_ ?_
  with_reducible exact vpi8k (by assumption)
  with_reducible refine go_S (by assumption) (fun _ _ hY => ?_)
  simp only [eX3_two_51, eX3_two_52, eX3_two_56, g0, gS, ex1]
  with_reducible refine gl_S (by assumption) ?_
  with_reducible refine And.intro ?_ ?_
  with_reducible exact vpi8k (by assumption)
  with_reducible refine go_S (by assumption) (fun _ _ hY => ?_)
  simp only [eX3_two_57, eX3_two_58, eX3_two_62, g0, gS, ex1]
  with_reducible refine gl_S (by assumption) ?_
  with_reducible refine And.intro ?_ ?_
  with_reducible exact vpi8k (by assumption)
  with_reducible refine go_S (by assumption) (fun _ _ hY => ?_)
  simp only [eX3_two_63, eX3_two_64, wt_nil, g0, gS, ex1, Nat.zero_add]
  with_reducible refine gl_S (by assumption) ?_
  with_reducible refine And.intro ?_ ?_
  with_reducible exact vpi8k (by assumption)
  with_reducible refine And.intro ?_ ?_
  with_reducible refine go_S (by assumption) (fun _ _ hY => ?_)
  with_reducible exact trivial
  with_reducible refine And.intro ?_ ?_
  omega
  with_reducible refine And.intro ?_ ?_
  omega
  with_reducible refine And.intro ?_ ?_
  omega
  with_reducible refine fX3_make (by assumption) (by assumption) (fun hyes w3 h3 => ?_) (fun hno w3 h3 => ?_)
  simp only [eX3_two_67, kx_l, tl_s]
  with_reducible refine And.intro ?_ ?_
  omega
  with_reducible refine And.intro ?_ ?_
  omega
  with_reducible exact hT (by assumption) (by assumption) (by assumption) hyes _ h3
  simp only [eX3_two_67, kx_l, tl_s]
  with_reducible refine And.intro ?_ ?_
  omega
  with_reducible refine And.intro ?_ ?_
  omega
  with_reducible exact hF (by assumption) (by assumption) (by assumption) hno _ h3
  with_reducible exact n00x (by assumption)
set_option maxHeartbeats 4000000 in
theorem fX3_three {a0 a1 a2 a3 : Int32} (hM : MS g w0 y nM kd th s w) (hX : ¬ (okC a0 ∧ okN a1 ∧ okN a2 ∧ okN a3) → ∀ w', MS g w0 y nM kd 1 s w' → Q (.inl (some (.int 0))) w') (hT : okC a0 → okN a1 → okN a2 → okN a3 → oP (s.1 a1.toNatClampNeg) (s.1 a1.toNatClampNeg) (s.1 a2.toNatClampNeg) (s.1 a3.toNatClampNeg) → ∀ w', MS g w0 y nM kd 0 (sMk s a0.toNatClampNeg (s.1 a1.toNatClampNeg, s.1 a1.toNatClampNeg, s.1 a2.toNatClampNeg, s.1 a3.toNatClampNeg)) w' → Q (.inl (some (.int 1))) w') (hF : okC a0 → okN a1 → okN a2 → okN a3 → ¬ oP (s.1 a1.toNatClampNeg) (s.1 a1.toNatClampNeg) (s.1 a2.toNatClampNeg) (s.1 a3.toNatClampNeg) → ∀ w', MS g w0 y nM kd 0 (sRf s) w' → Q (.inl (some (.int (-9)))) w') : WP (MX3_three g) Q (0, [some (.ref y), some (.int a0), some (.int a1), some (.int a2), some (.int a3)], [], w, 0, 0) := by
  simp only [eX3_three_0, wt_nil, wt_ref, Nat.add_zero]
  with_reducible refine And.intro ?_ ?_
  omega
  with_reducible refine And.intro ?_ ?_
  omega
  with_reducible refine And.intro ?_ ?_
  omega
  with_reducible refine fX3_isNoCard (fun _ => ?_) (fun _ => ?_)
  simp only [eX3_three_5, eX3_three_8, eX3_three_30, eX3_three_35, i10, if_false, kx_l, wt_nil, wt_ref, tl_s, Nat.add_zero]
  with_reducible refine And.intro ?_ ?_
  with_reducible refine go_S (by assumption) (fun _ _ hY => ?_)
  with_reducible exact trivial
  with_reducible refine And.intro ?_ ?_
  omega
  with_reducible refine And.intro ?_ ?_
  omega
  with_reducible refine And.intro ?_ ?_
  omega
  with_reducible refine fX3_start (by assumption) (by decide) (fun _ w1 h1 => ?_) (fun _ w1 h1 => ?_)
  with_reducible exact absurd (by assumption) n10'
  simp only [eX3_three_39, eX3_three_42, eX3_three_46, eX3_three_52, eX3_three_76, i10, if_false, kx_l, tl_s]
  with_reducible refine And.intro ?_ ?_
  omega
  with_reducible refine And.intro ?_ ?_
  omega
  with_reducible exact hX (fun h => absurd h.1 (by assumption)) _ (by assumption)
  simp only [eX3_three_5, eX3_three_8, eX3_three_30, eX3_three_35, if_true, kx_l, wt_nil, wt_ref, tl_s, Nat.add_zero]
  with_reducible refine And.intro ?_ ?_
  omega
  with_reducible refine And.intro ?_ ?_
  omega
  with_reducible refine And.intro ?_ ?_
  omega
  with_reducible refine fX3_isNoNumber (fun _ => ?_) (fun _ => ?_)
  simp only [eX3_three_12, eX3_three_15, eX3_three_30, eX3_three_35, i10, if_false, kx_l, wt_nil, wt_ref, tl_s, Nat.add_zero]
  with_reducible refine And.intro ?_ ?_
  with_reducible refine go_S (by assumption) (fun _ _ hY => ?_)
  with_reducible exact trivial
  with_reducible refine And.intro ?_ ?_
  omega
  with_reducible refine And.intro ?_ ?_
  omega
  with_reducible refine And.intro ?_ ?_
  omega
  with_reducible refine fX3_start (by assumption) (by decide) (fun _ w1 h1 => ?_) (fun _ w1 h1 => ?_)
  with_reducible exact absurd (by assumption) n10'
  simp only [eX3_three_39, eX3_three_42, eX3_three_46, eX3_three_52, eX3_three_76, i10, if_false, kx_l, tl_s]
  with_reducible refine And.intro ?_ ?_
  omega
  with_reducible refine And.intro ?_ ?_
  omega
  with_reducible exact hX (fun h => absurd h.2.1 (by assumption)) _ (by assumption)
  simp only [eX3_three_12, eX3_three_15, eX3_three_30, eX3_three_35, if_true, kx_l, wt_nil, wt_ref, tl_s, Nat.add_zero]
  with_reducible refine And.intro ?_ ?_
  omega
  with_reducible refine And.intro ?_ ?_
  omega
  with_reducible refine And.intro ?_ ?_
  omega
  with_reducible refine fX3_isNoNumber (fun _ => ?_) (fun _ => ?_)
  simp only [eX3_three_19, eX3_three_22, eX3_three_30, eX3_three_35, i10, if_false, kx_l, wt_nil, wt_ref, tl_s, Nat.add_zero]
  with_reducible refine And.intro ?_ ?_
  with_reducible refine go_S (by assumption) (fun _ _ hY => ?_)
  with_reducible exact trivial
  with_reducible refine And.intro ?_ ?_
  omega
  with_reducible refine And.intro ?_ ?_
  omega
  with_reducible refine And.intro ?_ ?_
  omega
  with_reducible refine fX3_start (by assumption) (by decide) (fun _ w1 h1 => ?_) (fun _ w1 h1 => ?_)
  with_reducible exact absurd (by assumption) n10'
  simp only [eX3_three_39, eX3_three_42, eX3_three_46, eX3_three_52, eX3_three_76, i10, if_false, kx_l, tl_s]
  with_reducible refine And.intro ?_ ?_
  omega
  with_reducible refine And.intro ?_ ?_
  omega
  with_reducible exact hX (fun h => absurd h.2.2.1 (by assumption)) _ (by assumption)
  simp only [eX3_three_19, eX3_three_22, eX3_three_30, eX3_three_35, if_true, kx_l, wt_nil, wt_ref, tl_s, Nat.add_zero]
  with_reducible refine And.intro ?_ ?_
  omega
  with_reducible refine And.intro ?_ ?_
  omega
  with_reducible refine And.intro ?_ ?_
  omega
  with_reducible refine fX3_isNoNumber (fun _ => ?_) (fun _ => ?_)
  simp only [eX3_three_27, eX3_three_30, eX3_three_34, eX3_three_35, i10, if_false, kx_l, wt_nil, tl_s, Nat.add_zero]
  with_reducible refine And.intro ?_ ?_
  with_reducible refine go_S (by assumption) (fun _ _ hY => ?_)
  with_reducible exact trivial
  with_reducible refine And.intro ?_ ?_
  omega
  with_reducible refine And.intro ?_ ?_
  omega
  with_reducible refine And.intro ?_ ?_
  omega
  with_reducible refine fX3_start (by assumption) (by decide) (fun _ w1 h1 => ?_) (fun _ w1 h1 => ?_)
  with_reducible exact absurd (by assumption) n10'
  simp only [eX3_three_39, eX3_three_42, eX3_three_46, eX3_three_52, eX3_three_76, i10, if_false, kx_l, tl_s]
  with_reducible refine And.intro ?_ ?_
  omega
  with_reducible refine And.intro ?_ ?_
  omega
  with_reducible exact hX (fun h => absurd h.2.2.2 (by assumption)) _ (by assumption)
  simp only [eX3_three_27, eX3_three_30, eX3_three_34, eX3_three_35, if_true, kx_l, wt_nil, tl_s, Nat.add_zero]
  with_reducible refine And.intro ?_ ?_
  with_reducible refine go_S (by assumption) (fun _ _ hY => ?_)
  with_reducible exact trivial
  with_reducible refine And.intro ?_ ?_
  omega
  with_reducible refine And.intro ?_ ?_
  omega
  with_reducible refine And.intro ?_ ?_
  omega
  with_reducible refine fX3_start (by assumption) (by decide) (fun _ w1 h1 => ?_) (fun _ w1 h1 => ?_)
  simp only [eX3_three_39, eX3_three_42, eX3_three_46, eX3_three_52, eX3_three_76, if_true, kx_l, tl_s]
  with_reducible refine go_S (by assumption) (fun _ _ hY => ?_)
  simp only [eX3_three_53, eX3_three_54, eX3_three_58, g0, gS, ex1]
  with_reducible refine gl_S (by assumption) ?_
  with_reducible refine And.intro ?_ ?_
  with_reducible exact vpi8k (by assumption)
  with_reducible refine go_S (by assumption) (fun _ _ hY => ?_)
  simp only [eX3_three_59, eX3_three_60, eX3_three_64, g0, gS, ex1]
  with_reducible refine gl_S (by assumption) ?_
  with_reducible refine And.intro ?_ ?_
  with_reducible exact vpi8k (by assumption)
  with_reducible refine go_S (by assumption) (fun _ _ hY => ?_)
  simp only [eX3_three_65, eX3_three_66, eX3_three_70, g0, gS, ex1]
  with_reducible refine gl_S (by assumption) ?_
  with_reducible refine And.intro ?_ ?_
  with_reducible exact vpi8k (by assumption)
  with_reducible refine go_S (by assumption) (fun _ _ hY => ?_)
  simp only [eX3_three_72, eX3_three_73, wt_nil, g0, gS, ex1, Nat.zero_add]
  with_reducible refine gl_S (by assumption) ?_
  with_reducible refine And.intro ?_ ?_
  with_reducible exact vpi8k (by assumption)
  with_reducible refine And.intro ?_ ?_
  with_reducible refine go_S (by assumption) (fun _ _ hY => ?_)
  with_reducible exact trivial
  with_reducible refine And.intro ?_ ?_
  omega
  with_reducible refine And.intro ?_ ?_
  omega
  with_reducible refine And.intro ?_ ?_
  omega
  with_reducible refine fX3_make (by assumption) (by assumption) (fun hyes w3 h3 => ?_) (fun hno w3 h3 => ?_)
  simp only [eX3_three_76, kx_l, tl_s]
  with_reducible refine And.intro ?_ ?_
  omega
  with_reducible refine And.intro ?_ ?_
  omega
  with_reducible exact hT (by assumption) (by assumption) (by assumption) (by assumption) hyes _ h3
  simp only [eX3_three_76, kx_l, tl_s]
  with_reducible refine And.intro ?_ ?_
  omega
  with_reducible refine And.intro ?_ ?_
  omega
  with_reducible exact hF (by assumption) (by assumption) (by assumption) (by assumption) hno _ h3
  with_reducible exact n00x (by assumption)
set_option maxHeartbeats 4000000 in
theorem fX3_four {a0 a1 a2 a3 a4 : Int32} (hM : MS g w0 y nM kd th s w) (hX : ¬ (okC a0 ∧ okN a1 ∧ okN a2 ∧ okN a3 ∧ okN a4) → ∀ w', MS g w0 y nM kd 1 s w' → Q (.inl (some (.int 0))) w') (hT : okC a0 → okN a1 → okN a2 → okN a3 → okN a4 → oP (s.1 a1.toNatClampNeg) (s.1 a2.toNatClampNeg) (s.1 a3.toNatClampNeg) (s.1 a4.toNatClampNeg) → ∀ w', MS g w0 y nM kd 0 (sMk s a0.toNatClampNeg (s.1 a1.toNatClampNeg, s.1 a2.toNatClampNeg, s.1 a3.toNatClampNeg, s.1 a4.toNatClampNeg)) w' → Q (.inl (some (.int 1))) w') (hF : okC a0 → okN a1 → okN a2 → okN a3 → okN a4 → ¬ oP (s.1 a1.toNatClampNeg) (s.1 a2.toNatClampNeg) (s.1 a3.toNatClampNeg) (s.1 a4.toNatClampNeg) → ∀ w', MS g w0 y nM kd 0 (sRf s) w' → Q (.inl (some (.int (-9)))) w') : WP (MX3_four g) Q (0, [some (.ref y), some (.int a0), some (.int a1), some (.int a2), some (.int a3), some (.int a4)], [], w, 0, 0) := by
  simp only [eX3_four_0, wt_nil, wt_ref, Nat.add_zero]
  with_reducible refine And.intro ?_ ?_
  omega
  with_reducible refine And.intro ?_ ?_
  omega
  with_reducible refine And.intro ?_ ?_
  omega
  with_reducible refine fX3_isNoCard (fun _ => ?_) (fun _ => ?_)
  simp only [eX3_four_5, eX3_four_8, eX3_four_38, eX3_four_43, i10, if_false, kx_l, wt_nil, wt_ref, tl_s, Nat.add_zero]
  with_reducible refine And.intro ?_ ?_
  with_reducible refine go_S (by assumption) (fun _ _ hY => ?_)
  with_reducible exact trivial
  with_reducible refine And.intro ?_ ?_
  omega
  with_reducible refine And.intro ?_ ?_
  omega
  with_reducible refine And.intro ?_ ?_
  omega
  with_reducible refine fX3_start (by assumption) (by decide) (fun _ w1 h1 => ?_) (fun _ w1 h1 => ?_)
  with_reducible exact absurd (by assumption) n10'
  simp only [eX3_four_47, eX3_four_50, eX3_four_54, eX3_four_60, eX3_four_85, i10, if_false, kx_l, tl_s]
  with_reducible refine And.intro ?_ ?_
  omega
  with_reducible refine And.intro ?_ ?_
  omega
  with_reducible exact hX (fun h => absurd h.1 (by assumption)) _ (by assumption)
  simp only [eX3_four_5, eX3_four_8, eX3_four_38, eX3_four_43, if_true, kx_l, wt_nil, wt_ref, tl_s, Nat.add_zero]
  with_reducible refine And.intro ?_ ?_
  omega
  with_reducible refine And.intro ?_ ?_
  omega
  with_reducible refine And.intro ?_ ?_
  omega
  with_reducible refine fX3_isNoNumber (fun _ => ?_) (fun _ => ?_)
  simp only [eX3_four_12, eX3_four_15, eX3_four_38, eX3_four_43, i10, if_false, kx_l, wt_nil, wt_ref, tl_s, Nat.add_zero]
  with_reducible refine And.intro ?_ ?_
  with_reducible refine go_S (by assumption) (fun _ _ hY => ?_)
  with_reducible exact trivial
  with_reducible refine And.intro ?_ ?_
  omega
  with_reducible refine And.intro ?_ ?_
  omega
  with_reducible refine And.intro ?_ ?_
  omega
  with_reducible refine fX3_start (by assumption) (by decide) (fun _ w1 h1 => ?_) (fun _ w1 h1 => ?_)
  with_reducible exact absurd (by assumption) n10'
  simp only [eX3_four_47, eX3_four_50, eX3_four_54, eX3_four_60, eX3_four_85, i10, if_false, kx_l, tl_s]
  with_reducible refine And.intro ?_ ?_
  omega
  with_reducible refine And.intro ?_ ?_
  omega
  with_reducible exact hX (fun h => absurd h.2.1 (by assumption)) _ (by assumption)
  simp only [eX3_four_12, eX3_four_15, eX3_four_38, eX3_four_43, if_true, kx_l, wt_nil, wt_ref, tl_s, Nat.add_zero]
  with_reducible refine And.intro ?_ ?_
  omega
  with_reducible refine And.intro ?_ ?_
  omega
  with_reducible refine And.intro ?_ ?_
  omega
  with_reducible refine fX3_isNoNumber (fun _ => ?_) (fun _ => ?_)
  simp only [eX3_four_19, eX3_four_22, eX3_four_38, eX3_four_43, i10, if_false, kx_l, wt_nil, wt_ref, tl_s, Nat.add_zero]
  with_reducible refine And.intro ?_ ?_
  with_reducible refine go_S (by assumption) (fun _ _ hY => ?_)
  with_reducible exact trivial
  with_reducible refine And.intro ?_ ?_
  omega
  with_reducible refine And.intro ?_ ?_
  omega
  with_reducible refine And.intro ?_ ?_
  omega
  with_reducible refine fX3_start (by assumption) (by decide) (fun _ w1 h1 => ?_) (fun _ w1 h1 => ?_)
  with_reducible exact absurd (by assumption) n10'
  simp only [eX3_four_47, eX3_four_50, eX3_four_54, eX3_four_60, eX3_four_85, i10, if_false, kx_l, tl_s]
  with_reducible refine And.intro ?_ ?_
  omega
  with_reducible refine And.intro ?_ ?_
  omega
  with_reducible exact hX (fun h => absurd h.2.2.1 (by assumption)) _ (by assumption)
  simp only [eX3_four_19, eX3_four_22, eX3_four_38, eX3_four_43, if_true, kx_l, wt_nil, wt_ref, tl_s, Nat.add_zero]
  with_reducible refine And.intro ?_ ?_
  omega
  with_reducible refine And.intro ?_ ?_
  omega
  with_reducible refine And.intro ?_ ?_
  omega
  with_reducible refine fX3_isNoNumber (fun _ => ?_) (fun _ => ?_)
  simp only [eX3_four_27, eX3_four_30, eX3_four_38, eX3_four_43, i10, if_false, kx_l, wt_nil, wt_ref, tl_s, Nat.add_zero]
  with_reducible refine And.intro ?_ ?_
  with_reducible refine go_S (by assumption) (fun _ _ hY => ?_)
  with_reducible exact trivial
  with_reducible refine And.intro ?_ ?_
  omega
  with_reducible refine And.intro ?_ ?_
  omega
  with_reducible refine And.intro ?_ ?_
  omega
  with_reducible refine fX3_start (by assumption) (by decide) (fun _ w1 h1 => ?_) (fun _ w1 h1 => ?_)
  with_reducible exact absurd (by assumption) n10'
  simp only [eX3_four_47, eX3_four_50, eX3_four_54, eX3_four_60, eX3_four_85, i10, if_false, kx_l, tl_s]
  with_reducible refine And.intro ?_ ?_
  omega
  with_reducible refine And.intro ?_ ?_
  omega
  with_reducible exact hX (fun h => absurd h.2.2.2.1 (by assumption)) _ (by assumption)
  simp only [eX3_four_27, eX3_four_30, eX3_four_38, eX3_four_43, if_true, kx_l, wt_nil, wt_ref, tl_s, Nat.add_zero]
  with_reducible refine And.intro ?_ ?_
  omega
  with_reducible refine And.intro ?_ ?_
  omega
  with_reducible refine And.intro ?_ ?_
  omega
  with_reducible refine fX3_isNoNumber (fun _ => ?_) (fun _ => ?_)
  simp only [eX3_four_35, eX3_four_38, eX3_four_42, eX3_four_43, i10, if_false, kx_l, wt_nil, tl_s, Nat.add_zero]
  with_reducible refine And.intro ?_ ?_
  with_reducible refine go_S (by assumption) (fun _ _ hY => ?_)
  with_reducible exact trivial
  with_reducible refine And.intro ?_ ?_
  omega
  with_reducible refine And.intro ?_ ?_
  omega
  with_reducible refine And.intro ?_ ?_
  omega
  with_reducible refine fX3_start (by assumption) (by decide) (fun _ w1 h1 => ?_) (fun _ w1 h1 => ?_)
  with_reducible exact absurd (by assumption) n10'
  simp only [eX3_four_47, eX3_four_50, eX3_four_54, eX3_four_60, eX3_four_85, i10, if_false, kx_l, tl_s]
  with_reducible refine And.intro ?_ ?_
  omega
  with_reducible refine And.intro ?_ ?_
  omega
  with_reducible exact hX (fun h => absurd h.2.2.2.2 (by assumption)) _ (by assumption)
  simp only [eX3_four_35, eX3_four_38, eX3_four_42, eX3_four_43, if_true, kx_l, wt_nil, tl_s, Nat.add_zero]
  with_reducible refine And.intro ?_ ?_
  with_reducible refine go_S (by assumption) (fun _ _ hY => ?_)
  with_reducible exact trivial
  with_reducible refine And.intro ?_ ?_
  omega
  with_reducible refine And.intro ?_ ?_
  omega
  with_reducible refine And.intro ?_ ?_
  omega
  with_reducible refine fX3_start (by assumption) (by decide) (fun _ w1 h1 => ?_) (fun _ w1 h1 => ?_)
  simp only [eX3_four_47, eX3_four_50, eX3_four_54, eX3_four_60, eX3_four_85, if_true, kx_l, tl_s]
  with_reducible refine go_S (by assumption) (fun _ _ hY => ?_)
  simp only [eX3_four_61, eX3_four_62, eX3_four_66, g0, gS, ex1]
  with_reducible refine gl_S (by assumption) ?_
  with_reducible refine And.intro ?_ ?_
  with_reducible exact vpi8k (by assumption)
  with_reducible refine go_S (by assumption) (fun _ _ hY => ?_)
  simp only [eX3_four_67, eX3_four_68, eX3_four_72, g0, gS, ex1]
  with_reducible refine gl_S (by assumption) ?_
  with_reducible refine And.intro ?_ ?_
  with_reducible exact vpi8k (by assumption)
  with_reducible refine go_S (by assumption) (fun _ _ hY => ?_)
  simp only [eX3_four_74, eX3_four_75, eX3_four_79, g0, gS, ex1]
  with_reducible refine gl_S (by assumption) ?_
  with_reducible refine And.intro ?_ ?_
  with_reducible exact vpi8k (by assumption)
  with_reducible refine go_S (by assumption) (fun _ _ hY => ?_)
  simp only [eX3_four_81, eX3_four_82, wt_nil, g0, gS, ex1, Nat.zero_add]
  with_reducible refine gl_S (by assumption) ?_
  with_reducible refine And.intro ?_ ?_
  with_reducible exact vpi8k (by assumption)
  with_reducible refine And.intro ?_ ?_
  with_reducible refine go_S (by assumption) (fun _ _ hY => ?_)
  with_reducible exact trivial
  with_reducible refine And.intro ?_ ?_
  omega
  with_reducible refine And.intro ?_ ?_
  omega
  with_reducible refine And.intro ?_ ?_
  omega
  with_reducible refine fX3_make (by assumption) (by assumption) (fun hyes w3 h3 => ?_) (fun hno w3 h3 => ?_)
  simp only [eX3_four_85, kx_l, tl_s]
  with_reducible refine And.intro ?_ ?_
  omega
  with_reducible refine And.intro ?_ ?_
  omega
  with_reducible exact hT (by assumption) (by assumption) (by assumption) (by assumption) (by assumption) hyes _ h3
  simp only [eX3_four_85, kx_l, tl_s]
  with_reducible refine And.intro ?_ ?_
  omega
  with_reducible refine And.intro ?_ ?_
  omega
  with_reducible exact hF (by assumption) (by assumption) (by assumption) (by assumption) (by assumption) hno _ h3
  with_reducible exact n00x (by assumption)
set_option maxHeartbeats 4000000 in
theorem fX3_twoSmall {a0 a1 a2 : Int32} (hM : MS g w0 y nM kd th s w) (hX : ¬ (okC a0) → ∀ w', MS g w0 y nM kd 1 s w' → Q (.inl (some (.int 0))) w') (hT : okC a0 → oP (a1.toInt64) (a1.toInt64) (a2.toInt64) (a2.toInt64) → ∀ w', MS g w0 y nM kd 0 (sMk s a0.toNatClampNeg (a1.toInt64, a1.toInt64, a2.toInt64, a2.toInt64)) w' → Q (.inl (some (.int 1))) w') (hF : okC a0 → ¬ oP (a1.toInt64) (a1.toInt64) (a2.toInt64) (a2.toInt64) → ∀ w', MS g w0 y nM kd 0 (sRf s) w' → Q (.inl (some (.int (-9)))) w') : WP (MX3_twoSmall g) Q (0, [some (.ref y), some (.int a0), some (.int a1), some (.int a2)], [], w, 0, 0) := by
  simp only [eX3_twoSmall_0, eX3_twoSmall_5, wt_nil, wt_ref, Nat.add_zero]
  with_reducible refine And.intro ?_ ?_
  omega
  with_reducible refine And.intro ?_ ?_
  omega
  with_reducible refine And.intro ?_ ?_
  omega
  with_reducible refine fX3_isNoCard (fun _ => ?_) (fun _ => ?_)
  simp only [eX3_twoSmall_6, kx_l, wt_nil, tl_s, Nat.add_zero]
  with_reducible refine And.intro ?_ ?_
  with_reducible refine go_S (by assumption) (fun _ _ hY => ?_)
  with_reducible exact trivial
  with_reducible refine And.intro ?_ ?_
  omega
  with_reducible refine And.intro ?_ ?_
  omega
  with_reducible refine And.intro ?_ ?_
  omega
  with_reducible refine fX3_start (by assumption) (by decide) (fun _ w1 h1 => ?_) (fun _ w1 h1 => ?_)
  with_reducible exact absurd (by assumption) n10'
  simp only [eX3_twoSmall_9, eX3_twoSmall_12, eX3_twoSmall_16, eX3_twoSmall_29, i10, if_false, kx_l, wt_nil, tl_s, Nat.zero_add]
  with_reducible refine And.intro ?_ ?_
  omega
  with_reducible refine And.intro ?_ ?_
  omega
  with_reducible exact hX (fun h => absurd h (by assumption)) _ (by assumption)
  simp only [eX3_twoSmall_6, kx_l, wt_nil, tl_s, Nat.add_zero]
  with_reducible refine And.intro ?_ ?_
  with_reducible refine go_S (by assumption) (fun _ _ hY => ?_)
  with_reducible exact trivial
  with_reducible refine And.intro ?_ ?_
  omega
  with_reducible refine And.intro ?_ ?_
  omega
  with_reducible refine And.intro ?_ ?_
  omega
  with_reducible refine fX3_start (by assumption) (by decide) (fun _ w1 h1 => ?_) (fun _ w1 h1 => ?_)
  simp only [eX3_twoSmall_9, eX3_twoSmall_12, eX3_twoSmall_16, eX3_twoSmall_29, if_true, kx_l, wt_nil, tl_s, Nat.zero_add]
  with_reducible refine And.intro ?_ ?_
  with_reducible refine go_S (by assumption) (fun _ _ hY => ?_)
  with_reducible exact trivial
  with_reducible refine And.intro ?_ ?_
  omega
  with_reducible refine And.intro ?_ ?_
  omega
  with_reducible refine And.intro ?_ ?_
  omega
  with_reducible refine fX3_make (by assumption) (by assumption) (fun hyes w3 h3 => ?_) (fun hno w3 h3 => ?_)
  simp only [eX3_twoSmall_29, kx_l, tl_s]
  with_reducible refine And.intro ?_ ?_
  omega
  with_reducible refine And.intro ?_ ?_
  omega
  with_reducible exact hT (by assumption) hyes _ h3
  simp only [eX3_twoSmall_29, kx_l, tl_s]
  with_reducible refine And.intro ?_ ?_
  omega
  with_reducible refine And.intro ?_ ?_
  omega
  with_reducible exact hF (by assumption) hno _ h3
  with_reducible exact n00x (by assumption)
set_option maxHeartbeats 4000000 in
theorem fX3_threeSmall {a0 a1 a2 a3 : Int32} (hM : MS g w0 y nM kd th s w) (hX : ¬ (okC a0) → ∀ w', MS g w0 y nM kd 1 s w' → Q (.inl (some (.int 0))) w') (hT : okC a0 → oP (a1.toInt64) (a1.toInt64) (a2.toInt64) (a3.toInt64) → ∀ w', MS g w0 y nM kd 0 (sMk s a0.toNatClampNeg (a1.toInt64, a1.toInt64, a2.toInt64, a3.toInt64)) w' → Q (.inl (some (.int 1))) w') (hF : okC a0 → ¬ oP (a1.toInt64) (a1.toInt64) (a2.toInt64) (a3.toInt64) → ∀ w', MS g w0 y nM kd 0 (sRf s) w' → Q (.inl (some (.int (-9)))) w') : WP (MX3_threeSmall g) Q (0, [some (.ref y), some (.int a0), some (.int a1), some (.int a2), some (.int a3)], [], w, 0, 0) := by
  simp only [eX3_threeSmall_0, eX3_threeSmall_5, wt_nil, wt_ref, Nat.add_zero]
  with_reducible refine And.intro ?_ ?_
  omega
  with_reducible refine And.intro ?_ ?_
  omega
  with_reducible refine And.intro ?_ ?_
  omega
  with_reducible refine fX3_isNoCard (fun _ => ?_) (fun _ => ?_)
  simp only [eX3_threeSmall_6, kx_l, wt_nil, tl_s, Nat.add_zero]
  with_reducible refine And.intro ?_ ?_
  with_reducible refine go_S (by assumption) (fun _ _ hY => ?_)
  with_reducible exact trivial
  with_reducible refine And.intro ?_ ?_
  omega
  with_reducible refine And.intro ?_ ?_
  omega
  with_reducible refine And.intro ?_ ?_
  omega
  with_reducible refine fX3_start (by assumption) (by decide) (fun _ w1 h1 => ?_) (fun _ w1 h1 => ?_)
  with_reducible exact absurd (by assumption) n10'
  simp only [eX3_threeSmall_9, eX3_threeSmall_12, eX3_threeSmall_16, eX3_threeSmall_30, i10, if_false, kx_l, wt_nil, tl_s, Nat.zero_add]
  with_reducible refine And.intro ?_ ?_
  omega
  with_reducible refine And.intro ?_ ?_
  omega
  with_reducible exact hX (fun h => absurd h (by assumption)) _ (by assumption)
  simp only [eX3_threeSmall_6, kx_l, wt_nil, tl_s, Nat.add_zero]
  with_reducible refine And.intro ?_ ?_
  with_reducible refine go_S (by assumption) (fun _ _ hY => ?_)
  with_reducible exact trivial
  with_reducible refine And.intro ?_ ?_
  omega
  with_reducible refine And.intro ?_ ?_
  omega
  with_reducible refine And.intro ?_ ?_
  omega
  with_reducible refine fX3_start (by assumption) (by decide) (fun _ w1 h1 => ?_) (fun _ w1 h1 => ?_)
  simp only [eX3_threeSmall_9, eX3_threeSmall_12, eX3_threeSmall_16, eX3_threeSmall_30, if_true, kx_l, wt_nil, tl_s, Nat.zero_add]
  with_reducible refine And.intro ?_ ?_
  with_reducible refine go_S (by assumption) (fun _ _ hY => ?_)
  with_reducible exact trivial
  with_reducible refine And.intro ?_ ?_
  omega
  with_reducible refine And.intro ?_ ?_
  omega
  with_reducible refine And.intro ?_ ?_
  omega
  with_reducible refine fX3_make (by assumption) (by assumption) (fun hyes w3 h3 => ?_) (fun hno w3 h3 => ?_)
  simp only [eX3_threeSmall_30, kx_l, tl_s]
  with_reducible refine And.intro ?_ ?_
  omega
  with_reducible refine And.intro ?_ ?_
  omega
  with_reducible exact hT (by assumption) hyes _ h3
  simp only [eX3_threeSmall_30, kx_l, tl_s]
  with_reducible refine And.intro ?_ ?_
  omega
  with_reducible refine And.intro ?_ ?_
  omega
  with_reducible exact hF (by assumption) hno _ h3
  with_reducible exact n00x (by assumption)
set_option maxHeartbeats 4000000 in
theorem fX3_fourSmall {a0 a1 a2 a3 a4 : Int32} (hM : MS g w0 y nM kd th s w) (hX : ¬ (okC a0) → ∀ w', MS g w0 y nM kd 1 s w' → Q (.inl (some (.int 0))) w') (hT : okC a0 → oP (a1.toInt64) (a2.toInt64) (a3.toInt64) (a4.toInt64) → ∀ w', MS g w0 y nM kd 0 (sMk s a0.toNatClampNeg (a1.toInt64, a2.toInt64, a3.toInt64, a4.toInt64)) w' → Q (.inl (some (.int 1))) w') (hF : okC a0 → ¬ oP (a1.toInt64) (a2.toInt64) (a3.toInt64) (a4.toInt64) → ∀ w', MS g w0 y nM kd 0 (sRf s) w' → Q (.inl (some (.int (-9)))) w') : WP (MX3_fourSmall g) Q (0, [some (.ref y), some (.int a0), some (.int a1), some (.int a2), some (.int a3), some (.int a4)], [], w, 0, 0) := by
  simp only [eX3_fourSmall_0, eX3_fourSmall_5, wt_nil, wt_ref, Nat.add_zero]
  with_reducible refine And.intro ?_ ?_
  omega
  with_reducible refine And.intro ?_ ?_
  omega
  with_reducible refine And.intro ?_ ?_
  omega
  with_reducible refine fX3_isNoCard (fun _ => ?_) (fun _ => ?_)
  simp only [eX3_fourSmall_6, kx_l, wt_nil, tl_s, Nat.add_zero]
  with_reducible refine And.intro ?_ ?_
  with_reducible refine go_S (by assumption) (fun _ _ hY => ?_)
  with_reducible exact trivial
  with_reducible refine And.intro ?_ ?_
  omega
  with_reducible refine And.intro ?_ ?_
  omega
  with_reducible refine And.intro ?_ ?_
  omega
  with_reducible refine fX3_start (by assumption) (by decide) (fun _ w1 h1 => ?_) (fun _ w1 h1 => ?_)
  with_reducible exact absurd (by assumption) n10'
  simp only [eX3_fourSmall_9, eX3_fourSmall_12, eX3_fourSmall_16, eX3_fourSmall_31, i10, if_false, kx_l, wt_nil, tl_s, Nat.zero_add]
  with_reducible refine And.intro ?_ ?_
  omega
  with_reducible refine And.intro ?_ ?_
  omega
  with_reducible exact hX (fun h => absurd h (by assumption)) _ (by assumption)
  simp only [eX3_fourSmall_6, kx_l, wt_nil, tl_s, Nat.add_zero]
  with_reducible refine And.intro ?_ ?_
  with_reducible refine go_S (by assumption) (fun _ _ hY => ?_)
  with_reducible exact trivial
  with_reducible refine And.intro ?_ ?_
  omega
  with_reducible refine And.intro ?_ ?_
  omega
  with_reducible refine And.intro ?_ ?_
  omega
  with_reducible refine fX3_start (by assumption) (by decide) (fun _ w1 h1 => ?_) (fun _ w1 h1 => ?_)
  simp only [eX3_fourSmall_9, eX3_fourSmall_12, eX3_fourSmall_16, eX3_fourSmall_31, if_true, kx_l, wt_nil, tl_s, Nat.zero_add]
  with_reducible refine And.intro ?_ ?_
  with_reducible refine go_S (by assumption) (fun _ _ hY => ?_)
  with_reducible exact trivial
  with_reducible refine And.intro ?_ ?_
  omega
  with_reducible refine And.intro ?_ ?_
  omega
  with_reducible refine And.intro ?_ ?_
  omega
  with_reducible refine fX3_make (by assumption) (by assumption) (fun hyes w3 h3 => ?_) (fun hno w3 h3 => ?_)
  simp only [eX3_fourSmall_31, kx_l, tl_s]
  with_reducible refine And.intro ?_ ?_
  omega
  with_reducible refine And.intro ?_ ?_
  omega
  with_reducible exact hT (by assumption) hyes _ h3
  simp only [eX3_fourSmall_31, kx_l, tl_s]
  with_reducible refine And.intro ?_ ?_
  omega
  with_reducible refine And.intro ?_ ?_
  omega
  with_reducible exact hF (by assumption) hno _ h3
  with_reducible exact n00x (by assumption)
end
end
/-! 75.mf6.lean.txt -/
section
section
variable {g : RO} {Q : Ot → Hw → Prop} {w0 w : Hw} {y nM : Nat} {kd th : Int32} {s : AS}
def smF (r : R4) (j : Nat) : Int32 := bI (decide (-2147483648 ≤ (rV r j).toInt ∧ (rV r j).toInt ≤ 2147483647))
theorem smT {r : R4} {j : Nat} (h : -2147483648 ≤ (rV r j).toInt ∧ (rV r j).toInt ≤ 2147483647) : fsum (smF r) j + 1 = fsum (smF r) (j + 1) := by
  show _ = fsum (smF r) j + smF r j
  unfold smF
  rw [decide_eq_true h]
  rfl
theorem smN {r : R4} {j : Nat} (h : ¬ (-2147483648 ≤ (rV r j).toInt ∧ (rV r j).toInt ≤ 2147483647)) : fsum (smF r) j + 0 = fsum (smF r) (j + 1) := by
  show _ = fsum (smF r) j + smF r j
  unfold smF
  rw [decide_eq_false h]
  rfl
theorem fsum_cg {f f' : Nat → Int32} : ∀ {N : Nat}, (∀ j, j < N → f j = f' j) → fsum f N = fsum f' N
  | 0, _ => rfl
  | N + 1, h => by
    show fsum f N + f N = fsum f' N + f' N
    rw [fsum_cg (fun j hj => h j (by omega)), h N (by omega)]
theorem smE {r : R4} : fsum (smF r) 4 = seV r := fsum_cg (fun j hj => by
  show bI (decide (-2147483648 ≤ (rV r j).toInt ∧ (rV r j).toInt ≤ 2147483647)) = _
  rw [rvj hj])
theorem oEta {r : R4} (h : rOk r) (hno : ¬ oP r.1 r.2.1 r.2.2.1 r.2.2.2) : False := hno h
set_option maxHeartbeats 4000000 in
theorem flX3_again_37 {a c : Int32} {b : Nat} {r : R4} (hM : MS g w0 y nM kd th s w) (hb : rowA w b r) (k : okC a) (ho : rOk r) (hQ : ∀ w', MS g w0 y nM kd th (sMk s a.toNatClampNeg r) w' → Q (.inl (some (.int (seV r)))) w') : ∀ (d j : Nat) (i8 : Option Value) (i9 : Option Value) (kz mz : Nat), j + d = 4 → kz ≤ 0 → mz ≤ 0 → WP (MX3_again g) Q (37, [some (.ref y), some (.int a), some (.int c), some (.ref b), some (.int (fsum (smF r) j)), some (.ref b), some (.int 4), some (.int (Int32.ofNat j)), i8, i9], [], w, kz, mz) := by
  intro d
  induction d with
  | zero =>
    intro j i8 i9 kz mz hjd hkz hmz
    have h9 : j < 1000 := (by omega)
    have hlt : ¬ Int32.ofNat j < 4 := oNg (B := 4) h9 rfl (by omega)
    have hnn := oN0 h9
    have hcl := oNc h9
    obtain rfl : j = 4 := by omega
    rw [eX3_again_37]
    simp only [eX3_again_39, eX3_again_44, eX3_again_49, eX3_again_62, eX3_again_71, eX3_again_75, eX3_again_76, eX3_again_88, eX3_again_93, eX3_again_96, eX3_again_99, eX3_again_102, lgp, lgn, if_false, lmi, lmx, hlt, hcl, ite_le, wt_nil, wt_int, nl_int, Nat.add_zero]
    with_reducible refine gl_A hb ?_
    with_reducible refine And.intro ?_ ?_
    with_reducible exact vpi4.1
    (simp only [rv0, rv1, rv2, rv3])
    with_reducible refine gl_A hb ?_
    with_reducible refine And.intro ?_ ?_
    with_reducible exact vpi4.2.1
    (simp only [rv0, rv1, rv2, rv3])
    with_reducible refine gl_A hb ?_
    with_reducible refine And.intro ?_ ?_
    with_reducible exact vpi4.2.2.1
    (simp only [rv0, rv1, rv2, rv3])
    with_reducible refine gl_A hb ?_
    with_reducible refine And.intro ?_ ?_
    with_reducible exact vpi4.2.2.2
    with_reducible refine And.intro ?_ ?_
    with_reducible refine go_S hM (fun _ _ hY => ?_)
    with_reducible exact trivial
    with_reducible refine And.intro ?_ ?_
    omega
    with_reducible refine And.intro ?_ ?_
    omega
    with_reducible refine And.intro ?_ ?_
    omega
    (simp only [rv0, rv1, rv2, rv3])
    with_reducible refine fX3_make hM k (fun hyes w3 h3 => ?_) (fun hno w3 h3 => ?_)
    simp only [eX3_again_105, kx_l, tl_s]
    with_reducible refine And.intro ?_ ?_
    omega
    with_reducible refine And.intro ?_ ?_
    omega
    (rw [smE]; exact hQ _ h3)
    with_reducible exact (oEta ho hno).elim
  | succ d ih =>
    intro j i8 i9 kz mz hjd hkz hmz
    have h9 : j < 1000 := (by omega)
    have hlt : Int32.ofNat j < 4 := oNl (B := 4) h9 rfl (by omega)
    have hjN : j < 4 := by omega
    have hnn := oN0 h9
    have hcl := oNc h9
    rw [eX3_again_37]
    simp only [eX3_again_39, eX3_again_44, eX3_again_49, eX3_again_62, eX3_again_71, eX3_again_75, eX3_again_76, eX3_again_88, eX3_again_93, eX3_again_96, eX3_again_99, eX3_again_102, lgp, lgn, if_true, lmi, lmx, hlt, hcl, ite_le, wt_nil, wt_int, nl_int, Nat.add_zero]
    with_reducible refine gl_A hb ?_
    with_reducible refine And.intro ?_ ?_
    with_reducible exact vpi4j (by omega)
    with_reducible refine itx (fun _ => ?_) (fun _ => ?_)
    with_reducible refine And.intro ?_ ?_
    omega
    with_reducible refine And.intro ?_ ?_
    omega
    with_reducible refine And.intro ?_ ?_
    omega
    with_reducible refine fX3_one (Or.inl rfl) ?_
    simp only [eX3_again_79, kx_l, nl_int, nl_ref, tl_s]
    (rw [oN1, smN (r := r) (j := j) (by omega)]; exact ih (j + 1) _ _ _ _ (by omega) (by first | assumption | omega) (by first | assumption | omega))
    with_reducible refine itx (fun _ => ?_) (fun _ => ?_)
    with_reducible refine And.intro ?_ ?_
    omega
    with_reducible refine And.intro ?_ ?_
    omega
    with_reducible refine And.intro ?_ ?_
    omega
    with_reducible refine fX3_one (Or.inl rfl) ?_
    simp only [eX3_again_79, kx_l, nl_int, nl_ref, tl_s]
    (rw [oN1, smN (r := r) (j := j) (by omega)]; exact ih (j + 1) _ _ _ _ (by omega) (by first | assumption | omega) (by first | assumption | omega))
    with_reducible refine And.intro ?_ ?_
    omega
    with_reducible refine And.intro ?_ ?_
    omega
    with_reducible refine And.intro ?_ ?_
    omega
    with_reducible refine fX3_one (Or.inr rfl) ?_
    simp only [eX3_again_79, kx_l, nl_int, nl_ref, tl_s]
    (rw [oN1, smT (r := r) (j := j) (by omega)]; exact ih (j + 1) _ _ _ _ (by omega) (by first | assumption | omega) (by first | assumption | omega))
theorem al_A {b : Nat} {r : R4} {K : vp_A → Prop} (h : rowA w b r) (k : K (4, .inr (.inl (rV r)))) : ∃ t z, rd g w b = some (.inl (t, z)) ∧ t < 6 ∧ K z := ⟨0, _, rd_e h, by decide, k⟩
set_option maxHeartbeats 4000000 in
theorem fX3_again {a0 a1 : Int32} (hM : MS g w0 y nM kd th s w) (ho : sOk s) (hX : ¬ (okC a0 ∧ okC a1) → ∀ w', MS g w0 y nM kd 1 s w' → Q (.inl (some (.int 0))) w') (hS : okC a0 → okC a1 → s.2.1 a1.toNatClampNeg = none → ∀ w', MS g w0 y nM kd 2 s w' → Q (.inl (some (.int 0))) w') (hQ : okC a0 → okC a1 → ∀ r, s.2.1 a1.toNatClampNeg = some r → ∀ w', MS g w0 y nM kd 0 (sMk s a0.toNatClampNeg r) w' → Q (.inl (some (.int (seV r)))) w') : WP (MX3_again g) Q (0, [some (.ref y), some (.int a0), some (.int a1), none, none, none, none, none, none, none], [], w, 0, 0) := by
  simp only [eX3_again_0, wt_nil, Nat.add_zero]
  with_reducible refine And.intro ?_ ?_
  with_reducible refine go_S (by assumption) (fun _ _ hY => ?_)
  with_reducible exact trivial
  with_reducible refine And.intro ?_ ?_
  omega
  with_reducible refine And.intro ?_ ?_
  omega
  with_reducible refine And.intro ?_ ?_
  omega
  with_reducible refine fX3_isNoPair (by assumption) (fun _ w1 h1 => ?_) (fun _ _ _ w1 h1 => ?_) (fun ka kc r e1 w1 h1 => ?_)
  simp only [eX3_again_6, eX3_again_9, eX3_again_11, eX3_again_15, i10, if_false, kx_l, tl_s]
  with_reducible refine And.intro ?_ ?_
  omega
  with_reducible refine And.intro ?_ ?_
  omega
  with_reducible exact hX (by assumption) _ (by assumption)
  simp only [eX3_again_6, eX3_again_9, eX3_again_11, eX3_again_15, i10, if_false, kx_l, tl_s]
  with_reducible refine And.intro ?_ ?_
  omega
  with_reducible refine And.intro ?_ ?_
  omega
  with_reducible exact hS (by assumption) (by assumption) (by assumption) _ (by assumption)
  simp only [eX3_again_6, eX3_again_9, eX3_again_11, eX3_again_15, if_true, kx_l, tl_s]
  with_reducible refine go_S (by assumption) (fun _ _ hY => ?_)
  simp only [eX3_again_16, wt_nil, g0, gS, ex1, Nat.add_zero]
  with_reducible refine And.intro ?_ ?_
  with_reducible exact MS.gC (by assumption) (by assumption)
  with_reducible refine And.intro ?_ ?_
  omega
  with_reducible refine And.intro ?_ ?_
  omega
  with_reducible refine And.intro ?_ ?_
  omega
  with_reducible refine sGetK (by assumption) (by assumption) (by assumption) (by assumption) (fun _ hb => ?_)
  simp only [eX3_again_19R, eX3_again_22, eX3_again_26, eX3_again_32, kx_l, nl_int, nl_ref, tl_s]
  with_reducible refine And.intro ?_ ?_
  with_reducible exact rowA.ca (by assumption)
  with_reducible refine al_A (by assumption) ?_
  (simp only [rv0, rv1, rv2, rv3])
  ((with_reducible refine isWP (pc := 37) ?_); exact flX3_again_37 h1 hb ka (ho.c kc e1) (fun w3 h3 => hQ ka kc r e1 w3 h3) 4 0 _ _ _ _ rfl (by decide) (by decide))
set_option maxHeartbeats 4000000 in
theorem fX3_outer {a0 a1 : Int32} (hM : MS g w0 y nM kd th s w) (ho : sOk s) (hX : ¬ (okC a0 ∧ okC a1) → ∀ w', MS g w0 y nM kd 1 s w' → Q (.inl (some (.int 0))) w') (hS : okC a0 → okC a1 → s.2.1 a1.toNatClampNeg = none → ∀ w', MS g w0 y nM kd 2 s w' → Q (.inl (some (.int 0))) w') (hT : okC a0 → okC a1 → ∀ r, s.2.1 a1.toNatClampNeg = some r → fP r → ∀ w', MS g w0 y nM kd 0 (sMk s a0.toNatClampNeg (r.1, r.1, r.2.2.2, r.2.2.2)) w' → Q (.inl (some (.int 1))) w') (hF : okC a0 → okC a1 → ∀ r, s.2.1 a1.toNatClampNeg = some r → ¬ fP r → ∀ w', MS g w0 y nM kd 0 (sMk s a0.toNatClampNeg (r.1, r.1, r.2.2.2, r.2.2.2)) w' → Q (.inl (some (.int 0))) w') : WP (MX3_outer g) Q (0, [some (.ref y), some (.int a0), some (.int a1), none], [], w, 0, 0) := by
  simp only [eX3_outer_0, wt_nil, Nat.add_zero]
  with_reducible refine And.intro ?_ ?_
  with_reducible refine go_S (by assumption) (fun _ _ hY => ?_)
  with_reducible exact trivial
  with_reducible refine And.intro ?_ ?_
  omega
  with_reducible refine And.intro ?_ ?_
  omega
  with_reducible refine And.intro ?_ ?_
  omega
  with_reducible refine fX3_isNoPair (by assumption) (fun _ w1 h1 => ?_) (fun _ _ _ w1 h1 => ?_) (fun ka kc r e1 w1 h1 => ?_)
  simp only [eX3_outer_6, eX3_outer_9, eX3_outer_11, eX3_outer_15, i10, if_false, kx_l, tl_s]
  with_reducible refine And.intro ?_ ?_
  omega
  with_reducible refine And.intro ?_ ?_
  omega
  with_reducible exact hX (by assumption) _ (by assumption)
  simp only [eX3_outer_6, eX3_outer_9, eX3_outer_11, eX3_outer_15, i10, if_false, kx_l, tl_s]
  with_reducible refine And.intro ?_ ?_
  omega
  with_reducible refine And.intro ?_ ?_
  omega
  with_reducible exact hS (by assumption) (by assumption) (by assumption) _ (by assumption)
  simp only [eX3_outer_6, eX3_outer_9, eX3_outer_11, eX3_outer_15, if_true, kx_l, tl_s]
  with_reducible refine go_S (by assumption) (fun _ _ hY => ?_)
  simp only [eX3_outer_16, wt_nil, g0, gS, ex1, Nat.add_zero]
  with_reducible refine And.intro ?_ ?_
  with_reducible exact MS.gC (by assumption) (by assumption)
  with_reducible refine And.intro ?_ ?_
  omega
  with_reducible refine And.intro ?_ ?_
  omega
  with_reducible refine And.intro ?_ ?_
  omega
  with_reducible refine sGetK (by assumption) (by assumption) (by assumption) (by assumption) (fun _ hb => ?_)
  simp only [eX3_outer_19R, eX3_outer_22, eX3_outer_28, eX3_outer_31, eX3_outer_34, eX3_outer_37, kx_l, wt_nil, nl_int, tl_s, Nat.zero_add]
  with_reducible refine And.intro ?_ ?_
  with_reducible exact rowA.ca (by assumption)
  with_reducible refine gl_A (by assumption) ?_
  with_reducible refine And.intro ?_ ?_
  with_reducible exact vpi4.1
  (simp only [rv0, rv1, rv2, rv3])
  with_reducible refine gl_A (by assumption) ?_
  with_reducible refine And.intro ?_ ?_
  with_reducible exact vpi4.1
  (simp only [rv0, rv1, rv2, rv3])
  with_reducible refine gl_A (by assumption) ?_
  with_reducible refine And.intro ?_ ?_
  with_reducible exact vpi4.2.2.2
  (simp only [rv0, rv1, rv2, rv3])
  with_reducible refine gl_A (by assumption) ?_
  with_reducible refine And.intro ?_ ?_
  with_reducible exact vpi4.2.2.2
  with_reducible refine And.intro ?_ ?_
  with_reducible refine go_S (by assumption) (fun _ _ hY => ?_)
  with_reducible exact trivial
  with_reducible refine And.intro ?_ ?_
  omega
  with_reducible refine And.intro ?_ ?_
  omega
  with_reducible refine And.intro ?_ ?_
  omega
  (simp only [rv0, rv1, rv2, rv3])
  with_reducible refine fX3_makeR (by assumption) (by assumption) (fun hyes w3 h3 z3 => ?_) (fun hno w3 h3 => ?_)
  simp only [eX3_outer_40, kx_l, wt_nil, tl_s, Nat.add_zero]
  with_reducible refine And.intro ?_ ?_
  omega
  with_reducible refine And.intro ?_ ?_
  omega
  with_reducible refine And.intro ?_ ?_
  omega
  with_reducible refine fX3_fixed (MS.rA h1 z3 hb) (fun hm => ?_) (fun hm => ?_)
  simp only [eX3_outer_45, kx_l, wt_nil, tl_s, Nat.add_zero]
  with_reducible refine And.intro ?_ ?_
  omega
  with_reducible refine And.intro ?_ ?_
  omega
  with_reducible refine And.intro ?_ ?_
  omega
  with_reducible refine fX3_one (Or.inr rfl) ?_
  simp only [eX3_outer_48, kx_l, tl_s]
  with_reducible refine And.intro ?_ ?_
  omega
  with_reducible refine And.intro ?_ ?_
  omega
  with_reducible exact hT ka kc r e1 hm _ h3
  simp only [eX3_outer_45, kx_l, wt_nil, tl_s, Nat.add_zero]
  with_reducible refine And.intro ?_ ?_
  omega
  with_reducible refine And.intro ?_ ?_
  omega
  with_reducible refine And.intro ?_ ?_
  omega
  with_reducible refine fX3_one (Or.inl rfl) ?_
  simp only [eX3_outer_48, kx_l, tl_s]
  with_reducible refine And.intro ?_ ?_
  omega
  with_reducible refine And.intro ?_ ?_
  omega
  with_reducible exact hF ka kc r e1 hm _ h3
  with_reducible exact absurd (oOut (ho.c kc e1)) hno
set_option maxHeartbeats 4000000 in
theorem fX3_inner {a0 a1 : Int32} (hM : MS g w0 y nM kd th s w) (hX : ¬ (okC a0 ∧ okC a1) → ∀ w', MS g w0 y nM kd 1 s w' → Q (.inl (some (.int 0))) w') (hS : okC a0 → okC a1 → s.2.1 a1.toNatClampNeg = none → ∀ w', MS g w0 y nM kd 2 s w' → Q (.inl (some (.int 0))) w') (hT : okC a0 → okC a1 → ∀ r, s.2.1 a1.toNatClampNeg = some r → oP r.2.1 r.2.1 r.2.2.1 r.2.2.1 → ∀ w', MS g w0 y nM kd 0 (sMk s a0.toNatClampNeg (r.2.1, r.2.1, r.2.2.1, r.2.2.1)) w' → Q (.inl (some (.int 1))) w') (hF : okC a0 → okC a1 → ∀ r, s.2.1 a1.toNatClampNeg = some r → ¬ oP r.2.1 r.2.1 r.2.2.1 r.2.2.1 → ∀ w', MS g w0 y nM kd 0 (sRf s) w' → Q (.inl (some (.int (-9)))) w') : WP (MX3_inner g) Q (0, [some (.ref y), some (.int a0), some (.int a1), none], [], w, 0, 0) := by
  simp only [eX3_inner_0, wt_nil, Nat.add_zero]
  with_reducible refine And.intro ?_ ?_
  with_reducible refine go_S (by assumption) (fun _ _ hY => ?_)
  with_reducible exact trivial
  with_reducible refine And.intro ?_ ?_
  omega
  with_reducible refine And.intro ?_ ?_
  omega
  with_reducible refine And.intro ?_ ?_
  omega
  with_reducible refine fX3_isNoPair (by assumption) (fun _ w1 h1 => ?_) (fun _ _ _ w1 h1 => ?_) (fun ka kc r e1 w1 h1 => ?_)
  simp only [eX3_inner_6, eX3_inner_9, eX3_inner_11, eX3_inner_15, i10, if_false, kx_l, tl_s]
  with_reducible refine And.intro ?_ ?_
  omega
  with_reducible refine And.intro ?_ ?_
  omega
  with_reducible exact hX (by assumption) _ (by assumption)
  simp only [eX3_inner_6, eX3_inner_9, eX3_inner_11, eX3_inner_15, i10, if_false, kx_l, tl_s]
  with_reducible refine And.intro ?_ ?_
  omega
  with_reducible refine And.intro ?_ ?_
  omega
  with_reducible exact hS (by assumption) (by assumption) (by assumption) _ (by assumption)
  simp only [eX3_inner_6, eX3_inner_9, eX3_inner_11, eX3_inner_15, if_true, kx_l, tl_s]
  with_reducible refine go_S (by assumption) (fun _ _ hY => ?_)
  simp only [eX3_inner_16, wt_nil, g0, gS, ex1, Nat.add_zero]
  with_reducible refine And.intro ?_ ?_
  with_reducible exact MS.gC (by assumption) (by assumption)
  with_reducible refine And.intro ?_ ?_
  omega
  with_reducible refine And.intro ?_ ?_
  omega
  with_reducible refine And.intro ?_ ?_
  omega
  with_reducible refine sGetK (by assumption) (by assumption) (by assumption) (by assumption) (fun _ hb => ?_)
  simp only [eX3_inner_19R, eX3_inner_22, eX3_inner_28, eX3_inner_31, eX3_inner_34, eX3_inner_37, kx_l, wt_nil, nl_int, tl_s, Nat.zero_add]
  with_reducible refine And.intro ?_ ?_
  with_reducible exact rowA.ca (by assumption)
  with_reducible refine gl_A (by assumption) ?_
  with_reducible refine And.intro ?_ ?_
  with_reducible exact vpi4.2.1
  (simp only [rv0, rv1, rv2, rv3])
  with_reducible refine gl_A (by assumption) ?_
  with_reducible refine And.intro ?_ ?_
  with_reducible exact vpi4.2.1
  (simp only [rv0, rv1, rv2, rv3])
  with_reducible refine gl_A (by assumption) ?_
  with_reducible refine And.intro ?_ ?_
  with_reducible exact vpi4.2.2.1
  (simp only [rv0, rv1, rv2, rv3])
  with_reducible refine gl_A (by assumption) ?_
  with_reducible refine And.intro ?_ ?_
  with_reducible exact vpi4.2.2.1
  with_reducible refine And.intro ?_ ?_
  with_reducible refine go_S (by assumption) (fun _ _ hY => ?_)
  with_reducible exact trivial
  with_reducible refine And.intro ?_ ?_
  omega
  with_reducible refine And.intro ?_ ?_
  omega
  with_reducible refine And.intro ?_ ?_
  omega
  (simp only [rv0, rv1, rv2, rv3])
  with_reducible refine fX3_make (by assumption) (by assumption) (fun hyes w3 h3 => ?_) (fun hno w3 h3 => ?_)
  simp only [eX3_inner_40, kx_l, tl_s]
  with_reducible refine And.intro ?_ ?_
  omega
  with_reducible refine And.intro ?_ ?_
  omega
  with_reducible exact hT ka kc r e1 hyes _ h3
  simp only [eX3_inner_40, kx_l, tl_s]
  with_reducible refine And.intro ?_ ?_
  omega
  with_reducible refine And.intro ?_ ?_
  omega
  with_reducible exact hF ka kc r e1 hno _ h3
set_option maxHeartbeats 4000000 in
theorem fX3_shift {a0 a1 : Int32} (hM : MS g w0 y nM kd th s w) (hX : ¬ (okC a0) → ∀ w', MS g w0 y nM kd 1 s w' → Q (.inl (some (.int 0))) w') (hS : okC a0 → s.2.1 a0.toNatClampNeg = none → ∀ w', MS g w0 y nM kd 2 s w' → Q (.inl (some (.int 0))) w') (hT : okC a0 → ∀ r, s.2.1 a0.toNatClampNeg = some r → oP (r.1 + a1.toInt64) (r.2.1 + a1.toInt64) (r.2.2.1 + a1.toInt64) (r.2.2.2 + a1.toInt64) → ∀ w', MS g w0 y nM kd 0 (sMk s a0.toNatClampNeg (r.1 + a1.toInt64, r.2.1 + a1.toInt64, r.2.2.1 + a1.toInt64, r.2.2.2 + a1.toInt64)) w' → Q (.inl (some (.int 1))) w') (hF : okC a0 → ∀ r, s.2.1 a0.toNatClampNeg = some r → ¬ oP (r.1 + a1.toInt64) (r.2.1 + a1.toInt64) (r.2.2.1 + a1.toInt64) (r.2.2.2 + a1.toInt64) → ∀ w', MS g w0 y nM kd 0 (sRf s) w' → Q (.inl (some (.int (-9)))) w') : WP (MX3_shift g) Q (0, [some (.ref y), some (.int a0), some (.int a1), none], [], w, 0, 0) := by
  simp only [eX3_shift_0, wt_nil, Nat.add_zero]
  with_reducible refine And.intro ?_ ?_
  with_reducible refine go_S (by assumption) (fun _ _ hY => ?_)
  with_reducible exact trivial
  with_reducible refine And.intro ?_ ?_
  omega
  with_reducible refine And.intro ?_ ?_
  omega
  with_reducible refine And.intro ?_ ?_
  omega
  with_reducible refine fX3_isNone (by assumption) (fun _ w1 h1 => ?_) (fun _ _ w1 h1 => ?_) (fun ka r e1 w1 h1 => ?_)
  simp only [eX3_shift_5, eX3_shift_8, eX3_shift_10, eX3_shift_14, i10, if_false, kx_l, tl_s]
  with_reducible refine And.intro ?_ ?_
  omega
  with_reducible refine And.intro ?_ ?_
  omega
  with_reducible exact hX (fun h => absurd h (by assumption)) _ (by assumption)
  simp only [eX3_shift_5, eX3_shift_8, eX3_shift_10, eX3_shift_14, i10, if_false, kx_l, tl_s]
  with_reducible refine And.intro ?_ ?_
  omega
  with_reducible refine And.intro ?_ ?_
  omega
  with_reducible exact hS (by assumption) (by assumption) _ (by assumption)
  simp only [eX3_shift_5, eX3_shift_8, eX3_shift_10, eX3_shift_14, if_true, kx_l, tl_s]
  with_reducible refine go_S (by assumption) (fun _ _ hY => ?_)
  simp only [eX3_shift_15, wt_nil, g0, gS, ex1, Nat.add_zero]
  with_reducible refine And.intro ?_ ?_
  with_reducible exact MS.gC (by assumption) (by assumption)
  with_reducible refine And.intro ?_ ?_
  omega
  with_reducible refine And.intro ?_ ?_
  omega
  with_reducible refine And.intro ?_ ?_
  omega
  with_reducible refine sGetK (by assumption) (by assumption) (by assumption) (by assumption) (fun _ hb => ?_)
  simp only [eX3_shift_18R, eX3_shift_21, eX3_shift_27, eX3_shift_33, eX3_shift_39, eX3_shift_45, kx_l, wt_nil, nl_int, tl_s, Nat.zero_add]
  with_reducible refine And.intro ?_ ?_
  with_reducible exact rowA.ca (by assumption)
  with_reducible refine gl_A (by assumption) ?_
  with_reducible refine And.intro ?_ ?_
  with_reducible exact vpi4.1
  (simp only [rv0, rv1, rv2, rv3])
  with_reducible refine gl_A (by assumption) ?_
  with_reducible refine And.intro ?_ ?_
  with_reducible exact vpi4.2.1
  (simp only [rv0, rv1, rv2, rv3])
  with_reducible refine gl_A (by assumption) ?_
  with_reducible refine And.intro ?_ ?_
  with_reducible exact vpi4.2.2.1
  (simp only [rv0, rv1, rv2, rv3])
  with_reducible refine gl_A (by assumption) ?_
  with_reducible refine And.intro ?_ ?_
  with_reducible exact vpi4.2.2.2
  with_reducible refine And.intro ?_ ?_
  with_reducible refine go_S (by assumption) (fun _ _ hY => ?_)
  with_reducible exact trivial
  with_reducible refine And.intro ?_ ?_
  omega
  with_reducible refine And.intro ?_ ?_
  omega
  with_reducible refine And.intro ?_ ?_
  omega
  (simp only [rv0, rv1, rv2, rv3])
  with_reducible refine fX3_make (by assumption) (by assumption) (fun hyes w3 h3 => ?_) (fun hno w3 h3 => ?_)
  simp only [eX3_shift_51, kx_l, tl_s]
  with_reducible refine And.intro ?_ ?_
  omega
  with_reducible refine And.intro ?_ ?_
  omega
  with_reducible exact hT ka r e1 hyes _ h3
  simp only [eX3_shift_51, kx_l, tl_s]
  with_reducible refine And.intro ?_ ?_
  omega
  with_reducible refine And.intro ?_ ?_
  omega
  with_reducible exact hF ka r e1 hno _ h3
set_option maxHeartbeats 4000000 in
theorem fX3_span {a0 a1 a2 : Int32} (hM : MS g w0 y nM kd th s w) (hX : ¬ (okC a0 ∧ okC a1 ∧ okC a2) → ∀ w', MS g w0 y nM kd 1 s w' → Q (.inl (some (.int 0))) w') (hS : okC a0 → okC a1 → okC a2 → (s.2.1 a1.toNatClampNeg = none ∨ s.2.1 a2.toNatClampNeg = none) → ∀ w', MS g w0 y nM kd 2 s w' → Q (.inl (some (.int 0))) w') (hT : okC a0 → okC a1 → okC a2 → ∀ r q, s.2.1 a1.toNatClampNeg = some r → s.2.1 a2.toNatClampNeg = some q → oP r.1 r.2.1 q.2.2.1 q.2.2.2 → ∀ w', MS g w0 y nM kd 0 (sMk s a0.toNatClampNeg (r.1, r.2.1, q.2.2.1, q.2.2.2)) w' → Q (.inl (some (.int 1))) w') (hF : okC a0 → okC a1 → okC a2 → ∀ r q, s.2.1 a1.toNatClampNeg = some r → s.2.1 a2.toNatClampNeg = some q → ¬ oP r.1 r.2.1 q.2.2.1 q.2.2.2 → ∀ w', MS g w0 y nM kd 0 (sRf s) w' → Q (.inl (some (.int (-9)))) w') : WP (MX3_span g) Q (0, [some (.ref y), some (.int a0), some (.int a1), some (.int a2)], [], w, 0, 0) := by
  simp only [eX3_span_0, wt_nil, wt_ref, Nat.add_zero]
  with_reducible refine And.intro ?_ ?_
  omega
  with_reducible refine And.intro ?_ ?_
  omega
  with_reducible refine And.intro ?_ ?_
  omega
  with_reducible refine fX3_isNoCard (fun _ => ?_) (fun _ => ?_)
  simp only [eX3_span_5, eX3_span_8, eX3_span_22, eX3_span_27, i10, if_false, kx_l, wt_nil, wt_ref, tl_s, Nat.add_zero]
  with_reducible refine And.intro ?_ ?_
  with_reducible refine go_S (by assumption) (fun _ _ hY => ?_)
  with_reducible exact trivial
  with_reducible refine And.intro ?_ ?_
  omega
  with_reducible refine And.intro ?_ ?_
  omega
  with_reducible refine And.intro ?_ ?_
  omega
  with_reducible refine fX3_start (by assumption) (by decide) (fun _ w1 h1 => ?_) (fun _ w1 h1 => ?_)
  with_reducible exact absurd (by assumption) n10'
  simp only [eX3_span_31, eX3_span_34, eX3_span_63, i10, if_false, kx_l, wt_nil, wt_ref, tl_s, Nat.add_zero]
  with_reducible refine And.intro ?_ ?_
  omega
  with_reducible refine And.intro ?_ ?_
  omega
  with_reducible exact hX (fun h => absurd h.1 (by assumption)) _ (by assumption)
  simp only [eX3_span_5, eX3_span_8, eX3_span_22, eX3_span_27, if_true, kx_l, wt_nil, wt_ref, tl_s, Nat.add_zero]
  with_reducible refine And.intro ?_ ?_
  omega
  with_reducible refine And.intro ?_ ?_
  omega
  with_reducible refine And.intro ?_ ?_
  omega
  with_reducible refine fX3_isNoCard (fun _ => ?_) (fun _ => ?_)
  simp only [eX3_span_12, eX3_span_15, eX3_span_22, eX3_span_27, i10, if_false, kx_l, wt_nil, wt_ref, tl_s, Nat.add_zero]
  with_reducible refine And.intro ?_ ?_
  with_reducible refine go_S (by assumption) (fun _ _ hY => ?_)
  with_reducible exact trivial
  with_reducible refine And.intro ?_ ?_
  omega
  with_reducible refine And.intro ?_ ?_
  omega
  with_reducible refine And.intro ?_ ?_
  omega
  with_reducible refine fX3_start (by assumption) (by decide) (fun _ w1 h1 => ?_) (fun _ w1 h1 => ?_)
  with_reducible exact absurd (by assumption) n10'
  simp only [eX3_span_31, eX3_span_34, eX3_span_63, i10, if_false, kx_l, wt_nil, wt_ref, tl_s, Nat.add_zero]
  with_reducible refine And.intro ?_ ?_
  omega
  with_reducible refine And.intro ?_ ?_
  omega
  with_reducible exact hX (fun h => absurd h.2.1 (by assumption)) _ (by assumption)
  simp only [eX3_span_12, eX3_span_15, eX3_span_22, eX3_span_27, if_true, kx_l, wt_nil, wt_ref, tl_s, Nat.add_zero]
  with_reducible refine And.intro ?_ ?_
  omega
  with_reducible refine And.intro ?_ ?_
  omega
  with_reducible refine And.intro ?_ ?_
  omega
  with_reducible refine fX3_isNoCard (fun _ => ?_) (fun _ => ?_)
  simp only [eX3_span_19, eX3_span_22, eX3_span_26, eX3_span_27, i10, if_false, kx_l, wt_nil, tl_s, Nat.add_zero]
  with_reducible refine And.intro ?_ ?_
  with_reducible refine go_S (by assumption) (fun _ _ hY => ?_)
  with_reducible exact trivial
  with_reducible refine And.intro ?_ ?_
  omega
  with_reducible refine And.intro ?_ ?_
  omega
  with_reducible refine And.intro ?_ ?_
  omega
  with_reducible refine fX3_start (by assumption) (by decide) (fun _ w1 h1 => ?_) (fun _ w1 h1 => ?_)
  with_reducible exact absurd (by assumption) n10'
  simp only [eX3_span_31, eX3_span_34, eX3_span_63, i10, if_false, kx_l, wt_nil, wt_ref, tl_s, Nat.add_zero]
  with_reducible refine And.intro ?_ ?_
  omega
  with_reducible refine And.intro ?_ ?_
  omega
  with_reducible exact hX (fun h => absurd h.2.2 (by assumption)) _ (by assumption)
  simp only [eX3_span_19, eX3_span_22, eX3_span_26, eX3_span_27, if_true, kx_l, wt_nil, tl_s, Nat.add_zero]
  with_reducible refine And.intro ?_ ?_
  with_reducible refine go_S (by assumption) (fun _ _ hY => ?_)
  with_reducible exact trivial
  with_reducible refine And.intro ?_ ?_
  omega
  with_reducible refine And.intro ?_ ?_
  omega
  with_reducible refine And.intro ?_ ?_
  omega
  with_reducible refine fX3_start (by assumption) (by decide) (fun _ w1 h1 => ?_) (fun _ w1 h1 => ?_)
  simp only [eX3_span_31, eX3_span_34, eX3_span_63, if_true, kx_l, wt_nil, wt_ref, tl_s, Nat.add_zero]
  with_reducible refine And.intro ?_ ?_
  with_reducible refine go_S (by assumption) (fun _ _ hY => ?_)
  with_reducible exact trivial
  with_reducible refine And.intro ?_ ?_
  omega
  with_reducible refine And.intro ?_ ?_
  omega
  with_reducible refine And.intro ?_ ?_
  omega
  with_reducible refine fX3_isBare (by assumption) (by assumption) (fun _ => ?_) (fun _ _ => ?_)
  simp only [eX3_span_40, eX3_span_43, eX3_span_51, eX3_span_56, i10, if_false, kx_l, wt_nil, wt_ref, tl_s, Nat.add_zero]
  with_reducible refine And.intro ?_ ?_
  with_reducible refine go_S (by assumption) (fun _ _ hY => ?_)
  with_reducible exact trivial
  with_reducible refine And.intro ?_ ?_
  omega
  with_reducible refine And.intro ?_ ?_
  omega
  with_reducible refine And.intro ?_ ?_
  omega
  with_reducible refine fX3_refuse (by assumption) (by decide) (fun _ => ?_) (fun _ w2 h2 => ?_)
  with_reducible exact absurd (by assumption) n10'
  simp only [eX3_span_60, eX3_span_63, eX3_span_65, eX3_span_71, i10, if_false, kx_l, tl_s]
  with_reducible refine And.intro ?_ ?_
  omega
  with_reducible refine And.intro ?_ ?_
  omega
  with_reducible exact hS (by assumption) (by assumption) (by assumption) (Or.inl (by assumption)) _ (by assumption)
  simp only [eX3_span_40, eX3_span_43, eX3_span_51, eX3_span_56, if_true, kx_l, wt_nil, wt_ref, tl_s, Nat.add_zero]
  with_reducible refine And.intro ?_ ?_
  with_reducible refine go_S (by assumption) (fun _ _ hY => ?_)
  with_reducible exact trivial
  with_reducible refine And.intro ?_ ?_
  omega
  with_reducible refine And.intro ?_ ?_
  omega
  with_reducible refine And.intro ?_ ?_
  omega
  with_reducible refine fX3_isBare (by assumption) (by assumption) (fun _ => ?_) (fun _ _ => ?_)
  simp only [eX3_span_48, eX3_span_51, eX3_span_55, eX3_span_56, i10, if_false, kx_l, wt_nil, tl_s, Nat.add_zero]
  with_reducible refine And.intro ?_ ?_
  with_reducible refine go_S (by assumption) (fun _ _ hY => ?_)
  with_reducible exact trivial
  with_reducible refine And.intro ?_ ?_
  omega
  with_reducible refine And.intro ?_ ?_
  omega
  with_reducible refine And.intro ?_ ?_
  omega
  with_reducible refine fX3_refuse (by assumption) (by decide) (fun _ => ?_) (fun _ w2 h2 => ?_)
  with_reducible exact absurd (by assumption) n10'
  simp only [eX3_span_60, eX3_span_63, eX3_span_65, eX3_span_71, i10, if_false, kx_l, tl_s]
  with_reducible refine And.intro ?_ ?_
  omega
  with_reducible refine And.intro ?_ ?_
  omega
  with_reducible exact hS (by assumption) (by assumption) (by assumption) (Or.inr (by assumption)) _ (by assumption)
  simp only [eX3_span_48, eX3_span_51, eX3_span_55, eX3_span_56, if_true, kx_l, wt_nil, tl_s, Nat.add_zero]
  with_reducible refine And.intro ?_ ?_
  with_reducible refine go_S (by assumption) (fun _ _ hY => ?_)
  with_reducible exact trivial
  with_reducible refine And.intro ?_ ?_
  omega
  with_reducible refine And.intro ?_ ?_
  omega
  with_reducible refine And.intro ?_ ?_
  omega
  with_reducible refine fX3_refuse (by assumption) (by decide) (fun _ => ?_) (fun _ w2 h2 => ?_)
  simp only [eX3_span_60, eX3_span_63, eX3_span_65, eX3_span_71, if_true, kx_l, tl_s]
  with_reducible refine go_S (by assumption) (fun _ _ hY => ?_)
  simp only [eX3_span_72, wt_nil, wt_int, wt_ref, g0, gS, ex1, Nat.add_zero]
  with_reducible refine And.intro ?_ ?_
  with_reducible exact MS.gC (by assumption) (by assumption)
  with_reducible refine And.intro ?_ ?_
  omega
  with_reducible refine And.intro ?_ ?_
  omega
  with_reducible refine And.intro ?_ ?_
  omega
  with_reducible refine sGetK (by assumption) (by assumption) (by assumption) (by assumption) (fun _ hb => ?_)
  simp only [eX3_span_75R, eX3_span_78, eX3_span_80, eX3_span_84, kx_l, tl_s]
  with_reducible refine And.intro ?_ ?_
  with_reducible exact rowA.ca (by assumption)
  with_reducible refine gl_A (by assumption) ?_
  with_reducible refine And.intro ?_ ?_
  with_reducible exact vpi4.1
  with_reducible refine go_S (by assumption) (fun _ _ hY => ?_)
  (simp only [rv0, rv1, rv2, rv3])
  simp only [eX3_span_85, wt_nil, wt_int, wt_long, wt_ref, g0, gS, ex1, Nat.add_zero]
  with_reducible refine And.intro ?_ ?_
  with_reducible exact MS.gC (by assumption) (by assumption)
  with_reducible refine And.intro ?_ ?_
  omega
  with_reducible refine And.intro ?_ ?_
  omega
  with_reducible refine And.intro ?_ ?_
  omega
  with_reducible refine sGetK (by assumption) (by assumption) (by assumption) (by assumption) (fun _ hb => ?_)
  simp only [eX3_span_88R, eX3_span_91, eX3_span_93, eX3_span_97, kx_l, tl_s]
  with_reducible refine And.intro ?_ ?_
  with_reducible exact rowA.ca (by assumption)
  with_reducible refine gl_A (by assumption) ?_
  with_reducible refine And.intro ?_ ?_
  with_reducible exact vpi4.2.1
  with_reducible refine go_S (by assumption) (fun _ _ hY => ?_)
  (simp only [rv0, rv1, rv2, rv3])
  simp only [eX3_span_98, wt_nil, wt_int, wt_long, wt_ref, g0, gS, ex1, Nat.add_zero]
  with_reducible refine And.intro ?_ ?_
  with_reducible exact MS.gC (by assumption) (by assumption)
  with_reducible refine And.intro ?_ ?_
  omega
  with_reducible refine And.intro ?_ ?_
  omega
  with_reducible refine And.intro ?_ ?_
  omega
  with_reducible refine sGetK (by assumption) (by assumption) (by assumption) (by assumption) (fun _ hb => ?_)
  simp only [eX3_span_101R, eX3_span_104, eX3_span_106, eX3_span_110, kx_l, tl_s]
  with_reducible refine And.intro ?_ ?_
  with_reducible exact rowA.ca (by assumption)
  with_reducible refine gl_A (by assumption) ?_
  with_reducible refine And.intro ?_ ?_
  with_reducible exact vpi4.2.2.1
  with_reducible refine go_S (by assumption) (fun _ _ hY => ?_)
  (simp only [rv0, rv1, rv2, rv3])
  simp only [eX3_span_111, wt_nil, wt_int, wt_long, wt_ref, g0, gS, ex1, Nat.add_zero]
  with_reducible refine And.intro ?_ ?_
  with_reducible exact MS.gC (by assumption) (by assumption)
  with_reducible refine And.intro ?_ ?_
  omega
  with_reducible refine And.intro ?_ ?_
  omega
  with_reducible refine And.intro ?_ ?_
  omega
  with_reducible refine sGetK (by assumption) (by assumption) (by assumption) (by assumption) (fun _ hb => ?_)
  simp only [eX3_span_114R, eX3_span_117, eX3_span_119, kx_l, wt_nil, tl_s, Nat.zero_add]
  with_reducible refine And.intro ?_ ?_
  with_reducible exact rowA.ca (by assumption)
  with_reducible refine gl_A (by assumption) ?_
  with_reducible refine And.intro ?_ ?_
  with_reducible exact vpi4.2.2.2
  with_reducible refine And.intro ?_ ?_
  with_reducible refine go_S (by assumption) (fun _ _ hY => ?_)
  with_reducible exact trivial
  with_reducible refine And.intro ?_ ?_
  omega
  with_reducible refine And.intro ?_ ?_
  omega
  with_reducible refine And.intro ?_ ?_
  omega
  (simp only [rv0, rv1, rv2, rv3])
  with_reducible refine fX3_make (by assumption) (by assumption) (fun hyes w3 h3 => ?_) (fun hno w3 h3 => ?_)
  simp only [eX3_span_122, kx_l, tl_s]
  with_reducible refine And.intro ?_ ?_
  omega
  with_reducible refine And.intro ?_ ?_
  omega
  with_reducible exact hT (by assumption) (by assumption) (by assumption) _ _ (by assumption) (by assumption) hyes _ h3
  simp only [eX3_span_122, kx_l, tl_s]
  with_reducible refine And.intro ?_ ?_
  omega
  with_reducible refine And.intro ?_ ?_
  omega
  with_reducible exact hF (by assumption) (by assumption) (by assumption) _ _ (by assumption) (by assumption) hno _ h3
  with_reducible exact n00x (by assumption)
  with_reducible exact n00x (by assumption)
end
end
/-! 75.mf7.lean.txt -/
section
section
variable {g : RO} {Q : Ot → Hw → Prop} {w0 w : Hw} {y nM : Nat} {kd th : Int32} {s : AS}
theorem rvK {r : R4} {a : Int32} (h : okW a 3) : rV r a.toNatClampNeg = eV r a := rvE h.1 h.2
set_option maxHeartbeats 4000000 in
theorem fX3_same_ {a0 a1 : Int32} (hM : MS g w0 y nM kd th s w) (hX : ¬ (okC a0 ∧ okC a1) → ∀ w', MS g w0 y nM kd 1 s w' → Q (.inl (some (.int 0))) w') (hS : okC a0 → okC a1 → s.2.1 a1.toNatClampNeg = none → ∀ w', MS g w0 y nM kd 2 s w' → Q (.inl (some (.int 0))) w') (hN : okC a0 → okC a1 → ∀ r, s.2.1 a1.toNatClampNeg = some r → s.2.1 a0.toNatClampNeg = none → ∀ w', MS g w0 y nM kd 0 (sC s (va_up s.2.1 a0.toNatClampNeg (some r))) w' → Q (.inl (some (.int (-1)))) w') (hT : okC a0 → okC a1 → ∀ r, s.2.1 a1.toNatClampNeg = some r → ∀ q, s.2.1 a0.toNatClampNeg = some q → mP q r → ∀ w', MS g w0 y nM kd 0 (sC s (va_up s.2.1 a0.toNatClampNeg (some r))) w' → Q (.inl (some (.int 1))) w') (hF : okC a0 → okC a1 → ∀ r, s.2.1 a1.toNatClampNeg = some r → ∀ q, s.2.1 a0.toNatClampNeg = some q → ¬ mP q r → ∀ w', MS g w0 y nM kd 0 (sC s (va_up s.2.1 a0.toNatClampNeg (some r))) w' → Q (.inl (some (.int 0))) w') : WP (MX3_same_ g) Q (0, [some (.ref y), some (.int a0), some (.int a1), none], [], w, 0, 0) := by
  simp only [eX3_same__0, wt_nil, Nat.add_zero]
  with_reducible refine And.intro ?_ ?_
  with_reducible refine go_S (by assumption) (fun _ _ hY => ?_)
  with_reducible exact trivial
  with_reducible refine And.intro ?_ ?_
  omega
  with_reducible refine And.intro ?_ ?_
  omega
  with_reducible refine And.intro ?_ ?_
  omega
  with_reducible refine fX3_isNoPair (by assumption) (fun _ w1 h1 => ?_) (fun _ _ _ w1 h1 => ?_) (fun ka kc r e1 w1 h1 => ?_)
  simp only [eX3_same__6, eX3_same__9, eX3_same__11, i10, if_false, kx_l, wt_nil, tl_s, Nat.add_zero]
  with_reducible refine And.intro ?_ ?_
  omega
  with_reducible refine And.intro ?_ ?_
  omega
  with_reducible exact hX (by assumption) _ (by assumption)
  simp only [eX3_same__6, eX3_same__9, eX3_same__11, i10, if_false, kx_l, wt_nil, tl_s, Nat.add_zero]
  with_reducible refine And.intro ?_ ?_
  omega
  with_reducible refine And.intro ?_ ?_
  omega
  with_reducible exact hS (by assumption) (by assumption) (by assumption) _ (by assumption)
  simp only [eX3_same__6, eX3_same__9, eX3_same__11, if_true, kx_l, wt_nil, tl_s, Nat.add_zero]
  with_reducible refine And.intro ?_ ?_
  with_reducible refine go_S (by assumption) (fun _ _ hY => ?_)
  with_reducible exact trivial
  with_reducible refine And.intro ?_ ?_
  omega
  with_reducible refine And.intro ?_ ?_
  omega
  with_reducible refine And.intro ?_ ?_
  omega
  with_reducible refine fX3_isBare h1 ka (fun e0 => ?_) (fun q e0 => ?_)
  simp only [eX3_same__16, eX3_same__19, eX3_same__23, eX3_same__27, eX3_same__51, eX3_same__56, eX3_same__61, i10, if_false, kx_l, nl_int, tl_s]
  with_reducible refine go_S (by assumption) (fun _ _ hY => ?_)
  simp only [g0, gS, ex1]
  with_reducible refine go_S (by assumption) (fun _ _ hY => ?_)
  simp only [eX3_same__62, wt_nil, wt_int, wt_ref, g0, gS, ex1, Nat.add_zero]
  with_reducible refine And.intro ?_ ?_
  with_reducible exact MS.gC (by assumption) (by assumption)
  with_reducible refine And.intro ?_ ?_
  omega
  with_reducible refine And.intro ?_ ?_
  omega
  with_reducible refine And.intro ?_ ?_
  omega
  with_reducible refine sGetK (i := a1) (by assumption) (by assumption) kc e1 (fun _ hb => ?_)
  simp only [eX3_same__65R, eX3_same__68R, kx_l, wt_nil, tl_s, Nat.add_zero]
  with_reducible refine And.intro ?_ ?_
  with_reducible exact rowA.ca (by assumption)
  with_reducible refine And.intro ?_ ?_
  with_reducible exact MS.gC (by assumption) (by assumption)
  with_reducible refine And.intro ?_ ?_
  omega
  with_reducible refine And.intro ?_ ?_
  omega
  with_reducible refine And.intro ?_ ?_
  omega
  with_reducible refine sSetFR (by assumption) (by assumption) hb ka (fun w3 h3 => ?_) (fun _ w3 h3 => ?_)
  simp only [eX3_same__71N, eX3_same__72, kx_l, tl_s]
  with_reducible refine And.intro ?_ ?_
  omega
  with_reducible refine And.intro ?_ ?_
  omega
  with_reducible exact hN ka kc r e1 e0 _ h3
  simp only [eX3_same__71R, eX3_same__72, kx_l, tl_s]
  with_reducible refine And.intro ?_ ?_
  omega
  with_reducible refine And.intro ?_ ?_
  omega
  with_reducible exact hN ka kc r e1 e0 _ h3
  simp only [eX3_same__16, eX3_same__19, eX3_same__23, eX3_same__27, eX3_same__51, eX3_same__56, eX3_same__61, if_true, kx_l, nl_int, tl_s]
  with_reducible refine go_S (by assumption) (fun _ _ hY => ?_)
  simp only [eX3_same__28, wt_nil, g0, gS, ex1, Nat.add_zero]
  with_reducible refine And.intro ?_ ?_
  with_reducible exact MS.gC (by assumption) (by assumption)
  with_reducible refine And.intro ?_ ?_
  omega
  with_reducible refine And.intro ?_ ?_
  omega
  with_reducible refine And.intro ?_ ?_
  omega
  with_reducible refine sGetK (i := a0) (by assumption) (by assumption) ka e0 (fun _ hb0 => ?_)
  simp only [eX3_same__31R, eX3_same__34, eX3_same__38, kx_l, tl_s]
  with_reducible refine And.intro ?_ ?_
  with_reducible exact rowA.ca (by assumption)
  with_reducible refine go_S (by assumption) (fun _ _ hY => ?_)
  simp only [eX3_same__39, wt_nil, wt_ref, g0, gS, ex1, Nat.add_zero]
  with_reducible refine And.intro ?_ ?_
  with_reducible exact MS.gC (by assumption) (by assumption)
  with_reducible refine And.intro ?_ ?_
  omega
  with_reducible refine And.intro ?_ ?_
  omega
  with_reducible refine And.intro ?_ ?_
  omega
  with_reducible refine sGetK (i := a1) (by assumption) (by assumption) kc e1 (fun _ hb => ?_)
  simp only [eX3_same__42R, eX3_same__45RR, kx_l, wt_nil, tl_s, Nat.add_zero]
  with_reducible refine And.intro ?_ ?_
  with_reducible exact rowA.ca (by assumption)
  with_reducible refine And.intro ?_ ?_
  omega
  with_reducible refine And.intro ?_ ?_
  omega
  with_reducible refine And.intro ?_ ?_
  omega
  with_reducible refine fX3_same hb0 hb (fun hm => ?_) (fun hm => ?_)
  simp only [eX3_same__48, kx_l, wt_nil, tl_s, Nat.add_zero]
  with_reducible refine And.intro ?_ ?_
  omega
  with_reducible refine And.intro ?_ ?_
  omega
  with_reducible refine And.intro ?_ ?_
  omega
  with_reducible refine fX3_one (Or.inr rfl) ?_
  simp only [eX3_same__51, eX3_same__56, eX3_same__61, kx_l, nl_int, tl_s]
  with_reducible refine go_S (by assumption) (fun _ _ hY => ?_)
  simp only [g0, gS, ex1]
  with_reducible refine go_S (by assumption) (fun _ _ hY => ?_)
  simp only [eX3_same__62, wt_nil, wt_int, wt_ref, g0, gS, ex1, Nat.add_zero]
  with_reducible refine And.intro ?_ ?_
  with_reducible exact MS.gC (by assumption) (by assumption)
  with_reducible refine And.intro ?_ ?_
  omega
  with_reducible refine And.intro ?_ ?_
  omega
  with_reducible refine And.intro ?_ ?_
  omega
  with_reducible refine sGetK (i := a1) (by assumption) (by assumption) kc e1 (fun _ hb => ?_)
  simp only [eX3_same__65R, eX3_same__68R, kx_l, wt_nil, tl_s, Nat.add_zero]
  with_reducible refine And.intro ?_ ?_
  with_reducible exact rowA.ca (by assumption)
  with_reducible refine And.intro ?_ ?_
  with_reducible exact MS.gC (by assumption) (by assumption)
  with_reducible refine And.intro ?_ ?_
  omega
  with_reducible refine And.intro ?_ ?_
  omega
  with_reducible refine And.intro ?_ ?_
  omega
  with_reducible refine sSetFR (by assumption) (by assumption) hb ka (fun w3 h3 => ?_) (fun _ w3 h3 => ?_)
  simp only [eX3_same__71N, eX3_same__72, kx_l, tl_s]
  with_reducible refine And.intro ?_ ?_
  omega
  with_reducible refine And.intro ?_ ?_
  omega
  with_reducible exact hT ka kc r e1 q e0 hm _ h3
  simp only [eX3_same__71R, eX3_same__72, kx_l, tl_s]
  with_reducible refine And.intro ?_ ?_
  omega
  with_reducible refine And.intro ?_ ?_
  omega
  with_reducible exact hT ka kc r e1 q e0 hm _ h3
  simp only [eX3_same__48, kx_l, wt_nil, tl_s, Nat.add_zero]
  with_reducible refine And.intro ?_ ?_
  omega
  with_reducible refine And.intro ?_ ?_
  omega
  with_reducible refine And.intro ?_ ?_
  omega
  with_reducible refine fX3_one (Or.inl rfl) ?_
  simp only [eX3_same__51, eX3_same__56, eX3_same__61, kx_l, nl_int, tl_s]
  with_reducible refine go_S (by assumption) (fun _ _ hY => ?_)
  simp only [g0, gS, ex1]
  with_reducible refine go_S (by assumption) (fun _ _ hY => ?_)
  simp only [eX3_same__62, wt_nil, wt_int, wt_ref, g0, gS, ex1, Nat.add_zero]
  with_reducible refine And.intro ?_ ?_
  with_reducible exact MS.gC (by assumption) (by assumption)
  with_reducible refine And.intro ?_ ?_
  omega
  with_reducible refine And.intro ?_ ?_
  omega
  with_reducible refine And.intro ?_ ?_
  omega
  with_reducible refine sGetK (i := a1) (by assumption) (by assumption) kc e1 (fun _ hb => ?_)
  simp only [eX3_same__65R, eX3_same__68R, kx_l, wt_nil, tl_s, Nat.add_zero]
  with_reducible refine And.intro ?_ ?_
  with_reducible exact rowA.ca (by assumption)
  with_reducible refine And.intro ?_ ?_
  with_reducible exact MS.gC (by assumption) (by assumption)
  with_reducible refine And.intro ?_ ?_
  omega
  with_reducible refine And.intro ?_ ?_
  omega
  with_reducible refine And.intro ?_ ?_
  omega
  with_reducible refine sSetFR (by assumption) (by assumption) hb ka (fun w3 h3 => ?_) (fun _ w3 h3 => ?_)
  simp only [eX3_same__71N, eX3_same__72, kx_l, tl_s]
  with_reducible refine And.intro ?_ ?_
  omega
  with_reducible refine And.intro ?_ ?_
  omega
  with_reducible exact hF ka kc r e1 q e0 hm _ h3
  simp only [eX3_same__71R, eX3_same__72, kx_l, tl_s]
  with_reducible refine And.intro ?_ ?_
  omega
  with_reducible refine And.intro ?_ ?_
  omega
  with_reducible exact hF ka kc r e1 q e0 hm _ h3
set_option maxHeartbeats 4000000 in
theorem fX3_drop {a0 : Int32} (hM : MS g w0 y nM kd th s w) (hX : ¬ (okC a0) → ∀ w', MS g w0 y nM kd 1 s w' → Q (.inl (some (.int 0))) w') (hN : okC a0 → s.2.1 a0.toNatClampNeg = none → ∀ w', MS g w0 y nM kd 0 (sC s (va_up s.2.1 a0.toNatClampNeg none)) w' → Q (.inl (some (.int 0))) w') (hS : okC a0 → ∀ r, s.2.1 a0.toNatClampNeg = some r → ∀ w', MS g w0 y nM kd 0 (sC s (va_up s.2.1 a0.toNatClampNeg none)) w' → Q (.inl (some (.int 1))) w') : WP (MX3_drop g) Q (0, [some (.ref y), some (.int a0), none], [], w, 0, 0) := by
  simp only [eX3_drop_0, eX3_drop_5, wt_nil, wt_ref, Nat.add_zero]
  with_reducible refine And.intro ?_ ?_
  omega
  with_reducible refine And.intro ?_ ?_
  omega
  with_reducible refine And.intro ?_ ?_
  omega
  with_reducible refine fX3_isNoCard (fun _ => ?_) (fun _ => ?_)
  simp only [eX3_drop_6, kx_l, wt_nil, tl_s, Nat.add_zero]
  with_reducible refine And.intro ?_ ?_
  with_reducible refine go_S (by assumption) (fun _ _ hY => ?_)
  with_reducible exact trivial
  with_reducible refine And.intro ?_ ?_
  omega
  with_reducible refine And.intro ?_ ?_
  omega
  with_reducible refine And.intro ?_ ?_
  omega
  with_reducible refine fX3_start (by assumption) (by decide) (fun _ w1 h1 => ?_) (fun _ w1 h1 => ?_)
  with_reducible exact absurd (by assumption) n10'
  simp only [eX3_drop_9, eX3_drop_12, eX3_drop_14, i10, if_false, kx_l, wt_nil, tl_s, Nat.add_zero]
  with_reducible refine And.intro ?_ ?_
  omega
  with_reducible refine And.intro ?_ ?_
  omega
  with_reducible exact hX (fun h => absurd h (by assumption)) _ (by assumption)
  simp only [eX3_drop_6, kx_l, wt_nil, tl_s, Nat.add_zero]
  with_reducible refine And.intro ?_ ?_
  with_reducible refine go_S (by assumption) (fun _ _ hY => ?_)
  with_reducible exact trivial
  with_reducible refine And.intro ?_ ?_
  omega
  with_reducible refine And.intro ?_ ?_
  omega
  with_reducible refine And.intro ?_ ?_
  omega
  with_reducible refine fX3_start (by assumption) (by decide) (fun _ w1 h1 => ?_) (fun _ w1 h1 => ?_)
  simp only [eX3_drop_9, eX3_drop_12, eX3_drop_14, if_true, kx_l, wt_nil, tl_s, Nat.add_zero]
  with_reducible refine And.intro ?_ ?_
  with_reducible refine go_S (by assumption) (fun _ _ hY => ?_)
  with_reducible exact trivial
  with_reducible refine And.intro ?_ ?_
  omega
  with_reducible refine And.intro ?_ ?_
  omega
  with_reducible refine And.intro ?_ ?_
  omega
  with_reducible refine fX3_isBare (by assumption) (by assumption) (fun _ => ?_) (fun _ _ => ?_)
  simp only [eX3_drop_19, eX3_drop_22, eX3_drop_26, eX3_drop_27, i10, if_false, kx_l, wt_nil, tl_s, Nat.add_zero]
  with_reducible refine And.intro ?_ ?_
  omega
  with_reducible refine And.intro ?_ ?_
  omega
  with_reducible refine And.intro ?_ ?_
  omega
  with_reducible refine fX3_one (Or.inl rfl) ?_
  simp only [eX3_drop_30, eX3_drop_35, kx_l, nl_int, tl_s]
  with_reducible refine go_S (by assumption) (fun _ _ hY => ?_)
  simp only [eX3_drop_37N, wt_nil, g0, gS, ex1, Nat.add_zero]
  with_reducible refine And.intro ?_ ?_
  with_reducible exact MS.gC (by assumption) (by assumption)
  with_reducible refine And.intro ?_ ?_
  omega
  with_reducible refine And.intro ?_ ?_
  omega
  with_reducible refine And.intro ?_ ?_
  omega
  with_reducible refine sSetFN (by assumption) (by assumption) (by assumption) (fun w3 h3 => ?_) (fun _ w3 h3 => ?_)
  simp only [eX3_drop_40N, eX3_drop_41, kx_l, tl_s]
  with_reducible refine And.intro ?_ ?_
  omega
  with_reducible refine And.intro ?_ ?_
  omega
  with_reducible exact hN (by assumption) (by assumption) _ h3
  simp only [eX3_drop_40R, eX3_drop_41, kx_l, tl_s]
  with_reducible refine And.intro ?_ ?_
  omega
  with_reducible refine And.intro ?_ ?_
  omega
  with_reducible exact hN (by assumption) (by assumption) _ h3
  simp only [eX3_drop_19, eX3_drop_22, eX3_drop_26, eX3_drop_27, if_true, kx_l, wt_nil, tl_s, Nat.add_zero]
  with_reducible refine And.intro ?_ ?_
  omega
  with_reducible refine And.intro ?_ ?_
  omega
  with_reducible refine And.intro ?_ ?_
  omega
  with_reducible refine fX3_one (Or.inr rfl) ?_
  simp only [eX3_drop_30, eX3_drop_35, kx_l, nl_int, tl_s]
  with_reducible refine go_S (by assumption) (fun _ _ hY => ?_)
  simp only [eX3_drop_37N, wt_nil, g0, gS, ex1, Nat.add_zero]
  with_reducible refine And.intro ?_ ?_
  with_reducible exact MS.gC (by assumption) (by assumption)
  with_reducible refine And.intro ?_ ?_
  omega
  with_reducible refine And.intro ?_ ?_
  omega
  with_reducible refine And.intro ?_ ?_
  omega
  with_reducible refine sSetFN (by assumption) (by assumption) (by assumption) (fun w3 h3 => ?_) (fun _ w3 h3 => ?_)
  simp only [eX3_drop_40N, eX3_drop_41, kx_l, tl_s]
  with_reducible refine And.intro ?_ ?_
  omega
  with_reducible refine And.intro ?_ ?_
  omega
  with_reducible exact hS (by assumption) _ (by assumption) _ h3
  simp only [eX3_drop_40R, eX3_drop_41, kx_l, tl_s]
  with_reducible refine And.intro ?_ ?_
  omega
  with_reducible refine And.intro ?_ ?_
  omega
  with_reducible exact hS (by assumption) _ (by assumption) _ h3
  with_reducible exact n00x (by assumption)
set_option maxHeartbeats 4000000 in
theorem fX3_take {a0 a1 a2 : Int32} (hM : MS g w0 y nM kd th s w) (hX : ¬ (okC a0 ∧ okN a2) → ∀ w', MS g w0 y nM kd 1 s w' → Q (.inl (some (.int 0))) w') (hW : okC a0 → okN a2 → ¬ okW a1 3 → ∀ w', MS g w0 y nM kd 2 s w' → Q (.inl (some (.int 0))) w') (hS : okC a0 → okN a2 → okW a1 3 → s.2.1 a0.toNatClampNeg = none → ∀ w', MS g w0 y nM kd 3 s w' → Q (.inl (some (.int 0))) w') (hQ : okC a0 → okN a2 → okW a1 3 → ∀ r, s.2.1 a0.toNatClampNeg = some r → ∀ w', MS g w0 y nM kd 0 (sN s (vp_updL s.1 a2.toNatClampNeg (eV r a1))) w' → Q (.inl (some (.int (loV (eV r a1))))) w') : WP (MX3_take g) Q (0, [some (.ref y), some (.int a0), some (.int a1), some (.int a2)], [], w, 0, 0) := by
  simp only [eX3_take_0, wt_nil, wt_ref, Nat.add_zero]
  with_reducible refine And.intro ?_ ?_
  omega
  with_reducible refine And.intro ?_ ?_
  omega
  with_reducible refine And.intro ?_ ?_
  omega
  with_reducible refine fX3_isNoCard (fun _ => ?_) (fun _ => ?_)
  simp only [eX3_take_5, eX3_take_8, eX3_take_15, eX3_take_20, i10, if_false, kx_l, wt_nil, wt_ref, tl_s, Nat.add_zero]
  with_reducible refine And.intro ?_ ?_
  with_reducible refine go_S (by assumption) (fun _ _ hY => ?_)
  with_reducible exact trivial
  with_reducible refine And.intro ?_ ?_
  omega
  with_reducible refine And.intro ?_ ?_
  omega
  with_reducible refine And.intro ?_ ?_
  omega
  with_reducible refine fX3_start (by assumption) (by decide) (fun _ w1 h1 => ?_) (fun _ w1 h1 => ?_)
  with_reducible exact absurd (by assumption) n10'
  simp only [eX3_take_24, eX3_take_27, eX3_take_32, eX3_take_52, i10, if_false, kx_l, wt_nil, wt_ref, tl_s, Nat.add_zero]
  with_reducible refine And.intro ?_ ?_
  omega
  with_reducible refine And.intro ?_ ?_
  omega
  with_reducible exact hX (fun h => absurd h.1 (by assumption)) _ (by assumption)
  simp only [eX3_take_5, eX3_take_8, eX3_take_15, eX3_take_20, if_true, kx_l, wt_nil, wt_ref, tl_s, Nat.add_zero]
  with_reducible refine And.intro ?_ ?_
  omega
  with_reducible refine And.intro ?_ ?_
  omega
  with_reducible refine And.intro ?_ ?_
  omega
  with_reducible refine fX3_isNoNumber (fun _ => ?_) (fun _ => ?_)
  simp only [eX3_take_12, eX3_take_15, eX3_take_19, eX3_take_20, i10, if_false, kx_l, wt_nil, tl_s, Nat.add_zero]
  with_reducible refine And.intro ?_ ?_
  with_reducible refine go_S (by assumption) (fun _ _ hY => ?_)
  with_reducible exact trivial
  with_reducible refine And.intro ?_ ?_
  omega
  with_reducible refine And.intro ?_ ?_
  omega
  with_reducible refine And.intro ?_ ?_
  omega
  with_reducible refine fX3_start (by assumption) (by decide) (fun _ w1 h1 => ?_) (fun _ w1 h1 => ?_)
  with_reducible exact absurd (by assumption) n10'
  simp only [eX3_take_24, eX3_take_27, eX3_take_32, eX3_take_52, i10, if_false, kx_l, wt_nil, wt_ref, tl_s, Nat.add_zero]
  with_reducible refine And.intro ?_ ?_
  omega
  with_reducible refine And.intro ?_ ?_
  omega
  with_reducible exact hX (fun h => absurd h.2 (by assumption)) _ (by assumption)
  simp only [eX3_take_12, eX3_take_15, eX3_take_19, eX3_take_20, if_true, kx_l, wt_nil, tl_s, Nat.add_zero]
  with_reducible refine And.intro ?_ ?_
  with_reducible refine go_S (by assumption) (fun _ _ hY => ?_)
  with_reducible exact trivial
  with_reducible refine And.intro ?_ ?_
  omega
  with_reducible refine And.intro ?_ ?_
  omega
  with_reducible refine And.intro ?_ ?_
  omega
  with_reducible refine fX3_start (by assumption) (by decide) (fun _ w1 h1 => ?_) (fun _ w1 h1 => ?_)
  simp only [eX3_take_24, eX3_take_27, eX3_take_32, eX3_take_52, if_true, kx_l, wt_nil, wt_ref, tl_s, Nat.add_zero]
  with_reducible refine And.intro ?_ ?_
  omega
  with_reducible refine And.intro ?_ ?_
  omega
  with_reducible refine And.intro ?_ ?_
  omega
  with_reducible refine fX3_isNoEnd (fun _ => ?_) (fun _ => ?_)
  simp only [eX3_take_33, kx_l, wt_nil, tl_s, Nat.add_zero]
  with_reducible refine And.intro ?_ ?_
  with_reducible refine go_S (by assumption) (fun _ _ hY => ?_)
  with_reducible exact trivial
  with_reducible refine And.intro ?_ ?_
  omega
  with_reducible refine And.intro ?_ ?_
  omega
  with_reducible refine And.intro ?_ ?_
  omega
  with_reducible refine fX3_refuse (by assumption) (by decide) (fun _ => ?_) (fun _ w2 h2 => ?_)
  with_reducible exact absurd (by assumption) n10'
  simp only [eX3_take_36, eX3_take_39, eX3_take_45, eX3_take_52, i10, if_false, kx_l, wt_nil, wt_ref, tl_s, Nat.add_zero]
  with_reducible refine And.intro ?_ ?_
  omega
  with_reducible refine And.intro ?_ ?_
  omega
  with_reducible exact hW (by assumption) (by assumption) (by assumption) _ (by assumption)
  simp only [eX3_take_33, kx_l, wt_nil, tl_s, Nat.add_zero]
  with_reducible refine And.intro ?_ ?_
  with_reducible refine go_S (by assumption) (fun _ _ hY => ?_)
  with_reducible exact trivial
  with_reducible refine And.intro ?_ ?_
  omega
  with_reducible refine And.intro ?_ ?_
  omega
  with_reducible refine And.intro ?_ ?_
  omega
  with_reducible refine fX3_refuse (by assumption) (by decide) (fun _ => ?_) (fun _ w2 h2 => ?_)
  simp only [eX3_take_36, eX3_take_39, eX3_take_45, eX3_take_52, if_true, kx_l, wt_nil, wt_ref, tl_s, Nat.add_zero]
  with_reducible refine And.intro ?_ ?_
  with_reducible refine go_S (by assumption) (fun _ _ hY => ?_)
  with_reducible exact trivial
  with_reducible refine And.intro ?_ ?_
  omega
  with_reducible refine And.intro ?_ ?_
  omega
  with_reducible refine And.intro ?_ ?_
  omega
  with_reducible refine fX3_isBare (by assumption) (by assumption) (fun _ => ?_) (fun _ _ => ?_)
  simp only [eX3_take_46, kx_l, wt_nil, tl_s, Nat.add_zero]
  with_reducible refine And.intro ?_ ?_
  with_reducible refine go_S (by assumption) (fun _ _ hY => ?_)
  with_reducible exact trivial
  with_reducible refine And.intro ?_ ?_
  omega
  with_reducible refine And.intro ?_ ?_
  omega
  with_reducible refine And.intro ?_ ?_
  omega
  with_reducible refine fX3_refuse (by assumption) (by decide) (fun _ => ?_) (fun _ w2 h2 => ?_)
  with_reducible exact absurd (by assumption) n10'
  simp only [eX3_take_49, eX3_take_52, eX3_take_54, eX3_take_60, i10, if_false, kx_l, tl_s]
  with_reducible refine And.intro ?_ ?_
  omega
  with_reducible refine And.intro ?_ ?_
  omega
  with_reducible exact hS (by assumption) (by assumption) (by assumption) (by assumption) _ (by assumption)
  simp only [eX3_take_46, kx_l, wt_nil, tl_s, Nat.add_zero]
  with_reducible refine And.intro ?_ ?_
  with_reducible refine go_S (by assumption) (fun _ _ hY => ?_)
  with_reducible exact trivial
  with_reducible refine And.intro ?_ ?_
  omega
  with_reducible refine And.intro ?_ ?_
  omega
  with_reducible refine And.intro ?_ ?_
  omega
  with_reducible refine fX3_refuse (by assumption) (by decide) (fun _ => ?_) (fun _ w2 h2 => ?_)
  simp only [eX3_take_49, eX3_take_52, eX3_take_54, eX3_take_60, if_true, kx_l, tl_s]
  with_reducible refine go_S (by assumption) (fun _ _ hY => ?_)
  simp only [eX3_take_61, wt_nil, wt_int, wt_ref, g0, gS, ex1, Nat.add_zero]
  with_reducible refine And.intro ?_ ?_
  with_reducible exact MS.gC (by assumption) (by assumption)
  with_reducible refine And.intro ?_ ?_
  omega
  with_reducible refine And.intro ?_ ?_
  omega
  with_reducible refine And.intro ?_ ?_
  omega
  with_reducible refine sGetK (by assumption) (by assumption) (by assumption) (by assumption) (fun _ hb => ?_)
  simp only [eX3_take_64R, eX3_take_67, eX3_take_69, kx_l, wt_nil, tl_s, Nat.add_zero]
  with_reducible refine And.intro ?_ ?_
  with_reducible exact rowA.ca (by assumption)
  with_reducible refine gl_A (by assumption) ?_
  with_reducible refine And.intro ?_ ?_
  with_reducible exact vpi4k (by assumption)
  with_reducible refine And.intro ?_ ?_
  with_reducible refine go_S (by assumption) (fun _ _ hY => ?_)
  with_reducible exact trivial
  with_reducible refine And.intro ?_ ?_
  omega
  with_reducible refine And.intro ?_ ?_
  omega
  with_reducible refine And.intro ?_ ?_
  omega
  (rw [rvK (by assumption)]; refine fX3_become (by assumption) (by assumption) (fun w3 h3 => ?_))
  simp only [eX3_take_72, kx_l, tl_s]
  with_reducible refine And.intro ?_ ?_
  omega
  with_reducible refine And.intro ?_ ?_
  omega
  with_reducible exact hQ (by assumption) (by assumption) (by assumption) _ (by assumption) _ h3
  with_reducible exact n00x (by assumption)
  with_reducible exact n00x (by assumption)
  with_reducible exact n00x (by assumption)
set_option maxHeartbeats 4000000 in
theorem fX3_end {a0 a1 a2 : Int32} (hM : MS g w0 y nM kd th s w) (hX : ¬ (okC a0) → ∀ w', MS g w0 y nM kd 1 s w' → Q (.inl (some (.int 0))) w') (hW : okC a0 → ¬ okW a1 3 → ∀ w', MS g w0 y nM kd 2 s w' → Q (.inl (some (.int 0))) w') (hS : okC a0 → okW a1 3 → s.2.1 a0.toNatClampNeg = none → ∀ w', MS g w0 y nM kd 3 s w' → Q (.inl (some (.int 0))) w') (hQ : okC a0 → okW a1 3 → ∀ r, s.2.1 a0.toNatClampNeg = some r → ∀ w', MS g w0 y nM kd 0 s w' → Q (.inl (some (.int (hfV (eV r a1) a2)))) w') : WP (MX3_end g) Q (0, [some (.ref y), some (.int a0), some (.int a1), some (.int a2)], [], w, 0, 0) := by
  simp only [eX3_end_0, wt_nil, Nat.add_zero]
  with_reducible refine And.intro ?_ ?_
  with_reducible refine go_S (by assumption) (fun _ _ hY => ?_)
  with_reducible exact trivial
  with_reducible refine And.intro ?_ ?_
  omega
  with_reducible refine And.intro ?_ ?_
  omega
  with_reducible refine And.intro ?_ ?_
  omega
  with_reducible refine fX3_isNoEnd_ (by assumption) (fun _ w1 h1 => ?_) (fun _ _ w1 h1 => ?_) (fun _ _ _ w1 h1 => ?_) (fun ka kw r e1 w1 h1 => ?_)
  simp only [eX3_end_6, eX3_end_9, eX3_end_11, eX3_end_15, eX3_end_19, eX3_end_34, eX3_end_38, i10, if_false, kx_l, tl_s]
  with_reducible refine And.intro ?_ ?_
  omega
  with_reducible refine And.intro ?_ ?_
  omega
  with_reducible exact hX (fun h => absurd h (by assumption)) _ (by assumption)
  simp only [eX3_end_6, eX3_end_9, eX3_end_11, eX3_end_15, eX3_end_19, eX3_end_34, eX3_end_38, i10, if_false, kx_l, tl_s]
  with_reducible refine And.intro ?_ ?_
  omega
  with_reducible refine And.intro ?_ ?_
  omega
  with_reducible exact hW (by assumption) (by assumption) _ (by assumption)
  simp only [eX3_end_6, eX3_end_9, eX3_end_11, eX3_end_15, eX3_end_19, eX3_end_34, eX3_end_38, i10, if_false, kx_l, tl_s]
  with_reducible refine And.intro ?_ ?_
  omega
  with_reducible refine And.intro ?_ ?_
  omega
  with_reducible exact hS (by assumption) (by assumption) (by assumption) _ (by assumption)
  simp only [eX3_end_6, eX3_end_9, eX3_end_11, eX3_end_15, eX3_end_19, eX3_end_34, eX3_end_38, if_true, kx_l, tl_s]
  with_reducible refine itx (fun _ => ?_) (fun _ => ?_)
  with_reducible refine go_S (by assumption) (fun _ _ hY => ?_)
  simp only [eX3_end_39, wt_nil, g0, gS, ex1, Nat.add_zero]
  with_reducible refine And.intro ?_ ?_
  with_reducible exact MS.gC (by assumption) (by assumption)
  with_reducible refine And.intro ?_ ?_
  omega
  with_reducible refine And.intro ?_ ?_
  omega
  with_reducible refine And.intro ?_ ?_
  omega
  with_reducible refine sGetK (by assumption) (by assumption) (by assumption) (by assumption) (fun _ hb => ?_)
  simp only [eX3_end_42R, eX3_end_45, eX3_end_47, kx_l, wt_nil, tl_s, Nat.add_zero]
  with_reducible refine And.intro ?_ ?_
  with_reducible exact rowA.ca (by assumption)
  with_reducible refine gl_A (by assumption) ?_
  with_reducible refine And.intro ?_ ?_
  with_reducible exact vpi4k (by assumption)
  with_reducible refine And.intro ?_ ?_
  omega
  with_reducible refine And.intro ?_ ?_
  omega
  with_reducible refine And.intro ?_ ?_
  omega
  (rw [rvK kw]; with_reducible refine fX3_low ?_)
  simp only [eX3_end_50, kx_l, tl_s]
  with_reducible refine And.intro ?_ ?_
  omega
  with_reducible refine And.intro ?_ ?_
  omega
  (rw [← hfV_e (a := eV r a1) (h := a2) (by assumption)]; exact hQ ka kw r e1 _ h1)
  with_reducible refine go_S (by assumption) (fun _ _ hY => ?_)
  simp only [eX3_end_20, wt_nil, g0, gS, ex1, Nat.add_zero]
  with_reducible refine And.intro ?_ ?_
  with_reducible exact MS.gC (by assumption) (by assumption)
  with_reducible refine And.intro ?_ ?_
  omega
  with_reducible refine And.intro ?_ ?_
  omega
  with_reducible refine And.intro ?_ ?_
  omega
  with_reducible refine sGetK (by assumption) (by assumption) (by assumption) (by assumption) (fun _ hb => ?_)
  simp only [eX3_end_23R, eX3_end_26, eX3_end_28, eX3_end_31, kx_l, wt_nil, tl_s, Nat.add_zero]
  with_reducible refine And.intro ?_ ?_
  with_reducible exact rowA.ca (by assumption)
  with_reducible refine gl_A (by assumption) ?_
  with_reducible refine And.intro ?_ ?_
  with_reducible exact vpi4k (by assumption)
  with_reducible refine And.intro ?_ ?_
  omega
  with_reducible refine And.intro ?_ ?_
  omega
  with_reducible refine And.intro ?_ ?_
  omega
  (rw [rvK kw]; with_reducible refine fX3_high ?_)
  simp only [eX3_end_50, kx_l, tl_s]
  with_reducible refine And.intro ?_ ?_
  omega
  with_reducible refine And.intro ?_ ?_
  omega
  (rw [← hfV_n (a := eV r a1) (h := a2) (by assumption)]; exact hQ ka kw r e1 _ h1)
set_option maxHeartbeats 4000000 in
theorem fX3_isThere {a0 : Int32} (hM : MS g w0 y nM kd th s w) (hX : ¬ (okC a0) → ∀ w', MS g w0 y nM kd 1 s w' → Q (.inl (some (.int 0))) w') (hF : okC a0 → s.2.1 a0.toNatClampNeg = none → ∀ w', MS g w0 y nM kd 0 s w' → Q (.inl (some (.int 0))) w') (hT : okC a0 → ∀ r, s.2.1 a0.toNatClampNeg = some r → ∀ w', MS g w0 y nM kd 0 s w' → Q (.inl (some (.int 1))) w') : WP (MX3_isThere g) Q (0, [some (.ref y), some (.int a0)], [], w, 0, 0) := by
  simp only [eX3_isThere_0, eX3_isThere_5, wt_nil, wt_ref, Nat.add_zero]
  with_reducible refine And.intro ?_ ?_
  omega
  with_reducible refine And.intro ?_ ?_
  omega
  with_reducible refine And.intro ?_ ?_
  omega
  with_reducible refine fX3_isNoCard (fun _ => ?_) (fun _ => ?_)
  simp only [eX3_isThere_6, kx_l, wt_nil, tl_s, Nat.add_zero]
  with_reducible refine And.intro ?_ ?_
  with_reducible refine go_S (by assumption) (fun _ _ hY => ?_)
  with_reducible exact trivial
  with_reducible refine And.intro ?_ ?_
  omega
  with_reducible refine And.intro ?_ ?_
  omega
  with_reducible refine And.intro ?_ ?_
  omega
  with_reducible refine fX3_start (by assumption) (by decide) (fun _ w1 h1 => ?_) (fun _ w1 h1 => ?_)
  with_reducible exact absurd (by assumption) n10'
  simp only [eX3_isThere_9, eX3_isThere_12, eX3_isThere_24, eX3_isThere_25, i10, if_false, kx_l, wt_nil, tl_s, nb_0, true_and, Nat.add_zero]
  with_reducible refine And.intro ?_ ?_
  omega
  with_reducible refine And.intro ?_ ?_
  omega
  with_reducible exact hX (fun h => absurd h (by assumption)) _ (by assumption)
  simp only [eX3_isThere_6, kx_l, wt_nil, tl_s, Nat.add_zero]
  with_reducible refine And.intro ?_ ?_
  with_reducible refine go_S (by assumption) (fun _ _ hY => ?_)
  with_reducible exact trivial
  with_reducible refine And.intro ?_ ?_
  omega
  with_reducible refine And.intro ?_ ?_
  omega
  with_reducible refine And.intro ?_ ?_
  omega
  with_reducible refine fX3_start (by assumption) (by decide) (fun _ w1 h1 => ?_) (fun _ w1 h1 => ?_)
  simp only [eX3_isThere_9, eX3_isThere_12, eX3_isThere_24, eX3_isThere_25, if_true, kx_l, wt_nil, tl_s, nb_0, true_and, Nat.add_zero]
  with_reducible refine And.intro ?_ ?_
  with_reducible refine go_S (by assumption) (fun _ _ hY => ?_)
  with_reducible exact trivial
  with_reducible refine And.intro ?_ ?_
  omega
  with_reducible refine And.intro ?_ ?_
  omega
  with_reducible refine And.intro ?_ ?_
  omega
  with_reducible refine fX3_isBare (by assumption) (by assumption) (fun _ => ?_) (fun _ _ => ?_)
  simp only [eX3_isThere_17, eX3_isThere_20, eX3_isThere_24, eX3_isThere_25, i10, if_false, kx_l, tl_s, nb_0, nb_1, true_and]
  with_reducible refine And.intro ?_ ?_
  omega
  with_reducible refine And.intro ?_ ?_
  omega
  with_reducible exact hF (by assumption) (by assumption) _ (by assumption)
  simp only [eX3_isThere_17, eX3_isThere_20, eX3_isThere_24, eX3_isThere_25, if_true, kx_l, tl_s, nb_0, nb_1, true_and]
  with_reducible refine And.intro ?_ ?_
  omega
  with_reducible refine And.intro ?_ ?_
  omega
  with_reducible exact hT (by assumption) _ (by assumption) _ (by assumption)
  with_reducible exact n00x (by assumption)
set_option maxHeartbeats 4000000 in
theorem fX3_isFixed {a0 : Int32} (hM : MS g w0 y nM kd th s w) (hX : ¬ (okC a0) → ∀ w', MS g w0 y nM kd 1 s w' → Q (.inl (some (.int 0))) w') (hS : okC a0 → s.2.1 a0.toNatClampNeg = none → ∀ w', MS g w0 y nM kd 2 s w' → Q (.inl (some (.int 0))) w') (hT : okC a0 → ∀ r, s.2.1 a0.toNatClampNeg = some r → fP r → ∀ w', MS g w0 y nM kd 0 s w' → Q (.inl (some (.int 1))) w') (hF : okC a0 → ∀ r, s.2.1 a0.toNatClampNeg = some r → ¬ (fP r) → ∀ w', MS g w0 y nM kd 0 s w' → Q (.inl (some (.int 0))) w') : WP (MX3_isFixed g) Q (0, [some (.ref y), some (.int a0)], [], w, 0, 0) := by
  simp only [eX3_isFixed_0, wt_nil, Nat.add_zero]
  with_reducible refine And.intro ?_ ?_
  with_reducible refine go_S (by assumption) (fun _ _ hY => ?_)
  with_reducible exact trivial
  with_reducible refine And.intro ?_ ?_
  omega
  with_reducible refine And.intro ?_ ?_
  omega
  with_reducible refine And.intro ?_ ?_
  omega
  with_reducible refine fX3_isNone (by assumption) (fun _ w1 h1 => ?_) (fun _ _ w1 h1 => ?_) (fun ka r e1 w1 h1 => ?_)
  simp only [eX3_isFixed_5, eX3_isFixed_8, eX3_isFixed_12, eX3_isFixed_29, eX3_isFixed_30, i10, if_false, kx_l, tl_s, nb_0, true_and]
  with_reducible refine And.intro ?_ ?_
  omega
  with_reducible refine And.intro ?_ ?_
  omega
  with_reducible exact hX (fun h => absurd h (by assumption)) _ (by assumption)
  simp only [eX3_isFixed_5, eX3_isFixed_8, eX3_isFixed_12, eX3_isFixed_29, eX3_isFixed_30, i10, if_false, kx_l, tl_s, nb_0, true_and]
  with_reducible refine And.intro ?_ ?_
  omega
  with_reducible refine And.intro ?_ ?_
  omega
  with_reducible exact hS (by assumption) (by assumption) _ (by assumption)
  simp only [eX3_isFixed_5, eX3_isFixed_8, eX3_isFixed_12, eX3_isFixed_29, eX3_isFixed_30, if_true, kx_l, tl_s, nb_0, true_and]
  with_reducible refine go_S (by assumption) (fun _ _ hY => ?_)
  simp only [eX3_isFixed_13, wt_nil, g0, gS, ex1, Nat.add_zero]
  with_reducible refine And.intro ?_ ?_
  with_reducible exact MS.gC (by assumption) (by assumption)
  with_reducible refine And.intro ?_ ?_
  omega
  with_reducible refine And.intro ?_ ?_
  omega
  with_reducible refine And.intro ?_ ?_
  omega
  with_reducible refine sGetK (by assumption) (by assumption) (by assumption) (by assumption) (fun _ hb => ?_)
  simp only [eX3_isFixed_16R, eX3_isFixed_19R, kx_l, wt_nil, tl_s, Nat.add_zero]
  with_reducible refine And.intro ?_ ?_
  with_reducible exact rowA.ca (by assumption)
  with_reducible refine And.intro ?_ ?_
  omega
  with_reducible refine And.intro ?_ ?_
  omega
  with_reducible refine And.intro ?_ ?_
  omega
  with_reducible refine fX3_fixed (by assumption) (fun hm => ?_) (fun hm => ?_)
  simp only [eX3_isFixed_22, eX3_isFixed_25, eX3_isFixed_29, eX3_isFixed_30, i10, if_false, kx_l, tl_s, nb_0, nb_1, true_and]
  with_reducible refine And.intro ?_ ?_
  omega
  with_reducible refine And.intro ?_ ?_
  omega
  with_reducible exact hT ka r e1 hm _ h1
  simp only [eX3_isFixed_22, eX3_isFixed_25, eX3_isFixed_29, eX3_isFixed_30, if_true, kx_l, tl_s, nb_0, nb_1, true_and]
  with_reducible refine And.intro ?_ ?_
  omega
  with_reducible refine And.intro ?_ ?_
  omega
  with_reducible exact hF ka r e1 hm _ h1
set_option maxHeartbeats 4000000 in
theorem fX3_isSmall {a0 : Int32} (hM : MS g w0 y nM kd th s w) (hX : ¬ (okC a0) → ∀ w', MS g w0 y nM kd 1 s w' → Q (.inl (some (.int 0))) w') (hS : okC a0 → s.2.1 a0.toNatClampNeg = none → ∀ w', MS g w0 y nM kd 2 s w' → Q (.inl (some (.int 0))) w') (hT : okC a0 → ∀ r, s.2.1 a0.toNatClampNeg = some r → sP r → ∀ w', MS g w0 y nM kd 0 s w' → Q (.inl (some (.int 1))) w') (hF : okC a0 → ∀ r, s.2.1 a0.toNatClampNeg = some r → ¬ (sP r) → ∀ w', MS g w0 y nM kd 0 s w' → Q (.inl (some (.int 0))) w') : WP (MX3_isSmall g) Q (0, [some (.ref y), some (.int a0)], [], w, 0, 0) := by
  simp only [eX3_isSmall_0, wt_nil, Nat.add_zero]
  with_reducible refine And.intro ?_ ?_
  with_reducible refine go_S (by assumption) (fun _ _ hY => ?_)
  with_reducible exact trivial
  with_reducible refine And.intro ?_ ?_
  omega
  with_reducible refine And.intro ?_ ?_
  omega
  with_reducible refine And.intro ?_ ?_
  omega
  with_reducible refine fX3_isNone (by assumption) (fun _ w1 h1 => ?_) (fun _ _ w1 h1 => ?_) (fun ka r e1 w1 h1 => ?_)
  simp only [eX3_isSmall_5, eX3_isSmall_8, eX3_isSmall_12, eX3_isSmall_29, eX3_isSmall_30, i10, if_false, kx_l, tl_s, nb_0, true_and]
  with_reducible refine And.intro ?_ ?_
  omega
  with_reducible refine And.intro ?_ ?_
  omega
  with_reducible exact hX (fun h => absurd h (by assumption)) _ (by assumption)
  simp only [eX3_isSmall_5, eX3_isSmall_8, eX3_isSmall_12, eX3_isSmall_29, eX3_isSmall_30, i10, if_false, kx_l, tl_s, nb_0, true_and]
  with_reducible refine And.intro ?_ ?_
  omega
  with_reducible refine And.intro ?_ ?_
  omega
  with_reducible exact hS (by assumption) (by assumption) _ (by assumption)
  simp only [eX3_isSmall_5, eX3_isSmall_8, eX3_isSmall_12, eX3_isSmall_29, eX3_isSmall_30, if_true, kx_l, tl_s, nb_0, true_and]
  with_reducible refine go_S (by assumption) (fun _ _ hY => ?_)
  simp only [eX3_isSmall_13, wt_nil, g0, gS, ex1, Nat.add_zero]
  with_reducible refine And.intro ?_ ?_
  with_reducible exact MS.gC (by assumption) (by assumption)
  with_reducible refine And.intro ?_ ?_
  omega
  with_reducible refine And.intro ?_ ?_
  omega
  with_reducible refine And.intro ?_ ?_
  omega
  with_reducible refine sGetK (by assumption) (by assumption) (by assumption) (by assumption) (fun _ hb => ?_)
  simp only [eX3_isSmall_16R, eX3_isSmall_19R, kx_l, wt_nil, tl_s, Nat.add_zero]
  with_reducible refine And.intro ?_ ?_
  with_reducible exact rowA.ca (by assumption)
  with_reducible refine And.intro ?_ ?_
  omega
  with_reducible refine And.intro ?_ ?_
  omega
  with_reducible refine And.intro ?_ ?_
  omega
  with_reducible refine fX3_small (by assumption) (fun hm => ?_) (fun hm => ?_)
  simp only [eX3_isSmall_22, eX3_isSmall_25, eX3_isSmall_29, eX3_isSmall_30, i10, if_false, kx_l, tl_s, nb_0, nb_1, true_and]
  with_reducible refine And.intro ?_ ?_
  omega
  with_reducible refine And.intro ?_ ?_
  omega
  with_reducible exact hT ka r e1 hm _ h1
  simp only [eX3_isSmall_22, eX3_isSmall_25, eX3_isSmall_29, eX3_isSmall_30, if_true, kx_l, tl_s, nb_0, nb_1, true_and]
  with_reducible refine And.intro ?_ ?_
  omega
  with_reducible refine And.intro ?_ ?_
  omega
  with_reducible exact hF ka r e1 hm _ h1
set_option maxHeartbeats 4000000 in
theorem fX3_isValid {a0 a1 : Int32} (hM : MS g w0 y nM kd th s w) (hX : ¬ (okC a0 ∧ okN a1) → ∀ w', MS g w0 y nM kd 1 s w' → Q (.inl (some (.int 0))) w') (hS : okC a0 → okN a1 → s.2.1 a0.toNatClampNeg = none → ∀ w', MS g w0 y nM kd 2 s w' → Q (.inl (some (.int 0))) w') (hT : okC a0 → okN a1 → ∀ r, s.2.1 a0.toNatClampNeg = some r → hP r (s.1 a1.toNatClampNeg) → ∀ w', MS g w0 y nM kd 0 s w' → Q (.inl (some (.int 1))) w') (hF : okC a0 → okN a1 → ∀ r, s.2.1 a0.toNatClampNeg = some r → ¬ (hP r (s.1 a1.toNatClampNeg)) → ∀ w', MS g w0 y nM kd 0 s w' → Q (.inl (some (.int 0))) w') : WP (MX3_isValid g) Q (0, [some (.ref y), some (.int a0), some (.int a1)], [], w, 0, 0) := by
  simp only [eX3_isValid_0, wt_nil, Nat.add_zero]
  with_reducible refine And.intro ?_ ?_
  with_reducible refine go_S (by assumption) (fun _ _ hY => ?_)
  with_reducible exact trivial
  with_reducible refine And.intro ?_ ?_
  omega
  with_reducible refine And.intro ?_ ?_
  omega
  with_reducible refine And.intro ?_ ?_
  omega
  with_reducible refine fX3_isNoAsked (by assumption) (fun _ w1 h1 => ?_) (fun _ _ _ w1 h1 => ?_) (fun ka kn r e1 w1 h1 => ?_)
  simp only [eX3_isValid_6, eX3_isValid_9, eX3_isValid_13, eX3_isValid_37, eX3_isValid_38, i10, if_false, kx_l, tl_s, nb_0, true_and]
  with_reducible refine And.intro ?_ ?_
  omega
  with_reducible refine And.intro ?_ ?_
  omega
  with_reducible exact hX (by assumption) _ (by assumption)
  simp only [eX3_isValid_6, eX3_isValid_9, eX3_isValid_13, eX3_isValid_37, eX3_isValid_38, i10, if_false, kx_l, tl_s, nb_0, true_and]
  with_reducible refine And.intro ?_ ?_
  omega
  with_reducible refine And.intro ?_ ?_
  omega
  with_reducible exact hS (by assumption) (by assumption) (by assumption) _ (by assumption)
  simp only [eX3_isValid_6, eX3_isValid_9, eX3_isValid_13, eX3_isValid_37, eX3_isValid_38, if_true, kx_l, tl_s, nb_0, true_and]
  with_reducible refine go_S (by assumption) (fun _ _ hY => ?_)
  simp only [eX3_isValid_14, wt_nil, g0, gS, ex1, Nat.add_zero]
  with_reducible refine And.intro ?_ ?_
  with_reducible exact MS.gC (by assumption) (by assumption)
  with_reducible refine And.intro ?_ ?_
  omega
  with_reducible refine And.intro ?_ ?_
  omega
  with_reducible refine And.intro ?_ ?_
  omega
  with_reducible refine sGetK (by assumption) (by assumption) (by assumption) (by assumption) (fun _ hb => ?_)
  simp only [eX3_isValid_17R, eX3_isValid_20, eX3_isValid_24, kx_l, tl_s]
  with_reducible refine And.intro ?_ ?_
  with_reducible exact rowA.ca (by assumption)
  with_reducible refine go_S (by assumption) (fun _ _ hY => ?_)
  simp only [eX3_isValid_25, eX3_isValid_26, wt_nil, g0, gS, ex1, Nat.add_zero]
  with_reducible refine gl_S (by assumption) ?_
  with_reducible refine And.intro ?_ ?_
  with_reducible exact vpi8k (by assumption)
  with_reducible refine And.intro ?_ ?_
  omega
  with_reducible refine And.intro ?_ ?_
  omega
  with_reducible refine And.intro ?_ ?_
  omega
  with_reducible refine fX3_valid (by assumption) (fun hm => ?_) (fun hm => ?_)
  simp only [eX3_isValid_30, eX3_isValid_33, eX3_isValid_37, eX3_isValid_38, i10, if_false, kx_l, tl_s, nb_0, nb_1, true_and]
  with_reducible refine And.intro ?_ ?_
  omega
  with_reducible refine And.intro ?_ ?_
  omega
  with_reducible exact hT ka kn r e1 hm.2 _ h1
  simp only [eX3_isValid_30, eX3_isValid_33, eX3_isValid_37, eX3_isValid_38, if_true, kx_l, tl_s, nb_0, nb_1, true_and]
  with_reducible refine And.intro ?_ ?_
  omega
  with_reducible refine And.intro ?_ ?_
  omega
  ((with_reducible refine isQ (Q := Q) ?_); exact hF ka kn r e1 (fun h => hm ⟨Or.inl rfl, h⟩) _ h1)
set_option maxHeartbeats 4000000 in
theorem fX3_isValidSmall {a0 a1 : Int32} (hM : MS g w0 y nM kd th s w) (hX : ¬ (okC a0 ∧ okN a1) → ∀ w', MS g w0 y nM kd 1 s w' → Q (.inl (some (.int 0))) w') (hS : okC a0 → okN a1 → s.2.1 a0.toNatClampNeg = none → ∀ w', MS g w0 y nM kd 2 s w' → Q (.inl (some (.int 0))) w') (hT : okC a0 → okN a1 → ∀ r, s.2.1 a0.toNatClampNeg = some r → (sP r ∧ hP r (s.1 a1.toNatClampNeg)) → ∀ w', MS g w0 y nM kd 0 s w' → Q (.inl (some (.int 1))) w') (hF : okC a0 → okN a1 → ∀ r, s.2.1 a0.toNatClampNeg = some r → ¬ ((sP r ∧ hP r (s.1 a1.toNatClampNeg))) → ∀ w', MS g w0 y nM kd 0 s w' → Q (.inl (some (.int 0))) w') : WP (MX3_isValidSmall g) Q (0, [some (.ref y), some (.int a0), some (.int a1)], [], w, 0, 0) := by
  simp only [eX3_isValidSmall_0, wt_nil, Nat.add_zero]
  with_reducible refine And.intro ?_ ?_
  with_reducible refine go_S (by assumption) (fun _ _ hY => ?_)
  with_reducible exact trivial
  with_reducible refine And.intro ?_ ?_
  omega
  with_reducible refine And.intro ?_ ?_
  omega
  with_reducible refine And.intro ?_ ?_
  omega
  with_reducible refine fX3_isNoAsked (by assumption) (fun _ w1 h1 => ?_) (fun _ _ _ w1 h1 => ?_) (fun ka kn r e1 w1 h1 => ?_)
  simp only [eX3_isValidSmall_6, eX3_isValidSmall_9, eX3_isValidSmall_13, eX3_isValidSmall_37, eX3_isValidSmall_38, i10, if_false, kx_l, tl_s, nb_0, true_and]
  with_reducible refine And.intro ?_ ?_
  omega
  with_reducible refine And.intro ?_ ?_
  omega
  with_reducible exact hX (by assumption) _ (by assumption)
  simp only [eX3_isValidSmall_6, eX3_isValidSmall_9, eX3_isValidSmall_13, eX3_isValidSmall_37, eX3_isValidSmall_38, i10, if_false, kx_l, tl_s, nb_0, true_and]
  with_reducible refine And.intro ?_ ?_
  omega
  with_reducible refine And.intro ?_ ?_
  omega
  with_reducible exact hS (by assumption) (by assumption) (by assumption) _ (by assumption)
  simp only [eX3_isValidSmall_6, eX3_isValidSmall_9, eX3_isValidSmall_13, eX3_isValidSmall_37, eX3_isValidSmall_38, if_true, kx_l, tl_s, nb_0, true_and]
  with_reducible refine go_S (by assumption) (fun _ _ hY => ?_)
  simp only [eX3_isValidSmall_14, wt_nil, g0, gS, ex1, Nat.add_zero]
  with_reducible refine And.intro ?_ ?_
  with_reducible exact MS.gC (by assumption) (by assumption)
  with_reducible refine And.intro ?_ ?_
  omega
  with_reducible refine And.intro ?_ ?_
  omega
  with_reducible refine And.intro ?_ ?_
  omega
  with_reducible refine sGetK (by assumption) (by assumption) (by assumption) (by assumption) (fun _ hb => ?_)
  simp only [eX3_isValidSmall_17R, eX3_isValidSmall_20, eX3_isValidSmall_24, kx_l, tl_s]
  with_reducible refine And.intro ?_ ?_
  with_reducible exact rowA.ca (by assumption)
  with_reducible refine go_S (by assumption) (fun _ _ hY => ?_)
  simp only [eX3_isValidSmall_25, eX3_isValidSmall_26, wt_nil, g0, gS, ex1, Nat.add_zero]
  with_reducible refine gl_S (by assumption) ?_
  with_reducible refine And.intro ?_ ?_
  with_reducible exact vpi8k (by assumption)
  with_reducible refine And.intro ?_ ?_
  omega
  with_reducible refine And.intro ?_ ?_
  omega
  with_reducible refine And.intro ?_ ?_
  omega
  with_reducible refine fX3_valid (by assumption) (fun hm => ?_) (fun hm => ?_)
  simp only [eX3_isValidSmall_30, eX3_isValidSmall_33, eX3_isValidSmall_37, eX3_isValidSmall_38, i10, if_false, kx_l, tl_s, nb_0, nb_1, true_and]
  with_reducible refine And.intro ?_ ?_
  omega
  with_reducible refine And.intro ?_ ?_
  omega
  with_reducible exact hT ka kn r e1 ⟨hm.1.resolve_left n10', hm.2⟩ _ h1
  simp only [eX3_isValidSmall_30, eX3_isValidSmall_33, eX3_isValidSmall_37, eX3_isValidSmall_38, if_true, kx_l, tl_s, nb_0, nb_1, true_and]
  with_reducible refine And.intro ?_ ?_
  omega
  with_reducible refine And.intro ?_ ?_
  omega
  ((with_reducible refine isQ (Q := Q) ?_); exact hF ka kn r e1 (fun h => hm ⟨Or.inr h.1, h.2⟩) _ h1)
set_option maxHeartbeats 4000000 in
theorem fX3_areSame {a0 a1 : Int32} (hM : MS g w0 y nM kd th s w) (hX : ¬ (okC a0 ∧ okC a1) → ∀ w', MS g w0 y nM kd 1 s w' → Q (.inl (some (.int 0))) w') (hS : okC a0 → okC a1 → (s.2.1 a0.toNatClampNeg = none ∨ s.2.1 a1.toNatClampNeg = none) → ∀ w', MS g w0 y nM kd 2 s w' → Q (.inl (some (.int 0))) w') (hT : okC a0 → okC a1 → ∀ r q, s.2.1 a0.toNatClampNeg = some r → s.2.1 a1.toNatClampNeg = some q → mP r q → ∀ w', MS g w0 y nM kd 0 s w' → Q (.inl (some (.int 1))) w') (hF : okC a0 → okC a1 → ∀ r q, s.2.1 a0.toNatClampNeg = some r → s.2.1 a1.toNatClampNeg = some q → ¬ mP r q → ∀ w', MS g w0 y nM kd 0 s w' → Q (.inl (some (.int 0))) w') : WP (MX3_areSame g) Q (0, [some (.ref y), some (.int a0), some (.int a1)], [], w, 0, 0) := by
  simp only [eX3_areSame_0, wt_nil, wt_ref, Nat.add_zero]
  with_reducible refine And.intro ?_ ?_
  omega
  with_reducible refine And.intro ?_ ?_
  omega
  with_reducible refine And.intro ?_ ?_
  omega
  with_reducible refine fX3_isNoCard (fun _ => ?_) (fun _ => ?_)
  simp only [eX3_areSame_5, eX3_areSame_8, eX3_areSame_15, eX3_areSame_20, i10, if_false, kx_l, wt_nil, wt_ref, tl_s, Nat.add_zero]
  with_reducible refine And.intro ?_ ?_
  with_reducible refine go_S (by assumption) (fun _ _ hY => ?_)
  with_reducible exact trivial
  with_reducible refine And.intro ?_ ?_
  omega
  with_reducible refine And.intro ?_ ?_
  omega
  with_reducible refine And.intro ?_ ?_
  omega
  with_reducible refine fX3_start (by assumption) (by decide) (fun _ w1 h1 => ?_) (fun _ w1 h1 => ?_)
  with_reducible exact absurd (by assumption) n10'
  simp only [eX3_areSame_24, eX3_areSame_27, eX3_areSame_88, eX3_areSame_89, i10, if_false, kx_l, wt_nil, wt_ref, tl_s, nb_0, true_and, Nat.add_zero]
  with_reducible refine And.intro ?_ ?_
  omega
  with_reducible refine And.intro ?_ ?_
  omega
  with_reducible exact hX (fun h => absurd h.1 (by assumption)) _ (by assumption)
  simp only [eX3_areSame_5, eX3_areSame_8, eX3_areSame_15, eX3_areSame_20, if_true, kx_l, wt_nil, wt_ref, tl_s, Nat.add_zero]
  with_reducible refine And.intro ?_ ?_
  omega
  with_reducible refine And.intro ?_ ?_
  omega
  with_reducible refine And.intro ?_ ?_
  omega
  with_reducible refine fX3_isNoCard (fun _ => ?_) (fun _ => ?_)
  simp only [eX3_areSame_12, eX3_areSame_15, eX3_areSame_19, eX3_areSame_20, i10, if_false, kx_l, wt_nil, tl_s, Nat.add_zero]
  with_reducible refine And.intro ?_ ?_
  with_reducible refine go_S (by assumption) (fun _ _ hY => ?_)
  with_reducible exact trivial
  with_reducible refine And.intro ?_ ?_
  omega
  with_reducible refine And.intro ?_ ?_
  omega
  with_reducible refine And.intro ?_ ?_
  omega
  with_reducible refine fX3_start (by assumption) (by decide) (fun _ w1 h1 => ?_) (fun _ w1 h1 => ?_)
  with_reducible exact absurd (by assumption) n10'
  simp only [eX3_areSame_24, eX3_areSame_27, eX3_areSame_88, eX3_areSame_89, i10, if_false, kx_l, wt_nil, wt_ref, tl_s, nb_0, true_and, Nat.add_zero]
  with_reducible refine And.intro ?_ ?_
  omega
  with_reducible refine And.intro ?_ ?_
  omega
  with_reducible exact hX (fun h => absurd h.2 (by assumption)) _ (by assumption)
  simp only [eX3_areSame_12, eX3_areSame_15, eX3_areSame_19, eX3_areSame_20, if_true, kx_l, wt_nil, tl_s, Nat.add_zero]
  with_reducible refine And.intro ?_ ?_
  with_reducible refine go_S (by assumption) (fun _ _ hY => ?_)
  with_reducible exact trivial
  with_reducible refine And.intro ?_ ?_
  omega
  with_reducible refine And.intro ?_ ?_
  omega
  with_reducible refine And.intro ?_ ?_
  omega
  with_reducible refine fX3_start (by assumption) (by decide) (fun _ w1 h1 => ?_) (fun _ w1 h1 => ?_)
  simp only [eX3_areSame_24, eX3_areSame_27, eX3_areSame_88, eX3_areSame_89, if_true, kx_l, wt_nil, wt_ref, tl_s, nb_0, true_and, Nat.add_zero]
  with_reducible refine And.intro ?_ ?_
  with_reducible refine go_S (by assumption) (fun _ _ hY => ?_)
  with_reducible exact trivial
  with_reducible refine And.intro ?_ ?_
  omega
  with_reducible refine And.intro ?_ ?_
  omega
  with_reducible refine And.intro ?_ ?_
  omega
  with_reducible refine fX3_isBare (by assumption) (by assumption) (fun _ => ?_) (fun _ _ => ?_)
  simp only [eX3_areSame_33, eX3_areSame_36, eX3_areSame_44, eX3_areSame_49, i10, if_false, kx_l, wt_nil, wt_ref, tl_s, Nat.add_zero]
  with_reducible refine And.intro ?_ ?_
  with_reducible refine go_S (by assumption) (fun _ _ hY => ?_)
  with_reducible exact trivial
  with_reducible refine And.intro ?_ ?_
  omega
  with_reducible refine And.intro ?_ ?_
  omega
  with_reducible refine And.intro ?_ ?_
  omega
  with_reducible refine fX3_refuse (by assumption) (by decide) (fun _ => ?_) (fun _ w2 h2 => ?_)
  with_reducible exact absurd (by assumption) n10'
  simp only [eX3_areSame_53, eX3_areSame_56, eX3_areSame_60, eX3_areSame_88, eX3_areSame_89, i10, if_false, kx_l, tl_s, nb_0, true_and]
  with_reducible refine And.intro ?_ ?_
  omega
  with_reducible refine And.intro ?_ ?_
  omega
  with_reducible exact hS (by assumption) (by assumption) (Or.inl (by assumption)) _ (by assumption)
  simp only [eX3_areSame_33, eX3_areSame_36, eX3_areSame_44, eX3_areSame_49, if_true, kx_l, wt_nil, wt_ref, tl_s, Nat.add_zero]
  with_reducible refine And.intro ?_ ?_
  with_reducible refine go_S (by assumption) (fun _ _ hY => ?_)
  with_reducible exact trivial
  with_reducible refine And.intro ?_ ?_
  omega
  with_reducible refine And.intro ?_ ?_
  omega
  with_reducible refine And.intro ?_ ?_
  omega
  with_reducible refine fX3_isBare (by assumption) (by assumption) (fun _ => ?_) (fun _ _ => ?_)
  simp only [eX3_areSame_41, eX3_areSame_44, eX3_areSame_48, eX3_areSame_49, i10, if_false, kx_l, wt_nil, tl_s, Nat.add_zero]
  with_reducible refine And.intro ?_ ?_
  with_reducible refine go_S (by assumption) (fun _ _ hY => ?_)
  with_reducible exact trivial
  with_reducible refine And.intro ?_ ?_
  omega
  with_reducible refine And.intro ?_ ?_
  omega
  with_reducible refine And.intro ?_ ?_
  omega
  with_reducible refine fX3_refuse (by assumption) (by decide) (fun _ => ?_) (fun _ w2 h2 => ?_)
  with_reducible exact absurd (by assumption) n10'
  simp only [eX3_areSame_53, eX3_areSame_56, eX3_areSame_60, eX3_areSame_88, eX3_areSame_89, i10, if_false, kx_l, tl_s, nb_0, true_and]
  with_reducible refine And.intro ?_ ?_
  omega
  with_reducible refine And.intro ?_ ?_
  omega
  with_reducible exact hS (by assumption) (by assumption) (Or.inr (by assumption)) _ (by assumption)
  simp only [eX3_areSame_41, eX3_areSame_44, eX3_areSame_48, eX3_areSame_49, if_true, kx_l, wt_nil, tl_s, Nat.add_zero]
  with_reducible refine And.intro ?_ ?_
  with_reducible refine go_S (by assumption) (fun _ _ hY => ?_)
  with_reducible exact trivial
  with_reducible refine And.intro ?_ ?_
  omega
  with_reducible refine And.intro ?_ ?_
  omega
  with_reducible refine And.intro ?_ ?_
  omega
  with_reducible refine fX3_refuse (by assumption) (by decide) (fun _ => ?_) (fun _ w2 h2 => ?_)
  simp only [eX3_areSame_53, eX3_areSame_56, eX3_areSame_60, eX3_areSame_88, eX3_areSame_89, if_true, kx_l, tl_s, nb_0, true_and]
  with_reducible refine go_S (by assumption) (fun _ _ hY => ?_)
  simp only [eX3_areSame_61, wt_nil, g0, gS, ex1, Nat.add_zero]
  with_reducible refine And.intro ?_ ?_
  with_reducible exact MS.gC (by assumption) (by assumption)
  with_reducible refine And.intro ?_ ?_
  omega
  with_reducible refine And.intro ?_ ?_
  omega
  with_reducible refine And.intro ?_ ?_
  omega
  with_reducible refine sGetK (i := a0) (by assumption) (by assumption) (by assumption) (by assumption) (fun _ hb0 => ?_)
  simp only [eX3_areSame_64R, eX3_areSame_67, eX3_areSame_71, kx_l, tl_s]
  with_reducible refine And.intro ?_ ?_
  with_reducible exact rowA.ca (by assumption)
  with_reducible refine go_S (by assumption) (fun _ _ hY => ?_)
  simp only [eX3_areSame_72, wt_nil, wt_ref, g0, gS, ex1, Nat.add_zero]
  with_reducible refine And.intro ?_ ?_
  with_reducible exact MS.gC (by assumption) (by assumption)
  with_reducible refine And.intro ?_ ?_
  omega
  with_reducible refine And.intro ?_ ?_
  omega
  with_reducible refine And.intro ?_ ?_
  omega
  with_reducible refine sGetK (i := a1) (by assumption) (by assumption) (by assumption) (by assumption) (fun _ hb1 => ?_)
  simp only [eX3_areSame_75R, eX3_areSame_78RR, kx_l, wt_nil, tl_s, Nat.add_zero]
  with_reducible refine And.intro ?_ ?_
  with_reducible exact rowA.ca (by assumption)
  with_reducible refine And.intro ?_ ?_
  omega
  with_reducible refine And.intro ?_ ?_
  omega
  with_reducible refine And.intro ?_ ?_
  omega
  with_reducible refine fX3_same hb0 hb1 (fun hm => ?_) (fun hm => ?_)
  simp only [eX3_areSame_81, eX3_areSame_84, eX3_areSame_88, eX3_areSame_89, i10, if_false, kx_l, tl_s, nb_0, nb_1, true_and]
  with_reducible refine And.intro ?_ ?_
  omega
  with_reducible refine And.intro ?_ ?_
  omega
  with_reducible exact hT (by assumption) (by assumption) _ _ (by assumption) (by assumption) hm _ (by assumption)
  simp only [eX3_areSame_81, eX3_areSame_84, eX3_areSame_88, eX3_areSame_89, if_true, kx_l, tl_s, nb_0, nb_1, true_and]
  with_reducible refine And.intro ?_ ?_
  omega
  with_reducible refine And.intro ?_ ?_
  omega
  with_reducible exact hF (by assumption) (by assumption) _ _ (by assumption) (by assumption) hm _ (by assumption)
  with_reducible exact n00x (by assumption)
  with_reducible exact n00x (by assumption)
end
end
/-! 75.mf8.lean.txt -/
section
section
variable {g : RO} {Q : Ot → Hw → Prop} {w0 w : Hw} {y nM : Nat} {kd th : Int32} {s : AS}
/-- the place found so far -/
def skV (f : Nat → R4) (r : R4) (c : Int32) : Nat → Int32
  | 0 => -1
  | j + 1 => if mP (f j) r ∧ (¬ c = 0 ∨ skV f r c j = -1) then Int32.ofNat j else skV f r c j
theorem skV_t {f : Nat → R4} {r : R4} {c : Int32} {j : Nat} (h : mP (f j) r) (k : ¬ c = 0 ∨ skV f r c j = -1) : Int32.ofNat j = skV f r c (j + 1) := by
  show _ = if mP (f j) r ∧ (¬ c = 0 ∨ skV f r c j = -1) then Int32.ofNat j else skV f r c j
  rw [if_pos ⟨h, k⟩]
theorem skV_n {f : Nat → R4} {r : R4} {c : Int32} {j : Nat} (h : ¬ mP (f j) r) : skV f r c j = skV f r c (j + 1) := by
  show _ = if mP (f j) r ∧ (¬ c = 0 ∨ skV f r c j = -1) then Int32.ofNat j else skV f r c j
  rw [if_neg (fun k => h k.1)]
theorem skV_m {f : Nat → R4} {r : R4} {c : Int32} {j : Nat} (h0 : c = 0) (h : ¬ skV f r c j = -1) : skV f r c j = skV f r c (j + 1) := by
  show _ = if mP (f j) r ∧ (¬ c = 0 ∨ skV f r c j = -1) then Int32.ofNat j else skV f r c j
  rw [if_neg (fun k => k.2.elim (fun z => z h0) h)]
theorem skV_0 {f : Nat → R4} {r : R4} {c : Int32} : ∀ {N : Nat}, (∀ i, i < N → ¬ mP r (f i)) → skV f r c N = -1
  | 0, _ => rfl
  | N + 1, h => by
    rw [← skV_n (fun k => h N (by omega) (mSy k))]
    exact skV_0 (fun i hi => h i (by omega))
theorem skV_F {f : Nat → R4} {r : R4} {c : Int32} {i : Nat} (h0 : c = 0) (h : mP r (f i)) (k : ∀ j, j < i → ¬ mP r (f j)) (hi : i < 900) : ∀ {N : Nat}, i < N → skV f r c N = Int32.ofNat i
  | 0, z => absurd z (Nat.not_lt_zero _)
  | N + 1, z => by
    rcases Nat.lt_or_ge i N with q | q
    · have e := skV_F h0 h k hi q
      rw [← skV_m h0 (by rw [e]; exact oN9 (by omega)), e]
    · obtain rfl : i = N := by omega
      exact (skV_t (mSy h) (Or.inr (skV_0 k))).symm
theorem skV_L {f : Nat → R4} {r : R4} {c : Int32} {i : Nat} (h0 : ¬ c = 0) (h : mP r (f i)) : ∀ {N : Nat}, i < N → (∀ j, i + 1 ≤ j → j < N → ¬ mP r (f j)) → skV f r c N = Int32.ofNat i
  | 0, z, _ => absurd z (Nat.not_lt_zero _)
  | N + 1, z, k => by
    rcases Nat.lt_or_ge i N with q | q
    · rw [← skV_n (fun m => k N (by omega) (by omega) (mSy m))]
      exact skV_L h0 h q (fun j a b => k j a (by omega))
    · obtain rfl : i = N := by omega
      exact (skV_t (mSy h) (Or.inl h0)).symm
theorem fstO {f : Nat → R4} {r : R4} : ∀ N : Nat, (∀ i, i < N → ¬ mP r (f i)) ∨ ∃ i, i < N ∧ mP r (f i) ∧ ∀ k, k < i → ¬ mP r (f k)
  | 0 => Or.inl (fun i hi => absurd hi (Nat.not_lt_zero _))
  | N + 1 => by
    rcases fstO (f := f) (r := r) N with h | ⟨i, hi, h1, h2⟩
    · by_cases m : mP r (f N)
      · exact Or.inr ⟨N, by omega, m, h⟩
      · refine Or.inl (fun i hi => ?_)
        rcases Nat.lt_or_ge i N with q | q
        · exact h i q
        · obtain rfl : i = N := by omega
          exact m
    · exact Or.inr ⟨i, by omega, h1, h2⟩
theorem okPj {n : Int32} {j : Nat} (h : j < n.toInt.toNat) (hn : n.toInt ≤ 12) : okP n (Int32.ofNat j) := ⟨oN0 (by omega), i32_of_lt (by rw [oNt (by omega)]; omega)⟩
theorem sGetPj {cL pL j : Nat} (hM : MS g w0 y nM kd th s w) (hY : isY w y nM cL pL) (k : j < s.2.2.1.toInt.toNat) (hQ : ∀ b, rowA w b (s.2.2.2.1 j) → Q (.inl (some (.ref b))) w) : WP (MJx4a65c_get_915e3 g) Q (0, [some (.ref pL), some (.int (Int32.ofNat j))], [], w, 0, 0) := sGetPF hM hY (okPj k hM.n0.2) (fun b hb => hQ b (by
  have nn := hM.n0
  rw [oNc (by omega)] at hb
  exact hb))
theorem l12m {n : Int32} (h : ¬ n = 12) (hn : n.toInt ≤ 12) : n < 12 := by
  have e12 : (12 : Int32).toInt = 12 := rfl
  refine i32_of_lt ?_
  rcases Int.lt_or_le n.toInt 12 with q | q
  · omega
  · exact absurd (i32_eq (by omega)) h
theorem l12e {n : Int32} (h : n = 12) : ¬ n < 12 := by
  subst h
  decide
theorem nokP {n a : Int32} (hn : 0 ≤ n.toInt ∧ n.toInt ≤ 12) (h : a < 0 ∨ n - 1 < a) : ¬ okP n a := fun k => by
  rcases h with h | h
  · exact k.1 h
  · have q := i32_lt h
    have q2 := i32_lt k.2
    have z1' : (1 : Int32).toInt = 1 := rfl
    have e1 : (n - 1).toInt = n.toInt - 1 := by rw [i32_sub (by omega) (by omega), z1']
    omega
set_option maxHeartbeats 4000000 in
theorem fX3_lay {a0 : Int32} (hM : MS g w0 y nM kd th s w) (hE : EG g w0) (hG : SG g) (hX : ¬ (okC a0) → ∀ w', MS g w0 y nM kd 1 s w' → Q (.inl (some (.int 0))) w') (hS : okC a0 → s.2.1 a0.toNatClampNeg = none → ∀ w', MS g w0 y nM kd 2 s w' → Q (.inl (some (.int 0))) w') (hF : okC a0 → ∀ r, s.2.1 a0.toNatClampNeg = some r → ¬ s.2.2.1 < 12 → ∀ w', MS g w0 y nM kd 0 (sRf s) w' → Q (.inl (some (.int (-9)))) w') (hQ : okC a0 → ∀ r, s.2.1 a0.toNatClampNeg = some r → s.2.2.1 < 12 → ∀ w', MS g w0 y nM kd 0 (sP_ s (s.2.2.1 + 1) (va_up s.2.2.2.1 s.2.2.1.toNatClampNeg r)) w' → Q (.inl (some (.int (s.2.2.1 + 1)))) w') : WP (MX3_lay g) Q (0, [some (.ref y), some (.int a0)], [], w, 0, 0) := by
  simp only [eX3_lay_0, wt_nil, Nat.add_zero]
  with_reducible refine And.intro ?_ ?_
  with_reducible refine go_S (by assumption) (fun _ _ hY => ?_)
  with_reducible exact trivial
  with_reducible refine And.intro ?_ ?_
  omega
  with_reducible refine And.intro ?_ ?_
  omega
  with_reducible refine And.intro ?_ ?_
  omega
  with_reducible refine fX3_isNone (by assumption) (fun _ w1 h1 => ?_) (fun _ _ w1 h1 => ?_) (fun ka r e1 w1 h1 => ?_)
  simp only [eX3_lay_5, eX3_lay_8, eX3_lay_10, i10, if_false, kx_l, tl_s]
  with_reducible refine And.intro ?_ ?_
  omega
  with_reducible refine And.intro ?_ ?_
  omega
  with_reducible exact hX (fun h => absurd h (by assumption)) _ (by assumption)
  simp only [eX3_lay_5, eX3_lay_8, eX3_lay_10, i10, if_false, kx_l, tl_s]
  with_reducible refine And.intro ?_ ?_
  omega
  with_reducible refine And.intro ?_ ?_
  omega
  with_reducible exact hS (by assumption) (by assumption) _ (by assumption)
  simp only [eX3_lay_5, eX3_lay_8, eX3_lay_10, if_true, kx_l, tl_s]
  with_reducible refine go_S (by assumption) (fun _ _ hY => ?_)
  simp only [eX3_lay_14, eX3_lay_17, wt_nil, g0, gS, ex1, Nat.add_zero]
  with_reducible refine And.intro ?_ ?_
  with_reducible exact MS.gP (by assumption) (by assumption)
  with_reducible refine And.intro ?_ ?_
  omega
  with_reducible refine And.intro ?_ ?_
  omega
  with_reducible refine And.intro ?_ ?_
  omega
  with_reducible refine sSizeF h1 (by assumption) ?_
  simp only [eX3_lay_19, eX3_lay_22, eX3_lay_27, eX3_lay_31, eX3_lay_35, kx_l, wt_nil, tl_s, Nat.add_zero]
  with_reducible refine itx (fun _ => ?_) (fun _ => ?_)
  with_reducible refine And.intro ?_ ?_
  with_reducible refine go_S (by assumption) (fun _ _ hY => ?_)
  with_reducible exact trivial
  with_reducible refine And.intro ?_ ?_
  omega
  with_reducible refine And.intro ?_ ?_
  omega
  with_reducible refine And.intro ?_ ?_
  omega
  with_reducible refine fX3_no h1 (fun w3 h3 => ?_)
  simp only [eX3_lay_26, kx_l, tl_s]
  with_reducible refine And.intro ?_ ?_
  omega
  with_reducible refine And.intro ?_ ?_
  omega
  with_reducible exact hF ka r e1 (l12e (by assumption)) _ h3
  with_reducible refine go_S (by assumption) (fun _ _ hY => ?_)
  simp only [g0, gS, ex1]
  with_reducible refine go_S (by assumption) (fun _ _ hY => ?_)
  simp only [eX3_lay_36, wt_nil, wt_ref, g0, gS, ex1, Nat.add_zero]
  with_reducible refine And.intro ?_ ?_
  with_reducible exact MS.gC (by assumption) (by assumption)
  with_reducible refine And.intro ?_ ?_
  omega
  with_reducible refine And.intro ?_ ?_
  omega
  with_reducible refine And.intro ?_ ?_
  omega
  with_reducible refine sGetK (by assumption) (by assumption) (by assumption) (by assumption) (fun _ hb => ?_)
  simp only [eX3_lay_39R, eX3_lay_42R, kx_l, wt_nil, tl_s, Nat.zero_add]
  with_reducible refine And.intro ?_ ?_
  with_reducible exact rowA.ca (by assumption)
  with_reducible refine And.intro ?_ ?_
  with_reducible exact MS.gP (by assumption) (by assumption)
  with_reducible refine And.intro ?_ ?_
  omega
  with_reducible refine And.intro ?_ ?_
  omega
  with_reducible refine And.intro ?_ ?_
  omega
  with_reducible refine sAddF h1 (by assumption) hE hG hb (l12m (by assumption) h1.n0.2) (fun w3 h3 => ?_)
  simp only [eX3_lay_45, kx_l, tl_s]
  with_reducible refine go_S (by assumption) (fun _ _ hY => ?_)
  (simp only [rv0, rv1, rv2, rv3])
  simp only [eX3_lay_50, wt_nil, g0, gS, ex1, Nat.add_zero]
  with_reducible refine And.intro ?_ ?_
  with_reducible exact MS.gP (by assumption) (by assumption)
  with_reducible refine And.intro ?_ ?_
  omega
  with_reducible refine And.intro ?_ ?_
  omega
  with_reducible refine And.intro ?_ ?_
  omega
  with_reducible refine sSizeF h3 (by assumption) ?_
  (simp only [rv0, rv1, rv2, rv3])
  simp only [eX3_lay_53, kx_l, tl_s]
  with_reducible refine And.intro ?_ ?_
  omega
  with_reducible refine And.intro ?_ ?_
  omega
  ((with_reducible refine isQ (Q := Q) ?_); exact hQ ka r e1 (l12m (by assumption) h1.n0.2) _ h3)
set_option maxHeartbeats 4000000 in
theorem flX3_seekNow_5 {a c : Int32} {r : R4} (hM : MS g w0 y nM kd th s w) (k : okC a) (e : s.2.1 a.toNatClampNeg = some r) (hQ : Q (.inl (some (.int (skV s.2.2.2.1 r c s.2.2.1.toInt.toNat)))) w) : ∀ (d j : Nat)  (kz mz : Nat), j + d = s.2.2.1.toInt.toNat → kz ≤ 0 → mz ≤ 0 → WP (MX3_seekNow g) Q (5, [some (.ref y), some (.int a), some (.int c), some (.int (skV s.2.2.2.1 r c j)), some (.int (Int32.ofNat j))], [], w, kz, mz) := by
  obtain ⟨hn1, hn2⟩ := hM.nn
  intro d
  induction d with
  | zero =>
    intro j  kz mz hjd hkz hmz
    have h9 : j < 1000 := (by omega)
    have hlt : ¬ Int32.ofNat j < s.2.2.1 := oNg (B := s.2.2.1.toInt.toNat) h9 hn1 (by omega)
    have hnn := oN0 h9
    have hcl := oNc h9
    obtain rfl : j = s.2.2.1.toInt.toNat := by omega
    rw [eX3_seekNow_5]
    simp only [eX3_seekNow_7]
    with_reducible refine go_S hM (fun _ _ hY => ?_)
    simp only [eX3_seekNow_11, wt_nil, wt_int, g0, gS, ex1, Nat.add_zero]
    with_reducible refine And.intro ?_ ?_
    with_reducible exact MS.gP (by assumption) (by assumption)
    with_reducible refine And.intro ?_ ?_
    omega
    with_reducible refine And.intro ?_ ?_
    with_reducible assumption
    with_reducible refine And.intro ?_ ?_
    with_reducible assumption
    with_reducible refine sSizeF hM (by assumption) ?_
    simp only [eX3_seekNow_14, eX3_seekNow_17, eX3_seekNow_21, eX3_seekNow_64, if_false, hlt, ite_le, kx_l, tl_s]
    with_reducible refine And.intro ?_ ?_
    with_reducible assumption
    with_reducible refine And.intro ?_ ?_
    with_reducible assumption
    with_reducible assumption
  | succ d ih =>
    intro j  kz mz hjd hkz hmz
    have h9 : j < 1000 := (by omega)
    have hlt : Int32.ofNat j < s.2.2.1 := oNl (B := s.2.2.1.toInt.toNat) h9 hn1 (by omega)
    have hjN : j < s.2.2.1.toInt.toNat := by omega
    have hnn := oN0 h9
    have hcl := oNc h9
    rw [eX3_seekNow_5]
    simp only [eX3_seekNow_7]
    with_reducible refine go_S hM (fun _ _ hY => ?_)
    simp only [eX3_seekNow_11, wt_nil, wt_int, g0, gS, ex1, Nat.add_zero]
    with_reducible refine And.intro ?_ ?_
    with_reducible exact MS.gP (by assumption) (by assumption)
    with_reducible refine And.intro ?_ ?_
    omega
    with_reducible refine And.intro ?_ ?_
    with_reducible assumption
    with_reducible refine And.intro ?_ ?_
    with_reducible assumption
    with_reducible refine sSizeF hM (by assumption) ?_
    simp only [eX3_seekNow_14, eX3_seekNow_17, eX3_seekNow_21, eX3_seekNow_64, if_true, hlt, ite_le, kx_l, tl_s]
    with_reducible refine go_S hM (fun _ _ hY => ?_)
    simp only [eX3_seekNow_23, wt_nil, g0, gS, ex1, Nat.add_zero]
    with_reducible refine And.intro ?_ ?_
    with_reducible exact MS.gP (by assumption) (by assumption)
    with_reducible refine And.intro ?_ ?_
    omega
    with_reducible refine And.intro ?_ ?_
    with_reducible assumption
    with_reducible refine And.intro ?_ ?_
    with_reducible assumption
    with_reducible refine sGetPj hM (by assumption) (by omega) (fun _ hb0 => ?_)
    simp only [eX3_seekNow_26R, eX3_seekNow_29, eX3_seekNow_33, kx_l, tl_s]
    with_reducible refine And.intro ?_ ?_
    with_reducible exact rowA.ca (by assumption)
    with_reducible refine go_S hM (fun _ _ hY => ?_)
    simp only [eX3_seekNow_34, wt_nil, wt_ref, g0, gS, ex1, Nat.add_zero]
    with_reducible refine And.intro ?_ ?_
    with_reducible exact MS.gC (by assumption) (by assumption)
    with_reducible refine And.intro ?_ ?_
    omega
    with_reducible refine And.intro ?_ ?_
    with_reducible assumption
    with_reducible refine And.intro ?_ ?_
    with_reducible assumption
    with_reducible refine sGetK (i := a) hM (by assumption) k e (fun _ hb => ?_)
    simp only [eX3_seekNow_37R, eX3_seekNow_40RR, kx_l, wt_nil, tl_s, Nat.add_zero]
    with_reducible refine And.intro ?_ ?_
    with_reducible exact rowA.ca (by assumption)
    with_reducible refine And.intro ?_ ?_
    omega
    with_reducible refine And.intro ?_ ?_
    with_reducible assumption
    with_reducible refine And.intro ?_ ?_
    with_reducible assumption
    with_reducible refine fX3_same hb0 hb (fun hm => ?_) (fun hm => ?_)
    simp only [eX3_seekNow_43, eX3_seekNow_46, eX3_seekNow_50, eX3_seekNow_55, eX3_seekNow_58, i10, if_false, kx_l, nl_int, tl_s]
    with_reducible refine itx (fun _ => ?_) (fun _ => ?_)
    with_reducible refine itx (fun _ => ?_) (fun _ => ?_)
    (rw [oN1, skV_t (c := c) hm (Or.inr (by assumption))]; exact ih (j + 1)  _ _ (by omega) (by first | assumption | omega) (by first | assumption | omega))
    (rw [oN1, skV_m (f := s.2.2.2.1) (r := r) (c := c) (j := j) (by assumption) (by assumption)]; exact ih (j + 1)  _ _ (by omega) (by first | assumption | omega) (by first | assumption | omega))
    (rw [oN1, skV_t (c := c) hm (Or.inl (by assumption))]; exact ih (j + 1)  _ _ (by omega) (by first | assumption | omega) (by first | assumption | omega))
    simp only [eX3_seekNow_43, eX3_seekNow_46, eX3_seekNow_50, eX3_seekNow_55, eX3_seekNow_58, if_true, kx_l, nl_int, tl_s]
    (rw [oN1, skV_n (c := c) hm]; exact ih (j + 1)  _ _ (by omega) (by first | assumption | omega) (by first | assumption | omega))
set_option maxHeartbeats 4000000 in
theorem fX3_seekNow {a c : Int32} {r : R4} (hM : MS g w0 y nM kd th s w) (k : okC a) (e : s.2.1 a.toNatClampNeg = some r) (hQ : Q (.inl (some (.int (skV s.2.2.2.1 r c s.2.2.1.toInt.toNat)))) w) : WP (MX3_seekNow g) Q (0, [some (.ref y), some (.int a), some (.int c), none, none], [], w, 0, 0) := by
  simp only [eX3_seekNow_0, nl_int]
  ((with_reducible refine isWP (pc := 5) ?_); exact flX3_seekNow_5 hM k e hQ _ 0 _ _ (Nat.zero_add _) (by decide) (by decide))
set_option maxHeartbeats 4000000 in
theorem fX3_seek {a0 a1 : Int32} (hM : MS g w0 y nM kd th s w) (hX : ¬ (okC a0) → ∀ w', MS g w0 y nM kd 1 s w' → Q (.inl (some (.int 0))) w') (hS : okC a0 → s.2.1 a0.toNatClampNeg = none → ∀ w', MS g w0 y nM kd 2 s w' → Q (.inl (some (.int 0))) w') (hQ : okC a0 → ∀ r, s.2.1 a0.toNatClampNeg = some r → ∀ w', MS g w0 y nM kd 0 s w' → Q (.inl (some (.int (skV s.2.2.2.1 r a1 s.2.2.1.toInt.toNat)))) w') : WP (MX3_seek g) Q (0, [some (.ref y), some (.int a0), some (.int a1)], [], w, 0, 0) := by
  simp only [eX3_seek_0, wt_nil, Nat.add_zero]
  with_reducible refine And.intro ?_ ?_
  with_reducible refine go_S (by assumption) (fun _ _ hY => ?_)
  with_reducible exact trivial
  with_reducible refine And.intro ?_ ?_
  omega
  with_reducible refine And.intro ?_ ?_
  omega
  with_reducible refine And.intro ?_ ?_
  omega
  with_reducible refine fX3_isNone (by assumption) (fun _ w1 h1 => ?_) (fun _ _ w1 h1 => ?_) (fun ka r e1 w1 h1 => ?_)
  simp only [eX3_seek_5, eX3_seek_8, eX3_seek_12, eX3_seek_18, i10, if_false, kx_l, wt_nil, tl_s, Nat.add_zero]
  with_reducible refine And.intro ?_ ?_
  omega
  with_reducible refine And.intro ?_ ?_
  omega
  with_reducible exact hX (fun h => absurd h (by assumption)) _ (by assumption)
  simp only [eX3_seek_5, eX3_seek_8, eX3_seek_12, eX3_seek_18, i10, if_false, kx_l, wt_nil, tl_s, Nat.add_zero]
  with_reducible refine And.intro ?_ ?_
  omega
  with_reducible refine And.intro ?_ ?_
  omega
  with_reducible exact hS (by assumption) (by assumption) _ (by assumption)
  simp only [eX3_seek_5, eX3_seek_8, eX3_seek_12, eX3_seek_18, if_true, kx_l, wt_nil, tl_s, Nat.add_zero]
  with_reducible refine And.intro ?_ ?_
  with_reducible refine go_S (by assumption) (fun _ _ hY => ?_)
  with_reducible exact trivial
  with_reducible refine And.intro ?_ ?_
  omega
  with_reducible refine And.intro ?_ ?_
  omega
  with_reducible refine And.intro ?_ ?_
  omega
  with_reducible refine fX3_seekNow h1 ka e1 ?_
  simp only [eX3_seek_18, kx_l, tl_s]
  with_reducible refine And.intro ?_ ?_
  omega
  with_reducible refine And.intro ?_ ?_
  omega
  with_reducible exact hQ ka r e1 _ h1
set_option maxHeartbeats 4000000 in
theorem fX3_lift {a0 : Int32} (hM : MS g w0 y nM kd th s w) (hX : ¬ (okC a0) → ∀ w', MS g w0 y nM kd 1 s w' → Q (.inl (some (.int 0))) w') (hS : okC a0 → s.2.1 a0.toNatClampNeg = none → ∀ w', MS g w0 y nM kd 2 s w' → Q (.inl (some (.int 0))) w') (hN : okC a0 → ∀ r, s.2.1 a0.toNatClampNeg = some r → (∀ i, i < s.2.2.1.toInt.toNat → ¬ mP r (s.2.2.2.1 i)) → ∀ w', MS g w0 y nM kd 0 s w' → Q (.inl (some (.int 0))) w') (hQ : okC a0 → ∀ r, s.2.1 a0.toNatClampNeg = some r → ∀ i, i < s.2.2.1.toInt.toNat → mP r (s.2.2.2.1 i) → (∀ k, k < i → ¬ mP r (s.2.2.2.1 k)) → ∀ w', MS g w0 y nM kd 0 (sP_ s (s.2.2.1 - 1) (rmv s.2.2.2.1 i)) w' → Q (.inl (some (.int 1))) w') : WP (MX3_lift g) Q (0, [some (.ref y), some (.int a0), none], [], w, 0, 0) := by
  obtain ⟨hn1, hn2⟩ := hM.nn
  simp only [eX3_lift_0, wt_nil, Nat.add_zero]
  with_reducible refine And.intro ?_ ?_
  with_reducible refine go_S (by assumption) (fun _ _ hY => ?_)
  with_reducible exact trivial
  with_reducible refine And.intro ?_ ?_
  omega
  with_reducible refine And.intro ?_ ?_
  omega
  with_reducible refine And.intro ?_ ?_
  omega
  with_reducible refine fX3_isNone (by assumption) (fun _ w1 h1 => ?_) (fun _ _ w1 h1 => ?_) (fun ka r e1 w1 h1 => ?_)
  simp only [eX3_lift_5, eX3_lift_8, eX3_lift_10, i10, if_false, kx_l, wt_nil, tl_s, Nat.add_zero]
  with_reducible refine And.intro ?_ ?_
  omega
  with_reducible refine And.intro ?_ ?_
  omega
  with_reducible exact hX (fun h => absurd h (by assumption)) _ (by assumption)
  simp only [eX3_lift_5, eX3_lift_8, eX3_lift_10, i10, if_false, kx_l, wt_nil, tl_s, Nat.add_zero]
  with_reducible refine And.intro ?_ ?_
  omega
  with_reducible refine And.intro ?_ ?_
  omega
  with_reducible exact hS (by assumption) (by assumption) _ (by assumption)
  simp only [eX3_lift_5, eX3_lift_8, eX3_lift_10, if_true, kx_l, wt_nil, tl_s, Nat.add_zero]
  with_reducible refine And.intro ?_ ?_
  with_reducible refine go_S (by assumption) (fun _ _ hY => ?_)
  with_reducible exact trivial
  with_reducible refine And.intro ?_ ?_
  omega
  with_reducible refine And.intro ?_ ?_
  omega
  with_reducible refine And.intro ?_ ?_
  omega
  ((with_reducible refine fX3_seekNow h1 ka e1 ?_); rcases fstO (f := s.2.2.2.1) (r := r) s.2.2.1.toInt.toNat with hno | ⟨i, hi, hm, hf⟩)
  (rw [skV_0 hno])
  simp only [eX3_lift_16, eX3_lift_22, eX3_lift_26, eX3_lift_31, eX3_lift_36, eX3_lift_40, eX3_lift_41, if_true, kx_l, wt_nil, nl_int, tl_s, Nat.add_zero]
  with_reducible refine And.intro ?_ ?_
  omega
  with_reducible refine And.intro ?_ ?_
  omega
  with_reducible refine And.intro ?_ ?_
  omega
  with_reducible refine fX3_one (Or.inl rfl) ?_
  simp only [eX3_lift_44, kx_l, tl_s]
  with_reducible refine And.intro ?_ ?_
  omega
  with_reducible refine And.intro ?_ ?_
  omega
  with_reducible exact hN ka r e1 hno _ h1
  (rw [skV_F rfl hm hf (by omega) hi])
  simp only [eX3_lift_16, eX3_lift_22, eX3_lift_26, eX3_lift_31, eX3_lift_36, eX3_lift_40, eX3_lift_41, kx_l, wt_nil, nl_int, tl_s, Nat.add_zero]
  with_reducible refine itx (fun _ => ?_) (fun _ => ?_)
  (exact absurd (by assumption) (oN9 (i := i) (by omega)))
  with_reducible refine go_S (by assumption) (fun _ _ hY => ?_)
  simp only [eX3_lift_27, wt_nil, g0, gS, ex1, Nat.add_zero]
  with_reducible refine And.intro ?_ ?_
  with_reducible exact MS.gP (by assumption) (by assumption)
  with_reducible refine And.intro ?_ ?_
  omega
  with_reducible refine And.intro ?_ ?_
  omega
  with_reducible refine And.intro ?_ ?_
  omega
  with_reducible refine sRemF h1 (by assumption) hi (fun _ w3 h3 => ?_)
  simp only [eX3_lift_30R, eX3_lift_31, eX3_lift_36, eX3_lift_40, eX3_lift_41, kx_l, wt_nil, tl_s, Nat.add_zero]
  with_reducible refine itx (fun _ => ?_) (fun _ => ?_)
  with_reducible refine And.intro ?_ ?_
  (exact absurd (by assumption) (oN9 (i := i) (by omega)))
  with_reducible refine And.intro ?_ ?_
  (exact absurd (by assumption) (oN9 (i := i) (by omega)))
  with_reducible refine And.intro ?_ ?_
  (exact absurd (by assumption) (oN9 (i := i) (by omega)))
  (exact absurd (by assumption) (oN9 (i := i) (by omega)))
  with_reducible refine And.intro ?_ ?_
  omega
  with_reducible refine And.intro ?_ ?_
  omega
  with_reducible refine And.intro ?_ ?_
  omega
  with_reducible refine fX3_one (Or.inr rfl) ?_
  simp only [eX3_lift_44, kx_l, tl_s]
  with_reducible refine And.intro ?_ ?_
  omega
  with_reducible refine And.intro ?_ ?_
  omega
  with_reducible exact hQ ka r e1 i hi hm hf _ h3
set_option maxHeartbeats 4000000 in
theorem fX3_pick {a0 a1 : Int32} (hM : MS g w0 y nM kd th s w) (hX : ¬ (okP s.2.2.1 a0 ∧ okC a1) → ∀ w', MS g w0 y nM kd 1 s w' → Q (.inl (some (.int 0))) w') (hN : okP s.2.2.1 a0 → okC a1 → s.2.1 a1.toNatClampNeg = none → ∀ w', MS g w0 y nM kd 0 (sC s (va_up s.2.1 a1.toNatClampNeg (some (s.2.2.2.1 a0.toNatClampNeg)))) w' → Q (.inl (some (.int 0))) w') (hS : okP s.2.2.1 a0 → okC a1 → ∀ r, s.2.1 a1.toNatClampNeg = some r → ∀ w', MS g w0 y nM kd 0 (sC s (va_up s.2.1 a1.toNatClampNeg (some (s.2.2.2.1 a0.toNatClampNeg)))) w' → Q (.inl (some (.int 1))) w') : WP (MX3_pick g) Q (0, [some (.ref y), some (.int a0), some (.int a1), none], [], w, 0, 0) := by
  simp only [eX3_pick_0]
  with_reducible refine go_S (by assumption) (fun _ _ hY => ?_)
  simp only [eX3_pick_7, eX3_pick_10, wt_nil, wt_int, wt_ref, g0, gS, ex1, Nat.add_zero]
  with_reducible refine And.intro ?_ ?_
  with_reducible exact MS.gP (by assumption) (by assumption)
  with_reducible refine And.intro ?_ ?_
  omega
  with_reducible refine And.intro ?_ ?_
  omega
  with_reducible refine And.intro ?_ ?_
  omega
  with_reducible refine sSizeF (by assumption) (by assumption) ?_
  simp only [eX3_pick_11, kx_l, wt_nil, wt_ref, tl_s, Nat.add_zero]
  with_reducible refine And.intro ?_ ?_
  omega
  with_reducible refine And.intro ?_ ?_
  omega
  with_reducible refine And.intro ?_ ?_
  omega
  with_reducible refine fX3_isIn (fun _ _ => ?_) (fun _ => ?_)
  simp only [eX3_pick_15, eX3_pick_18, eX3_pick_25, eX3_pick_30, i10, if_false, kx_l, wt_nil, wt_ref, tl_s, Nat.add_zero]
  with_reducible refine And.intro ?_ ?_
  omega
  with_reducible refine And.intro ?_ ?_
  omega
  with_reducible refine And.intro ?_ ?_
  omega
  with_reducible refine fX3_isNoCard (fun _ => ?_) (fun _ => ?_)
  simp only [eX3_pick_22, eX3_pick_25, eX3_pick_29, eX3_pick_30, i10, if_false, kx_l, wt_nil, tl_s, Nat.add_zero]
  with_reducible refine And.intro ?_ ?_
  with_reducible refine go_S (by assumption) (fun _ _ hY => ?_)
  with_reducible exact trivial
  with_reducible refine And.intro ?_ ?_
  omega
  with_reducible refine And.intro ?_ ?_
  omega
  with_reducible refine And.intro ?_ ?_
  omega
  with_reducible refine fX3_start (by assumption) (by decide) (fun _ w1 h1 => ?_) (fun _ w1 h1 => ?_)
  with_reducible exact absurd (by assumption) n10'
  simp only [eX3_pick_34, eX3_pick_37, eX3_pick_39, i10, if_false, kx_l, wt_nil, tl_s, Nat.add_zero]
  with_reducible refine And.intro ?_ ?_
  omega
  with_reducible refine And.intro ?_ ?_
  omega
  with_reducible exact hX (fun h => absurd h.2 (by assumption)) _ (by assumption)
  simp only [eX3_pick_22, eX3_pick_25, eX3_pick_29, eX3_pick_30, if_true, kx_l, wt_nil, tl_s, Nat.add_zero]
  with_reducible refine And.intro ?_ ?_
  with_reducible refine go_S (by assumption) (fun _ _ hY => ?_)
  with_reducible exact trivial
  with_reducible refine And.intro ?_ ?_
  omega
  with_reducible refine And.intro ?_ ?_
  omega
  with_reducible refine And.intro ?_ ?_
  omega
  with_reducible refine fX3_start (by assumption) (by decide) (fun _ w1 h1 => ?_) (fun _ w1 h1 => ?_)
  simp only [eX3_pick_34, eX3_pick_37, eX3_pick_39, if_true, kx_l, wt_nil, tl_s, Nat.add_zero]
  with_reducible refine And.intro ?_ ?_
  with_reducible refine go_S (by assumption) (fun _ _ hY => ?_)
  with_reducible exact trivial
  with_reducible refine And.intro ?_ ?_
  omega
  with_reducible refine And.intro ?_ ?_
  omega
  with_reducible refine And.intro ?_ ?_
  omega
  with_reducible refine fX3_isBare (by assumption) (by assumption) (fun _ => ?_) (fun _ _ => ?_)
  simp only [eX3_pick_44, eX3_pick_47, eX3_pick_51, eX3_pick_52, i10, if_false, kx_l, wt_nil, tl_s, Nat.add_zero]
  with_reducible refine And.intro ?_ ?_
  omega
  with_reducible refine And.intro ?_ ?_
  omega
  with_reducible refine And.intro ?_ ?_
  omega
  with_reducible refine fX3_one (Or.inl rfl) ?_
  simp only [eX3_pick_55, eX3_pick_60, eX3_pick_65, kx_l, nl_int, tl_s]
  with_reducible refine go_S (by assumption) (fun _ _ hY => ?_)
  simp only [g0, gS, ex1]
  with_reducible refine go_S (by assumption) (fun _ _ hY => ?_)
  simp only [eX3_pick_66, wt_nil, wt_int, wt_ref, g0, gS, ex1, Nat.add_zero]
  with_reducible refine And.intro ?_ ?_
  with_reducible exact MS.gP (by assumption) (by assumption)
  with_reducible refine And.intro ?_ ?_
  omega
  with_reducible refine And.intro ?_ ?_
  omega
  with_reducible refine And.intro ?_ ?_
  omega
  with_reducible refine sGetPF h1 (by assumption) ⟨by assumption, pz_lt hM.n0 (by assumption)⟩ (fun _ hb => ?_)
  simp only [eX3_pick_69R, eX3_pick_72R, kx_l, wt_nil, tl_s, Nat.add_zero]
  with_reducible refine And.intro ?_ ?_
  with_reducible exact rowA.ca (by assumption)
  with_reducible refine And.intro ?_ ?_
  with_reducible exact MS.gC (by assumption) (by assumption)
  with_reducible refine And.intro ?_ ?_
  omega
  with_reducible refine And.intro ?_ ?_
  omega
  with_reducible refine And.intro ?_ ?_
  omega
  with_reducible refine sSetFR h1 (by assumption) hb (by assumption) (fun w3 h3 => ?_) (fun _ w3 h3 => ?_)
  simp only [eX3_pick_75N, eX3_pick_76, kx_l, tl_s]
  with_reducible refine And.intro ?_ ?_
  omega
  with_reducible refine And.intro ?_ ?_
  omega
  with_reducible exact hN ⟨by assumption, pz_lt hM.n0 (by assumption)⟩ (by assumption) (by assumption) _ h3
  simp only [eX3_pick_75R, eX3_pick_76, kx_l, tl_s]
  with_reducible refine And.intro ?_ ?_
  omega
  with_reducible refine And.intro ?_ ?_
  omega
  with_reducible exact hN ⟨by assumption, pz_lt hM.n0 (by assumption)⟩ (by assumption) (by assumption) _ h3
  simp only [eX3_pick_44, eX3_pick_47, eX3_pick_51, eX3_pick_52, if_true, kx_l, wt_nil, tl_s, Nat.add_zero]
  with_reducible refine And.intro ?_ ?_
  omega
  with_reducible refine And.intro ?_ ?_
  omega
  with_reducible refine And.intro ?_ ?_
  omega
  with_reducible refine fX3_one (Or.inr rfl) ?_
  simp only [eX3_pick_55, eX3_pick_60, eX3_pick_65, kx_l, nl_int, tl_s]
  with_reducible refine go_S (by assumption) (fun _ _ hY => ?_)
  simp only [g0, gS, ex1]
  with_reducible refine go_S (by assumption) (fun _ _ hY => ?_)
  simp only [eX3_pick_66, wt_nil, wt_int, wt_ref, g0, gS, ex1, Nat.add_zero]
  with_reducible refine And.intro ?_ ?_
  with_reducible exact MS.gP (by assumption) (by assumption)
  with_reducible refine And.intro ?_ ?_
  omega
  with_reducible refine And.intro ?_ ?_
  omega
  with_reducible refine And.intro ?_ ?_
  omega
  with_reducible refine sGetPF h1 (by assumption) ⟨by assumption, pz_lt hM.n0 (by assumption)⟩ (fun _ hb => ?_)
  simp only [eX3_pick_69R, eX3_pick_72R, kx_l, wt_nil, tl_s, Nat.add_zero]
  with_reducible refine And.intro ?_ ?_
  with_reducible exact rowA.ca (by assumption)
  with_reducible refine And.intro ?_ ?_
  with_reducible exact MS.gC (by assumption) (by assumption)
  with_reducible refine And.intro ?_ ?_
  omega
  with_reducible refine And.intro ?_ ?_
  omega
  with_reducible refine And.intro ?_ ?_
  omega
  with_reducible refine sSetFR h1 (by assumption) hb (by assumption) (fun w3 h3 => ?_) (fun _ w3 h3 => ?_)
  simp only [eX3_pick_75N, eX3_pick_76, kx_l, tl_s]
  with_reducible refine And.intro ?_ ?_
  omega
  with_reducible refine And.intro ?_ ?_
  omega
  with_reducible exact hS ⟨by assumption, pz_lt hM.n0 (by assumption)⟩ (by assumption) _ (by assumption) _ h3
  simp only [eX3_pick_75R, eX3_pick_76, kx_l, tl_s]
  with_reducible refine And.intro ?_ ?_
  omega
  with_reducible refine And.intro ?_ ?_
  omega
  with_reducible exact hS ⟨by assumption, pz_lt hM.n0 (by assumption)⟩ (by assumption) _ (by assumption) _ h3
  with_reducible exact n00x (by assumption)
  simp only [eX3_pick_15, eX3_pick_18, eX3_pick_25, eX3_pick_30, if_true, kx_l, wt_nil, wt_ref, tl_s, Nat.add_zero]
  with_reducible refine And.intro ?_ ?_
  with_reducible refine go_S (by assumption) (fun _ _ hY => ?_)
  with_reducible exact trivial
  with_reducible refine And.intro ?_ ?_
  omega
  with_reducible refine And.intro ?_ ?_
  omega
  with_reducible refine And.intro ?_ ?_
  omega
  with_reducible refine fX3_start (by assumption) (by decide) (fun _ w1 h1 => ?_) (fun _ w1 h1 => ?_)
  with_reducible exact absurd (by assumption) n10'
  simp only [eX3_pick_34, eX3_pick_37, eX3_pick_39, i10, if_false, kx_l, wt_nil, tl_s, Nat.add_zero]
  with_reducible refine And.intro ?_ ?_
  omega
  with_reducible refine And.intro ?_ ?_
  omega
  ((with_reducible refine isQ (Q := Q) ?_); exact hX (fun h => nokP hM.n0 (by assumption) h.1) _ (by assumption))
end
end
/-! 75.mf9.lean.txt -/
section
section
variable {g : RO} {Q : Ot → Hw → Prop} {w0 w : Hw} {y nM : Nat} {kd th : Int32} {s : AS}
theorem go_SP {w1 : Hw} {L' D' c' : Nat} {n' : Int32} {h' : Nat → Option Nat} {K : List Value → Prop} (k : ext g w1 w) (hM : MS g w0 y nM kd th s w1) (hl : LL g w L' D' c' n' h') (hr : ∀ i b, h' i = some b → isRow w b) (hn : n'.toInt ≤ 12) (hL : w1 L' = none) (hD : w1 D' = none) (kk : ∀ (cL pL : Nat), (∀ F : Nat → R4, (∀ i : Nat, (i : Int) < n'.toInt → ∃ b, h' i = some b ∧ rowA w b (F i)) → MS g w0 y nM kd th (sP_ s n' F) (upw w y (.inr (7, [.int th, .ref nM, .ref cL, .ref L', .int s.2.2.2.2.1, .int kd, .int s.2.2.2.2.2])))) → K [.int th, .ref nM, .ref cL, .ref pL, .int s.2.2.2.2.1, .int kd, .int s.2.2.2.2.2]) : go (w y) 7 K := by
  obtain ⟨⟨cL, pL, D1, D2, c1, c2, h1, h2, a1, a2, a3, a4, a5, a6, a7, a8, a9, b1', b2'⟩, hF⟩ := hM
  have b1 := k.1 _ _ a1
  have b2 := k.1 _ _ a2
  rw [b1, go_s]
  have hn0 : ∀ {a : Nat} {o : Ob}, w1 a = some o → a ≠ L' := fun e z => by
    rw [z, hL] at e
    cases e
  have hd0 : ∀ {a : Nat} {o : Ob}, w1 a = some o → a ≠ D' := fun e z => by
    rw [z, hD] at e
    cases e
  obtain ⟨mcc, hcL⟩ := a3.1
  refine kk _ _ (fun F hH => ⟨⟨cL, L', D1, D', c1, c', h1, h', upw_s _ _ _, ?_, (a3.ext k).up b1 (fun _ e => by cases e) (fun _ e => by cases e), fun i b z => isRow_up ((a4 i b z).ext k) b1 (fun _ e => by cases e), hl.up b1 (fun _ e => by cases e) (fun _ e => by cases e), fun i b z => isRow_up (hr i b z) b1 (fun _ e => by cases e), hn, hn0 hcL, ?_, fun i hi => (b1' i hi).mp fun _ _ z => rowA_up (z.ext k) b1 (fun _ e => by cases e), fun i hi => (hH i hi).imp fun _ z => ⟨z.1, rowA_up z.2 b1 (fun _ e => by cases e)⟩⟩, (hF.ext k).up b1 (Or.inr rfl)⟩)
  · rw [upw_n (ne_of a2 a1 (fun e => by cases e))]
    exact b2
  · rcases a3.2.1 with ⟨z, -⟩ | ⟨z, -⟩
    · exact hd0 z
    · have k2 := a3.2.2.2
      have e6 : (6 : Int32).toInt = 6 := rfl
      omega
theorem nn0F {F : Nat → R4} : ∀ i : Nat, (i : Int) < (0 : Int32).toInt → ∃ b, (fun _ => none : Nat → Option Nat) i = some b ∧ rowA w b (F i) := fun i h => by
  have e : (0 : Int32).toInt = 0 := rfl
  omega
set_option maxHeartbeats 4000000 in
theorem fX3_sweep  (hM : MS g w0 y nM kd th s w) (hE : EG g w0) (hS : SG g) (hQ : ∀ w', (∀ F, MS g w0 y nM kd 0 (sP_ s 0 F) w') → Q (.inl (some (.int s.2.2.1))) w') : WP (MX3_sweep g) Q (0, [some (.ref y), none], [], w, 0, 0) := by
  obtain ⟨cL, pL, hy, ry⟩ := hM.1.op
  obtain ⟨w1, hw1⟩ : ∃ w1, upw w y (.inr (7, [.int 0, .ref nM, .ref cL, .ref pL, .int s.2.2.2.2.1, .int kd, .int s.2.2.2.2.2])) = w1 := ⟨_, rfl⟩
  have hM1 : MS g w0 y nM kd 0 s w1 := by
    rw [← hw1]
    exact hM.set hy
  have hy1 : w1 y = some (.inr (7, [.int 0, .ref nM, .ref cL, .ref pL, .int s.2.2.2.2.1, .int kd, .int s.2.2.2.2.2])) := by
    rw [← hw1]
    exact upw_s _ _ _
  have hY1 : isY w1 y nM cL pL := ⟨_, _, _, _, hy1⟩
  simp only [eX3_sweep_0, eX3_sweep_5, eX3_sweep_9, hy, hw1, go_s, wt_nil, g0, gS, ex1, nf_i, true_and, List.set_cons_zero, List.length_cons, List.length_nil, rd_s, Nat.zero_add, Nat.add_zero]
  with_reducible refine And.intro ?_ ?_
  omega
  with_reducible refine And.intro ?_ ?_
  with_reducible exact MS.gP hM1 hY1
  with_reducible refine And.intro ?_ ?_
  omega
  with_reducible refine And.intro ?_ ?_
  omega
  with_reducible refine And.intro ?_ ?_
  omega
  with_reducible refine sSizeF hM1 hY1 ?_
  simp only [eX3_sweep_12, eX3_sweep_13, eX3_sweep_17R, kx_l, wt_nil, wt_ref, nl_ref, tl_s, Nat.zero_add, Nat.add_zero]
  with_reducible refine And.intro ?_ ?_
  omega
  with_reducible refine And.intro ?_ ?_
  omega
  with_reducible intro _
  with_reducible intro _
  with_reducible refine And.intro ?_ ?_
  omega
  with_reducible refine And.intro ?_ ?_
  omega
  with_reducible refine And.intro ?_ ?_
  omega
  with_reducible refine sInitF (hM1.mm.eg hE) (by assumption) (fun D9 w9 hk9 hl9 hd9 => ?_)
  simp only [eX3_sweep_21, eX3_sweep_24, tyX3, kx_l, tl_n, nf_ro, true_and]
  with_reducible refine go_SP hk9 hM1 hl9 nr0 n00' (rd_none (by assumption)) hd9 (fun _ _ hF => ?_)
  with_reducible refine And.intro ?_ ?_
  simp only [List.length_cons, List.length_nil, Nat.zero_add]
  omega
  with_reducible refine And.intro ?_ ?_
  omega
  with_reducible refine And.intro ?_ ?_
  omega
  ((with_reducible refine isQ (Q := Q) ?_); exact hQ _ (fun F => hF F nn0F))
set_option maxHeartbeats 4000000 in
theorem flX3_turn_x {w1 : Hw} {pL D2 c2 q L : Nat} {n mc : Int32} {h2 : Nat → Option Nat} (hE : EG g w1) (hS : SG g) (hM : MS g w0 y nM kd 0 s w1) (en : n = s.2.2.1) (hL : w1 pL = some (.inr (3, [.int mc, .ref D2, .int n]))) (hl : LL g w1 pL D2 c2 n h2) (hr : ∀ i b, h2 i = some b → isRow w1 b) (hnn : ∀ i : Nat, (i : Int) < n.toInt → ∃ b, h2 i = some b ∧ rowA w1 b (s.2.2.2.1 i)) (hn : n.toInt ≤ 12) (hq : w1 q = none) (gq : g.2 q = none) (hL' : w1 L = none) (hQ : ∀ w', MS g w0 y nM kd 0 (sP_ s s.2.2.1 (rev s.2.2.2.1 s.2.2.1.toInt.toNat)) w' → Q (.inl (some (.int s.2.2.1))) w') : ∀ (c lr : Int32) (o3 : Option Value) (w' : Hw) (D' c' : Nat) (h' : Nat → Option Nat) (k m : Nat), ext g w1 w' → w' q = some (.inr (2, [.int c, .int lr, .int mc, .ref pL])) → LL g w' L D' c' c h' → (∀ i b, h' i = some b → isRow w' b) → (∀ i : Nat, (i : Int) < c.toInt → ∃ b, h' i = some b ∧ rowA w1 b (s.2.2.2.1 (c.toInt.toNat - 1 - i))) → w1 D' = none → c = n → k ≤ 14 → m ≤ 187 → WP (MX3_turn g) Q (21, [some (.ref y), some (.ref L), some (.ref q), o3], [], w', k, m) := by
  intro c lr o3 w' D' c' h' k m hk hqw hll hrw hnn' hD' hcn km mm
  subst hcn
  subst en
  have hrr : ∀ i : Nat, (i : Int) < s.2.2.1.toInt → ∃ b, h' i = some b ∧ rowA w' b (rev s.2.2.2.1 s.2.2.1.toInt.toNat i) := fun i hi => (hnn' i hi).imp fun _ z => ⟨z.1, z.2.ext hk⟩
  have rq := rd_e (g := g) hqw
  rw [eX3_turn_21]
  simp only [eX3_turn_22, go_s, wt_nil, true_and, Nat.add_zero, rq]
  with_reducible refine And.intro ?_ ?_
  omega
  with_reducible refine And.intro ?_ ?_
  with_reducible assumption
  with_reducible refine And.intro ?_ ?_
  with_reducible assumption
  with_reducible refine sJx35411_hasNext_aae02 (cap := 0) hqw (hk.k1 hL) (fun _ => ?_) (fun h => absurd rfl h)
  simp only [eX3_turn_27, eX3_turn_30, eX3_turn_49, eX3_turn_54, kx_l, go_s, wt_nil, tl_s, nf_ro, true_and, rd_s, Nat.add_zero, if_true, rq, tyX3]
  with_reducible refine go_SP hk hM hll hrw hn hL' hD' (fun _ _ hF => ?_)
  with_reducible refine And.intro ?_ ?_
  simp only [List.length_cons, List.length_nil, Nat.zero_add]
  omega
  simp only [eX3_turn_58, wt_nil, g0, gS, ex1, List.set_cons_zero, List.set_cons_succ, Nat.add_zero]
  with_reducible refine And.intro ?_ ?_
  with_reducible exact MS.gP (hF _ hrr) (by first | assumption | exact isY.s)
  with_reducible refine And.intro ?_ ?_
  omega
  with_reducible refine And.intro ?_ ?_
  with_reducible assumption
  with_reducible refine And.intro ?_ ?_
  with_reducible assumption
  with_reducible refine sSizeF (hF _ hrr) (by first | assumption | exact isY.s) ?_
  simp only [eX3_turn_61, kx_l, tl_s]
  with_reducible refine And.intro ?_ ?_
  with_reducible assumption
  with_reducible refine And.intro ?_ ?_
  with_reducible assumption
  (exact hQ _ (hF _ hrr))
set_option maxHeartbeats 4000000 in
theorem flX3_turn_21 {w1 : Hw} {pL D2 c2 q L : Nat} {n mc : Int32} {h2 : Nat → Option Nat} (hE : EG g w1) (hS : SG g) (hM : MS g w0 y nM kd 0 s w1) (en : n = s.2.2.1) (hL : w1 pL = some (.inr (3, [.int mc, .ref D2, .int n]))) (hl : LL g w1 pL D2 c2 n h2) (hr : ∀ i b, h2 i = some b → isRow w1 b) (hnn : ∀ i : Nat, (i : Int) < n.toInt → ∃ b, h2 i = some b ∧ rowA w1 b (s.2.2.2.1 i)) (hn : n.toInt ≤ 12) (hq : w1 q = none) (gq : g.2 q = none) (hL' : w1 L = none) (hQ : ∀ w', MS g w0 y nM kd 0 (sP_ s s.2.2.1 (rev s.2.2.2.1 s.2.2.1.toInt.toNat)) w' → Q (.inl (some (.int s.2.2.1))) w') : ∀ (d : Nat) (c lr : Int32) (o3 : Option Value) (w' : Hw) (D' c' : Nat) (h' : Nat → Option Nat) (k m : Nat), ext g w1 w' → w' q = some (.inr (2, [.int c, .int lr, .int mc, .ref pL])) → LL g w' L D' c' c h' → (∀ i b, h' i = some b → isRow w' b) → (∀ i : Nat, (i : Int) < c.toInt → ∃ b, h' i = some b ∧ rowA w1 b (s.2.2.2.1 (c.toInt.toNat - 1 - i))) → w1 D' = none → n.toInt - c.toInt ≤ (d : Int) → c.toInt ≤ n.toInt → (k : Int) ≤ 2 + c.toInt → (m : Int) ≤ 7 + 15 * c.toInt → WP (MX3_turn g) Q (21, [some (.ref y), some (.ref L), some (.ref q), o3], [], w', k, m) := by
  intro d
  induction d with
  | zero =>
    intro c lr o3 w' D' c' h' k m hk hqw hll hrw hnn' hD' hd hc km mm
    exact flX3_turn_x hE hS hM en hL hl hr hnn hn hq gq hL' hQ c lr o3 w' D' c' h' k m hk hqw hll hrw hnn' hD' (Int32.toInt_inj.mp (by omega)) (by omega) (by omega)
  | succ d ih =>
    intro c lr o3 w' D' c' h' k m hk hqw hll hrw hnn' hD' hd hc km mm
    by_cases hcn : c = n
    · exact flX3_turn_x hE hS hM en hL hl hr hnn hn hq gq hL' hQ c lr o3 w' D' c' h' k m hk hqw hll hrw hnn' hD' hcn (by rw [hcn] at km; omega) (by rw [hcn] at mm; omega)
    have c0 := hll.n0
    have clt := itl hcn hc
    have ce := its c0 hcn hc (by omega)
    obtain ⟨b, hb, hbr⟩ := hnn c.toNatClampNeg (by
      have t : c.toNatClampNeg = c.toInt.toNat := rfl
      omega)
    have rq := rd_e (g := g) hqw
    obtain ⟨w2, hw2⟩ : ∃ w2, upw w' q (.inr (2, [.int (c + 1), .int c, .int mc, .ref pL])) = w2 := ⟨_, rfl⟩
    have hk2 : ext g w1 w2 := by
      rw [← hw2]
      refine ⟨fun a o e => ?_, fun a o e1 e2 => ?_⟩
      · rw [upw_n]
        · exact hk.1 a o e
        · rintro rfl
          rw [hq] at e
          cases e
      · rw [upw_n]
        · exact hk.2 a o e1 e2
        · rintro rfl
          rw [gq] at e1
          cases e1
    have hq2 : w2 q = some (.inr (2, [.int (c + 1), .int c, .int mc, .ref pL])) := by
      rw [← hw2]
      exact upw_s _ _ _
    have hll2 : LL g w2 L D' c' c h' := by
      rw [← hw2]
      exact hll.up hqw (fun _ e => by cases e) (fun _ e => by cases e)
    have hrw2 : ∀ i b, h' i = some b → isRow w2 b := fun i b z => by
      rw [← hw2]
      exact isRow_up (hrw i b z) hqw (fun _ e => by cases e)
    have hb2 : isRow w2 b := (hr _ _ hb).ext hk2
    have fin : ∀ (w3 : Hw) (k' m' : Nat), LPo g w2 w3 L D' (c + 1) (HIn h' c.toNatClampNeg (0 : Int32).toNatClampNeg (some b)) → (k' : Int) ≤ 3 + c.toInt → (m' : Int) ≤ 22 + 15 * c.toInt → WP (MX3_turn g) Q (21, [some (.ref y), some (.ref L), some (.ref q), some (.ref b)], [], w3, k', m') := by
      intro w3 k' m' hlp kk' mm'
      obtain ⟨D3, c3, h3, l1, l2, f1, f2, fD, hh⟩ := hlp
      have nD : ∀ {a : Nat} {o : Ob}, w1 a = some o → a ≠ D' := fun e z => by
        rw [z, hD'] at e
        cases e
      have nL : ∀ {a : Nat} {o : Ob}, w1 a = some o → a ≠ L := fun e z => by
        rw [z, hL'] at e
        cases e
      have hk3 : ext g w1 w3 := ⟨fun a o e => f1 a o (hk2.1 a o e) (nL e) (nD e), fun a o e1 e2 => f2 a o e1 (hk2.2 a o e1 e2)⟩
      have q1 : q ≠ L := by
        obtain ⟨mc2, e⟩ := hll2.1
        exact ne_of hq2 e (fun e => by cases e)
      have q2 : q ≠ D' := by
        rcases hll2.2.1 with ⟨e, -⟩ | ⟨-, -, e, -⟩
        · exact ne_of hq2 e (fun e => by cases e)
        · rintro rfl
          rw [hq2] at e
          cases e
      refine ih _ _ _ w3 D3 c3 h3 _ _ hk3 (f1 _ _ hq2 q1 q2) l1 l2 (fun i hi => ?_) ?_ (by omega) (by omega) (by omega) (by omega)
      · have t : c.toNatClampNeg = c.toInt.toNat := rfl
        have t0 : (0 : Int32).toNatClampNeg = 0 := rfl
        rw [t0] at hh
        rcases Nat.eq_zero_or_pos i with rfl | hi0
        · refine ⟨b, hh.2.1, ?_⟩
          have ei : (c + 1).toInt.toNat - 1 - 0 = c.toNatClampNeg := by omega
          rw [ei]
          exact hbr
        · obtain ⟨j, rfl⟩ : ∃ j, i = j + 1 := ⟨i - 1, by omega⟩
          rw [hh.2.2 j (Nat.zero_le _) (by omega)]
          have ei : (c + 1).toInt.toNat - 1 - (j + 1) = c.toInt.toNat - 1 - j := by omega
          rw [ei]
          exact hnn' j (by omega)
      · rcases fD with rfl | ⟨fD, -⟩
        · exact hD'
        · cases hw : w1 D3 with
          | none => rfl
          | some o =>
            rw [hk2.1 _ _ hw] at fD
            cases fD
    rw [eX3_turn_21]
    simp only [eX3_turn_22, go_s, wt_nil, true_and, Nat.add_zero, rq]
    with_reducible refine And.intro ?_ ?_
    omega
    with_reducible refine And.intro ?_ ?_
    omega
    with_reducible refine And.intro ?_ ?_
    omega
    with_reducible refine sJx35411_hasNext_aae02 (cap := 0) hqw (hk.k1 hL) (fun h => absurd h hcn) (fun _ => ?_)
    simp only [eX3_turn_27, eX3_turn_30, eX3_turn_49, eX3_turn_54, kx_l, go_s, wt_nil, tl_s, true_and, rd_s, Nat.add_zero, if_false, m10, rq]
    with_reducible refine And.intro ?_ ?_
    omega
    with_reducible refine And.intro ?_ ?_
    omega
    with_reducible refine And.intro ?_ ?_
    omega
    with_reducible refine sNext1 hqw (hk.k1 hL) (hl.ext hk).rD c0 clt hl.nc hl.c15 hb ?_
    simp only [eX3_turn_36R, eX3_turn_39, eX3_turn_46, kx_l, wt_nil, nl_ref, tl_s, hw2]
    with_reducible refine And.intro ?_ ?_
    with_reducible exact isRow.ca hb2
    with_reducible refine And.intro ?_ ?_
    with_reducible exact hll2.gt
    with_reducible refine And.intro ?_ ?_
    omega
    with_reducible refine And.intro ?_ ?_
    omega
    with_reducible refine And.intro ?_ ?_
    omega
    with_reducible refine sJx4a65c_add_7a177R hb2 (hE.ext hk2) hS hll2 hrw2 (by decide) (by have e : (0 : Int32).toInt = 0 := rfl; omega) (by omega) (fun _ _ => ?_)
    simp only [kx_l, tl_n]
    with_reducible exact fin _ _ _ (by assumption) (by omega) (by omega)
set_option maxHeartbeats 4000000 in
theorem fX3_turn  (hM : MS g w0 y nM kd th s w) (hE : EG g w0) (hS : SG g) (hQ : ∀ w', MS g w0 y nM kd 0 (sP_ s s.2.2.1 (rev s.2.2.2.1 s.2.2.1.toInt.toNat)) w' → Q (.inl (some (.int s.2.2.1))) w') : WP (MX3_turn g) Q (0, [some (.ref y), none, none, none], [], w, 0, 0) := by
  obtain ⟨cL, pL, hy, ry⟩ := hM.1.op
  obtain ⟨w1, hw1⟩ : ∃ w1, upw w y (.inr (7, [.int 0, .ref nM, .ref cL, .ref pL, .int s.2.2.2.2.1, .int kd, .int s.2.2.2.2.2])) = w1 := ⟨_, rfl⟩
  have hM1 : MS g w0 y nM kd 0 s w1 := by
    rw [← hw1]
    exact hM.set hy
  have hy1 : w1 y = some (.inr (7, [.int 0, .ref nM, .ref cL, .ref pL, .int s.2.2.2.2.1, .int kd, .int s.2.2.2.2.2])) := by
    rw [← hw1]
    exact upw_s _ _ _
  obtain ⟨D1, D2, c1, c2, h1, h2, a1, a2, a3, a4, a5, a6, a7, a8, a9, b1, b2, hD, hc⟩ := hM1.1.yS ⟨_, _, _, _, hy1⟩
  obtain ⟨mc0, hL1⟩ := a5.1
  have z0 : (0 : Int32).toInt = 0 := rfl
  have n0 := a5.n0
  simp only [eX3_turn_0, eX3_turn_5, eX3_turn_8R, hy, hw1, go_s, wt_nil, wt_ref, nf_i, true_and, List.set_cons_zero, List.length_cons, List.length_nil, Nat.zero_add, Nat.add_zero]
  with_reducible refine And.intro ?_ ?_
  omega
  with_reducible refine And.intro ?_ ?_
  omega
  with_reducible refine And.intro ?_ ?_
  omega
  with_reducible intro _
  with_reducible intro _
  with_reducible refine And.intro ?_ ?_
  omega
  with_reducible refine And.intro ?_ ?_
  omega
  with_reducible refine And.intro ?_ ?_
  omega
  with_reducible refine sInitF (hM1.mm.eg hE) (by assumption) (fun D9 w9 hk9 hl9 hd9 => ?_)
  simp only [eX3_turn_12, eX3_turn_13, kx_l, nl_ref, tl_n]
  with_reducible refine go_YE (hk9.k1 hy1) ?_
  simp only [eX3_turn_17, wt_nil, g0, gS, ex1]
  with_reducible refine And.intro ?_ ?_
  with_reducible exact (a5.ext hk9).gt
  with_reducible refine And.intro ?_ ?_
  omega
  with_reducible refine And.intro ?_ ?_
  omega
  with_reducible refine And.intro ?_ ?_
  omega
  with_reducible refine sIter1 (a5.ext hk9) (hk9.k1 hL1) (fun q9 hq9 => ?_)
  simp only [eX3_turn_20, kx_l, nl_ref, tl_s]
  ((with_reducible refine isWP (pc := 21) ?_); exact flX3_turn_21 (hM1.mm.eg hE) hS hM1 rfl hL1 a5 a6 b2 a7 (ext_n hk9 (rd_none hq9)) (rd_ro hq9) (rd_none (by assumption)) hQ 70 _ _ _ _ _ _ _ _ _ (ext_up3 hk9 hq9) (upw_s _ _ _) (hl9.nq hq9 _) nr0 nn0F hd9 (by omega) (by omega) (by omega) (by omega))
end
end
/-! 75.mfa.lean.txt -/
section
section
variable {g : RO} {Q : Ot → Hw → Prop} {w0 w : Hw} {y nM : Nat} {kd th : Int32} {s : AS}
theorem MS.cA {a : Int32} {r : R4} (h : MS g w0 y nM kd th s w) (k : okC a) (e : s.2.1 a.toNatClampNeg = some r) : ∃ b, CAt g w y a (some b) := by
  obtain ⟨cL, pL, D1, D2, c1, c2, h1, h2, a1, a2, a3, a4, a5, a6, a7, a8, a9, b1, b2⟩ := h.1
  have kk := b1 _ (c6 k)
  cases e1 : h1 a.toNatClampNeg with
  | none =>
    rw [e1, e] at kk
    exact (kk : False).elim
  | some b => exact ⟨b, nM, cL, pL, D1, c1, _, _, _, _, h1, a1, a3, a4, e1⟩
theorem MS.ts {b d N : Nat} {c : Int32} {w1 : Hw} (hT : TS g w1 b d N c w) (h : MS g w0 y nM kd th s w1) : MS g w0 y nM kd th s w := h.ext hT.1
theorem msEx2 {w1 : Hw} (k : ext g w1 w) (h : MS g w0 y nM kd th s w1) : MS g w0 y nM kd th s w := h.ext k
theorem rowA.ts {b d N p : Nat} {c : Int32} {w1 : Hw} {r : R4} (hT : TS g w1 b d N c w) (h : rowA w1 p r) : rowA w p r := h.ext hT.1
theorem gX3_likesNow {a : Int32} {r : R4} (hM : MS g w0 y nM kd th s w) (k : okC a) (e : s.2.1 a.toNatClampNeg = some r) (hQ : ∀ v : Int32, Q (.inl (some (.int v))) w) : WP (MX3_likesNow g) Q (0, [some (.ref y), some (.int a), none, none], [], w, 0, 0) := by
  obtain ⟨b, hC⟩ := hM.cA k e
  exact sX3_likesNow hM.mm hC k.1 (lt65 k.2) hQ
theorem gX3_oftenNow {a : Int32} {r : R4} (hM : MS g w0 y nM kd th s w) (k : okC a) (e : s.2.1 a.toNatClampNeg = some r) (hQ : ∀ (v : Int32) w', MS g w0 y nM kd th s w' → Q (.inl (some (.int v))) w') : WP (MX3_oftenNow g) Q (0, [some (.ref y), some (.int a), none, none, none], [], w, 0, 0) := by
  obtain ⟨b, hC⟩ := hM.cA k e
  exact sX3_oftenNow hM.mm hC k.1 (lt65 k.2) (fun v w' hk => hQ v w' (hM.ext hk))
theorem gX3_count_56 {a c e : Int32} {r : R4} {k m : Nat} (hM : MS g w0 y nM kd th s w) (kc : okC a) (e1 : s.2.1 a.toNatClampNeg = some r) (k2 : ¬ 60 < e) (hQ : ∀ v : Int32, Q (.inl (some (.int v))) w) (hk : k ≤ 0) (hm : m ≤ 0) : WP (MX3_count g) Q (56, [some (.ref y), some (.int a), some (.int c), some (.int e), some (.int 0), some (.int 0)], [], w, k, m) := by
  obtain ⟨b, hC⟩ := hM.cA kc e1
  exact lX3_count_56 hM.mm hC kc.1 (lt65 kc.2) k2 hQ 70 _ _ _ _ (n60 k2) hk hm
set_option maxHeartbeats 4000000 in
theorem gX3_whichValid {a0 a1 : Int32} (hM : MS g w0 y nM kd th s w) (hQ : ∀ (v th' : Int32) w', MS g w0 y nM kd th' s w' → Q (.inl (some (.int v))) w') : WP (MX3_whichValid g) Q (0, [some (.ref y), some (.int a0), some (.int a1)], [], w, 0, 0) := by
  simp only [eX3_whichValid_0, wt_nil, Nat.add_zero]
  with_reducible refine And.intro ?_ ?_
  with_reducible refine go_S (by assumption) (fun _ _ hY => ?_)
  with_reducible exact trivial
  with_reducible refine And.intro ?_ ?_
  omega
  with_reducible refine And.intro ?_ ?_
  omega
  with_reducible refine And.intro ?_ ?_
  omega
  with_reducible refine fX3_isNone (by assumption) (fun _ w1 h1 => ?_) (fun _ _ w1 h1 => ?_) (fun _ _ _ w1 h1 => ?_)
  simp only [eX3_whichValid_5, eX3_whichValid_8, eX3_whichValid_12, eX3_whichValid_16, eX3_whichValid_27, i10, if_false, kx_l, tl_s]
  with_reducible refine And.intro ?_ ?_
  omega
  with_reducible refine And.intro ?_ ?_
  omega
  with_reducible exact hQ _ _ _ (by assumption)
  simp only [eX3_whichValid_5, eX3_whichValid_8, eX3_whichValid_12, eX3_whichValid_16, eX3_whichValid_27, i10, if_false, kx_l, tl_s]
  with_reducible refine And.intro ?_ ?_
  omega
  with_reducible refine And.intro ?_ ?_
  omega
  with_reducible exact hQ _ _ _ (by assumption)
  simp only [eX3_whichValid_5, eX3_whichValid_8, eX3_whichValid_12, eX3_whichValid_16, eX3_whichValid_27, if_true, kx_l, tl_s]
  with_reducible refine go_S (by assumption) (fun _ _ hY => ?_)
  simp only [eX3_whichValid_17, wt_nil, g0, gS, ex1, Nat.add_zero]
  with_reducible refine And.intro ?_ ?_
  with_reducible exact MS.gC (by assumption) (by assumption)
  with_reducible refine And.intro ?_ ?_
  omega
  with_reducible refine And.intro ?_ ?_
  omega
  with_reducible refine And.intro ?_ ?_
  omega
  with_reducible refine sGetK (by assumption) (by assumption) (by assumption) (by assumption) (fun _ hb => ?_)
  simp only [eX3_whichValid_20R, eX3_whichValid_23, kx_l, wt_nil, tl_s, Nat.add_zero]
  with_reducible refine And.intro ?_ ?_
  with_reducible exact rowA.ca (by assumption)
  with_reducible refine And.intro ?_ ?_
  omega
  with_reducible refine And.intro ?_ ?_
  omega
  with_reducible refine And.intro ?_ ?_
  omega
  with_reducible refine sX3_whichNow (rowA.row (by assumption)) (fun _ => ?_)
  simp only [eX3_whichValid_27, kx_l, tl_s]
  with_reducible refine And.intro ?_ ?_
  omega
  with_reducible refine And.intro ?_ ?_
  omega
  with_reducible exact hQ _ _ _ (by assumption)
set_option maxHeartbeats 4000000 in
theorem gX3_around {a0 a1 a2 : Int32} (hM : MS g w0 y nM kd th s w) (hQ : ∀ (v th' : Int32) w', MS g w0 y nM kd th' s w' → Q (.inl (some (.int v))) w') : WP (MX3_around g) Q (0, [some (.ref y), some (.int a0), some (.int a1), some (.int a2)], [], w, 0, 0) := by
  simp only [eX3_around_0, wt_nil, Nat.add_zero]
  with_reducible refine And.intro ?_ ?_
  with_reducible refine go_S (by assumption) (fun _ _ hY => ?_)
  with_reducible exact trivial
  with_reducible refine And.intro ?_ ?_
  omega
  with_reducible refine And.intro ?_ ?_
  omega
  with_reducible refine And.intro ?_ ?_
  omega
  with_reducible refine fX3_isNoEnd_ (by assumption) (fun _ w1 h1 => ?_) (fun _ _ w1 h1 => ?_) (fun _ _ _ w1 h1 => ?_) (fun _ _ _ _ w1 h1 => ?_)
  simp only [eX3_around_6, eX3_around_9, eX3_around_13, eX3_around_17, eX3_around_29, i10, if_false, kx_l, tl_s]
  with_reducible refine And.intro ?_ ?_
  omega
  with_reducible refine And.intro ?_ ?_
  omega
  with_reducible exact hQ _ _ _ (by assumption)
  simp only [eX3_around_6, eX3_around_9, eX3_around_13, eX3_around_17, eX3_around_29, i10, if_false, kx_l, tl_s]
  with_reducible refine And.intro ?_ ?_
  omega
  with_reducible refine And.intro ?_ ?_
  omega
  with_reducible exact hQ _ _ _ (by assumption)
  simp only [eX3_around_6, eX3_around_9, eX3_around_13, eX3_around_17, eX3_around_29, i10, if_false, kx_l, tl_s]
  with_reducible refine And.intro ?_ ?_
  omega
  with_reducible refine And.intro ?_ ?_
  omega
  with_reducible exact hQ _ _ _ (by assumption)
  simp only [eX3_around_6, eX3_around_9, eX3_around_13, eX3_around_17, eX3_around_29, if_true, kx_l, tl_s]
  with_reducible refine go_S (by assumption) (fun _ _ hY => ?_)
  simp only [eX3_around_18, wt_nil, g0, gS, ex1, Nat.add_zero]
  with_reducible refine And.intro ?_ ?_
  with_reducible exact MS.gC (by assumption) (by assumption)
  with_reducible refine And.intro ?_ ?_
  omega
  with_reducible refine And.intro ?_ ?_
  omega
  with_reducible refine And.intro ?_ ?_
  omega
  with_reducible refine sGetK (by assumption) (by assumption) (by assumption) (by assumption) (fun _ hb => ?_)
  simp only [eX3_around_21R, eX3_around_24, kx_l, wt_nil, tl_s, Nat.add_zero]
  with_reducible refine And.intro ?_ ?_
  with_reducible exact rowA.ca (by assumption)
  with_reducible refine And.intro ?_ ?_
  omega
  with_reducible refine And.intro ?_ ?_
  omega
  with_reducible refine And.intro ?_ ?_
  omega
  with_reducible refine sX3_aroundNow (rowA.row (by assumption)) (And.left (by assumption : okW _ 3)) (And.right (by assumption : okW _ 3)) (fun _ => ?_)
  simp only [eX3_around_29, kx_l, tl_s]
  with_reducible refine And.intro ?_ ?_
  omega
  with_reducible refine And.intro ?_ ?_
  omega
  with_reducible exact hQ _ _ _ (by assumption)
set_option maxHeartbeats 4000000 in
theorem gX3_isSameAs {a0 a1 : Int32} (hM : MS g w0 y nM kd th s w) (hQ : ∀ (v th' : Int32) w', MS g w0 y nM kd th' s w' → Q (.inl (some (.int v))) w') : WP (MX3_isSameAs g) Q (0, [some (.ref y), some (.int a0), some (.int a1)], [], w, 0, 0) := by
  simp only [eX3_isSameAs_0, eX3_isSameAs_5, wt_nil, wt_ref, Nat.add_zero]
  with_reducible refine And.intro ?_ ?_
  omega
  with_reducible refine And.intro ?_ ?_
  omega
  with_reducible refine And.intro ?_ ?_
  omega
  with_reducible refine fX3_isNoCard (fun _ => ?_) (fun _ => ?_)
  simp only [eX3_isSameAs_6, kx_l, wt_nil, tl_s, Nat.add_zero]
  with_reducible refine And.intro ?_ ?_
  with_reducible refine go_S (by assumption) (fun _ _ hY => ?_)
  with_reducible exact trivial
  with_reducible refine And.intro ?_ ?_
  omega
  with_reducible refine And.intro ?_ ?_
  omega
  with_reducible refine And.intro ?_ ?_
  omega
  with_reducible refine fX3_start (by assumption) (by decide) (fun _ w1 h1 => ?_) (fun _ w1 h1 => ?_)
  with_reducible exact absurd (by assumption) n10'
  simp only [eX3_isSameAs_9, eX3_isSameAs_12, eX3_isSameAs_47, i10, if_false, kx_l, wt_nil, wt_ref, tl_s, nb_0, true_and, Nat.add_zero]
  with_reducible refine And.intro ?_ ?_
  omega
  with_reducible refine And.intro ?_ ?_
  omega
  with_reducible exact hQ _ _ _ (by assumption)
  simp only [eX3_isSameAs_6, kx_l, wt_nil, tl_s, Nat.add_zero]
  with_reducible refine And.intro ?_ ?_
  with_reducible refine go_S (by assumption) (fun _ _ hY => ?_)
  with_reducible exact trivial
  with_reducible refine And.intro ?_ ?_
  omega
  with_reducible refine And.intro ?_ ?_
  omega
  with_reducible refine And.intro ?_ ?_
  omega
  with_reducible refine fX3_start (by assumption) (by decide) (fun _ w1 h1 => ?_) (fun _ w1 h1 => ?_)
  simp only [eX3_isSameAs_9, eX3_isSameAs_12, eX3_isSameAs_47, if_true, kx_l, wt_nil, wt_ref, tl_s, nb_0, true_and, Nat.add_zero]
  with_reducible refine And.intro ?_ ?_
  omega
  with_reducible refine And.intro ?_ ?_
  omega
  with_reducible refine And.intro ?_ ?_
  omega
  with_reducible refine fX3_isIn (fun _ _ => ?_) (fun _ => ?_)
  simp only [eX3_isSameAs_19, eX3_isSameAs_22, eX3_isSameAs_26, eX3_isSameAs_27, i10, if_false, kx_l, wt_nil, tl_s, Nat.add_zero]
  with_reducible refine And.intro ?_ ?_
  with_reducible refine go_S (by assumption) (fun _ _ hY => ?_)
  with_reducible exact trivial
  with_reducible refine And.intro ?_ ?_
  omega
  with_reducible refine And.intro ?_ ?_
  omega
  with_reducible refine And.intro ?_ ?_
  omega
  with_reducible refine fX3_refuse (by assumption) (by decide) (fun _ => ?_) (fun _ w2 h2 => ?_)
  simp only [eX3_isSameAs_31, eX3_isSameAs_34, eX3_isSameAs_40, eX3_isSameAs_47, if_true, kx_l, wt_nil, wt_ref, tl_s, nb_0, true_and, Nat.add_zero]
  with_reducible refine And.intro ?_ ?_
  with_reducible refine go_S (by assumption) (fun _ _ hY => ?_)
  with_reducible exact trivial
  with_reducible refine And.intro ?_ ?_
  omega
  with_reducible refine And.intro ?_ ?_
  omega
  with_reducible refine And.intro ?_ ?_
  omega
  with_reducible refine fX3_isBare (by assumption) (by assumption) (fun _ => ?_) (fun _ _ => ?_)
  simp only [eX3_isSameAs_41, kx_l, wt_nil, tl_s, Nat.add_zero]
  with_reducible refine And.intro ?_ ?_
  with_reducible refine go_S (by assumption) (fun _ _ hY => ?_)
  with_reducible exact trivial
  with_reducible refine And.intro ?_ ?_
  omega
  with_reducible refine And.intro ?_ ?_
  omega
  with_reducible refine And.intro ?_ ?_
  omega
  with_reducible refine fX3_refuse (by assumption) (by decide) (fun _ => ?_) (fun _ w2 h2 => ?_)
  with_reducible exact absurd (by assumption) n10'
  simp only [eX3_isSameAs_44, eX3_isSameAs_47, eX3_isSameAs_49, eX3_isSameAs_54, eX3_isSameAs_59, eX3_isSameAs_64, eX3_isSameAs_68, eX3_isSameAs_81, eX3_isSameAs_85, eX3_isSameAs_86, i10, if_false, kx_l, tl_s, nb_0, nb_1, true_and]
  with_reducible refine And.intro ?_ ?_
  omega
  with_reducible refine And.intro ?_ ?_
  omega
  with_reducible exact hQ _ _ _ (by assumption)
  simp only [eX3_isSameAs_41, kx_l, wt_nil, tl_s, Nat.add_zero]
  with_reducible refine And.intro ?_ ?_
  with_reducible refine go_S (by assumption) (fun _ _ hY => ?_)
  with_reducible exact trivial
  with_reducible refine And.intro ?_ ?_
  omega
  with_reducible refine And.intro ?_ ?_
  omega
  with_reducible refine And.intro ?_ ?_
  omega
  with_reducible refine fX3_refuse (by assumption) (by decide) (fun _ => ?_) (fun _ w2 h2 => ?_)
  simp only [eX3_isSameAs_44, eX3_isSameAs_47, eX3_isSameAs_49, eX3_isSameAs_54, eX3_isSameAs_59, eX3_isSameAs_64, eX3_isSameAs_68, eX3_isSameAs_81, eX3_isSameAs_85, eX3_isSameAs_86, if_true, kx_l, tl_s, nb_0, nb_1, true_and]
  with_reducible refine itx (fun _ => ?_) (fun _ => ?_)
  with_reducible refine And.intro ?_ ?_
  omega
  with_reducible refine And.intro ?_ ?_
  omega
  with_reducible exact hQ _ _ _ (by assumption)
  with_reducible refine itx (fun _ => ?_) (fun _ => ?_)
  with_reducible refine And.intro ?_ ?_
  omega
  with_reducible refine And.intro ?_ ?_
  omega
  with_reducible exact hQ _ _ _ (by assumption)
  with_reducible refine itx (fun _ => ?_) (fun _ => ?_)
  with_reducible refine go_S (by assumption) (fun _ _ hY => ?_)
  simp only [eX3_isSameAs_69, wt_nil, g0, gS, ex1, Nat.add_zero]
  with_reducible refine And.intro ?_ ?_
  with_reducible exact MS.gC (by assumption) (by assumption)
  with_reducible refine And.intro ?_ ?_
  omega
  with_reducible refine And.intro ?_ ?_
  omega
  with_reducible refine And.intro ?_ ?_
  omega
  with_reducible refine sGetK (by assumption) (by assumption) (by assumption) (by assumption) (fun _ hb => ?_)
  simp only [eX3_isSameAs_72R, eX3_isSameAs_75R, kx_l, wt_nil, tl_s, Nat.add_zero]
  with_reducible refine And.intro ?_ ?_
  with_reducible exact rowA.ca (by assumption)
  with_reducible refine And.intro ?_ ?_
  omega
  with_reducible refine And.intro ?_ ?_
  omega
  with_reducible refine And.intro ?_ ?_
  omega
  with_reducible refine sX3_fixed (rowA.row (by assumption)) ?_ ?_
  simp only [eX3_isSameAs_78, eX3_isSameAs_81, eX3_isSameAs_85, eX3_isSameAs_86, i10, if_false, kx_l, tl_s, nb_0, nb_1, true_and]
  with_reducible refine And.intro ?_ ?_
  omega
  with_reducible refine And.intro ?_ ?_
  omega
  with_reducible exact hQ _ _ _ (by assumption)
  simp only [eX3_isSameAs_78, eX3_isSameAs_81, eX3_isSameAs_85, eX3_isSameAs_86, if_true, kx_l, tl_s, nb_0, nb_1, true_and]
  with_reducible refine And.intro ?_ ?_
  omega
  with_reducible refine And.intro ?_ ?_
  omega
  with_reducible exact hQ _ _ _ (by assumption)
  with_reducible refine And.intro ?_ ?_
  omega
  with_reducible refine And.intro ?_ ?_
  omega
  with_reducible exact hQ _ _ _ (by assumption)
  with_reducible exact n00x (by assumption)
  with_reducible exact n00x (by assumption)
  simp only [eX3_isSameAs_19, eX3_isSameAs_22, eX3_isSameAs_26, eX3_isSameAs_27, if_true, kx_l, wt_nil, tl_s, Nat.add_zero]
  with_reducible refine And.intro ?_ ?_
  with_reducible refine go_S (by assumption) (fun _ _ hY => ?_)
  with_reducible exact trivial
  with_reducible refine And.intro ?_ ?_
  omega
  with_reducible refine And.intro ?_ ?_
  omega
  with_reducible refine And.intro ?_ ?_
  omega
  with_reducible refine fX3_refuse (by assumption) (by decide) (fun _ => ?_) (fun _ w2 h2 => ?_)
  with_reducible exact absurd (by assumption) n10'
  simp only [eX3_isSameAs_31, eX3_isSameAs_34, eX3_isSameAs_40, eX3_isSameAs_47, i10, if_false, kx_l, wt_nil, wt_ref, tl_s, nb_0, true_and, Nat.add_zero]
  with_reducible refine And.intro ?_ ?_
  omega
  with_reducible refine And.intro ?_ ?_
  omega
  with_reducible exact hQ _ _ _ (by assumption)
  with_reducible exact n00x (by assumption)
set_option maxHeartbeats 4000000 in
theorem gX3_count {a0 a1 a2 : Int32} (hM : MS g w0 y nM kd th s w) (hQ : ∀ (v th' : Int32) w', MS g w0 y nM kd th' s w' → Q (.inl (some (.int v))) w') : WP (MX3_count g) Q (0, [some (.ref y), some (.int a0), some (.int a1), some (.int a2), none, none], [], w, 0, 0) := by
  simp only [eX3_count_0, eX3_count_5, wt_nil, wt_ref, Nat.add_zero]
  with_reducible refine And.intro ?_ ?_
  omega
  with_reducible refine And.intro ?_ ?_
  omega
  with_reducible refine And.intro ?_ ?_
  omega
  with_reducible refine fX3_isNoCard (fun _ => ?_) (fun _ => ?_)
  simp only [eX3_count_6, kx_l, wt_nil, tl_s, Nat.add_zero]
  with_reducible refine And.intro ?_ ?_
  with_reducible refine go_S (by assumption) (fun _ _ hY => ?_)
  with_reducible exact trivial
  with_reducible refine And.intro ?_ ?_
  omega
  with_reducible refine And.intro ?_ ?_
  omega
  with_reducible refine And.intro ?_ ?_
  omega
  with_reducible refine fX3_start (by assumption) (by decide) (fun _ w1 h1 => ?_) (fun _ w1 h1 => ?_)
  with_reducible exact absurd (by assumption) n10'
  simp only [eX3_count_9, eX3_count_12, eX3_count_48, i10, if_false, kx_l, wt_nil, wt_ref, tl_s, Nat.add_zero]
  with_reducible refine And.intro ?_ ?_
  omega
  with_reducible refine And.intro ?_ ?_
  omega
  with_reducible exact hQ _ _ _ (by assumption)
  simp only [eX3_count_6, kx_l, wt_nil, tl_s, Nat.add_zero]
  with_reducible refine And.intro ?_ ?_
  with_reducible refine go_S (by assumption) (fun _ _ hY => ?_)
  with_reducible exact trivial
  with_reducible refine And.intro ?_ ?_
  omega
  with_reducible refine And.intro ?_ ?_
  omega
  with_reducible refine And.intro ?_ ?_
  omega
  with_reducible refine fX3_start (by assumption) (by decide) (fun _ w1 h1 => ?_) (fun _ w1 h1 => ?_)
  simp only [eX3_count_9, eX3_count_12, eX3_count_48, if_true, kx_l, wt_nil, wt_ref, tl_s, Nat.add_zero]
  with_reducible refine And.intro ?_ ?_
  omega
  with_reducible refine And.intro ?_ ?_
  omega
  with_reducible refine And.intro ?_ ?_
  omega
  with_reducible refine fX3_isIn (fun _ _ => ?_) (fun _ => ?_)
  simp only [eX3_count_20, eX3_count_23, eX3_count_27, eX3_count_28, i10, if_false, kx_l, wt_nil, tl_s, Nat.add_zero]
  with_reducible refine And.intro ?_ ?_
  with_reducible refine go_S (by assumption) (fun _ _ hY => ?_)
  with_reducible exact trivial
  with_reducible refine And.intro ?_ ?_
  omega
  with_reducible refine And.intro ?_ ?_
  omega
  with_reducible refine And.intro ?_ ?_
  omega
  with_reducible refine fX3_refuse (by assumption) (by decide) (fun _ => ?_) (fun _ w2 h2 => ?_)
  simp only [eX3_count_32, eX3_count_35, eX3_count_41, eX3_count_48, if_true, kx_l, wt_nil, wt_ref, tl_s, Nat.add_zero]
  with_reducible refine And.intro ?_ ?_
  with_reducible refine go_S (by assumption) (fun _ _ hY => ?_)
  with_reducible exact trivial
  with_reducible refine And.intro ?_ ?_
  omega
  with_reducible refine And.intro ?_ ?_
  omega
  with_reducible refine And.intro ?_ ?_
  omega
  with_reducible refine fX3_isBare (by assumption) (by assumption) (fun _ => ?_) (fun _ _ => ?_)
  simp only [eX3_count_42, kx_l, wt_nil, tl_s, Nat.add_zero]
  with_reducible refine And.intro ?_ ?_
  with_reducible refine go_S (by assumption) (fun _ _ hY => ?_)
  with_reducible exact trivial
  with_reducible refine And.intro ?_ ?_
  omega
  with_reducible refine And.intro ?_ ?_
  omega
  with_reducible refine And.intro ?_ ?_
  omega
  with_reducible refine fX3_refuse (by assumption) (by decide) (fun _ => ?_) (fun _ w2 h2 => ?_)
  with_reducible exact absurd (by assumption) n10'
  simp only [eX3_count_45, eX3_count_48, eX3_count_50, i10, if_false, kx_l, nl_int, tl_s]
  with_reducible refine And.intro ?_ ?_
  omega
  with_reducible refine And.intro ?_ ?_
  omega
  with_reducible exact hQ _ _ _ (by assumption)
  simp only [eX3_count_42, kx_l, wt_nil, tl_s, Nat.add_zero]
  with_reducible refine And.intro ?_ ?_
  with_reducible refine go_S (by assumption) (fun _ _ hY => ?_)
  with_reducible exact trivial
  with_reducible refine And.intro ?_ ?_
  omega
  with_reducible refine And.intro ?_ ?_
  omega
  with_reducible refine And.intro ?_ ?_
  omega
  with_reducible refine fX3_refuse (by assumption) (by decide) (fun _ => ?_) (fun _ w2 h2 => ?_)
  simp only [eX3_count_45, eX3_count_48, eX3_count_50, if_true, kx_l, nl_int, tl_s]
  with_reducible refine gX3_count_56 (by assumption) (by assumption) (by assumption) (by assumption) (fun _ => ?_) (by first | assumption | omega) (by first | assumption | omega)
  with_reducible exact hQ _ _ _ (by assumption)
  with_reducible exact n00x (by assumption)
  with_reducible exact n00x (by assumption)
  simp only [eX3_count_20, eX3_count_23, eX3_count_27, eX3_count_28, if_true, kx_l, wt_nil, tl_s, Nat.add_zero]
  with_reducible refine And.intro ?_ ?_
  with_reducible refine go_S (by assumption) (fun _ _ hY => ?_)
  with_reducible exact trivial
  with_reducible refine And.intro ?_ ?_
  omega
  with_reducible refine And.intro ?_ ?_
  omega
  with_reducible refine And.intro ?_ ?_
  omega
  with_reducible refine fX3_refuse (by assumption) (by decide) (fun _ => ?_) (fun _ w2 h2 => ?_)
  with_reducible exact absurd (by assumption) n10'
  simp only [eX3_count_32, eX3_count_35, eX3_count_41, eX3_count_48, i10, if_false, kx_l, wt_nil, wt_ref, tl_s, Nat.add_zero]
  with_reducible refine And.intro ?_ ?_
  omega
  with_reducible refine And.intro ?_ ?_
  omega
  with_reducible exact hQ _ _ _ (by assumption)
  with_reducible exact n00x (by assumption)
set_option maxHeartbeats 4000000 in
theorem gX3_who {a0 a1 : Int32} (hM : MS g w0 y nM kd th s w) (hQ : ∀ (v th' : Int32) w', MS g w0 y nM kd th' s w' → Q (.inl (some (.int v))) w') : WP (MX3_who g) Q (0, [some (.ref y), some (.int a0), some (.int a1)], [], w, 0, 0) := by
  simp only [eX3_who_0, eX3_who_5, wt_nil, wt_ref, Nat.add_zero]
  with_reducible refine And.intro ?_ ?_
  omega
  with_reducible refine And.intro ?_ ?_
  omega
  with_reducible refine And.intro ?_ ?_
  omega
  with_reducible refine fX3_isNoNumber (fun _ => ?_) (fun _ => ?_)
  simp only [eX3_who_6, kx_l, wt_nil, tl_s, Nat.add_zero]
  with_reducible refine And.intro ?_ ?_
  with_reducible refine go_S (by assumption) (fun _ _ hY => ?_)
  with_reducible exact trivial
  with_reducible refine And.intro ?_ ?_
  omega
  with_reducible refine And.intro ?_ ?_
  omega
  with_reducible refine And.intro ?_ ?_
  omega
  with_reducible refine fX3_start (by assumption) (by decide) (fun _ w1 h1 => ?_) (fun _ w1 h1 => ?_)
  with_reducible exact absurd (by assumption) n10'
  simp only [eX3_who_9, eX3_who_12, eX3_who_34, eX3_who_44, i10, if_false, kx_l, wt_nil, wt_ref, tl_s, Nat.add_zero]
  with_reducible refine And.intro ?_ ?_
  omega
  with_reducible refine And.intro ?_ ?_
  omega
  with_reducible exact hQ _ _ _ (by assumption)
  simp only [eX3_who_6, kx_l, wt_nil, tl_s, Nat.add_zero]
  with_reducible refine And.intro ?_ ?_
  with_reducible refine go_S (by assumption) (fun _ _ hY => ?_)
  with_reducible exact trivial
  with_reducible refine And.intro ?_ ?_
  omega
  with_reducible refine And.intro ?_ ?_
  omega
  with_reducible refine And.intro ?_ ?_
  omega
  with_reducible refine fX3_start (by assumption) (by decide) (fun _ w1 h1 => ?_) (fun _ w1 h1 => ?_)
  simp only [eX3_who_9, eX3_who_12, eX3_who_34, eX3_who_44, if_true, kx_l, wt_nil, wt_ref, tl_s, Nat.add_zero]
  with_reducible refine And.intro ?_ ?_
  omega
  with_reducible refine And.intro ?_ ?_
  omega
  with_reducible refine And.intro ?_ ?_
  omega
  with_reducible refine fX3_isIn (fun _ _ => ?_) (fun _ => ?_)
  simp only [eX3_who_19, eX3_who_22, eX3_who_26, eX3_who_27, i10, if_false, kx_l, wt_nil, tl_s, Nat.add_zero]
  with_reducible refine And.intro ?_ ?_
  with_reducible refine go_S (by assumption) (fun _ _ hY => ?_)
  with_reducible exact trivial
  with_reducible refine And.intro ?_ ?_
  omega
  with_reducible refine And.intro ?_ ?_
  omega
  with_reducible refine And.intro ?_ ?_
  omega
  with_reducible refine fX3_refuse (by assumption) (by decide) (fun _ => ?_) (fun _ w2 h2 => ?_)
  simp only [eX3_who_31, eX3_who_34, eX3_who_38, eX3_who_44, if_true, kx_l, wt_nil, tl_s, Nat.add_zero]
  with_reducible refine And.intro ?_ ?_
  with_reducible refine go_S (by assumption) (fun _ _ hY => ?_)
  with_reducible exact trivial
  with_reducible refine And.intro ?_ ?_
  omega
  with_reducible refine And.intro ?_ ?_
  omega
  with_reducible refine And.intro ?_ ?_
  omega
  with_reducible refine sX3_whoNow (MS.mm (by assumption)) (And.left (by assumption : okN _)) (lt87 (And.right (by assumption : okN _))) (fun _ => ?_)
  simp only [eX3_who_44, kx_l, tl_s]
  with_reducible refine And.intro ?_ ?_
  omega
  with_reducible refine And.intro ?_ ?_
  omega
  with_reducible exact hQ _ _ _ (by assumption)
  with_reducible exact n00x (by assumption)
  simp only [eX3_who_19, eX3_who_22, eX3_who_26, eX3_who_27, if_true, kx_l, wt_nil, tl_s, Nat.add_zero]
  with_reducible refine And.intro ?_ ?_
  with_reducible refine go_S (by assumption) (fun _ _ hY => ?_)
  with_reducible exact trivial
  with_reducible refine And.intro ?_ ?_
  omega
  with_reducible refine And.intro ?_ ?_
  omega
  with_reducible refine And.intro ?_ ?_
  omega
  with_reducible refine fX3_refuse (by assumption) (by decide) (fun _ => ?_) (fun _ w2 h2 => ?_)
  with_reducible exact absurd (by assumption) n10'
  simp only [eX3_who_31, eX3_who_34, eX3_who_38, eX3_who_44, i10, if_false, kx_l, wt_nil, tl_s, Nat.add_zero]
  with_reducible refine And.intro ?_ ?_
  omega
  with_reducible refine And.intro ?_ ?_
  omega
  with_reducible exact hQ _ _ _ (by assumption)
  with_reducible exact n00x (by assumption)
set_option maxHeartbeats 4000000 in
theorem gX3_which {a0 : Int32} (hM : MS g w0 y nM kd th s w) (hQ : ∀ (v th' : Int32) w', MS g w0 y nM kd th' s w' → Q (.inl (some (.int v))) w') : WP (MX3_which g) Q (0, [some (.ref y), some (.int a0)], [], w, 0, 0) := by
  simp only [eX3_which_0, wt_nil, wt_ref, Nat.add_zero]
  with_reducible refine And.intro ?_ ?_
  omega
  with_reducible refine And.intro ?_ ?_
  omega
  with_reducible refine And.intro ?_ ?_
  omega
  with_reducible refine fX3_isIn (fun _ _ => ?_) (fun _ => ?_)
  simp only [eX3_which_7, eX3_which_10, eX3_which_14, eX3_which_15, i10, if_false, kx_l, wt_nil, tl_s, Nat.add_zero]
  with_reducible refine And.intro ?_ ?_
  with_reducible refine go_S (by assumption) (fun _ _ hY => ?_)
  with_reducible exact trivial
  with_reducible refine And.intro ?_ ?_
  omega
  with_reducible refine And.intro ?_ ?_
  omega
  with_reducible refine And.intro ?_ ?_
  omega
  with_reducible refine fX3_start (by assumption) (by decide) (fun _ w1 h1 => ?_) (fun _ w1 h1 => ?_)
  simp only [eX3_which_19, eX3_which_22, eX3_which_26, eX3_which_31, if_true, kx_l, wt_nil, tl_s, Nat.add_zero]
  with_reducible refine And.intro ?_ ?_
  with_reducible refine go_S (by assumption) (fun _ _ hY => ?_)
  with_reducible exact trivial
  with_reducible refine And.intro ?_ ?_
  omega
  with_reducible refine And.intro ?_ ?_
  omega
  with_reducible refine And.intro ?_ ?_
  omega
  with_reducible refine sX3_whichNow_ (MS.mm (by assumption)) (fun _ => ?_)
  simp only [eX3_which_31, kx_l, tl_s]
  with_reducible refine And.intro ?_ ?_
  omega
  with_reducible refine And.intro ?_ ?_
  omega
  with_reducible exact hQ _ _ _ (by assumption)
  with_reducible exact n00x (by assumption)
  simp only [eX3_which_7, eX3_which_10, eX3_which_14, eX3_which_15, if_true, kx_l, wt_nil, tl_s, Nat.add_zero]
  with_reducible refine And.intro ?_ ?_
  with_reducible refine go_S (by assumption) (fun _ _ hY => ?_)
  with_reducible exact trivial
  with_reducible refine And.intro ?_ ?_
  omega
  with_reducible refine And.intro ?_ ?_
  omega
  with_reducible refine And.intro ?_ ?_
  omega
  with_reducible refine fX3_start (by assumption) (by decide) (fun _ w1 h1 => ?_) (fun _ w1 h1 => ?_)
  with_reducible exact absurd (by assumption) n10'
  simp only [eX3_which_19, eX3_which_22, eX3_which_26, eX3_which_31, i10, if_false, kx_l, wt_nil, tl_s, Nat.add_zero]
  with_reducible refine And.intro ?_ ?_
  omega
  with_reducible refine And.intro ?_ ?_
  omega
  with_reducible exact hQ _ _ _ (by assumption)
set_option maxHeartbeats 4000000 in
theorem gX3_likes {a0 : Int32} (hM : MS g w0 y nM kd th s w) (hQ : ∀ (v th' : Int32) w', MS g w0 y nM kd th' s w' → Q (.inl (some (.int v))) w') : WP (MX3_likes g) Q (0, [some (.ref y), some (.int a0)], [], w, 0, 0) := by
  simp only [eX3_likes_0, wt_nil, Nat.add_zero]
  with_reducible refine And.intro ?_ ?_
  with_reducible refine go_S (by assumption) (fun _ _ hY => ?_)
  with_reducible exact trivial
  with_reducible refine And.intro ?_ ?_
  omega
  with_reducible refine And.intro ?_ ?_
  omega
  with_reducible refine And.intro ?_ ?_
  omega
  with_reducible refine fX3_isNone (by assumption) (fun _ w1 h1 => ?_) (fun _ _ w1 h1 => ?_) (fun _ _ _ w1 h1 => ?_)
  simp only [eX3_likes_5, eX3_likes_8, eX3_likes_12, eX3_likes_17, i10, if_false, kx_l, wt_nil, tl_s, Nat.add_zero]
  with_reducible refine And.intro ?_ ?_
  omega
  with_reducible refine And.intro ?_ ?_
  omega
  with_reducible exact hQ _ _ _ (by assumption)
  simp only [eX3_likes_5, eX3_likes_8, eX3_likes_12, eX3_likes_17, i10, if_false, kx_l, wt_nil, tl_s, Nat.add_zero]
  with_reducible refine And.intro ?_ ?_
  omega
  with_reducible refine And.intro ?_ ?_
  omega
  with_reducible exact hQ _ _ _ (by assumption)
  simp only [eX3_likes_5, eX3_likes_8, eX3_likes_12, eX3_likes_17, if_true, kx_l, wt_nil, tl_s, Nat.add_zero]
  with_reducible refine And.intro ?_ ?_
  with_reducible refine go_S (by assumption) (fun _ _ hY => ?_)
  with_reducible exact trivial
  with_reducible refine And.intro ?_ ?_
  omega
  with_reducible refine And.intro ?_ ?_
  omega
  with_reducible refine And.intro ?_ ?_
  omega
  with_reducible refine gX3_likesNow (by assumption) (by assumption) (by assumption) (fun _ => ?_)
  simp only [eX3_likes_17, kx_l, tl_s]
  with_reducible refine And.intro ?_ ?_
  omega
  with_reducible refine And.intro ?_ ?_
  omega
  with_reducible exact hQ _ _ _ (by assumption)
set_option maxHeartbeats 4000000 in
theorem gX3_howOften {a0 : Int32} (hM : MS g w0 y nM kd th s w) (hQ : ∀ (v th' : Int32) w', MS g w0 y nM kd th' s w' → Q (.inl (some (.int v))) w') : WP (MX3_howOften g) Q (0, [some (.ref y), some (.int a0)], [], w, 0, 0) := by
  simp only [eX3_howOften_0, wt_nil, Nat.add_zero]
  with_reducible refine And.intro ?_ ?_
  with_reducible refine go_S (by assumption) (fun _ _ hY => ?_)
  with_reducible exact trivial
  with_reducible refine And.intro ?_ ?_
  omega
  with_reducible refine And.intro ?_ ?_
  omega
  with_reducible refine And.intro ?_ ?_
  omega
  with_reducible refine fX3_isNone (by assumption) (fun _ w1 h1 => ?_) (fun _ _ w1 h1 => ?_) (fun _ _ _ w1 h1 => ?_)
  simp only [eX3_howOften_5, eX3_howOften_8, eX3_howOften_12, eX3_howOften_17, i10, if_false, kx_l, wt_nil, tl_s, Nat.zero_add]
  with_reducible refine And.intro ?_ ?_
  omega
  with_reducible refine And.intro ?_ ?_
  omega
  with_reducible exact hQ _ _ _ (by assumption)
  simp only [eX3_howOften_5, eX3_howOften_8, eX3_howOften_12, eX3_howOften_17, i10, if_false, kx_l, wt_nil, tl_s, Nat.zero_add]
  with_reducible refine And.intro ?_ ?_
  omega
  with_reducible refine And.intro ?_ ?_
  omega
  with_reducible exact hQ _ _ _ (by assumption)
  simp only [eX3_howOften_5, eX3_howOften_8, eX3_howOften_12, eX3_howOften_17, if_true, kx_l, wt_nil, tl_s, Nat.zero_add]
  with_reducible refine And.intro ?_ ?_
  with_reducible refine go_S (by assumption) (fun _ _ hY => ?_)
  with_reducible exact trivial
  with_reducible refine And.intro ?_ ?_
  omega
  with_reducible refine And.intro ?_ ?_
  omega
  with_reducible refine And.intro ?_ ?_
  omega
  with_reducible refine gX3_oftenNow (by assumption) (by assumption) (by assumption) (fun _ w5 h5 => ?_)
  simp only [eX3_howOften_17, kx_l, tl_s]
  with_reducible refine And.intro ?_ ?_
  omega
  with_reducible refine And.intro ?_ ?_
  omega
  with_reducible exact hQ _ _ _ (by assumption)
set_option maxHeartbeats 4000000 in
theorem gX3_pile {a0 a1 : Int32} (hM : MS g w0 y nM kd th s w) (hQ : ∀ (v th' : Int32) w', MS g w0 y nM kd th' s w' → Q (.inl (some (.int v))) w') : WP (MX3_pile g) Q (0, [some (.ref y), some (.int a0), some (.int a1)], [], w, 0, 0) := by
  simp only [eX3_pile_0, eX3_pile_5, wt_nil, wt_ref, Nat.add_zero]
  with_reducible refine And.intro ?_ ?_
  omega
  with_reducible refine And.intro ?_ ?_
  omega
  with_reducible refine And.intro ?_ ?_
  omega
  with_reducible refine fX3_isNoNumber (fun _ => ?_) (fun _ => ?_)
  simp only [eX3_pile_6, kx_l, wt_nil, tl_s, Nat.add_zero]
  with_reducible refine And.intro ?_ ?_
  with_reducible refine go_S (by assumption) (fun _ _ hY => ?_)
  with_reducible exact trivial
  with_reducible refine And.intro ?_ ?_
  omega
  with_reducible refine And.intro ?_ ?_
  omega
  with_reducible refine And.intro ?_ ?_
  omega
  with_reducible refine fX3_start (by assumption) (by decide) (fun _ w1 h1 => ?_) (fun _ w1 h1 => ?_)
  with_reducible exact absurd (by assumption) n10'
  simp only [eX3_pile_9, eX3_pile_12, eX3_pile_34, eX3_pile_44, i10, if_false, kx_l, wt_nil, wt_ref, tl_s, Nat.add_zero]
  with_reducible refine And.intro ?_ ?_
  omega
  with_reducible refine And.intro ?_ ?_
  omega
  with_reducible exact hQ _ _ _ (by assumption)
  simp only [eX3_pile_6, kx_l, wt_nil, tl_s, Nat.add_zero]
  with_reducible refine And.intro ?_ ?_
  with_reducible refine go_S (by assumption) (fun _ _ hY => ?_)
  with_reducible exact trivial
  with_reducible refine And.intro ?_ ?_
  omega
  with_reducible refine And.intro ?_ ?_
  omega
  with_reducible refine And.intro ?_ ?_
  omega
  with_reducible refine fX3_start (by assumption) (by decide) (fun _ w1 h1 => ?_) (fun _ w1 h1 => ?_)
  simp only [eX3_pile_9, eX3_pile_12, eX3_pile_34, eX3_pile_44, if_true, kx_l, wt_nil, wt_ref, tl_s, Nat.add_zero]
  with_reducible refine And.intro ?_ ?_
  omega
  with_reducible refine And.intro ?_ ?_
  omega
  with_reducible refine And.intro ?_ ?_
  omega
  with_reducible refine fX3_isIn (fun _ _ => ?_) (fun _ => ?_)
  simp only [eX3_pile_19, eX3_pile_22, eX3_pile_26, eX3_pile_27, i10, if_false, kx_l, wt_nil, tl_s, Nat.add_zero]
  with_reducible refine And.intro ?_ ?_
  with_reducible refine go_S (by assumption) (fun _ _ hY => ?_)
  with_reducible exact trivial
  with_reducible refine And.intro ?_ ?_
  omega
  with_reducible refine And.intro ?_ ?_
  omega
  with_reducible refine And.intro ?_ ?_
  omega
  with_reducible refine fX3_refuse (by assumption) (by decide) (fun _ => ?_) (fun _ w2 h2 => ?_)
  simp only [eX3_pile_31, eX3_pile_34, eX3_pile_38, eX3_pile_44, if_true, kx_l, wt_nil, tl_s, Nat.zero_add]
  with_reducible refine And.intro ?_ ?_
  with_reducible refine go_S (by assumption) (fun _ _ hY => ?_)
  with_reducible exact trivial
  with_reducible refine And.intro ?_ ?_
  omega
  with_reducible refine And.intro ?_ ?_
  omega
  with_reducible refine And.intro ?_ ?_
  omega
  with_reducible refine sX3_pileNowM (MS.mm (by assumption)) (And.left (by assumption : okN _)) (lt87 (And.right (by assumption : okN _))) (by assumption) (by assumption) (fun _ w5 k5 => ?_)
  simp only [eX3_pile_44, kx_l, tl_s]
  with_reducible refine And.intro ?_ ?_
  omega
  with_reducible refine And.intro ?_ ?_
  omega
  with_reducible exact hQ _ _ _ (MS.ext (by assumption) (by assumption))
  with_reducible exact n00x (by assumption)
  simp only [eX3_pile_19, eX3_pile_22, eX3_pile_26, eX3_pile_27, if_true, kx_l, wt_nil, tl_s, Nat.add_zero]
  with_reducible refine And.intro ?_ ?_
  with_reducible refine go_S (by assumption) (fun _ _ hY => ?_)
  with_reducible exact trivial
  with_reducible refine And.intro ?_ ?_
  omega
  with_reducible refine And.intro ?_ ?_
  omega
  with_reducible refine And.intro ?_ ?_
  omega
  with_reducible refine fX3_refuse (by assumption) (by decide) (fun _ => ?_) (fun _ w2 h2 => ?_)
  with_reducible exact absurd (by assumption) n10'
  simp only [eX3_pile_31, eX3_pile_34, eX3_pile_38, eX3_pile_44, i10, if_false, kx_l, wt_nil, tl_s, Nat.zero_add]
  with_reducible refine And.intro ?_ ?_
  omega
  with_reducible refine And.intro ?_ ?_
  omega
  with_reducible exact hQ _ _ _ (by assumption)
  with_reducible exact n00x (by assumption)
set_option maxHeartbeats 4000000 in
theorem gX3_house {a0 : Int32} (hM : MS g w0 y nM kd th s w) (hQ : ∀ (v th' : Int32) w', MS g w0 y nM kd th' s w' → Q (.inl (some (.int v))) w') : WP (MX3_house g) Q (0, [some (.ref y), some (.int a0)], [], w, 0, 0) := by
  repeat' first
    | with_reducible assumption
    | with_reducible refine And.intro ?_ ?_
    | with_reducible exact vpi6 (by assumption) (by assumption)
    | with_reducible exact vpi8 (by assumption) (by assumption)
    | with_reducible exact trivial
    | with_reducible exact absurd (by assumption) n10'
    | with_reducible exact n00x (by assumption)
    | with_reducible refine fX3_isNone (by assumption) (fun _ w1 h1 => ?_) (fun _ _ w1 h1 => ?_) (fun _ _ _ w1 h1 => ?_)
    | with_reducible refine fX3_isNoEnd_ (by assumption) (fun _ w1 h1 => ?_) (fun _ _ w1 h1 => ?_) (fun _ _ _ w1 h1 => ?_) (fun _ _ _ _ w1 h1 => ?_)
    | with_reducible refine sX3_whichNow (rowA.row (by assumption)) (fun _ => ?_)
    | with_reducible refine sX3_aroundNow (rowA.row (by assumption)) (And.left (by assumption : okW _ 3)) (And.right (by assumption : okW _ 3)) (fun _ => ?_)
    | with_reducible refine sX3_whoNow (MS.mm (by assumption)) (And.left (by assumption : okN _)) (lt87 (And.right (by assumption : okN _))) (fun _ => ?_)
    | with_reducible refine sX3_whichNow_ (MS.mm (by assumption)) (fun _ => ?_)
    | with_reducible refine gX3_likesNow (by assumption) (by assumption) (by assumption) (fun _ => ?_)
    | with_reducible refine gX3_oftenNow (by assumption) (by assumption) (by assumption) (fun _ w5 h5 => ?_)
    | with_reducible refine sX3_pileNowM (MS.mm (by assumption)) (And.left (by assumption : okN _)) (lt87 (And.right (by assumption : okN _))) (by assumption) (by assumption) (fun _ w5 k5 => ?_)
    | with_reducible refine sX3_houseNow (MS.mm (by assumption)) (by assumption) (by assumption) (fun _ w5 k5 => ?_)
    | with_reducible exact hQ _ _ _ (MS.ext (by assumption) (by assumption))
    | with_reducible refine sX3_fixed (rowA.row (by assumption)) ?_ ?_
    | with_reducible refine gX3_count_56 (by assumption) (by assumption) (by assumption) (by assumption) (fun _ => ?_) (by first | assumption | omega) (by first | assumption | omega)
    | with_reducible exact hQ _ _ _ (by assumption)
    | with_reducible refine fX3_isNoNumber (fun _ => ?_) (fun _ => ?_)
    | with_reducible refine fX3_isNoCard (fun _ => ?_) (fun _ => ?_)
    | with_reducible refine fX3_isNoEnd (fun _ => ?_) (fun _ => ?_)
    | with_reducible refine fX3_isIn (fun _ _ => ?_) (fun _ => ?_)
    | with_reducible refine fX3_start (by assumption) (by decide) (fun _ w1 h1 => ?_) (fun _ w1 h1 => ?_)
    | with_reducible refine fX3_refuse (by assumption) (by decide) (fun _ => ?_) (fun _ w2 h2 => ?_)
    | with_reducible refine go_S (by assumption) (fun _ _ hY => ?_)
    | with_reducible refine fX3_isBare (by assumption) (by assumption) (fun _ => ?_) (fun _ _ => ?_)
    | with_reducible exact MS.gC (by assumption) (by assumption)
    | with_reducible exact MS.gP (by assumption) (by assumption)
    | (simp only [rv0, rv1, rv2, rv3])
    | with_reducible refine sGetK (by assumption) (by assumption) (by assumption) (by assumption) (fun _ hb => ?_)
    | with_reducible exact rowA.ca (by assumption)
    | with_reducible refine gl_A (by assumption) ?_
    | with_reducible exact vpi4.1
    | with_reducible exact vpi4.2.1
    | with_reducible exact vpi4.2.2.1
    | with_reducible exact vpi4.2.2.2
    | simp only [eX3_house_0, eX3_house_0N, eX3_house_1, eX3_house_7, eX3_house_10, eX3_house_14, eX3_house_15, eX3_house_19, eX3_house_22, eX3_house_26, eX3_house_26N, eX3_house_27, eX3_house_31, lgp, lgn, lgz, i10, i00, if_true, if_false, eq_self, not_true, not_false_eq_true, m10, n4e, upw2q, rv0, rv1, rv2, rv3, lmi, lmx, ite_le, n45, n54, true_or, or_true, false_or, or_false, false_and, and_false, kx_l, kx_r, go_s, gl_s, gi_s, gb_s2, gb_s3, gq_s, wt_nil, wt_int, wt_long, wt_ref, wt_null, nl_int, nl_long, nl_ref, nl_null, nl_none, rf_n, rf_s, rf_st, tl_s, tl_n, g0, gS, ex1, nb_b, nb_0, nb_1, nf_i, nf_l, nf_ra, nf_ro, nf_na, nf_no, nf_b0, nf_z0, t45_4, t45_5, true_and, and_true, List.set_cons_zero, List.set_cons_succ, List.length_cons, List.length_nil, rd_s, upw_s, ne_eq, not_false_eq_true, Nat.zero_add, Nat.add_zero]
    | with_reducible refine itx (fun _ => ?_) (fun _ => ?_)
    | split
    | with_reducible intro _
    | omega
set_option maxHeartbeats 8000000 in
theorem gX3_numberText {a : Int32} (hM : MS g w0 y nM kd th s w) (hS : SG g) (hD : DG g w0) (hT : TXT g w0) (hQ : ∀ (q : Nat) (th' : Int32) w', MS g w0 y nM kd th' s w' → Q (.inl (some (.ref q))) w') : WP (MX3_numberText g) Q (0, [some (.ref y), some (.int a)], [], w, 0, 0) := by
  obtain ⟨⟨s1, t1, o1, b1⟩, ⟨s2, t2⟩, s3, t3, o3, b3⟩ := hT
  have z0 : (0 : Int32).toInt = 0 := rfl
  simp only [eX3_numberText_0, eX3_numberText_5, wt_nil, wt_ref, Nat.add_zero]
  with_reducible refine And.intro ?_ ?_
  omega
  with_reducible refine And.intro ?_ ?_
  omega
  with_reducible refine And.intro ?_ ?_
  omega
  with_reducible refine fX3_isNoNumber (fun _ => ?_) (fun _ => ?_)
  simp only [eX3_numberText_6, kx_l, wt_nil, tl_s, Nat.add_zero]
  with_reducible refine And.intro ?_ ?_
  with_reducible refine go_S (by assumption) (fun _ _ hY => ?_)
  with_reducible exact trivial
  with_reducible refine And.intro ?_ ?_
  omega
  with_reducible refine And.intro ?_ ?_
  omega
  with_reducible refine And.intro ?_ ?_
  omega
  with_reducible refine fX3_start (by assumption) (by decide) (fun _ w1 h1 => ?_) (fun _ w1 h1 => ?_)
  with_reducible exact absurd (by assumption) n10'
  simp only [eX3_numberText_9, eX3_numberText_12, eX3_numberText_17, eX3_numberText_20R, eX3_numberText_24, eX3_numberText_41, kx_l, wt_nil, wt_ref, tl_s, Nat.zero_add, Nat.add_zero, if_false, m10, t1]
  with_reducible refine And.intro ?_ ?_
  omega
  with_reducible refine And.intro ?_ ?_
  omega
  with_reducible exact hQ _ _ _ (by assumption)
  simp only [eX3_numberText_6, kx_l, wt_nil, tl_s, Nat.add_zero]
  with_reducible refine And.intro ?_ ?_
  with_reducible refine go_S (by assumption) (fun _ _ hY => ?_)
  with_reducible exact trivial
  with_reducible refine And.intro ?_ ?_
  omega
  with_reducible refine And.intro ?_ ?_
  omega
  with_reducible refine And.intro ?_ ?_
  omega
  with_reducible refine fX3_start (by assumption) (by decide) (fun _ w1 h1 => ?_) (fun _ w1 h1 => ?_)
  simp only [eX3_numberText_9, eX3_numberText_12, eX3_numberText_17, eX3_numberText_20R, eX3_numberText_24, eX3_numberText_41, kx_l, wt_nil, wt_ref, tl_s, Nat.zero_add, Nat.add_zero, if_true, t1]
  with_reducible refine And.intro ?_ ?_
  omega
  with_reducible refine And.intro ?_ ?_
  omega
  with_reducible intro _
  with_reducible intro _
  with_reducible refine And.intro ?_ ?_
  omega
  with_reducible refine And.intro ?_ ?_
  omega
  with_reducible refine And.intro ?_ ?_
  omega
  with_reducible refine sJ4_init_da8c8 hS (ext_up2 ext.rf (by assumption)) (upw_s _ _ _) (rd_none (by assumption)) (rd_ro (by assumption)) (fun _ _ _ => ?_)
  simp only [eX3_numberText_26R, eX3_numberText_29, eX3_numberText_33, kx_l, wt_nil, tl_n]
  with_reducible refine And.intro ?_ ?_
  with_reducible exact TS.g1 (by assumption)
  with_reducible refine And.intro ?_ ?_
  omega
  with_reducible refine And.intro ?_ ?_
  omega
  with_reducible refine And.intro ?_ ?_
  omega
  with_reducible refine sJ4_append_15ec4 hS (by assumption) (by first | assumption | decide) (by omega) (STO.fm (by assumption) (MS.mm (by assumption))) (by assumption) (fun _ _ _ _ _ _ _ _ => ?_)
  simp only [kx_l, tl_s]
  with_reducible refine go_S (MS.ts (by assumption) (by assumption)) (fun _ _ hY => ?_)
  simp only [eX3_numberText_34, eX3_numberText_35, wt_nil, g0, gS, ex1]
  with_reducible refine gl_S (MS.ts (by assumption) (by assumption)) ?_
  with_reducible refine And.intro ?_ ?_
  with_reducible exact vpi8k (by assumption)
  with_reducible refine And.intro ?_ ?_
  with_reducible exact TS.g1 (by assumption)
  with_reducible refine And.intro ?_ ?_
  omega
  with_reducible refine And.intro ?_ ?_
  omega
  with_reducible refine And.intro ?_ ?_
  omega
  with_reducible refine sJ4_append_f7089 hS (by assumption) (by first | assumption | decide) (by omega) (DG.fm hD (MS.mm (by assumption))) (fun _ _ _ _ _ _ _ _ => ?_)
  simp only [eX3_numberText_38, kx_l, wt_nil, tl_s]
  with_reducible refine And.intro ?_ ?_
  with_reducible exact TS.g1 (by assumption)
  with_reducible refine And.intro ?_ ?_
  omega
  with_reducible refine And.intro ?_ ?_
  omega
  with_reducible refine And.intro ?_ ?_
  omega
  with_reducible refine sJ4_toString_0e30d hS (by assumption) (by first | decide | omega) (by omega) (fun _ _ _ => ?_)
  simp only [eX3_numberText_41, kx_l, tl_s]
  with_reducible refine And.intro ?_ ?_
  omega
  with_reducible refine And.intro ?_ ?_
  omega
  with_reducible exact hQ _ _ _ (msEx2 (by assumption) (by assumption))
  with_reducible exact n00x (by assumption)
set_option maxHeartbeats 8000000 in
theorem gX3_cardText {a : Int32} (hM : MS g w0 y nM kd th s w) (hS : SG g) (hD : DG g w0) (hT : TXT g w0) (hQ : ∀ (q : Nat) (th' : Int32) w', MS g w0 y nM kd th' s w' → Q (.inl (some (.ref q))) w') : WP (MX3_cardText g) Q (0, [some (.ref y), some (.int a), none], [], w, 0, 0) := by
  obtain ⟨⟨s1, t1, o1, b1⟩, ⟨s2, t2⟩, s3, t3, o3, b3⟩ := hT
  have z0 : (0 : Int32).toInt = 0 := rfl
  simp only [eX3_cardText_0, eX3_cardText_5, wt_nil, wt_ref, Nat.add_zero]
  with_reducible refine And.intro ?_ ?_
  omega
  with_reducible refine And.intro ?_ ?_
  omega
  with_reducible refine And.intro ?_ ?_
  omega
  with_reducible refine fX3_isNoCard (fun _ => ?_) (fun _ => ?_)
  simp only [eX3_cardText_6, kx_l, wt_nil, tl_s, Nat.add_zero]
  with_reducible refine And.intro ?_ ?_
  with_reducible refine go_S (by assumption) (fun _ _ hY => ?_)
  with_reducible exact trivial
  with_reducible refine And.intro ?_ ?_
  omega
  with_reducible refine And.intro ?_ ?_
  omega
  with_reducible refine And.intro ?_ ?_
  omega
  with_reducible refine fX3_start (by assumption) (by decide) (fun _ w1 h1 => ?_) (fun _ w1 h1 => ?_)
  with_reducible exact absurd (by assumption) n10'
  simp only [eX3_cardText_9, eX3_cardText_12, eX3_cardText_14, eX3_cardText_15, kx_l, wt_nil, tl_s, Nat.add_zero, if_false, m10, t1]
  with_reducible refine And.intro ?_ ?_
  omega
  with_reducible refine And.intro ?_ ?_
  omega
  with_reducible exact hQ _ _ _ (by assumption)
  simp only [eX3_cardText_6, kx_l, wt_nil, tl_s, Nat.add_zero]
  with_reducible refine And.intro ?_ ?_
  with_reducible refine go_S (by assumption) (fun _ _ hY => ?_)
  with_reducible exact trivial
  with_reducible refine And.intro ?_ ?_
  omega
  with_reducible refine And.intro ?_ ?_
  omega
  with_reducible refine And.intro ?_ ?_
  omega
  with_reducible refine fX3_start (by assumption) (by decide) (fun _ w1 h1 => ?_) (fun _ w1 h1 => ?_)
  simp only [eX3_cardText_9, eX3_cardText_12, eX3_cardText_14, eX3_cardText_15, kx_l, wt_nil, tl_s, Nat.add_zero, if_true, t1]
  with_reducible refine And.intro ?_ ?_
  with_reducible refine go_S (by assumption) (fun _ _ hY => ?_)
  with_reducible exact trivial
  with_reducible refine And.intro ?_ ?_
  omega
  with_reducible refine And.intro ?_ ?_
  omega
  with_reducible refine And.intro ?_ ?_
  omega
  with_reducible refine fX3_isBare (by assumption) (by assumption) (fun _ => ?_) (fun _ _ => ?_)
  simp only [eX3_cardText_20, eX3_cardText_23, eX3_cardText_25, eX3_cardText_26, eX3_cardText_30, kx_l, tl_s, if_false, m10, t2]
  with_reducible refine And.intro ?_ ?_
  omega
  with_reducible refine And.intro ?_ ?_
  omega
  with_reducible exact hQ _ _ _ (by assumption)
  simp only [eX3_cardText_20, eX3_cardText_23, eX3_cardText_25, eX3_cardText_26, eX3_cardText_30, kx_l, tl_s, if_true, t2]
  with_reducible refine go_S (by assumption) (fun _ _ hY => ?_)
  simp only [eX3_cardText_31, wt_nil, g0, gS, ex1, Nat.add_zero]
  with_reducible refine And.intro ?_ ?_
  with_reducible exact MS.gC (by assumption) (by assumption)
  with_reducible refine And.intro ?_ ?_
  omega
  with_reducible refine And.intro ?_ ?_
  omega
  with_reducible refine And.intro ?_ ?_
  omega
  with_reducible refine sGetK (by assumption) (by assumption) (by assumption) (by assumption) (fun _ hb => ?_)
  simp only [eX3_cardText_34R, eX3_cardText_37, eX3_cardText_41R, eX3_cardText_45, kx_l, wt_nil, wt_ref, nl_int, tl_s, Nat.zero_add, Nat.add_zero]
  with_reducible refine And.intro ?_ ?_
  with_reducible exact rowA.ca (by assumption)
  with_reducible refine And.intro ?_ ?_
  omega
  with_reducible refine And.intro ?_ ?_
  omega
  with_reducible intro _
  with_reducible intro _
  with_reducible refine And.intro ?_ ?_
  omega
  with_reducible refine And.intro ?_ ?_
  omega
  with_reducible refine And.intro ?_ ?_
  omega
  with_reducible refine sJ4_init_da8c8 hS (ext_up2 ext.rf (by assumption)) (upw_s _ _ _) (rd_none (by assumption)) (rd_ro (by assumption)) (fun _ _ _ => ?_)
  simp only [eX3_cardText_48, eX3_cardText_51, kx_l, wt_nil, tl_n, t3]
  with_reducible refine gl_A (rowA.ts (by assumption) (by assumption)) ?_
  with_reducible refine And.intro ?_ ?_
  with_reducible exact vpi4.1
  with_reducible refine And.intro ?_ ?_
  with_reducible exact TS.g1 (by assumption)
  with_reducible refine And.intro ?_ ?_
  omega
  with_reducible refine And.intro ?_ ?_
  omega
  with_reducible refine And.intro ?_ ?_
  omega
  with_reducible refine sJ4_append_f7089 hS (by assumption) (by first | assumption | decide) (by omega) (DG.fm hD (MS.mm (by assumption))) (fun _ _ _ _ _ _ _ _ => ?_)
  simp only [eX3_cardText_53R, eX3_cardText_56, kx_l, wt_nil, tl_s]
  with_reducible refine And.intro ?_ ?_
  with_reducible exact TS.g1 (by assumption)
  with_reducible refine And.intro ?_ ?_
  omega
  with_reducible refine And.intro ?_ ?_
  omega
  with_reducible refine And.intro ?_ ?_
  omega
  with_reducible refine sJ4_append_15ec4 hS (by assumption) (by first | assumption | decide) (by omega) (STO.fm (by assumption) (MS.mm (by assumption))) (by assumption) (fun _ _ _ _ _ _ _ _ => ?_)
  simp only [eX3_cardText_59, eX3_cardText_62, kx_l, wt_nil, tl_s, t3]
  with_reducible refine gl_A (rowA.ts (by assumption) (by assumption)) ?_
  with_reducible refine And.intro ?_ ?_
  with_reducible exact vpi4.2.1
  with_reducible refine And.intro ?_ ?_
  with_reducible exact TS.g1 (by assumption)
  with_reducible refine And.intro ?_ ?_
  omega
  with_reducible refine And.intro ?_ ?_
  omega
  with_reducible refine And.intro ?_ ?_
  omega
  with_reducible refine sJ4_append_f7089 hS (by assumption) (by first | assumption | decide) (by omega) (DG.fm hD (MS.mm (by assumption))) (fun _ _ _ _ _ _ _ _ => ?_)
  simp only [eX3_cardText_64R, eX3_cardText_67, kx_l, wt_nil, tl_s]
  with_reducible refine And.intro ?_ ?_
  with_reducible exact TS.g1 (by assumption)
  with_reducible refine And.intro ?_ ?_
  omega
  with_reducible refine And.intro ?_ ?_
  omega
  with_reducible refine And.intro ?_ ?_
  omega
  with_reducible refine sJ4_append_15ec4 hS (by assumption) (by first | assumption | decide) (by omega) (STO.fm (by assumption) (MS.mm (by assumption))) (by assumption) (fun _ _ _ _ _ _ _ _ => ?_)
  simp only [eX3_cardText_70, eX3_cardText_73, kx_l, wt_nil, tl_s, t3]
  with_reducible refine gl_A (rowA.ts (by assumption) (by assumption)) ?_
  with_reducible refine And.intro ?_ ?_
  with_reducible exact vpi4.2.2.1
  with_reducible refine And.intro ?_ ?_
  with_reducible exact TS.g1 (by assumption)
  with_reducible refine And.intro ?_ ?_
  omega
  with_reducible refine And.intro ?_ ?_
  omega
  with_reducible refine And.intro ?_ ?_
  omega
  with_reducible refine sJ4_append_f7089 hS (by assumption) (by first | assumption | decide) (by omega) (DG.fm hD (MS.mm (by assumption))) (fun _ _ _ _ _ _ _ _ => ?_)
  simp only [eX3_cardText_75R, eX3_cardText_78, kx_l, wt_nil, tl_s]
  with_reducible refine And.intro ?_ ?_
  with_reducible exact TS.g1 (by assumption)
  with_reducible refine And.intro ?_ ?_
  omega
  with_reducible refine And.intro ?_ ?_
  omega
  with_reducible refine And.intro ?_ ?_
  omega
  with_reducible refine sJ4_append_15ec4 hS (by assumption) (by first | assumption | decide) (by omega) (STO.fm (by assumption) (MS.mm (by assumption))) (by assumption) (fun _ _ _ _ _ _ _ _ => ?_)
  simp only [eX3_cardText_81, kx_l, wt_nil, tl_s]
  with_reducible refine gl_A (rowA.ts (by assumption) (by assumption)) ?_
  with_reducible refine And.intro ?_ ?_
  with_reducible exact vpi4.2.2.2
  with_reducible refine And.intro ?_ ?_
  with_reducible exact TS.g1 (by assumption)
  with_reducible refine And.intro ?_ ?_
  omega
  with_reducible refine And.intro ?_ ?_
  omega
  with_reducible refine And.intro ?_ ?_
  omega
  with_reducible refine sJ4_append_f7089 hS (by assumption) (by first | assumption | decide) (by omega) (DG.fm hD (MS.mm (by assumption))) (fun _ _ _ _ _ _ _ _ => ?_)
  simp only [eX3_cardText_84, kx_l, wt_nil, tl_s]
  with_reducible refine And.intro ?_ ?_
  with_reducible exact TS.g1 (by assumption)
  with_reducible refine And.intro ?_ ?_
  omega
  with_reducible refine And.intro ?_ ?_
  omega
  with_reducible refine And.intro ?_ ?_
  omega
  with_reducible refine sJ4_toString_0e30d hS (by assumption) (by first | decide | omega) (by omega) (fun _ _ _ => ?_)
  simp only [eX3_cardText_87, kx_l, tl_s]
  with_reducible refine And.intro ?_ ?_
  omega
  with_reducible refine And.intro ?_ ?_
  omega
  with_reducible exact hQ _ _ _ (msEx2 (by assumption) (by assumption))
  with_reducible exact n00x (by assumption)
end
end
/-! 75.mfc.lean.txt -/
section
section
variable {g : RO} {Q : Ot → Hw → Prop} {w0 w : Hw} {y nM : Nat} {kd th : Int32} {s : AS}
set_option maxHeartbeats 4000000 in
theorem fX1_init {x : Nat} (hx : w x = some (.inr (5, [.null, .null, .null, .int 0, .int 0, .int 0, .int 0]))) (hQ : ∀ (w' : Hw) (nA cA lA : Nat), RF w' x nA cA lA 0 S00 → (∀ (a : Nat) (o : Ob), w a = some o → a ≠ x → w' a = some o) → (∀ (a : Nat) (o : Ob), g.2 a = some o → w a = none → w' a = none) → w nA = none → Q (.inl none) w') : WP (MX1_init g) Q (0, [some (.ref x)], [], w, 0, 0) := by
  have fr : ∀ {w1 : Hw} {q : Nat} {o : Ob}, rd g w1 q = none → w1 x = some o → x ≠ q := fun h h2 e => by
    subst e
    have h3 := rd_none h
    rw [h2] at h3
    cases h3
  simp only [eX1_init_0, eX1_init_0N, eX1_init_1, eX1_init_4, eX1_init_4N, eX1_init_5, eX1_init_9, eX1_init_12, eX1_init_12N, eX1_init_13, eX1_init_18, eX1_init_21, eX1_init_21N, eX1_init_22, eX1_init_27, eX1_init_30, eX1_init_30N, eX1_init_31, eX1_init_35, eX1_init_35N, eX1_init_36, eX1_init_40, eX1_init_40N, eX1_init_41, eX1_init_45, eX1_init_45N, eX1_init_46, eX1_init_50, ite_le, n45, n54, true_or, or_true, false_or, or_false, false_and, and_false, kx_l, kx_r, go_s, gl_s, gi_s, gb_s2, gb_s3, gq_s, wt_nil, wt_int, wt_long, wt_ref, wt_null, nl_int, nl_long, nl_ref, nl_null, nl_none, rf_n, rf_s, rf_st, tl_s, tl_n, g0, gS, ex1, nb_b, nb_0, nb_1, nf_i, nf_l, nf_ra, nf_ro, nf_na, nf_no, nf_b0, nf_z0, t45_4, t45_5, true_and, and_true, List.set_cons_zero, List.set_cons_succ, List.length_cons, List.length_nil, rd_s, upw_s, ne_eq, not_false_eq_true, Nat.zero_add, Nat.add_zero, tyX1, i8, i6, i12, n8, n6, n12', upw_n, hx]
  repeat' first | with_reducible refine And.intro ?_ ?_ | omega
  intro q1 hq1
  have d1 : x ≠ q1 := fr hq1 hx
  simp only [eX1_init_0, eX1_init_0N, eX1_init_1, eX1_init_4, eX1_init_4N, eX1_init_5, eX1_init_9, eX1_init_12, eX1_init_12N, eX1_init_13, eX1_init_18, eX1_init_21, eX1_init_21N, eX1_init_22, eX1_init_27, eX1_init_30, eX1_init_30N, eX1_init_31, eX1_init_35, eX1_init_35N, eX1_init_36, eX1_init_40, eX1_init_40N, eX1_init_41, eX1_init_45, eX1_init_45N, eX1_init_46, eX1_init_50, ite_le, n45, n54, true_or, or_true, false_or, or_false, false_and, and_false, kx_l, kx_r, go_s, gl_s, gi_s, gb_s2, gb_s3, gq_s, wt_nil, wt_int, wt_long, wt_ref, wt_null, nl_int, nl_long, nl_ref, nl_null, nl_none, rf_n, rf_s, rf_st, tl_s, tl_n, g0, gS, ex1, nb_b, nb_0, nb_1, nf_i, nf_l, nf_ra, nf_ro, nf_na, nf_no, nf_b0, nf_z0, t45_4, t45_5, true_and, and_true, List.set_cons_zero, List.set_cons_succ, List.length_cons, List.length_nil, rd_s, upw_s, ne_eq, not_false_eq_true, Nat.zero_add, Nat.add_zero, tyX1, i8, i6, i12, n8, n6, n12', upw_n, hx, d1]
  repeat' first | with_reducible refine And.intro ?_ ?_ | omega
  intro q2 hq2
  obtain ⟨e1, hq2⟩ := rd_up hq2
  obtain ⟨d2, hq2⟩ := rd_up hq2
  have d3 : x ≠ q2 := fun e => e1 e.symm
  simp only [eX1_init_0, eX1_init_0N, eX1_init_1, eX1_init_4, eX1_init_4N, eX1_init_5, eX1_init_9, eX1_init_12, eX1_init_12N, eX1_init_13, eX1_init_18, eX1_init_21, eX1_init_21N, eX1_init_22, eX1_init_27, eX1_init_30, eX1_init_30N, eX1_init_31, eX1_init_35, eX1_init_35N, eX1_init_36, eX1_init_40, eX1_init_40N, eX1_init_41, eX1_init_45, eX1_init_45N, eX1_init_46, eX1_init_50, ite_le, n45, n54, true_or, or_true, false_or, or_false, false_and, and_false, kx_l, kx_r, go_s, gl_s, gi_s, gb_s2, gb_s3, gq_s, wt_nil, wt_int, wt_long, wt_ref, wt_null, nl_int, nl_long, nl_ref, nl_null, nl_none, rf_n, rf_s, rf_st, tl_s, tl_n, g0, gS, ex1, nb_b, nb_0, nb_1, nf_i, nf_l, nf_ra, nf_ro, nf_na, nf_no, nf_b0, nf_z0, t45_4, t45_5, true_and, and_true, List.set_cons_zero, List.set_cons_succ, List.length_cons, List.length_nil, rd_s, upw_s, ne_eq, not_false_eq_true, Nat.zero_add, Nat.add_zero, tyX1, i8, i6, i12, n8, n6, n12', upw_n, hx, d1, d2, d3]
  repeat' first | with_reducible refine And.intro ?_ ?_ | omega
  intro q3 hq3
  obtain ⟨e2, hq3⟩ := rd_up hq3
  obtain ⟨d4, hq3⟩ := rd_up hq3
  obtain ⟨-, hq3⟩ := rd_up hq3
  obtain ⟨d5, hq3⟩ := rd_up hq3
  have d6 : x ≠ q3 := fun e => e2 e.symm
  have d7 : q1 ≠ x := fun e => d1 e.symm
  have d8 : q1 ≠ q2 := fun e => d2 e.symm
  have d9 : q1 ≠ q3 := fun e => d5 e.symm
  have d10 : q2 ≠ q3 := fun e => d4 e.symm
  simp only [eX1_init_0, eX1_init_0N, eX1_init_1, eX1_init_4, eX1_init_4N, eX1_init_5, eX1_init_9, eX1_init_12, eX1_init_12N, eX1_init_13, eX1_init_18, eX1_init_21, eX1_init_21N, eX1_init_22, eX1_init_27, eX1_init_30, eX1_init_30N, eX1_init_31, eX1_init_35, eX1_init_35N, eX1_init_36, eX1_init_40, eX1_init_40N, eX1_init_41, eX1_init_45, eX1_init_45N, eX1_init_46, eX1_init_50, ite_le, n45, n54, true_or, or_true, false_or, or_false, false_and, and_false, kx_l, kx_r, go_s, gl_s, gi_s, gb_s2, gb_s3, gq_s, wt_nil, wt_int, wt_long, wt_ref, wt_null, nl_int, nl_long, nl_ref, nl_null, nl_none, rf_n, rf_s, rf_st, tl_s, tl_n, g0, gS, ex1, nb_b, nb_0, nb_1, nf_i, nf_l, nf_ra, nf_ro, nf_na, nf_no, nf_b0, nf_z0, t45_4, t45_5, true_and, and_true, List.set_cons_zero, List.set_cons_succ, List.length_cons, List.length_nil, rd_s, upw_s, ne_eq, not_false_eq_true, Nat.zero_add, Nat.add_zero, tyX1, i8, i6, i12, n8, n6, n12', upw_n, hx, d1, d2, d3, d4, d5, d6]
  repeat' first | with_reducible refine And.intro ?_ ?_ | omega
  refine hQ _ q1 q2 q3 ⟨fun _ => none, fun _ => none, ⟨upw_s _ _ _, ?_, ?_, ?_, (fun i b z => by cases z), (fun i b z => by cases z), show ¬ (0 : Int32) < 0 by decide, show ¬ (12 : Int32) < 0 by decide⟩, fun i hi => trivial, fun i hi => (z32 hi).elim⟩ ?_ ?_ (rd_none hq1)
  · simp only [upw_n, upw_s, ne_eq, d1, d2, d3, d4, d5, d6, d7, d8, d9, d10, e1, e2, not_false_eq_true]
  · simp only [upw_n, upw_s, ne_eq, d1, d2, d3, d4, d5, d6, d7, d8, d9, d10, e1, e2, not_false_eq_true]
  · simp only [upw_n, upw_s, ne_eq, d1, d2, d3, d4, d5, d6, d7, d8, d9, d10, e1, e2, not_false_eq_true]
  · intro a o ha hax
    have k1 : a ≠ q1 := fun e => by
      subst e
      have h3 := rd_none hq1
      rw [ha] at h3
      cases h3
    have k2 : a ≠ q2 := fun e => by
      subst e
      have h3 := rd_none hq2
      rw [ha] at h3
      cases h3
    have k3 : a ≠ q3 := fun e => by
      subst e
      have h3 := rd_none hq3
      rw [ha] at h3
      cases h3
    simp only [upw_n, ne_eq, hax, k1, k2, k3, not_false_eq_true]
    exact ha
  · intro a o ha haw
    have k0 : a ≠ x := fun e => by
      subst e
      rw [hx] at haw
      cases haw
    have k1 : a ≠ q1 := fun e => by
      subst e
      have h3 := rd_ro hq1
      rw [ha] at h3
      cases h3
    have k2 : a ≠ q2 := fun e => by
      subst e
      have h3 := rd_ro hq2
      rw [ha] at h3
      cases h3
    have k3 : a ≠ q3 := fun e => by
      subst e
      have h3 := rd_ro hq3
      rw [ha] at h3
      cases h3
    simp only [upw_n, ne_eq, k0, k1, k2, k3, not_false_eq_true]
    exact haw
theorem h0s {h1 h3 : Nat → Option Nat} {i1 : Int32} (h0n : ∀ i : Nat, (i : Int) < i1.toInt → h1 i = none) (hh : HAd h1 i1.toNatClampNeg none h3) (e1 : (i1 + 1).toInt = i1.toInt + 1) (i0 : 0 ≤ i1.toInt) {i : Nat} (hi : (i : Int) < (i1 + 1).toInt) : h3 i = none := by
  have t : i1.toNatClampNeg = i1.toInt.toNat := rfl
  rcases Nat.lt_or_ge i i1.toNatClampNeg with q | q
  · rw [hh.1 i q]
    exact h0n i (by omega)
  · have e : i = i1.toNatClampNeg := by omega
    rw [e]
    exact hh.2
set_option maxHeartbeats 4000000 in
theorem flX3_init_36 {y nM cL pL D2 : Nat} {h2 : Nat → Option Nat} (hE : EG g w) (hS : SG g) (hcl : w cL = none) (cp : cL ≠ pL) (hwn : w nM = none) (hQ : ∀ nM w', w nM = none → MF g w' y nM 0 0 S00 → FI g y w w' → Q (.inl none) w') : ∀ (d : Nat) (i1 : Int32) (w' : Hw) (D1 c1 : Nat) (h1 : Nat → Option Nat) (k m : Nat), FI g y w w' → w' y = some (.inr (7, [.int 0, .ref nM, .ref cL, .ref pL, .int 0, .int 0, .int 0])) → w' nM = some (.inl (0, 8, .inr (.inl fun _ => 0))) → LL g w' cL D1 c1 i1 h1 → (∀ i b, h1 i = some b → isRow w' b) → (∀ i : Nat, (i : Int) < i1.toInt → h1 i = none) → LL g w' pL D2 0 0 h2 → (∀ i b, h2 i = some b → isRow w' b) → w D1 = none → (6 : Int32).toInt - i1.toInt ≤ (d : Int) → i1.toInt ≤ 6 → (k : Int) ≤ 3 + i1.toInt → (m : Int) ≤ 14 + 15 * i1.toInt → WP (MX3_init g) Q (36, [some (.ref y), some (.int i1)], [], w', k, m) := by
  have z6 : (6 : Int32).toInt = 6 := rfl
  intro d
  induction d with
  | zero =>
    intro i1 w' D1 c1 h1 k m hF hy hn hl hr h0n hl2 hr2 hD hd hi km mm
    obtain rfl : i1 = 6 := Int32.toInt_inj.mp (by omega)
    have hD1 : w' D1 = some (.inl (5, c1, qc h1)) := by
      rcases hl.2.1 with ⟨z, -⟩ | ⟨z, -⟩
      · exact z
      · have k2 := hl.2.2.2
        omega
    have hD2 : w' D2 = none := by
      rcases hl2.2.1 with ⟨-, z⟩ | ⟨-, -, z, -⟩
      · omega
      · exact z
    rw [eX3_init_36]
    simp only [eX3_init_0, eX3_init_0N, eX3_init_1, eX3_init_4, eX3_init_4N, eX3_init_5, eX3_init_9, eX3_init_12, eX3_init_12N, eX3_init_13, eX3_init_16, eX3_init_16R, eX3_init_17, eX3_init_20, eX3_init_23, eX3_init_23N, eX3_init_24, eX3_init_27, eX3_init_27R, eX3_init_28, eX3_init_31, eX3_init_34, eX3_init_37, eX3_init_42, eX3_init_42N, eX3_init_43, eX3_init_46, eX3_init_47R, eX3_init_47N, eX3_init_50, eX3_init_50R, eX3_init_50N, eX3_init_51, eX3_init_57, ite_le, n45, n54, true_or, or_true, false_or, or_false, false_and, and_false, kx_l, kx_r, go_s, gl_s, gi_s, gb_s2, gb_s3, gq_s, wt_nil, wt_int, wt_long, wt_ref, wt_null, nl_int, nl_long, nl_ref, nl_null, nl_none, rf_n, rf_s, rf_st, tl_s, tl_n, g0, gS, ex1, nb_b, nb_0, nb_1, nf_i, nf_l, nf_ra, nf_ro, nf_na, nf_no, nf_b0, nf_z0, t45_4, t45_5, true_and, and_true, List.set_cons_zero, List.set_cons_succ, List.length_cons, List.length_nil, rd_s, upw_s, ne_eq, not_false_eq_true, Nat.zero_add, Nat.add_zero, if_true, if_false, eq_self, lt66]
    refine ⟨by omega, by omega, hQ nM _ hwn ⟨cL, pL, D1, D2, c1, 0, h1, h2, hy, hn, hl, hr, hl2, hr2, by decide, cp, ?_, fun i hi => ?_, fun i hi => ?_⟩ hF⟩
    · rintro rfl
      rw [hD1] at hD2
      cases hD2
    · rw [h0n i (by omega)]
      exact trivial
    · exact (z32 hi).elim
  | succ d ih =>
    intro i1 w' D1 c1 h1 k m hF hy hn hl hr h0n hl2 hr2 hD hd hi km mm
    by_cases h6 : i1.toInt = 6
    · exact ih i1 w' D1 c1 h1 k m hF hy hn hl hr h0n hl2 hr2 hD (by have := hl.2.2.1; omega) hi km mm
    have i0 := hl.2.2.1
    have lt6 : (i1 < 6) = True := i32_t (by omega)
    have e1 := i32p1 (c := i1) i0 (by omega)
    have fin : ∀ (w3 : Hw) (k' m' : Nat), LPo g w' w3 cL D1 (i1 + 1) (HAd h1 i1.toNatClampNeg none) → (k' : Int) ≤ 4 + i1.toInt → (m' : Int) ≤ 29 + 15 * i1.toInt → WP (MX3_init g) Q (36, [some (.ref y), some (.int (i1 + 1))], [], w3, k', m') := by
      intro w3 k' m' hlp kk' mm'
      obtain ⟨D3, c3, h3, l1, l2, f1, f2, fD, hh⟩ := hlp
      obtain ⟨mc, hcL⟩ := hl.1
      have nD : ∀ {a : Nat} {o : Ob}, w' a = some o → (∀ z, o ≠ .inl (5, z)) → a ≠ D1 := fun ha ho e => by
        rcases hl.2.1 with ⟨k, -⟩ | ⟨-, -, k, -⟩
        · rw [e, k] at ha
          cases ha
          exact ho _ rfl
        · rw [e, k] at ha
          cases ha
      have nDw : ∀ {a : Nat} {o : Ob}, w a = some o → a ≠ D1 := fun e z => by
        rw [z, hD] at e
        cases e
      have nLw : ∀ {a : Nat} {o : Ob}, w a = some o → a ≠ cL := fun e z => by
        rw [z, hcl] at e
        cases e
      obtain ⟨mcp, hpL⟩ := hl2.1
      refine ih _ w3 D3 c3 h3 _ _ ⟨fun a o e n => f1 _ _ (hF.1 _ _ e n) (nLw e) (nDw e), fun a o e n => f2 _ _ e (hF.2 _ _ e n)⟩ (f1 _ _ hy (ne_of hy hcL (fun e => by cases e)) (nD hy (fun _ e => by cases e))) (f1 _ _ hn (ne_of hn hcL (fun e => by cases e)) (nD hn (fun _ e => by cases e))) l1 l2 (fun i hi => h0s h0n hh e1 i0 hi) (hl2.kp (fun fs e => f1 _ _ e cp.symm (nD e (fun _ e => by cases e))) (fun z e => ?_) (fun o e n => f2 _ _ e n)) (fun i b z => ?_) ?_ (by omega) (by omega) (by omega) (by omega)
      · rcases hl2.2.1 with ⟨-, q⟩ | ⟨-, -, q, -⟩
        · omega
        · rw [q] at e
          cases e
      · obtain ⟨f0, hb⟩ := hr2 i b z
        exact ⟨f0, f1 _ _ hb (ne_of hb hcL (fun e => by cases e)) (nD hb (fun _ e => by cases e))⟩
      · rcases fD with rfl | ⟨fD, -⟩
        · exact hD
        · cases hw : w D3 with
          | none => rfl
          | some o =>
            by_cases h : D3 = y
            · rw [h, hy] at fD
              cases fD
            · rw [hF.1 _ _ hw h] at fD
              cases fD
    rw [eX3_init_36]
    simp only [eX3_init_37, eX3_init_42, eX3_init_43, eX3_init_46, eX3_init_57, ite_le, if_true, lt6]
    with_reducible refine go_YE hy ?_
    simp only [eX3_init_47N, wt_nil, g0, gS, ex1]
    with_reducible refine And.intro ?_ ?_
    with_reducible exact hl.gt
    with_reducible refine And.intro ?_ ?_
    omega
    with_reducible refine And.intro ?_ ?_
    omega
    with_reducible refine And.intro ?_ ?_
    omega
    with_reducible refine sJx4a65c_add_9ea2dN (hF.eg hE) hS hl hr (by omega) (fun _ _ => ?_)
    simp only [eX3_init_50, eX3_init_51, kx_l, nl_ref, tl_s]
    with_reducible exact fin _ _ _ (by assumption) (by omega) (by omega)
set_option maxHeartbeats 4000000 in
theorem fX3_init  (hE : EG g w) (hS : SG g) (hy : w y = some (.inr (7, [.int 0, .null, .null, .null, .int 0, .int 0, .int 0]))) (hQ : ∀ nM w', w nM = none → MF g w' y nM 0 0 S00 → FI g y w w' → Q (.inl none) w') : WP (MX3_init g) Q (0, [some (.ref y), none], [], w, 0, 0) := by
  have z0 : (0 : Int32).toInt = 0 := rfl
  have z6 : (6 : Int32).toInt = 6 := rfl
  simp only [eX3_init_0, eX3_init_0N, eX3_init_1, eX3_init_4, eX3_init_4N, eX3_init_5, ite_le, n45, n54, true_or, or_true, false_or, or_false, false_and, and_false, kx_l, kx_r, go_s, gl_s, gi_s, gb_s2, gb_s3, gq_s, wt_nil, wt_int, wt_long, wt_ref, wt_null, nl_int, nl_long, nl_ref, nl_null, nl_none, rf_n, rf_s, rf_st, tl_s, tl_n, g0, gS, ex1, nb_b, nb_0, nb_1, nf_i, nf_l, nf_ra, nf_ro, nf_na, nf_no, nf_b0, nf_z0, t45_4, t45_5, true_and, and_true, List.set_cons_zero, List.set_cons_succ, List.length_cons, List.length_nil, rd_s, upw_s, ne_eq, not_false_eq_true, Nat.zero_add, Nat.add_zero, if_true, if_false, eq_self, n8e]
  repeat' first | with_reducible refine And.intro ?_ ?_ | exact n8a | omega
  intro nM hqn
  have hqn' := rd_none hqn
  have ne : y ≠ nM := fun e => by
    rw [← e, hy] at hqn'
    cases hqn'
  simp only [eX3_init_9, ite_le, n45, n54, true_or, or_true, false_or, or_false, false_and, and_false, kx_l, kx_r, go_s, gl_s, gi_s, gb_s2, gb_s3, gq_s, wt_nil, wt_int, wt_long, wt_ref, wt_null, nl_int, nl_long, nl_ref, nl_null, nl_none, rf_n, rf_s, rf_st, tl_s, tl_n, g0, gS, ex1, nb_b, nb_0, nb_1, nf_i, nf_l, nf_ra, nf_ro, nf_na, nf_no, nf_b0, nf_z0, t45_4, t45_5, true_and, and_true, List.set_cons_zero, List.set_cons_succ, List.length_cons, List.length_nil, rd_s, upw_s, ne_eq, not_false_eq_true, Nat.zero_add, Nat.add_zero, if_true, if_false, eq_self, hy, ne, upw_n, tyX3]
  repeat' first | with_reducible refine And.intro ?_ ?_ | exact n8a | omega
  obtain ⟨w1, hw1⟩ : ∃ w1, upw (upw w nM (.inl (0, 8, .inr (.inl fun _ => 0)))) y (.inr (7, [.int 0, .ref nM, .null, .null, .int 0, .int 0, .int 0])) = w1 := ⟨_, rfl⟩
  rw [hw1]
  have hy1 : w1 y = some (.inr (7, [.int 0, .ref nM, .null, .null, .int 0, .int 0, .int 0])) := by
    rw [← hw1]
    exact upw_s _ _ _
  have hn1 : w1 nM = some (.inl (0, 8, .inr (.inl fun _ => 0))) := by
    rw [← hw1, upw_n ne.symm]
    exact upw_s _ _ _
  have hF1 : FI g y w w1 := by
    rw [← hw1]
    exact (FI.rf.ext (ext_up2 ext.rf hqn)).up (by
      rw [upw_n ne]
      exact hy)
  simp only [eX3_init_12, eX3_init_12N, eX3_init_13, eX3_init_16, eX3_init_16R, eX3_init_17, ite_le, n45, n54, true_or, or_true, false_or, or_false, false_and, and_false, kx_l, kx_r, go_s, gl_s, gi_s, gb_s2, gb_s3, gq_s, wt_nil, wt_int, wt_long, wt_ref, wt_null, nl_int, nl_long, nl_ref, nl_null, nl_none, rf_n, rf_s, rf_st, tl_s, tl_n, g0, gS, ex1, nb_b, nb_0, nb_1, nf_i, nf_l, nf_ra, nf_ro, nf_na, nf_no, nf_b0, nf_z0, t45_4, t45_5, true_and, and_true, List.set_cons_zero, List.set_cons_succ, List.length_cons, List.length_nil, rd_s, upw_s, ne_eq, not_false_eq_true, Nat.zero_add, Nat.add_zero, if_true, if_false, eq_self]
  repeat' first | with_reducible refine And.intro ?_ ?_ | exact n8a | omega
  intro cL hqc
  repeat' first | with_reducible refine And.intro ?_ ?_ | exact n8a | omega
  refine sInitF (hF1.eg hE) hqc (fun D1 w2 hk2 hl2 hd2 => ?_)
  have hy2 := hk2.1 _ _ hy1
  simp only [eX3_init_20, ite_le, n45, n54, true_or, or_true, false_or, or_false, false_and, and_false, kx_l, kx_r, go_s, gl_s, gi_s, gb_s2, gb_s3, gq_s, wt_nil, wt_int, wt_long, wt_ref, wt_null, nl_int, nl_long, nl_ref, nl_null, nl_none, rf_n, rf_s, rf_st, tl_s, tl_n, g0, gS, ex1, nb_b, nb_0, nb_1, nf_i, nf_l, nf_ra, nf_ro, nf_na, nf_no, nf_b0, nf_z0, t45_4, t45_5, true_and, and_true, List.set_cons_zero, List.set_cons_succ, List.length_cons, List.length_nil, rd_s, upw_s, ne_eq, not_false_eq_true, Nat.zero_add, Nat.add_zero, if_true, if_false, eq_self, hy2, tyX3]
  repeat' first | with_reducible refine And.intro ?_ ?_ | exact n8a | omega
  obtain ⟨w3, hw3⟩ : ∃ w3, upw w2 y (.inr (7, [.int 0, .ref nM, .ref cL, .null, .int 0, .int 0, .int 0])) = w3 := ⟨_, rfl⟩
  rw [hw3]
  have hy3 : w3 y = some (.inr (7, [.int 0, .ref nM, .ref cL, .null, .int 0, .int 0, .int 0])) := by
    rw [← hw3]
    exact upw_s _ _ _
  have hn3 : w3 nM = some (.inl (0, 8, .inr (.inl fun _ => 0))) := by
    rw [← hw3, upw_n ne.symm]
    exact hk2.1 _ _ hn1
  have hl3 : LL g w3 cL D1 0 0 (fun _ => none) := by
    rw [← hw3]
    exact hl2.up hy2 (fun _ e => by cases e) (fun _ e => by cases e)
  have hF3 : FI g y w w3 := by
    rw [← hw3]
    exact (hF1.ext hk2).up hy2
  simp only [eX3_init_23, eX3_init_23N, eX3_init_24, eX3_init_27, eX3_init_27R, eX3_init_28, ite_le, n45, n54, true_or, or_true, false_or, or_false, false_and, and_false, kx_l, kx_r, go_s, gl_s, gi_s, gb_s2, gb_s3, gq_s, wt_nil, wt_int, wt_long, wt_ref, wt_null, nl_int, nl_long, nl_ref, nl_null, nl_none, rf_n, rf_s, rf_st, tl_s, tl_n, g0, gS, ex1, nb_b, nb_0, nb_1, nf_i, nf_l, nf_ra, nf_ro, nf_na, nf_no, nf_b0, nf_z0, t45_4, t45_5, true_and, and_true, List.set_cons_zero, List.set_cons_succ, List.length_cons, List.length_nil, rd_s, upw_s, ne_eq, not_false_eq_true, Nat.zero_add, Nat.add_zero, if_true, if_false, eq_self]
  repeat' first | with_reducible refine And.intro ?_ ?_ | exact n8a | omega
  intro pL hqp
  repeat' first | with_reducible refine And.intro ?_ ?_ | exact n8a | omega
  refine sInitF (hF3.eg hE) hqp (fun D2 w4 hk4 hl4 hd4 => ?_)
  have hy4 := hk4.1 _ _ hy3
  simp only [eX3_init_31, ite_le, n45, n54, true_or, or_true, false_or, or_false, false_and, and_false, kx_l, kx_r, go_s, gl_s, gi_s, gb_s2, gb_s3, gq_s, wt_nil, wt_int, wt_long, wt_ref, wt_null, nl_int, nl_long, nl_ref, nl_null, nl_none, rf_n, rf_s, rf_st, tl_s, tl_n, g0, gS, ex1, nb_b, nb_0, nb_1, nf_i, nf_l, nf_ra, nf_ro, nf_na, nf_no, nf_b0, nf_z0, t45_4, t45_5, true_and, and_true, List.set_cons_zero, List.set_cons_succ, List.length_cons, List.length_nil, rd_s, upw_s, ne_eq, not_false_eq_true, Nat.zero_add, Nat.add_zero, if_true, if_false, eq_self, hy4, tyX3]
  repeat' first | with_reducible refine And.intro ?_ ?_ | exact n8a | omega
  obtain ⟨w5, hw5⟩ : ∃ w5, upw w4 y (.inr (7, [.int 0, .ref nM, .ref cL, .ref pL, .int 0, .int 0, .int 0])) = w5 := ⟨_, rfl⟩
  rw [hw5]
  have hy5 : w5 y = some (.inr (7, [.int 0, .ref nM, .ref cL, .ref pL, .int 0, .int 0, .int 0])) := by
    rw [← hw5]
    exact upw_s _ _ _
  have hn5 : w5 nM = some (.inl (0, 8, .inr (.inl fun _ => 0))) := by
    rw [← hw5, upw_n ne.symm]
    exact hk4.1 _ _ hn3
  have hcn : w cL = none := by
    cases e : w cL with
    | none => rfl
    | some o =>
      have q := rd_none hqc
      by_cases h : cL = y
      · rw [h, hy1] at q
        cases q
      · rw [hF1.1 _ _ e h] at q
        cases q
  have hdn : w D1 = none := by
    cases e : w D1 with
    | none => rfl
    | some o =>
      by_cases h : D1 = y
      · rw [h, hy1] at hd2
        cases hd2
      · rw [hF1.1 _ _ e h] at hd2
        cases hd2
  have cp : cL ≠ pL := fun e => by
    obtain ⟨mc, z⟩ := hl3.1
    rw [e, rd_none hqp] at z
    cases z
  simp only [eX3_init_34, ite_le, n45, n54, true_or, or_true, false_or, or_false, false_and, and_false, kx_l, kx_r, go_s, gl_s, gi_s, gb_s2, gb_s3, gq_s, wt_nil, wt_int, wt_long, wt_ref, wt_null, nl_int, nl_long, nl_ref, nl_null, nl_none, rf_n, rf_s, rf_st, tl_s, tl_n, g0, gS, ex1, nb_b, nb_0, nb_1, nf_i, nf_l, nf_ra, nf_ro, nf_na, nf_no, nf_b0, nf_z0, t45_4, t45_5, true_and, and_true, List.set_cons_zero, List.set_cons_succ, List.length_cons, List.length_nil, rd_s, upw_s, ne_eq, not_false_eq_true, Nat.zero_add, Nat.add_zero, if_true, if_false, eq_self]
  refine flX3_init_36 (D2 := D2) hE hS hcn cp hqn' hQ 6 0 w5 D1 0 (fun _ => none) _ _ ?_ hy5 hn5 ?_ nr0 (fun _ _ => rfl) ?_ nr0 hdn (by decide) (by decide) (by omega) (by omega)
  · rw [← hw5]
    exact (hF3.ext hk4).up hy4
  · rw [← hw5]
    exact (hl3.ext hk4).up hy4 (fun _ e => by cases e) (fun _ e => by cases e)
  · rw [← hw5]
    exact hl4.up hy4 (fun _ e => by cases e) (fun _ e => by cases e)
end
end
/-! 76.mq0.lean.txt -/
section
section
variable {g : RO} {Q : Ot → Hw → Prop} {w0 w : Hw} {y nM : Nat} {kd th : Int32} {s : AS}
theorem qEq {v v' : Int32} (h : Q (.inl (some (.int v))) w) (e : v' = v) : Q (.inl (some (.int v'))) w := by
  rw [e]
  exact h
theorem vX3_valid0 {p : Nat} {r : R4} {a : Int64} (hp : rowA w p r) (hQ : Q (.inl (some (.int (bI (decide (hP r a)))))) w) : WP (MX3_valid g) Q (0, [some (.ref p), some (.long a), none, some (.int 0)], [], w, 0, 0) := fX3_valid hp (fun h => by
  rw [decide_eq_true h.2] at hQ
  exact hQ) (fun h => by
  rw [decide_eq_false (fun k => h ⟨Or.inl rfl, k⟩)] at hQ
  exact hQ)
theorem vX3_valid1 {p : Nat} {r : R4} {a : Int64} (hp : rowA w p r) (hQ : Q (.inl (some (.int (bI (decide (sP r ∧ hP r a)))))) w) : WP (MX3_valid g) Q (0, [some (.ref p), some (.long a), none, some (.int 1)], [], w, 0, 0) := fX3_valid hp (fun h => by
  rw [decide_eq_true (And.intro (h.1.resolve_left n10') h.2)] at hQ
  exact hQ) (fun h => by
  rw [decide_eq_false (fun k => h ⟨Or.inr k.1, k.2⟩)] at hQ
  exact hQ)
set_option maxHeartbeats 4000000 in
theorem fX3_whichNow {p : Nat} {r : R4} {a : Int32} (hp : rowA w p r) (hQ : Q (.inl (some (.int (wV r a.toInt64)))) w) : WP (MX3_whichNow g) Q (0, [some (.ref p), some (.int a)], [], w, 0, 0) := by
  repeat' first
    | with_reducible assumption
    | with_reducible refine And.intro ?_ ?_
    | with_reducible exact vpi6 (by assumption) (by assumption)
    | with_reducible exact vpi8 (by assumption) (by assumption)
    | with_reducible exact trivial
    | with_reducible exact absurd (by assumption) n10'
    | with_reducible exact n00x (by assumption)
    | with_reducible refine vX3_valid0 hp ?_
    | with_reducible refine vX3_valid1 hp ?_
    | with_reducible refine fX3_one (bI01 _) ?_
    | ((with_reducible refine isQ (Q := Q) ?_); exact hQ)
    | simp only [eX3_whichNow_0, eX3_whichNow_0N, eX3_whichNow_1, eX3_whichNow_4R, eX3_whichNow_4N, eX3_whichNow_7, eX3_whichNow_10, eX3_whichNow_10N, eX3_whichNow_11, eX3_whichNow_14R, eX3_whichNow_14N, eX3_whichNow_17, eX3_whichNow_20, lgp, lgn, lgz, i10, i00, if_true, if_false, eq_self, not_true, not_false_eq_true, m10, n4e, upw2q, rv0, rv1, rv2, rv3, lmi, lmx, ite_le, n45, n54, true_or, or_true, false_or, or_false, false_and, and_false, kx_l, kx_r, go_s, gl_s, gi_s, gb_s2, gb_s3, gq_s, wt_nil, wt_int, wt_long, wt_ref, wt_null, nl_int, nl_long, nl_ref, nl_null, nl_none, rf_n, rf_s, rf_st, tl_s, tl_n, g0, gS, ex1, nb_b, nb_0, nb_1, nf_i, nf_l, nf_ra, nf_ro, nf_na, nf_no, nf_b0, nf_z0, t45_4, t45_5, true_and, and_true, List.set_cons_zero, List.set_cons_succ, List.length_cons, List.length_nil, rd_s, upw_s, ne_eq, not_false_eq_true, Nat.zero_add, Nat.add_zero]
    | with_reducible refine itx (fun _ => ?_) (fun _ => ?_)
    | split
    | with_reducible intro _
    | omega
theorem ar1 : (-1 : Int32) + 1 = 0 := by decide
theorem ar2 : (0 : Int32) + 1 = 1 := by decide
theorem ar3 : (1 : Int32) + 1 = 2 := by decide
theorem ac1 : ((1 : Int32) < -1) = False := eq_false (by decide)
theorem ac2 : ((1 : Int32) < 0) = False := eq_false (by decide)
theorem ac3 : ((1 : Int32) < 1) = False := eq_false (by decide)
theorem ac4 : ((1 : Int32) < 2) = True := eq_true (by decide)
theorem al1 {v : Int64} : v + (-1 : Int32).toInt64 = v - 1 := by
  rw [Int64.sub_eq_add_neg]
  rfl
theorem al2 {v : Int64} : v + (0 : Int32).toInt64 = v := by
  rw [show (0 : Int32).toInt64 = 0 from rfl, Int64.add_zero]
theorem al3 {v : Int64} : v + (1 : Int32).toInt64 = v + 1 := rfl
theorem nvE {x : Int32} {r : R4} {v : Int64} {c : Int32} {b1 b2 b3 : Bool} (h1 : decide ((c = 0 ∨ sP r) ∧ hP r (v - 1)) = b1) (h2 : decide ((c = 0 ∨ sP r) ∧ hP r v) = b2) (h3 : decide ((c = 0 ∨ sP r) ∧ hP r (v + 1)) = b3) (hx : x = bI b1 + 2 * bI b2 + 4 * bI b3) : x = nV r v c := by
  unfold nV
  rw [h1, h2, h3]
  exact hx
set_option maxHeartbeats 4000000 in
theorem fX3_aroundNow {p : Nat} {r : R4} {a c : Int32} (hp : rowA w p r) (kw : okW a 3) (hQ : Q (.inl (some (.int (nV r (eV r a) c)))) w) : WP (MX3_aroundNow g) Q (0, [some (.ref p), some (.int a), some (.int c), none, none], [], w, 0, 0) := by
  rw [← rvK kw] at hQ
  repeat' first
    | with_reducible assumption
    | with_reducible refine And.intro ?_ ?_
    | with_reducible exact vpi6 (by assumption) (by assumption)
    | with_reducible exact vpi8 (by assumption) (by assumption)
    | with_reducible exact trivial
    | with_reducible exact absurd (by assumption) n10'
    | with_reducible exact n00x (by assumption)
    | with_reducible refine gl_A hp ?_
    | with_reducible exact vpi4k kw
    | with_reducible refine fX3_valid hp (fun _ => ?_) (fun _ => ?_)
    | ((with_reducible refine isQ (Q := Q) ?_); exact qEq hQ (nvE (v := rV r a.toNatClampNeg) (c := c) (decide_eq_true (by assumption)) (decide_eq_true (by assumption)) (decide_eq_true (by assumption)) (by decide)))
    | ((with_reducible refine isQ (Q := Q) ?_); exact qEq hQ (nvE (v := rV r a.toNatClampNeg) (c := c) (decide_eq_true (by assumption)) (decide_eq_true (by assumption)) (decide_eq_false (by assumption)) (by decide)))
    | ((with_reducible refine isQ (Q := Q) ?_); exact qEq hQ (nvE (v := rV r a.toNatClampNeg) (c := c) (decide_eq_true (by assumption)) (decide_eq_false (by assumption)) (decide_eq_true (by assumption)) (by decide)))
    | ((with_reducible refine isQ (Q := Q) ?_); exact qEq hQ (nvE (v := rV r a.toNatClampNeg) (c := c) (decide_eq_true (by assumption)) (decide_eq_false (by assumption)) (decide_eq_false (by assumption)) (by decide)))
    | ((with_reducible refine isQ (Q := Q) ?_); exact qEq hQ (nvE (v := rV r a.toNatClampNeg) (c := c) (decide_eq_false (by assumption)) (decide_eq_true (by assumption)) (decide_eq_true (by assumption)) (by decide)))
    | ((with_reducible refine isQ (Q := Q) ?_); exact qEq hQ (nvE (v := rV r a.toNatClampNeg) (c := c) (decide_eq_false (by assumption)) (decide_eq_true (by assumption)) (decide_eq_false (by assumption)) (by decide)))
    | ((with_reducible refine isQ (Q := Q) ?_); exact qEq hQ (nvE (v := rV r a.toNatClampNeg) (c := c) (decide_eq_false (by assumption)) (decide_eq_false (by assumption)) (decide_eq_true (by assumption)) (by decide)))
    | ((with_reducible refine isQ (Q := Q) ?_); exact qEq hQ (nvE (v := rV r a.toNatClampNeg) (c := c) (decide_eq_false (by assumption)) (decide_eq_false (by assumption)) (decide_eq_false (by assumption)) (by decide)))
    | simp only [eX3_aroundNow_0, eX3_aroundNow_5, eX3_aroundNow_7, eX3_aroundNow_11, eX3_aroundNow_12, eX3_aroundNow_12N, eX3_aroundNow_13, eX3_aroundNow_13N, eX3_aroundNow_14, eX3_aroundNow_16, eX3_aroundNow_21R, eX3_aroundNow_21N, eX3_aroundNow_24, eX3_aroundNow_27, eX3_aroundNow_36, eX3_aroundNow_37, eX3_aroundNow_45, lgp, lgn, lgz, i10, i00, if_true, if_false, eq_self, not_true, not_false_eq_true, m10, n4e, upw2q, rv0, rv1, rv2, rv3, lmi, lmx, ar1, ar2, ar3, ac1, ac2, ac3, ac4, al1, al2, al3, ite_le, n45, n54, true_or, or_true, false_or, or_false, false_and, and_false, kx_l, kx_r, go_s, gl_s, gi_s, gb_s2, gb_s3, gq_s, wt_nil, wt_int, wt_long, wt_ref, wt_null, nl_int, nl_long, nl_ref, nl_null, nl_none, rf_n, rf_s, rf_st, tl_s, tl_n, g0, gS, ex1, nb_b, nb_0, nb_1, nf_i, nf_l, nf_ra, nf_ro, nf_na, nf_no, nf_b0, nf_z0, t45_4, t45_5, true_and, and_true, List.set_cons_zero, List.set_cons_succ, List.length_cons, List.length_nil, rd_s, upw_s, ne_eq, not_false_eq_true, Nat.zero_add, Nat.add_zero]
    | with_reducible refine itx (fun _ => ?_) (fun _ => ?_)
    | split
    | with_reducible intro _
    | omega
theorem oftT {f : Nat → R4} {r : R4} {j : Nat} (h : mP (f j) r) : fsum (fun j => bI (decide (mP r (f j)))) j + 1 = fsum (fun j => bI (decide (mP r (f j)))) (j + 1) := by
  show _ = fsum (fun j => bI (decide (mP r (f j)))) j + bI (decide (mP r (f j)))
  rw [decide_eq_true (mSy h)]
  rfl
theorem oftN {f : Nat → R4} {r : R4} {j : Nat} (h : ¬ mP (f j) r) : fsum (fun j => bI (decide (mP r (f j)))) j + 0 = fsum (fun j => bI (decide (mP r (f j)))) (j + 1) := by
  show _ = fsum (fun j => bI (decide (mP r (f j)))) j + bI (decide (mP r (f j)))
  rw [decide_eq_false (fun k => h (mSy k))]
  rfl
set_option maxHeartbeats 4000000 in
theorem flX3_oftenNow_10 {a mc : Int32} {r : R4} {L D2 c2 q : Nat} {h2 : Nat → Option Nat} (hM : MS g w0 y nM kd th s w) (k : okC a) (e1 : s.2.1 a.toNatClampNeg = some r) (hL : w L = some (.inr (3, [.int mc, .ref D2, .int s.2.2.1]))) (hl : LL g w L D2 c2 s.2.2.1 h2) (hnn : ∀ i : Nat, (i : Int) < s.2.2.1.toInt → ∃ b, h2 i = some b ∧ rowA w b (s.2.2.2.1 i)) (hq : rd g w q = none) (hQ : ∀ w', ext g w w' → Q (.inl (some (.int (fsum (fun j => bI (decide (mP r (s.2.2.2.1 j)))) s.2.2.1.toInt.toNat)))) w') : ∀ (d j : Nat) (lr : Int32) (o4 : Option Value) (kz mz : Nat), j + d = s.2.2.1.toInt.toNat → kz ≤ 1 → mz ≤ 4 → WP (MX3_oftenNow g) Q (10, [some (.ref y), some (.int a), some (.int (fsum (fun j => bI (decide (mP r (s.2.2.2.1 j)))) j)), some (.ref q), o4], [], upw w q (.inr (2, [.int (Int32.ofNat j), .int lr, .int mc, .ref L])), kz, mz) := by
  have hLq : ∀ o, upw w q o L = some (.inr (3, [.int mc, .ref D2, .int s.2.2.1])) := fun o => (ext_up2 ext.rf hq).1 _ _ hL
  obtain ⟨hn1, hn2⟩ := hM.nn
  intro d
  induction d with
  | zero =>
    intro j lr o4 kz mz hjd hkz hmz
    have h9 : j < 1000 := by omega
    have hcE : Int32.ofNat j = s.2.2.1 := i32_eq (by rw [oNt h9]; omega)
    obtain rfl : j = s.2.2.1.toInt.toNat := by omega
    rw [eX3_oftenNow_10]
    repeat' first
      | with_reducible assumption
      | with_reducible refine And.intro ?_ ?_
      | with_reducible exact vpi6 (by assumption) (by assumption)
      | with_reducible exact vpi8 (by assumption) (by assumption)
      | with_reducible exact trivial
      | with_reducible exact n00x (by assumption)
      | with_reducible exact absurd (by assumption) n10'
      | with_reducible refine sJx35411_hasNext_aae02 (cap := 0) (upw_s _ _ _) (hLq _) (fun hcn => ?_) (fun hcn => ?_)
      | with_reducible exact absurd hcE hcn
      | with_reducible exact absurd hcn hcE
      | with_reducible refine sJx35411_next_0502b (upw_s _ _ _) (hLq _) (hl.nq hq _).rD hj0 hj1 hl.nc hl.c15 (fun e => ?_) (fun b1 eb => ?_)
      | with_reducible exact (hno e).elim
      | with_reducible refine go_S (hM.fr hq) (fun _ _ hY => ?_)
      | with_reducible exact MS.gC (hM.fr hq) (by assumption)
      | with_reducible refine sGetK (hM.fr hq) (by assumption) k e1 (fun _ hb => ?_)
      | with_reducible exact rowA.ca (by assumption)
      | with_reducible exact rowA.ca ((hrow _ eb).ext (ext_up2 ext.rf hq))
      | with_reducible refine fX3_same ((hrow _ eb).ext (ext_up2 ext.rf hq)) hb (fun hm => ?_) (fun hm => ?_)
      | with_reducible refine fX3_one (Or.inl rfl) ?_
      | with_reducible refine fX3_one (Or.inr rfl) ?_
      | with_reducible exact hQ _ (ext_up2 ext.rf hq)
      | simp only [eX3_oftenNow_0, eX3_oftenNow_2, eX3_oftenNow_2N, eX3_oftenNow_3, eX3_oftenNow_6, eX3_oftenNow_9, eX3_oftenNow_9N, eX3_oftenNow_11, eX3_oftenNow_16, eX3_oftenNow_19, eX3_oftenNow_19N, eX3_oftenNow_20, eX3_oftenNow_25N, eX3_oftenNow_25R, eX3_oftenNow_28, eX3_oftenNow_28N, eX3_oftenNow_30, eX3_oftenNow_31, eX3_oftenNow_31N, eX3_oftenNow_33, eX3_oftenNow_33N, eX3_oftenNow_34, eX3_oftenNow_37, eX3_oftenNow_38, eX3_oftenNow_41N, eX3_oftenNow_41R, eX3_oftenNow_44RR, eX3_oftenNow_44NR, eX3_oftenNow_44RN, eX3_oftenNow_44NN, eX3_oftenNow_47, eX3_oftenNow_50, eX3_oftenNow_55, lgp, lgn, lgz, i10, i00, if_true, if_false, eq_self, not_true, not_false_eq_true, m10, n4e, upw2q, rv0, rv1, rv2, rv3, lmi, lmx, ite_le, n45, n54, true_or, or_true, false_or, or_false, false_and, and_false, kx_l, kx_r, go_s, gl_s, gi_s, gb_s2, gb_s3, gq_s, wt_nil, wt_int, wt_long, wt_ref, wt_null, nl_int, nl_long, nl_ref, nl_null, nl_none, rf_n, rf_s, rf_st, tl_s, tl_n, g0, gS, ex1, nb_b, nb_0, nb_1, nf_i, nf_l, nf_ra, nf_ro, nf_na, nf_no, nf_b0, nf_z0, t45_4, t45_5, true_and, and_true, List.set_cons_zero, List.set_cons_succ, List.length_cons, List.length_nil, rd_s, upw_s, ne_eq, not_false_eq_true, Nat.zero_add, Nat.add_zero]
      | with_reducible refine itx (fun _ => ?_) (fun _ => ?_)
      | split
      | with_reducible intro _
      | omega
  | succ d ih =>
    intro j lr o4 kz mz hjd hkz hmz
    have h9 : j < 1000 := by omega
    have ej := oNt h9
    have hcE : ¬ Int32.ofNat j = s.2.2.1 := fun e => by
      have e2 : s.2.2.1.toInt = (j : Int) := by
        rw [← e]
        exact ej
      omega
    have hj0 : 0 ≤ (Int32.ofNat j).toInt := by omega
    have hj1 : (Int32.ofNat j).toInt < s.2.2.1.toInt := by omega
    have hcl := oNc h9
    obtain ⟨b0, hb0, hr0⟩ := hnn j (by omega)
    have hrow : ∀ b1, h2 (Int32.ofNat j).toNatClampNeg = some b1 → rowA w b1 (s.2.2.2.1 j) := fun b1 e => by
      rw [hcl, hb0] at e
      cases e
      exact hr0
    have hno : h2 (Int32.ofNat j).toNatClampNeg = none → False := fun e => by
      rw [hcl, hb0] at e
      cases e
    rw [eX3_oftenNow_10]
    repeat' first
      | with_reducible assumption
      | with_reducible refine And.intro ?_ ?_
      | with_reducible exact vpi6 (by assumption) (by assumption)
      | with_reducible exact vpi8 (by assumption) (by assumption)
      | with_reducible exact trivial
      | with_reducible exact n00x (by assumption)
      | with_reducible exact absurd (by assumption) n10'
      | with_reducible refine sJx35411_hasNext_aae02 (cap := 0) (upw_s _ _ _) (hLq _) (fun hcn => ?_) (fun hcn => ?_)
      | with_reducible exact absurd hcE hcn
      | with_reducible exact absurd hcn hcE
      | with_reducible refine sJx35411_next_0502b (upw_s _ _ _) (hLq _) (hl.nq hq _).rD hj0 hj1 hl.nc hl.c15 (fun e => ?_) (fun b1 eb => ?_)
      | with_reducible exact (hno e).elim
      | with_reducible refine go_S (hM.fr hq) (fun _ _ hY => ?_)
      | with_reducible exact MS.gC (hM.fr hq) (by assumption)
      | with_reducible refine sGetK (hM.fr hq) (by assumption) k e1 (fun _ hb => ?_)
      | with_reducible exact rowA.ca (by assumption)
      | with_reducible exact rowA.ca ((hrow _ eb).ext (ext_up2 ext.rf hq))
      | with_reducible refine fX3_same ((hrow _ eb).ext (ext_up2 ext.rf hq)) hb (fun hm => ?_) (fun hm => ?_)
      | with_reducible refine fX3_one (Or.inl rfl) ?_
      | with_reducible refine fX3_one (Or.inr rfl) ?_
      | (rw [oN1, oftT hm]; exact ih (j + 1) _ _ _ _ (by omega) (by first | assumption | omega) (by first | assumption | omega))
      | (rw [oN1, oftN hm]; exact ih (j + 1) _ _ _ _ (by omega) (by first | assumption | omega) (by first | assumption | omega))
      | simp only [eX3_oftenNow_0, eX3_oftenNow_2, eX3_oftenNow_2N, eX3_oftenNow_3, eX3_oftenNow_6, eX3_oftenNow_9, eX3_oftenNow_9N, eX3_oftenNow_11, eX3_oftenNow_16, eX3_oftenNow_19, eX3_oftenNow_19N, eX3_oftenNow_20, eX3_oftenNow_25N, eX3_oftenNow_25R, eX3_oftenNow_28, eX3_oftenNow_28N, eX3_oftenNow_30, eX3_oftenNow_31, eX3_oftenNow_31N, eX3_oftenNow_33, eX3_oftenNow_33N, eX3_oftenNow_34, eX3_oftenNow_37, eX3_oftenNow_38, eX3_oftenNow_41N, eX3_oftenNow_41R, eX3_oftenNow_44RR, eX3_oftenNow_44NR, eX3_oftenNow_44RN, eX3_oftenNow_44NN, eX3_oftenNow_47, eX3_oftenNow_50, eX3_oftenNow_55, lgp, lgn, lgz, i10, i00, if_true, if_false, eq_self, not_true, not_false_eq_true, m10, n4e, upw2q, rv0, rv1, rv2, rv3, lmi, lmx, ite_le, n45, n54, true_or, or_true, false_or, or_false, false_and, and_false, kx_l, kx_r, go_s, gl_s, gi_s, gb_s2, gb_s3, gq_s, wt_nil, wt_int, wt_long, wt_ref, wt_null, nl_int, nl_long, nl_ref, nl_null, nl_none, rf_n, rf_s, rf_st, tl_s, tl_n, g0, gS, ex1, nb_b, nb_0, nb_1, nf_i, nf_l, nf_ra, nf_ro, nf_na, nf_no, nf_b0, nf_z0, t45_4, t45_5, true_and, and_true, List.set_cons_zero, List.set_cons_succ, List.length_cons, List.length_nil, rd_s, upw_s, ne_eq, not_false_eq_true, Nat.zero_add, Nat.add_zero]
      | with_reducible refine itx (fun _ => ?_) (fun _ => ?_)
      | split
      | with_reducible intro _
      | omega
end
end
/-! 76.mq1.lean.txt -/
section
section
variable {g : RO} {Q : Ot → Hw → Prop} {w0 w : Hw} {y nM : Nat} {kd th : Int32} {s : AS}
theorem okCj {j : Nat} (h : j < 6) : okC (Int32.ofNat j) := ⟨oN0 (by omega), oNl (B := 6) (by omega) rfl h⟩
theorem fX3_isBarej {j : Nat} (hM : MS g w0 y nM kd th s w) (h : j < 6) (h1 : s.2.1 j = none → Q (.inl (some (.int 1))) w) (h0 : ∀ r, s.2.1 j = some r → Q (.inl (some (.int 0))) w) : WP (MX3_isBare g) Q (0, [some (.ref y), some (.int (Int32.ofNat j))], [], w, 0, 0) := by
  have e : (Int32.ofNat j).toNatClampNeg = j := oNc (by omega)
  exact fX3_isBare hM (okCj h) (fun k => h1 (by rw [e] at k; exact k)) (fun r k => h0 r (by rw [e] at k; exact k))
theorem sGetKj {cL pL j : Nat} {r : R4} (hM : MS g w0 y nM kd th s w) (hY : isY w y nM cL pL) (h : j < 6) (e : s.2.1 j = some r) (hR : ∀ b, rowA w b r → Q (.inl (some (.ref b))) w) : WP (MJx4a65c_get_915e3 g) Q (0, [some (.ref cL), some (.int (Int32.ofNat j))], [], w, 0, 0) := sGetK hM hY (okCj h) (by rw [oNc (by omega)]; exact e) hR
theorem hoI1 {c : Int32} {v : Int64} {r : R4} (h : c = 1) (m : ((1 : Int32) = 0 ∨ sP r) ∧ hP r v) : hoP v (if c = 1 then 1 else 0) r = true := by
  unfold hoP
  rw [if_pos h]
  exact decide_eq_true m
theorem hoI0 {c : Int32} {v : Int64} {r : R4} (h : ¬ c = 1) (m : ((0 : Int32) = 0 ∨ sP r) ∧ hP r v) : hoP v (if c = 1 then 1 else 0) r = true := by
  unfold hoP
  rw [if_neg h]
  exact decide_eq_true m
theorem hoJ1 {c : Int32} {v : Int64} {r : R4} (h : c = 1) (m : ¬ (((1 : Int32) = 0 ∨ sP r) ∧ hP r v)) : hoP v (if c = 1 then 1 else 0) r = false := by
  unfold hoP
  rw [if_pos h]
  exact decide_eq_false m
theorem hoJ0 {c : Int32} {v : Int64} {r : R4} (h : ¬ c = 1) (m : ¬ (((0 : Int32) = 0 ∨ sP r) ∧ hP r v)) : hoP v (if c = 1 then 1 else 0) r = false := by
  unfold hoP
  rw [if_neg h]
  exact decide_eq_false m
theorem wi0 {a : Int32} {r : R4} (h : a = 0) : wiP a r = true := by
  subst h
  rfl
theorem w2a {a : Int32} (hw : okW a 2) (h0 : ¬ a = 0) (h1 : ¬ a = 1) : a = 2 := by
  have q0 := i32_0 hw.1
  have q1 := i32_nlt hw.2
  have e2 : (2 : Int32).toInt = 2 := rfl
  rcases (by omega : a.toInt = 0 ∨ a.toInt = 1 ∨ a.toInt = 2) with e | e | e
  · exact absurd (i32_eq e) h0
  · exact absurd (i32_eq e) h1
  · exact i32_eq e
set_option maxHeartbeats 4000000 in
theorem flX3_whoNow_5 {a c : Int32} (hM : MS g w0 y nM kd th s w) (ka : okN a) (hQ : Q (.inl (some (.int (cfold s.2.1 (hoP (s.1 a.toNatClampNeg) (if c = 1 then 1 else 0)) 6)))) w) : ∀ (d j : Nat)  (kz mz : Nat), j + d = 6 → kz ≤ 0 → mz ≤ 0 → WP (MX3_whoNow g) Q (5, [some (.ref y), some (.int a), some (.int c), some (.int (cfold s.2.1 (hoP (s.1 a.toNatClampNeg) (if c = 1 then 1 else 0)) j)), some (.int (Int32.ofNat j))], [], w, kz, mz) := by
  intro d
  induction d with
  | zero =>
    intro j  kz mz hjd hkz hmz
    have h9 : j < 1000 := (by omega)
    have hlt : ¬ Int32.ofNat j < 6 := oNg (B := 6) h9 rfl (by omega)
    have hnn := oN0 h9
    have hcl := oNc h9
    obtain rfl : j = 6 := by omega
    rw [eX3_whoNow_5]
    repeat' first
      | with_reducible assumption
      | with_reducible refine And.intro ?_ ?_
      | with_reducible exact vpi6 (by assumption) (by assumption)
      | with_reducible exact vpi8 (by assumption) (by assumption)
      | with_reducible exact trivial
      | with_reducible exact absurd (by assumption) n10'
      | with_reducible exact n00x (by assumption)
      | with_reducible refine go_S hM (fun _ _ hY => ?_)
      | with_reducible exact MS.gC (by assumption) (by assumption)
      | with_reducible exact MS.gP (by assumption) (by assumption)
      | with_reducible refine fX3_isBarej hM (j := j) (by omega) (fun e0 => ?_) (fun r0 e0 => ?_)
      | with_reducible refine sGetKj hM (by assumption) (by omega) e0 (fun _ hb => ?_)
      | with_reducible exact rowA.ca (by assumption)
      | with_reducible refine gl_S hM ?_
      | with_reducible exact vpi8k ka
      | with_reducible refine fX3_valid hb (fun hm => ?_) (fun hm => ?_)
      | with_reducible exact hQ
      | simp only [eX3_whoNow_0, eX3_whoNow_7, eX3_whoNow_12, eX3_whoNow_12N, eX3_whoNow_13, eX3_whoNow_18, eX3_whoNow_21, eX3_whoNow_21N, eX3_whoNow_22, eX3_whoNow_25, eX3_whoNow_27, eX3_whoNow_30N, eX3_whoNow_30R, eX3_whoNow_33, eX3_whoNow_33N, eX3_whoNow_34, eX3_whoNow_37, eX3_whoNow_38, eX3_whoNow_39, eX3_whoNow_44, eX3_whoNow_48, eX3_whoNow_49R, eX3_whoNow_49N, eX3_whoNow_52, eX3_whoNow_55, eX3_whoNow_62, eX3_whoNow_68, lgp, lgn, lgz, i10, i00, if_true, if_false, eq_self, not_true, not_false_eq_true, m10, n4e, upw2q, rv0, rv1, rv2, rv3, lmi, lmx, hlt, hcl, ite_le, n45, n54, true_or, or_true, false_or, or_false, false_and, and_false, kx_l, kx_r, go_s, gl_s, gi_s, gb_s2, gb_s3, gq_s, wt_nil, wt_int, wt_long, wt_ref, wt_null, nl_int, nl_long, nl_ref, nl_null, nl_none, rf_n, rf_s, rf_st, tl_s, tl_n, g0, gS, ex1, nb_b, nb_0, nb_1, nf_i, nf_l, nf_ra, nf_ro, nf_na, nf_no, nf_b0, nf_z0, t45_4, t45_5, true_and, and_true, List.set_cons_zero, List.set_cons_succ, List.length_cons, List.length_nil, rd_s, upw_s, ne_eq, not_false_eq_true, Nat.zero_add, Nat.add_zero]
      | with_reducible refine itx (fun _ => ?_) (fun _ => ?_)
      | split
      | with_reducible intro _
      | omega
  | succ d ih =>
    intro j  kz mz hjd hkz hmz
    have h9 : j < 1000 := (by omega)
    have hlt : Int32.ofNat j < 6 := oNl (B := 6) h9 rfl (by omega)
    have hjN : j < 6 := by omega
    have hnn := oN0 h9
    have hcl := oNc h9
    rw [eX3_whoNow_5]
    repeat' first
      | with_reducible assumption
      | with_reducible refine And.intro ?_ ?_
      | with_reducible exact vpi6 (by assumption) (by assumption)
      | with_reducible exact vpi8 (by assumption) (by assumption)
      | with_reducible exact trivial
      | with_reducible exact absurd (by assumption) n10'
      | with_reducible exact n00x (by assumption)
      | (rw [oN1, cfN (o := s.2.1) (P := hoP (s.1 a.toNatClampNeg) (if c = 1 then 1 else 0)) e0]; exact ih (j + 1)  _ _ (by omega) (by first | assumption | omega) (by first | assumption | omega))
      | (rw [oN1, cfT (o := s.2.1) (P := hoP (s.1 a.toNatClampNeg) (if c = 1 then 1 else 0)) e0 (hoI1 (by assumption) hm)]; exact ih (j + 1)  _ _ (by omega) (by first | assumption | omega) (by first | assumption | omega))
      | (rw [oN1, cfT (o := s.2.1) (P := hoP (s.1 a.toNatClampNeg) (if c = 1 then 1 else 0)) e0 (hoI0 (by assumption) hm)]; exact ih (j + 1)  _ _ (by omega) (by first | assumption | omega) (by first | assumption | omega))
      | (rw [oN1, cfF (o := s.2.1) (P := hoP (s.1 a.toNatClampNeg) (if c = 1 then 1 else 0)) e0 (hoJ1 (by assumption) hm)]; exact ih (j + 1)  _ _ (by omega) (by first | assumption | omega) (by first | assumption | omega))
      | (rw [oN1, cfF (o := s.2.1) (P := hoP (s.1 a.toNatClampNeg) (if c = 1 then 1 else 0)) e0 (hoJ0 (by assumption) hm)]; exact ih (j + 1)  _ _ (by omega) (by first | assumption | omega) (by first | assumption | omega))
      | with_reducible refine go_S hM (fun _ _ hY => ?_)
      | with_reducible exact MS.gC (by assumption) (by assumption)
      | with_reducible exact MS.gP (by assumption) (by assumption)
      | with_reducible refine fX3_isBarej hM (j := j) (by omega) (fun e0 => ?_) (fun r0 e0 => ?_)
      | with_reducible refine sGetKj hM (by assumption) (by omega) e0 (fun _ hb => ?_)
      | with_reducible exact rowA.ca (by assumption)
      | with_reducible refine gl_S hM ?_
      | with_reducible exact vpi8k ka
      | with_reducible refine fX3_valid hb (fun hm => ?_) (fun hm => ?_)
      | with_reducible exact hQ
      | simp only [eX3_whoNow_0, eX3_whoNow_7, eX3_whoNow_12, eX3_whoNow_12N, eX3_whoNow_13, eX3_whoNow_18, eX3_whoNow_21, eX3_whoNow_21N, eX3_whoNow_22, eX3_whoNow_25, eX3_whoNow_27, eX3_whoNow_30N, eX3_whoNow_30R, eX3_whoNow_33, eX3_whoNow_33N, eX3_whoNow_34, eX3_whoNow_37, eX3_whoNow_38, eX3_whoNow_39, eX3_whoNow_44, eX3_whoNow_48, eX3_whoNow_49R, eX3_whoNow_49N, eX3_whoNow_52, eX3_whoNow_55, eX3_whoNow_62, eX3_whoNow_68, lgp, lgn, lgz, i10, i00, if_true, if_false, eq_self, not_true, not_false_eq_true, m10, n4e, upw2q, rv0, rv1, rv2, rv3, lmi, lmx, hlt, hcl, ite_le, n45, n54, true_or, or_true, false_or, or_false, false_and, and_false, kx_l, kx_r, go_s, gl_s, gi_s, gb_s2, gb_s3, gq_s, wt_nil, wt_int, wt_long, wt_ref, wt_null, nl_int, nl_long, nl_ref, nl_null, nl_none, rf_n, rf_s, rf_st, tl_s, tl_n, g0, gS, ex1, nb_b, nb_0, nb_1, nf_i, nf_l, nf_ra, nf_ro, nf_na, nf_no, nf_b0, nf_z0, t45_4, t45_5, true_and, and_true, List.set_cons_zero, List.set_cons_succ, List.length_cons, List.length_nil, rd_s, upw_s, ne_eq, not_false_eq_true, Nat.zero_add, Nat.add_zero]
      | with_reducible refine itx (fun _ => ?_) (fun _ => ?_)
      | split
      | with_reducible intro _
      | omega
set_option maxHeartbeats 4000000 in
theorem fX3_whoNow {a c : Int32} (hM : MS g w0 y nM kd th s w) (ka : okN a) (hQ : Q (.inl (some (.int (cfold s.2.1 (hoP (s.1 a.toNatClampNeg) (if c = 1 then 1 else 0)) 6)))) w) : WP (MX3_whoNow g) Q (0, [some (.ref y), some (.int a), some (.int c), none, none], [], w, 0, 0) := by
  repeat' first
    | with_reducible assumption
    | with_reducible refine And.intro ?_ ?_
    | with_reducible exact vpi6 (by assumption) (by assumption)
    | with_reducible exact vpi8 (by assumption) (by assumption)
    | with_reducible exact trivial
    | with_reducible exact absurd (by assumption) n10'
    | with_reducible exact n00x (by assumption)
    | ((with_reducible refine isWP (pc := 5) ?_); exact flX3_whoNow_5 hM ka hQ 6 0 _ _ rfl (by decide) (by decide))
    | simp only [eX3_whoNow_0, eX3_whoNow_7, eX3_whoNow_12, eX3_whoNow_12N, eX3_whoNow_13, eX3_whoNow_18, eX3_whoNow_21, eX3_whoNow_21N, eX3_whoNow_22, eX3_whoNow_25, eX3_whoNow_27, eX3_whoNow_30N, eX3_whoNow_30R, eX3_whoNow_33, eX3_whoNow_33N, eX3_whoNow_34, eX3_whoNow_37, eX3_whoNow_38, eX3_whoNow_39, eX3_whoNow_44, eX3_whoNow_48, eX3_whoNow_49R, eX3_whoNow_49N, eX3_whoNow_52, eX3_whoNow_55, eX3_whoNow_62, eX3_whoNow_68, lgp, lgn, lgz, i10, i00, if_true, if_false, eq_self, not_true, not_false_eq_true, m10, n4e, upw2q, rv0, rv1, rv2, rv3, lmi, lmx, ite_le, n45, n54, true_or, or_true, false_or, or_false, false_and, and_false, kx_l, kx_r, go_s, gl_s, gi_s, gb_s2, gb_s3, gq_s, wt_nil, wt_int, wt_long, wt_ref, wt_null, nl_int, nl_long, nl_ref, nl_null, nl_none, rf_n, rf_s, rf_st, tl_s, tl_n, g0, gS, ex1, nb_b, nb_0, nb_1, nf_i, nf_l, nf_ra, nf_ro, nf_na, nf_no, nf_b0, nf_z0, t45_4, t45_5, true_and, and_true, List.set_cons_zero, List.set_cons_succ, List.length_cons, List.length_nil, rd_s, upw_s, ne_eq, not_false_eq_true, Nat.zero_add, Nat.add_zero]
    | with_reducible refine itx (fun _ => ?_) (fun _ => ?_)
    | split
    | with_reducible intro _
    | omega
set_option maxHeartbeats 4000000 in
theorem flX3_whichNow__4 {a : Int32} (hM : MS g w0 y nM kd th s w) (hw : okW a 2) (hQ : Q (.inl (some (.int (cfold s.2.1 (wiP a) 6)))) w) : ∀ (d j : Nat)  (kz mz : Nat), j + d = 6 → kz ≤ 0 → mz ≤ 0 → WP (MX3_whichNow_ g) Q (4, [some (.ref y), some (.int a), some (.int (cfold s.2.1 (wiP a) j)), some (.int (Int32.ofNat j))], [], w, kz, mz) := by
  intro d
  induction d with
  | zero =>
    intro j  kz mz hjd hkz hmz
    have h9 : j < 1000 := (by omega)
    have hlt : ¬ Int32.ofNat j < 6 := oNg (B := 6) h9 rfl (by omega)
    have hnn := oN0 h9
    have hcl := oNc h9
    obtain rfl : j = 6 := by omega
    rw [eX3_whichNow__4]
    repeat' first
      | with_reducible assumption
      | with_reducible refine And.intro ?_ ?_
      | with_reducible exact vpi6 (by assumption) (by assumption)
      | with_reducible exact vpi8 (by assumption) (by assumption)
      | with_reducible exact trivial
      | with_reducible exact absurd (by assumption) n10'
      | with_reducible exact n00x (by assumption)
      | with_reducible refine go_S hM (fun _ _ hY => ?_)
      | with_reducible exact MS.gC (by assumption) (by assumption)
      | with_reducible exact MS.gP (by assumption) (by assumption)
      | with_reducible refine fX3_isBarej hM (j := j) (by omega) (fun e0 => ?_) (fun r0 e0 => ?_)
      | with_reducible refine sGetKj hM (by assumption) (by omega) e0 (fun _ hb => ?_)
      | with_reducible exact rowA.ca (by assumption)
      | with_reducible refine fX3_fixed hb (fun hm => ?_) (fun hm => ?_)
      | with_reducible refine fX3_small hb (fun hm => ?_) (fun hm => ?_)
      | with_reducible exact hQ
      | simp only [eX3_whichNow__0, eX3_whichNow__5, eX3_whichNow__10, eX3_whichNow__10N, eX3_whichNow__11, eX3_whichNow__15, eX3_whichNow__18, eX3_whichNow__22, eX3_whichNow__27, eX3_whichNow__27N, eX3_whichNow__28, eX3_whichNow__31, eX3_whichNow__32, eX3_whichNow__35N, eX3_whichNow__35R, eX3_whichNow__38R, eX3_whichNow__38N, eX3_whichNow__41, eX3_whichNow__44, eX3_whichNow__47, eX3_whichNow__47N, eX3_whichNow__48, eX3_whichNow__51, eX3_whichNow__52, eX3_whichNow__55N, eX3_whichNow__55R, eX3_whichNow__58R, eX3_whichNow__58N, eX3_whichNow__61, eX3_whichNow__64, eX3_whichNow__70, eX3_whichNow__76, lgp, lgn, lgz, i10, i00, if_true, if_false, eq_self, not_true, not_false_eq_true, m10, n4e, upw2q, rv0, rv1, rv2, rv3, lmi, lmx, hlt, hcl, ite_le, n45, n54, true_or, or_true, false_or, or_false, false_and, and_false, kx_l, kx_r, go_s, gl_s, gi_s, gb_s2, gb_s3, gq_s, wt_nil, wt_int, wt_long, wt_ref, wt_null, nl_int, nl_long, nl_ref, nl_null, nl_none, rf_n, rf_s, rf_st, tl_s, tl_n, g0, gS, ex1, nb_b, nb_0, nb_1, nf_i, nf_l, nf_ra, nf_ro, nf_na, nf_no, nf_b0, nf_z0, t45_4, t45_5, true_and, and_true, List.set_cons_zero, List.set_cons_succ, List.length_cons, List.length_nil, rd_s, upw_s, ne_eq, not_false_eq_true, Nat.zero_add, Nat.add_zero]
      | with_reducible refine itx (fun _ => ?_) (fun _ => ?_)
      | split
      | with_reducible intro _
      | omega
  | succ d ih =>
    intro j  kz mz hjd hkz hmz
    have h9 : j < 1000 := (by omega)
    have hlt : Int32.ofNat j < 6 := oNl (B := 6) h9 rfl (by omega)
    have hjN : j < 6 := by omega
    have hnn := oN0 h9
    have hcl := oNc h9
    rw [eX3_whichNow__4]
    repeat' first
      | with_reducible assumption
      | with_reducible refine And.intro ?_ ?_
      | with_reducible exact vpi6 (by assumption) (by assumption)
      | with_reducible exact vpi8 (by assumption) (by assumption)
      | with_reducible exact trivial
      | with_reducible exact absurd (by assumption) n10'
      | with_reducible exact n00x (by assumption)
      | (rw [oN1, cfN (o := s.2.1) (P := wiP a) e0]; exact ih (j + 1)  _ _ (by omega) (by first | assumption | omega) (by first | assumption | omega))
      | (rw [oN1, cfT (o := s.2.1) (P := wiP a) e0 (wi0 (by assumption))]; exact ih (j + 1)  _ _ (by omega) (by first | assumption | omega) (by first | assumption | omega))
      | (rw [oN1, cfT (o := s.2.1) (P := wiP a) e0 (wiT1 (by assumption) hm)]; exact ih (j + 1)  _ _ (by omega) (by first | assumption | omega) (by first | assumption | omega))
      | (rw [oN1, cfF (o := s.2.1) (P := wiP a) e0 (wiF1 (by assumption) hm)]; exact ih (j + 1)  _ _ (by omega) (by first | assumption | omega) (by first | assumption | omega))
      | (rw [oN1, cfT (o := s.2.1) (P := wiP a) e0 (wiT2 (w2a hw (by assumption) (by assumption)) hm)]; exact ih (j + 1)  _ _ (by omega) (by first | assumption | omega) (by first | assumption | omega))
      | (rw [oN1, cfF (o := s.2.1) (P := wiP a) e0 (wiF2 (w2a hw (by assumption) (by assumption)) hm)]; exact ih (j + 1)  _ _ (by omega) (by first | assumption | omega) (by first | assumption | omega))
      | with_reducible refine go_S hM (fun _ _ hY => ?_)
      | with_reducible exact MS.gC (by assumption) (by assumption)
      | with_reducible exact MS.gP (by assumption) (by assumption)
      | with_reducible refine fX3_isBarej hM (j := j) (by omega) (fun e0 => ?_) (fun r0 e0 => ?_)
      | with_reducible refine sGetKj hM (by assumption) (by omega) e0 (fun _ hb => ?_)
      | with_reducible exact rowA.ca (by assumption)
      | with_reducible refine fX3_fixed hb (fun hm => ?_) (fun hm => ?_)
      | with_reducible refine fX3_small hb (fun hm => ?_) (fun hm => ?_)
      | with_reducible exact hQ
      | simp only [eX3_whichNow__0, eX3_whichNow__5, eX3_whichNow__10, eX3_whichNow__10N, eX3_whichNow__11, eX3_whichNow__15, eX3_whichNow__18, eX3_whichNow__22, eX3_whichNow__27, eX3_whichNow__27N, eX3_whichNow__28, eX3_whichNow__31, eX3_whichNow__32, eX3_whichNow__35N, eX3_whichNow__35R, eX3_whichNow__38R, eX3_whichNow__38N, eX3_whichNow__41, eX3_whichNow__44, eX3_whichNow__47, eX3_whichNow__47N, eX3_whichNow__48, eX3_whichNow__51, eX3_whichNow__52, eX3_whichNow__55N, eX3_whichNow__55R, eX3_whichNow__58R, eX3_whichNow__58N, eX3_whichNow__61, eX3_whichNow__64, eX3_whichNow__70, eX3_whichNow__76, lgp, lgn, lgz, i10, i00, if_true, if_false, eq_self, not_true, not_false_eq_true, m10, n4e, upw2q, rv0, rv1, rv2, rv3, lmi, lmx, hlt, hcl, ite_le, n45, n54, true_or, or_true, false_or, or_false, false_and, and_false, kx_l, kx_r, go_s, gl_s, gi_s, gb_s2, gb_s3, gq_s, wt_nil, wt_int, wt_long, wt_ref, wt_null, nl_int, nl_long, nl_ref, nl_null, nl_none, rf_n, rf_s, rf_st, tl_s, tl_n, g0, gS, ex1, nb_b, nb_0, nb_1, nf_i, nf_l, nf_ra, nf_ro, nf_na, nf_no, nf_b0, nf_z0, t45_4, t45_5, true_and, and_true, List.set_cons_zero, List.set_cons_succ, List.length_cons, List.length_nil, rd_s, upw_s, ne_eq, not_false_eq_true, Nat.zero_add, Nat.add_zero]
      | with_reducible refine itx (fun _ => ?_) (fun _ => ?_)
      | split
      | with_reducible intro _
      | omega
set_option maxHeartbeats 4000000 in
theorem fX3_whichNow_ {a : Int32} (hM : MS g w0 y nM kd th s w) (hw : okW a 2) (hQ : Q (.inl (some (.int (cfold s.2.1 (wiP a) 6)))) w) : WP (MX3_whichNow_ g) Q (0, [some (.ref y), some (.int a), none, none], [], w, 0, 0) := by
  repeat' first
    | with_reducible assumption
    | with_reducible refine And.intro ?_ ?_
    | with_reducible exact vpi6 (by assumption) (by assumption)
    | with_reducible exact vpi8 (by assumption) (by assumption)
    | with_reducible exact trivial
    | with_reducible exact absurd (by assumption) n10'
    | with_reducible exact n00x (by assumption)
    | ((with_reducible refine isWP (pc := 4) ?_); exact flX3_whichNow__4 hM hw hQ 6 0 _ _ rfl (by decide) (by decide))
    | simp only [eX3_whichNow__0, eX3_whichNow__5, eX3_whichNow__10, eX3_whichNow__10N, eX3_whichNow__11, eX3_whichNow__15, eX3_whichNow__18, eX3_whichNow__22, eX3_whichNow__27, eX3_whichNow__27N, eX3_whichNow__28, eX3_whichNow__31, eX3_whichNow__32, eX3_whichNow__35N, eX3_whichNow__35R, eX3_whichNow__38R, eX3_whichNow__38N, eX3_whichNow__41, eX3_whichNow__44, eX3_whichNow__47, eX3_whichNow__47N, eX3_whichNow__48, eX3_whichNow__51, eX3_whichNow__52, eX3_whichNow__55N, eX3_whichNow__55R, eX3_whichNow__58R, eX3_whichNow__58N, eX3_whichNow__61, eX3_whichNow__64, eX3_whichNow__70, eX3_whichNow__76, lgp, lgn, lgz, i10, i00, if_true, if_false, eq_self, not_true, not_false_eq_true, m10, n4e, upw2q, rv0, rv1, rv2, rv3, lmi, lmx, ite_le, n45, n54, true_or, or_true, false_or, or_false, false_and, and_false, kx_l, kx_r, go_s, gl_s, gi_s, gb_s2, gb_s3, gq_s, wt_nil, wt_int, wt_long, wt_ref, wt_null, nl_int, nl_long, nl_ref, nl_null, nl_none, rf_n, rf_s, rf_st, tl_s, tl_n, g0, gS, ex1, nb_b, nb_0, nb_1, nf_i, nf_l, nf_ra, nf_ro, nf_na, nf_no, nf_b0, nf_z0, t45_4, t45_5, true_and, and_true, List.set_cons_zero, List.set_cons_succ, List.length_cons, List.length_nil, rd_s, upw_s, ne_eq, not_false_eq_true, Nat.zero_add, Nat.add_zero]
    | with_reducible refine itx (fun _ => ?_) (fun _ => ?_)
    | split
    | with_reducible intro _
    | omega
set_option maxHeartbeats 4000000 in
theorem flX3_likesNow_4 {a : Int32} {r : R4} (hM : MS g w0 y nM kd th s w) (k : okC a) (e1 : s.2.1 a.toNatClampNeg = some r) (hQ : Q (.inl (some (.int (cfold s.2.1 (liP r) 6)))) w) : ∀ (d j : Nat)  (kz mz : Nat), j + d = 6 → kz ≤ 0 → mz ≤ 0 → WP (MX3_likesNow g) Q (4, [some (.ref y), some (.int a), some (.int (cfold s.2.1 (liP r) j)), some (.int (Int32.ofNat j))], [], w, kz, mz) := by
  intro d
  induction d with
  | zero =>
    intro j  kz mz hjd hkz hmz
    have h9 : j < 1000 := (by omega)
    have hlt : ¬ Int32.ofNat j < 6 := oNg (B := 6) h9 rfl (by omega)
    have hnn := oN0 h9
    have hcl := oNc h9
    obtain rfl : j = 6 := by omega
    rw [eX3_likesNow_4]
    repeat' first
      | with_reducible assumption
      | with_reducible refine And.intro ?_ ?_
      | with_reducible exact vpi6 (by assumption) (by assumption)
      | with_reducible exact vpi8 (by assumption) (by assumption)
      | with_reducible exact trivial
      | with_reducible exact absurd (by assumption) n10'
      | with_reducible exact n00x (by assumption)
      | with_reducible refine go_S hM (fun _ _ hY => ?_)
      | with_reducible exact MS.gC (by assumption) (by assumption)
      | with_reducible exact MS.gP (by assumption) (by assumption)
      | with_reducible refine fX3_isBarej hM (j := j) (by omega) (fun e0 => ?_) (fun r0 e0 => ?_)
      | with_reducible refine sGetK (i := a) hM (by assumption) k e1 (fun _ hb => ?_)
      | with_reducible refine sGetKj hM (by assumption) (by omega) e0 (fun _ hb0 => ?_)
      | with_reducible exact rowA.ca (by assumption)
      | with_reducible refine fX3_same hb hb0 (fun hm => ?_) (fun hm => ?_)
      | with_reducible exact hQ
      | simp only [eX3_likesNow_0, eX3_likesNow_5, eX3_likesNow_10, eX3_likesNow_10N, eX3_likesNow_11, eX3_likesNow_15, eX3_likesNow_18, eX3_likesNow_18N, eX3_likesNow_19, eX3_likesNow_22, eX3_likesNow_23, eX3_likesNow_26N, eX3_likesNow_26R, eX3_likesNow_29, eX3_likesNow_29N, eX3_likesNow_30, eX3_likesNow_33, eX3_likesNow_34, eX3_likesNow_37N, eX3_likesNow_37R, eX3_likesNow_40RR, eX3_likesNow_40NR, eX3_likesNow_40RN, eX3_likesNow_40NN, eX3_likesNow_43, eX3_likesNow_46, eX3_likesNow_52, eX3_likesNow_58, lgp, lgn, lgz, i10, i00, if_true, if_false, eq_self, not_true, not_false_eq_true, m10, n4e, upw2q, rv0, rv1, rv2, rv3, lmi, lmx, hlt, hcl, ite_le, n45, n54, true_or, or_true, false_or, or_false, false_and, and_false, kx_l, kx_r, go_s, gl_s, gi_s, gb_s2, gb_s3, gq_s, wt_nil, wt_int, wt_long, wt_ref, wt_null, nl_int, nl_long, nl_ref, nl_null, nl_none, rf_n, rf_s, rf_st, tl_s, tl_n, g0, gS, ex1, nb_b, nb_0, nb_1, nf_i, nf_l, nf_ra, nf_ro, nf_na, nf_no, nf_b0, nf_z0, t45_4, t45_5, true_and, and_true, List.set_cons_zero, List.set_cons_succ, List.length_cons, List.length_nil, rd_s, upw_s, ne_eq, not_false_eq_true, Nat.zero_add, Nat.add_zero]
      | with_reducible refine itx (fun _ => ?_) (fun _ => ?_)
      | split
      | with_reducible intro _
      | omega
  | succ d ih =>
    intro j  kz mz hjd hkz hmz
    have h9 : j < 1000 := (by omega)
    have hlt : Int32.ofNat j < 6 := oNl (B := 6) h9 rfl (by omega)
    have hjN : j < 6 := by omega
    have hnn := oN0 h9
    have hcl := oNc h9
    rw [eX3_likesNow_4]
    repeat' first
      | with_reducible assumption
      | with_reducible refine And.intro ?_ ?_
      | with_reducible exact vpi6 (by assumption) (by assumption)
      | with_reducible exact vpi8 (by assumption) (by assumption)
      | with_reducible exact trivial
      | with_reducible exact absurd (by assumption) n10'
      | with_reducible exact n00x (by assumption)
      | (rw [oN1, cfN (o := s.2.1) (P := liP r) e0]; exact ih (j + 1)  _ _ (by omega) (by first | assumption | omega) (by first | assumption | omega))
      | (rw [oN1, cfT (o := s.2.1) (P := liP r) e0 (decide_eq_true hm)]; exact ih (j + 1)  _ _ (by omega) (by first | assumption | omega) (by first | assumption | omega))
      | (rw [oN1, cfF (o := s.2.1) (P := liP r) e0 (decide_eq_false hm)]; exact ih (j + 1)  _ _ (by omega) (by first | assumption | omega) (by first | assumption | omega))
      | with_reducible refine go_S hM (fun _ _ hY => ?_)
      | with_reducible exact MS.gC (by assumption) (by assumption)
      | with_reducible exact MS.gP (by assumption) (by assumption)
      | with_reducible refine fX3_isBarej hM (j := j) (by omega) (fun e0 => ?_) (fun r0 e0 => ?_)
      | with_reducible refine sGetK (i := a) hM (by assumption) k e1 (fun _ hb => ?_)
      | with_reducible refine sGetKj hM (by assumption) (by omega) e0 (fun _ hb0 => ?_)
      | with_reducible exact rowA.ca (by assumption)
      | with_reducible refine fX3_same hb hb0 (fun hm => ?_) (fun hm => ?_)
      | with_reducible exact hQ
      | simp only [eX3_likesNow_0, eX3_likesNow_5, eX3_likesNow_10, eX3_likesNow_10N, eX3_likesNow_11, eX3_likesNow_15, eX3_likesNow_18, eX3_likesNow_18N, eX3_likesNow_19, eX3_likesNow_22, eX3_likesNow_23, eX3_likesNow_26N, eX3_likesNow_26R, eX3_likesNow_29, eX3_likesNow_29N, eX3_likesNow_30, eX3_likesNow_33, eX3_likesNow_34, eX3_likesNow_37N, eX3_likesNow_37R, eX3_likesNow_40RR, eX3_likesNow_40NR, eX3_likesNow_40RN, eX3_likesNow_40NN, eX3_likesNow_43, eX3_likesNow_46, eX3_likesNow_52, eX3_likesNow_58, lgp, lgn, lgz, i10, i00, if_true, if_false, eq_self, not_true, not_false_eq_true, m10, n4e, upw2q, rv0, rv1, rv2, rv3, lmi, lmx, hlt, hcl, ite_le, n45, n54, true_or, or_true, false_or, or_false, false_and, and_false, kx_l, kx_r, go_s, gl_s, gi_s, gb_s2, gb_s3, gq_s, wt_nil, wt_int, wt_long, wt_ref, wt_null, nl_int, nl_long, nl_ref, nl_null, nl_none, rf_n, rf_s, rf_st, tl_s, tl_n, g0, gS, ex1, nb_b, nb_0, nb_1, nf_i, nf_l, nf_ra, nf_ro, nf_na, nf_no, nf_b0, nf_z0, t45_4, t45_5, true_and, and_true, List.set_cons_zero, List.set_cons_succ, List.length_cons, List.length_nil, rd_s, upw_s, ne_eq, not_false_eq_true, Nat.zero_add, Nat.add_zero]
      | with_reducible refine itx (fun _ => ?_) (fun _ => ?_)
      | split
      | with_reducible intro _
      | omega
set_option maxHeartbeats 4000000 in
theorem fX3_likesNow {a : Int32} {r : R4} (hM : MS g w0 y nM kd th s w) (k : okC a) (e1 : s.2.1 a.toNatClampNeg = some r) (hQ : Q (.inl (some (.int (cfold s.2.1 (liP r) 6)))) w) : WP (MX3_likesNow g) Q (0, [some (.ref y), some (.int a), none, none], [], w, 0, 0) := by
  repeat' first
    | with_reducible assumption
    | with_reducible refine And.intro ?_ ?_
    | with_reducible exact vpi6 (by assumption) (by assumption)
    | with_reducible exact vpi8 (by assumption) (by assumption)
    | with_reducible exact trivial
    | with_reducible exact absurd (by assumption) n10'
    | with_reducible exact n00x (by assumption)
    | ((with_reducible refine isWP (pc := 4) ?_); exact flX3_likesNow_4 hM k e1 hQ 6 0 _ _ rfl (by decide) (by decide))
    | simp only [eX3_likesNow_0, eX3_likesNow_5, eX3_likesNow_10, eX3_likesNow_10N, eX3_likesNow_11, eX3_likesNow_15, eX3_likesNow_18, eX3_likesNow_18N, eX3_likesNow_19, eX3_likesNow_22, eX3_likesNow_23, eX3_likesNow_26N, eX3_likesNow_26R, eX3_likesNow_29, eX3_likesNow_29N, eX3_likesNow_30, eX3_likesNow_33, eX3_likesNow_34, eX3_likesNow_37N, eX3_likesNow_37R, eX3_likesNow_40RR, eX3_likesNow_40NR, eX3_likesNow_40RN, eX3_likesNow_40NN, eX3_likesNow_43, eX3_likesNow_46, eX3_likesNow_52, eX3_likesNow_58, lgp, lgn, lgz, i10, i00, if_true, if_false, eq_self, not_true, not_false_eq_true, m10, n4e, upw2q, rv0, rv1, rv2, rv3, lmi, lmx, ite_le, n45, n54, true_or, or_true, false_or, or_false, false_and, and_false, kx_l, kx_r, go_s, gl_s, gi_s, gb_s2, gb_s3, gq_s, wt_nil, wt_int, wt_long, wt_ref, wt_null, nl_int, nl_long, nl_ref, nl_null, nl_none, rf_n, rf_s, rf_st, tl_s, tl_n, g0, gS, ex1, nb_b, nb_0, nb_1, nf_i, nf_l, nf_ra, nf_ro, nf_na, nf_no, nf_b0, nf_z0, t45_4, t45_5, true_and, and_true, List.set_cons_zero, List.set_cons_succ, List.length_cons, List.length_nil, rd_s, upw_s, ne_eq, not_false_eq_true, Nat.zero_add, Nat.add_zero]
    | with_reducible refine itx (fun _ => ?_) (fun _ => ?_)
    | split
    | with_reducible intro _
    | omega
end
end
/-! 76.mq2.lean.txt -/
section
section
variable {g : RO} {Q : Ot → Hw → Prop} {w0 w : Hw} {y nM : Nat} {kd th : Int32} {s : AS}
theorem vX3_fixed {p : Nat} {r : R4} (hp : rowA w p r) (hQ : Q (.inl (some (.int (bI (decide (fP r)))))) w) : WP (MX3_fixed g) Q (0, [some (.ref p)], [], w, 0, 0) := fX3_fixed hp (fun h => by
  rw [decide_eq_true h] at hQ
  exact hQ) (fun h => by
  rw [decide_eq_false h] at hQ
  exact hQ)
theorem vX3_small {p : Nat} {r : R4} (hp : rowA w p r) (hQ : Q (.inl (some (.int (bI (decide (sP r)))))) w) : WP (MX3_small g) Q (0, [some (.ref p)], [], w, 0, 0) := fX3_small hp (fun h => by
  rw [decide_eq_true h] at hQ
  exact hQ) (fun h => by
  rw [decide_eq_false h] at hQ
  exact hQ)
theorem aoT {f : Nat → R4} {r : R4} {j : Nat} (h : mP (f j) r) : bI (ahB f r j) ||| 1 = bI (ahB f r (j + 1)) := by
  show _ = bI (ahB f r j || decide (mP r (f j)))
  rw [decide_eq_true (mSy h), Bool.or_true]
  cases ahB f r j <;> rfl
theorem aoF {f : Nat → R4} {r : R4} {j : Nat} (h : ¬ mP (f j) r) : bI (ahB f r j) ||| 0 = bI (ahB f r (j + 1)) := by
  show _ = bI (ahB f r j || decide (mP r (f j)))
  rw [decide_eq_false (fun k => h (mSy k)), Bool.or_false]
  cases ahB f r j <;> rfl
theorem nbB {b : Bool} : narrow .boolean (.int (bI b)) = .int (bI b) := by cases b <;> rfl
theorem vnB {b : Bool} : vp_nar (bty 3) (bI b) = bI b := by cases b <;> rfl
theorem vn1 : vp_nar (bty 3) 1 = 1 := rfl
theorem sm6 {a : Int32} (h : okW a 5) : a = 0 ∨ a = 1 ∨ a = 2 ∨ a = 3 ∨ a = 4 ∨ a = 5 := by
  have h0 := i32_0 h.1
  have h1 := i32_nlt h.2
  have e5 : (5 : Int32).toInt = 5 := rfl
  rcases (by omega : a.toInt = 0 ∨ a.toInt = 1 ∨ a.toInt = 2 ∨ a.toInt = 3 ∨ a.toInt = 4 ∨ a.toInt = 5) with e | e | e | e | e | e
  · exact Or.inl (i32_eq e)
  · exact Or.inr (Or.inl (i32_eq e))
  · exact Or.inr (Or.inr (Or.inl (i32_eq e)))
  · exact Or.inr (Or.inr (Or.inr (Or.inl (i32_eq e))))
  · exact Or.inr (Or.inr (Or.inr (Or.inr (Or.inl (i32_eq e)))))
  · exact Or.inr (Or.inr (Or.inr (Or.inr (Or.inr (i32_eq e)))))
theorem plE {f : Nat → R4} {v : Int64} {c : Int32} {j : Nat} (k : okW c 5) : upd (upd (upd (upd (upd (upd (fun _ => 0) (0 : Int32).toNatClampNeg 1) (1 : Int32).toNatClampNeg (bI (decide (hP (f j) v)))) (2 : Int32).toNatClampNeg (bI (decide (sP (f j) ∧ hP (f j) v)))) (3 : Int32).toNatClampNeg (bI (decide (fP (f j))))) 4 (bI (decide (sP (f j))))) (5 : Int32).toNatClampNeg (bI (ahB f (f j) j)) c.toNatClampNeg = bI (pcP f v c j) := by
  rcases sm6 k with rfl | rfl | rfl | rfl | rfl | rfl
  · rw [pc0 (Or.inl (by decide))]
    rfl
  · rw [pc1]
    rfl
  · rw [pc2]
    rfl
  · rw [pc3]
    rfl
  · rw [pc4]
    rfl
  · rw [pc5]
    rfl
theorem hoE {s : AS} {kd a : Int32} (k : okW a 4) : upd (upd (upd (upd (upd (fun _ => 0) (0 : Int32).toNatClampNeg (fsum (fun j => bI (s.2.1 j).isSome) 6)) (1 : Int32).toNatClampNeg s.2.2.1) (2 : Int32).toNatClampNeg s.2.2.2.2.1) (3 : Int32).toNatClampNeg kd) 4 s.2.2.2.2.2 a.toNatClampNeg = houV s kd a := by
  rcases sm5 k with rfl | rfl | rfl | rfl | rfl
  · unfold houV
    rw [if_pos rfl]
    rfl
  · unfold houV
    rw [if_neg (by decide), if_pos rfl]
    rfl
  · unfold houV
    rw [if_neg (by decide), if_neg (by decide), if_pos rfl]
    rfl
  · unfold houV
    rw [if_neg (by decide), if_neg (by decide), if_neg (by decide), if_pos rfl]
    rfl
  · rw [houD (Or.inr (by decide))]
    rfl
set_option maxHeartbeats 4000000 in
theorem flX3_isAhead_4 {i : Nat} (hM : MS g w0 y nM kd th s w) (hi : i < s.2.2.1.toInt.toNat) (hQ : Q (.inl (some (.int (bI (ahB s.2.2.2.1 (s.2.2.2.1 i) i))))) w) : ∀ (d j : Nat)  (kz mz : Nat), j + d = i → kz ≤ 0 → mz ≤ 0 → WP (MX3_isAhead g) Q (4, [some (.ref y), some (.int (Int32.ofNat i)), some (.int (bI (ahB s.2.2.2.1 (s.2.2.2.1 i) j))), some (.int (Int32.ofNat j))], [], w, kz, mz) := by
  obtain ⟨hn1, hn2⟩ := hM.nn
  have hie : (Int32.ofNat i).toInt = (i : Int) := oNt (by omega)
  intro d
  induction d with
  | zero =>
    intro j  kz mz hjd hkz hmz
    have h9 : j < 1000 := (by omega)
    have hlt : ¬ Int32.ofNat j < (Int32.ofNat i) := oNg (B := i) h9 hie (by omega)
    have hnn := oN0 h9
    have hcl := oNc h9
    obtain rfl : j = i := by omega
    rw [eX3_isAhead_4]
    repeat' first
      | with_reducible assumption
      | with_reducible refine And.intro ?_ ?_
      | with_reducible exact vpi6 (by assumption) (by assumption)
      | with_reducible exact vpi8 (by assumption) (by assumption)
      | with_reducible exact trivial
      | with_reducible exact absurd (by assumption) n10'
      | with_reducible exact n00x (by assumption)
      | with_reducible refine go_S hM (fun _ _ hY => ?_)
      | with_reducible exact MS.gC (by assumption) (by assumption)
      | with_reducible exact MS.gP (by assumption) (by assumption)
      | with_reducible refine sGetPj hM (by assumption) (by omega) (fun _ hb0 => ?_)
      | with_reducible exact rowA.ca (by assumption)
      | with_reducible refine fX3_same (by assumption) (by assumption) (fun hm => ?_) (fun hm => ?_)
      | with_reducible exact nbB
      | with_reducible exact hQ
      | simp only [eX3_isAhead_0, eX3_isAhead_5, eX3_isAhead_9, eX3_isAhead_10, eX3_isAhead_10N, eX3_isAhead_11, eX3_isAhead_14, eX3_isAhead_15, eX3_isAhead_18N, eX3_isAhead_18R, eX3_isAhead_21, eX3_isAhead_21N, eX3_isAhead_22, eX3_isAhead_25, eX3_isAhead_26, eX3_isAhead_29N, eX3_isAhead_29R, eX3_isAhead_32RR, eX3_isAhead_32NR, eX3_isAhead_32RN, eX3_isAhead_32NN, eX3_isAhead_35, eX3_isAhead_43, lgp, lgn, lgz, i10, i00, if_true, if_false, eq_self, not_true, not_false_eq_true, m10, n4e, upw2q, rv0, rv1, rv2, rv3, lmi, lmx, hlt, hcl, ite_le, n45, n54, true_or, or_true, false_or, or_false, false_and, and_false, kx_l, kx_r, go_s, gl_s, gi_s, gb_s2, gb_s3, gq_s, wt_nil, wt_int, wt_long, wt_ref, wt_null, nl_int, nl_long, nl_ref, nl_null, nl_none, rf_n, rf_s, rf_st, tl_s, tl_n, g0, gS, ex1, nb_b, nb_0, nb_1, nf_i, nf_l, nf_ra, nf_ro, nf_na, nf_no, nf_b0, nf_z0, t45_4, t45_5, true_and, and_true, List.set_cons_zero, List.set_cons_succ, List.length_cons, List.length_nil, rd_s, upw_s, ne_eq, not_false_eq_true, Nat.zero_add, Nat.add_zero]
      | with_reducible refine itx (fun _ => ?_) (fun _ => ?_)
      | split
      | with_reducible intro _
      | omega
  | succ d ih =>
    intro j  kz mz hjd hkz hmz
    have h9 : j < 1000 := (by omega)
    have hlt : Int32.ofNat j < (Int32.ofNat i) := oNl (B := i) h9 hie (by omega)
    have hjN : j < i := by omega
    have hnn := oN0 h9
    have hcl := oNc h9
    rw [eX3_isAhead_4]
    repeat' first
      | with_reducible assumption
      | with_reducible refine And.intro ?_ ?_
      | with_reducible exact vpi6 (by assumption) (by assumption)
      | with_reducible exact vpi8 (by assumption) (by assumption)
      | with_reducible exact trivial
      | with_reducible exact absurd (by assumption) n10'
      | with_reducible exact n00x (by assumption)
      | (rw [oN1, aoT hm]; exact ih (j + 1)  _ _ (by omega) (by first | assumption | omega) (by first | assumption | omega))
      | (rw [oN1, aoF hm]; exact ih (j + 1)  _ _ (by omega) (by first | assumption | omega) (by first | assumption | omega))
      | with_reducible refine go_S hM (fun _ _ hY => ?_)
      | with_reducible exact MS.gC (by assumption) (by assumption)
      | with_reducible exact MS.gP (by assumption) (by assumption)
      | with_reducible refine sGetPj hM (by assumption) (by omega) (fun _ hb0 => ?_)
      | with_reducible exact rowA.ca (by assumption)
      | with_reducible refine fX3_same (by assumption) (by assumption) (fun hm => ?_) (fun hm => ?_)
      | with_reducible exact nbB
      | with_reducible exact hQ
      | simp only [eX3_isAhead_0, eX3_isAhead_5, eX3_isAhead_9, eX3_isAhead_10, eX3_isAhead_10N, eX3_isAhead_11, eX3_isAhead_14, eX3_isAhead_15, eX3_isAhead_18N, eX3_isAhead_18R, eX3_isAhead_21, eX3_isAhead_21N, eX3_isAhead_22, eX3_isAhead_25, eX3_isAhead_26, eX3_isAhead_29N, eX3_isAhead_29R, eX3_isAhead_32RR, eX3_isAhead_32NR, eX3_isAhead_32RN, eX3_isAhead_32NN, eX3_isAhead_35, eX3_isAhead_43, lgp, lgn, lgz, i10, i00, if_true, if_false, eq_self, not_true, not_false_eq_true, m10, n4e, upw2q, rv0, rv1, rv2, rv3, lmi, lmx, hlt, hcl, ite_le, n45, n54, true_or, or_true, false_or, or_false, false_and, and_false, kx_l, kx_r, go_s, gl_s, gi_s, gb_s2, gb_s3, gq_s, wt_nil, wt_int, wt_long, wt_ref, wt_null, nl_int, nl_long, nl_ref, nl_null, nl_none, rf_n, rf_s, rf_st, tl_s, tl_n, g0, gS, ex1, nb_b, nb_0, nb_1, nf_i, nf_l, nf_ra, nf_ro, nf_na, nf_no, nf_b0, nf_z0, t45_4, t45_5, true_and, and_true, List.set_cons_zero, List.set_cons_succ, List.length_cons, List.length_nil, rd_s, upw_s, ne_eq, not_false_eq_true, Nat.zero_add, Nat.add_zero]
      | with_reducible refine itx (fun _ => ?_) (fun _ => ?_)
      | split
      | with_reducible intro _
      | omega
set_option maxHeartbeats 4000000 in
theorem fX3_isAhead {i : Nat} (hM : MS g w0 y nM kd th s w) (hi : i < s.2.2.1.toInt.toNat) (hQ : Q (.inl (some (.int (bI (ahB s.2.2.2.1 (s.2.2.2.1 i) i))))) w) : WP (MX3_isAhead g) Q (0, [some (.ref y), some (.int (Int32.ofNat i)), none, none], [], w, 0, 0) := by
  repeat' first
    | with_reducible assumption
    | with_reducible refine And.intro ?_ ?_
    | with_reducible exact vpi6 (by assumption) (by assumption)
    | with_reducible exact vpi8 (by assumption) (by assumption)
    | with_reducible exact trivial
    | with_reducible exact absurd (by assumption) n10'
    | with_reducible exact n00x (by assumption)
    | ((with_reducible refine isWP (pc := 4) ?_); exact flX3_isAhead_4 hM hi hQ _ 0 _ _ (Nat.zero_add _) (by decide) (by decide))
    | simp only [eX3_isAhead_0, eX3_isAhead_5, eX3_isAhead_9, eX3_isAhead_10, eX3_isAhead_10N, eX3_isAhead_11, eX3_isAhead_14, eX3_isAhead_15, eX3_isAhead_18N, eX3_isAhead_18R, eX3_isAhead_21, eX3_isAhead_21N, eX3_isAhead_22, eX3_isAhead_25, eX3_isAhead_26, eX3_isAhead_29N, eX3_isAhead_29R, eX3_isAhead_32RR, eX3_isAhead_32NR, eX3_isAhead_32RN, eX3_isAhead_32NN, eX3_isAhead_35, eX3_isAhead_43, lgp, lgn, lgz, i10, i00, if_true, if_false, eq_self, not_true, not_false_eq_true, m10, n4e, upw2q, rv0, rv1, rv2, rv3, lmi, lmx, ite_le, n45, n54, true_or, or_true, false_or, or_false, false_and, and_false, kx_l, kx_r, go_s, gl_s, gi_s, gb_s2, gb_s3, gq_s, wt_nil, wt_int, wt_long, wt_ref, wt_null, nl_int, nl_long, nl_ref, nl_null, nl_none, rf_n, rf_s, rf_st, tl_s, tl_n, g0, gS, ex1, nb_b, nb_0, nb_1, nf_i, nf_l, nf_ra, nf_ro, nf_na, nf_no, nf_b0, nf_z0, t45_4, t45_5, true_and, and_true, List.set_cons_zero, List.set_cons_succ, List.length_cons, List.length_nil, rd_s, upw_s, ne_eq, not_false_eq_true, Nat.zero_add, Nat.add_zero]
    | with_reducible refine itx (fun _ => ?_) (fun _ => ?_)
    | split
    | with_reducible intro _
    | omega
theorem vpi6k5 {a : Int32} (h : okW a 5) : vp_in a 6 := vpiM (i32_0 h.1) (by
  have k := i32_nlt h.2
  have e : (5 : Int32).toInt = 5 := rfl
  omega)
set_option maxHeartbeats 8000000 in
theorem flX3_pileNow_5 {a c : Int32} (hM : MS g w0 y nM kd th s w) (ka : okN a) (kw : okW c 5) (hQ : ∀ w', ext g w w' → Q (.inl (some (.int (fsum (fun j => bI (pcP s.2.2.2.1 (s.1 a.toNatClampNeg) c j)) s.2.2.1.toInt.toNat)))) w') : ∀ (d j : Nat) (o5 o6 : Option Value) (w' : Hw) (kz mz : Nat), j + d = s.2.2.1.toInt.toNat → ext g w w' → kz ≤ j → mz ≤ 6 * j → WP (MX3_pileNow g) Q (5, [some (.ref y), some (.int a), some (.int c), some (.int (fsum (fun j => bI (pcP s.2.2.2.1 (s.1 a.toNatClampNeg) c j)) j)), some (.int (Int32.ofNat j)), o5, o6], [], w', kz, mz) := by
  obtain ⟨hn1, hn2⟩ := hM.nn
  intro d
  induction d with
  | zero =>
    intro j o5 o6 w' kz mz hjd hk hkz hmz
    have hM1 := hM.ext hk
    have h9 : j < 1000 := by omega
    have hlt : ¬ Int32.ofNat j < s.2.2.1 := oNg (B := s.2.2.1.toInt.toNat) h9 hn1 (by omega)
    have hnn := oN0 h9
    have hcl := oNc h9
    obtain rfl : j = s.2.2.1.toInt.toNat := by omega
    rw [eX3_pileNow_5]
    repeat' first
      | with_reducible assumption
      | with_reducible refine And.intro ?_ ?_
      | with_reducible exact vpi6 (by assumption) (by assumption)
      | with_reducible exact vpi8 (by assumption) (by assumption)
      | with_reducible exact trivial
      | with_reducible exact absurd (by assumption) n10'
      | with_reducible exact n00x (by assumption)
      | with_reducible refine go_S (by first | assumption | exact MS.fr (by assumption) (by assumption)) (fun _ _ hY => ?_)
      | with_reducible exact MS.gC (by first | assumption | exact MS.fr (by assumption) (by assumption)) (by assumption)
      | with_reducible exact MS.gP (by first | assumption | exact MS.fr (by assumption) (by assumption)) (by assumption)
      | with_reducible refine sSizeF (by first | assumption | exact MS.fr (by assumption) (by assumption)) (by assumption) ?_
      | with_reducible refine gl_S (by first | assumption | exact MS.fr (by assumption) (by assumption)) ?_
      | with_reducible exact rowA.ca (by assumption)
      | with_reducible refine fX3_one (bI01 _) ?_
      | with_reducible refine sGetPj (by first | assumption | exact MS.fr (by assumption) (by assumption)) (by assumption) (by omega) (fun _ hb => ?_)
      | with_reducible exact n6a
      | with_reducible exact vpi8k ka
      | with_reducible exact vpi6k5 kw
      | with_reducible exact vpi6x.1
      | with_reducible exact vpi6x.2.1
      | with_reducible exact vpi6x.2.2.1
      | with_reducible exact vpi6x.2.2.2.1
      | with_reducible exact vpi6x.2.2.2.2.1
      | with_reducible exact vpi6x.2.2.2.2.2
      | with_reducible refine vX3_valid0 (by first | assumption | exact rowA.ext (by assumption) (ext_up2 ext.rf (by assumption))) ?_
      | with_reducible refine vX3_valid1 (by first | assumption | exact rowA.ext (by assumption) (ext_up2 ext.rf (by assumption))) ?_
      | with_reducible refine vX3_fixed (by first | assumption | exact rowA.ext (by assumption) (ext_up2 ext.rf (by assumption))) ?_
      | with_reducible refine vX3_small (by first | assumption | exact rowA.ext (by assumption) (ext_up2 ext.rf (by assumption))) ?_
      | with_reducible refine fX3_isAhead (by first | assumption | exact MS.fr (by assumption) (by assumption)) (by omega) ?_
      | (rw [plE kw])
      | with_reducible exact hQ _ hk
      | simp only [eX3_pileNow_0, eX3_pileNow_7, eX3_pileNow_7N, eX3_pileNow_8, eX3_pileNow_11, eX3_pileNow_14, eX3_pileNow_17, eX3_pileNow_17N, eX3_pileNow_18, eX3_pileNow_21, eX3_pileNow_23, eX3_pileNow_26N, eX3_pileNow_26R, eX3_pileNow_29, eX3_pileNow_29N, eX3_pileNow_31, eX3_pileNow_35, eX3_pileNow_35R, eX3_pileNow_36, eX3_pileNow_39, eX3_pileNow_39R, eX3_pileNow_40, eX3_pileNow_41, eX3_pileNow_41N, eX3_pileNow_43, eX3_pileNow_43N, eX3_pileNow_44, eX3_pileNow_47, eX3_pileNow_48, eX3_pileNow_49, eX3_pileNow_50R, eX3_pileNow_50N, eX3_pileNow_53, eX3_pileNow_54, eX3_pileNow_54R, eX3_pileNow_55, eX3_pileNow_56, eX3_pileNow_56N, eX3_pileNow_58, eX3_pileNow_58N, eX3_pileNow_59, eX3_pileNow_62, eX3_pileNow_63, eX3_pileNow_64, eX3_pileNow_65R, eX3_pileNow_65N, eX3_pileNow_68, eX3_pileNow_69, eX3_pileNow_69R, eX3_pileNow_70, eX3_pileNow_71, eX3_pileNow_71N, eX3_pileNow_73R, eX3_pileNow_73N, eX3_pileNow_76, eX3_pileNow_77, eX3_pileNow_77R, eX3_pileNow_78, eX3_pileNow_79, eX3_pileNow_79N, eX3_pileNow_81R, eX3_pileNow_81N, eX3_pileNow_84, eX3_pileNow_85, eX3_pileNow_85R, eX3_pileNow_86, eX3_pileNow_87, eX3_pileNow_87N, eX3_pileNow_88, eX3_pileNow_93, eX3_pileNow_94, eX3_pileNow_94N, eX3_pileNow_96, eX3_pileNow_97, eX3_pileNow_97N, eX3_pileNow_99, eX3_pileNow_101, eX3_pileNow_104, eX3_pileNow_112, lgp, lgn, lgz, i10, i00, if_true, if_false, eq_self, not_true, not_false_eq_true, m10, n4e, upw2q, rv0, rv1, rv2, rv3, lmi, lmx, hlt, hcl, n6e, vnB, vn1, ite_le, n45, n54, true_or, or_true, false_or, or_false, false_and, and_false, kx_l, kx_r, go_s, gl_s, gi_s, gb_s2, gb_s3, gq_s, wt_nil, wt_int, wt_long, wt_ref, wt_null, nl_int, nl_long, nl_ref, nl_null, nl_none, rf_n, rf_s, rf_st, tl_s, tl_n, g0, gS, ex1, nb_b, nb_0, nb_1, nf_i, nf_l, nf_ra, nf_ro, nf_na, nf_no, nf_b0, nf_z0, t45_4, t45_5, true_and, and_true, List.set_cons_zero, List.set_cons_succ, List.length_cons, List.length_nil, rd_s, upw_s, ne_eq, not_false_eq_true, Nat.zero_add, Nat.add_zero]
      | with_reducible refine itx (fun _ => ?_) (fun _ => ?_)
      | split
      | with_reducible intro _
      | omega
  | succ d ih =>
    intro j o5 o6 w' kz mz hjd hk hkz hmz
    have hM1 := hM.ext hk
    have h9 : j < 1000 := by omega
    have hlt : Int32.ofNat j < s.2.2.1 := oNl (B := s.2.2.1.toInt.toNat) h9 hn1 (by omega)
    have hnn := oN0 h9
    have hcl := oNc h9
    rw [eX3_pileNow_5]
    repeat' first
      | with_reducible assumption
      | with_reducible refine And.intro ?_ ?_
      | with_reducible exact vpi6 (by assumption) (by assumption)
      | with_reducible exact vpi8 (by assumption) (by assumption)
      | (rw [oN1]; exact ih (j + 1) _ _ _ _ _ (by omega) (ext_up3 hk (by assumption)) (by omega) (by omega))
      | with_reducible exact trivial
      | with_reducible exact absurd (by assumption) n10'
      | with_reducible exact n00x (by assumption)
      | with_reducible refine go_S (by first | assumption | exact MS.fr (by assumption) (by assumption)) (fun _ _ hY => ?_)
      | with_reducible exact MS.gC (by first | assumption | exact MS.fr (by assumption) (by assumption)) (by assumption)
      | with_reducible exact MS.gP (by first | assumption | exact MS.fr (by assumption) (by assumption)) (by assumption)
      | with_reducible refine sSizeF (by first | assumption | exact MS.fr (by assumption) (by assumption)) (by assumption) ?_
      | with_reducible refine gl_S (by first | assumption | exact MS.fr (by assumption) (by assumption)) ?_
      | with_reducible exact rowA.ca (by assumption)
      | with_reducible refine fX3_one (bI01 _) ?_
      | with_reducible refine sGetPj (by first | assumption | exact MS.fr (by assumption) (by assumption)) (by assumption) (by omega) (fun _ hb => ?_)
      | with_reducible exact n6a
      | with_reducible exact vpi8k ka
      | with_reducible exact vpi6k5 kw
      | with_reducible exact vpi6x.1
      | with_reducible exact vpi6x.2.1
      | with_reducible exact vpi6x.2.2.1
      | with_reducible exact vpi6x.2.2.2.1
      | with_reducible exact vpi6x.2.2.2.2.1
      | with_reducible exact vpi6x.2.2.2.2.2
      | with_reducible refine vX3_valid0 (by first | assumption | exact rowA.ext (by assumption) (ext_up2 ext.rf (by assumption))) ?_
      | with_reducible refine vX3_valid1 (by first | assumption | exact rowA.ext (by assumption) (ext_up2 ext.rf (by assumption))) ?_
      | with_reducible refine vX3_fixed (by first | assumption | exact rowA.ext (by assumption) (ext_up2 ext.rf (by assumption))) ?_
      | with_reducible refine vX3_small (by first | assumption | exact rowA.ext (by assumption) (ext_up2 ext.rf (by assumption))) ?_
      | with_reducible refine fX3_isAhead (by first | assumption | exact MS.fr (by assumption) (by assumption)) (by omega) ?_
      | (rw [plE kw])
      | with_reducible exact hQ _ hk
      | simp only [eX3_pileNow_0, eX3_pileNow_7, eX3_pileNow_7N, eX3_pileNow_8, eX3_pileNow_11, eX3_pileNow_14, eX3_pileNow_17, eX3_pileNow_17N, eX3_pileNow_18, eX3_pileNow_21, eX3_pileNow_23, eX3_pileNow_26N, eX3_pileNow_26R, eX3_pileNow_29, eX3_pileNow_29N, eX3_pileNow_31, eX3_pileNow_35, eX3_pileNow_35R, eX3_pileNow_36, eX3_pileNow_39, eX3_pileNow_39R, eX3_pileNow_40, eX3_pileNow_41, eX3_pileNow_41N, eX3_pileNow_43, eX3_pileNow_43N, eX3_pileNow_44, eX3_pileNow_47, eX3_pileNow_48, eX3_pileNow_49, eX3_pileNow_50R, eX3_pileNow_50N, eX3_pileNow_53, eX3_pileNow_54, eX3_pileNow_54R, eX3_pileNow_55, eX3_pileNow_56, eX3_pileNow_56N, eX3_pileNow_58, eX3_pileNow_58N, eX3_pileNow_59, eX3_pileNow_62, eX3_pileNow_63, eX3_pileNow_64, eX3_pileNow_65R, eX3_pileNow_65N, eX3_pileNow_68, eX3_pileNow_69, eX3_pileNow_69R, eX3_pileNow_70, eX3_pileNow_71, eX3_pileNow_71N, eX3_pileNow_73R, eX3_pileNow_73N, eX3_pileNow_76, eX3_pileNow_77, eX3_pileNow_77R, eX3_pileNow_78, eX3_pileNow_79, eX3_pileNow_79N, eX3_pileNow_81R, eX3_pileNow_81N, eX3_pileNow_84, eX3_pileNow_85, eX3_pileNow_85R, eX3_pileNow_86, eX3_pileNow_87, eX3_pileNow_87N, eX3_pileNow_88, eX3_pileNow_93, eX3_pileNow_94, eX3_pileNow_94N, eX3_pileNow_96, eX3_pileNow_97, eX3_pileNow_97N, eX3_pileNow_99, eX3_pileNow_101, eX3_pileNow_104, eX3_pileNow_112, lgp, lgn, lgz, i10, i00, if_true, if_false, eq_self, not_true, not_false_eq_true, m10, n4e, upw2q, rv0, rv1, rv2, rv3, lmi, lmx, hlt, hcl, n6e, vnB, vn1, ite_le, n45, n54, true_or, or_true, false_or, or_false, false_and, and_false, kx_l, kx_r, go_s, gl_s, gi_s, gb_s2, gb_s3, gq_s, wt_nil, wt_int, wt_long, wt_ref, wt_null, nl_int, nl_long, nl_ref, nl_null, nl_none, rf_n, rf_s, rf_st, tl_s, tl_n, g0, gS, ex1, nb_b, nb_0, nb_1, nf_i, nf_l, nf_ra, nf_ro, nf_na, nf_no, nf_b0, nf_z0, t45_4, t45_5, true_and, and_true, List.set_cons_zero, List.set_cons_succ, List.length_cons, List.length_nil, rd_s, upw_s, ne_eq, not_false_eq_true, Nat.zero_add, Nat.add_zero]
      | with_reducible refine itx (fun _ => ?_) (fun _ => ?_)
      | split
      | with_reducible intro _
      | omega
set_option maxHeartbeats 4000000 in
theorem fX3_pileNow {a c : Int32} (hM : MS g w0 y nM kd th s w) (ka : okN a) (kw : okW c 5) (hQ : ∀ w', ext g w w' → Q (.inl (some (.int (fsum (fun j => bI (pcP s.2.2.2.1 (s.1 a.toNatClampNeg) c j)) s.2.2.1.toInt.toNat)))) w') : WP (MX3_pileNow g) Q (0, [some (.ref y), some (.int a), some (.int c), none, none, none, none], [], w, 0, 0) := by
  repeat' first
    | with_reducible assumption
    | with_reducible refine And.intro ?_ ?_
    | with_reducible exact vpi6 (by assumption) (by assumption)
    | with_reducible exact vpi8 (by assumption) (by assumption)
    | with_reducible exact trivial
    | with_reducible exact absurd (by assumption) n10'
    | with_reducible exact n00x (by assumption)
    | ((with_reducible refine isWP (pc := 5) ?_); exact flX3_pileNow_5 hM ka kw hQ _ 0 _ _ _ _ _ (Nat.zero_add _) ext.rf (by decide) (by decide))
    | simp only [eX3_pileNow_0, eX3_pileNow_7, eX3_pileNow_7N, eX3_pileNow_8, eX3_pileNow_11, eX3_pileNow_14, eX3_pileNow_17, eX3_pileNow_17N, eX3_pileNow_18, eX3_pileNow_21, eX3_pileNow_23, eX3_pileNow_26N, eX3_pileNow_26R, eX3_pileNow_29, eX3_pileNow_29N, eX3_pileNow_31, eX3_pileNow_35, eX3_pileNow_35R, eX3_pileNow_36, eX3_pileNow_39, eX3_pileNow_39R, eX3_pileNow_40, eX3_pileNow_41, eX3_pileNow_41N, eX3_pileNow_43, eX3_pileNow_43N, eX3_pileNow_44, eX3_pileNow_47, eX3_pileNow_48, eX3_pileNow_49, eX3_pileNow_50R, eX3_pileNow_50N, eX3_pileNow_53, eX3_pileNow_54, eX3_pileNow_54R, eX3_pileNow_55, eX3_pileNow_56, eX3_pileNow_56N, eX3_pileNow_58, eX3_pileNow_58N, eX3_pileNow_59, eX3_pileNow_62, eX3_pileNow_63, eX3_pileNow_64, eX3_pileNow_65R, eX3_pileNow_65N, eX3_pileNow_68, eX3_pileNow_69, eX3_pileNow_69R, eX3_pileNow_70, eX3_pileNow_71, eX3_pileNow_71N, eX3_pileNow_73R, eX3_pileNow_73N, eX3_pileNow_76, eX3_pileNow_77, eX3_pileNow_77R, eX3_pileNow_78, eX3_pileNow_79, eX3_pileNow_79N, eX3_pileNow_81R, eX3_pileNow_81N, eX3_pileNow_84, eX3_pileNow_85, eX3_pileNow_85R, eX3_pileNow_86, eX3_pileNow_87, eX3_pileNow_87N, eX3_pileNow_88, eX3_pileNow_93, eX3_pileNow_94, eX3_pileNow_94N, eX3_pileNow_96, eX3_pileNow_97, eX3_pileNow_97N, eX3_pileNow_99, eX3_pileNow_101, eX3_pileNow_104, eX3_pileNow_112, lgp, lgn, lgz, i10, i00, if_true, if_false, eq_self, not_true, not_false_eq_true, m10, n4e, upw2q, rv0, rv1, rv2, rv3, lmi, lmx, ite_le, n45, n54, true_or, or_true, false_or, or_false, false_and, and_false, kx_l, kx_r, go_s, gl_s, gi_s, gb_s2, gb_s3, gq_s, wt_nil, wt_int, wt_long, wt_ref, wt_null, nl_int, nl_long, nl_ref, nl_null, nl_none, rf_n, rf_s, rf_st, tl_s, tl_n, g0, gS, ex1, nb_b, nb_0, nb_1, nf_i, nf_l, nf_ra, nf_ro, nf_na, nf_no, nf_b0, nf_z0, t45_4, t45_5, true_and, and_true, List.set_cons_zero, List.set_cons_succ, List.length_cons, List.length_nil, rd_s, upw_s, ne_eq, not_false_eq_true, Nat.zero_add, Nat.add_zero]
    | with_reducible refine itx (fun _ => ?_) (fun _ => ?_)
    | split
    | with_reducible intro _
    | omega
end
end
/-! 76.mq3.lean.txt -/
section
section
variable {g : RO} {Q : Ot → Hw → Prop} {w0 w : Hw} {y nM : Nat} {kd th : Int32} {s : AS}
set_option maxHeartbeats 8000000 in
theorem flX3_houseNow_10 {a mc : Int32} {L D1 c1 q : Nat} {h1 : Nat → Option Nat} (hM : MS g w0 y nM kd th s w) (hL : w L = some (.inr (3, [.int mc, .ref D1, .int 6]))) (hl : LL g w L D1 c1 6 h1) (hcc : ∀ i, i < 6 → cR w (h1 i) (s.2.1 i)) (hq : rd g w q = none) (kw : okW a 4) (hQ : ∀ w', ext g w w' → Q (.inl (some (.int (houV s kd a)))) w') : ∀ (d j : Nat) (lr : Int32) (o4 : Option Value) (kz mz : Nat), j + d = 6 → kz ≤ 1 → mz ≤ 4 → WP (MX3_houseNow g) Q (10, [some (.ref y), some (.int a), some (.int (fsum (fun j => bI (s.2.1 j).isSome) j)), some (.ref q), o4], [], upw w q (.inr (2, [.int (Int32.ofNat j), .int lr, .int mc, .ref L])), kz, mz) := by
  have hLq : ∀ o, upw w q o L = some (.inr (3, [.int mc, .ref D1, .int 6])) := fun o => (ext_up2 ext.rf hq).1 _ _ hL
  have e6 : (6 : Int32).toInt = 6 := rfl
  intro d
  induction d with
  | zero =>
    intro j lr o4 kz mz hjd hkz hmz
    have hcE : Int32.ofNat j = 6 := by
      obtain rfl : j = 6 := by omega
      rfl
    obtain rfl : j = 6 := by omega
    rw [eX3_houseNow_10]
    simp only [eX3_houseNow_11, go_s, wt_nil, true_and, rd_s, Nat.add_zero]
    with_reducible refine And.intro ?_ ?_
    omega
    with_reducible refine And.intro ?_ ?_
    omega
    with_reducible refine And.intro ?_ ?_
    omega
    with_reducible refine sJx35411_hasNext_aae02 (cap := 0) (upw_s _ _ _) (hLq _) (fun hcn => ?_) (fun hcn => ?_)
    simp only [eX3_houseNow_16, eX3_houseNow_19, eX3_houseNow_49, eX3_houseNow_52R, eX3_houseNow_56R, if_true, upw2q, n5e, n5e, kx_l, go_s, gi_s, wt_nil, tl_s, true_and, rd_s, upw_s, Nat.add_zero]
    with_reducible refine And.intro ?_ ?_
    with_reducible exact n5a
    with_reducible refine And.intro ?_ ?_
    omega
    with_reducible refine And.intro ?_ ?_
    omega
    with_reducible refine And.intro ?_ ?_
    omega
    with_reducible intro _
    with_reducible intro _
    with_reducible refine And.intro ?_ ?_
    with_reducible exact vpi5x.1
    with_reducible refine go_S (MS.ext hM (by first | assumption | exact ext.rf | exact ext_up2 ext.rf (by assumption) | exact ext_up3 (ext_up2 ext.rf hq) (by assumption))) (fun _ _ hY => ?_)
    simp only [eX3_houseNow_62, wt_nil, wt_int, wt_ref, g0, gS, ex1, Nat.add_zero]
    with_reducible refine And.intro ?_ ?_
    with_reducible exact MS.gP (MS.ext hM (by first | assumption | exact ext.rf | exact ext_up2 ext.rf (by assumption) | exact ext_up3 (ext_up2 ext.rf hq) (by assumption))) (by assumption)
    with_reducible refine And.intro ?_ ?_
    omega
    with_reducible refine And.intro ?_ ?_
    omega
    with_reducible refine And.intro ?_ ?_
    omega
    with_reducible refine sSizeF (MS.ext hM (by first | assumption | exact ext.rf | exact ext_up2 ext.rf (by assumption) | exact ext_up3 (ext_up2 ext.rf hq) (by assumption))) (by assumption) ?_
    simp only [eX3_houseNow_65, eX3_houseNow_66R, upw2q, kx_l, gi_s, tl_s, upw_s]
    with_reducible refine And.intro ?_ ?_
    with_reducible exact vpi5x.2.1
    with_reducible refine go_S (MS.ext hM (by first | assumption | exact ext.rf | exact ext_up2 ext.rf (by assumption) | exact ext_up3 (ext_up2 ext.rf hq) (by assumption))) (fun _ _ hY => ?_)
    simp only [eX3_houseNow_72, eX3_houseNow_73R, upw2q, gi_s, g0, gS, ex1, upw_s]
    with_reducible refine And.intro ?_ ?_
    with_reducible exact vpi5x.2.2.1
    with_reducible refine go_S (MS.ext hM (by first | assumption | exact ext.rf | exact ext_up2 ext.rf (by assumption) | exact ext_up3 (ext_up2 ext.rf hq) (by assumption))) (fun _ _ hY => ?_)
    simp only [eX3_houseNow_79, eX3_houseNow_80R, upw2q, gi_s, g0, gS, ex1, upw_s]
    with_reducible refine And.intro ?_ ?_
    with_reducible exact vpi5x.2.2.2.1
    with_reducible refine go_S (MS.ext hM (by first | assumption | exact ext.rf | exact ext_up2 ext.rf (by assumption) | exact ext_up3 (ext_up2 ext.rf hq) (by assumption))) (fun _ _ hY => ?_)
    simp only [eX3_houseNow_86, eX3_houseNow_87, eX3_houseNow_91, n4e, upw2q, gi_s, nl_int, g0, gS, ex1, rd_s, upw_s]
    with_reducible refine And.intro ?_ ?_
    with_reducible exact vpi5x.2.2.2.2
    with_reducible refine And.intro ?_ ?_
    with_reducible exact vpi5n kw.1 kw.2
    with_reducible refine And.intro ?_ ?_
    omega
    with_reducible refine And.intro ?_ ?_
    omega
    (rw [hoE kw])
    with_reducible exact hQ _ (by first | assumption | exact ext.rf | exact ext_up2 ext.rf (by assumption) | exact ext_up3 (ext_up2 ext.rf hq) (by assumption))
    with_reducible exact absurd hcE hcn
  | succ d ih =>
    intro j lr o4 kz mz hjd hkz hmz
    have h9 : j < 1000 := by omega
    have ej := oNt h9
    have hcE : ¬ Int32.ofNat j = 6 := fun e => by
      have e2 : (6 : Int32).toInt = (j : Int) := by
        rw [← e]
        exact ej
      omega
    have hj0 : 0 ≤ (Int32.ofNat j).toInt := by omega
    have hj1 : (Int32.ofNat j).toInt < (6 : Int32).toInt := by omega
    have hcl := oNc h9
    have kk := hcc j (by omega)
    have hno : h1 (Int32.ofNat j).toNatClampNeg = none → s.2.1 j = none := fun e => by
      rw [hcl] at e
      rw [e] at kk
      exact kk.n
    have hso : ∀ b1, h1 (Int32.ofNat j).toNatClampNeg = some b1 → ∃ r, s.2.1 j = some r ∧ rowA w b1 r := fun b1 e => by
      rw [hcl] at e
      rw [e] at kk
      exact kk.sm
    have hrow : ∀ b1, h1 (Int32.ofNat j).toNatClampNeg = some b1 → ∃ x, upw w q (.inr (2, [.int (Int32.ofNat j + 1), .int (Int32.ofNat j), .int mc, .ref L])) b1 = some (.inl (0, x)) := fun b1 e => by
      obtain ⟨r, -, hr⟩ := hso b1 e
      exact rowA.ca (hr.ext (ext_up2 ext.rf hq))
    rw [eX3_houseNow_10]
    simp only [eX3_houseNow_11, go_s, wt_nil, true_and, rd_s, Nat.add_zero]
    with_reducible refine And.intro ?_ ?_
    omega
    with_reducible refine And.intro ?_ ?_
    omega
    with_reducible refine And.intro ?_ ?_
    omega
    with_reducible refine sJx35411_hasNext_aae02 (cap := 0) (upw_s _ _ _) (hLq _) (fun hcn => ?_) (fun hcn => ?_)
    with_reducible exact absurd hcn hcE
    simp only [eX3_houseNow_16, eX3_houseNow_19, eX3_houseNow_49, eX3_houseNow_52R, eX3_houseNow_56R, i10, if_false, upw2q, n5e, kx_l, go_s, gi_s, wt_nil, tl_s, true_and, rd_s, upw_s, Nat.add_zero]
    with_reducible refine And.intro ?_ ?_
    omega
    with_reducible refine And.intro ?_ ?_
    omega
    with_reducible refine And.intro ?_ ?_
    omega
    with_reducible refine sJx35411_next_0502b (upw_s _ _ _) (hLq _) (hl.nq hq _).rD hj0 hj1 hl.nc hl.c15 (fun e => ?_) (fun b1 eb => ?_)
    simp only [eX3_houseNow_25N, eX3_houseNow_28N, eX3_houseNow_30, eX3_houseNow_31N, eX3_houseNow_33N, eX3_houseNow_40, eX3_houseNow_41, upw2q, kx_l, wt_nil, wt_int, nl_ref, tl_s, Nat.add_zero]
    with_reducible refine And.intro ?_ ?_
    omega
    with_reducible refine And.intro ?_ ?_
    omega
    with_reducible refine And.intro ?_ ?_
    omega
    with_reducible refine fX3_one (Or.inl rfl) ?_
    simp only [eX3_houseNow_44, kx_l, nl_int, tl_s]
    (rw [oN1, thN (hno (by assumption))]; exact ih (j + 1) _ _ _ _ (by omega) (by first | assumption | omega) (by first | assumption | omega))
    simp only [eX3_houseNow_25R, eX3_houseNow_28, eX3_houseNow_30, eX3_houseNow_31, eX3_houseNow_33R, eX3_houseNow_36, eX3_houseNow_41, upw2q, kx_l, wt_nil, wt_int, nl_ref, tl_s, Nat.add_zero]
    with_reducible refine And.intro ?_ ?_
    with_reducible exact hrow _ (by assumption)
    with_reducible refine And.intro ?_ ?_
    omega
    with_reducible refine And.intro ?_ ?_
    omega
    with_reducible refine And.intro ?_ ?_
    omega
    with_reducible refine fX3_one (Or.inr rfl) ?_
    simp only [eX3_houseNow_44, kx_l, nl_int, tl_s]
    (obtain ⟨r0, e0, -⟩ := hso _ (by assumption); rw [oN1, thT e0]; exact ih (j + 1) _ _ _ _ (by omega) (by first | assumption | omega) (by first | assumption | omega))
set_option maxHeartbeats 4000000 in
theorem fX3_houseNow {a : Int32} (hM : MS g w0 y nM kd th s w) (kw : okW a 4) (hQ : ∀ w', ext g w w' → Q (.inl (some (.int (houV s kd a)))) w') : WP (MX3_houseNow g) Q (0, [some (.ref y), some (.int a), none, none, none], [], w, 0, 0) := by
  obtain ⟨cL, pL, D1, D2, c1, c2, h1, h2, a1, a2, a3, a4, a5, a6, a7, a8, a9, b1, b2⟩ := hM.1
  obtain ⟨mc0, hL1⟩ := a3.1
  simp only [eX3_houseNow_0, nl_int]
  with_reducible refine go_YE a1 ?_
  simp only [eX3_houseNow_6, wt_nil, g0, gS, ex1, Nat.zero_add]
  with_reducible refine And.intro ?_ ?_
  with_reducible exact a3.gt
  with_reducible refine And.intro ?_ ?_
  omega
  with_reducible refine And.intro ?_ ?_
  omega
  with_reducible refine And.intro ?_ ?_
  omega
  with_reducible refine sIter1 a3 hL1 (fun q9 hq9 => ?_)
  simp only [eX3_houseNow_9, kx_l, nl_int, tl_s]
  ((with_reducible refine isWP (pc := 10) ?_); exact flX3_houseNow_10 hM hL1 a3 b1 hq9 kw hQ _ 0 _ _ _ _ (Nat.zero_add _) (by omega) (by omega))
end
end
/-! 77.dg0.lean.txt -/
section
section
variable {g : RO} {Q : Ot → Hw → Prop} {w0 w : Hw} {x nA cA lA : Nat} {kn : Int32}
def gfold (F : Int64 → Nat → Int64) (d : Int64) : Nat → Int64
  | 0 => d
  | j + 1 => F (gfold F d j) j
def dw (d v : Int64) : Int64 := d * 31 + v
def nmV (s : AS) (d v : Int64) : Int64 := dw (dw (dw (dw d (hiV v).toInt64) (loV v).toInt64) (cfold s.2.1 (hoP v 0) 6).toInt64) (cfold s.2.1 (hoP v 1) 6).toInt64
def enV (r : R4) (d : Int64) (j : Nat) : Int64 := dw (dw (dw (dw d (hiV (eV r (Int32.ofNat j))).toInt64) (loV (eV r (Int32.ofNat j))).toInt64) (nV r (eV r (Int32.ofNat j)) 0).toInt64) (nV r (eV r (Int32.ofNat j)) 1).toInt64
def caV (s : AS) (d : Int64) (r : R4) : Int64 := dw (dw (dw (dw (dw (dw (dw (dw (dw (gfold (enV r) (dw d 1) 4) (bI (decide (fP r))).toInt64) (bI (decide (sP r))).toInt64) (cfold s.2.1 (liP r) 6).toInt64) (skV s.2.2.2.1 r 0 s.2.2.1.toInt.toNat).toInt64) (skV s.2.2.2.1 r 1 s.2.2.1.toInt.toNat).toInt64) (fsum (fun j => bI (decide (mP r (s.2.2.2.1 j)))) s.2.2.1.toInt.toNat).toInt64) (wV r (-1 : Int32).toInt64).toInt64) (wV r (0 : Int32).toInt64).toInt64) (wV r (1 : Int32).toInt64).toInt64
def cdV (s : AS) (d : Int64) : Option R4 → Int64
  | none => dw d 0
  | some r => caV s d r
def fdH (s : AS) (kn : Int32) (d : Int64) (j : Nat) : Int64 := dw d (houV s kn (Int32.ofNat j)).toInt64
def fdN (s : AS) (d : Int64) (j : Nat) : Int64 := nmV s d (s.1 j)
def fdC (s : AS) (d : Int64) (j : Nat) : Int64 := cdV s d (s.2.1 j)
def fdW (s : AS) (d : Int64) (j : Nat) : Int64 := dw d (cfold s.2.1 (wiP (Int32.ofNat j)) 6).toInt64
def fdP (s : AS) (d : Int64) (j : Nat) : Int64 := dw d (fsum (fun i => bI (pcP s.2.2.2.1 (s.1 0) (Int32.ofNat j) i)) s.2.2.1.toInt.toNat).toInt64
def digV (s : AS) (kn : Int32) : Int64 := dw (gfold (fdP s) (gfold (fdW s) (gfold (fdC s) (gfold (fdN s) (gfold (fdH s kn) 7783 5) 8) 6) 3) 6) 1
theorem cdNd {s : AS} {b0 : Int64} {j : Nat} (e : s.2.1 j = none) : dw (gfold (fdC s) b0 j) 0 = gfold (fdC s) b0 (j + 1) := by
  show _ = cdV s (gfold (fdC s) b0 j) (s.2.1 j)
  rw [e]
  rfl
theorem cdSd {s : AS} {b0 : Int64} {j : Nat} {r : R4} (e : s.2.1 j = some r) : caV s (gfold (fdC s) b0 j) r = gfold (fdC s) b0 (j + 1) := by
  show _ = cdV s (gfold (fdC s) b0 j) (s.2.1 j)
  rw [e]
  rfl
theorem ls_ {a c d : Int32} (h : d.toInt = c.toInt + 1) : (c < a) = ¬ a < d := propext (by
  rw [Int32.lt_iff_toInt_lt, Int32.lt_iff_toInt_lt]
  omega)
theorem ls4 {a : Int32} : ((4 : Int32) < a) = ¬ a < 5 := ls_ (by decide)
theorem ls2 {a : Int32} : ((2 : Int32) < a) = ¬ a < 3 := ls_ (by decide)
theorem ls5 {a : Int32} : ((5 : Int32) < a) = ¬ a < 6 := ls_ (by decide)
theorem vp8j {j : Nat} (h : j < 8) : vp_in (Int32.ofNat j) 8 := by
  have h9 : j < 1000 := by omega
  refine vpi (oN0 h9) (i32_of_lt (b := 8) ?_) (by decide)
  rw [oNt h9]
  show (j : Int) < 8
  omega
theorem vp80 : vp_in (0 : Int32) 8 := vp8j (j := 0) (by omega)
theorem vX0_isSettled {p : Nat} {r : R4} (hp : rAt w p r) (hQ : Q (.inl (some (.int (bI (decide (fP r)))))) w) : WP (MX0_isSettled g) Q (0, [some (.ref p)], [], w, 0, 0) := fX0_isSettled hp (fun h => by
  rw [decide_eq_true h] at hQ
  exact hQ) (fun h => by
  rw [decide_eq_false h] at hQ
  exact hQ)
theorem vX0_fitsSmall {p : Nat} {r : R4} (hp : rAt w p r) (hQ : Q (.inl (some (.int (bI (decide (sP r)))))) w) : WP (MX0_fitsSmall g) Q (0, [some (.ref p)], [], w, 0, 0) := fX0_fitsSmall hp (fun h => by
  rw [decide_eq_true h] at hQ
  exact hQ) (fun h => by
  rw [decide_eq_false h] at hQ
  exact hQ)
theorem vX1_firstPlaceOf {s : AS} {p : Nat} {r : R4} (hC : CS g w0 x nA cA lA kn s w) (hp : rAt w p r) (hn9 : s.2.2.1.toInt.toNat ≤ 12) (hQ : Q (.inl (some (.int (skV s.2.2.2.1 r 0 s.2.2.1.toInt.toNat)))) w) : WP (MX1_firstPlaceOf g) Q (0, [some (.ref x), some (.ref p), none], [], w, 0, 0) := fX1_firstPlaceOf hC hp (fun h => by
  rw [skV_0 h] at hQ
  exact hQ) (fun i hi hm hf => by
  rw [skV_F rfl hm hf (by omega) hi] at hQ
  exact hQ)
theorem vX1_lastPlaceOf {s : AS} {p : Nat} {r : R4} (hC : CS g w0 x nA cA lA kn s w) (hp : rAt w p r) (hQ : Q (.inl (some (.int (skV s.2.2.2.1 r 1 s.2.2.1.toInt.toNat)))) w) : WP (MX1_lastPlaceOf g) Q (0, [some (.ref x), some (.ref p), none], [], w, 0, 0) := fX1_lastPlaceOf hC hp (fun h => by
  rw [skV_0 h] at hQ
  exact hQ) (fun i hi hm hl => by
  rw [skV_L (by decide) hm hi hl] at hQ
  exact hQ)
theorem okWj {j : Nat} (h : j < 3) : okW (Int32.ofNat j) 2 := by
  match j, h with
  | 0, _ => decide
  | 1, _ => decide
  | 2, _ => decide
  | j + 3, h => exact absurd h (by omega)
set_option maxHeartbeats 4000000 in
theorem fX1_with {a0 a1 : Int64}  (hQ : Q (.inl (some (.long (dw a0 a1)))) w) : WP (MX1_with g) Q (0, [some (.long a0), none, some (.long a1), none], [], w, 0, 0) := by
  repeat' first
    | with_reducible assumption
    | with_reducible refine And.intro ?_ ?_
    | with_reducible exact vpi6 (by assumption) (by assumption)
    | with_reducible exact vpi8 (by assumption) (by assumption)
    | with_reducible exact trivial
    | with_reducible exact go_F (by assumption) trivial
    | ((with_reducible refine isQ (Q := Q) ?_); exact hQ)
    | simp only [eX1_with_0, lgp, lgn, lgz, i10, i00, if_true, if_false, eq_self, not_true, not_false_eq_true, ite_le, n45, n54, true_or, or_true, false_or, or_false, false_and, and_false, kx_l, kx_r, go_s, gl_s, gi_s, gb_s2, gb_s3, gq_s, wt_nil, wt_int, wt_long, wt_ref, wt_null, nl_int, nl_long, nl_ref, nl_null, nl_none, rf_n, rf_s, rf_st, tl_s, tl_n, g0, gS, ex1, nb_b, nb_0, nb_1, nf_i, nf_l, nf_ra, nf_ro, nf_na, nf_no, nf_b0, nf_z0, t45_4, t45_5, true_and, and_true, List.set_cons_zero, List.set_cons_succ, List.length_cons, List.length_nil, rd_s, upw_s, ne_eq, not_false_eq_true, Nat.zero_add, Nat.add_zero]
    | split
    | with_reducible intro _
    | omega
set_option maxHeartbeats 4000000 in
theorem flX1_withHouse_5 {s : AS} {a0 : Int64} (hC : CS g w0 x nA cA lA kn s w) (hQ : Q (.inl (some (.long (gfold (fdH s kn) a0 5)))) w) : ∀ (d j : Nat)  (k m : Nat), j + d = 5 → k ≤ 0 → m ≤ 0 → WP (MX1_withHouse g) Q (5, [some (.ref x), some (.long a0), none, some (.long (gfold (fdH s kn) a0 j)), none, some (.int (Int32.ofNat j))], [], w, k, m) := by
  obtain ⟨gc, gl, ⟨hx, hn, hc, hl, hgc, hgl, hn0, hn1, rx, rn, rc, rl, ⟨d1, d2, d3, d4, d5, d6⟩, ⟨d7, d8, d9, d10, d11, d12⟩⟩, hcd, hpl⟩ := hC.1.opn g
  intro d
  induction d with
  | zero =>
    intro j  k m hjd hk hm
    have h9 : j < 1000 := (by omega)
    have hlt : ¬ Int32.ofNat j < 5 := oNg (B := 5) h9 rfl (by omega)
    have hnn := oN0 h9
    have hcl := oNc h9
    obtain rfl : j = 5 := by omega
    rw [eX1_withHouse_5]
    repeat' first
      | with_reducible assumption
      | with_reducible refine And.intro ?_ ?_
      | with_reducible exact vpi6 (by assumption) (by assumption)
      | with_reducible exact vpi8 (by assumption) (by assumption)
      | with_reducible exact trivial
      | with_reducible refine fX1_houseCount hC ?_
      | with_reducible refine fX1_with ?_
      | with_reducible exact go_5 hC
      | ((with_reducible refine isQ (Q := Q) ?_); exact hQ)
      | simp only [eX1_withHouse_0, eX1_withHouse_7, eX1_withHouse_11, eX1_withHouse_12, eX1_withHouse_12N, eX1_withHouse_13, eX1_withHouse_18, eX1_withHouse_22, eX1_withHouse_29, lgp, lgn, lgz, i10, i00, if_true, if_false, eq_self, not_true, not_false_eq_true, hlt, hcl, rx, rn, rc, rl, hx, hn, hc, hl, d1, d2, d3, d4, d5, d6, d7, d8, d9, d10, d11, d12, rd_n, upw_n, ls4, ite_le, n45, n54, true_or, or_true, false_or, or_false, false_and, and_false, kx_l, kx_r, go_s, gl_s, gi_s, gb_s2, gb_s3, gq_s, wt_nil, wt_int, wt_long, wt_ref, wt_null, nl_int, nl_long, nl_ref, nl_null, nl_none, rf_n, rf_s, rf_st, tl_s, tl_n, g0, gS, ex1, nb_b, nb_0, nb_1, nf_i, nf_l, nf_ra, nf_ro, nf_na, nf_no, nf_b0, nf_z0, t45_4, t45_5, true_and, and_true, List.set_cons_zero, List.set_cons_succ, List.length_cons, List.length_nil, rd_s, upw_s, ne_eq, not_false_eq_true, Nat.zero_add, Nat.add_zero]
      | split
      | with_reducible intro _
      | omega
  | succ d ih =>
    intro j  k m hjd hk hm
    have h9 : j < 1000 := (by omega)
    have hlt : Int32.ofNat j < 5 := oNl (B := 5) h9 rfl (by omega)
    have hnn := oN0 h9
    have hcl := oNc h9
    rw [eX1_withHouse_5]
    repeat' first
      | with_reducible assumption
      | with_reducible refine And.intro ?_ ?_
      | with_reducible exact vpi6 (by assumption) (by assumption)
      | with_reducible exact vpi8 (by assumption) (by assumption)
      | with_reducible exact trivial
      | (rw [oN1]; exact ih (j + 1)  _ _ (by omega) (by first | assumption | omega) (by first | assumption | omega))
      | with_reducible refine fX1_houseCount hC ?_
      | with_reducible refine fX1_with ?_
      | with_reducible exact go_5 hC
      | ((with_reducible refine isQ (Q := Q) ?_); exact hQ)
      | simp only [eX1_withHouse_0, eX1_withHouse_7, eX1_withHouse_11, eX1_withHouse_12, eX1_withHouse_12N, eX1_withHouse_13, eX1_withHouse_18, eX1_withHouse_22, eX1_withHouse_29, lgp, lgn, lgz, i10, i00, if_true, if_false, eq_self, not_true, not_false_eq_true, hlt, hcl, rx, rn, rc, rl, hx, hn, hc, hl, d1, d2, d3, d4, d5, d6, d7, d8, d9, d10, d11, d12, rd_n, upw_n, ls4, ite_le, n45, n54, true_or, or_true, false_or, or_false, false_and, and_false, kx_l, kx_r, go_s, gl_s, gi_s, gb_s2, gb_s3, gq_s, wt_nil, wt_int, wt_long, wt_ref, wt_null, nl_int, nl_long, nl_ref, nl_null, nl_none, rf_n, rf_s, rf_st, tl_s, tl_n, g0, gS, ex1, nb_b, nb_0, nb_1, nf_i, nf_l, nf_ra, nf_ro, nf_na, nf_no, nf_b0, nf_z0, t45_4, t45_5, true_and, and_true, List.set_cons_zero, List.set_cons_succ, List.length_cons, List.length_nil, rd_s, upw_s, ne_eq, not_false_eq_true, Nat.zero_add, Nat.add_zero]
      | split
      | with_reducible intro _
      | omega
set_option maxHeartbeats 4000000 in
theorem fX1_withHouse {s : AS} {a0 : Int64} (hC : CS g w0 x nA cA lA kn s w) (hQ : Q (.inl (some (.long (gfold (fdH s kn) a0 5)))) w) : WP (MX1_withHouse g) Q (0, [some (.ref x), some (.long a0), none, none, none, none], [], w, 0, 0) := by
  repeat' first
    | with_reducible assumption
    | with_reducible refine And.intro ?_ ?_
    | with_reducible exact vpi6 (by assumption) (by assumption)
    | with_reducible exact vpi8 (by assumption) (by assumption)
    | with_reducible exact trivial
    | ((with_reducible refine isWP (pc := 5) ?_); exact flX1_withHouse_5 hC hQ 5 0 _ _ rfl (by decide) (by decide))
    | simp only [eX1_withHouse_0, eX1_withHouse_7, eX1_withHouse_11, eX1_withHouse_12, eX1_withHouse_12N, eX1_withHouse_13, eX1_withHouse_18, eX1_withHouse_22, eX1_withHouse_29, lgp, lgn, lgz, i10, i00, if_true, if_false, eq_self, not_true, not_false_eq_true, ite_le, n45, n54, true_or, or_true, false_or, or_false, false_and, and_false, kx_l, kx_r, go_s, gl_s, gi_s, gb_s2, gb_s3, gq_s, wt_nil, wt_int, wt_long, wt_ref, wt_null, nl_int, nl_long, nl_ref, nl_null, nl_none, rf_n, rf_s, rf_st, tl_s, tl_n, g0, gS, ex1, nb_b, nb_0, nb_1, nf_i, nf_l, nf_ra, nf_ro, nf_na, nf_no, nf_b0, nf_z0, t45_4, t45_5, true_and, and_true, List.set_cons_zero, List.set_cons_succ, List.length_cons, List.length_nil, rd_s, upw_s, ne_eq, not_false_eq_true, Nat.zero_add, Nat.add_zero]
    | split
    | with_reducible intro _
    | omega
set_option maxHeartbeats 4000000 in
theorem fX1_withNumber {s : AS} {a0 a1 : Int64} (hC : CS g w0 x nA cA lA kn s w) (hQ : Q (.inl (some (.long (nmV s a0 a1)))) w) : WP (MX1_withNumber g) Q (0, [some (.ref x), some (.long a0), none, some (.long a1), none, none, none], [], w, 0, 0) := by
  repeat' first
    | with_reducible assumption
    | with_reducible refine And.intro ?_ ?_
    | with_reducible exact vpi6 (by assumption) (by assumption)
    | with_reducible exact vpi8 (by assumption) (by assumption)
    | with_reducible exact trivial
    | with_reducible refine fX1_highOf ?_
    | with_reducible refine fX1_lowOf ?_
    | with_reducible refine fX1_holdersOf hC ?_
    | with_reducible refine fX1_with ?_
    | with_reducible exact go_5 hC
    | ((with_reducible refine isQ (Q := Q) ?_); exact hQ)
    | simp only [eX1_withNumber_0, eX1_withNumber_5, eX1_withNumber_9, eX1_withNumber_17, eX1_withNumber_21, eX1_withNumber_25, eX1_withNumber_25N, eX1_withNumber_26, eX1_withNumber_31, eX1_withNumber_35, eX1_withNumber_39, eX1_withNumber_39N, eX1_withNumber_40, eX1_withNumber_45, eX1_withNumber_49, lgp, lgn, lgz, i10, i00, if_true, if_false, eq_self, not_true, not_false_eq_true, ite_le, n45, n54, true_or, or_true, false_or, or_false, false_and, and_false, kx_l, kx_r, go_s, gl_s, gi_s, gb_s2, gb_s3, gq_s, wt_nil, wt_int, wt_long, wt_ref, wt_null, nl_int, nl_long, nl_ref, nl_null, nl_none, rf_n, rf_s, rf_st, tl_s, tl_n, g0, gS, ex1, nb_b, nb_0, nb_1, nf_i, nf_l, nf_ra, nf_ro, nf_na, nf_no, nf_b0, nf_z0, t45_4, t45_5, true_and, and_true, List.set_cons_zero, List.set_cons_succ, List.length_cons, List.length_nil, rd_s, upw_s, ne_eq, not_false_eq_true, Nat.zero_add, Nat.add_zero]
    | split
    | with_reducible intro _
    | omega
set_option maxHeartbeats 4000000 in
theorem flX1_withEnds_5 {a0 : Int64} {p : Nat} {r : R4} (hp : rAt w p r) (hQ : Q (.inl (some (.long (gfold (enV r) a0 4)))) w) : ∀ (d j : Nat) (i6 : Option Value) (i7 : Option Value) (k m : Nat), j + d = 4 → k ≤ 0 → m ≤ 0 → WP (MX1_withEnds g) Q (5, [some (.long a0), none, some (.ref p), some (.long (gfold (enV r) a0 j)), none, some (.int (Int32.ofNat j)), i6, i7], [], w, k, m) := by
  intro d
  induction d with
  | zero =>
    intro j i6 i7 k m hjd hk hm
    have h9 : j < 1000 := (by omega)
    have hlt : ¬ Int32.ofNat j < 4 := oNg (B := 4) h9 rfl (by omega)
    have hnn := oN0 h9
    have hcl := oNc h9
    obtain rfl : j = 4 := by omega
    rw [eX1_withEnds_5]
    repeat' first
      | with_reducible assumption
      | with_reducible refine And.intro ?_ ?_
      | with_reducible exact vpi6 (by assumption) (by assumption)
      | with_reducible exact vpi8 (by assumption) (by assumption)
      | with_reducible exact trivial
      | with_reducible refine fX0_endAt hp ?_
      | with_reducible refine fX1_highOf ?_
      | with_reducible refine fX1_lowOf ?_
      | with_reducible refine fX1_neighboursIn hp ?_
      | with_reducible exact go_F hp trivial
      | with_reducible refine fX1_with ?_
      | ((with_reducible refine isQ (Q := Q) ?_); exact hQ)
      | simp only [eX1_withEnds_0, eX1_withEnds_7, eX1_withEnds_11, eX1_withEnds_11N, eX1_withEnds_12, eX1_withEnds_17, eX1_withEnds_25, eX1_withEnds_29, eX1_withEnds_36, eX1_withEnds_40, eX1_withEnds_42, eX1_withEnds_42N, eX1_withEnds_43, eX1_withEnds_46R, eX1_withEnds_46N, eX1_withEnds_49, eX1_withEnds_53, eX1_withEnds_55, eX1_withEnds_55N, eX1_withEnds_56, eX1_withEnds_59R, eX1_withEnds_59N, eX1_withEnds_62, eX1_withEnds_66, eX1_withEnds_73, lgp, lgn, lgz, i10, i00, if_true, if_false, eq_self, not_true, not_false_eq_true, hlt, hcl, ite_le, n45, n54, true_or, or_true, false_or, or_false, false_and, and_false, kx_l, kx_r, go_s, gl_s, gi_s, gb_s2, gb_s3, gq_s, wt_nil, wt_int, wt_long, wt_ref, wt_null, nl_int, nl_long, nl_ref, nl_null, nl_none, rf_n, rf_s, rf_st, tl_s, tl_n, g0, gS, ex1, nb_b, nb_0, nb_1, nf_i, nf_l, nf_ra, nf_ro, nf_na, nf_no, nf_b0, nf_z0, t45_4, t45_5, true_and, and_true, List.set_cons_zero, List.set_cons_succ, List.length_cons, List.length_nil, rd_s, upw_s, ne_eq, not_false_eq_true, Nat.zero_add, Nat.add_zero]
      | split
      | with_reducible intro _
      | omega
  | succ d ih =>
    intro j i6 i7 k m hjd hk hm
    have h9 : j < 1000 := (by omega)
    have hlt : Int32.ofNat j < 4 := oNl (B := 4) h9 rfl (by omega)
    have hnn := oN0 h9
    have hcl := oNc h9
    rw [eX1_withEnds_5]
    repeat' first
      | with_reducible assumption
      | with_reducible refine And.intro ?_ ?_
      | with_reducible exact vpi6 (by assumption) (by assumption)
      | with_reducible exact vpi8 (by assumption) (by assumption)
      | with_reducible exact trivial
      | (rw [oN1]; exact ih (j + 1) _ _ _ _ (by omega) (by first | assumption | omega) (by first | assumption | omega))
      | with_reducible refine fX0_endAt hp ?_
      | with_reducible refine fX1_highOf ?_
      | with_reducible refine fX1_lowOf ?_
      | with_reducible refine fX1_neighboursIn hp ?_
      | with_reducible exact go_F hp trivial
      | with_reducible refine fX1_with ?_
      | ((with_reducible refine isQ (Q := Q) ?_); exact hQ)
      | simp only [eX1_withEnds_0, eX1_withEnds_7, eX1_withEnds_11, eX1_withEnds_11N, eX1_withEnds_12, eX1_withEnds_17, eX1_withEnds_25, eX1_withEnds_29, eX1_withEnds_36, eX1_withEnds_40, eX1_withEnds_42, eX1_withEnds_42N, eX1_withEnds_43, eX1_withEnds_46R, eX1_withEnds_46N, eX1_withEnds_49, eX1_withEnds_53, eX1_withEnds_55, eX1_withEnds_55N, eX1_withEnds_56, eX1_withEnds_59R, eX1_withEnds_59N, eX1_withEnds_62, eX1_withEnds_66, eX1_withEnds_73, lgp, lgn, lgz, i10, i00, if_true, if_false, eq_self, not_true, not_false_eq_true, hlt, hcl, ite_le, n45, n54, true_or, or_true, false_or, or_false, false_and, and_false, kx_l, kx_r, go_s, gl_s, gi_s, gb_s2, gb_s3, gq_s, wt_nil, wt_int, wt_long, wt_ref, wt_null, nl_int, nl_long, nl_ref, nl_null, nl_none, rf_n, rf_s, rf_st, tl_s, tl_n, g0, gS, ex1, nb_b, nb_0, nb_1, nf_i, nf_l, nf_ra, nf_ro, nf_na, nf_no, nf_b0, nf_z0, t45_4, t45_5, true_and, and_true, List.set_cons_zero, List.set_cons_succ, List.length_cons, List.length_nil, rd_s, upw_s, ne_eq, not_false_eq_true, Nat.zero_add, Nat.add_zero]
      | split
      | with_reducible intro _
      | omega
set_option maxHeartbeats 4000000 in
theorem fX1_withEnds {a0 : Int64} {p : Nat} {r : R4} (hp : rAt w p r) (hQ : Q (.inl (some (.long (gfold (enV r) a0 4)))) w) : WP (MX1_withEnds g) Q (0, [some (.long a0), none, some (.ref p), none, none, none, none, none], [], w, 0, 0) := by
  repeat' first
    | with_reducible assumption
    | with_reducible refine And.intro ?_ ?_
    | with_reducible exact vpi6 (by assumption) (by assumption)
    | with_reducible exact vpi8 (by assumption) (by assumption)
    | with_reducible exact trivial
    | ((with_reducible refine isWP (pc := 5) ?_); exact flX1_withEnds_5 hp hQ 4 0 _ _ _ _ rfl (by decide) (by decide))
    | simp only [eX1_withEnds_0, eX1_withEnds_7, eX1_withEnds_11, eX1_withEnds_11N, eX1_withEnds_12, eX1_withEnds_17, eX1_withEnds_25, eX1_withEnds_29, eX1_withEnds_36, eX1_withEnds_40, eX1_withEnds_42, eX1_withEnds_42N, eX1_withEnds_43, eX1_withEnds_46R, eX1_withEnds_46N, eX1_withEnds_49, eX1_withEnds_53, eX1_withEnds_55, eX1_withEnds_55N, eX1_withEnds_56, eX1_withEnds_59R, eX1_withEnds_59N, eX1_withEnds_62, eX1_withEnds_66, eX1_withEnds_73, lgp, lgn, lgz, i10, i00, if_true, if_false, eq_self, not_true, not_false_eq_true, ite_le, n45, n54, true_or, or_true, false_or, or_false, false_and, and_false, kx_l, kx_r, go_s, gl_s, gi_s, gb_s2, gb_s3, gq_s, wt_nil, wt_int, wt_long, wt_ref, wt_null, nl_int, nl_long, nl_ref, nl_null, nl_none, rf_n, rf_s, rf_st, tl_s, tl_n, g0, gS, ex1, nb_b, nb_0, nb_1, nf_i, nf_l, nf_ra, nf_ro, nf_na, nf_no, nf_b0, nf_z0, t45_4, t45_5, true_and, and_true, List.set_cons_zero, List.set_cons_succ, List.length_cons, List.length_nil, rd_s, upw_s, ne_eq, not_false_eq_true, Nat.zero_add, Nat.add_zero]
    | split
    | with_reducible intro _
    | omega
set_option maxHeartbeats 4000000 in
theorem fX1_withCardN {s : AS} {a0 : Int64} (hC : CS g w0 x nA cA lA kn s w) (hQ : Q (.inl (some (.long (dw a0 0)))) w) : WP (MX1_withCard g) Q (0, [some (.ref x), some (.long a0), none, some .null, none, none, none], [], w, 0, 0) := by
  repeat' first
    | with_reducible assumption
    | with_reducible refine And.intro ?_ ?_
    | with_reducible exact vpi6 (by assumption) (by assumption)
    | with_reducible exact vpi8 (by assumption) (by assumption)
    | with_reducible exact trivial
    | with_reducible refine fX1_with ?_
    | ((with_reducible refine isQ (Q := Q) ?_); exact hQ)
    | simp only [eX1_withCard_0, eX1_withCard_0N, eX1_withCard_1R, eX1_withCard_1N, eX1_withCard_4, eX1_withCard_9, eX1_withCard_10, eX1_withCard_15, eX1_withCard_15N, eX1_withCard_16R, eX1_withCard_16N, eX1_withCard_19, eX1_withCard_23, eX1_withCard_23N, eX1_withCard_24, eX1_withCard_27, eX1_withCard_30, eX1_withCard_34, eX1_withCard_38, eX1_withCard_38N, eX1_withCard_39, eX1_withCard_42, eX1_withCard_45, eX1_withCard_49, eX1_withCard_53, eX1_withCard_53N, eX1_withCard_54, eX1_withCard_54N, eX1_withCard_55R, eX1_withCard_55N, eX1_withCard_58, eX1_withCard_62, eX1_withCard_66, eX1_withCard_66N, eX1_withCard_67, eX1_withCard_67N, eX1_withCard_68R, eX1_withCard_68N, eX1_withCard_71, eX1_withCard_75, eX1_withCard_79, eX1_withCard_79N, eX1_withCard_80, eX1_withCard_80N, eX1_withCard_81R, eX1_withCard_81N, eX1_withCard_84, eX1_withCard_88, eX1_withCard_92, eX1_withCard_92N, eX1_withCard_93, eX1_withCard_93N, eX1_withCard_94R, eX1_withCard_94N, eX1_withCard_97, eX1_withCard_101, eX1_withCard_106, eX1_withCard_112, eX1_withCard_114, eX1_withCard_114N, eX1_withCard_115, eX1_withCard_118R, eX1_withCard_118N, eX1_withCard_121, eX1_withCard_125, eX1_withCard_133, lgp, lgn, lgz, i10, i00, if_true, if_false, eq_self, not_true, not_false_eq_true, ite_le, n45, n54, true_or, or_true, false_or, or_false, false_and, and_false, kx_l, kx_r, go_s, gl_s, gi_s, gb_s2, gb_s3, gq_s, wt_nil, wt_int, wt_long, wt_ref, wt_null, nl_int, nl_long, nl_ref, nl_null, nl_none, rf_n, rf_s, rf_st, tl_s, tl_n, g0, gS, ex1, nb_b, nb_0, nb_1, nf_i, nf_l, nf_ra, nf_ro, nf_na, nf_no, nf_b0, nf_z0, t45_4, t45_5, true_and, and_true, List.set_cons_zero, List.set_cons_succ, List.length_cons, List.length_nil, rd_s, upw_s, ne_eq, not_false_eq_true, Nat.zero_add, Nat.add_zero]
    | split
    | with_reducible intro _
    | omega
set_option maxHeartbeats 4000000 in
theorem fX1_withCardR {s : AS} {a0 : Int64} {p : Nat} {r : R4} (hC : CS g w0 x nA cA lA kn s w) (hp : rAt w p r) (hQ : Q (.inl (some (.long (caV s a0 r)))) w) : WP (MX1_withCard g) Q (0, [some (.ref x), some (.long a0), none, some (.ref p), none, none, none], [], w, 0, 0) := by
  obtain ⟨gc, gl, ⟨hx, hn, hc, hl, hgc, hgl, hn0, hn1, rx, rn, rc, rl, ⟨d1, d2, d3, d4, d5, d6⟩, ⟨d7, d8, d9, d10, d11, d12⟩⟩, hcd, hpl⟩ := hC.1.opn g
  repeat' first
    | with_reducible assumption
    | with_reducible refine And.intro ?_ ?_
    | with_reducible exact vpi6 (by assumption) (by assumption)
    | with_reducible exact vpi8 (by assumption) (by assumption)
    | with_reducible exact trivial
    | with_reducible refine fX1_withEnds hp ?_
    | with_reducible refine vX0_isSettled hp ?_
    | with_reducible refine vX0_fitsSmall hp ?_
    | with_reducible refine fX1_asNumber (bI01 _) ?_
    | with_reducible refine fX1_cardsLike hC hp ?_
    | with_reducible refine vX1_firstPlaceOf hC hp (cnt12 hn0 hn1).2 ?_
    | with_reducible refine vX1_lastPlaceOf hC hp ?_
    | with_reducible refine fX1_timesLaid hC hp ?_
    | with_reducible refine fX1_validityIn hp ?_
    | with_reducible exact go_F hp trivial
    | with_reducible exact go_5 hC
    | with_reducible refine fX1_with ?_
    | ((with_reducible refine isQ (Q := Q) ?_); exact hQ)
    | simp only [eX1_withCard_0, eX1_withCard_0N, eX1_withCard_1R, eX1_withCard_1N, eX1_withCard_4, eX1_withCard_9, eX1_withCard_10, eX1_withCard_15, eX1_withCard_15N, eX1_withCard_16R, eX1_withCard_16N, eX1_withCard_19, eX1_withCard_23, eX1_withCard_23N, eX1_withCard_24, eX1_withCard_27, eX1_withCard_30, eX1_withCard_34, eX1_withCard_38, eX1_withCard_38N, eX1_withCard_39, eX1_withCard_42, eX1_withCard_45, eX1_withCard_49, eX1_withCard_53, eX1_withCard_53N, eX1_withCard_54, eX1_withCard_54N, eX1_withCard_55R, eX1_withCard_55N, eX1_withCard_58, eX1_withCard_62, eX1_withCard_66, eX1_withCard_66N, eX1_withCard_67, eX1_withCard_67N, eX1_withCard_68R, eX1_withCard_68N, eX1_withCard_71, eX1_withCard_75, eX1_withCard_79, eX1_withCard_79N, eX1_withCard_80, eX1_withCard_80N, eX1_withCard_81R, eX1_withCard_81N, eX1_withCard_84, eX1_withCard_88, eX1_withCard_92, eX1_withCard_92N, eX1_withCard_93, eX1_withCard_93N, eX1_withCard_94R, eX1_withCard_94N, eX1_withCard_97, eX1_withCard_101, eX1_withCard_106, eX1_withCard_112, eX1_withCard_114, eX1_withCard_114N, eX1_withCard_115, eX1_withCard_118R, eX1_withCard_118N, eX1_withCard_121, eX1_withCard_125, eX1_withCard_133, lgp, lgn, lgz, i10, i00, if_true, if_false, eq_self, not_true, not_false_eq_true, rx, rn, rc, rl, hx, hn, hc, hl, d1, d2, d3, d4, d5, d6, d7, d8, d9, d10, d11, d12, rd_n, upw_n, ar1, ar2, ar3, ac1, ac2, ac3, ac4, ite_le, n45, n54, true_or, or_true, false_or, or_false, false_and, and_false, kx_l, kx_r, go_s, gl_s, gi_s, gb_s2, gb_s3, gq_s, wt_nil, wt_int, wt_long, wt_ref, wt_null, nl_int, nl_long, nl_ref, nl_null, nl_none, rf_n, rf_s, rf_st, tl_s, tl_n, g0, gS, ex1, nb_b, nb_0, nb_1, nf_i, nf_l, nf_ra, nf_ro, nf_na, nf_no, nf_b0, nf_z0, t45_4, t45_5, true_and, and_true, List.set_cons_zero, List.set_cons_succ, List.length_cons, List.length_nil, rd_s, upw_s, ne_eq, not_false_eq_true, Nat.zero_add, Nat.add_zero]
    | split
    | with_reducible intro _
    | omega
set_option maxHeartbeats 4000000 in
theorem flX1_withWhichAndPile_32 {s : AS} {a0 b0 : Int64} (hC : CS g w0 x nA cA lA kn s w) (hQ : Q (.inl (some (.long (gfold (fdP s) b0 6)))) w) : ∀ (d j : Nat)  (k m : Nat), j + d = 6 → k ≤ 0 → m ≤ 0 → WP (MX1_withWhichAndPile g) Q (32, [some (.ref x), some (.long a0), none, some (.long (gfold (fdP s) b0 j)), none, some (.int (Int32.ofNat j))], [], w, k, m) := by
  obtain ⟨gc, gl, ⟨hx, hn, hc, hl, hgc, hgl, hn0, hn1, rx, rn, rc, rl, ⟨d1, d2, d3, d4, d5, d6⟩, ⟨d7, d8, d9, d10, d11, d12⟩⟩, hcd, hpl⟩ := hC.1.opn g
  intro d
  induction d with
  | zero =>
    intro j  k m hjd hk hm
    have h9 : j < 1000 := (by omega)
    have hlt : ¬ Int32.ofNat j < 6 := oNg (B := 6) h9 rfl (by omega)
    have hnn := oN0 h9
    have hcl := oNc h9
    obtain rfl : j = 6 := by omega
    rw [eX1_withWhichAndPile_32]
    repeat' first
      | with_reducible assumption
      | with_reducible refine And.intro ?_ ?_
      | with_reducible exact vpi6 (by assumption) (by assumption)
      | with_reducible exact vpi8 (by assumption) (by assumption)
      | with_reducible exact trivial
      | with_reducible refine fX1_pileCount hC ?_
      | with_reducible exact vp80
      | with_reducible refine fX1_with ?_
      | with_reducible exact go_5 hC
      | ((with_reducible refine isQ (Q := Q) ?_); exact hQ)
      | simp only [eX1_withWhichAndPile_0, eX1_withWhichAndPile_7, eX1_withWhichAndPile_11, eX1_withWhichAndPile_12, eX1_withWhichAndPile_12N, eX1_withWhichAndPile_13, eX1_withWhichAndPile_18, eX1_withWhichAndPile_22, eX1_withWhichAndPile_29, eX1_withWhichAndPile_34, eX1_withWhichAndPile_38, eX1_withWhichAndPile_39, eX1_withWhichAndPile_39N, eX1_withWhichAndPile_40, eX1_withWhichAndPile_40N, eX1_withWhichAndPile_41, eX1_withWhichAndPile_44, eX1_withWhichAndPile_46, eX1_withWhichAndPile_51, eX1_withWhichAndPile_55, eX1_withWhichAndPile_62, lgp, lgn, lgz, i10, i00, if_true, if_false, eq_self, not_true, not_false_eq_true, hlt, hcl, rx, rn, rc, rl, hx, hn, hc, hl, d1, d2, d3, d4, d5, d6, d7, d8, d9, d10, d11, d12, rd_n, upw_n, ls5, ite_le, n45, n54, true_or, or_true, false_or, or_false, false_and, and_false, kx_l, kx_r, go_s, gl_s, gi_s, gb_s2, gb_s3, gq_s, wt_nil, wt_int, wt_long, wt_ref, wt_null, nl_int, nl_long, nl_ref, nl_null, nl_none, rf_n, rf_s, rf_st, tl_s, tl_n, g0, gS, ex1, nb_b, nb_0, nb_1, nf_i, nf_l, nf_ra, nf_ro, nf_na, nf_no, nf_b0, nf_z0, t45_4, t45_5, true_and, and_true, List.set_cons_zero, List.set_cons_succ, List.length_cons, List.length_nil, rd_s, upw_s, ne_eq, not_false_eq_true, Nat.zero_add, Nat.add_zero]
      | split
      | with_reducible intro _
      | omega
  | succ d ih =>
    intro j  k m hjd hk hm
    have h9 : j < 1000 := (by omega)
    have hlt : Int32.ofNat j < 6 := oNl (B := 6) h9 rfl (by omega)
    have hnn := oN0 h9
    have hcl := oNc h9
    rw [eX1_withWhichAndPile_32]
    repeat' first
      | with_reducible assumption
      | with_reducible refine And.intro ?_ ?_
      | with_reducible exact vpi6 (by assumption) (by assumption)
      | with_reducible exact vpi8 (by assumption) (by assumption)
      | with_reducible exact trivial
      | (rw [oN1]; exact ih (j + 1)  _ _ (by omega) (by first | assumption | omega) (by first | assumption | omega))
      | with_reducible refine fX1_pileCount hC ?_
      | with_reducible exact vp80
      | with_reducible refine fX1_with ?_
      | with_reducible exact go_5 hC
      | ((with_reducible refine isQ (Q := Q) ?_); exact hQ)
      | simp only [eX1_withWhichAndPile_0, eX1_withWhichAndPile_7, eX1_withWhichAndPile_11, eX1_withWhichAndPile_12, eX1_withWhichAndPile_12N, eX1_withWhichAndPile_13, eX1_withWhichAndPile_18, eX1_withWhichAndPile_22, eX1_withWhichAndPile_29, eX1_withWhichAndPile_34, eX1_withWhichAndPile_38, eX1_withWhichAndPile_39, eX1_withWhichAndPile_39N, eX1_withWhichAndPile_40, eX1_withWhichAndPile_40N, eX1_withWhichAndPile_41, eX1_withWhichAndPile_44, eX1_withWhichAndPile_46, eX1_withWhichAndPile_51, eX1_withWhichAndPile_55, eX1_withWhichAndPile_62, lgp, lgn, lgz, i10, i00, if_true, if_false, eq_self, not_true, not_false_eq_true, hlt, hcl, rx, rn, rc, rl, hx, hn, hc, hl, d1, d2, d3, d4, d5, d6, d7, d8, d9, d10, d11, d12, rd_n, upw_n, ls5, ite_le, n45, n54, true_or, or_true, false_or, or_false, false_and, and_false, kx_l, kx_r, go_s, gl_s, gi_s, gb_s2, gb_s3, gq_s, wt_nil, wt_int, wt_long, wt_ref, wt_null, nl_int, nl_long, nl_ref, nl_null, nl_none, rf_n, rf_s, rf_st, tl_s, tl_n, g0, gS, ex1, nb_b, nb_0, nb_1, nf_i, nf_l, nf_ra, nf_ro, nf_na, nf_no, nf_b0, nf_z0, t45_4, t45_5, true_and, and_true, List.set_cons_zero, List.set_cons_succ, List.length_cons, List.length_nil, rd_s, upw_s, ne_eq, not_false_eq_true, Nat.zero_add, Nat.add_zero]
      | split
      | with_reducible intro _
      | omega
set_option maxHeartbeats 4000000 in
theorem flX1_withWhichAndPile_5 {s : AS} {a0 b0 : Int64} (hC : CS g w0 x nA cA lA kn s w) (hQ : Q (.inl (some (.long (gfold (fdP s) (gfold (fdW s) b0 3) 6)))) w) : ∀ (d j : Nat)  (k m : Nat), j + d = 3 → k ≤ 0 → m ≤ 0 → WP (MX1_withWhichAndPile g) Q (5, [some (.ref x), some (.long a0), none, some (.long (gfold (fdW s) b0 j)), none, some (.int (Int32.ofNat j))], [], w, k, m) := by
  obtain ⟨gc, gl, ⟨hx, hn, hc, hl, hgc, hgl, hn0, hn1, rx, rn, rc, rl, ⟨d1, d2, d3, d4, d5, d6⟩, ⟨d7, d8, d9, d10, d11, d12⟩⟩, hcd, hpl⟩ := hC.1.opn g
  intro d
  induction d with
  | zero =>
    intro j  k m hjd hk hm
    have h9 : j < 1000 := (by omega)
    have hlt : ¬ Int32.ofNat j < 3 := oNg (B := 3) h9 rfl (by omega)
    have hnn := oN0 h9
    have hcl := oNc h9
    obtain rfl : j = 3 := by omega
    rw [eX1_withWhichAndPile_5]
    repeat' first
      | with_reducible assumption
      | with_reducible refine And.intro ?_ ?_
      | with_reducible exact vpi6 (by assumption) (by assumption)
      | with_reducible exact vpi8 (by assumption) (by assumption)
      | with_reducible exact trivial
      | ((with_reducible refine isWP (pc := 32) ?_); exact flX1_withWhichAndPile_32 hC hQ 6 0 _ _ rfl (by assumption) (by assumption))
      | with_reducible refine fX1_cardsThatAre hC (okWj (j := j) (by omega)) ?_
      | with_reducible refine fX1_with ?_
      | with_reducible exact go_5 hC
      | simp only [eX1_withWhichAndPile_0, eX1_withWhichAndPile_7, eX1_withWhichAndPile_11, eX1_withWhichAndPile_12, eX1_withWhichAndPile_12N, eX1_withWhichAndPile_13, eX1_withWhichAndPile_18, eX1_withWhichAndPile_22, eX1_withWhichAndPile_29, eX1_withWhichAndPile_34, eX1_withWhichAndPile_38, eX1_withWhichAndPile_39, eX1_withWhichAndPile_39N, eX1_withWhichAndPile_40, eX1_withWhichAndPile_40N, eX1_withWhichAndPile_41, eX1_withWhichAndPile_44, eX1_withWhichAndPile_46, eX1_withWhichAndPile_51, eX1_withWhichAndPile_55, eX1_withWhichAndPile_62, lgp, lgn, lgz, i10, i00, if_true, if_false, eq_self, not_true, not_false_eq_true, hlt, hcl, rx, rn, rc, rl, hx, hn, hc, hl, d1, d2, d3, d4, d5, d6, d7, d8, d9, d10, d11, d12, rd_n, upw_n, ls2, ite_le, n45, n54, true_or, or_true, false_or, or_false, false_and, and_false, kx_l, kx_r, go_s, gl_s, gi_s, gb_s2, gb_s3, gq_s, wt_nil, wt_int, wt_long, wt_ref, wt_null, nl_int, nl_long, nl_ref, nl_null, nl_none, rf_n, rf_s, rf_st, tl_s, tl_n, g0, gS, ex1, nb_b, nb_0, nb_1, nf_i, nf_l, nf_ra, nf_ro, nf_na, nf_no, nf_b0, nf_z0, t45_4, t45_5, true_and, and_true, List.set_cons_zero, List.set_cons_succ, List.length_cons, List.length_nil, rd_s, upw_s, ne_eq, not_false_eq_true, Nat.zero_add, Nat.add_zero]
      | split
      | with_reducible intro _
      | omega
  | succ d ih =>
    intro j  k m hjd hk hm
    have h9 : j < 1000 := (by omega)
    have hlt : Int32.ofNat j < 3 := oNl (B := 3) h9 rfl (by omega)
    have hnn := oN0 h9
    have hcl := oNc h9
    rw [eX1_withWhichAndPile_5]
    repeat' first
      | with_reducible assumption
      | with_reducible refine And.intro ?_ ?_
      | with_reducible exact vpi6 (by assumption) (by assumption)
      | with_reducible exact vpi8 (by assumption) (by assumption)
      | with_reducible exact trivial
      | (rw [oN1]; exact ih (j + 1)  _ _ (by omega) (by first | assumption | omega) (by first | assumption | omega))
      | ((with_reducible refine isWP (pc := 32) ?_); exact flX1_withWhichAndPile_32 hC hQ 6 0 _ _ rfl (by assumption) (by assumption))
      | with_reducible refine fX1_cardsThatAre hC (okWj (j := j) (by omega)) ?_
      | with_reducible refine fX1_with ?_
      | with_reducible exact go_5 hC
      | simp only [eX1_withWhichAndPile_0, eX1_withWhichAndPile_7, eX1_withWhichAndPile_11, eX1_withWhichAndPile_12, eX1_withWhichAndPile_12N, eX1_withWhichAndPile_13, eX1_withWhichAndPile_18, eX1_withWhichAndPile_22, eX1_withWhichAndPile_29, eX1_withWhichAndPile_34, eX1_withWhichAndPile_38, eX1_withWhichAndPile_39, eX1_withWhichAndPile_39N, eX1_withWhichAndPile_40, eX1_withWhichAndPile_40N, eX1_withWhichAndPile_41, eX1_withWhichAndPile_44, eX1_withWhichAndPile_46, eX1_withWhichAndPile_51, eX1_withWhichAndPile_55, eX1_withWhichAndPile_62, lgp, lgn, lgz, i10, i00, if_true, if_false, eq_self, not_true, not_false_eq_true, hlt, hcl, rx, rn, rc, rl, hx, hn, hc, hl, d1, d2, d3, d4, d5, d6, d7, d8, d9, d10, d11, d12, rd_n, upw_n, ls2, ite_le, n45, n54, true_or, or_true, false_or, or_false, false_and, and_false, kx_l, kx_r, go_s, gl_s, gi_s, gb_s2, gb_s3, gq_s, wt_nil, wt_int, wt_long, wt_ref, wt_null, nl_int, nl_long, nl_ref, nl_null, nl_none, rf_n, rf_s, rf_st, tl_s, tl_n, g0, gS, ex1, nb_b, nb_0, nb_1, nf_i, nf_l, nf_ra, nf_ro, nf_na, nf_no, nf_b0, nf_z0, t45_4, t45_5, true_and, and_true, List.set_cons_zero, List.set_cons_succ, List.length_cons, List.length_nil, rd_s, upw_s, ne_eq, not_false_eq_true, Nat.zero_add, Nat.add_zero]
      | split
      | with_reducible intro _
      | omega
set_option maxHeartbeats 4000000 in
theorem fX1_withWhichAndPile {s : AS} {a0 : Int64} (hC : CS g w0 x nA cA lA kn s w) (hQ : Q (.inl (some (.long (gfold (fdP s) (gfold (fdW s) a0 3) 6)))) w) : WP (MX1_withWhichAndPile g) Q (0, [some (.ref x), some (.long a0), none, none, none, none], [], w, 0, 0) := by
  repeat' first
    | with_reducible assumption
    | with_reducible refine And.intro ?_ ?_
    | with_reducible exact vpi6 (by assumption) (by assumption)
    | with_reducible exact vpi8 (by assumption) (by assumption)
    | with_reducible exact trivial
    | ((with_reducible refine isWP (pc := 5) ?_); exact flX1_withWhichAndPile_5 hC hQ 3 0 _ _ rfl (by decide) (by decide))
    | simp only [eX1_withWhichAndPile_0, eX1_withWhichAndPile_7, eX1_withWhichAndPile_11, eX1_withWhichAndPile_12, eX1_withWhichAndPile_12N, eX1_withWhichAndPile_13, eX1_withWhichAndPile_18, eX1_withWhichAndPile_22, eX1_withWhichAndPile_29, eX1_withWhichAndPile_34, eX1_withWhichAndPile_38, eX1_withWhichAndPile_39, eX1_withWhichAndPile_39N, eX1_withWhichAndPile_40, eX1_withWhichAndPile_40N, eX1_withWhichAndPile_41, eX1_withWhichAndPile_44, eX1_withWhichAndPile_46, eX1_withWhichAndPile_51, eX1_withWhichAndPile_55, eX1_withWhichAndPile_62, lgp, lgn, lgz, i10, i00, if_true, if_false, eq_self, not_true, not_false_eq_true, ite_le, n45, n54, true_or, or_true, false_or, or_false, false_and, and_false, kx_l, kx_r, go_s, gl_s, gi_s, gb_s2, gb_s3, gq_s, wt_nil, wt_int, wt_long, wt_ref, wt_null, nl_int, nl_long, nl_ref, nl_null, nl_none, rf_n, rf_s, rf_st, tl_s, tl_n, g0, gS, ex1, nb_b, nb_0, nb_1, nf_i, nf_l, nf_ra, nf_ro, nf_na, nf_no, nf_b0, nf_z0, t45_4, t45_5, true_and, and_true, List.set_cons_zero, List.set_cons_succ, List.length_cons, List.length_nil, rd_s, upw_s, ne_eq, not_false_eq_true, Nat.zero_add, Nat.add_zero]
    | split
    | with_reducible intro _
    | omega
set_option maxHeartbeats 4000000 in
theorem flX1_digest_36 {s : AS} {b0 : Int64} (hC : CS g w0 x nA cA lA kn s w) (ho : sOk s) (hQ : ∀ w', ext g w w' → Q (.inl (some (.long (dw (gfold (fdP s) (gfold (fdW s) (gfold (fdC s) b0 6) 3) 6) 1)))) w') : ∀ (d j : Nat)  (k m : Nat), j + d = 6 → k ≤ 0 → m ≤ 0 → WP (MX1_digest g) Q (36, [some (.ref x), some (.long (gfold (fdC s) b0 j)), none, some (.int (Int32.ofNat j))], [], w, k, m) := by
  obtain ⟨gc, gl, ⟨hx, hn, hc, hl, hgc, hgl, hn0, hn1, rx, rn, rc, rl, ⟨d1, d2, d3, d4, d5, d6⟩, ⟨d7, d8, d9, d10, d11, d12⟩⟩, hcd, hpl⟩ := hC.1.opn g
  intro d
  induction d with
  | zero =>
    intro j  k m hjd hk hm
    have h9 : j < 1000 := (by omega)
    have hlt : ¬ Int32.ofNat j < 6 := oNg (B := 6) h9 rfl (by omega)
    have hnn := oN0 h9
    have hcl := oNc h9
    obtain rfl : j = 6 := by omega
    rw [eX1_digest_36]
    repeat' first
      | with_reducible assumption
      | with_reducible refine And.intro ?_ ?_
      | with_reducible exact vpi6 (by assumption) (by assumption)
      | with_reducible exact vpi8 (by assumption) (by assumption)
      | with_reducible exact trivial
      | (rw [oN1, cdNd (cjN hcd (j := j) (by omega) (by assumption))]; exact ih (j + 1) _ _ (by omega) (by first | assumption | omega) (by first | assumption | omega))
      | (rw [oN1, cdSd e0]; exact ih (j + 1) _ _ (by omega) (by first | assumption | omega) (by first | assumption | omega))
      | with_reducible refine fX1_withCardN hC ?_
      | (obtain ⟨r0, e0, hp0⟩ := cjS hcd (j := j) (by omega) (by assumption); with_reducible refine fX1_withCardR hC hp0 ?_)
      | with_reducible refine fX1_withWhichAndPile hC ?_
      | with_reducible refine fX1_isSound hC ho (fun w9 k9 => ?_)
      | with_reducible refine fX1_asNumber (Or.inr rfl) ?_
      | with_reducible refine fX1_with ?_
      | with_reducible exact go_5 hC
      | ((with_reducible refine isQ (Q := Q) ?_); exact hQ _ (by assumption))
      | simp only [eX1_digest_0, eX1_digest_0N, eX1_digest_1, eX1_digest_7, eX1_digest_11, eX1_digest_16, eX1_digest_16N, eX1_digest_17, eX1_digest_18, eX1_digest_18N, eX1_digest_19, eX1_digest_22, eX1_digest_24, eX1_digest_27, eX1_digest_34, eX1_digest_37, eX1_digest_42, eX1_digest_42N, eX1_digest_43, eX1_digest_44, eX1_digest_44N, eX1_digest_45, eX1_digest_48, eX1_digest_50R, eX1_digest_50N, eX1_digest_53, eX1_digest_60, eX1_digest_60N, eX1_digest_61, eX1_digest_65, eX1_digest_67, eX1_digest_67N, eX1_digest_68, eX1_digest_71, eX1_digest_74, eX1_digest_78, lgp, lgn, lgz, i10, i00, if_true, if_false, eq_self, not_true, not_false_eq_true, hlt, hcl, rx, rn, rc, rl, hx, hn, hc, hl, d1, d2, d3, d4, d5, d6, d7, d8, d9, d10, d11, d12, rd_n, upw_n, ite_le, n45, n54, true_or, or_true, false_or, or_false, false_and, and_false, kx_l, kx_r, go_s, gl_s, gi_s, gb_s2, gb_s3, gq_s, wt_nil, wt_int, wt_long, wt_ref, wt_null, nl_int, nl_long, nl_ref, nl_null, nl_none, rf_n, rf_s, rf_st, tl_s, tl_n, g0, gS, ex1, nb_b, nb_0, nb_1, nf_i, nf_l, nf_ra, nf_ro, nf_na, nf_no, nf_b0, nf_z0, t45_4, t45_5, true_and, and_true, List.set_cons_zero, List.set_cons_succ, List.length_cons, List.length_nil, rd_s, upw_s, ne_eq, not_false_eq_true, Nat.zero_add, Nat.add_zero]
      | split
      | with_reducible intro _
      | omega
  | succ d ih =>
    intro j  k m hjd hk hm
    have h9 : j < 1000 := (by omega)
    have hlt : Int32.ofNat j < 6 := oNl (B := 6) h9 rfl (by omega)
    have hnn := oN0 h9
    have hcl := oNc h9
    rw [eX1_digest_36]
    repeat' first
      | with_reducible assumption
      | with_reducible refine And.intro ?_ ?_
      | with_reducible exact vpi6 (by assumption) (by assumption)
      | with_reducible exact vpi8 (by assumption) (by assumption)
      | with_reducible exact trivial
      | (rw [oN1]; exact ih (j + 1)  _ _ (by omega) (by first | assumption | omega) (by first | assumption | omega))
      | (rw [oN1, cdNd (cjN hcd (j := j) (by omega) (by assumption))]; exact ih (j + 1) _ _ (by omega) (by first | assumption | omega) (by first | assumption | omega))
      | (rw [oN1, cdSd e0]; exact ih (j + 1) _ _ (by omega) (by first | assumption | omega) (by first | assumption | omega))
      | with_reducible refine fX1_withCardN hC ?_
      | (obtain ⟨r0, e0, hp0⟩ := cjS hcd (j := j) (by omega) (by assumption); with_reducible refine fX1_withCardR hC hp0 ?_)
      | with_reducible refine fX1_withWhichAndPile hC ?_
      | with_reducible refine fX1_isSound hC ho (fun w9 k9 => ?_)
      | with_reducible refine fX1_asNumber (Or.inr rfl) ?_
      | with_reducible refine fX1_with ?_
      | with_reducible exact go_5 hC
      | ((with_reducible refine isQ (Q := Q) ?_); exact hQ _ (by assumption))
      | simp only [eX1_digest_0, eX1_digest_0N, eX1_digest_1, eX1_digest_7, eX1_digest_11, eX1_digest_16, eX1_digest_16N, eX1_digest_17, eX1_digest_18, eX1_digest_18N, eX1_digest_19, eX1_digest_22, eX1_digest_24, eX1_digest_27, eX1_digest_34, eX1_digest_37, eX1_digest_42, eX1_digest_42N, eX1_digest_43, eX1_digest_44, eX1_digest_44N, eX1_digest_45, eX1_digest_48, eX1_digest_50R, eX1_digest_50N, eX1_digest_53, eX1_digest_60, eX1_digest_60N, eX1_digest_61, eX1_digest_65, eX1_digest_67, eX1_digest_67N, eX1_digest_68, eX1_digest_71, eX1_digest_74, eX1_digest_78, lgp, lgn, lgz, i10, i00, if_true, if_false, eq_self, not_true, not_false_eq_true, hlt, hcl, rx, rn, rc, rl, hx, hn, hc, hl, d1, d2, d3, d4, d5, d6, d7, d8, d9, d10, d11, d12, rd_n, upw_n, ite_le, n45, n54, true_or, or_true, false_or, or_false, false_and, and_false, kx_l, kx_r, go_s, gl_s, gi_s, gb_s2, gb_s3, gq_s, wt_nil, wt_int, wt_long, wt_ref, wt_null, nl_int, nl_long, nl_ref, nl_null, nl_none, rf_n, rf_s, rf_st, tl_s, tl_n, g0, gS, ex1, nb_b, nb_0, nb_1, nf_i, nf_l, nf_ra, nf_ro, nf_na, nf_no, nf_b0, nf_z0, t45_4, t45_5, true_and, and_true, List.set_cons_zero, List.set_cons_succ, List.length_cons, List.length_nil, rd_s, upw_s, ne_eq, not_false_eq_true, Nat.zero_add, Nat.add_zero]
      | split
      | with_reducible intro _
      | omega
set_option maxHeartbeats 4000000 in
theorem flX1_digest_10 {s : AS} {b0 : Int64} (hC : CS g w0 x nA cA lA kn s w) (ho : sOk s) (hQ : ∀ w', ext g w w' → Q (.inl (some (.long (dw (gfold (fdP s) (gfold (fdW s) (gfold (fdC s) (gfold (fdN s) b0 8) 6) 3) 6) 1)))) w') : ∀ (d j : Nat)  (k m : Nat), j + d = 8 → k ≤ 0 → m ≤ 0 → WP (MX1_digest g) Q (10, [some (.ref x), some (.long (gfold (fdN s) b0 j)), none, some (.int (Int32.ofNat j))], [], w, k, m) := by
  obtain ⟨gc, gl, ⟨hx, hn, hc, hl, hgc, hgl, hn0, hn1, rx, rn, rc, rl, ⟨d1, d2, d3, d4, d5, d6⟩, ⟨d7, d8, d9, d10, d11, d12⟩⟩, hcd, hpl⟩ := hC.1.opn g
  intro d
  induction d with
  | zero =>
    intro j  k m hjd hk hm
    have h9 : j < 1000 := (by omega)
    have hlt : ¬ Int32.ofNat j < 8 := oNg (B := 8) h9 rfl (by omega)
    have hnn := oN0 h9
    have hcl := oNc h9
    obtain rfl : j = 8 := by omega
    rw [eX1_digest_10]
    repeat' first
      | with_reducible assumption
      | with_reducible refine And.intro ?_ ?_
      | with_reducible exact vpi6 (by assumption) (by assumption)
      | with_reducible exact vpi8 (by assumption) (by assumption)
      | with_reducible exact trivial
      | ((with_reducible refine isWP (pc := 36) ?_); exact flX1_digest_36 hC ho hQ 6 0 _ _ rfl (by assumption) (by assumption))
      | with_reducible exact vp8j (j := j) (by omega)
      | with_reducible refine fX1_withNumber hC ?_
      | with_reducible exact go_5 hC
      | simp only [eX1_digest_0, eX1_digest_0N, eX1_digest_1, eX1_digest_7, eX1_digest_11, eX1_digest_16, eX1_digest_16N, eX1_digest_17, eX1_digest_18, eX1_digest_18N, eX1_digest_19, eX1_digest_22, eX1_digest_24, eX1_digest_27, eX1_digest_34, eX1_digest_37, eX1_digest_42, eX1_digest_42N, eX1_digest_43, eX1_digest_44, eX1_digest_44N, eX1_digest_45, eX1_digest_48, eX1_digest_50R, eX1_digest_50N, eX1_digest_53, eX1_digest_60, eX1_digest_60N, eX1_digest_61, eX1_digest_65, eX1_digest_67, eX1_digest_67N, eX1_digest_68, eX1_digest_71, eX1_digest_74, eX1_digest_78, lgp, lgn, lgz, i10, i00, if_true, if_false, eq_self, not_true, not_false_eq_true, hlt, hcl, rx, rn, rc, rl, hx, hn, hc, hl, d1, d2, d3, d4, d5, d6, d7, d8, d9, d10, d11, d12, rd_n, upw_n, ite_le, n45, n54, true_or, or_true, false_or, or_false, false_and, and_false, kx_l, kx_r, go_s, gl_s, gi_s, gb_s2, gb_s3, gq_s, wt_nil, wt_int, wt_long, wt_ref, wt_null, nl_int, nl_long, nl_ref, nl_null, nl_none, rf_n, rf_s, rf_st, tl_s, tl_n, g0, gS, ex1, nb_b, nb_0, nb_1, nf_i, nf_l, nf_ra, nf_ro, nf_na, nf_no, nf_b0, nf_z0, t45_4, t45_5, true_and, and_true, List.set_cons_zero, List.set_cons_succ, List.length_cons, List.length_nil, rd_s, upw_s, ne_eq, not_false_eq_true, Nat.zero_add, Nat.add_zero]
      | split
      | with_reducible intro _
      | omega
  | succ d ih =>
    intro j  k m hjd hk hm
    have h9 : j < 1000 := (by omega)
    have hlt : Int32.ofNat j < 8 := oNl (B := 8) h9 rfl (by omega)
    have hnn := oN0 h9
    have hcl := oNc h9
    rw [eX1_digest_10]
    repeat' first
      | with_reducible assumption
      | with_reducible refine And.intro ?_ ?_
      | with_reducible exact vpi6 (by assumption) (by assumption)
      | with_reducible exact vpi8 (by assumption) (by assumption)
      | with_reducible exact trivial
      | (rw [oN1]; exact ih (j + 1)  _ _ (by omega) (by first | assumption | omega) (by first | assumption | omega))
      | ((with_reducible refine isWP (pc := 36) ?_); exact flX1_digest_36 hC ho hQ 6 0 _ _ rfl (by assumption) (by assumption))
      | with_reducible exact vp8j (j := j) (by omega)
      | with_reducible refine fX1_withNumber hC ?_
      | with_reducible exact go_5 hC
      | simp only [eX1_digest_0, eX1_digest_0N, eX1_digest_1, eX1_digest_7, eX1_digest_11, eX1_digest_16, eX1_digest_16N, eX1_digest_17, eX1_digest_18, eX1_digest_18N, eX1_digest_19, eX1_digest_22, eX1_digest_24, eX1_digest_27, eX1_digest_34, eX1_digest_37, eX1_digest_42, eX1_digest_42N, eX1_digest_43, eX1_digest_44, eX1_digest_44N, eX1_digest_45, eX1_digest_48, eX1_digest_50R, eX1_digest_50N, eX1_digest_53, eX1_digest_60, eX1_digest_60N, eX1_digest_61, eX1_digest_65, eX1_digest_67, eX1_digest_67N, eX1_digest_68, eX1_digest_71, eX1_digest_74, eX1_digest_78, lgp, lgn, lgz, i10, i00, if_true, if_false, eq_self, not_true, not_false_eq_true, hlt, hcl, rx, rn, rc, rl, hx, hn, hc, hl, d1, d2, d3, d4, d5, d6, d7, d8, d9, d10, d11, d12, rd_n, upw_n, ite_le, n45, n54, true_or, or_true, false_or, or_false, false_and, and_false, kx_l, kx_r, go_s, gl_s, gi_s, gb_s2, gb_s3, gq_s, wt_nil, wt_int, wt_long, wt_ref, wt_null, nl_int, nl_long, nl_ref, nl_null, nl_none, rf_n, rf_s, rf_st, tl_s, tl_n, g0, gS, ex1, nb_b, nb_0, nb_1, nf_i, nf_l, nf_ra, nf_ro, nf_na, nf_no, nf_b0, nf_z0, t45_4, t45_5, true_and, and_true, List.set_cons_zero, List.set_cons_succ, List.length_cons, List.length_nil, rd_s, upw_s, ne_eq, not_false_eq_true, Nat.zero_add, Nat.add_zero]
      | split
      | with_reducible intro _
      | omega
set_option maxHeartbeats 4000000 in
theorem fX1_digest {s : AS} (hC : CS g w0 x nA cA lA kn s w) (ho : sOk s) (hQ : ∀ w', ext g w w' → Q (.inl (some (.long (digV s kn)))) w') : WP (MX1_digest g) Q (0, [some (.ref x), none, none, none], [], w, 0, 0) := by
  repeat' first
    | with_reducible assumption
    | with_reducible refine And.intro ?_ ?_
    | with_reducible exact vpi6 (by assumption) (by assumption)
    | with_reducible exact vpi8 (by assumption) (by assumption)
    | with_reducible exact trivial
    | with_reducible refine fX1_withHouse hC ?_
    | ((with_reducible refine isWP (pc := 10) ?_); exact flX1_digest_10 hC ho hQ 8 0 _ _ rfl (by decide) (by decide))
    | with_reducible exact go_5 hC
    | simp only [eX1_digest_0, eX1_digest_0N, eX1_digest_1, eX1_digest_7, eX1_digest_11, eX1_digest_16, eX1_digest_16N, eX1_digest_17, eX1_digest_18, eX1_digest_18N, eX1_digest_19, eX1_digest_22, eX1_digest_24, eX1_digest_27, eX1_digest_34, eX1_digest_37, eX1_digest_42, eX1_digest_42N, eX1_digest_43, eX1_digest_44, eX1_digest_44N, eX1_digest_45, eX1_digest_48, eX1_digest_50R, eX1_digest_50N, eX1_digest_53, eX1_digest_60, eX1_digest_60N, eX1_digest_61, eX1_digest_65, eX1_digest_67, eX1_digest_67N, eX1_digest_68, eX1_digest_71, eX1_digest_74, eX1_digest_78, lgp, lgn, lgz, i10, i00, if_true, if_false, eq_self, not_true, not_false_eq_true, ite_le, n45, n54, true_or, or_true, false_or, or_false, false_and, and_false, kx_l, kx_r, go_s, gl_s, gi_s, gb_s2, gb_s3, gq_s, wt_nil, wt_int, wt_long, wt_ref, wt_null, nl_int, nl_long, nl_ref, nl_null, nl_none, rf_n, rf_s, rf_st, tl_s, tl_n, g0, gS, ex1, nb_b, nb_0, nb_1, nf_i, nf_l, nf_ra, nf_ro, nf_na, nf_no, nf_b0, nf_z0, t45_4, t45_5, true_and, and_true, List.set_cons_zero, List.set_cons_succ, List.length_cons, List.length_nil, rd_s, upw_s, ne_eq, not_false_eq_true, Nat.zero_add, Nat.add_zero]
    | split
    | with_reducible intro _
    | omega
end
end
/-! 77.dg1.lean.txt -/
section
section
variable {g : RO} {Q : Ot → Hw → Prop} {w0 w : Hw} {y nM : Nat} {kd th : Int32} {s : AS}
theorem fX3_isBareN {j : Nat} (hM : MS g w0 y nM kd th s w) (h : j < 6) (e : s.2.1 j = none) (hQ : Q (.inl (some (.int 1))) w) : WP (MX3_isBare g) Q (0, [some (.ref y), some (.int (Int32.ofNat j))], [], w, 0, 0) := fX3_isBarej hM h (fun _ => hQ) (fun r k => by
  rw [e] at k
  cases k)
theorem fX3_isBareS {j : Nat} {r : R4} (hM : MS g w0 y nM kd th s w) (h : j < 6) (e : s.2.1 j = some r) (hQ : Q (.inl (some (.int 0))) w) : WP (MX3_isBare g) Q (0, [some (.ref y), some (.int (Int32.ofNat j))], [], w, 0, 0) := fX3_isBarej hM h (fun k => by
  rw [e] at k
  cases k) (fun _ _ => hQ)
theorem vX3_whoNow0 {a : Int32} (hM : MS g w0 y nM kd th s w) (ka : okN a) (hQ : Q (.inl (some (.int (cfold s.2.1 (hoP (s.1 a.toNatClampNeg) 0) 6)))) w) : WP (MX3_whoNow g) Q (0, [some (.ref y), some (.int a), some (.int 0), none, none], [], w, 0, 0) := fX3_whoNow hM ka (by
  rw [if_neg (by decide : ¬ (0 : Int32) = 1)]
  exact hQ)
theorem vX3_whoNow1 {a : Int32} (hM : MS g w0 y nM kd th s w) (ka : okN a) (hQ : Q (.inl (some (.int (cfold s.2.1 (hoP (s.1 a.toNatClampNeg) 1) 6)))) w) : WP (MX3_whoNow g) Q (0, [some (.ref y), some (.int a), some (.int 1), none, none], [], w, 0, 0) := fX3_whoNow hM ka (by
  rw [if_pos (rfl : (1 : Int32) = 1)]
  exact hQ)
theorem okNj {j : Nat} (h : j < 8) : okN (Int32.ofNat j) := ⟨oN0 (by omega), oNl (B := 8) (by omega) rfl h⟩
theorem okW3j {j : Nat} (h : j < 4) : okW (Int32.ofNat j) 3 := by
  match j, h with
  | 0, _ => decide
  | 1, _ => decide
  | 2, _ => decide
  | 3, _ => decide
  | j + 4, h => exact absurd h (by omega)
theorem okW5j {j : Nat} (h : j < 6) : okW (Int32.ofNat j) 5 := by
  match j, h with
  | 0, _ => decide
  | 1, _ => decide
  | 2, _ => decide
  | 3, _ => decide
  | 4, _ => decide
  | 5, _ => decide
  | j + 6, h => exact absurd h (by omega)
theorem okW4j {j : Nat} (h : j < 5) : okW (Int32.ofNat j) 4 := by
  match j, h with
  | 0, _ => decide
  | 1, _ => decide
  | 2, _ => decide
  | 3, _ => decide
  | 4, _ => decide
  | j + 5, h => exact absurd h (by omega)
theorem okN0 : okN 0 := by decide
theorem cdN0 {s : AS} {b0 : Int64} {j : Nat} (e : s.2.1 j = none) : dw (gfold (fdC s) b0 j) (0 : Int32).toInt64 = gfold (fdC s) b0 (j + 1) := cdNd e
theorem cdS1 {s : AS} {b0 : Int64} {j : Nat} {r : R4} (e : s.2.1 j = some r) : dw (dw (dw (dw (dw (dw (dw (dw (dw (gfold (enV r) (dw (gfold (fdC s) b0 j) (1 : Int32).toInt64) 4) (bI (decide (fP r))).toInt64) (bI (decide (sP r))).toInt64) (cfold s.2.1 (liP r) 6).toInt64) (skV s.2.2.2.1 r 0 s.2.2.1.toInt.toNat).toInt64) (skV s.2.2.2.1 r 1 s.2.2.1.toInt.toNat).toInt64) (fsum (fun j => bI (decide (mP r (s.2.2.2.1 j)))) s.2.2.1.toInt.toNat).toInt64) (wV r (-1 : Int32).toInt64).toInt64) (wV r (0 : Int32).toInt64).toInt64) (wV r (1 : Int32).toInt64).toInt64 = gfold (fdC s) b0 (j + 1) := cdSd e
set_option maxHeartbeats 4000000 in
theorem fX3_add {a b : Int64} (hQ : Q (.inl (some (.long (dw a b)))) w) : WP (MX3_add g) Q (0, [some (.long a), none, some (.long b), none], [], w, 0, 0) := by
  repeat' first
    | with_reducible assumption
    | with_reducible refine And.intro ?_ ?_
    | with_reducible exact vpi6 (by assumption) (by assumption)
    | with_reducible exact vpi8 (by assumption) (by assumption)
    | with_reducible exact trivial
    | with_reducible exact absurd (by assumption) n10'
    | with_reducible exact n00x (by assumption)
    | ((with_reducible refine isQ (Q := Q) ?_); exact hQ)
    | simp only [eX3_add_0, lgp, lgn, lgz, i10, i00, if_true, if_false, eq_self, not_true, not_false_eq_true, m10, n4e, upw2q, rv0, rv1, rv2, rv3, lmi, lmx, ite_le, n45, n54, true_or, or_true, false_or, or_false, false_and, and_false, kx_l, kx_r, go_s, gl_s, gi_s, gb_s2, gb_s3, gq_s, wt_nil, wt_int, wt_long, wt_ref, wt_null, nl_int, nl_long, nl_ref, nl_null, nl_none, rf_n, rf_s, rf_st, tl_s, tl_n, g0, gS, ex1, nb_b, nb_0, nb_1, nf_i, nf_l, nf_ra, nf_ro, nf_na, nf_no, nf_b0, nf_z0, t45_4, t45_5, true_and, and_true, List.set_cons_zero, List.set_cons_succ, List.length_cons, List.length_nil, rd_s, upw_s, ne_eq, not_false_eq_true, Nat.zero_add, Nat.add_zero]
    | split
    | with_reducible intro _
    | omega
set_option maxHeartbeats 4000000 in
theorem fX3_oftenNowE {a : Int32} {r : R4} (hM : MS g w0 y nM kd th s w) (k : okC a) (e1 : s.2.1 a.toNatClampNeg = some r) (hQ : ∀ w', ext g w w' → Q (.inl (some (.int (fsum (fun j => bI (decide (mP r (s.2.2.2.1 j)))) s.2.2.1.toInt.toNat)))) w') : WP (MX3_oftenNow g) Q (0, [some (.ref y), some (.int a), none, none, none], [], w, 0, 0) := by
  obtain ⟨cL, pL, D1, D2, c1, c2, h1, h2, a1, a2, a3, a4, a5, a6, a7, a8, a9, b1, b2⟩ := hM.1
  obtain ⟨mc0, hL1⟩ := a5.1
  repeat' first
    | with_reducible assumption
    | with_reducible refine And.intro ?_ ?_
    | with_reducible exact vpi6 (by assumption) (by assumption)
    | with_reducible exact vpi8 (by assumption) (by assumption)
    | with_reducible exact trivial
    | with_reducible exact absurd (by assumption) n10'
    | with_reducible exact n00x (by assumption)
    | with_reducible refine go_YE a1 ?_
    | with_reducible exact a5.gt
    | with_reducible refine sIter1 a5 hL1 (fun q9 hq9 => ?_)
    | ((with_reducible refine isWP (pc := 10) ?_); exact flX3_oftenNow_10 hM k e1 hL1 a5 b2 hq9 hQ _ 0 _ _ _ _ (Nat.zero_add _) (by omega) (by omega))
    | simp only [eX3_oftenNow_0, eX3_oftenNow_2, eX3_oftenNow_2N, eX3_oftenNow_3, eX3_oftenNow_6, eX3_oftenNow_9, eX3_oftenNow_9N, eX3_oftenNow_11, eX3_oftenNow_16, eX3_oftenNow_19, eX3_oftenNow_19N, eX3_oftenNow_20, eX3_oftenNow_25N, eX3_oftenNow_25R, eX3_oftenNow_28, eX3_oftenNow_28N, eX3_oftenNow_30, eX3_oftenNow_31, eX3_oftenNow_31N, eX3_oftenNow_33, eX3_oftenNow_33N, eX3_oftenNow_34, eX3_oftenNow_37, eX3_oftenNow_38, eX3_oftenNow_41N, eX3_oftenNow_41R, eX3_oftenNow_44RR, eX3_oftenNow_44NR, eX3_oftenNow_44RN, eX3_oftenNow_44NN, eX3_oftenNow_47, eX3_oftenNow_50, eX3_oftenNow_55, lgp, lgn, lgz, i10, i00, if_true, if_false, eq_self, not_true, not_false_eq_true, m10, n4e, upw2q, rv0, rv1, rv2, rv3, lmi, lmx, ite_le, n45, n54, true_or, or_true, false_or, or_false, false_and, and_false, kx_l, kx_r, go_s, gl_s, gi_s, gb_s2, gb_s3, gq_s, wt_nil, wt_int, wt_long, wt_ref, wt_null, nl_int, nl_long, nl_ref, nl_null, nl_none, rf_n, rf_s, rf_st, tl_s, tl_n, g0, gS, ex1, nb_b, nb_0, nb_1, nf_i, nf_l, nf_ra, nf_ro, nf_na, nf_no, nf_b0, nf_z0, t45_4, t45_5, true_and, and_true, List.set_cons_zero, List.set_cons_succ, List.length_cons, List.length_nil, rd_s, upw_s, ne_eq, not_false_eq_true, Nat.zero_add, Nat.add_zero]
    | split
    | with_reducible intro _
    | omega
set_option maxHeartbeats 8000000 in
theorem fX3_digest_340 {b0 : Int64} (hM : MS g w0 y nM kd th s w) (hQ : ∀ w', ext g w w' → Q (.inl (some (.long (dw (gfold (fdP s) b0 6) 1)))) w') : ∀ (d j : Nat) (o4 o5 : Option Value) (w' : Hw) (kz mz : Nat), j + d = 6 → ext g w w' → kz ≤ 16 + 12 * j → mz ≤ 69 + 72 * j → WP (MX3_digest g) Q (340, [some (.ref y), some (.long (gfold (fdP s) b0 j)), none, some (.int (Int32.ofNat j)), o4, o5], [], w', kz, mz) := by
  intro d
  induction d with
  | zero =>
    intro j o4 o5 w' kz mz hjd hk hkz hmz
    have hM1 := hM.ext hk
    have h9 : j < 1000 := by omega
    have hlt : ¬ Int32.ofNat j < 6 := oNg (B := 6) h9 rfl (by omega)
    have hnn := oN0 h9
    have hcl := oNc h9
    obtain rfl : j = 6 := by omega
    rw [eX3_digest_340]
    repeat' first
      | with_reducible assumption
      | with_reducible refine And.intro ?_ ?_
      | with_reducible exact vpi6 (by assumption) (by assumption)
      | with_reducible exact vpi8 (by assumption) (by assumption)
      | with_reducible exact trivial
      | with_reducible exact absurd (by assumption) n10'
      | with_reducible exact n00x (by assumption)
      | with_reducible refine fX3_add ?_
      | with_reducible refine go_S (by first | exact hM1 | exact MS.ext hM1 (by assumption)) (fun _ _ hY => ?_)
      | with_reducible exact MS.gC (by first | exact hM1 | exact MS.ext hM1 (by assumption)) (by assumption)
      | with_reducible exact MS.gP (by first | exact hM1 | exact MS.ext hM1 (by assumption)) (by assumption)
      | with_reducible refine gl_S (by first | exact hM1 | exact MS.ext hM1 (by assumption)) ?_
      | with_reducible refine fX3_high ?_
      | with_reducible refine fX3_low ?_
      | with_reducible refine fX3_one (bI01 _) ?_
      | with_reducible refine fX3_one (Or.inl rfl) ?_
      | with_reducible refine fX3_one (Or.inr rfl) ?_
      | ((with_reducible refine isQ (Q := Q) ?_); exact hQ _ hk)
      | simp only [eX3_digest_0, eX3_digest_0N, eX3_digest_1, eX3_digest_5, eX3_digest_12, eX3_digest_16, eX3_digest_17, eX3_digest_17N, eX3_digest_18, eX3_digest_22, eX3_digest_26, eX3_digest_33, eX3_digest_36, eX3_digest_41, eX3_digest_42, eX3_digest_42N, eX3_digest_43, eX3_digest_46, eX3_digest_48, eX3_digest_51, eX3_digest_55, eX3_digest_55N, eX3_digest_56, eX3_digest_59, eX3_digest_61, eX3_digest_64, eX3_digest_68, eX3_digest_68N, eX3_digest_69, eX3_digest_74, eX3_digest_78, eX3_digest_78N, eX3_digest_79, eX3_digest_84, eX3_digest_88, eX3_digest_95, eX3_digest_98, eX3_digest_103, eX3_digest_104, eX3_digest_104N, eX3_digest_105, eX3_digest_109, eX3_digest_112, eX3_digest_116, eX3_digest_117, eX3_digest_120, eX3_digest_124, eX3_digest_125, eX3_digest_125N, eX3_digest_126, eX3_digest_130, eX3_digest_133, eX3_digest_136, eX3_digest_136N, eX3_digest_137, eX3_digest_140, eX3_digest_144N, eX3_digest_144R, eX3_digest_147, eX3_digest_147N, eX3_digest_149, eX3_digest_154, eX3_digest_158, eX3_digest_159, eX3_digest_159N, eX3_digest_161, eX3_digest_164, eX3_digest_167, eX3_digest_171, eX3_digest_171N, eX3_digest_173, eX3_digest_176, eX3_digest_179, eX3_digest_183, eX3_digest_183N, eX3_digest_185, eX3_digest_188R, eX3_digest_188N, eX3_digest_191, eX3_digest_195, eX3_digest_195N, eX3_digest_197, eX3_digest_200R, eX3_digest_200N, eX3_digest_203, eX3_digest_207, eX3_digest_214, eX3_digest_215, eX3_digest_215N, eX3_digest_217R, eX3_digest_217N, eX3_digest_220, eX3_digest_223, eX3_digest_227, eX3_digest_227N, eX3_digest_229R, eX3_digest_229N, eX3_digest_232, eX3_digest_235, eX3_digest_239, eX3_digest_239N, eX3_digest_240, eX3_digest_244, eX3_digest_248, eX3_digest_250, eX3_digest_250N, eX3_digest_251, eX3_digest_256, eX3_digest_260, eX3_digest_260N, eX3_digest_261, eX3_digest_266, eX3_digest_270, eX3_digest_270N, eX3_digest_271, eX3_digest_275, eX3_digest_279, eX3_digest_283, eX3_digest_285, eX3_digest_289, eX3_digest_290, eX3_digest_290N, eX3_digest_292, eX3_digest_294R, eX3_digest_294N, eX3_digest_297, eX3_digest_301, eX3_digest_308, eX3_digest_314, eX3_digest_317, eX3_digest_321, eX3_digest_322, eX3_digest_322N, eX3_digest_323, eX3_digest_327, eX3_digest_331, eX3_digest_338, eX3_digest_341, eX3_digest_345, eX3_digest_346, eX3_digest_346N, eX3_digest_347, eX3_digest_352, eX3_digest_356, eX3_digest_363, eX3_digest_368, lgp, lgn, lgz, i10, i00, if_true, if_false, eq_self, not_true, not_false_eq_true, m10, n4e, upw2q, rv0, rv1, rv2, rv3, lmi, lmx, hlt, hcl, ls5, ar1, ar2, ar3, ac1, ac2, ac3, ac4, ite_le, n45, n54, true_or, or_true, false_or, or_false, false_and, and_false, kx_l, kx_r, go_s, gl_s, gi_s, gb_s2, gb_s3, gq_s, wt_nil, wt_int, wt_long, wt_ref, wt_null, nl_int, nl_long, nl_ref, nl_null, nl_none, rf_n, rf_s, rf_st, tl_s, tl_n, g0, gS, ex1, nb_b, nb_0, nb_1, nf_i, nf_l, nf_ra, nf_ro, nf_na, nf_no, nf_b0, nf_z0, t45_4, t45_5, true_and, and_true, List.set_cons_zero, List.set_cons_succ, List.length_cons, List.length_nil, rd_s, upw_s, ne_eq, not_false_eq_true, Nat.zero_add, Nat.add_zero]
      | split
      | with_reducible intro _
      | omega
  | succ d ih =>
    intro j o4 o5 w' kz mz hjd hk hkz hmz
    have hM1 := hM.ext hk
    have h9 : j < 1000 := by omega
    have hlt : Int32.ofNat j < 6 := oNl (B := 6) h9 rfl (by omega)
    have hnn := oN0 h9
    have hcl := oNc h9
    rw [eX3_digest_340]
    repeat' first
      | with_reducible assumption
      | with_reducible refine And.intro ?_ ?_
      | with_reducible exact vpi6 (by assumption) (by assumption)
      | with_reducible exact vpi8 (by assumption) (by assumption)
      | (rw [oN1]; exact ih (j + 1) _ _ _ _ _ (by omega) (by first | exact hk | exact ext.tr hk (by assumption)) (by omega) (by omega))
      | with_reducible refine fX3_pileNow (by first | exact hM1 | exact MS.ext hM1 (by assumption)) okN0 (okW5j (j := j) (by omega)) (fun w2 k2 => ?_)
      | with_reducible exact trivial
      | with_reducible exact absurd (by assumption) n10'
      | with_reducible exact n00x (by assumption)
      | with_reducible refine fX3_add ?_
      | with_reducible refine go_S (by first | exact hM1 | exact MS.ext hM1 (by assumption)) (fun _ _ hY => ?_)
      | with_reducible exact MS.gC (by first | exact hM1 | exact MS.ext hM1 (by assumption)) (by assumption)
      | with_reducible exact MS.gP (by first | exact hM1 | exact MS.ext hM1 (by assumption)) (by assumption)
      | with_reducible refine gl_S (by first | exact hM1 | exact MS.ext hM1 (by assumption)) ?_
      | with_reducible refine fX3_high ?_
      | with_reducible refine fX3_low ?_
      | with_reducible refine fX3_one (bI01 _) ?_
      | with_reducible refine fX3_one (Or.inl rfl) ?_
      | with_reducible refine fX3_one (Or.inr rfl) ?_
      | simp only [eX3_digest_0, eX3_digest_0N, eX3_digest_1, eX3_digest_5, eX3_digest_12, eX3_digest_16, eX3_digest_17, eX3_digest_17N, eX3_digest_18, eX3_digest_22, eX3_digest_26, eX3_digest_33, eX3_digest_36, eX3_digest_41, eX3_digest_42, eX3_digest_42N, eX3_digest_43, eX3_digest_46, eX3_digest_48, eX3_digest_51, eX3_digest_55, eX3_digest_55N, eX3_digest_56, eX3_digest_59, eX3_digest_61, eX3_digest_64, eX3_digest_68, eX3_digest_68N, eX3_digest_69, eX3_digest_74, eX3_digest_78, eX3_digest_78N, eX3_digest_79, eX3_digest_84, eX3_digest_88, eX3_digest_95, eX3_digest_98, eX3_digest_103, eX3_digest_104, eX3_digest_104N, eX3_digest_105, eX3_digest_109, eX3_digest_112, eX3_digest_116, eX3_digest_117, eX3_digest_120, eX3_digest_124, eX3_digest_125, eX3_digest_125N, eX3_digest_126, eX3_digest_130, eX3_digest_133, eX3_digest_136, eX3_digest_136N, eX3_digest_137, eX3_digest_140, eX3_digest_144N, eX3_digest_144R, eX3_digest_147, eX3_digest_147N, eX3_digest_149, eX3_digest_154, eX3_digest_158, eX3_digest_159, eX3_digest_159N, eX3_digest_161, eX3_digest_164, eX3_digest_167, eX3_digest_171, eX3_digest_171N, eX3_digest_173, eX3_digest_176, eX3_digest_179, eX3_digest_183, eX3_digest_183N, eX3_digest_185, eX3_digest_188R, eX3_digest_188N, eX3_digest_191, eX3_digest_195, eX3_digest_195N, eX3_digest_197, eX3_digest_200R, eX3_digest_200N, eX3_digest_203, eX3_digest_207, eX3_digest_214, eX3_digest_215, eX3_digest_215N, eX3_digest_217R, eX3_digest_217N, eX3_digest_220, eX3_digest_223, eX3_digest_227, eX3_digest_227N, eX3_digest_229R, eX3_digest_229N, eX3_digest_232, eX3_digest_235, eX3_digest_239, eX3_digest_239N, eX3_digest_240, eX3_digest_244, eX3_digest_248, eX3_digest_250, eX3_digest_250N, eX3_digest_251, eX3_digest_256, eX3_digest_260, eX3_digest_260N, eX3_digest_261, eX3_digest_266, eX3_digest_270, eX3_digest_270N, eX3_digest_271, eX3_digest_275, eX3_digest_279, eX3_digest_283, eX3_digest_285, eX3_digest_289, eX3_digest_290, eX3_digest_290N, eX3_digest_292, eX3_digest_294R, eX3_digest_294N, eX3_digest_297, eX3_digest_301, eX3_digest_308, eX3_digest_314, eX3_digest_317, eX3_digest_321, eX3_digest_322, eX3_digest_322N, eX3_digest_323, eX3_digest_327, eX3_digest_331, eX3_digest_338, eX3_digest_341, eX3_digest_345, eX3_digest_346, eX3_digest_346N, eX3_digest_347, eX3_digest_352, eX3_digest_356, eX3_digest_363, eX3_digest_368, lgp, lgn, lgz, i10, i00, if_true, if_false, eq_self, not_true, not_false_eq_true, m10, n4e, upw2q, rv0, rv1, rv2, rv3, lmi, lmx, hlt, hcl, ls5, ar1, ar2, ar3, ac1, ac2, ac3, ac4, ite_le, n45, n54, true_or, or_true, false_or, or_false, false_and, and_false, kx_l, kx_r, go_s, gl_s, gi_s, gb_s2, gb_s3, gq_s, wt_nil, wt_int, wt_long, wt_ref, wt_null, nl_int, nl_long, nl_ref, nl_null, nl_none, rf_n, rf_s, rf_st, tl_s, tl_n, g0, gS, ex1, nb_b, nb_0, nb_1, nf_i, nf_l, nf_ra, nf_ro, nf_na, nf_no, nf_b0, nf_z0, t45_4, t45_5, true_and, and_true, List.set_cons_zero, List.set_cons_succ, List.length_cons, List.length_nil, rd_s, upw_s, ne_eq, not_false_eq_true, Nat.zero_add, Nat.add_zero]
      | split
      | with_reducible intro _
      | omega
set_option maxHeartbeats 8000000 in
theorem fX3_digest_316 {b0 : Int64} (hM : MS g w0 y nM kd th s w) (hQ : ∀ w', ext g w w' → Q (.inl (some (.long (dw (gfold (fdP s) (gfold (fdW s) b0 3) 6) 1)))) w') : ∀ (d j : Nat) (o4 o5 : Option Value) (w' : Hw) (kz mz : Nat), j + d = 3 → ext g w w' → kz ≤ 16 → mz ≤ 69 → WP (MX3_digest g) Q (316, [some (.ref y), some (.long (gfold (fdW s) b0 j)), none, some (.int (Int32.ofNat j)), o4, o5], [], w', kz, mz) := by
  intro d
  induction d with
  | zero =>
    intro j o4 o5 w' kz mz hjd hk hkz hmz
    have hM1 := hM.ext hk
    have h9 : j < 1000 := by omega
    have hlt : ¬ Int32.ofNat j < 3 := oNg (B := 3) h9 rfl (by omega)
    have hnn := oN0 h9
    have hcl := oNc h9
    obtain rfl : j = 3 := by omega
    rw [eX3_digest_316]
    repeat' first
      | with_reducible assumption
      | with_reducible refine And.intro ?_ ?_
      | with_reducible exact vpi6 (by assumption) (by assumption)
      | with_reducible exact vpi8 (by assumption) (by assumption)
      | with_reducible exact trivial
      | with_reducible exact absurd (by assumption) n10'
      | with_reducible exact n00x (by assumption)
      | with_reducible refine fX3_add ?_
      | with_reducible refine go_S (by first | exact hM1 | exact MS.ext hM1 (by assumption)) (fun _ _ hY => ?_)
      | with_reducible exact MS.gC (by first | exact hM1 | exact MS.ext hM1 (by assumption)) (by assumption)
      | with_reducible exact MS.gP (by first | exact hM1 | exact MS.ext hM1 (by assumption)) (by assumption)
      | with_reducible refine gl_S (by first | exact hM1 | exact MS.ext hM1 (by assumption)) ?_
      | with_reducible refine fX3_high ?_
      | with_reducible refine fX3_low ?_
      | with_reducible refine fX3_one (bI01 _) ?_
      | with_reducible refine fX3_one (Or.inl rfl) ?_
      | with_reducible refine fX3_one (Or.inr rfl) ?_
      | (exact fX3_digest_340 hM hQ 6 0 _ _ _ _ _ rfl hk (by omega) (by omega))
      | simp only [eX3_digest_0, eX3_digest_0N, eX3_digest_1, eX3_digest_5, eX3_digest_12, eX3_digest_16, eX3_digest_17, eX3_digest_17N, eX3_digest_18, eX3_digest_22, eX3_digest_26, eX3_digest_33, eX3_digest_36, eX3_digest_41, eX3_digest_42, eX3_digest_42N, eX3_digest_43, eX3_digest_46, eX3_digest_48, eX3_digest_51, eX3_digest_55, eX3_digest_55N, eX3_digest_56, eX3_digest_59, eX3_digest_61, eX3_digest_64, eX3_digest_68, eX3_digest_68N, eX3_digest_69, eX3_digest_74, eX3_digest_78, eX3_digest_78N, eX3_digest_79, eX3_digest_84, eX3_digest_88, eX3_digest_95, eX3_digest_98, eX3_digest_103, eX3_digest_104, eX3_digest_104N, eX3_digest_105, eX3_digest_109, eX3_digest_112, eX3_digest_116, eX3_digest_117, eX3_digest_120, eX3_digest_124, eX3_digest_125, eX3_digest_125N, eX3_digest_126, eX3_digest_130, eX3_digest_133, eX3_digest_136, eX3_digest_136N, eX3_digest_137, eX3_digest_140, eX3_digest_144N, eX3_digest_144R, eX3_digest_147, eX3_digest_147N, eX3_digest_149, eX3_digest_154, eX3_digest_158, eX3_digest_159, eX3_digest_159N, eX3_digest_161, eX3_digest_164, eX3_digest_167, eX3_digest_171, eX3_digest_171N, eX3_digest_173, eX3_digest_176, eX3_digest_179, eX3_digest_183, eX3_digest_183N, eX3_digest_185, eX3_digest_188R, eX3_digest_188N, eX3_digest_191, eX3_digest_195, eX3_digest_195N, eX3_digest_197, eX3_digest_200R, eX3_digest_200N, eX3_digest_203, eX3_digest_207, eX3_digest_214, eX3_digest_215, eX3_digest_215N, eX3_digest_217R, eX3_digest_217N, eX3_digest_220, eX3_digest_223, eX3_digest_227, eX3_digest_227N, eX3_digest_229R, eX3_digest_229N, eX3_digest_232, eX3_digest_235, eX3_digest_239, eX3_digest_239N, eX3_digest_240, eX3_digest_244, eX3_digest_248, eX3_digest_250, eX3_digest_250N, eX3_digest_251, eX3_digest_256, eX3_digest_260, eX3_digest_260N, eX3_digest_261, eX3_digest_266, eX3_digest_270, eX3_digest_270N, eX3_digest_271, eX3_digest_275, eX3_digest_279, eX3_digest_283, eX3_digest_285, eX3_digest_289, eX3_digest_290, eX3_digest_290N, eX3_digest_292, eX3_digest_294R, eX3_digest_294N, eX3_digest_297, eX3_digest_301, eX3_digest_308, eX3_digest_314, eX3_digest_317, eX3_digest_321, eX3_digest_322, eX3_digest_322N, eX3_digest_323, eX3_digest_327, eX3_digest_331, eX3_digest_338, eX3_digest_341, eX3_digest_345, eX3_digest_346, eX3_digest_346N, eX3_digest_347, eX3_digest_352, eX3_digest_356, eX3_digest_363, eX3_digest_368, lgp, lgn, lgz, i10, i00, if_true, if_false, eq_self, not_true, not_false_eq_true, m10, n4e, upw2q, rv0, rv1, rv2, rv3, lmi, lmx, hlt, hcl, ls2, ar1, ar2, ar3, ac1, ac2, ac3, ac4, ite_le, n45, n54, true_or, or_true, false_or, or_false, false_and, and_false, kx_l, kx_r, go_s, gl_s, gi_s, gb_s2, gb_s3, gq_s, wt_nil, wt_int, wt_long, wt_ref, wt_null, nl_int, nl_long, nl_ref, nl_null, nl_none, rf_n, rf_s, rf_st, tl_s, tl_n, g0, gS, ex1, nb_b, nb_0, nb_1, nf_i, nf_l, nf_ra, nf_ro, nf_na, nf_no, nf_b0, nf_z0, t45_4, t45_5, true_and, and_true, List.set_cons_zero, List.set_cons_succ, List.length_cons, List.length_nil, rd_s, upw_s, ne_eq, not_false_eq_true, Nat.zero_add, Nat.add_zero]
      | split
      | with_reducible intro _
      | omega
  | succ d ih =>
    intro j o4 o5 w' kz mz hjd hk hkz hmz
    have hM1 := hM.ext hk
    have h9 : j < 1000 := by omega
    have hlt : Int32.ofNat j < 3 := oNl (B := 3) h9 rfl (by omega)
    have hnn := oN0 h9
    have hcl := oNc h9
    rw [eX3_digest_316]
    repeat' first
      | with_reducible assumption
      | with_reducible refine And.intro ?_ ?_
      | with_reducible exact vpi6 (by assumption) (by assumption)
      | with_reducible exact vpi8 (by assumption) (by assumption)
      | (rw [oN1]; exact ih (j + 1) _ _ _ _ _ (by omega) (by first | exact hk | exact ext.tr hk (by assumption)) (by omega) (by omega))
      | with_reducible refine fX3_whichNow_ (by first | exact hM1 | exact MS.ext hM1 (by assumption)) (okWj (j := j) (by omega)) ?_
      | with_reducible exact trivial
      | with_reducible exact absurd (by assumption) n10'
      | with_reducible exact n00x (by assumption)
      | with_reducible refine fX3_add ?_
      | with_reducible refine go_S (by first | exact hM1 | exact MS.ext hM1 (by assumption)) (fun _ _ hY => ?_)
      | with_reducible exact MS.gC (by first | exact hM1 | exact MS.ext hM1 (by assumption)) (by assumption)
      | with_reducible exact MS.gP (by first | exact hM1 | exact MS.ext hM1 (by assumption)) (by assumption)
      | with_reducible refine gl_S (by first | exact hM1 | exact MS.ext hM1 (by assumption)) ?_
      | with_reducible refine fX3_high ?_
      | with_reducible refine fX3_low ?_
      | with_reducible refine fX3_one (bI01 _) ?_
      | with_reducible refine fX3_one (Or.inl rfl) ?_
      | with_reducible refine fX3_one (Or.inr rfl) ?_
      | simp only [eX3_digest_0, eX3_digest_0N, eX3_digest_1, eX3_digest_5, eX3_digest_12, eX3_digest_16, eX3_digest_17, eX3_digest_17N, eX3_digest_18, eX3_digest_22, eX3_digest_26, eX3_digest_33, eX3_digest_36, eX3_digest_41, eX3_digest_42, eX3_digest_42N, eX3_digest_43, eX3_digest_46, eX3_digest_48, eX3_digest_51, eX3_digest_55, eX3_digest_55N, eX3_digest_56, eX3_digest_59, eX3_digest_61, eX3_digest_64, eX3_digest_68, eX3_digest_68N, eX3_digest_69, eX3_digest_74, eX3_digest_78, eX3_digest_78N, eX3_digest_79, eX3_digest_84, eX3_digest_88, eX3_digest_95, eX3_digest_98, eX3_digest_103, eX3_digest_104, eX3_digest_104N, eX3_digest_105, eX3_digest_109, eX3_digest_112, eX3_digest_116, eX3_digest_117, eX3_digest_120, eX3_digest_124, eX3_digest_125, eX3_digest_125N, eX3_digest_126, eX3_digest_130, eX3_digest_133, eX3_digest_136, eX3_digest_136N, eX3_digest_137, eX3_digest_140, eX3_digest_144N, eX3_digest_144R, eX3_digest_147, eX3_digest_147N, eX3_digest_149, eX3_digest_154, eX3_digest_158, eX3_digest_159, eX3_digest_159N, eX3_digest_161, eX3_digest_164, eX3_digest_167, eX3_digest_171, eX3_digest_171N, eX3_digest_173, eX3_digest_176, eX3_digest_179, eX3_digest_183, eX3_digest_183N, eX3_digest_185, eX3_digest_188R, eX3_digest_188N, eX3_digest_191, eX3_digest_195, eX3_digest_195N, eX3_digest_197, eX3_digest_200R, eX3_digest_200N, eX3_digest_203, eX3_digest_207, eX3_digest_214, eX3_digest_215, eX3_digest_215N, eX3_digest_217R, eX3_digest_217N, eX3_digest_220, eX3_digest_223, eX3_digest_227, eX3_digest_227N, eX3_digest_229R, eX3_digest_229N, eX3_digest_232, eX3_digest_235, eX3_digest_239, eX3_digest_239N, eX3_digest_240, eX3_digest_244, eX3_digest_248, eX3_digest_250, eX3_digest_250N, eX3_digest_251, eX3_digest_256, eX3_digest_260, eX3_digest_260N, eX3_digest_261, eX3_digest_266, eX3_digest_270, eX3_digest_270N, eX3_digest_271, eX3_digest_275, eX3_digest_279, eX3_digest_283, eX3_digest_285, eX3_digest_289, eX3_digest_290, eX3_digest_290N, eX3_digest_292, eX3_digest_294R, eX3_digest_294N, eX3_digest_297, eX3_digest_301, eX3_digest_308, eX3_digest_314, eX3_digest_317, eX3_digest_321, eX3_digest_322, eX3_digest_322N, eX3_digest_323, eX3_digest_327, eX3_digest_331, eX3_digest_338, eX3_digest_341, eX3_digest_345, eX3_digest_346, eX3_digest_346N, eX3_digest_347, eX3_digest_352, eX3_digest_356, eX3_digest_363, eX3_digest_368, lgp, lgn, lgz, i10, i00, if_true, if_false, eq_self, not_true, not_false_eq_true, m10, n4e, upw2q, rv0, rv1, rv2, rv3, lmi, lmx, hlt, hcl, ls2, ar1, ar2, ar3, ac1, ac2, ac3, ac4, ite_le, n45, n54, true_or, or_true, false_or, or_false, false_and, and_false, kx_l, kx_r, go_s, gl_s, gi_s, gb_s2, gb_s3, gq_s, wt_nil, wt_int, wt_long, wt_ref, wt_null, nl_int, nl_long, nl_ref, nl_null, nl_none, rf_n, rf_s, rf_st, tl_s, tl_n, g0, gS, ex1, nb_b, nb_0, nb_1, nf_i, nf_l, nf_ra, nf_ro, nf_na, nf_no, nf_b0, nf_z0, t45_4, t45_5, true_and, and_true, List.set_cons_zero, List.set_cons_succ, List.length_cons, List.length_nil, rd_s, upw_s, ne_eq, not_false_eq_true, Nat.zero_add, Nat.add_zero]
      | split
      | with_reducible intro _
      | omega
end
end
/-! 77.dg2.lean.txt -/
section
section
variable {g : RO} {Q : Ot → Hw → Prop} {w0 w : Hw} {y nM : Nat} {kd th : Int32} {s : AS}
set_option maxHeartbeats 8000000 in
theorem fX3_digest_152 {b0 : Int64} {p : Nat} {r : R4} {i3 : Int32} {kz mz : Nat} (hp : rowA w p r) (hkz : kz ≤ 90) (hmz : mz ≤ 520) (hK : ∀ o5 : Int32, WP (MX3_digest g) Q (214, [some (.ref y), some (.long (gfold (enV r) b0 4)), none, some (.int i3), some (.ref p), some (.int o5)], [], w, kz, mz)) : ∀ (d j : Nat), j + d = 4 → WP (MX3_digest g) Q (152, [some (.ref y), some (.long (gfold (enV r) b0 j)), none, some (.int i3), some (.ref p), some (.int (Int32.ofNat j))], [], w, kz, mz) := by
  intro d
  induction d with
  | zero =>
    intro j hjd
    have h9 : j < 1000 := by omega
    have hlt : ¬ Int32.ofNat j < 4 := oNg (B := 4) h9 rfl (by omega)
    have hnn := oN0 h9
    have hcl := oNc h9
    obtain rfl : j = 4 := by omega
    rw [eX3_digest_152]
    repeat' first
      | with_reducible assumption
      | with_reducible refine And.intro ?_ ?_
      | with_reducible exact vpi6 (by assumption) (by assumption)
      | with_reducible exact vpi8 (by assumption) (by assumption)
      | with_reducible exact hK _
      | simp only [eX3_digest_0, eX3_digest_0N, eX3_digest_1, eX3_digest_5, eX3_digest_12, eX3_digest_16, eX3_digest_17, eX3_digest_17N, eX3_digest_18, eX3_digest_22, eX3_digest_26, eX3_digest_33, eX3_digest_36, eX3_digest_41, eX3_digest_42, eX3_digest_42N, eX3_digest_43, eX3_digest_46, eX3_digest_48, eX3_digest_51, eX3_digest_55, eX3_digest_55N, eX3_digest_56, eX3_digest_59, eX3_digest_61, eX3_digest_64, eX3_digest_68, eX3_digest_68N, eX3_digest_69, eX3_digest_74, eX3_digest_78, eX3_digest_78N, eX3_digest_79, eX3_digest_84, eX3_digest_88, eX3_digest_95, eX3_digest_98, eX3_digest_103, eX3_digest_104, eX3_digest_104N, eX3_digest_105, eX3_digest_109, eX3_digest_112, eX3_digest_116, eX3_digest_117, eX3_digest_120, eX3_digest_124, eX3_digest_125, eX3_digest_125N, eX3_digest_126, eX3_digest_130, eX3_digest_133, eX3_digest_136, eX3_digest_136N, eX3_digest_137, eX3_digest_140, eX3_digest_144N, eX3_digest_144R, eX3_digest_147, eX3_digest_147N, eX3_digest_149, eX3_digest_154, eX3_digest_158, eX3_digest_159, eX3_digest_159N, eX3_digest_161, eX3_digest_164, eX3_digest_167, eX3_digest_171, eX3_digest_171N, eX3_digest_173, eX3_digest_176, eX3_digest_179, eX3_digest_183, eX3_digest_183N, eX3_digest_185, eX3_digest_188R, eX3_digest_188N, eX3_digest_191, eX3_digest_195, eX3_digest_195N, eX3_digest_197, eX3_digest_200R, eX3_digest_200N, eX3_digest_203, eX3_digest_207, eX3_digest_215, eX3_digest_215N, eX3_digest_217R, eX3_digest_217N, eX3_digest_220, eX3_digest_223, eX3_digest_227, eX3_digest_227N, eX3_digest_229R, eX3_digest_229N, eX3_digest_232, eX3_digest_235, eX3_digest_239, eX3_digest_239N, eX3_digest_240, eX3_digest_244, eX3_digest_248, eX3_digest_250, eX3_digest_250N, eX3_digest_251, eX3_digest_256, eX3_digest_260, eX3_digest_260N, eX3_digest_261, eX3_digest_266, eX3_digest_270, eX3_digest_270N, eX3_digest_271, eX3_digest_275, eX3_digest_279, eX3_digest_285, eX3_digest_289, eX3_digest_290, eX3_digest_290N, eX3_digest_292, eX3_digest_294R, eX3_digest_294N, eX3_digest_297, eX3_digest_301, eX3_digest_308, eX3_digest_314, eX3_digest_317, eX3_digest_321, eX3_digest_322, eX3_digest_322N, eX3_digest_323, eX3_digest_327, eX3_digest_331, eX3_digest_338, eX3_digest_341, eX3_digest_345, eX3_digest_346, eX3_digest_346N, eX3_digest_347, eX3_digest_352, eX3_digest_356, eX3_digest_363, eX3_digest_368, lgp, lgn, lgz, i10, i00, if_true, if_false, eq_self, not_true, not_false_eq_true, m10, n4e, upw2q, rv0, rv1, rv2, rv3, lmi, lmx, hlt, hcl, ite_le, n45, n54, true_or, or_true, false_or, or_false, false_and, and_false, kx_l, kx_r, go_s, gl_s, gi_s, gb_s2, gb_s3, gq_s, wt_nil, wt_int, wt_long, wt_ref, wt_null, nl_int, nl_long, nl_ref, nl_null, nl_none, rf_n, rf_s, rf_st, tl_s, tl_n, g0, gS, ex1, nb_b, nb_0, nb_1, nf_i, nf_l, nf_ra, nf_ro, nf_na, nf_no, nf_b0, nf_z0, t45_4, t45_5, true_and, and_true, List.set_cons_zero, List.set_cons_succ, List.length_cons, List.length_nil, rd_s, upw_s, ne_eq, not_false_eq_true, Nat.zero_add, Nat.add_zero]
      | split
      | with_reducible intro _
      | omega
  | succ d ih =>
    intro j hjd
    have h9 : j < 1000 := by omega
    have hlt : Int32.ofNat j < 4 := oNl (B := 4) h9 rfl (by omega)
    have hnn := oN0 h9
    have hcl := oNc h9
    have hrv : rV r j = eV r (Int32.ofNat j) := rvj (by omega)
    rw [eX3_digest_152]
    repeat' first
      | with_reducible assumption
      | with_reducible refine And.intro ?_ ?_
      | with_reducible exact vpi6 (by assumption) (by assumption)
      | with_reducible exact vpi8 (by assumption) (by assumption)
      | (rw [oN1]; exact ih (j + 1) (by omega))
      | with_reducible refine gl_A hp ?_
      | with_reducible exact vpi4j (by omega)
      | with_reducible refine fX3_high ?_
      | with_reducible refine fX3_low ?_
      | with_reducible refine fX3_aroundNow hp (okW3j (by omega)) ?_
      | with_reducible refine fX3_add ?_
      | simp only [eX3_digest_0, eX3_digest_0N, eX3_digest_1, eX3_digest_5, eX3_digest_12, eX3_digest_16, eX3_digest_17, eX3_digest_17N, eX3_digest_18, eX3_digest_22, eX3_digest_26, eX3_digest_33, eX3_digest_36, eX3_digest_41, eX3_digest_42, eX3_digest_42N, eX3_digest_43, eX3_digest_46, eX3_digest_48, eX3_digest_51, eX3_digest_55, eX3_digest_55N, eX3_digest_56, eX3_digest_59, eX3_digest_61, eX3_digest_64, eX3_digest_68, eX3_digest_68N, eX3_digest_69, eX3_digest_74, eX3_digest_78, eX3_digest_78N, eX3_digest_79, eX3_digest_84, eX3_digest_88, eX3_digest_95, eX3_digest_98, eX3_digest_103, eX3_digest_104, eX3_digest_104N, eX3_digest_105, eX3_digest_109, eX3_digest_112, eX3_digest_116, eX3_digest_117, eX3_digest_120, eX3_digest_124, eX3_digest_125, eX3_digest_125N, eX3_digest_126, eX3_digest_130, eX3_digest_133, eX3_digest_136, eX3_digest_136N, eX3_digest_137, eX3_digest_140, eX3_digest_144N, eX3_digest_144R, eX3_digest_147, eX3_digest_147N, eX3_digest_149, eX3_digest_154, eX3_digest_158, eX3_digest_159, eX3_digest_159N, eX3_digest_161, eX3_digest_164, eX3_digest_167, eX3_digest_171, eX3_digest_171N, eX3_digest_173, eX3_digest_176, eX3_digest_179, eX3_digest_183, eX3_digest_183N, eX3_digest_185, eX3_digest_188R, eX3_digest_188N, eX3_digest_191, eX3_digest_195, eX3_digest_195N, eX3_digest_197, eX3_digest_200R, eX3_digest_200N, eX3_digest_203, eX3_digest_207, eX3_digest_215, eX3_digest_215N, eX3_digest_217R, eX3_digest_217N, eX3_digest_220, eX3_digest_223, eX3_digest_227, eX3_digest_227N, eX3_digest_229R, eX3_digest_229N, eX3_digest_232, eX3_digest_235, eX3_digest_239, eX3_digest_239N, eX3_digest_240, eX3_digest_244, eX3_digest_248, eX3_digest_250, eX3_digest_250N, eX3_digest_251, eX3_digest_256, eX3_digest_260, eX3_digest_260N, eX3_digest_261, eX3_digest_266, eX3_digest_270, eX3_digest_270N, eX3_digest_271, eX3_digest_275, eX3_digest_279, eX3_digest_285, eX3_digest_289, eX3_digest_290, eX3_digest_290N, eX3_digest_292, eX3_digest_294R, eX3_digest_294N, eX3_digest_297, eX3_digest_301, eX3_digest_308, eX3_digest_314, eX3_digest_317, eX3_digest_321, eX3_digest_322, eX3_digest_322N, eX3_digest_323, eX3_digest_327, eX3_digest_331, eX3_digest_338, eX3_digest_341, eX3_digest_345, eX3_digest_346, eX3_digest_346N, eX3_digest_347, eX3_digest_352, eX3_digest_356, eX3_digest_363, eX3_digest_368, lgp, lgn, lgz, i10, i00, if_true, if_false, eq_self, not_true, not_false_eq_true, m10, n4e, upw2q, rv0, rv1, rv2, rv3, lmi, lmx, hlt, hcl, hrv, ite_le, n45, n54, true_or, or_true, false_or, or_false, false_and, and_false, kx_l, kx_r, go_s, gl_s, gi_s, gb_s2, gb_s3, gq_s, wt_nil, wt_int, wt_long, wt_ref, wt_null, nl_int, nl_long, nl_ref, nl_null, nl_none, rf_n, rf_s, rf_st, tl_s, tl_n, g0, gS, ex1, nb_b, nb_0, nb_1, nf_i, nf_l, nf_ra, nf_ro, nf_na, nf_no, nf_b0, nf_z0, t45_4, t45_5, true_and, and_true, List.set_cons_zero, List.set_cons_succ, List.length_cons, List.length_nil, rd_s, upw_s, ne_eq, not_false_eq_true, Nat.zero_add, Nat.add_zero]
      | split
      | with_reducible intro _
      | omega
theorem fX3_digest_152z {b0 : Int64} {p : Nat} {r : R4} {i3 : Int32} {kz mz : Nat} (hp : rowA w p r) (hkz : kz ≤ 90) (hmz : mz ≤ 520) (hK : ∀ o5 : Int32, WP (MX3_digest g) Q (214, [some (.ref y), some (.long (gfold (enV r) b0 4)), none, some (.int i3), some (.ref p), some (.int o5)], [], w, kz, mz)) : WP (MX3_digest g) Q (152, [some (.ref y), some (.long b0), none, some (.int i3), some (.ref p), some (.int 0)], [], w, kz, mz) := fX3_digest_152 hp hkz hmz hK 4 0 rfl
set_option maxHeartbeats 8000000 in
theorem fX3_digest_97 {b0 : Int64} (hM : MS g w0 y nM kd th s w) (hQ : ∀ w', ext g w w' → Q (.inl (some (.long (dw (gfold (fdP s) (gfold (fdW s) (gfold (fdC s) b0 6) 3) 6) 1)))) w') : ∀ (d j : Nat) (o4 o5 : Option Value) (w' : Hw) (kz mz : Nat), j + d = 6 → ext g w w' → kz ≤ 10 + j → mz ≤ 45 + 4 * j → WP (MX3_digest g) Q (97, [some (.ref y), some (.long (gfold (fdC s) b0 j)), none, some (.int (Int32.ofNat j)), o4, o5], [], w', kz, mz) := by
  intro d
  induction d with
  | zero =>
    intro j o4 o5 w' kz mz hjd hk hkz hmz
    have hM1 := hM.ext hk
    have h9 : j < 1000 := by omega
    have hlt : ¬ Int32.ofNat j < 6 := oNg (B := 6) h9 rfl (by omega)
    have hnn := oN0 h9
    have hcl := oNc h9
    obtain rfl : j = 6 := by omega
    rw [eX3_digest_97]
    repeat' first
      | with_reducible assumption
      | with_reducible refine And.intro ?_ ?_
      | with_reducible exact vpi6 (by assumption) (by assumption)
      | with_reducible exact vpi8 (by assumption) (by assumption)
      | with_reducible exact trivial
      | with_reducible exact absurd (by assumption) n10'
      | with_reducible exact n00x (by assumption)
      | with_reducible refine fX3_add ?_
      | with_reducible refine go_S (by first | exact hM1 | exact MS.ext hM1 (by assumption)) (fun _ _ hY => ?_)
      | with_reducible exact MS.gC (by first | exact hM1 | exact MS.ext hM1 (by assumption)) (by assumption)
      | with_reducible exact MS.gP (by first | exact hM1 | exact MS.ext hM1 (by assumption)) (by assumption)
      | with_reducible refine gl_S (by first | exact hM1 | exact MS.ext hM1 (by assumption)) ?_
      | with_reducible refine fX3_high ?_
      | with_reducible refine fX3_low ?_
      | with_reducible refine fX3_one (bI01 _) ?_
      | with_reducible refine fX3_one (Or.inl rfl) ?_
      | with_reducible refine fX3_one (Or.inr rfl) ?_
      | (exact fX3_digest_316 hM hQ 3 0 _ _ _ _ _ rfl hk (by omega) (by omega))
      | simp only [eX3_digest_0, eX3_digest_0N, eX3_digest_1, eX3_digest_5, eX3_digest_12, eX3_digest_16, eX3_digest_17, eX3_digest_17N, eX3_digest_18, eX3_digest_22, eX3_digest_26, eX3_digest_33, eX3_digest_36, eX3_digest_41, eX3_digest_42, eX3_digest_42N, eX3_digest_43, eX3_digest_46, eX3_digest_48, eX3_digest_51, eX3_digest_55, eX3_digest_55N, eX3_digest_56, eX3_digest_59, eX3_digest_61, eX3_digest_64, eX3_digest_68, eX3_digest_68N, eX3_digest_69, eX3_digest_74, eX3_digest_78, eX3_digest_78N, eX3_digest_79, eX3_digest_84, eX3_digest_88, eX3_digest_95, eX3_digest_98, eX3_digest_103, eX3_digest_104, eX3_digest_104N, eX3_digest_105, eX3_digest_109, eX3_digest_112, eX3_digest_116, eX3_digest_117, eX3_digest_120, eX3_digest_124, eX3_digest_125, eX3_digest_125N, eX3_digest_126, eX3_digest_130, eX3_digest_133, eX3_digest_136, eX3_digest_136N, eX3_digest_137, eX3_digest_140, eX3_digest_144N, eX3_digest_144R, eX3_digest_147, eX3_digest_147N, eX3_digest_149, eX3_digest_154, eX3_digest_158, eX3_digest_159, eX3_digest_159N, eX3_digest_161, eX3_digest_164, eX3_digest_167, eX3_digest_171, eX3_digest_171N, eX3_digest_173, eX3_digest_176, eX3_digest_179, eX3_digest_183, eX3_digest_183N, eX3_digest_185, eX3_digest_188R, eX3_digest_188N, eX3_digest_191, eX3_digest_195, eX3_digest_195N, eX3_digest_197, eX3_digest_200R, eX3_digest_200N, eX3_digest_203, eX3_digest_207, eX3_digest_214, eX3_digest_215, eX3_digest_215N, eX3_digest_217R, eX3_digest_217N, eX3_digest_220, eX3_digest_223, eX3_digest_227, eX3_digest_227N, eX3_digest_229R, eX3_digest_229N, eX3_digest_232, eX3_digest_235, eX3_digest_239, eX3_digest_239N, eX3_digest_240, eX3_digest_244, eX3_digest_248, eX3_digest_250, eX3_digest_250N, eX3_digest_251, eX3_digest_256, eX3_digest_260, eX3_digest_260N, eX3_digest_261, eX3_digest_266, eX3_digest_270, eX3_digest_270N, eX3_digest_271, eX3_digest_275, eX3_digest_279, eX3_digest_283, eX3_digest_285, eX3_digest_289, eX3_digest_290, eX3_digest_290N, eX3_digest_292, eX3_digest_294R, eX3_digest_294N, eX3_digest_297, eX3_digest_301, eX3_digest_308, eX3_digest_314, eX3_digest_317, eX3_digest_321, eX3_digest_322, eX3_digest_322N, eX3_digest_323, eX3_digest_327, eX3_digest_331, eX3_digest_338, eX3_digest_341, eX3_digest_345, eX3_digest_346, eX3_digest_346N, eX3_digest_347, eX3_digest_352, eX3_digest_356, eX3_digest_363, eX3_digest_368, lgp, lgn, lgz, i10, i00, if_true, if_false, eq_self, not_true, not_false_eq_true, m10, n4e, upw2q, rv0, rv1, rv2, rv3, lmi, lmx, hlt, hcl, ar1, ar2, ar3, ac1, ac2, ac3, ac4, ite_le, n45, n54, true_or, or_true, false_or, or_false, false_and, and_false, kx_l, kx_r, go_s, gl_s, gi_s, gb_s2, gb_s3, gq_s, wt_nil, wt_int, wt_long, wt_ref, wt_null, nl_int, nl_long, nl_ref, nl_null, nl_none, rf_n, rf_s, rf_st, tl_s, tl_n, g0, gS, ex1, nb_b, nb_0, nb_1, nf_i, nf_l, nf_ra, nf_ro, nf_na, nf_no, nf_b0, nf_z0, t45_4, t45_5, true_and, and_true, List.set_cons_zero, List.set_cons_succ, List.length_cons, List.length_nil, rd_s, upw_s, ne_eq, not_false_eq_true, Nat.zero_add, Nat.add_zero]
      | split
      | with_reducible intro _
      | omega
  | succ d ih =>
    intro j o4 o5 w' kz mz hjd hk hkz hmz
    have hM1 := hM.ext hk
    have h9 : j < 1000 := by omega
    have hlt : Int32.ofNat j < 6 := oNl (B := 6) h9 rfl (by omega)
    have hnn := oN0 h9
    have hcl := oNc h9
    cases e0 : s.2.1 j with
    | none =>
      rw [eX3_digest_97]
      repeat' first
        | with_reducible assumption
        | with_reducible refine And.intro ?_ ?_
        | with_reducible exact vpi6 (by assumption) (by assumption)
        | with_reducible exact vpi8 (by assumption) (by assumption)
        | (rw [oN1, cdN0 e0]; exact ih (j + 1) _ _ _ _ _ (by omega) (by first | exact hk | exact ext.tr hk (by assumption)) (by omega) (by omega))
        | with_reducible refine fX3_isBareN (by first | exact hM1 | exact MS.ext hM1 (by assumption)) (by omega) e0 ?_
        | with_reducible exact trivial
        | with_reducible exact absurd (by assumption) n10'
        | with_reducible exact n00x (by assumption)
        | with_reducible refine fX3_add ?_
        | with_reducible refine go_S (by first | exact hM1 | exact MS.ext hM1 (by assumption)) (fun _ _ hY => ?_)
        | with_reducible exact MS.gC (by first | exact hM1 | exact MS.ext hM1 (by assumption)) (by assumption)
        | with_reducible exact MS.gP (by first | exact hM1 | exact MS.ext hM1 (by assumption)) (by assumption)
        | with_reducible refine gl_S (by first | exact hM1 | exact MS.ext hM1 (by assumption)) ?_
        | with_reducible refine fX3_high ?_
        | with_reducible refine fX3_low ?_
        | with_reducible refine fX3_one (bI01 _) ?_
        | with_reducible refine fX3_one (Or.inl rfl) ?_
        | with_reducible refine fX3_one (Or.inr rfl) ?_
        | simp only [eX3_digest_0, eX3_digest_0N, eX3_digest_1, eX3_digest_5, eX3_digest_12, eX3_digest_16, eX3_digest_17, eX3_digest_17N, eX3_digest_18, eX3_digest_22, eX3_digest_26, eX3_digest_33, eX3_digest_36, eX3_digest_41, eX3_digest_42, eX3_digest_42N, eX3_digest_43, eX3_digest_46, eX3_digest_48, eX3_digest_51, eX3_digest_55, eX3_digest_55N, eX3_digest_56, eX3_digest_59, eX3_digest_61, eX3_digest_64, eX3_digest_68, eX3_digest_68N, eX3_digest_69, eX3_digest_74, eX3_digest_78, eX3_digest_78N, eX3_digest_79, eX3_digest_84, eX3_digest_88, eX3_digest_95, eX3_digest_98, eX3_digest_103, eX3_digest_104, eX3_digest_104N, eX3_digest_105, eX3_digest_109, eX3_digest_112, eX3_digest_116, eX3_digest_117, eX3_digest_120, eX3_digest_124, eX3_digest_125, eX3_digest_125N, eX3_digest_126, eX3_digest_130, eX3_digest_133, eX3_digest_136, eX3_digest_136N, eX3_digest_137, eX3_digest_140, eX3_digest_144N, eX3_digest_144R, eX3_digest_147, eX3_digest_147N, eX3_digest_149, eX3_digest_154, eX3_digest_158, eX3_digest_159, eX3_digest_159N, eX3_digest_161, eX3_digest_164, eX3_digest_167, eX3_digest_171, eX3_digest_171N, eX3_digest_173, eX3_digest_176, eX3_digest_179, eX3_digest_183, eX3_digest_183N, eX3_digest_185, eX3_digest_188R, eX3_digest_188N, eX3_digest_191, eX3_digest_195, eX3_digest_195N, eX3_digest_197, eX3_digest_200R, eX3_digest_200N, eX3_digest_203, eX3_digest_207, eX3_digest_214, eX3_digest_215, eX3_digest_215N, eX3_digest_217R, eX3_digest_217N, eX3_digest_220, eX3_digest_223, eX3_digest_227, eX3_digest_227N, eX3_digest_229R, eX3_digest_229N, eX3_digest_232, eX3_digest_235, eX3_digest_239, eX3_digest_239N, eX3_digest_240, eX3_digest_244, eX3_digest_248, eX3_digest_250, eX3_digest_250N, eX3_digest_251, eX3_digest_256, eX3_digest_260, eX3_digest_260N, eX3_digest_261, eX3_digest_266, eX3_digest_270, eX3_digest_270N, eX3_digest_271, eX3_digest_275, eX3_digest_279, eX3_digest_283, eX3_digest_285, eX3_digest_289, eX3_digest_290, eX3_digest_290N, eX3_digest_292, eX3_digest_294R, eX3_digest_294N, eX3_digest_297, eX3_digest_301, eX3_digest_308, eX3_digest_314, eX3_digest_317, eX3_digest_321, eX3_digest_322, eX3_digest_322N, eX3_digest_323, eX3_digest_327, eX3_digest_331, eX3_digest_338, eX3_digest_341, eX3_digest_345, eX3_digest_346, eX3_digest_346N, eX3_digest_347, eX3_digest_352, eX3_digest_356, eX3_digest_363, eX3_digest_368, lgp, lgn, lgz, i10, i00, if_true, if_false, eq_self, not_true, not_false_eq_true, m10, n4e, upw2q, rv0, rv1, rv2, rv3, lmi, lmx, hlt, hcl, ar1, ar2, ar3, ac1, ac2, ac3, ac4, ite_le, n45, n54, true_or, or_true, false_or, or_false, false_and, and_false, kx_l, kx_r, go_s, gl_s, gi_s, gb_s2, gb_s3, gq_s, wt_nil, wt_int, wt_long, wt_ref, wt_null, nl_int, nl_long, nl_ref, nl_null, nl_none, rf_n, rf_s, rf_st, tl_s, tl_n, g0, gS, ex1, nb_b, nb_0, nb_1, nf_i, nf_l, nf_ra, nf_ro, nf_na, nf_no, nf_b0, nf_z0, t45_4, t45_5, true_and, and_true, List.set_cons_zero, List.set_cons_succ, List.length_cons, List.length_nil, rd_s, upw_s, ne_eq, not_false_eq_true, Nat.zero_add, Nat.add_zero]
        | split
        | with_reducible intro _
        | omega
    | some r =>
      have kc : okC (Int32.ofNat j) := okCj (by omega)
      have ec : s.2.1 (Int32.ofNat j).toNatClampNeg = some r := by
        rw [hcl]
        exact e0
      rw [eX3_digest_97]
      repeat' first
        | with_reducible assumption
        | with_reducible refine And.intro ?_ ?_
        | with_reducible exact vpi6 (by assumption) (by assumption)
        | with_reducible exact vpi8 (by assumption) (by assumption)
        | (rw [oN1, cdS1 e0]; exact ih (j + 1) _ _ _ _ _ (by omega) (by first | exact hk | exact ext.tr hk (by assumption)) (by omega) (by omega))
        | with_reducible refine fX3_isBareS (by first | exact hM1 | exact MS.ext hM1 (by assumption)) (by omega) e0 ?_
        | with_reducible refine sGetKj (by first | exact hM1 | exact MS.ext hM1 (by assumption)) (by assumption) (by omega) e0 (fun _ hb => ?_)
        | with_reducible exact rowA.ca (by assumption)
        | with_reducible refine fX3_digest_152z (by assumption) (by omega) (by omega) (fun _ => ?_)
        | with_reducible refine vX3_fixed (by first | assumption | exact rowA.ext (by assumption) (by assumption)) ?_
        | with_reducible refine vX3_small (by first | assumption | exact rowA.ext (by assumption) (by assumption)) ?_
        | with_reducible refine fX3_likesNow (by first | exact hM1 | exact MS.ext hM1 (by assumption)) kc ec ?_
        | with_reducible refine fX3_seekNow (by first | exact hM1 | exact MS.ext hM1 (by assumption)) kc ec ?_
        | with_reducible refine fX3_oftenNowE hM1 kc ec (fun w2 k2 => ?_)
        | with_reducible refine fX3_whichNow (by first | assumption | exact rowA.ext (by assumption) (by assumption)) ?_
        | with_reducible exact trivial
        | with_reducible exact absurd (by assumption) n10'
        | with_reducible exact n00x (by assumption)
        | with_reducible refine fX3_add ?_
        | with_reducible refine go_S (by first | exact hM1 | exact MS.ext hM1 (by assumption)) (fun _ _ hY => ?_)
        | with_reducible exact MS.gC (by first | exact hM1 | exact MS.ext hM1 (by assumption)) (by assumption)
        | with_reducible exact MS.gP (by first | exact hM1 | exact MS.ext hM1 (by assumption)) (by assumption)
        | with_reducible refine gl_S (by first | exact hM1 | exact MS.ext hM1 (by assumption)) ?_
        | with_reducible refine fX3_high ?_
        | with_reducible refine fX3_low ?_
        | with_reducible refine fX3_one (bI01 _) ?_
        | with_reducible refine fX3_one (Or.inl rfl) ?_
        | with_reducible refine fX3_one (Or.inr rfl) ?_
        | simp only [eX3_digest_0, eX3_digest_0N, eX3_digest_1, eX3_digest_5, eX3_digest_12, eX3_digest_16, eX3_digest_17, eX3_digest_17N, eX3_digest_18, eX3_digest_22, eX3_digest_26, eX3_digest_33, eX3_digest_36, eX3_digest_41, eX3_digest_42, eX3_digest_42N, eX3_digest_43, eX3_digest_46, eX3_digest_48, eX3_digest_51, eX3_digest_55, eX3_digest_55N, eX3_digest_56, eX3_digest_59, eX3_digest_61, eX3_digest_64, eX3_digest_68, eX3_digest_68N, eX3_digest_69, eX3_digest_74, eX3_digest_78, eX3_digest_78N, eX3_digest_79, eX3_digest_84, eX3_digest_88, eX3_digest_95, eX3_digest_98, eX3_digest_103, eX3_digest_104, eX3_digest_104N, eX3_digest_105, eX3_digest_109, eX3_digest_112, eX3_digest_116, eX3_digest_117, eX3_digest_120, eX3_digest_124, eX3_digest_125, eX3_digest_125N, eX3_digest_126, eX3_digest_130, eX3_digest_133, eX3_digest_136, eX3_digest_136N, eX3_digest_137, eX3_digest_140, eX3_digest_144N, eX3_digest_144R, eX3_digest_147, eX3_digest_147N, eX3_digest_149, eX3_digest_154, eX3_digest_158, eX3_digest_159, eX3_digest_159N, eX3_digest_161, eX3_digest_164, eX3_digest_167, eX3_digest_171, eX3_digest_171N, eX3_digest_173, eX3_digest_176, eX3_digest_179, eX3_digest_183, eX3_digest_183N, eX3_digest_185, eX3_digest_188R, eX3_digest_188N, eX3_digest_191, eX3_digest_195, eX3_digest_195N, eX3_digest_197, eX3_digest_200R, eX3_digest_200N, eX3_digest_203, eX3_digest_207, eX3_digest_214, eX3_digest_215, eX3_digest_215N, eX3_digest_217R, eX3_digest_217N, eX3_digest_220, eX3_digest_223, eX3_digest_227, eX3_digest_227N, eX3_digest_229R, eX3_digest_229N, eX3_digest_232, eX3_digest_235, eX3_digest_239, eX3_digest_239N, eX3_digest_240, eX3_digest_244, eX3_digest_248, eX3_digest_250, eX3_digest_250N, eX3_digest_251, eX3_digest_256, eX3_digest_260, eX3_digest_260N, eX3_digest_261, eX3_digest_266, eX3_digest_270, eX3_digest_270N, eX3_digest_271, eX3_digest_275, eX3_digest_279, eX3_digest_283, eX3_digest_285, eX3_digest_289, eX3_digest_290, eX3_digest_290N, eX3_digest_292, eX3_digest_294R, eX3_digest_294N, eX3_digest_297, eX3_digest_301, eX3_digest_308, eX3_digest_314, eX3_digest_317, eX3_digest_321, eX3_digest_322, eX3_digest_322N, eX3_digest_323, eX3_digest_327, eX3_digest_331, eX3_digest_338, eX3_digest_341, eX3_digest_345, eX3_digest_346, eX3_digest_346N, eX3_digest_347, eX3_digest_352, eX3_digest_356, eX3_digest_363, eX3_digest_368, lgp, lgn, lgz, i10, i00, if_true, if_false, eq_self, not_true, not_false_eq_true, m10, n4e, upw2q, rv0, rv1, rv2, rv3, lmi, lmx, hlt, hcl, ar1, ar2, ar3, ac1, ac2, ac3, ac4, ite_le, n45, n54, true_or, or_true, false_or, or_false, false_and, and_false, kx_l, kx_r, go_s, gl_s, gi_s, gb_s2, gb_s3, gq_s, wt_nil, wt_int, wt_long, wt_ref, wt_null, nl_int, nl_long, nl_ref, nl_null, nl_none, rf_n, rf_s, rf_st, tl_s, tl_n, g0, gS, ex1, nb_b, nb_0, nb_1, nf_i, nf_l, nf_ra, nf_ro, nf_na, nf_no, nf_b0, nf_z0, t45_4, t45_5, true_and, and_true, List.set_cons_zero, List.set_cons_succ, List.length_cons, List.length_nil, rd_s, upw_s, ne_eq, not_false_eq_true, Nat.zero_add, Nat.add_zero]
        | split
        | with_reducible intro _
        | omega
end
end
/-! 77.dg3.lean.txt -/
section
section
variable {g : RO} {Q : Ot → Hw → Prop} {w0 w : Hw} {y nM : Nat} {kd th : Int32} {s : AS}
set_option maxHeartbeats 8000000 in
theorem fX3_digest_35 {b0 : Int64} (hM : MS g w0 y nM kd th s w) (hQ : ∀ w', ext g w w' → Q (.inl (some (.long (dw (gfold (fdP s) (gfold (fdW s) (gfold (fdC s) (gfold (fdN s) b0 8) 6) 3) 6) 1)))) w') : ∀ (d j : Nat) (o4 o5 : Option Value) (w' : Hw) (kz mz : Nat), j + d = 8 → ext g w w' → kz ≤ 10 → mz ≤ 45 → WP (MX3_digest g) Q (35, [some (.ref y), some (.long (gfold (fdN s) b0 j)), none, some (.int (Int32.ofNat j)), o4, o5], [], w', kz, mz) := by
  intro d
  induction d with
  | zero =>
    intro j o4 o5 w' kz mz hjd hk hkz hmz
    have hM1 := hM.ext hk
    have h9 : j < 1000 := by omega
    have hlt : ¬ Int32.ofNat j < 8 := oNg (B := 8) h9 rfl (by omega)
    have hnn := oN0 h9
    have hcl := oNc h9
    obtain rfl : j = 8 := by omega
    rw [eX3_digest_35]
    repeat' first
      | with_reducible assumption
      | with_reducible refine And.intro ?_ ?_
      | with_reducible exact vpi6 (by assumption) (by assumption)
      | with_reducible exact vpi8 (by assumption) (by assumption)
      | with_reducible exact trivial
      | with_reducible exact absurd (by assumption) n10'
      | with_reducible exact n00x (by assumption)
      | with_reducible refine fX3_add ?_
      | with_reducible refine go_S (by first | exact hM1 | exact MS.ext hM1 (by assumption)) (fun _ _ hY => ?_)
      | with_reducible exact MS.gC (by first | exact hM1 | exact MS.ext hM1 (by assumption)) (by assumption)
      | with_reducible exact MS.gP (by first | exact hM1 | exact MS.ext hM1 (by assumption)) (by assumption)
      | with_reducible refine gl_S (by first | exact hM1 | exact MS.ext hM1 (by assumption)) ?_
      | with_reducible refine fX3_high ?_
      | with_reducible refine fX3_low ?_
      | with_reducible refine fX3_one (bI01 _) ?_
      | with_reducible refine fX3_one (Or.inl rfl) ?_
      | with_reducible refine fX3_one (Or.inr rfl) ?_
      | (exact fX3_digest_97 hM hQ 6 0 _ _ _ _ _ rfl hk (by omega) (by omega))
      | simp only [eX3_digest_0, eX3_digest_0N, eX3_digest_1, eX3_digest_5, eX3_digest_12, eX3_digest_16, eX3_digest_17, eX3_digest_17N, eX3_digest_18, eX3_digest_22, eX3_digest_26, eX3_digest_33, eX3_digest_36, eX3_digest_41, eX3_digest_42, eX3_digest_42N, eX3_digest_43, eX3_digest_46, eX3_digest_48, eX3_digest_51, eX3_digest_55, eX3_digest_55N, eX3_digest_56, eX3_digest_59, eX3_digest_61, eX3_digest_64, eX3_digest_68, eX3_digest_68N, eX3_digest_69, eX3_digest_74, eX3_digest_78, eX3_digest_78N, eX3_digest_79, eX3_digest_84, eX3_digest_88, eX3_digest_95, eX3_digest_98, eX3_digest_103, eX3_digest_104, eX3_digest_104N, eX3_digest_105, eX3_digest_109, eX3_digest_112, eX3_digest_116, eX3_digest_117, eX3_digest_120, eX3_digest_124, eX3_digest_125, eX3_digest_125N, eX3_digest_126, eX3_digest_130, eX3_digest_133, eX3_digest_136, eX3_digest_136N, eX3_digest_137, eX3_digest_140, eX3_digest_144N, eX3_digest_144R, eX3_digest_147, eX3_digest_147N, eX3_digest_149, eX3_digest_154, eX3_digest_158, eX3_digest_159, eX3_digest_159N, eX3_digest_161, eX3_digest_164, eX3_digest_167, eX3_digest_171, eX3_digest_171N, eX3_digest_173, eX3_digest_176, eX3_digest_179, eX3_digest_183, eX3_digest_183N, eX3_digest_185, eX3_digest_188R, eX3_digest_188N, eX3_digest_191, eX3_digest_195, eX3_digest_195N, eX3_digest_197, eX3_digest_200R, eX3_digest_200N, eX3_digest_203, eX3_digest_207, eX3_digest_214, eX3_digest_215, eX3_digest_215N, eX3_digest_217R, eX3_digest_217N, eX3_digest_220, eX3_digest_223, eX3_digest_227, eX3_digest_227N, eX3_digest_229R, eX3_digest_229N, eX3_digest_232, eX3_digest_235, eX3_digest_239, eX3_digest_239N, eX3_digest_240, eX3_digest_244, eX3_digest_248, eX3_digest_250, eX3_digest_250N, eX3_digest_251, eX3_digest_256, eX3_digest_260, eX3_digest_260N, eX3_digest_261, eX3_digest_266, eX3_digest_270, eX3_digest_270N, eX3_digest_271, eX3_digest_275, eX3_digest_279, eX3_digest_283, eX3_digest_285, eX3_digest_289, eX3_digest_290, eX3_digest_290N, eX3_digest_292, eX3_digest_294R, eX3_digest_294N, eX3_digest_297, eX3_digest_301, eX3_digest_308, eX3_digest_314, eX3_digest_317, eX3_digest_321, eX3_digest_322, eX3_digest_322N, eX3_digest_323, eX3_digest_327, eX3_digest_331, eX3_digest_338, eX3_digest_341, eX3_digest_345, eX3_digest_346, eX3_digest_346N, eX3_digest_347, eX3_digest_352, eX3_digest_356, eX3_digest_363, eX3_digest_368, lgp, lgn, lgz, i10, i00, if_true, if_false, eq_self, not_true, not_false_eq_true, m10, n4e, upw2q, rv0, rv1, rv2, rv3, lmi, lmx, hlt, hcl, ar1, ar2, ar3, ac1, ac2, ac3, ac4, ite_le, n45, n54, true_or, or_true, false_or, or_false, false_and, and_false, kx_l, kx_r, go_s, gl_s, gi_s, gb_s2, gb_s3, gq_s, wt_nil, wt_int, wt_long, wt_ref, wt_null, nl_int, nl_long, nl_ref, nl_null, nl_none, rf_n, rf_s, rf_st, tl_s, tl_n, g0, gS, ex1, nb_b, nb_0, nb_1, nf_i, nf_l, nf_ra, nf_ro, nf_na, nf_no, nf_b0, nf_z0, t45_4, t45_5, true_and, and_true, List.set_cons_zero, List.set_cons_succ, List.length_cons, List.length_nil, rd_s, upw_s, ne_eq, not_false_eq_true, Nat.zero_add, Nat.add_zero]
      | split
      | with_reducible intro _
      | omega
  | succ d ih =>
    intro j o4 o5 w' kz mz hjd hk hkz hmz
    have hM1 := hM.ext hk
    have h9 : j < 1000 := by omega
    have hlt : Int32.ofNat j < 8 := oNl (B := 8) h9 rfl (by omega)
    have hnn := oN0 h9
    have hcl := oNc h9
    rw [eX3_digest_35]
    repeat' first
      | with_reducible assumption
      | with_reducible refine And.intro ?_ ?_
      | with_reducible exact vpi6 (by assumption) (by assumption)
      | with_reducible exact vpi8 (by assumption) (by assumption)
      | (rw [oN1]; exact ih (j + 1) _ _ _ _ _ (by omega) (by first | exact hk | exact ext.tr hk (by assumption)) (by omega) (by omega))
      | with_reducible exact vp8j (j := j) (by omega)
      | with_reducible refine vX3_whoNow0 (by first | exact hM1 | exact MS.ext hM1 (by assumption)) (okNj (by omega)) ?_
      | with_reducible refine vX3_whoNow1 (by first | exact hM1 | exact MS.ext hM1 (by assumption)) (okNj (by omega)) ?_
      | with_reducible exact trivial
      | with_reducible exact absurd (by assumption) n10'
      | with_reducible exact n00x (by assumption)
      | with_reducible refine fX3_add ?_
      | with_reducible refine go_S (by first | exact hM1 | exact MS.ext hM1 (by assumption)) (fun _ _ hY => ?_)
      | with_reducible exact MS.gC (by first | exact hM1 | exact MS.ext hM1 (by assumption)) (by assumption)
      | with_reducible exact MS.gP (by first | exact hM1 | exact MS.ext hM1 (by assumption)) (by assumption)
      | with_reducible refine gl_S (by first | exact hM1 | exact MS.ext hM1 (by assumption)) ?_
      | with_reducible refine fX3_high ?_
      | with_reducible refine fX3_low ?_
      | with_reducible refine fX3_one (bI01 _) ?_
      | with_reducible refine fX3_one (Or.inl rfl) ?_
      | with_reducible refine fX3_one (Or.inr rfl) ?_
      | simp only [eX3_digest_0, eX3_digest_0N, eX3_digest_1, eX3_digest_5, eX3_digest_12, eX3_digest_16, eX3_digest_17, eX3_digest_17N, eX3_digest_18, eX3_digest_22, eX3_digest_26, eX3_digest_33, eX3_digest_36, eX3_digest_41, eX3_digest_42, eX3_digest_42N, eX3_digest_43, eX3_digest_46, eX3_digest_48, eX3_digest_51, eX3_digest_55, eX3_digest_55N, eX3_digest_56, eX3_digest_59, eX3_digest_61, eX3_digest_64, eX3_digest_68, eX3_digest_68N, eX3_digest_69, eX3_digest_74, eX3_digest_78, eX3_digest_78N, eX3_digest_79, eX3_digest_84, eX3_digest_88, eX3_digest_95, eX3_digest_98, eX3_digest_103, eX3_digest_104, eX3_digest_104N, eX3_digest_105, eX3_digest_109, eX3_digest_112, eX3_digest_116, eX3_digest_117, eX3_digest_120, eX3_digest_124, eX3_digest_125, eX3_digest_125N, eX3_digest_126, eX3_digest_130, eX3_digest_133, eX3_digest_136, eX3_digest_136N, eX3_digest_137, eX3_digest_140, eX3_digest_144N, eX3_digest_144R, eX3_digest_147, eX3_digest_147N, eX3_digest_149, eX3_digest_154, eX3_digest_158, eX3_digest_159, eX3_digest_159N, eX3_digest_161, eX3_digest_164, eX3_digest_167, eX3_digest_171, eX3_digest_171N, eX3_digest_173, eX3_digest_176, eX3_digest_179, eX3_digest_183, eX3_digest_183N, eX3_digest_185, eX3_digest_188R, eX3_digest_188N, eX3_digest_191, eX3_digest_195, eX3_digest_195N, eX3_digest_197, eX3_digest_200R, eX3_digest_200N, eX3_digest_203, eX3_digest_207, eX3_digest_214, eX3_digest_215, eX3_digest_215N, eX3_digest_217R, eX3_digest_217N, eX3_digest_220, eX3_digest_223, eX3_digest_227, eX3_digest_227N, eX3_digest_229R, eX3_digest_229N, eX3_digest_232, eX3_digest_235, eX3_digest_239, eX3_digest_239N, eX3_digest_240, eX3_digest_244, eX3_digest_248, eX3_digest_250, eX3_digest_250N, eX3_digest_251, eX3_digest_256, eX3_digest_260, eX3_digest_260N, eX3_digest_261, eX3_digest_266, eX3_digest_270, eX3_digest_270N, eX3_digest_271, eX3_digest_275, eX3_digest_279, eX3_digest_283, eX3_digest_285, eX3_digest_289, eX3_digest_290, eX3_digest_290N, eX3_digest_292, eX3_digest_294R, eX3_digest_294N, eX3_digest_297, eX3_digest_301, eX3_digest_308, eX3_digest_314, eX3_digest_317, eX3_digest_321, eX3_digest_322, eX3_digest_322N, eX3_digest_323, eX3_digest_327, eX3_digest_331, eX3_digest_338, eX3_digest_341, eX3_digest_345, eX3_digest_346, eX3_digest_346N, eX3_digest_347, eX3_digest_352, eX3_digest_356, eX3_digest_363, eX3_digest_368, lgp, lgn, lgz, i10, i00, if_true, if_false, eq_self, not_true, not_false_eq_true, m10, n4e, upw2q, rv0, rv1, rv2, rv3, lmi, lmx, hlt, hcl, ar1, ar2, ar3, ac1, ac2, ac3, ac4, ite_le, n45, n54, true_or, or_true, false_or, or_false, false_and, and_false, kx_l, kx_r, go_s, gl_s, gi_s, gb_s2, gb_s3, gq_s, wt_nil, wt_int, wt_long, wt_ref, wt_null, nl_int, nl_long, nl_ref, nl_null, nl_none, rf_n, rf_s, rf_st, tl_s, tl_n, g0, gS, ex1, nb_b, nb_0, nb_1, nf_i, nf_l, nf_ra, nf_ro, nf_na, nf_no, nf_b0, nf_z0, t45_4, t45_5, true_and, and_true, List.set_cons_zero, List.set_cons_succ, List.length_cons, List.length_nil, rd_s, upw_s, ne_eq, not_false_eq_true, Nat.zero_add, Nat.add_zero]
      | split
      | with_reducible intro _
      | omega
set_option maxHeartbeats 8000000 in
theorem fX3_digest_11 {b0 : Int64} (hM : MS g w0 y nM kd th s w) (hQ : ∀ w', ext g w w' → Q (.inl (some (.long (dw (gfold (fdP s) (gfold (fdW s) (gfold (fdC s) (gfold (fdN s) (gfold (fdH s kd) b0 5) 8) 6) 3) 6) 1)))) w') : ∀ (d j : Nat) (o4 o5 : Option Value) (w' : Hw) (kz mz : Nat), j + d = 5 → ext g w w' → kz ≤ 2 * j → mz ≤ 9 * j → WP (MX3_digest g) Q (11, [some (.ref y), some (.long (gfold (fdH s kd) b0 j)), none, some (.int (Int32.ofNat j)), o4, o5], [], w', kz, mz) := by
  intro d
  induction d with
  | zero =>
    intro j o4 o5 w' kz mz hjd hk hkz hmz
    have hM1 := hM.ext hk
    have h9 : j < 1000 := by omega
    have hlt : ¬ Int32.ofNat j < 5 := oNg (B := 5) h9 rfl (by omega)
    have hnn := oN0 h9
    have hcl := oNc h9
    obtain rfl : j = 5 := by omega
    rw [eX3_digest_11]
    repeat' first
      | with_reducible assumption
      | with_reducible refine And.intro ?_ ?_
      | with_reducible exact vpi6 (by assumption) (by assumption)
      | with_reducible exact vpi8 (by assumption) (by assumption)
      | with_reducible exact trivial
      | with_reducible exact absurd (by assumption) n10'
      | with_reducible exact n00x (by assumption)
      | with_reducible refine fX3_add ?_
      | with_reducible refine go_S (by first | exact hM1 | exact MS.ext hM1 (by assumption)) (fun _ _ hY => ?_)
      | with_reducible exact MS.gC (by first | exact hM1 | exact MS.ext hM1 (by assumption)) (by assumption)
      | with_reducible exact MS.gP (by first | exact hM1 | exact MS.ext hM1 (by assumption)) (by assumption)
      | with_reducible refine gl_S (by first | exact hM1 | exact MS.ext hM1 (by assumption)) ?_
      | with_reducible refine fX3_high ?_
      | with_reducible refine fX3_low ?_
      | with_reducible refine fX3_one (bI01 _) ?_
      | with_reducible refine fX3_one (Or.inl rfl) ?_
      | with_reducible refine fX3_one (Or.inr rfl) ?_
      | (exact fX3_digest_35 hM hQ 8 0 _ _ _ _ _ rfl hk (by omega) (by omega))
      | simp only [eX3_digest_0, eX3_digest_0N, eX3_digest_1, eX3_digest_5, eX3_digest_12, eX3_digest_16, eX3_digest_17, eX3_digest_17N, eX3_digest_18, eX3_digest_22, eX3_digest_26, eX3_digest_33, eX3_digest_36, eX3_digest_41, eX3_digest_42, eX3_digest_42N, eX3_digest_43, eX3_digest_46, eX3_digest_48, eX3_digest_51, eX3_digest_55, eX3_digest_55N, eX3_digest_56, eX3_digest_59, eX3_digest_61, eX3_digest_64, eX3_digest_68, eX3_digest_68N, eX3_digest_69, eX3_digest_74, eX3_digest_78, eX3_digest_78N, eX3_digest_79, eX3_digest_84, eX3_digest_88, eX3_digest_95, eX3_digest_98, eX3_digest_103, eX3_digest_104, eX3_digest_104N, eX3_digest_105, eX3_digest_109, eX3_digest_112, eX3_digest_116, eX3_digest_117, eX3_digest_120, eX3_digest_124, eX3_digest_125, eX3_digest_125N, eX3_digest_126, eX3_digest_130, eX3_digest_133, eX3_digest_136, eX3_digest_136N, eX3_digest_137, eX3_digest_140, eX3_digest_144N, eX3_digest_144R, eX3_digest_147, eX3_digest_147N, eX3_digest_149, eX3_digest_154, eX3_digest_158, eX3_digest_159, eX3_digest_159N, eX3_digest_161, eX3_digest_164, eX3_digest_167, eX3_digest_171, eX3_digest_171N, eX3_digest_173, eX3_digest_176, eX3_digest_179, eX3_digest_183, eX3_digest_183N, eX3_digest_185, eX3_digest_188R, eX3_digest_188N, eX3_digest_191, eX3_digest_195, eX3_digest_195N, eX3_digest_197, eX3_digest_200R, eX3_digest_200N, eX3_digest_203, eX3_digest_207, eX3_digest_214, eX3_digest_215, eX3_digest_215N, eX3_digest_217R, eX3_digest_217N, eX3_digest_220, eX3_digest_223, eX3_digest_227, eX3_digest_227N, eX3_digest_229R, eX3_digest_229N, eX3_digest_232, eX3_digest_235, eX3_digest_239, eX3_digest_239N, eX3_digest_240, eX3_digest_244, eX3_digest_248, eX3_digest_250, eX3_digest_250N, eX3_digest_251, eX3_digest_256, eX3_digest_260, eX3_digest_260N, eX3_digest_261, eX3_digest_266, eX3_digest_270, eX3_digest_270N, eX3_digest_271, eX3_digest_275, eX3_digest_279, eX3_digest_283, eX3_digest_285, eX3_digest_289, eX3_digest_290, eX3_digest_290N, eX3_digest_292, eX3_digest_294R, eX3_digest_294N, eX3_digest_297, eX3_digest_301, eX3_digest_308, eX3_digest_314, eX3_digest_317, eX3_digest_321, eX3_digest_322, eX3_digest_322N, eX3_digest_323, eX3_digest_327, eX3_digest_331, eX3_digest_338, eX3_digest_341, eX3_digest_345, eX3_digest_346, eX3_digest_346N, eX3_digest_347, eX3_digest_352, eX3_digest_356, eX3_digest_363, eX3_digest_368, lgp, lgn, lgz, i10, i00, if_true, if_false, eq_self, not_true, not_false_eq_true, m10, n4e, upw2q, rv0, rv1, rv2, rv3, lmi, lmx, hlt, hcl, ls4, ar1, ar2, ar3, ac1, ac2, ac3, ac4, ite_le, n45, n54, true_or, or_true, false_or, or_false, false_and, and_false, kx_l, kx_r, go_s, gl_s, gi_s, gb_s2, gb_s3, gq_s, wt_nil, wt_int, wt_long, wt_ref, wt_null, nl_int, nl_long, nl_ref, nl_null, nl_none, rf_n, rf_s, rf_st, tl_s, tl_n, g0, gS, ex1, nb_b, nb_0, nb_1, nf_i, nf_l, nf_ra, nf_ro, nf_na, nf_no, nf_b0, nf_z0, t45_4, t45_5, true_and, and_true, List.set_cons_zero, List.set_cons_succ, List.length_cons, List.length_nil, rd_s, upw_s, ne_eq, not_false_eq_true, Nat.zero_add, Nat.add_zero]
      | split
      | with_reducible intro _
      | omega
  | succ d ih =>
    intro j o4 o5 w' kz mz hjd hk hkz hmz
    have hM1 := hM.ext hk
    have h9 : j < 1000 := by omega
    have hlt : Int32.ofNat j < 5 := oNl (B := 5) h9 rfl (by omega)
    have hnn := oN0 h9
    have hcl := oNc h9
    rw [eX3_digest_11]
    repeat' first
      | with_reducible assumption
      | with_reducible refine And.intro ?_ ?_
      | with_reducible exact vpi6 (by assumption) (by assumption)
      | with_reducible exact vpi8 (by assumption) (by assumption)
      | (rw [oN1]; exact ih (j + 1) _ _ _ _ _ (by omega) (by first | exact hk | exact ext.tr hk (by assumption)) (by omega) (by omega))
      | with_reducible refine fX3_houseNow (by first | exact hM1 | exact MS.ext hM1 (by assumption)) (okW4j (j := j) (by omega)) (fun w2 k2 => ?_)
      | with_reducible exact trivial
      | with_reducible exact absurd (by assumption) n10'
      | with_reducible exact n00x (by assumption)
      | with_reducible refine fX3_add ?_
      | with_reducible refine go_S (by first | exact hM1 | exact MS.ext hM1 (by assumption)) (fun _ _ hY => ?_)
      | with_reducible exact MS.gC (by first | exact hM1 | exact MS.ext hM1 (by assumption)) (by assumption)
      | with_reducible exact MS.gP (by first | exact hM1 | exact MS.ext hM1 (by assumption)) (by assumption)
      | with_reducible refine gl_S (by first | exact hM1 | exact MS.ext hM1 (by assumption)) ?_
      | with_reducible refine fX3_high ?_
      | with_reducible refine fX3_low ?_
      | with_reducible refine fX3_one (bI01 _) ?_
      | with_reducible refine fX3_one (Or.inl rfl) ?_
      | with_reducible refine fX3_one (Or.inr rfl) ?_
      | simp only [eX3_digest_0, eX3_digest_0N, eX3_digest_1, eX3_digest_5, eX3_digest_12, eX3_digest_16, eX3_digest_17, eX3_digest_17N, eX3_digest_18, eX3_digest_22, eX3_digest_26, eX3_digest_33, eX3_digest_36, eX3_digest_41, eX3_digest_42, eX3_digest_42N, eX3_digest_43, eX3_digest_46, eX3_digest_48, eX3_digest_51, eX3_digest_55, eX3_digest_55N, eX3_digest_56, eX3_digest_59, eX3_digest_61, eX3_digest_64, eX3_digest_68, eX3_digest_68N, eX3_digest_69, eX3_digest_74, eX3_digest_78, eX3_digest_78N, eX3_digest_79, eX3_digest_84, eX3_digest_88, eX3_digest_95, eX3_digest_98, eX3_digest_103, eX3_digest_104, eX3_digest_104N, eX3_digest_105, eX3_digest_109, eX3_digest_112, eX3_digest_116, eX3_digest_117, eX3_digest_120, eX3_digest_124, eX3_digest_125, eX3_digest_125N, eX3_digest_126, eX3_digest_130, eX3_digest_133, eX3_digest_136, eX3_digest_136N, eX3_digest_137, eX3_digest_140, eX3_digest_144N, eX3_digest_144R, eX3_digest_147, eX3_digest_147N, eX3_digest_149, eX3_digest_154, eX3_digest_158, eX3_digest_159, eX3_digest_159N, eX3_digest_161, eX3_digest_164, eX3_digest_167, eX3_digest_171, eX3_digest_171N, eX3_digest_173, eX3_digest_176, eX3_digest_179, eX3_digest_183, eX3_digest_183N, eX3_digest_185, eX3_digest_188R, eX3_digest_188N, eX3_digest_191, eX3_digest_195, eX3_digest_195N, eX3_digest_197, eX3_digest_200R, eX3_digest_200N, eX3_digest_203, eX3_digest_207, eX3_digest_214, eX3_digest_215, eX3_digest_215N, eX3_digest_217R, eX3_digest_217N, eX3_digest_220, eX3_digest_223, eX3_digest_227, eX3_digest_227N, eX3_digest_229R, eX3_digest_229N, eX3_digest_232, eX3_digest_235, eX3_digest_239, eX3_digest_239N, eX3_digest_240, eX3_digest_244, eX3_digest_248, eX3_digest_250, eX3_digest_250N, eX3_digest_251, eX3_digest_256, eX3_digest_260, eX3_digest_260N, eX3_digest_261, eX3_digest_266, eX3_digest_270, eX3_digest_270N, eX3_digest_271, eX3_digest_275, eX3_digest_279, eX3_digest_283, eX3_digest_285, eX3_digest_289, eX3_digest_290, eX3_digest_290N, eX3_digest_292, eX3_digest_294R, eX3_digest_294N, eX3_digest_297, eX3_digest_301, eX3_digest_308, eX3_digest_314, eX3_digest_317, eX3_digest_321, eX3_digest_322, eX3_digest_322N, eX3_digest_323, eX3_digest_327, eX3_digest_331, eX3_digest_338, eX3_digest_341, eX3_digest_345, eX3_digest_346, eX3_digest_346N, eX3_digest_347, eX3_digest_352, eX3_digest_356, eX3_digest_363, eX3_digest_368, lgp, lgn, lgz, i10, i00, if_true, if_false, eq_self, not_true, not_false_eq_true, m10, n4e, upw2q, rv0, rv1, rv2, rv3, lmi, lmx, hlt, hcl, ls4, ar1, ar2, ar3, ac1, ac2, ac3, ac4, ite_le, n45, n54, true_or, or_true, false_or, or_false, false_and, and_false, kx_l, kx_r, go_s, gl_s, gi_s, gb_s2, gb_s3, gq_s, wt_nil, wt_int, wt_long, wt_ref, wt_null, nl_int, nl_long, nl_ref, nl_null, nl_none, rf_n, rf_s, rf_st, tl_s, tl_n, g0, gS, ex1, nb_b, nb_0, nb_1, nf_i, nf_l, nf_ra, nf_ro, nf_na, nf_no, nf_b0, nf_z0, t45_4, t45_5, true_and, and_true, List.set_cons_zero, List.set_cons_succ, List.length_cons, List.length_nil, rd_s, upw_s, ne_eq, not_false_eq_true, Nat.zero_add, Nat.add_zero]
      | split
      | with_reducible intro _
      | omega
set_option maxHeartbeats 4000000 in
theorem fX3_digest  (hM : MS g w0 y nM kd th s w) (hQ : ∀ w', MS g w0 y nM kd 0 s w' → Q (.inl (some (.long (digV s kd)))) w') : WP (MX3_digest g) Q (0, [some (.ref y), none, none, none, none, none], [], w, 0, 0) := by
  obtain ⟨cL, pL, hy, ry⟩ := hM.1.op
  obtain ⟨w1, hw1⟩ : ∃ w1, upw w y (.inr (7, [.int 0, .ref nM, .ref cL, .ref pL, .int s.2.2.2.2.1, .int kd, .int s.2.2.2.2.2])) = w1 := ⟨_, rfl⟩
  have hM1 : MS g w0 y nM kd 0 s w1 := by
    rw [← hw1]
    exact hM.set hy
  have hy1 : w1 y = some (.inr (7, [.int 0, .ref nM, .ref cL, .ref pL, .int s.2.2.2.2.1, .int kd, .int s.2.2.2.2.2])) := by
    rw [← hw1]
    exact upw_s _ _ _
  repeat' first
    | with_reducible assumption
    | with_reducible refine And.intro ?_ ?_
    | with_reducible exact vpi6 (by assumption) (by assumption)
    | with_reducible exact vpi8 (by assumption) (by assumption)
    | with_reducible exact trivial
    | with_reducible exact absurd (by assumption) n10'
    | with_reducible exact n00x (by assumption)
    | (exact fX3_digest_11 hM1 (fun w2 hk => hQ w2 (hM1.ext hk)) 5 0 _ _ _ _ _ rfl ext.rf (by decide) (by decide))
    | simp only [eX3_digest_0, eX3_digest_0N, eX3_digest_1, eX3_digest_5, eX3_digest_12, eX3_digest_16, eX3_digest_17, eX3_digest_17N, eX3_digest_18, eX3_digest_22, eX3_digest_26, eX3_digest_33, eX3_digest_35, eX3_digest_36, eX3_digest_41, eX3_digest_42, eX3_digest_42N, eX3_digest_43, eX3_digest_46, eX3_digest_48, eX3_digest_51, eX3_digest_55, eX3_digest_55N, eX3_digest_56, eX3_digest_59, eX3_digest_61, eX3_digest_64, eX3_digest_68, eX3_digest_68N, eX3_digest_69, eX3_digest_74, eX3_digest_78, eX3_digest_78N, eX3_digest_79, eX3_digest_84, eX3_digest_88, eX3_digest_95, eX3_digest_97, eX3_digest_98, eX3_digest_103, eX3_digest_104, eX3_digest_104N, eX3_digest_105, eX3_digest_109, eX3_digest_112, eX3_digest_116, eX3_digest_117, eX3_digest_120, eX3_digest_124, eX3_digest_125, eX3_digest_125N, eX3_digest_126, eX3_digest_130, eX3_digest_133, eX3_digest_136, eX3_digest_136N, eX3_digest_137, eX3_digest_140, eX3_digest_144N, eX3_digest_144R, eX3_digest_147, eX3_digest_147N, eX3_digest_149, eX3_digest_152, eX3_digest_154, eX3_digest_158, eX3_digest_159, eX3_digest_159N, eX3_digest_161, eX3_digest_164, eX3_digest_167, eX3_digest_171, eX3_digest_171N, eX3_digest_173, eX3_digest_176, eX3_digest_179, eX3_digest_183, eX3_digest_183N, eX3_digest_185, eX3_digest_188R, eX3_digest_188N, eX3_digest_191, eX3_digest_195, eX3_digest_195N, eX3_digest_197, eX3_digest_200R, eX3_digest_200N, eX3_digest_203, eX3_digest_207, eX3_digest_214, eX3_digest_215, eX3_digest_215N, eX3_digest_217R, eX3_digest_217N, eX3_digest_220, eX3_digest_223, eX3_digest_227, eX3_digest_227N, eX3_digest_229R, eX3_digest_229N, eX3_digest_232, eX3_digest_235, eX3_digest_239, eX3_digest_239N, eX3_digest_240, eX3_digest_244, eX3_digest_248, eX3_digest_250, eX3_digest_250N, eX3_digest_251, eX3_digest_256, eX3_digest_260, eX3_digest_260N, eX3_digest_261, eX3_digest_266, eX3_digest_270, eX3_digest_270N, eX3_digest_271, eX3_digest_275, eX3_digest_279, eX3_digest_283, eX3_digest_285, eX3_digest_289, eX3_digest_290, eX3_digest_290N, eX3_digest_292, eX3_digest_294R, eX3_digest_294N, eX3_digest_297, eX3_digest_301, eX3_digest_308, eX3_digest_314, eX3_digest_316, eX3_digest_317, eX3_digest_321, eX3_digest_322, eX3_digest_322N, eX3_digest_323, eX3_digest_327, eX3_digest_331, eX3_digest_338, eX3_digest_340, eX3_digest_341, eX3_digest_345, eX3_digest_346, eX3_digest_346N, eX3_digest_347, eX3_digest_352, eX3_digest_356, eX3_digest_363, eX3_digest_368, lgp, lgn, lgz, i10, i00, if_true, if_false, eq_self, not_true, not_false_eq_true, m10, n4e, upw2q, rv0, rv1, rv2, rv3, lmi, lmx, hy, hw1, ite_le, n45, n54, true_or, or_true, false_or, or_false, false_and, and_false, kx_l, kx_r, go_s, gl_s, gi_s, gb_s2, gb_s3, gq_s, wt_nil, wt_int, wt_long, wt_ref, wt_null, nl_int, nl_long, nl_ref, nl_null, nl_none, rf_n, rf_s, rf_st, tl_s, tl_n, g0, gS, ex1, nb_b, nb_0, nb_1, nf_i, nf_l, nf_ra, nf_ro, nf_na, nf_no, nf_b0, nf_z0, t45_4, t45_5, true_and, and_true, List.set_cons_zero, List.set_cons_succ, List.length_cons, List.length_nil, rd_s, upw_s, ne_eq, not_false_eq_true, Nat.zero_add, Nat.add_zero]
    | split
    | with_reducible intro _
    | omega
end
end
/-! 78.lw0.lean.txt -/
section
section
variable {g : RO} {Q : Ot → Hw → Prop} {w : Hw} {x nA cA lA y nM o : Nat} {kn km th : Int32} {s s2 : AS}
def LW (g : RO) (w : Hw) (x nA cA lA y nM o : Nat) (kn km th : Int32) (s s2 : AS) : Prop := RF w x nA cA lA kn s ∧ sOk s ∧ MF g w y nM km th s2 ∧ nA ≠ nM ∧ (∃ a b : Value, w o = some (.inr (6, [a, b]))) ∧ ∀ (a : Nat) (z : Ob), g.2 a = some z → w a = none
def PO4 (o : Ob) : Prop := (∃ fs, o = .inr (5, fs)) ∨ (∃ fs, o = .inr (4, fs)) ∨ ∃ z, o = .inl (4, z)
theorem RF.mv {w' : Hw} (h : RF w x nA cA lA kn s) (m : ∀ (a : Nat) (z : Ob), w a = some z → PO4 z → w' a = some z) (mN : ∀ f : Nat → Int64, w nA = some (.inl (0, 8, .inr (.inl f))) → w' nA = some (.inl (0, 8, .inr (.inl f)))) : RF w' x nA cA lA kn s := by
  obtain ⟨gc, gl, ⟨h1, h2, h3, h4, h5, h6, h7⟩, k1, k2⟩ := h
  have r : ∀ b q, rAt w b q → rAt w' b q := fun b q hb => m _ _ hb (Or.inr (Or.inl ⟨_, rfl⟩))
  have rr : ∀ b, isR w b → isR w' b := fun b ⟨r0, r1, r2, r3, hb⟩ => ⟨r0, r1, r2, r3, m _ _ hb (Or.inr (Or.inl ⟨_, rfl⟩))⟩
  exact ⟨gc, gl, ⟨m _ _ h1 (Or.inl ⟨_, rfl⟩), mN _ h2, m _ _ h3 (Or.inr (Or.inr ⟨_, rfl⟩)), m _ _ h4 (Or.inr (Or.inr ⟨_, rfl⟩)), fun i b z => rr b (h5 i b z), fun i b z => rr b (h6 i b z), h7⟩, fun i hi => (k1 i hi).mp r, fun i hi => (k2 i hi).imp fun b z => ⟨z.1, r _ _ z.2⟩⟩
theorem RF.FM {w' : Hw} (h : RF w x nA cA lA kn s) (k : FM g nM w w') (hM : ∃ f : Nat → Int64, w nM = some (.inl (0, 8, .inr (.inl f)))) (hne : nA ≠ nM) : RF w' x nA cA lA kn s := by
  obtain ⟨fM, hM⟩ := hM
  refine h.mv (fun a z ha hP => k.1 a z ha (fun e => ?_) ?_) (fun f hf => k.1 _ _ hf hne rfl)
  · subst e
    rw [hM] at ha
    cases ha
    rcases hP with ⟨_, e⟩ | ⟨_, e⟩ | ⟨_, e⟩ <;> cases e
  · rcases hP with ⟨_, rfl⟩ | ⟨_, rfl⟩ | ⟨_, rfl⟩ <;> rfl
theorem MF.FC {w' : Hw} {fA : Nat → Int64} (h : MF g w y nM km th s2) (k : FC g nA w w') (hA : w nA = some (.inl (0, 8, .inr (.inl fA)))) (hne : nM ≠ nA) : MF g w' y nM km th s2 := by
  obtain ⟨cL, pL, D1, D2, c1, c2, h1, h2, a1, a2, a3, a4, a5, a6, a7, a8, a9, b1, b2⟩ := h
  have ll : ∀ {L D cap : Nat} {n : Int32} {h : Nat → Option Nat}, LL g w L D cap n h → LL g w' L D cap n h := fun hl => hl.kp (fun fs e => k.ne hA e (fun e => by cases e) rfl) (fun z e => k.ne hA e (fun e => by cases e) rfl) (fun o e1 e2 => k.2 _ o e1 e2)
  have rr : ∀ b r, rowA w b r → rowA w' b r := fun b r hb => k.ne hA hb (fun e => by cases e) rfl
  exact ⟨cL, pL, D1, D2, c1, c2, h1, h2, k.ne hA a1 (fun e => by cases e) rfl, k.1 _ _ a2 hne rfl, ll a3, fun i b z => k.row hA (a4 i b z), ll a5, fun i b z => k.row hA (a6 i b z), a7, a8, a9, fun i hi => (b1 i hi).mp rr, fun i hi => (b2 i hi).imp fun b z => ⟨z.1, rr _ _ z.2⟩⟩
theorem LW.cs (h : LW g w x nA cA lA y nM o kn km th s s2) : CS g w x nA cA lA kn s w := ⟨h.1, FC.rf⟩
theorem LW.cc (h : LW g w x nA cA lA y nM o kn km th s s2) : CC g w x nA cA lA kn w := h.cs.cc
theorem LW.ok (h : LW g w x nA cA lA y nM o kn km th s s2) : sOk s := h.2.1
theorem LW.ms (h : LW g w x nA cA lA y nM o kn km th s s2) : MS g w y nM km th s2 w := ⟨h.2.2.1, FM.rf⟩
theorem LW.ro (h : LW g w x nA cA lA y nM o kn km th s s2) : ∀ (a : Nat) (z : Ob), g.2 a = some z → w a = none := h.2.2.2.2.2
theorem LW.of {kn' : Int32} {s' : AS} {w' : Hw} (h : LW g w x nA cA lA y nM o kn km th s s2) (k : CS g w x nA cA lA kn' s' w') (ho : sOk s') : LW g w' x nA cA lA y nM o kn' km th s' s2 := by
  obtain ⟨h1, -, h2, h3, ⟨a, b, h4⟩, h5⟩ := h
  obtain ⟨gc, gl, ⟨r1, r2, -⟩, -⟩ := h1
  exact ⟨k.1, ho, h2.FC k.2 r2 h3.symm, h3, ⟨a, b, k.2.ne r2 h4 (fun e => by cases e) rfl⟩, fun a z e => k.2.2 a z e (h5 a z e)⟩
theorem LW.ofM {km' th' : Int32} {s2' : AS} {w' : Hw} (h : LW g w x nA cA lA y nM o kn km th s s2) (k : MS g w y nM km' th' s2' w') : LW g w' x nA cA lA y nM o kn km' th' s s2' := by
  obtain ⟨h1, ho, h2, h3, ⟨a, b, h4⟩, h5⟩ := h
  obtain ⟨cL, pL, D1, D2, c1, c2, h1', h2', a1, a2, -⟩ := h2
  exact ⟨h1.FM k.2 ⟨_, a2⟩ h3, ho, k.1, h3, ⟨a, b, k.2.1 _ _ h4 (ne_of h4 a2 (fun e => by cases e)) rfl⟩, fun a z e => k.2.2 a z e (h5 a z e)⟩
theorem LW.ext {w' : Hw} (h : LW g w x nA cA lA y nM o kn km th s s2) (k : ext g w w') : LW g w' x nA cA lA y nM o kn km th s s2 := h.of (h.cs.ext k) h.2.1
theorem LW.out {a b a' b' : Value} (h : LW g w x nA cA lA y nM o kn km th s s2) (ho : w o = some (.inr (6, [a, b]))) : LW g (upw w o (.inr (6, [a', b']))) x nA cA lA y nM o kn km th s s2 := by
  obtain ⟨h1, hk, h2, h3, -, h5⟩ := h
  obtain ⟨cL, pL, D1, D2, c1, c2, g1, g2, a1, a2, a3, a4, a5, a6, a7, a8, a9, b1, b2⟩ := h2
  refine ⟨h1.mv (fun c z hc hP => ?_) (fun f hf => ?_), hk, ⟨cL, pL, D1, D2, c1, c2, g1, g2, ?_, ?_, a3.up ho (fun _ e => by cases e) (fun _ e => by cases e), fun i b z => isRow_up (a4 i b z) ho (fun _ e => by cases e), a5.up ho (fun _ e => by cases e) (fun _ e => by cases e), fun i b z => isRow_up (a6 i b z) ho (fun _ e => by cases e), a7, a8, a9, fun i hi => (b1 i hi).mp fun _ _ z => rowA_up z ho (fun _ e => by cases e), fun i hi => (b2 i hi).imp fun _ z => ⟨z.1, rowA_up z.2 ho (fun _ e => by cases e)⟩⟩, h3, ⟨a', b', upw_s _ _ _⟩, fun a z e => ?_⟩
  · rw [upw_n]
    · exact hc
    · rintro rfl
      rw [ho] at hc
      cases hc
      rcases hP with ⟨_, e⟩ | ⟨_, e⟩ | ⟨_, e⟩ <;> cases e
  · rw [upw_n (ne_of hf ho (fun e => by cases e))]
    exact hf
  · rw [upw_n (ne_of a1 ho (fun e => by cases e))]
    exact a1
  · rw [upw_n (ne_of a2 ho (fun e => by cases e))]
    exact a2
  · rw [upw_n]
    · exact h5 a z e
    · rintro rfl
      rw [h5 _ _ e] at ho
      cases ho
theorem go_OF {K : List Value → Prop} (h : LW g w x nA cA lA y nM o kn km th s s2) (k : ∀ a b : Value, (∀ a' b' : Value, LW g (upw w o (.inr (6, [a', b']))) x nA cA lA y nM o kn km th s s2) → K [a, b]) : go (w o) 6 K := by
  obtain ⟨a, b, ho⟩ := h.2.2.2.2.1
  rw [ho, go_s]
  exact k a b (fun _ _ => h.out ho)
theorem LW.gx {K : List Value → Prop} (h : LW g w x nA cA lA y nM o kn km th s s2) (k : ∀ fs, K fs) : go (rd g w x) 5 K := by
  obtain ⟨gc, gl, ⟨r1, -⟩, -⟩ := h.1
  rw [rd_e r1, go_s]
  exact k _
theorem LW.gz {K : List Value → Prop} (h : LW g w x nA cA lA y nM o kn km th s s2) (k : ∀ fs, K fs) : go (rd g w y) 7 K := by
  obtain ⟨cL, pL, D1, D2, c1, c2, h1, h2, a1, -⟩ := h.2.2.1
  rw [rd_e a1, go_s]
  exact k _
/-- what is handed on -/
def outN (w : Hw) (o : Nat) (v : Int64) : Prop := ∃ b, w o = some (.inr (6, [.long v, b]))
theorem outN.mk {v : Int64} {b : Value} : outN (upw w o (.inr (6, [.long v, b]))) o v := ⟨b, upw_s _ _ _⟩
theorem outN.mv {v : Int64} {km' th' : Int32} {s2' : AS} {w' : Hw} (h : outN w o v) (hL : LW g w x nA cA lA y nM o kn km th s s2) (k : MS g w y nM km' th' s2' w') : outN w' o v := by
  obtain ⟨b, h⟩ := h
  obtain ⟨cL, pL, D1, D2, c1, c2, h1', h2', a1, a2, -⟩ := hL.2.2.1
  exact ⟨b, k.2.1 _ _ h (ne_of h a2 (fun e => by cases e)) rfl⟩
theorem LW.rb {b : Nat} {z : Ob} (h : LW g w x nA cA lA y nM o kn km th s s2) (hb : g.2 b = some z) : rd g w b = some z := by
  unfold rd
  rw [h.ro b z hb]
  exact hb
theorem gi_W {b L : Nat} {xs : Nat → Int32} {K : Nat → (Nat → Int32) → Prop} (h : LW g w x nA cA lA y nM o kn km th s s2) (hb : g.2 b = some (.inl (1, L, .inl xs))) (k : K L xs) : gi (rd g w b) 1 K := by
  rw [h.rb hb]
  exact ⟨rfl, k⟩
theorem nsC {q : Option R4} {r : R4} (h : q = none) (k : q = some r) : False := by
  rw [h] at k
  cases k
theorem fstU {f : Nat → R4} {r : R4} {i j : Nat} (h1 : mP r (f i)) (h2 : ∀ k, k < i → ¬ mP r (f k)) (k1 : mP r (f j)) (k2 : ∀ k, k < j → ¬ mP r (f k)) : i = j := by
  rcases Nat.lt_trichotomy i j with q | q | q
  · exact absurd h1 (k2 i q)
  · exact q
  · exact absurd k1 (h2 j q)
end
end
/-! 78.lw1.lean.txt -/
section
section
variable {g : RO} {Q : Ot → Hw → Prop} {w : Hw} {x nA cA lA y nM o : Nat} {kn km th : Int32} {s s2 : AS}
set_option maxHeartbeats 4000000 in
theorem fL_set {a0 a1 a2 : Int32} (hL : LW g w x nA cA lA y nM o kn km th s s2) (hX : ¬ okN a0 → Q (.inl (some (.int 1))) w) (hQ : okN a0 → ∀ w', LW g w' x nA cA lA y nM o kn km th (sN s (vp_updL s.1 a0.toNatClampNeg (stV a1 a2))) s2 → outN w' o ((hiV (s.1 a0.toNatClampNeg)).toInt64) → Q (.inl (some (.int 0))) w') : WP (ML_set g) Q (0, [some (.ref x), some (.int a0), some (.int a1), some (.int a2), some (.ref o), none], [], w, 0, 0) := by
  have ho := hL.2.1
  simp only [eL_set_0, wt_nil, wt_ref, Nat.zero_add, Nat.add_zero]
  with_reducible refine And.intro ?_ ?_
  with_reducible refine LW.gx hL (fun _ => trivial)
  with_reducible refine And.intro ?_ ?_
  omega
  with_reducible refine And.intro ?_ ?_
  omega
  with_reducible refine And.intro ?_ ?_
  omega
  with_reducible refine fX1_set hL.cs (fun hXc0 => ?_) (fun hQc0 hQw hQh => ?_)
  simp only [kx_r]
  ((with_reducible refine isHgo ?_); refine hgo_h (HH := [(0, 13, 16, 19)]) (NN := [(19, "java/lang/IndexOutOfBoundsException")]) (h := 16) (E := "java/lang/IndexOutOfBoundsException") rfl rfl (by decide +kernel) (by decide) (fun _ => ?_))
  simp only [eL_set_16, nl_ref]
  with_reducible refine And.intro ?_ ?_
  omega
  with_reducible refine And.intro ?_ ?_
  omega
  with_reducible exact hX hXc0
  simp only [eL_set_9, eL_set_13, kx_l, tl_s, nf_l, true_and]
  with_reducible refine go_OF (LW.of hL hQh (by first | with_reducible exact ho | with_reducible exact ho.num | with_reducible exact ho.rf | with_reducible exact ho.mk (by assumption) | with_reducible exact ho.mk (ho.c' (by assumption) (by assumption)) | with_reducible exact ho.mkO (by assumption) (by assumption) | with_reducible exact ho.card0 | with_reducible exact ho.card (ho.c' (by assumption) (by assumption)) | with_reducible exact ho.card (ho.p' (by assumption)) | with_reducible exact ho.lay (ho.c' (by assumption) (by assumption)) (by assumption) | with_reducible exact ho.gap (by assumption) | with_reducible exact ho.tur | with_reducible exact ho.zero)) (fun _ _ hw => ?_)
  with_reducible refine And.intro ?_ ?_
  simp only [List.length_cons, List.length_nil, Nat.zero_add]
  omega
  with_reducible refine And.intro ?_ ?_
  omega
  with_reducible refine And.intro ?_ ?_
  omega
  simp only [List.set_cons_zero]
  with_reducible exact hQ hQc0 _ (hw _ _) outN.mk
set_option maxHeartbeats 4000000 in
theorem fL_setSmall {a0 a1 : Int32} (hL : LW g w x nA cA lA y nM o kn km th s s2) (hX : ¬ okN a0 → Q (.inl (some (.int 1))) w) (hQ : okN a0 → ∀ w', LW g w' x nA cA lA y nM o kn km th (sN s (vp_updL s.1 a0.toNatClampNeg a1.toInt64)) s2 → outN w' o ((loV (s.1 a0.toNatClampNeg)).toInt64) → Q (.inl (some (.int 0))) w') : WP (ML_setSmall g) Q (0, [some (.ref x), some (.int a0), some (.int a1), some (.ref o), none], [], w, 0, 0) := by
  have ho := hL.2.1
  simp only [eL_setSmall_0, wt_nil, wt_ref, Nat.zero_add, Nat.add_zero]
  with_reducible refine And.intro ?_ ?_
  with_reducible refine LW.gx hL (fun _ => trivial)
  with_reducible refine And.intro ?_ ?_
  omega
  with_reducible refine And.intro ?_ ?_
  omega
  with_reducible refine And.intro ?_ ?_
  omega
  with_reducible refine fX1_setSmall hL.cs (fun hXc0 => ?_) (fun hQc0 hQw hQh => ?_)
  simp only [kx_r]
  ((with_reducible refine isHgo ?_); refine hgo_h (HH := [(0, 11, 14, 19)]) (NN := [(19, "java/lang/IndexOutOfBoundsException")]) (h := 14) (E := "java/lang/IndexOutOfBoundsException") rfl rfl (by decide +kernel) (by decide) (fun _ => ?_))
  simp only [eL_setSmall_14, nl_ref]
  with_reducible refine And.intro ?_ ?_
  omega
  with_reducible refine And.intro ?_ ?_
  omega
  with_reducible exact hX hXc0
  simp only [eL_setSmall_7, eL_setSmall_11, kx_l, tl_s, nf_l, true_and]
  with_reducible refine go_OF (LW.of hL hQh (by first | with_reducible exact ho | with_reducible exact ho.num | with_reducible exact ho.rf | with_reducible exact ho.mk (by assumption) | with_reducible exact ho.mk (ho.c' (by assumption) (by assumption)) | with_reducible exact ho.mkO (by assumption) (by assumption) | with_reducible exact ho.card0 | with_reducible exact ho.card (ho.c' (by assumption) (by assumption)) | with_reducible exact ho.card (ho.p' (by assumption)) | with_reducible exact ho.lay (ho.c' (by assumption) (by assumption)) (by assumption) | with_reducible exact ho.gap (by assumption) | with_reducible exact ho.tur | with_reducible exact ho.zero)) (fun _ _ hw => ?_)
  with_reducible refine And.intro ?_ ?_
  simp only [List.length_cons, List.length_nil, Nat.zero_add]
  omega
  with_reducible refine And.intro ?_ ?_
  omega
  with_reducible refine And.intro ?_ ?_
  omega
  simp only [List.set_cons_zero]
  with_reducible exact hQ hQc0 _ (hw _ _) outN.mk
set_option maxHeartbeats 4000000 in
theorem fL_setEnd {a0 a1 : Int32} (hL : LW g w x nA cA lA y nM o kn km th s s2) (hX : ¬ okN a0 → Q (.inl (some (.int 1))) w) (hW : okN a0 → ¬ okW a1 3 → Q (.inl (some (.int 2))) w) (hQ : okN a0 → okW a1 3 → ∀ w', LW g w' x nA cA lA y nM o kn km th (sN s (vp_updL s.1 a0.toNatClampNeg (frV a1))) s2 → outN w' o ((loV (frV a1)).toInt64) → Q (.inl (some (.int 0))) w') : WP (ML_setEnd g) Q (0, [some (.ref x), some (.int a0), some (.int a1), some (.ref o), none], [], w, 0, 0) := by
  have ho := hL.2.1
  simp only [eL_setEnd_0, wt_nil, wt_ref, Nat.zero_add, Nat.add_zero]
  with_reducible refine And.intro ?_ ?_
  with_reducible refine LW.gx hL (fun _ => trivial)
  with_reducible refine And.intro ?_ ?_
  omega
  with_reducible refine And.intro ?_ ?_
  omega
  with_reducible refine And.intro ?_ ?_
  omega
  with_reducible refine fX1_setEnd hL.cs (fun hXc0 => ?_) (fun hWc0 hWc1 => ?_) (fun hQc0 hQc1 hQw hQh => ?_)
  simp only [kx_r]
  ((with_reducible refine isHgo ?_); refine hgo_h (HH := [(0, 11, 14, 19), (0, 11, 18, 28)]) (NN := [(19, "java/lang/IndexOutOfBoundsException"), (28, "java/lang/IllegalArgumentException")]) (h := 14) (E := "java/lang/IndexOutOfBoundsException") rfl rfl (by decide +kernel) (by decide) (fun _ => ?_))
  simp only [eL_setEnd_14, nl_ref]
  with_reducible refine And.intro ?_ ?_
  omega
  with_reducible refine And.intro ?_ ?_
  omega
  with_reducible exact hX hXc0
  simp only [kx_r]
  ((with_reducible refine isHgo ?_); refine hgo_h (HH := [(0, 11, 14, 19), (0, 11, 18, 28)]) (NN := [(19, "java/lang/IndexOutOfBoundsException"), (28, "java/lang/IllegalArgumentException")]) (h := 18) (E := "java/lang/IllegalArgumentException") rfl rfl (by decide +kernel) (by decide) (fun _ => ?_))
  simp only [eL_setEnd_18, nl_ref]
  with_reducible refine And.intro ?_ ?_
  omega
  with_reducible refine And.intro ?_ ?_
  omega
  with_reducible exact hW hWc0 hWc1
  simp only [eL_setEnd_7, eL_setEnd_11, kx_l, tl_s, nf_l, true_and]
  with_reducible refine go_OF (LW.of hL hQh (by first | with_reducible exact ho | with_reducible exact ho.num | with_reducible exact ho.rf | with_reducible exact ho.mk (by assumption) | with_reducible exact ho.mk (ho.c' (by assumption) (by assumption)) | with_reducible exact ho.mkO (by assumption) (by assumption) | with_reducible exact ho.card0 | with_reducible exact ho.card (ho.c' (by assumption) (by assumption)) | with_reducible exact ho.card (ho.p' (by assumption)) | with_reducible exact ho.lay (ho.c' (by assumption) (by assumption)) (by assumption) | with_reducible exact ho.gap (by assumption) | with_reducible exact ho.tur | with_reducible exact ho.zero)) (fun _ _ hw => ?_)
  with_reducible refine And.intro ?_ ?_
  simp only [List.length_cons, List.length_nil, Nat.zero_add]
  omega
  with_reducible refine And.intro ?_ ?_
  omega
  with_reducible refine And.intro ?_ ?_
  omega
  simp only [List.set_cons_zero]
  with_reducible exact hQ hQc0 hQc1 _ (hw _ _) outN.mk
set_option maxHeartbeats 4000000 in
theorem fL_move {a0 a1 : Int32} (hL : LW g w x nA cA lA y nM o kn km th s s2) (hX : ¬ okN a0 → Q (.inl (some (.int 1))) w) (hQ : okN a0 → ∀ w', LW g w' x nA cA lA y nM o kn km th (sN s (vp_updL s.1 a0.toNatClampNeg (s.1 a0.toNatClampNeg + a1.toInt64))) s2 → outN w' o ((loV (s.1 a0.toNatClampNeg + a1.toInt64)).toInt64) → Q (.inl (some (.int 0))) w') : WP (ML_move g) Q (0, [some (.ref x), some (.int a0), some (.int a1), some (.ref o), none], [], w, 0, 0) := by
  have ho := hL.2.1
  simp only [eL_move_0, wt_nil, wt_ref, Nat.zero_add, Nat.add_zero]
  with_reducible refine And.intro ?_ ?_
  with_reducible refine LW.gx hL (fun _ => trivial)
  with_reducible refine And.intro ?_ ?_
  omega
  with_reducible refine And.intro ?_ ?_
  omega
  with_reducible refine And.intro ?_ ?_
  omega
  with_reducible refine fX1_move hL.cs (fun hXc0 => ?_) (fun hQc0 hQw hQh => ?_)
  simp only [kx_r]
  ((with_reducible refine isHgo ?_); refine hgo_h (HH := [(0, 11, 14, 19)]) (NN := [(19, "java/lang/IndexOutOfBoundsException")]) (h := 14) (E := "java/lang/IndexOutOfBoundsException") rfl rfl (by decide +kernel) (by decide) (fun _ => ?_))
  simp only [eL_move_14, nl_ref]
  with_reducible refine And.intro ?_ ?_
  omega
  with_reducible refine And.intro ?_ ?_
  omega
  with_reducible exact hX hXc0
  simp only [eL_move_7, eL_move_11, kx_l, tl_s, nf_l, true_and]
  with_reducible refine go_OF (LW.of hL hQh (by first | with_reducible exact ho | with_reducible exact ho.num | with_reducible exact ho.rf | with_reducible exact ho.mk (by assumption) | with_reducible exact ho.mk (ho.c' (by assumption) (by assumption)) | with_reducible exact ho.mkO (by assumption) (by assumption) | with_reducible exact ho.card0 | with_reducible exact ho.card (ho.c' (by assumption) (by assumption)) | with_reducible exact ho.card (ho.p' (by assumption)) | with_reducible exact ho.lay (ho.c' (by assumption) (by assumption)) (by assumption) | with_reducible exact ho.gap (by assumption) | with_reducible exact ho.tur | with_reducible exact ho.zero)) (fun _ _ hw => ?_)
  with_reducible refine And.intro ?_ ?_
  simp only [List.length_cons, List.length_nil, Nat.zero_add]
  omega
  with_reducible refine And.intro ?_ ?_
  omega
  with_reducible refine And.intro ?_ ?_
  omega
  simp only [List.set_cons_zero]
  with_reducible exact hQ hQc0 _ (hw _ _) outN.mk
set_option maxHeartbeats 4000000 in
theorem fL_copy {a0 a1 : Int32} (hL : LW g w x nA cA lA y nM o kn km th s s2) (hX : ¬ (okN a0 ∧ okN a1) → Q (.inl (some (.int 1))) w) (hQ : okN a0 → okN a1 → ∀ w', LW g w' x nA cA lA y nM o kn km th (sN s (vp_updL s.1 a0.toNatClampNeg (s.1 a1.toNatClampNeg))) s2 → outN w' o ((loV (s.1 a1.toNatClampNeg)).toInt64) → Q (.inl (some (.int 0))) w') : WP (ML_copy g) Q (0, [some (.ref x), some (.int a0), some (.int a1), some (.ref o), none], [], w, 0, 0) := by
  have ho := hL.2.1
  simp only [eL_copy_0, wt_nil, wt_ref, Nat.zero_add, Nat.add_zero]
  with_reducible refine And.intro ?_ ?_
  with_reducible refine LW.gx hL (fun _ => trivial)
  with_reducible refine And.intro ?_ ?_
  omega
  with_reducible refine And.intro ?_ ?_
  omega
  with_reducible refine And.intro ?_ ?_
  omega
  with_reducible refine fX1_copy hL.cs (fun hXc0 => ?_) (fun hQc0 hQc1 hQw hQh => ?_)
  simp only [kx_r]
  ((with_reducible refine isHgo ?_); refine hgo_h (HH := [(0, 11, 14, 19)]) (NN := [(19, "java/lang/IndexOutOfBoundsException")]) (h := 14) (E := "java/lang/IndexOutOfBoundsException") rfl rfl (by decide +kernel) (by decide) (fun _ => ?_))
  simp only [eL_copy_14, nl_ref]
  with_reducible refine And.intro ?_ ?_
  omega
  with_reducible refine And.intro ?_ ?_
  omega
  with_reducible exact hX hXc0
  simp only [eL_copy_7, eL_copy_11, kx_l, tl_s, nf_l, true_and]
  with_reducible refine go_OF (LW.of hL hQh (by first | with_reducible exact ho | with_reducible exact ho.num | with_reducible exact ho.rf | with_reducible exact ho.mk (by assumption) | with_reducible exact ho.mk (ho.c' (by assumption) (by assumption)) | with_reducible exact ho.mkO (by assumption) (by assumption) | with_reducible exact ho.card0 | with_reducible exact ho.card (ho.c' (by assumption) (by assumption)) | with_reducible exact ho.card (ho.p' (by assumption)) | with_reducible exact ho.lay (ho.c' (by assumption) (by assumption)) (by assumption) | with_reducible exact ho.gap (by assumption) | with_reducible exact ho.tur | with_reducible exact ho.zero)) (fun _ _ hw => ?_)
  with_reducible refine And.intro ?_ ?_
  simp only [List.length_cons, List.length_nil, Nat.zero_add]
  omega
  with_reducible refine And.intro ?_ ?_
  omega
  with_reducible refine And.intro ?_ ?_
  omega
  simp only [List.set_cons_zero]
  with_reducible exact hQ hQc0 hQc1 _ (hw _ _) outN.mk
set_option maxHeartbeats 4000000 in
theorem fL_ofNumber {a0 a1 : Int32} (hL : LW g w x nA cA lA y nM o kn km th s s2) (hX : ¬ okN a0 → Q (.inl (some (.int 1))) w) (hQ : okN a0 → ∀ w', LW g w' x nA cA lA y nM o kn km th s s2 → outN w' o ((hfV (s.1 a0.toNatClampNeg) a1).toInt64) → Q (.inl (some (.int 0))) w') : WP (ML_ofNumber g) Q (0, [some (.ref x), some (.int a0), some (.int a1), some (.ref o), none], [], w, 0, 0) := by
  have ho := hL.2.1
  simp only [eL_ofNumber_0, wt_nil, wt_ref, Nat.zero_add, Nat.add_zero]
  with_reducible refine And.intro ?_ ?_
  with_reducible refine LW.gx hL (fun _ => trivial)
  with_reducible refine And.intro ?_ ?_
  omega
  with_reducible refine And.intro ?_ ?_
  omega
  with_reducible refine And.intro ?_ ?_
  omega
  with_reducible refine fX1_ofNumber hL.cs (fun hXc0 => ?_) (fun hQc0 => ?_)
  simp only [kx_r]
  ((with_reducible refine isHgo ?_); refine hgo_h (HH := [(0, 11, 14, 19)]) (NN := [(19, "java/lang/IndexOutOfBoundsException")]) (h := 14) (E := "java/lang/IndexOutOfBoundsException") rfl rfl (by decide +kernel) (by decide) (fun _ => ?_))
  simp only [eL_ofNumber_14, nl_ref]
  with_reducible refine And.intro ?_ ?_
  omega
  with_reducible refine And.intro ?_ ?_
  omega
  with_reducible exact hX hXc0
  simp only [eL_ofNumber_7, eL_ofNumber_11, kx_l, tl_s, nf_l, true_and]
  with_reducible refine go_OF hL (fun _ _ hw => ?_)
  with_reducible refine And.intro ?_ ?_
  simp only [List.length_cons, List.length_nil, Nat.zero_add]
  omega
  with_reducible refine And.intro ?_ ?_
  omega
  with_reducible refine And.intro ?_ ?_
  omega
  simp only [List.set_cons_zero]
  with_reducible exact hQ hQc0 _ (hw _ _) outN.mk
set_option maxHeartbeats 4000000 in
theorem gL_numberText {a0 : Int32} (hR : RG g) (hL : LW g w x nA cA lA y nM o kn km th s s2) (hQ : ∀ (v : Int32) (w' : Hw), LW g w' x nA cA lA y nM o kn km th s s2 → Q (.inl (some (.int v))) w') : WP (ML_numberText g) Q (0, [some (.ref x), some (.int a0), some (.ref o), none], [], w, 0, 0) := by
  simp only [eL_numberText_0, wt_nil, wt_ref, Nat.zero_add, Nat.add_zero]
  with_reducible refine And.intro ?_ ?_
  with_reducible refine LW.gx hL (fun _ => trivial)
  with_reducible refine And.intro ?_ ?_
  omega
  with_reducible refine And.intro ?_ ?_
  omega
  with_reducible refine And.intro ?_ ?_
  omega
  with_reducible refine sX1_numberText hL.cc hR.sg (hR.dg hL.ro) ?_ (fun _ _ _ => ?_)
  simp only [kx_r]
  ((with_reducible refine isHgo ?_); refine hgo_h (HH := [(0, 9, 12, 19)]) (NN := [(19, "java/lang/IndexOutOfBoundsException")]) (h := 12) (E := "java/lang/IndexOutOfBoundsException") rfl rfl (by decide +kernel) (by decide) (fun _ => ?_))
  simp only [eL_numberText_12, nl_ref]
  with_reducible refine And.intro ?_ ?_
  omega
  with_reducible refine And.intro ?_ ?_
  omega
  with_reducible exact hQ _ _ hL
  simp only [eL_numberText_6, eL_numberText_9, kx_l, tl_s, nf_ro, true_and, tyX2]
  with_reducible refine go_OF (by first | assumption | exact hL | exact hL.ext (by assumption)) (fun _ _ hw => ?_)
  with_reducible refine And.intro ?_ ?_
  simp only [List.length_cons, List.length_nil, Nat.zero_add]
  omega
  with_reducible refine And.intro ?_ ?_
  omega
  with_reducible refine And.intro ?_ ?_
  omega
  simp only [List.set_cons_zero, List.set_cons_succ]
  with_reducible exact hQ _ _ (hw _ _)
set_option maxHeartbeats 4000000 in
theorem fL_order {a0 a1 : Int32} (hL : LW g w x nA cA lA y nM o kn km th s s2) (hX : ¬ (okN a0 ∧ okN a1) → Q (.inl (some (.int 1))) w) (hQ : okN a0 → okN a1 → ∀ w', LW g w' x nA cA lA y nM o kn km th s s2 → outN w' o ((orV (s.1 a0.toNatClampNeg) (s.1 a1.toNatClampNeg)).toInt64) → Q (.inl (some (.int 0))) w') : WP (ML_order g) Q (0, [some (.ref x), some (.int a0), some (.int a1), some (.ref o), none], [], w, 0, 0) := by
  have ho := hL.2.1
  simp only [eL_order_0, wt_nil, wt_ref, Nat.zero_add, Nat.add_zero]
  with_reducible refine And.intro ?_ ?_
  with_reducible refine LW.gx hL (fun _ => trivial)
  with_reducible refine And.intro ?_ ?_
  omega
  with_reducible refine And.intro ?_ ?_
  omega
  with_reducible refine And.intro ?_ ?_
  omega
  with_reducible refine fX1_order hL.cs (fun hXc0 => ?_) (fun hQc0 hQc1 => ?_)
  simp only [kx_r]
  ((with_reducible refine isHgo ?_); refine hgo_h (HH := [(0, 11, 14, 19)]) (NN := [(19, "java/lang/IndexOutOfBoundsException")]) (h := 14) (E := "java/lang/IndexOutOfBoundsException") rfl rfl (by decide +kernel) (by decide) (fun _ => ?_))
  simp only [eL_order_14, nl_ref]
  with_reducible refine And.intro ?_ ?_
  omega
  with_reducible refine And.intro ?_ ?_
  omega
  with_reducible exact hX hXc0
  simp only [eL_order_7, eL_order_11, kx_l, tl_s, nf_l, true_and]
  with_reducible refine go_OF hL (fun _ _ hw => ?_)
  with_reducible refine And.intro ?_ ?_
  simp only [List.length_cons, List.length_nil, Nat.zero_add]
  omega
  with_reducible refine And.intro ?_ ?_
  omega
  with_reducible refine And.intro ?_ ?_
  omega
  simp only [List.set_cons_zero]
  with_reducible exact hQ hQc0 hQc1 _ (hw _ _) outN.mk
set_option maxHeartbeats 4000000 in
theorem fL_two {a0 a1 a2 : Int32} (hL : LW g w x nA cA lA y nM o kn km th s s2) (hX : ¬ (okC a0 ∧ okN a1 ∧ okN a2) → Q (.inl (some (.int 1))) w) (hT : okC a0 → okN a1 → okN a2 → oP (s.1 a1.toNatClampNeg) (s.1 a1.toNatClampNeg) (s.1 a2.toNatClampNeg) (s.1 a2.toNatClampNeg) → ∀ w', LW g w' x nA cA lA y nM o kn km th (sMk s a0.toNatClampNeg (s.1 a1.toNatClampNeg, s.1 a1.toNatClampNeg, s.1 a2.toNatClampNeg, s.1 a2.toNatClampNeg)) s2 → outN w' o ((1 : Int32).toInt64) → Q (.inl (some (.int 0))) w') (hF : okC a0 → okN a1 → okN a2 → ¬ oP (s.1 a1.toNatClampNeg) (s.1 a1.toNatClampNeg) (s.1 a2.toNatClampNeg) (s.1 a2.toNatClampNeg) → ∀ w', LW g w' x nA cA lA y nM o kn km th (sRf s) s2 → outN w' o ((-9 : Int32).toInt64) → Q (.inl (some (.int 0))) w') : WP (ML_two g) Q (0, [some (.ref x), some (.int a0), some (.int a1), some (.int a2), some (.ref o), none], [], w, 0, 0) := by
  have ho := hL.2.1
  simp only [eL_two_0, wt_nil, wt_ref, Nat.zero_add, Nat.add_zero]
  with_reducible refine And.intro ?_ ?_
  with_reducible refine LW.gx hL (fun _ => trivial)
  with_reducible refine And.intro ?_ ?_
  omega
  with_reducible refine And.intro ?_ ?_
  omega
  with_reducible refine And.intro ?_ ?_
  omega
  with_reducible refine fX1_two hL.cs (fun hXc0 => ?_) (fun hTc0 hTc1 hTc2 hTc3 hTw hTh => ?_) (fun hFc0 hFc1 hFc2 hFc3 hFw hFh => ?_)
  simp only [kx_r]
  ((with_reducible refine isHgo ?_); refine hgo_h (HH := [(0, 13, 16, 19)]) (NN := [(19, "java/lang/IndexOutOfBoundsException")]) (h := 16) (E := "java/lang/IndexOutOfBoundsException") rfl rfl (by decide +kernel) (by decide) (fun _ => ?_))
  simp only [eL_two_16, nl_ref]
  with_reducible refine And.intro ?_ ?_
  omega
  with_reducible refine And.intro ?_ ?_
  omega
  with_reducible exact hX hXc0
  simp only [eL_two_9, eL_two_13, kx_l, tl_s, nf_l, true_and]
  with_reducible refine go_OF (LW.of hL hTh (by first | with_reducible exact ho | with_reducible exact ho.num | with_reducible exact ho.rf | with_reducible exact ho.mk (by assumption) | with_reducible exact ho.mk (ho.c' (by assumption) (by assumption)) | with_reducible exact ho.mkO (by assumption) (by assumption) | with_reducible exact ho.card0 | with_reducible exact ho.card (ho.c' (by assumption) (by assumption)) | with_reducible exact ho.card (ho.p' (by assumption)) | with_reducible exact ho.lay (ho.c' (by assumption) (by assumption)) (by assumption) | with_reducible exact ho.gap (by assumption) | with_reducible exact ho.tur | with_reducible exact ho.zero)) (fun _ _ hw => ?_)
  with_reducible refine And.intro ?_ ?_
  simp only [List.length_cons, List.length_nil, Nat.zero_add]
  omega
  with_reducible refine And.intro ?_ ?_
  omega
  with_reducible refine And.intro ?_ ?_
  omega
  simp only [List.set_cons_zero]
  with_reducible exact hT hTc0 hTc1 hTc2 hTc3 _ (hw _ _) outN.mk
  simp only [eL_two_9, eL_two_13, kx_l, tl_s, nf_l, true_and]
  with_reducible refine go_OF (LW.of hL hFh (by first | with_reducible exact ho | with_reducible exact ho.num | with_reducible exact ho.rf | with_reducible exact ho.mk (by assumption) | with_reducible exact ho.mk (ho.c' (by assumption) (by assumption)) | with_reducible exact ho.mkO (by assumption) (by assumption) | with_reducible exact ho.card0 | with_reducible exact ho.card (ho.c' (by assumption) (by assumption)) | with_reducible exact ho.card (ho.p' (by assumption)) | with_reducible exact ho.lay (ho.c' (by assumption) (by assumption)) (by assumption) | with_reducible exact ho.gap (by assumption) | with_reducible exact ho.tur | with_reducible exact ho.zero)) (fun _ _ hw => ?_)
  with_reducible refine And.intro ?_ ?_
  simp only [List.length_cons, List.length_nil, Nat.zero_add]
  omega
  with_reducible refine And.intro ?_ ?_
  omega
  with_reducible refine And.intro ?_ ?_
  omega
  simp only [List.set_cons_zero]
  with_reducible exact hF hFc0 hFc1 hFc2 hFc3 _ (hw _ _) outN.mk
set_option maxHeartbeats 4000000 in
theorem fL_three {a0 a1 a2 a3 : Int32} (hL : LW g w x nA cA lA y nM o kn km th s s2) (hX : ¬ (okC a0 ∧ okN a1 ∧ okN a2 ∧ okN a3) → Q (.inl (some (.int 1))) w) (hT : okC a0 → okN a1 → okN a2 → okN a3 → oP (s.1 a1.toNatClampNeg) (s.1 a1.toNatClampNeg) (s.1 a2.toNatClampNeg) (s.1 a3.toNatClampNeg) → ∀ w', LW g w' x nA cA lA y nM o kn km th (sMk s a0.toNatClampNeg (s.1 a1.toNatClampNeg, s.1 a1.toNatClampNeg, s.1 a2.toNatClampNeg, s.1 a3.toNatClampNeg)) s2 → outN w' o ((1 : Int32).toInt64) → Q (.inl (some (.int 0))) w') (hF : okC a0 → okN a1 → okN a2 → okN a3 → ¬ oP (s.1 a1.toNatClampNeg) (s.1 a1.toNatClampNeg) (s.1 a2.toNatClampNeg) (s.1 a3.toNatClampNeg) → ∀ w', LW g w' x nA cA lA y nM o kn km th (sRf s) s2 → outN w' o ((-9 : Int32).toInt64) → Q (.inl (some (.int 0))) w') : WP (ML_three g) Q (0, [some (.ref x), some (.int a0), some (.int a1), some (.int a2), some (.int a3), some (.ref o), none], [], w, 0, 0) := by
  have ho := hL.2.1
  simp only [eL_three_0, wt_nil, wt_ref, Nat.zero_add, Nat.add_zero]
  with_reducible refine And.intro ?_ ?_
  with_reducible refine LW.gx hL (fun _ => trivial)
  with_reducible refine And.intro ?_ ?_
  omega
  with_reducible refine And.intro ?_ ?_
  omega
  with_reducible refine And.intro ?_ ?_
  omega
  with_reducible refine fX1_three hL.cs (fun hXc0 => ?_) (fun hTc0 hTc1 hTc2 hTc3 hTc4 hTw hTh => ?_) (fun hFc0 hFc1 hFc2 hFc3 hFc4 hFw hFh => ?_)
  simp only [kx_r]
  ((with_reducible refine isHgo ?_); refine hgo_h (HH := [(0, 15, 18, 19)]) (NN := [(19, "java/lang/IndexOutOfBoundsException")]) (h := 18) (E := "java/lang/IndexOutOfBoundsException") rfl rfl (by decide +kernel) (by decide) (fun _ => ?_))
  simp only [eL_three_18, nl_ref]
  with_reducible refine And.intro ?_ ?_
  omega
  with_reducible refine And.intro ?_ ?_
  omega
  with_reducible exact hX hXc0
  simp only [eL_three_11, eL_three_15, kx_l, tl_s, nf_l, true_and]
  with_reducible refine go_OF (LW.of hL hTh (by first | with_reducible exact ho | with_reducible exact ho.num | with_reducible exact ho.rf | with_reducible exact ho.mk (by assumption) | with_reducible exact ho.mk (ho.c' (by assumption) (by assumption)) | with_reducible exact ho.mkO (by assumption) (by assumption) | with_reducible exact ho.card0 | with_reducible exact ho.card (ho.c' (by assumption) (by assumption)) | with_reducible exact ho.card (ho.p' (by assumption)) | with_reducible exact ho.lay (ho.c' (by assumption) (by assumption)) (by assumption) | with_reducible exact ho.gap (by assumption) | with_reducible exact ho.tur | with_reducible exact ho.zero)) (fun _ _ hw => ?_)
  with_reducible refine And.intro ?_ ?_
  simp only [List.length_cons, List.length_nil, Nat.zero_add]
  omega
  with_reducible refine And.intro ?_ ?_
  omega
  with_reducible refine And.intro ?_ ?_
  omega
  simp only [List.set_cons_zero]
  with_reducible exact hT hTc0 hTc1 hTc2 hTc3 hTc4 _ (hw _ _) outN.mk
  simp only [eL_three_11, eL_three_15, kx_l, tl_s, nf_l, true_and]
  with_reducible refine go_OF (LW.of hL hFh (by first | with_reducible exact ho | with_reducible exact ho.num | with_reducible exact ho.rf | with_reducible exact ho.mk (by assumption) | with_reducible exact ho.mk (ho.c' (by assumption) (by assumption)) | with_reducible exact ho.mkO (by assumption) (by assumption) | with_reducible exact ho.card0 | with_reducible exact ho.card (ho.c' (by assumption) (by assumption)) | with_reducible exact ho.card (ho.p' (by assumption)) | with_reducible exact ho.lay (ho.c' (by assumption) (by assumption)) (by assumption) | with_reducible exact ho.gap (by assumption) | with_reducible exact ho.tur | with_reducible exact ho.zero)) (fun _ _ hw => ?_)
  with_reducible refine And.intro ?_ ?_
  simp only [List.length_cons, List.length_nil, Nat.zero_add]
  omega
  with_reducible refine And.intro ?_ ?_
  omega
  with_reducible refine And.intro ?_ ?_
  omega
  simp only [List.set_cons_zero]
  with_reducible exact hF hFc0 hFc1 hFc2 hFc3 hFc4 _ (hw _ _) outN.mk
set_option maxHeartbeats 4000000 in
theorem fL_four {a0 a1 a2 a3 a4 : Int32} (hL : LW g w x nA cA lA y nM o kn km th s s2) (hX : ¬ (okC a0 ∧ okN a1 ∧ okN a2 ∧ okN a3 ∧ okN a4) → Q (.inl (some (.int 1))) w) (hT : okC a0 → okN a1 → okN a2 → okN a3 → okN a4 → oP (s.1 a1.toNatClampNeg) (s.1 a2.toNatClampNeg) (s.1 a3.toNatClampNeg) (s.1 a4.toNatClampNeg) → ∀ w', LW g w' x nA cA lA y nM o kn km th (sMk s a0.toNatClampNeg (s.1 a1.toNatClampNeg, s.1 a2.toNatClampNeg, s.1 a3.toNatClampNeg, s.1 a4.toNatClampNeg)) s2 → outN w' o ((1 : Int32).toInt64) → Q (.inl (some (.int 0))) w') (hF : okC a0 → okN a1 → okN a2 → okN a3 → okN a4 → ¬ oP (s.1 a1.toNatClampNeg) (s.1 a2.toNatClampNeg) (s.1 a3.toNatClampNeg) (s.1 a4.toNatClampNeg) → ∀ w', LW g w' x nA cA lA y nM o kn km th (sRf s) s2 → outN w' o ((-9 : Int32).toInt64) → Q (.inl (some (.int 0))) w') : WP (ML_four g) Q (0, [some (.ref x), some (.int a0), some (.int a1), some (.int a2), some (.int a3), some (.int a4), some (.ref o), none], [], w, 0, 0) := by
  have ho := hL.2.1
  simp only [eL_four_0, wt_nil, wt_ref, Nat.zero_add, Nat.add_zero]
  with_reducible refine And.intro ?_ ?_
  with_reducible refine LW.gx hL (fun _ => trivial)
  with_reducible refine And.intro ?_ ?_
  omega
  with_reducible refine And.intro ?_ ?_
  omega
  with_reducible refine And.intro ?_ ?_
  omega
  with_reducible refine fX1_four hL.cs (fun hXc0 => ?_) (fun hTc0 hTc1 hTc2 hTc3 hTc4 hTc5 hTw hTh => ?_) (fun hFc0 hFc1 hFc2 hFc3 hFc4 hFc5 hFw hFh => ?_)
  simp only [kx_r]
  ((with_reducible refine isHgo ?_); refine hgo_h (HH := [(0, 17, 20, 19)]) (NN := [(19, "java/lang/IndexOutOfBoundsException")]) (h := 20) (E := "java/lang/IndexOutOfBoundsException") rfl rfl (by decide +kernel) (by decide) (fun _ => ?_))
  simp only [eL_four_20, nl_ref]
  with_reducible refine And.intro ?_ ?_
  omega
  with_reducible refine And.intro ?_ ?_
  omega
  with_reducible exact hX hXc0
  simp only [eL_four_13, eL_four_17, kx_l, tl_s, nf_l, true_and]
  with_reducible refine go_OF (LW.of hL hTh (by first | with_reducible exact ho | with_reducible exact ho.num | with_reducible exact ho.rf | with_reducible exact ho.mk (by assumption) | with_reducible exact ho.mk (ho.c' (by assumption) (by assumption)) | with_reducible exact ho.mkO (by assumption) (by assumption) | with_reducible exact ho.card0 | with_reducible exact ho.card (ho.c' (by assumption) (by assumption)) | with_reducible exact ho.card (ho.p' (by assumption)) | with_reducible exact ho.lay (ho.c' (by assumption) (by assumption)) (by assumption) | with_reducible exact ho.gap (by assumption) | with_reducible exact ho.tur | with_reducible exact ho.zero)) (fun _ _ hw => ?_)
  with_reducible refine And.intro ?_ ?_
  simp only [List.length_cons, List.length_nil, Nat.zero_add]
  omega
  with_reducible refine And.intro ?_ ?_
  omega
  with_reducible refine And.intro ?_ ?_
  omega
  simp only [List.set_cons_zero]
  with_reducible exact hT hTc0 hTc1 hTc2 hTc3 hTc4 hTc5 _ (hw _ _) outN.mk
  simp only [eL_four_13, eL_four_17, kx_l, tl_s, nf_l, true_and]
  with_reducible refine go_OF (LW.of hL hFh (by first | with_reducible exact ho | with_reducible exact ho.num | with_reducible exact ho.rf | with_reducible exact ho.mk (by assumption) | with_reducible exact ho.mk (ho.c' (by assumption) (by assumption)) | with_reducible exact ho.mkO (by assumption) (by assumption) | with_reducible exact ho.card0 | with_reducible exact ho.card (ho.c' (by assumption) (by assumption)) | with_reducible exact ho.card (ho.p' (by assumption)) | with_reducible exact ho.lay (ho.c' (by assumption) (by assumption)) (by assumption) | with_reducible exact ho.gap (by assumption) | with_reducible exact ho.tur | with_reducible exact ho.zero)) (fun _ _ hw => ?_)
  with_reducible refine And.intro ?_ ?_
  simp only [List.length_cons, List.length_nil, Nat.zero_add]
  omega
  with_reducible refine And.intro ?_ ?_
  omega
  with_reducible refine And.intro ?_ ?_
  omega
  simp only [List.set_cons_zero]
  with_reducible exact hF hFc0 hFc1 hFc2 hFc3 hFc4 hFc5 _ (hw _ _) outN.mk
end
end
/-! 78.lw2.lean.txt -/
section
section
variable {g : RO} {Q : Ot → Hw → Prop} {w : Hw} {x nA cA lA y nM o : Nat} {kn km th : Int32} {s s2 : AS}
set_option maxHeartbeats 4000000 in
theorem fL_twoSmall {a0 a1 a2 : Int32} (hL : LW g w x nA cA lA y nM o kn km th s s2) (hX : ¬ (okC a0) → Q (.inl (some (.int 1))) w) (hT : okC a0 → oP (a1.toInt64) (a1.toInt64) (a2.toInt64) (a2.toInt64) → ∀ w', LW g w' x nA cA lA y nM o kn km th (sMk s a0.toNatClampNeg (a1.toInt64, a1.toInt64, a2.toInt64, a2.toInt64)) s2 → outN w' o ((1 : Int32).toInt64) → Q (.inl (some (.int 0))) w') (hF : okC a0 → ¬ oP (a1.toInt64) (a1.toInt64) (a2.toInt64) (a2.toInt64) → ∀ w', LW g w' x nA cA lA y nM o kn km th (sRf s) s2 → outN w' o ((-9 : Int32).toInt64) → Q (.inl (some (.int 0))) w') : WP (ML_twoSmall g) Q (0, [some (.ref x), some (.int a0), some (.int a1), some (.int a2), some (.ref o), none], [], w, 0, 0) := by
  have ho := hL.2.1
  simp only [eL_twoSmall_0, wt_nil, wt_ref, Nat.zero_add, Nat.add_zero]
  with_reducible refine And.intro ?_ ?_
  with_reducible refine LW.gx hL (fun _ => trivial)
  with_reducible refine And.intro ?_ ?_
  omega
  with_reducible refine And.intro ?_ ?_
  omega
  with_reducible refine And.intro ?_ ?_
  omega
  with_reducible refine fX1_twoSmall hL.cs (fun hXc0 => ?_) (fun hTc0 hTc1 hTw hTh => ?_) (fun hFc0 hFc1 hFw hFh => ?_)
  simp only [kx_r]
  ((with_reducible refine isHgo ?_); refine hgo_h (HH := [(0, 13, 16, 19)]) (NN := [(19, "java/lang/IndexOutOfBoundsException")]) (h := 16) (E := "java/lang/IndexOutOfBoundsException") rfl rfl (by decide +kernel) (by decide) (fun _ => ?_))
  simp only [eL_twoSmall_16, nl_ref]
  with_reducible refine And.intro ?_ ?_
  omega
  with_reducible refine And.intro ?_ ?_
  omega
  with_reducible exact hX hXc0
  simp only [eL_twoSmall_9, eL_twoSmall_13, kx_l, tl_s, nf_l, true_and]
  with_reducible refine go_OF (LW.of hL hTh (by first | with_reducible exact ho | with_reducible exact ho.num | with_reducible exact ho.rf | with_reducible exact ho.mk (by assumption) | with_reducible exact ho.mk (ho.c' (by assumption) (by assumption)) | with_reducible exact ho.mkO (by assumption) (by assumption) | with_reducible exact ho.card0 | with_reducible exact ho.card (ho.c' (by assumption) (by assumption)) | with_reducible exact ho.card (ho.p' (by assumption)) | with_reducible exact ho.lay (ho.c' (by assumption) (by assumption)) (by assumption) | with_reducible exact ho.gap (by assumption) | with_reducible exact ho.tur | with_reducible exact ho.zero)) (fun _ _ hw => ?_)
  with_reducible refine And.intro ?_ ?_
  simp only [List.length_cons, List.length_nil, Nat.zero_add]
  omega
  with_reducible refine And.intro ?_ ?_
  omega
  with_reducible refine And.intro ?_ ?_
  omega
  simp only [List.set_cons_zero]
  with_reducible exact hT hTc0 hTc1 _ (hw _ _) outN.mk
  simp only [eL_twoSmall_9, eL_twoSmall_13, kx_l, tl_s, nf_l, true_and]
  with_reducible refine go_OF (LW.of hL hFh (by first | with_reducible exact ho | with_reducible exact ho.num | with_reducible exact ho.rf | with_reducible exact ho.mk (by assumption) | with_reducible exact ho.mk (ho.c' (by assumption) (by assumption)) | with_reducible exact ho.mkO (by assumption) (by assumption) | with_reducible exact ho.card0 | with_reducible exact ho.card (ho.c' (by assumption) (by assumption)) | with_reducible exact ho.card (ho.p' (by assumption)) | with_reducible exact ho.lay (ho.c' (by assumption) (by assumption)) (by assumption) | with_reducible exact ho.gap (by assumption) | with_reducible exact ho.tur | with_reducible exact ho.zero)) (fun _ _ hw => ?_)
  with_reducible refine And.intro ?_ ?_
  simp only [List.length_cons, List.length_nil, Nat.zero_add]
  omega
  with_reducible refine And.intro ?_ ?_
  omega
  with_reducible refine And.intro ?_ ?_
  omega
  simp only [List.set_cons_zero]
  with_reducible exact hF hFc0 hFc1 _ (hw _ _) outN.mk
set_option maxHeartbeats 4000000 in
theorem fL_threeSmall {a0 a1 a2 a3 : Int32} (hL : LW g w x nA cA lA y nM o kn km th s s2) (hX : ¬ (okC a0) → Q (.inl (some (.int 1))) w) (hT : okC a0 → oP (a1.toInt64) (a1.toInt64) (a2.toInt64) (a3.toInt64) → ∀ w', LW g w' x nA cA lA y nM o kn km th (sMk s a0.toNatClampNeg (a1.toInt64, a1.toInt64, a2.toInt64, a3.toInt64)) s2 → outN w' o ((1 : Int32).toInt64) → Q (.inl (some (.int 0))) w') (hF : okC a0 → ¬ oP (a1.toInt64) (a1.toInt64) (a2.toInt64) (a3.toInt64) → ∀ w', LW g w' x nA cA lA y nM o kn km th (sRf s) s2 → outN w' o ((-9 : Int32).toInt64) → Q (.inl (some (.int 0))) w') : WP (ML_threeSmall g) Q (0, [some (.ref x), some (.int a0), some (.int a1), some (.int a2), some (.int a3), some (.ref o), none], [], w, 0, 0) := by
  have ho := hL.2.1
  simp only [eL_threeSmall_0, wt_nil, wt_ref, Nat.zero_add, Nat.add_zero]
  with_reducible refine And.intro ?_ ?_
  with_reducible refine LW.gx hL (fun _ => trivial)
  with_reducible refine And.intro ?_ ?_
  omega
  with_reducible refine And.intro ?_ ?_
  omega
  with_reducible refine And.intro ?_ ?_
  omega
  with_reducible refine fX1_threeSmall hL.cs (fun hXc0 => ?_) (fun hTc0 hTc1 hTw hTh => ?_) (fun hFc0 hFc1 hFw hFh => ?_)
  simp only [kx_r]
  ((with_reducible refine isHgo ?_); refine hgo_h (HH := [(0, 15, 18, 19)]) (NN := [(19, "java/lang/IndexOutOfBoundsException")]) (h := 18) (E := "java/lang/IndexOutOfBoundsException") rfl rfl (by decide +kernel) (by decide) (fun _ => ?_))
  simp only [eL_threeSmall_18, nl_ref]
  with_reducible refine And.intro ?_ ?_
  omega
  with_reducible refine And.intro ?_ ?_
  omega
  with_reducible exact hX hXc0
  simp only [eL_threeSmall_11, eL_threeSmall_15, kx_l, tl_s, nf_l, true_and]
  with_reducible refine go_OF (LW.of hL hTh (by first | with_reducible exact ho | with_reducible exact ho.num | with_reducible exact ho.rf | with_reducible exact ho.mk (by assumption) | with_reducible exact ho.mk (ho.c' (by assumption) (by assumption)) | with_reducible exact ho.mkO (by assumption) (by assumption) | with_reducible exact ho.card0 | with_reducible exact ho.card (ho.c' (by assumption) (by assumption)) | with_reducible exact ho.card (ho.p' (by assumption)) | with_reducible exact ho.lay (ho.c' (by assumption) (by assumption)) (by assumption) | with_reducible exact ho.gap (by assumption) | with_reducible exact ho.tur | with_reducible exact ho.zero)) (fun _ _ hw => ?_)
  with_reducible refine And.intro ?_ ?_
  simp only [List.length_cons, List.length_nil, Nat.zero_add]
  omega
  with_reducible refine And.intro ?_ ?_
  omega
  with_reducible refine And.intro ?_ ?_
  omega
  simp only [List.set_cons_zero]
  with_reducible exact hT hTc0 hTc1 _ (hw _ _) outN.mk
  simp only [eL_threeSmall_11, eL_threeSmall_15, kx_l, tl_s, nf_l, true_and]
  with_reducible refine go_OF (LW.of hL hFh (by first | with_reducible exact ho | with_reducible exact ho.num | with_reducible exact ho.rf | with_reducible exact ho.mk (by assumption) | with_reducible exact ho.mk (ho.c' (by assumption) (by assumption)) | with_reducible exact ho.mkO (by assumption) (by assumption) | with_reducible exact ho.card0 | with_reducible exact ho.card (ho.c' (by assumption) (by assumption)) | with_reducible exact ho.card (ho.p' (by assumption)) | with_reducible exact ho.lay (ho.c' (by assumption) (by assumption)) (by assumption) | with_reducible exact ho.gap (by assumption) | with_reducible exact ho.tur | with_reducible exact ho.zero)) (fun _ _ hw => ?_)
  with_reducible refine And.intro ?_ ?_
  simp only [List.length_cons, List.length_nil, Nat.zero_add]
  omega
  with_reducible refine And.intro ?_ ?_
  omega
  with_reducible refine And.intro ?_ ?_
  omega
  simp only [List.set_cons_zero]
  with_reducible exact hF hFc0 hFc1 _ (hw _ _) outN.mk
set_option maxHeartbeats 4000000 in
theorem fL_fourSmall {a0 a1 a2 a3 a4 : Int32} (hL : LW g w x nA cA lA y nM o kn km th s s2) (hX : ¬ (okC a0) → Q (.inl (some (.int 1))) w) (hT : okC a0 → oP (a1.toInt64) (a2.toInt64) (a3.toInt64) (a4.toInt64) → ∀ w', LW g w' x nA cA lA y nM o kn km th (sMk s a0.toNatClampNeg (a1.toInt64, a2.toInt64, a3.toInt64, a4.toInt64)) s2 → outN w' o ((1 : Int32).toInt64) → Q (.inl (some (.int 0))) w') (hF : okC a0 → ¬ oP (a1.toInt64) (a2.toInt64) (a3.toInt64) (a4.toInt64) → ∀ w', LW g w' x nA cA lA y nM o kn km th (sRf s) s2 → outN w' o ((-9 : Int32).toInt64) → Q (.inl (some (.int 0))) w') : WP (ML_fourSmall g) Q (0, [some (.ref x), some (.int a0), some (.int a1), some (.int a2), some (.int a3), some (.int a4), some (.ref o), none], [], w, 0, 0) := by
  have ho := hL.2.1
  simp only [eL_fourSmall_0, wt_nil, wt_ref, Nat.zero_add, Nat.add_zero]
  with_reducible refine And.intro ?_ ?_
  with_reducible refine LW.gx hL (fun _ => trivial)
  with_reducible refine And.intro ?_ ?_
  omega
  with_reducible refine And.intro ?_ ?_
  omega
  with_reducible refine And.intro ?_ ?_
  omega
  with_reducible refine fX1_fourSmall hL.cs (fun hXc0 => ?_) (fun hTc0 hTc1 hTw hTh => ?_) (fun hFc0 hFc1 hFw hFh => ?_)
  simp only [kx_r]
  ((with_reducible refine isHgo ?_); refine hgo_h (HH := [(0, 17, 20, 19)]) (NN := [(19, "java/lang/IndexOutOfBoundsException")]) (h := 20) (E := "java/lang/IndexOutOfBoundsException") rfl rfl (by decide +kernel) (by decide) (fun _ => ?_))
  simp only [eL_fourSmall_20, nl_ref]
  with_reducible refine And.intro ?_ ?_
  omega
  with_reducible refine And.intro ?_ ?_
  omega
  with_reducible exact hX hXc0
  simp only [eL_fourSmall_13, eL_fourSmall_17, kx_l, tl_s, nf_l, true_and]
  with_reducible refine go_OF (LW.of hL hTh (by first | with_reducible exact ho | with_reducible exact ho.num | with_reducible exact ho.rf | with_reducible exact ho.mk (by assumption) | with_reducible exact ho.mk (ho.c' (by assumption) (by assumption)) | with_reducible exact ho.mkO (by assumption) (by assumption) | with_reducible exact ho.card0 | with_reducible exact ho.card (ho.c' (by assumption) (by assumption)) | with_reducible exact ho.card (ho.p' (by assumption)) | with_reducible exact ho.lay (ho.c' (by assumption) (by assumption)) (by assumption) | with_reducible exact ho.gap (by assumption) | with_reducible exact ho.tur | with_reducible exact ho.zero)) (fun _ _ hw => ?_)
  with_reducible refine And.intro ?_ ?_
  simp only [List.length_cons, List.length_nil, Nat.zero_add]
  omega
  with_reducible refine And.intro ?_ ?_
  omega
  with_reducible refine And.intro ?_ ?_
  omega
  simp only [List.set_cons_zero]
  with_reducible exact hT hTc0 hTc1 _ (hw _ _) outN.mk
  simp only [eL_fourSmall_13, eL_fourSmall_17, kx_l, tl_s, nf_l, true_and]
  with_reducible refine go_OF (LW.of hL hFh (by first | with_reducible exact ho | with_reducible exact ho.num | with_reducible exact ho.rf | with_reducible exact ho.mk (by assumption) | with_reducible exact ho.mk (ho.c' (by assumption) (by assumption)) | with_reducible exact ho.mkO (by assumption) (by assumption) | with_reducible exact ho.card0 | with_reducible exact ho.card (ho.c' (by assumption) (by assumption)) | with_reducible exact ho.card (ho.p' (by assumption)) | with_reducible exact ho.lay (ho.c' (by assumption) (by assumption)) (by assumption) | with_reducible exact ho.gap (by assumption) | with_reducible exact ho.tur | with_reducible exact ho.zero)) (fun _ _ hw => ?_)
  with_reducible refine And.intro ?_ ?_
  simp only [List.length_cons, List.length_nil, Nat.zero_add]
  omega
  with_reducible refine And.intro ?_ ?_
  omega
  with_reducible refine And.intro ?_ ?_
  omega
  simp only [List.set_cons_zero]
  with_reducible exact hF hFc0 hFc1 _ (hw _ _) outN.mk
set_option maxHeartbeats 4000000 in
theorem fL_again {a0 a1 : Int32} (hL : LW g w x nA cA lA y nM o kn km th s s2) (hX : ¬ (okC a0 ∧ okC a1) → Q (.inl (some (.int 1))) w) (hS : okC a0 → okC a1 → s.2.1 a1.toNatClampNeg = none → Q (.inl (some (.int 2))) w) (hQ : okC a0 → okC a1 → ∀ r, s.2.1 a1.toNatClampNeg = some r → ∀ w', LW g w' x nA cA lA y nM o kn km th (sMk s a0.toNatClampNeg r) s2 → outN w' o ((seV r).toInt64) → Q (.inl (some (.int 0))) w') : WP (ML_again g) Q (0, [some (.ref x), some (.int a0), some (.int a1), some (.ref o), none], [], w, 0, 0) := by
  have ho := hL.2.1
  simp only [eL_again_0, wt_nil, wt_ref, Nat.zero_add, Nat.add_zero]
  with_reducible refine And.intro ?_ ?_
  with_reducible refine LW.gx hL (fun _ => trivial)
  with_reducible refine And.intro ?_ ?_
  omega
  with_reducible refine And.intro ?_ ?_
  omega
  with_reducible refine And.intro ?_ ?_
  omega
  with_reducible refine fX1_again hL.cs ho (fun hXc0 => ?_) (fun hSc0 hSc1 hSc2 => ?_) (fun hQc0 hQc1 hQr hQc2 hQw hQh => ?_)
  simp only [kx_r]
  ((with_reducible refine isHgo ?_); refine hgo_h (HH := [(0, 11, 14, 19), (0, 11, 18, 74)]) (NN := [(19, "java/lang/IndexOutOfBoundsException"), (74, "java/lang/IllegalStateException")]) (h := 14) (E := "java/lang/IndexOutOfBoundsException") rfl rfl (by decide +kernel) (by decide) (fun _ => ?_))
  simp only [eL_again_14, nl_ref]
  with_reducible refine And.intro ?_ ?_
  omega
  with_reducible refine And.intro ?_ ?_
  omega
  with_reducible exact hX hXc0
  simp only [kx_r]
  ((with_reducible refine isHgo ?_); refine hgo_h (HH := [(0, 11, 14, 19), (0, 11, 18, 74)]) (NN := [(19, "java/lang/IndexOutOfBoundsException"), (74, "java/lang/IllegalStateException")]) (h := 18) (E := "java/lang/IllegalStateException") rfl rfl (by decide +kernel) (by decide) (fun _ => ?_))
  simp only [eL_again_18, nl_ref]
  with_reducible refine And.intro ?_ ?_
  omega
  with_reducible refine And.intro ?_ ?_
  omega
  with_reducible exact hS hSc0 hSc1 hSc2
  simp only [eL_again_7, eL_again_11, kx_l, tl_s, nf_l, true_and]
  with_reducible refine go_OF (LW.of hL hQh (by first | with_reducible exact ho | with_reducible exact ho.num | with_reducible exact ho.rf | with_reducible exact ho.mk (by assumption) | with_reducible exact ho.mk (ho.c' (by assumption) (by assumption)) | with_reducible exact ho.mkO (by assumption) (by assumption) | with_reducible exact ho.card0 | with_reducible exact ho.card (ho.c' (by assumption) (by assumption)) | with_reducible exact ho.card (ho.p' (by assumption)) | with_reducible exact ho.lay (ho.c' (by assumption) (by assumption)) (by assumption) | with_reducible exact ho.gap (by assumption) | with_reducible exact ho.tur | with_reducible exact ho.zero)) (fun _ _ hw => ?_)
  with_reducible refine And.intro ?_ ?_
  simp only [List.length_cons, List.length_nil, Nat.zero_add]
  omega
  with_reducible refine And.intro ?_ ?_
  omega
  with_reducible refine And.intro ?_ ?_
  omega
  simp only [List.set_cons_zero]
  with_reducible exact hQ hQc0 hQc1 hQr hQc2 _ (hw _ _) outN.mk
set_option maxHeartbeats 4000000 in
theorem fL_same {a0 a1 : Int32} (hL : LW g w x nA cA lA y nM o kn km th s s2) (hX : ¬ (okC a0 ∧ okC a1) → Q (.inl (some (.int 1))) w) (hS : okC a0 → okC a1 → s.2.1 a1.toNatClampNeg = none → Q (.inl (some (.int 2))) w) (hN : okC a0 → okC a1 → ∀ r, s.2.1 a1.toNatClampNeg = some r → s.2.1 a0.toNatClampNeg = none → ∀ w', LW g w' x nA cA lA y nM o kn km th (sC s (va_up s.2.1 a0.toNatClampNeg (some r))) s2 → outN w' o ((-1 : Int32).toInt64) → Q (.inl (some (.int 0))) w') (hT : okC a0 → okC a1 → ∀ r, s.2.1 a1.toNatClampNeg = some r → ∀ q, s.2.1 a0.toNatClampNeg = some q → mP q r → ∀ w', LW g w' x nA cA lA y nM o kn km th (sC s (va_up s.2.1 a0.toNatClampNeg (some r))) s2 → outN w' o ((1 : Int32).toInt64) → Q (.inl (some (.int 0))) w') (hF : okC a0 → okC a1 → ∀ r, s.2.1 a1.toNatClampNeg = some r → ∀ q, s.2.1 a0.toNatClampNeg = some q → ¬ mP q r → ∀ w', LW g w' x nA cA lA y nM o kn km th (sC s (va_up s.2.1 a0.toNatClampNeg (some r))) s2 → outN w' o ((0 : Int32).toInt64) → Q (.inl (some (.int 0))) w') : WP (ML_same g) Q (0, [some (.ref x), some (.int a0), some (.int a1), some (.ref o), none], [], w, 0, 0) := by
  have ho := hL.2.1
  simp only [eL_same_0, wt_nil, wt_ref, Nat.zero_add, Nat.add_zero]
  with_reducible refine And.intro ?_ ?_
  with_reducible refine LW.gx hL (fun _ => trivial)
  with_reducible refine And.intro ?_ ?_
  omega
  with_reducible refine And.intro ?_ ?_
  omega
  with_reducible refine And.intro ?_ ?_
  omega
  with_reducible refine fX1_same hL.cs (fun hXc0 => ?_) (fun hSc0 hSc1 hSc2 => ?_) (fun hNc0 hNc1 hNr hNc2 hNc3 hNw hNh => ?_) (fun hTc0 hTc1 hTr hTc2 hTq hTc3 hTc4 hTw hTh => ?_) (fun hFc0 hFc1 hFr hFc2 hFq hFc3 hFc4 hFw hFh => ?_)
  simp only [kx_r]
  ((with_reducible refine isHgo ?_); refine hgo_h (HH := [(0, 11, 14, 19), (0, 11, 18, 74)]) (NN := [(19, "java/lang/IndexOutOfBoundsException"), (74, "java/lang/IllegalStateException")]) (h := 14) (E := "java/lang/IndexOutOfBoundsException") rfl rfl (by decide +kernel) (by decide) (fun _ => ?_))
  simp only [eL_same_14, nl_ref]
  with_reducible refine And.intro ?_ ?_
  omega
  with_reducible refine And.intro ?_ ?_
  omega
  with_reducible exact hX hXc0
  simp only [kx_r]
  ((with_reducible refine isHgo ?_); refine hgo_h (HH := [(0, 11, 14, 19), (0, 11, 18, 74)]) (NN := [(19, "java/lang/IndexOutOfBoundsException"), (74, "java/lang/IllegalStateException")]) (h := 18) (E := "java/lang/IllegalStateException") rfl rfl (by decide +kernel) (by decide) (fun _ => ?_))
  simp only [eL_same_18, nl_ref]
  with_reducible refine And.intro ?_ ?_
  omega
  with_reducible refine And.intro ?_ ?_
  omega
  with_reducible exact hS hSc0 hSc1 hSc2
  simp only [eL_same_7, eL_same_11, kx_l, tl_s, nf_l, true_and]
  with_reducible refine go_OF (LW.of hL hNh (by first | with_reducible exact ho | with_reducible exact ho.num | with_reducible exact ho.rf | with_reducible exact ho.mk (by assumption) | with_reducible exact ho.mk (ho.c' (by assumption) (by assumption)) | with_reducible exact ho.mkO (by assumption) (by assumption) | with_reducible exact ho.card0 | with_reducible exact ho.card (ho.c' (by assumption) (by assumption)) | with_reducible exact ho.card (ho.p' (by assumption)) | with_reducible exact ho.lay (ho.c' (by assumption) (by assumption)) (by assumption) | with_reducible exact ho.gap (by assumption) | with_reducible exact ho.tur | with_reducible exact ho.zero)) (fun _ _ hw => ?_)
  with_reducible refine And.intro ?_ ?_
  simp only [List.length_cons, List.length_nil, Nat.zero_add]
  omega
  with_reducible refine And.intro ?_ ?_
  omega
  with_reducible refine And.intro ?_ ?_
  omega
  simp only [List.set_cons_zero]
  with_reducible exact hN hNc0 hNc1 hNr hNc2 hNc3 _ (hw _ _) outN.mk
  simp only [eL_same_7, eL_same_11, kx_l, tl_s, nf_l, true_and]
  with_reducible refine go_OF (LW.of hL hTh (by first | with_reducible exact ho | with_reducible exact ho.num | with_reducible exact ho.rf | with_reducible exact ho.mk (by assumption) | with_reducible exact ho.mk (ho.c' (by assumption) (by assumption)) | with_reducible exact ho.mkO (by assumption) (by assumption) | with_reducible exact ho.card0 | with_reducible exact ho.card (ho.c' (by assumption) (by assumption)) | with_reducible exact ho.card (ho.p' (by assumption)) | with_reducible exact ho.lay (ho.c' (by assumption) (by assumption)) (by assumption) | with_reducible exact ho.gap (by assumption) | with_reducible exact ho.tur | with_reducible exact ho.zero)) (fun _ _ hw => ?_)
  with_reducible refine And.intro ?_ ?_
  simp only [List.length_cons, List.length_nil, Nat.zero_add]
  omega
  with_reducible refine And.intro ?_ ?_
  omega
  with_reducible refine And.intro ?_ ?_
  omega
  simp only [List.set_cons_zero]
  with_reducible exact hT hTc0 hTc1 hTr hTc2 hTq hTc3 hTc4 _ (hw _ _) outN.mk
  simp only [eL_same_7, eL_same_11, kx_l, tl_s, nf_l, true_and]
  with_reducible refine go_OF (LW.of hL hFh (by first | with_reducible exact ho | with_reducible exact ho.num | with_reducible exact ho.rf | with_reducible exact ho.mk (by assumption) | with_reducible exact ho.mk (ho.c' (by assumption) (by assumption)) | with_reducible exact ho.mkO (by assumption) (by assumption) | with_reducible exact ho.card0 | with_reducible exact ho.card (ho.c' (by assumption) (by assumption)) | with_reducible exact ho.card (ho.p' (by assumption)) | with_reducible exact ho.lay (ho.c' (by assumption) (by assumption)) (by assumption) | with_reducible exact ho.gap (by assumption) | with_reducible exact ho.tur | with_reducible exact ho.zero)) (fun _ _ hw => ?_)
  with_reducible refine And.intro ?_ ?_
  simp only [List.length_cons, List.length_nil, Nat.zero_add]
  omega
  with_reducible refine And.intro ?_ ?_
  omega
  with_reducible refine And.intro ?_ ?_
  omega
  simp only [List.set_cons_zero]
  with_reducible exact hF hFc0 hFc1 hFr hFc2 hFq hFc3 hFc4 _ (hw _ _) outN.mk
set_option maxHeartbeats 4000000 in
theorem fL_outer {a0 a1 : Int32} (hL : LW g w x nA cA lA y nM o kn km th s s2) (hX : ¬ (okC a0 ∧ okC a1) → Q (.inl (some (.int 1))) w) (hS : okC a0 → okC a1 → s.2.1 a1.toNatClampNeg = none → Q (.inl (some (.int 2))) w) (hT : okC a0 → okC a1 → ∀ r, s.2.1 a1.toNatClampNeg = some r → fP r → ∀ w', LW g w' x nA cA lA y nM o kn km th (sMk s a0.toNatClampNeg (r.1, r.1, r.2.2.2, r.2.2.2)) s2 → outN w' o ((1 : Int32).toInt64) → Q (.inl (some (.int 0))) w') (hF : okC a0 → okC a1 → ∀ r, s.2.1 a1.toNatClampNeg = some r → ¬ fP r → ∀ w', LW g w' x nA cA lA y nM o kn km th (sMk s a0.toNatClampNeg (r.1, r.1, r.2.2.2, r.2.2.2)) s2 → outN w' o ((0 : Int32).toInt64) → Q (.inl (some (.int 0))) w') : WP (ML_outer g) Q (0, [some (.ref x), some (.int a0), some (.int a1), some (.ref o), none], [], w, 0, 0) := by
  have ho := hL.2.1
  simp only [eL_outer_0, wt_nil, wt_ref, Nat.zero_add, Nat.add_zero]
  with_reducible refine And.intro ?_ ?_
  with_reducible refine LW.gx hL (fun _ => trivial)
  with_reducible refine And.intro ?_ ?_
  omega
  with_reducible refine And.intro ?_ ?_
  omega
  with_reducible refine And.intro ?_ ?_
  omega
  with_reducible refine fX1_outer hL.cs ho (fun hXc0 => ?_) (fun hSc0 hSc1 hSc2 => ?_) (fun hTc0 hTc1 hTr hTc2 hTc3 hTw hTh => ?_) (fun hFc0 hFc1 hFr hFc2 hFc3 hFw hFh => ?_)
  simp only [kx_r]
  ((with_reducible refine isHgo ?_); refine hgo_h (HH := [(0, 11, 14, 19), (0, 11, 18, 74)]) (NN := [(19, "java/lang/IndexOutOfBoundsException"), (74, "java/lang/IllegalStateException")]) (h := 14) (E := "java/lang/IndexOutOfBoundsException") rfl rfl (by decide +kernel) (by decide) (fun _ => ?_))
  simp only [eL_outer_14, nl_ref]
  with_reducible refine And.intro ?_ ?_
  omega
  with_reducible refine And.intro ?_ ?_
  omega
  with_reducible exact hX hXc0
  simp only [kx_r]
  ((with_reducible refine isHgo ?_); refine hgo_h (HH := [(0, 11, 14, 19), (0, 11, 18, 74)]) (NN := [(19, "java/lang/IndexOutOfBoundsException"), (74, "java/lang/IllegalStateException")]) (h := 18) (E := "java/lang/IllegalStateException") rfl rfl (by decide +kernel) (by decide) (fun _ => ?_))
  simp only [eL_outer_18, nl_ref]
  with_reducible refine And.intro ?_ ?_
  omega
  with_reducible refine And.intro ?_ ?_
  omega
  with_reducible exact hS hSc0 hSc1 hSc2
  simp only [eL_outer_7, eL_outer_11, kx_l, tl_s, nf_l, true_and]
  with_reducible refine go_OF (LW.of hL hTh (by first | with_reducible exact ho | with_reducible exact ho.num | with_reducible exact ho.rf | with_reducible exact ho.mk (by assumption) | with_reducible exact ho.mk (ho.c' (by assumption) (by assumption)) | with_reducible exact ho.mkO (by assumption) (by assumption) | with_reducible exact ho.card0 | with_reducible exact ho.card (ho.c' (by assumption) (by assumption)) | with_reducible exact ho.card (ho.p' (by assumption)) | with_reducible exact ho.lay (ho.c' (by assumption) (by assumption)) (by assumption) | with_reducible exact ho.gap (by assumption) | with_reducible exact ho.tur | with_reducible exact ho.zero)) (fun _ _ hw => ?_)
  with_reducible refine And.intro ?_ ?_
  simp only [List.length_cons, List.length_nil, Nat.zero_add]
  omega
  with_reducible refine And.intro ?_ ?_
  omega
  with_reducible refine And.intro ?_ ?_
  omega
  simp only [List.set_cons_zero]
  with_reducible exact hT hTc0 hTc1 hTr hTc2 hTc3 _ (hw _ _) outN.mk
  simp only [eL_outer_7, eL_outer_11, kx_l, tl_s, nf_l, true_and]
  with_reducible refine go_OF (LW.of hL hFh (by first | with_reducible exact ho | with_reducible exact ho.num | with_reducible exact ho.rf | with_reducible exact ho.mk (by assumption) | with_reducible exact ho.mk (ho.c' (by assumption) (by assumption)) | with_reducible exact ho.mkO (by assumption) (by assumption) | with_reducible exact ho.card0 | with_reducible exact ho.card (ho.c' (by assumption) (by assumption)) | with_reducible exact ho.card (ho.p' (by assumption)) | with_reducible exact ho.lay (ho.c' (by assumption) (by assumption)) (by assumption) | with_reducible exact ho.gap (by assumption) | with_reducible exact ho.tur | with_reducible exact ho.zero)) (fun _ _ hw => ?_)
  with_reducible refine And.intro ?_ ?_
  simp only [List.length_cons, List.length_nil, Nat.zero_add]
  omega
  with_reducible refine And.intro ?_ ?_
  omega
  with_reducible refine And.intro ?_ ?_
  omega
  simp only [List.set_cons_zero]
  with_reducible exact hF hFc0 hFc1 hFr hFc2 hFc3 _ (hw _ _) outN.mk
set_option maxHeartbeats 4000000 in
theorem fL_inner {a0 a1 : Int32} (hL : LW g w x nA cA lA y nM o kn km th s s2) (hX : ¬ (okC a0 ∧ okC a1) → Q (.inl (some (.int 1))) w) (hS : okC a0 → okC a1 → s.2.1 a1.toNatClampNeg = none → Q (.inl (some (.int 2))) w) (hT : okC a0 → okC a1 → ∀ r, s.2.1 a1.toNatClampNeg = some r → oP r.2.1 r.2.1 r.2.2.1 r.2.2.1 → ∀ w', LW g w' x nA cA lA y nM o kn km th (sMk s a0.toNatClampNeg (r.2.1, r.2.1, r.2.2.1, r.2.2.1)) s2 → outN w' o ((1 : Int32).toInt64) → Q (.inl (some (.int 0))) w') (hF : okC a0 → okC a1 → ∀ r, s.2.1 a1.toNatClampNeg = some r → ¬ oP r.2.1 r.2.1 r.2.2.1 r.2.2.1 → ∀ w', LW g w' x nA cA lA y nM o kn km th (sRf s) s2 → outN w' o ((-9 : Int32).toInt64) → Q (.inl (some (.int 0))) w') : WP (ML_inner g) Q (0, [some (.ref x), some (.int a0), some (.int a1), some (.ref o), none], [], w, 0, 0) := by
  have ho := hL.2.1
  simp only [eL_inner_0, wt_nil, wt_ref, Nat.zero_add, Nat.add_zero]
  with_reducible refine And.intro ?_ ?_
  with_reducible refine LW.gx hL (fun _ => trivial)
  with_reducible refine And.intro ?_ ?_
  omega
  with_reducible refine And.intro ?_ ?_
  omega
  with_reducible refine And.intro ?_ ?_
  omega
  with_reducible refine fX1_inner hL.cs (fun hXc0 => ?_) (fun hSc0 hSc1 hSc2 => ?_) (fun hTc0 hTc1 hTr hTc2 hTc3 hTw hTh => ?_) (fun hFc0 hFc1 hFr hFc2 hFc3 hFw hFh => ?_)
  simp only [kx_r]
  ((with_reducible refine isHgo ?_); refine hgo_h (HH := [(0, 11, 14, 19), (0, 11, 18, 74)]) (NN := [(19, "java/lang/IndexOutOfBoundsException"), (74, "java/lang/IllegalStateException")]) (h := 14) (E := "java/lang/IndexOutOfBoundsException") rfl rfl (by decide +kernel) (by decide) (fun _ => ?_))
  simp only [eL_inner_14, nl_ref]
  with_reducible refine And.intro ?_ ?_
  omega
  with_reducible refine And.intro ?_ ?_
  omega
  with_reducible exact hX hXc0
  simp only [kx_r]
  ((with_reducible refine isHgo ?_); refine hgo_h (HH := [(0, 11, 14, 19), (0, 11, 18, 74)]) (NN := [(19, "java/lang/IndexOutOfBoundsException"), (74, "java/lang/IllegalStateException")]) (h := 18) (E := "java/lang/IllegalStateException") rfl rfl (by decide +kernel) (by decide) (fun _ => ?_))
  simp only [eL_inner_18, nl_ref]
  with_reducible refine And.intro ?_ ?_
  omega
  with_reducible refine And.intro ?_ ?_
  omega
  with_reducible exact hS hSc0 hSc1 hSc2
  simp only [eL_inner_7, eL_inner_11, kx_l, tl_s, nf_l, true_and]
  with_reducible refine go_OF (LW.of hL hTh (by first | with_reducible exact ho | with_reducible exact ho.num | with_reducible exact ho.rf | with_reducible exact ho.mk (by assumption) | with_reducible exact ho.mk (ho.c' (by assumption) (by assumption)) | with_reducible exact ho.mkO (by assumption) (by assumption) | with_reducible exact ho.card0 | with_reducible exact ho.card (ho.c' (by assumption) (by assumption)) | with_reducible exact ho.card (ho.p' (by assumption)) | with_reducible exact ho.lay (ho.c' (by assumption) (by assumption)) (by assumption) | with_reducible exact ho.gap (by assumption) | with_reducible exact ho.tur | with_reducible exact ho.zero)) (fun _ _ hw => ?_)
  with_reducible refine And.intro ?_ ?_
  simp only [List.length_cons, List.length_nil, Nat.zero_add]
  omega
  with_reducible refine And.intro ?_ ?_
  omega
  with_reducible refine And.intro ?_ ?_
  omega
  simp only [List.set_cons_zero]
  with_reducible exact hT hTc0 hTc1 hTr hTc2 hTc3 _ (hw _ _) outN.mk
  simp only [eL_inner_7, eL_inner_11, kx_l, tl_s, nf_l, true_and]
  with_reducible refine go_OF (LW.of hL hFh (by first | with_reducible exact ho | with_reducible exact ho.num | with_reducible exact ho.rf | with_reducible exact ho.mk (by assumption) | with_reducible exact ho.mk (ho.c' (by assumption) (by assumption)) | with_reducible exact ho.mkO (by assumption) (by assumption) | with_reducible exact ho.card0 | with_reducible exact ho.card (ho.c' (by assumption) (by assumption)) | with_reducible exact ho.card (ho.p' (by assumption)) | with_reducible exact ho.lay (ho.c' (by assumption) (by assumption)) (by assumption) | with_reducible exact ho.gap (by assumption) | with_reducible exact ho.tur | with_reducible exact ho.zero)) (fun _ _ hw => ?_)
  with_reducible refine And.intro ?_ ?_
  simp only [List.length_cons, List.length_nil, Nat.zero_add]
  omega
  with_reducible refine And.intro ?_ ?_
  omega
  with_reducible refine And.intro ?_ ?_
  omega
  simp only [List.set_cons_zero]
  with_reducible exact hF hFc0 hFc1 hFr hFc2 hFc3 _ (hw _ _) outN.mk
set_option maxHeartbeats 4000000 in
theorem fL_span {a0 a1 a2 : Int32} (hL : LW g w x nA cA lA y nM o kn km th s s2) (hX : ¬ (okC a0 ∧ okC a1 ∧ okC a2) → Q (.inl (some (.int 1))) w) (hS : okC a0 → okC a1 → okC a2 → (s.2.1 a1.toNatClampNeg = none ∨ s.2.1 a2.toNatClampNeg = none) → Q (.inl (some (.int 2))) w) (hT : okC a0 → okC a1 → okC a2 → ∀ r q, s.2.1 a1.toNatClampNeg = some r → s.2.1 a2.toNatClampNeg = some q → oP r.1 r.2.1 q.2.2.1 q.2.2.2 → ∀ w', LW g w' x nA cA lA y nM o kn km th (sMk s a0.toNatClampNeg (r.1, r.2.1, q.2.2.1, q.2.2.2)) s2 → outN w' o ((1 : Int32).toInt64) → Q (.inl (some (.int 0))) w') (hF : okC a0 → okC a1 → okC a2 → ∀ r q, s.2.1 a1.toNatClampNeg = some r → s.2.1 a2.toNatClampNeg = some q → ¬ oP r.1 r.2.1 q.2.2.1 q.2.2.2 → ∀ w', LW g w' x nA cA lA y nM o kn km th (sRf s) s2 → outN w' o ((-9 : Int32).toInt64) → Q (.inl (some (.int 0))) w') : WP (ML_span g) Q (0, [some (.ref x), some (.int a0), some (.int a1), some (.int a2), some (.ref o), none], [], w, 0, 0) := by
  have ho := hL.2.1
  simp only [eL_span_0, wt_nil, wt_ref, Nat.zero_add, Nat.add_zero]
  with_reducible refine And.intro ?_ ?_
  with_reducible refine LW.gx hL (fun _ => trivial)
  with_reducible refine And.intro ?_ ?_
  omega
  with_reducible refine And.intro ?_ ?_
  omega
  with_reducible refine And.intro ?_ ?_
  omega
  with_reducible refine fX1_span hL.cs (fun hXc0 => ?_) (fun hSc0 hSc1 hSc2 hSc3 => ?_) (fun hTc0 hTc1 hTc2 hTr hTq hTc3 hTc4 hTc5 hTw hTh => ?_) (fun hFc0 hFc1 hFc2 hFr hFq hFc3 hFc4 hFc5 hFw hFh => ?_)
  simp only [kx_r]
  ((with_reducible refine isHgo ?_); refine hgo_h (HH := [(0, 13, 16, 19), (0, 13, 20, 74)]) (NN := [(19, "java/lang/IndexOutOfBoundsException"), (74, "java/lang/IllegalStateException")]) (h := 16) (E := "java/lang/IndexOutOfBoundsException") rfl rfl (by decide +kernel) (by decide) (fun _ => ?_))
  simp only [eL_span_16, nl_ref]
  with_reducible refine And.intro ?_ ?_
  omega
  with_reducible refine And.intro ?_ ?_
  omega
  with_reducible exact hX hXc0
  simp only [kx_r]
  ((with_reducible refine isHgo ?_); refine hgo_h (HH := [(0, 13, 16, 19), (0, 13, 20, 74)]) (NN := [(19, "java/lang/IndexOutOfBoundsException"), (74, "java/lang/IllegalStateException")]) (h := 20) (E := "java/lang/IllegalStateException") rfl rfl (by decide +kernel) (by decide) (fun _ => ?_))
  simp only [eL_span_20, nl_ref]
  with_reducible refine And.intro ?_ ?_
  omega
  with_reducible refine And.intro ?_ ?_
  omega
  with_reducible exact hS hSc0 hSc1 hSc2 hSc3
  simp only [eL_span_9, eL_span_13, kx_l, tl_s, nf_l, true_and]
  with_reducible refine go_OF (LW.of hL hTh (by first | with_reducible exact ho | with_reducible exact ho.num | with_reducible exact ho.rf | with_reducible exact ho.mk (by assumption) | with_reducible exact ho.mk (ho.c' (by assumption) (by assumption)) | with_reducible exact ho.mkO (by assumption) (by assumption) | with_reducible exact ho.card0 | with_reducible exact ho.card (ho.c' (by assumption) (by assumption)) | with_reducible exact ho.card (ho.p' (by assumption)) | with_reducible exact ho.lay (ho.c' (by assumption) (by assumption)) (by assumption) | with_reducible exact ho.gap (by assumption) | with_reducible exact ho.tur | with_reducible exact ho.zero)) (fun _ _ hw => ?_)
  with_reducible refine And.intro ?_ ?_
  simp only [List.length_cons, List.length_nil, Nat.zero_add]
  omega
  with_reducible refine And.intro ?_ ?_
  omega
  with_reducible refine And.intro ?_ ?_
  omega
  simp only [List.set_cons_zero]
  with_reducible exact hT hTc0 hTc1 hTc2 hTr hTq hTc3 hTc4 hTc5 _ (hw _ _) outN.mk
  simp only [eL_span_9, eL_span_13, kx_l, tl_s, nf_l, true_and]
  with_reducible refine go_OF (LW.of hL hFh (by first | with_reducible exact ho | with_reducible exact ho.num | with_reducible exact ho.rf | with_reducible exact ho.mk (by assumption) | with_reducible exact ho.mk (ho.c' (by assumption) (by assumption)) | with_reducible exact ho.mkO (by assumption) (by assumption) | with_reducible exact ho.card0 | with_reducible exact ho.card (ho.c' (by assumption) (by assumption)) | with_reducible exact ho.card (ho.p' (by assumption)) | with_reducible exact ho.lay (ho.c' (by assumption) (by assumption)) (by assumption) | with_reducible exact ho.gap (by assumption) | with_reducible exact ho.tur | with_reducible exact ho.zero)) (fun _ _ hw => ?_)
  with_reducible refine And.intro ?_ ?_
  simp only [List.length_cons, List.length_nil, Nat.zero_add]
  omega
  with_reducible refine And.intro ?_ ?_
  omega
  with_reducible refine And.intro ?_ ?_
  omega
  simp only [List.set_cons_zero]
  with_reducible exact hF hFc0 hFc1 hFc2 hFr hFq hFc3 hFc4 hFc5 _ (hw _ _) outN.mk
set_option maxHeartbeats 4000000 in
theorem fL_shift {a0 a1 : Int32} (hL : LW g w x nA cA lA y nM o kn km th s s2) (hX : ¬ okC a0 → Q (.inl (some (.int 1))) w) (hS : okC a0 → s.2.1 a0.toNatClampNeg = none → Q (.inl (some (.int 2))) w) (hT : okC a0 → ∀ r, s.2.1 a0.toNatClampNeg = some r → oP (r.1 + a1.toInt64) (r.2.1 + a1.toInt64) (r.2.2.1 + a1.toInt64) (r.2.2.2 + a1.toInt64) → ∀ w', LW g w' x nA cA lA y nM o kn km th (sMk s a0.toNatClampNeg (r.1 + a1.toInt64, r.2.1 + a1.toInt64, r.2.2.1 + a1.toInt64, r.2.2.2 + a1.toInt64)) s2 → outN w' o ((1 : Int32).toInt64) → Q (.inl (some (.int 0))) w') (hF : okC a0 → ∀ r, s.2.1 a0.toNatClampNeg = some r → ¬ oP (r.1 + a1.toInt64) (r.2.1 + a1.toInt64) (r.2.2.1 + a1.toInt64) (r.2.2.2 + a1.toInt64) → ∀ w', LW g w' x nA cA lA y nM o kn km th (sRf s) s2 → outN w' o ((-9 : Int32).toInt64) → Q (.inl (some (.int 0))) w') : WP (ML_shift g) Q (0, [some (.ref x), some (.int a0), some (.int a1), some (.ref o), none], [], w, 0, 0) := by
  have ho := hL.2.1
  simp only [eL_shift_0, wt_nil, wt_ref, Nat.zero_add, Nat.add_zero]
  with_reducible refine And.intro ?_ ?_
  with_reducible refine LW.gx hL (fun _ => trivial)
  with_reducible refine And.intro ?_ ?_
  omega
  with_reducible refine And.intro ?_ ?_
  omega
  with_reducible refine And.intro ?_ ?_
  omega
  with_reducible refine fX1_shift hL.cs (fun hXc0 => ?_) (fun hSc0 hSc1 => ?_) (fun hTc0 hTr hTc1 hTc2 hTw hTh => ?_) (fun hFc0 hFr hFc1 hFc2 hFw hFh => ?_)
  simp only [kx_r]
  ((with_reducible refine isHgo ?_); refine hgo_h (HH := [(0, 11, 14, 19), (0, 11, 18, 74)]) (NN := [(19, "java/lang/IndexOutOfBoundsException"), (74, "java/lang/IllegalStateException")]) (h := 14) (E := "java/lang/IndexOutOfBoundsException") rfl rfl (by decide +kernel) (by decide) (fun _ => ?_))
  simp only [eL_shift_14, nl_ref]
  with_reducible refine And.intro ?_ ?_
  omega
  with_reducible refine And.intro ?_ ?_
  omega
  with_reducible exact hX hXc0
  simp only [kx_r]
  ((with_reducible refine isHgo ?_); refine hgo_h (HH := [(0, 11, 14, 19), (0, 11, 18, 74)]) (NN := [(19, "java/lang/IndexOutOfBoundsException"), (74, "java/lang/IllegalStateException")]) (h := 18) (E := "java/lang/IllegalStateException") rfl rfl (by decide +kernel) (by decide) (fun _ => ?_))
  simp only [eL_shift_18, nl_ref]
  with_reducible refine And.intro ?_ ?_
  omega
  with_reducible refine And.intro ?_ ?_
  omega
  with_reducible exact hS hSc0 hSc1
  simp only [eL_shift_7, eL_shift_11, kx_l, tl_s, nf_l, true_and]
  with_reducible refine go_OF (LW.of hL hTh (by first | with_reducible exact ho | with_reducible exact ho.num | with_reducible exact ho.rf | with_reducible exact ho.mk (by assumption) | with_reducible exact ho.mk (ho.c' (by assumption) (by assumption)) | with_reducible exact ho.mkO (by assumption) (by assumption) | with_reducible exact ho.card0 | with_reducible exact ho.card (ho.c' (by assumption) (by assumption)) | with_reducible exact ho.card (ho.p' (by assumption)) | with_reducible exact ho.lay (ho.c' (by assumption) (by assumption)) (by assumption) | with_reducible exact ho.gap (by assumption) | with_reducible exact ho.tur | with_reducible exact ho.zero)) (fun _ _ hw => ?_)
  with_reducible refine And.intro ?_ ?_
  simp only [List.length_cons, List.length_nil, Nat.zero_add]
  omega
  with_reducible refine And.intro ?_ ?_
  omega
  with_reducible refine And.intro ?_ ?_
  omega
  simp only [List.set_cons_zero]
  with_reducible exact hT hTc0 hTr hTc1 hTc2 _ (hw _ _) outN.mk
  simp only [eL_shift_7, eL_shift_11, kx_l, tl_s, nf_l, true_and]
  with_reducible refine go_OF (LW.of hL hFh (by first | with_reducible exact ho | with_reducible exact ho.num | with_reducible exact ho.rf | with_reducible exact ho.mk (by assumption) | with_reducible exact ho.mk (ho.c' (by assumption) (by assumption)) | with_reducible exact ho.mkO (by assumption) (by assumption) | with_reducible exact ho.card0 | with_reducible exact ho.card (ho.c' (by assumption) (by assumption)) | with_reducible exact ho.card (ho.p' (by assumption)) | with_reducible exact ho.lay (ho.c' (by assumption) (by assumption)) (by assumption) | with_reducible exact ho.gap (by assumption) | with_reducible exact ho.tur | with_reducible exact ho.zero)) (fun _ _ hw => ?_)
  with_reducible refine And.intro ?_ ?_
  simp only [List.length_cons, List.length_nil, Nat.zero_add]
  omega
  with_reducible refine And.intro ?_ ?_
  omega
  with_reducible refine And.intro ?_ ?_
  omega
  simp only [List.set_cons_zero]
  with_reducible exact hF hFc0 hFr hFc1 hFc2 _ (hw _ _) outN.mk
set_option maxHeartbeats 4000000 in
theorem fL_drop {a0 : Int32} (hL : LW g w x nA cA lA y nM o kn km th s s2) (hX : ¬ okC a0 → Q (.inl (some (.int 1))) w) (hN : okC a0 → s.2.1 a0.toNatClampNeg = none → ∀ w', LW g w' x nA cA lA y nM o kn km th (sC s (va_up s.2.1 a0.toNatClampNeg none)) s2 → outN w' o ((0 : Int32).toInt64) → Q (.inl (some (.int 0))) w') (hS : okC a0 → ∀ r, s.2.1 a0.toNatClampNeg = some r → ∀ w', LW g w' x nA cA lA y nM o kn km th (sC s (va_up s.2.1 a0.toNatClampNeg none)) s2 → outN w' o ((1 : Int32).toInt64) → Q (.inl (some (.int 0))) w') : WP (ML_drop g) Q (0, [some (.ref x), some (.int a0), some (.ref o), none], [], w, 0, 0) := by
  have ho := hL.2.1
  simp only [eL_drop_0, wt_nil, wt_ref, Nat.zero_add, Nat.add_zero]
  with_reducible refine And.intro ?_ ?_
  with_reducible refine LW.gx hL (fun _ => trivial)
  with_reducible refine And.intro ?_ ?_
  omega
  with_reducible refine And.intro ?_ ?_
  omega
  with_reducible refine And.intro ?_ ?_
  omega
  with_reducible refine fX1_drop hL.cs (fun hXc0 => ?_) (fun hNc0 hNc1 hNw hNh => ?_) (fun hSc0 hSr hSc1 hSw hSh => ?_)
  simp only [kx_r]
  ((with_reducible refine isHgo ?_); refine hgo_h (HH := [(0, 10, 13, 19)]) (NN := [(19, "java/lang/IndexOutOfBoundsException")]) (h := 13) (E := "java/lang/IndexOutOfBoundsException") rfl rfl (by decide +kernel) (by decide) (fun _ => ?_))
  simp only [eL_drop_13, nl_ref]
  with_reducible refine And.intro ?_ ?_
  omega
  with_reducible refine And.intro ?_ ?_
  omega
  with_reducible exact hX hXc0
  simp only [eL_drop_6, eL_drop_10, kx_l, tl_s, nf_l, true_and]
  with_reducible refine go_OF (LW.of hL hNh (by first | with_reducible exact ho | with_reducible exact ho.num | with_reducible exact ho.rf | with_reducible exact ho.mk (by assumption) | with_reducible exact ho.mk (ho.c' (by assumption) (by assumption)) | with_reducible exact ho.mkO (by assumption) (by assumption) | with_reducible exact ho.card0 | with_reducible exact ho.card (ho.c' (by assumption) (by assumption)) | with_reducible exact ho.card (ho.p' (by assumption)) | with_reducible exact ho.lay (ho.c' (by assumption) (by assumption)) (by assumption) | with_reducible exact ho.gap (by assumption) | with_reducible exact ho.tur | with_reducible exact ho.zero)) (fun _ _ hw => ?_)
  with_reducible refine And.intro ?_ ?_
  simp only [List.length_cons, List.length_nil, Nat.zero_add]
  omega
  with_reducible refine And.intro ?_ ?_
  omega
  with_reducible refine And.intro ?_ ?_
  omega
  simp only [List.set_cons_zero]
  with_reducible exact hN hNc0 hNc1 _ (hw _ _) outN.mk
  simp only [eL_drop_6, eL_drop_10, kx_l, tl_s, nf_l, true_and]
  with_reducible refine go_OF (LW.of hL hSh (by first | with_reducible exact ho | with_reducible exact ho.num | with_reducible exact ho.rf | with_reducible exact ho.mk (by assumption) | with_reducible exact ho.mk (ho.c' (by assumption) (by assumption)) | with_reducible exact ho.mkO (by assumption) (by assumption) | with_reducible exact ho.card0 | with_reducible exact ho.card (ho.c' (by assumption) (by assumption)) | with_reducible exact ho.card (ho.p' (by assumption)) | with_reducible exact ho.lay (ho.c' (by assumption) (by assumption)) (by assumption) | with_reducible exact ho.gap (by assumption) | with_reducible exact ho.tur | with_reducible exact ho.zero)) (fun _ _ hw => ?_)
  with_reducible refine And.intro ?_ ?_
  simp only [List.length_cons, List.length_nil, Nat.zero_add]
  omega
  with_reducible refine And.intro ?_ ?_
  omega
  with_reducible refine And.intro ?_ ?_
  omega
  simp only [List.set_cons_zero]
  with_reducible exact hS hSc0 hSr hSc1 _ (hw _ _) outN.mk
set_option maxHeartbeats 4000000 in
theorem fL_isThere {a0 : Int32} (hL : LW g w x nA cA lA y nM o kn km th s s2) (hX : ¬ okC a0 → Q (.inl (some (.int 1))) w) (hF : okC a0 → s.2.1 a0.toNatClampNeg = none → ∀ w', LW g w' x nA cA lA y nM o kn km th s s2 → outN w' o (0) → Q (.inl (some (.int 0))) w') (hT : okC a0 → ∀ r, s.2.1 a0.toNatClampNeg = some r → ∀ w', LW g w' x nA cA lA y nM o kn km th s s2 → outN w' o (1) → Q (.inl (some (.int 0))) w') : WP (ML_isThere g) Q (0, [some (.ref x), some (.int a0), some (.ref o), none], [], w, 0, 0) := by
  have ho := hL.2.1
  simp only [eL_isThere_0, wt_nil, wt_ref, Nat.zero_add, Nat.add_zero]
  with_reducible refine And.intro ?_ ?_
  with_reducible refine LW.gx hL (fun _ => trivial)
  with_reducible refine And.intro ?_ ?_
  omega
  with_reducible refine And.intro ?_ ?_
  omega
  with_reducible refine And.intro ?_ ?_
  omega
  with_reducible refine fX1_isThere hL.cs (fun hXc0 => ?_) (fun hFc0 hFc1 => ?_) (fun hTc0 hTr hTc1 => ?_)
  simp only [kx_r]
  ((with_reducible refine isHgo ?_); refine hgo_h (HH := [(0, 17, 20, 19)]) (NN := [(19, "java/lang/IndexOutOfBoundsException")]) (h := 20) (E := "java/lang/IndexOutOfBoundsException") rfl rfl (by decide +kernel) (by decide) (fun _ => ?_))
  simp only [eL_isThere_20, nl_ref]
  with_reducible refine And.intro ?_ ?_
  omega
  with_reducible refine And.intro ?_ ?_
  omega
  with_reducible exact hX hXc0
  simp only [eL_isThere_6, eL_isThere_9, eL_isThere_13, eL_isThere_14, eL_isThere_17, kx_l, tl_s, nf_l, true_and, if_true]
  with_reducible refine go_OF hL (fun _ _ hw => ?_)
  with_reducible refine And.intro ?_ ?_
  simp only [List.length_cons, List.length_nil, Nat.zero_add]
  omega
  with_reducible refine And.intro ?_ ?_
  omega
  with_reducible refine And.intro ?_ ?_
  omega
  simp only [List.set_cons_zero]
  with_reducible exact hF hFc0 hFc1 _ (hw _ _) outN.mk
  simp only [eL_isThere_6, eL_isThere_9, eL_isThere_13, eL_isThere_14, eL_isThere_17, i10, kx_l, tl_s, nf_l, true_and, if_false]
  with_reducible refine go_OF hL (fun _ _ hw => ?_)
  with_reducible refine And.intro ?_ ?_
  simp only [List.length_cons, List.length_nil, Nat.zero_add]
  omega
  with_reducible refine And.intro ?_ ?_
  omega
  with_reducible refine And.intro ?_ ?_
  omega
  simp only [List.set_cons_zero]
  with_reducible exact hT hTc0 hTr hTc1 _ (hw _ _) outN.mk
end
end
/-! 78.lw3.lean.txt -/
section
section
variable {g : RO} {Q : Ot → Hw → Prop} {w : Hw} {x nA cA lA y nM o : Nat} {kn km th : Int32} {s s2 : AS}
set_option maxHeartbeats 4000000 in
theorem fL_isFixed {a0 : Int32} (hL : LW g w x nA cA lA y nM o kn km th s s2) (hX : ¬ okC a0 → Q (.inl (some (.int 1))) w) (hS : okC a0 → s.2.1 a0.toNatClampNeg = none → Q (.inl (some (.int 2))) w) (hT : okC a0 → ∀ r, s.2.1 a0.toNatClampNeg = some r → fP r → ∀ w', LW g w' x nA cA lA y nM o kn km th s s2 → outN w' o (1) → Q (.inl (some (.int 0))) w') (hF : okC a0 → ∀ r, s.2.1 a0.toNatClampNeg = some r → ¬ (fP r) → ∀ w', LW g w' x nA cA lA y nM o kn km th s s2 → outN w' o (0) → Q (.inl (some (.int 0))) w') : WP (ML_isFixed g) Q (0, [some (.ref x), some (.int a0), some (.ref o), none], [], w, 0, 0) := by
  have ho := hL.2.1
  simp only [eL_isFixed_0, wt_nil, wt_ref, Nat.zero_add, Nat.add_zero]
  with_reducible refine And.intro ?_ ?_
  with_reducible refine LW.gx hL (fun _ => trivial)
  with_reducible refine And.intro ?_ ?_
  omega
  with_reducible refine And.intro ?_ ?_
  omega
  with_reducible refine And.intro ?_ ?_
  omega
  with_reducible refine fX1_isFixed hL.cs (fun hXc0 => ?_) (fun hSc0 hSc1 => ?_) (fun hTc0 hTr hTc1 hTc2 => ?_) (fun hFc0 hFr hFc1 hFc2 => ?_)
  simp only [kx_r]
  ((with_reducible refine isHgo ?_); refine hgo_h (HH := [(0, 17, 20, 19), (0, 17, 23, 74)]) (NN := [(19, "java/lang/IndexOutOfBoundsException"), (74, "java/lang/IllegalStateException")]) (h := 20) (E := "java/lang/IndexOutOfBoundsException") rfl rfl (by decide +kernel) (by decide) (fun _ => ?_))
  simp only [eL_isFixed_20, nl_ref]
  with_reducible refine And.intro ?_ ?_
  omega
  with_reducible refine And.intro ?_ ?_
  omega
  with_reducible exact hX hXc0
  simp only [kx_r]
  ((with_reducible refine isHgo ?_); refine hgo_h (HH := [(0, 17, 20, 19), (0, 17, 23, 74)]) (NN := [(19, "java/lang/IndexOutOfBoundsException"), (74, "java/lang/IllegalStateException")]) (h := 23) (E := "java/lang/IllegalStateException") rfl rfl (by decide +kernel) (by decide) (fun _ => ?_))
  simp only [eL_isFixed_23, nl_ref]
  with_reducible refine And.intro ?_ ?_
  omega
  with_reducible refine And.intro ?_ ?_
  omega
  with_reducible exact hS hSc0 hSc1
  simp only [eL_isFixed_6, eL_isFixed_9, eL_isFixed_13, eL_isFixed_14, eL_isFixed_17, i10, kx_l, tl_s, nf_l, true_and, if_false]
  with_reducible refine go_OF hL (fun _ _ hw => ?_)
  with_reducible refine And.intro ?_ ?_
  simp only [List.length_cons, List.length_nil, Nat.zero_add]
  omega
  with_reducible refine And.intro ?_ ?_
  omega
  with_reducible refine And.intro ?_ ?_
  omega
  simp only [List.set_cons_zero]
  with_reducible exact hT hTc0 hTr hTc1 hTc2 _ (hw _ _) outN.mk
  simp only [eL_isFixed_6, eL_isFixed_9, eL_isFixed_13, eL_isFixed_14, eL_isFixed_17, kx_l, tl_s, nf_l, true_and, if_true]
  with_reducible refine go_OF hL (fun _ _ hw => ?_)
  with_reducible refine And.intro ?_ ?_
  simp only [List.length_cons, List.length_nil, Nat.zero_add]
  omega
  with_reducible refine And.intro ?_ ?_
  omega
  with_reducible refine And.intro ?_ ?_
  omega
  simp only [List.set_cons_zero]
  with_reducible exact hF hFc0 hFr hFc1 hFc2 _ (hw _ _) outN.mk
set_option maxHeartbeats 4000000 in
theorem fL_isSmall {a0 : Int32} (hL : LW g w x nA cA lA y nM o kn km th s s2) (hX : ¬ okC a0 → Q (.inl (some (.int 1))) w) (hS : okC a0 → s.2.1 a0.toNatClampNeg = none → Q (.inl (some (.int 2))) w) (hT : okC a0 → ∀ r, s.2.1 a0.toNatClampNeg = some r → sP r → ∀ w', LW g w' x nA cA lA y nM o kn km th s s2 → outN w' o (1) → Q (.inl (some (.int 0))) w') (hF : okC a0 → ∀ r, s.2.1 a0.toNatClampNeg = some r → ¬ (sP r) → ∀ w', LW g w' x nA cA lA y nM o kn km th s s2 → outN w' o (0) → Q (.inl (some (.int 0))) w') : WP (ML_isSmall g) Q (0, [some (.ref x), some (.int a0), some (.ref o), none], [], w, 0, 0) := by
  have ho := hL.2.1
  simp only [eL_isSmall_0, wt_nil, wt_ref, Nat.zero_add, Nat.add_zero]
  with_reducible refine And.intro ?_ ?_
  with_reducible refine LW.gx hL (fun _ => trivial)
  with_reducible refine And.intro ?_ ?_
  omega
  with_reducible refine And.intro ?_ ?_
  omega
  with_reducible refine And.intro ?_ ?_
  omega
  with_reducible refine fX1_isSmall hL.cs (fun hXc0 => ?_) (fun hSc0 hSc1 => ?_) (fun hTc0 hTr hTc1 hTc2 => ?_) (fun hFc0 hFr hFc1 hFc2 => ?_)
  simp only [kx_r]
  ((with_reducible refine isHgo ?_); refine hgo_h (HH := [(0, 17, 20, 19), (0, 17, 23, 74)]) (NN := [(19, "java/lang/IndexOutOfBoundsException"), (74, "java/lang/IllegalStateException")]) (h := 20) (E := "java/lang/IndexOutOfBoundsException") rfl rfl (by decide +kernel) (by decide) (fun _ => ?_))
  simp only [eL_isSmall_20, nl_ref]
  with_reducible refine And.intro ?_ ?_
  omega
  with_reducible refine And.intro ?_ ?_
  omega
  with_reducible exact hX hXc0
  simp only [kx_r]
  ((with_reducible refine isHgo ?_); refine hgo_h (HH := [(0, 17, 20, 19), (0, 17, 23, 74)]) (NN := [(19, "java/lang/IndexOutOfBoundsException"), (74, "java/lang/IllegalStateException")]) (h := 23) (E := "java/lang/IllegalStateException") rfl rfl (by decide +kernel) (by decide) (fun _ => ?_))
  simp only [eL_isSmall_23, nl_ref]
  with_reducible refine And.intro ?_ ?_
  omega
  with_reducible refine And.intro ?_ ?_
  omega
  with_reducible exact hS hSc0 hSc1
  simp only [eL_isSmall_6, eL_isSmall_9, eL_isSmall_13, eL_isSmall_14, eL_isSmall_17, i10, kx_l, tl_s, nf_l, true_and, if_false]
  with_reducible refine go_OF hL (fun _ _ hw => ?_)
  with_reducible refine And.intro ?_ ?_
  simp only [List.length_cons, List.length_nil, Nat.zero_add]
  omega
  with_reducible refine And.intro ?_ ?_
  omega
  with_reducible refine And.intro ?_ ?_
  omega
  simp only [List.set_cons_zero]
  with_reducible exact hT hTc0 hTr hTc1 hTc2 _ (hw _ _) outN.mk
  simp only [eL_isSmall_6, eL_isSmall_9, eL_isSmall_13, eL_isSmall_14, eL_isSmall_17, kx_l, tl_s, nf_l, true_and, if_true]
  with_reducible refine go_OF hL (fun _ _ hw => ?_)
  with_reducible refine And.intro ?_ ?_
  simp only [List.length_cons, List.length_nil, Nat.zero_add]
  omega
  with_reducible refine And.intro ?_ ?_
  omega
  with_reducible refine And.intro ?_ ?_
  omega
  simp only [List.set_cons_zero]
  with_reducible exact hF hFc0 hFr hFc1 hFc2 _ (hw _ _) outN.mk
set_option maxHeartbeats 4000000 in
theorem fL_end {a0 a1 a2 : Int32} (hL : LW g w x nA cA lA y nM o kn km th s s2) (hX : ¬ okC a0 → Q (.inl (some (.int 1))) w) (hW : okC a0 → ¬ okW a1 3 → Q (.inl (some (.int 2))) w) (hS : okC a0 → okW a1 3 → s.2.1 a0.toNatClampNeg = none → Q (.inl (some (.int 3))) w) (hQ : okC a0 → okW a1 3 → ∀ r, s.2.1 a0.toNatClampNeg = some r → ∀ w', LW g w' x nA cA lA y nM o kn km th s s2 → outN w' o ((hfV (eV r a1) a2).toInt64) → Q (.inl (some (.int 0))) w') : WP (ML_end g) Q (0, [some (.ref x), some (.int a0), some (.int a1), some (.int a2), some (.ref o), none], [], w, 0, 0) := by
  have ho := hL.2.1
  simp only [eL_end_0, wt_nil, wt_ref, Nat.zero_add, Nat.add_zero]
  with_reducible refine And.intro ?_ ?_
  with_reducible refine LW.gx hL (fun _ => trivial)
  with_reducible refine And.intro ?_ ?_
  omega
  with_reducible refine And.intro ?_ ?_
  omega
  with_reducible refine And.intro ?_ ?_
  omega
  with_reducible refine fX1_end hL.cs (fun hXc0 => ?_) (fun hWc0 hWc1 => ?_) (fun hSc0 hSc1 hSc2 => ?_) (fun hQc0 hQc1 hQr hQc2 => ?_)
  simp only [kx_r]
  ((with_reducible refine isHgo ?_); refine hgo_h (HH := [(0, 13, 16, 19), (0, 13, 20, 28), (0, 13, 24, 74)]) (NN := [(19, "java/lang/IndexOutOfBoundsException"), (28, "java/lang/IllegalArgumentException"), (74, "java/lang/IllegalStateException")]) (h := 16) (E := "java/lang/IndexOutOfBoundsException") rfl rfl (by decide +kernel) (by decide) (fun _ => ?_))
  simp only [eL_end_16, nl_ref]
  with_reducible refine And.intro ?_ ?_
  omega
  with_reducible refine And.intro ?_ ?_
  omega
  with_reducible exact hX hXc0
  simp only [kx_r]
  ((with_reducible refine isHgo ?_); refine hgo_h (HH := [(0, 13, 16, 19), (0, 13, 20, 28), (0, 13, 24, 74)]) (NN := [(19, "java/lang/IndexOutOfBoundsException"), (28, "java/lang/IllegalArgumentException"), (74, "java/lang/IllegalStateException")]) (h := 20) (E := "java/lang/IllegalArgumentException") rfl rfl (by decide +kernel) (by decide) (fun _ => ?_))
  simp only [eL_end_20, nl_ref]
  with_reducible refine And.intro ?_ ?_
  omega
  with_reducible refine And.intro ?_ ?_
  omega
  with_reducible exact hW hWc0 hWc1
  simp only [kx_r]
  ((with_reducible refine isHgo ?_); refine hgo_h (HH := [(0, 13, 16, 19), (0, 13, 20, 28), (0, 13, 24, 74)]) (NN := [(19, "java/lang/IndexOutOfBoundsException"), (28, "java/lang/IllegalArgumentException"), (74, "java/lang/IllegalStateException")]) (h := 24) (E := "java/lang/IllegalStateException") rfl rfl (by decide +kernel) (by decide) (fun _ => ?_))
  simp only [eL_end_24, nl_ref]
  with_reducible refine And.intro ?_ ?_
  omega
  with_reducible refine And.intro ?_ ?_
  omega
  with_reducible exact hS hSc0 hSc1 hSc2
  simp only [eL_end_9, eL_end_13, kx_l, tl_s, nf_l, true_and]
  with_reducible refine go_OF hL (fun _ _ hw => ?_)
  with_reducible refine And.intro ?_ ?_
  simp only [List.length_cons, List.length_nil, Nat.zero_add]
  omega
  with_reducible refine And.intro ?_ ?_
  omega
  with_reducible refine And.intro ?_ ?_
  omega
  simp only [List.set_cons_zero]
  with_reducible exact hQ hQc0 hQc1 hQr hQc2 _ (hw _ _) outN.mk
set_option maxHeartbeats 4000000 in
theorem fL_take {a0 a1 a2 : Int32} (hL : LW g w x nA cA lA y nM o kn km th s s2) (hX : ¬ (okC a0 ∧ okN a2) → Q (.inl (some (.int 1))) w) (hW : okC a0 → okN a2 → ¬ okW a1 3 → Q (.inl (some (.int 2))) w) (hS : okC a0 → okN a2 → okW a1 3 → s.2.1 a0.toNatClampNeg = none → Q (.inl (some (.int 3))) w) (hQ : okC a0 → okN a2 → okW a1 3 → ∀ r, s.2.1 a0.toNatClampNeg = some r → ∀ w', LW g w' x nA cA lA y nM o kn km th (sN s (vp_updL s.1 a2.toNatClampNeg (eV r a1))) s2 → outN w' o ((loV (eV r a1)).toInt64) → Q (.inl (some (.int 0))) w') : WP (ML_take g) Q (0, [some (.ref x), some (.int a0), some (.int a1), some (.int a2), some (.ref o), none], [], w, 0, 0) := by
  have ho := hL.2.1
  simp only [eL_take_0, wt_nil, wt_ref, Nat.zero_add, Nat.add_zero]
  with_reducible refine And.intro ?_ ?_
  with_reducible refine LW.gx hL (fun _ => trivial)
  with_reducible refine And.intro ?_ ?_
  omega
  with_reducible refine And.intro ?_ ?_
  omega
  with_reducible refine And.intro ?_ ?_
  omega
  with_reducible refine fX1_take hL.cs (fun hXc0 => ?_) (fun hWc0 hWc1 hWc2 => ?_) (fun hSc0 hSc1 hSc2 hSc3 => ?_) (fun hQc0 hQc1 hQc2 hQr hQc3 hQw hQh => ?_)
  simp only [kx_r]
  ((with_reducible refine isHgo ?_); refine hgo_h (HH := [(0, 13, 16, 19), (0, 13, 20, 28), (0, 13, 24, 74)]) (NN := [(19, "java/lang/IndexOutOfBoundsException"), (28, "java/lang/IllegalArgumentException"), (74, "java/lang/IllegalStateException")]) (h := 16) (E := "java/lang/IndexOutOfBoundsException") rfl rfl (by decide +kernel) (by decide) (fun _ => ?_))
  simp only [eL_take_16, nl_ref]
  with_reducible refine And.intro ?_ ?_
  omega
  with_reducible refine And.intro ?_ ?_
  omega
  with_reducible exact hX hXc0
  simp only [kx_r]
  ((with_reducible refine isHgo ?_); refine hgo_h (HH := [(0, 13, 16, 19), (0, 13, 20, 28), (0, 13, 24, 74)]) (NN := [(19, "java/lang/IndexOutOfBoundsException"), (28, "java/lang/IllegalArgumentException"), (74, "java/lang/IllegalStateException")]) (h := 20) (E := "java/lang/IllegalArgumentException") rfl rfl (by decide +kernel) (by decide) (fun _ => ?_))
  simp only [eL_take_20, nl_ref]
  with_reducible refine And.intro ?_ ?_
  omega
  with_reducible refine And.intro ?_ ?_
  omega
  with_reducible exact hW hWc0 hWc1 hWc2
  simp only [kx_r]
  ((with_reducible refine isHgo ?_); refine hgo_h (HH := [(0, 13, 16, 19), (0, 13, 20, 28), (0, 13, 24, 74)]) (NN := [(19, "java/lang/IndexOutOfBoundsException"), (28, "java/lang/IllegalArgumentException"), (74, "java/lang/IllegalStateException")]) (h := 24) (E := "java/lang/IllegalStateException") rfl rfl (by decide +kernel) (by decide) (fun _ => ?_))
  simp only [eL_take_24, nl_ref]
  with_reducible refine And.intro ?_ ?_
  omega
  with_reducible refine And.intro ?_ ?_
  omega
  with_reducible exact hS hSc0 hSc1 hSc2 hSc3
  simp only [eL_take_9, eL_take_13, kx_l, tl_s, nf_l, true_and]
  with_reducible refine go_OF (LW.of hL hQh (by first | with_reducible exact ho | with_reducible exact ho.num | with_reducible exact ho.rf | with_reducible exact ho.mk (by assumption) | with_reducible exact ho.mk (ho.c' (by assumption) (by assumption)) | with_reducible exact ho.mkO (by assumption) (by assumption) | with_reducible exact ho.card0 | with_reducible exact ho.card (ho.c' (by assumption) (by assumption)) | with_reducible exact ho.card (ho.p' (by assumption)) | with_reducible exact ho.lay (ho.c' (by assumption) (by assumption)) (by assumption) | with_reducible exact ho.gap (by assumption) | with_reducible exact ho.tur | with_reducible exact ho.zero)) (fun _ _ hw => ?_)
  with_reducible refine And.intro ?_ ?_
  simp only [List.length_cons, List.length_nil, Nat.zero_add]
  omega
  with_reducible refine And.intro ?_ ?_
  omega
  with_reducible refine And.intro ?_ ?_
  omega
  simp only [List.set_cons_zero]
  with_reducible exact hQ hQc0 hQc1 hQc2 hQr hQc3 _ (hw _ _) outN.mk
set_option maxHeartbeats 4000000 in
theorem gL_cardText {a0 : Int32} (hR : RG g) (hL : LW g w x nA cA lA y nM o kn km th s s2) (hQ : ∀ (v : Int32) (w' : Hw), LW g w' x nA cA lA y nM o kn km th s s2 → Q (.inl (some (.int v))) w') : WP (ML_cardText g) Q (0, [some (.ref x), some (.int a0), some (.ref o), none], [], w, 0, 0) := by
  simp only [eL_cardText_0, wt_nil, wt_ref, Nat.zero_add, Nat.add_zero]
  with_reducible refine And.intro ?_ ?_
  with_reducible refine LW.gx hL (fun _ => trivial)
  with_reducible refine And.intro ?_ ?_
  omega
  with_reducible refine And.intro ?_ ?_
  omega
  with_reducible refine And.intro ?_ ?_
  omega
  with_reducible refine sX1_cardText hL.cc hR.sg (hR.dg hL.ro) hR.r20 ?_ (fun _ _ _ => ?_)
  simp only [kx_r]
  ((with_reducible refine isHgo ?_); refine hgo_h (HH := [(0, 9, 12, 19)]) (NN := [(19, "java/lang/IndexOutOfBoundsException")]) (h := 12) (E := "java/lang/IndexOutOfBoundsException") rfl rfl (by decide +kernel) (by decide) (fun _ => ?_))
  simp only [eL_cardText_12, nl_ref]
  with_reducible refine And.intro ?_ ?_
  omega
  with_reducible refine And.intro ?_ ?_
  omega
  with_reducible exact hQ _ _ hL
  simp only [eL_cardText_6, eL_cardText_9, kx_l, tl_s, nf_ro, true_and, tyX2]
  with_reducible refine go_OF (by first | assumption | exact hL | exact hL.ext (by assumption)) (fun _ _ hw => ?_)
  with_reducible refine And.intro ?_ ?_
  simp only [List.length_cons, List.length_nil, Nat.zero_add]
  omega
  with_reducible refine And.intro ?_ ?_
  omega
  with_reducible refine And.intro ?_ ?_
  omega
  simp only [List.set_cons_zero, List.set_cons_succ]
  with_reducible exact hQ _ _ (hw _ _)
set_option maxHeartbeats 4000000 in
theorem fL_isValid {a0 a1 : Int32} (hL : LW g w x nA cA lA y nM o kn km th s s2) (hX : ¬ (okC a0 ∧ okN a1) → Q (.inl (some (.int 1))) w) (hS : okC a0 → okN a1 → s.2.1 a0.toNatClampNeg = none → Q (.inl (some (.int 2))) w) (hT : okC a0 → okN a1 → ∀ r, s.2.1 a0.toNatClampNeg = some r → hP r (s.1 a1.toNatClampNeg) → ∀ w', LW g w' x nA cA lA y nM o kn km th s s2 → outN w' o (1) → Q (.inl (some (.int 0))) w') (hF : okC a0 → okN a1 → ∀ r, s.2.1 a0.toNatClampNeg = some r → ¬ (hP r (s.1 a1.toNatClampNeg)) → ∀ w', LW g w' x nA cA lA y nM o kn km th s s2 → outN w' o (0) → Q (.inl (some (.int 0))) w') : WP (ML_isValid g) Q (0, [some (.ref x), some (.int a0), some (.int a1), some (.ref o), none], [], w, 0, 0) := by
  have ho := hL.2.1
  simp only [eL_isValid_0, wt_nil, wt_ref, Nat.zero_add, Nat.add_zero]
  with_reducible refine And.intro ?_ ?_
  with_reducible refine LW.gx hL (fun _ => trivial)
  with_reducible refine And.intro ?_ ?_
  omega
  with_reducible refine And.intro ?_ ?_
  omega
  with_reducible refine And.intro ?_ ?_
  omega
  with_reducible refine fX1_isValid hL.cs (fun hXc0 => ?_) (fun hSc0 hSc1 hSc2 => ?_) (fun hTc0 hTc1 hTr hTc2 hTc3 => ?_) (fun hFc0 hFc1 hFr hFc2 hFc3 => ?_)
  simp only [kx_r]
  ((with_reducible refine isHgo ?_); refine hgo_h (HH := [(0, 18, 21, 19), (0, 18, 25, 74)]) (NN := [(19, "java/lang/IndexOutOfBoundsException"), (74, "java/lang/IllegalStateException")]) (h := 21) (E := "java/lang/IndexOutOfBoundsException") rfl rfl (by decide +kernel) (by decide) (fun _ => ?_))
  simp only [eL_isValid_21, nl_ref]
  with_reducible refine And.intro ?_ ?_
  omega
  with_reducible refine And.intro ?_ ?_
  omega
  with_reducible exact hX hXc0
  simp only [kx_r]
  ((with_reducible refine isHgo ?_); refine hgo_h (HH := [(0, 18, 21, 19), (0, 18, 25, 74)]) (NN := [(19, "java/lang/IndexOutOfBoundsException"), (74, "java/lang/IllegalStateException")]) (h := 25) (E := "java/lang/IllegalStateException") rfl rfl (by decide +kernel) (by decide) (fun _ => ?_))
  simp only [eL_isValid_25, nl_ref]
  with_reducible refine And.intro ?_ ?_
  omega
  with_reducible refine And.intro ?_ ?_
  omega
  with_reducible exact hS hSc0 hSc1 hSc2
  simp only [eL_isValid_7, eL_isValid_10, eL_isValid_14, eL_isValid_15, eL_isValid_18, i10, kx_l, tl_s, nf_l, true_and, if_false]
  with_reducible refine go_OF hL (fun _ _ hw => ?_)
  with_reducible refine And.intro ?_ ?_
  simp only [List.length_cons, List.length_nil, Nat.zero_add]
  omega
  with_reducible refine And.intro ?_ ?_
  omega
  with_reducible refine And.intro ?_ ?_
  omega
  simp only [List.set_cons_zero]
  with_reducible exact hT hTc0 hTc1 hTr hTc2 hTc3 _ (hw _ _) outN.mk
  simp only [eL_isValid_7, eL_isValid_10, eL_isValid_14, eL_isValid_15, eL_isValid_18, kx_l, tl_s, nf_l, true_and, if_true]
  with_reducible refine go_OF hL (fun _ _ hw => ?_)
  with_reducible refine And.intro ?_ ?_
  simp only [List.length_cons, List.length_nil, Nat.zero_add]
  omega
  with_reducible refine And.intro ?_ ?_
  omega
  with_reducible refine And.intro ?_ ?_
  omega
  simp only [List.set_cons_zero]
  with_reducible exact hF hFc0 hFc1 hFr hFc2 hFc3 _ (hw _ _) outN.mk
set_option maxHeartbeats 4000000 in
theorem fL_isValidSmall {a0 a1 : Int32} (hL : LW g w x nA cA lA y nM o kn km th s s2) (hX : ¬ (okC a0 ∧ okN a1) → Q (.inl (some (.int 1))) w) (hS : okC a0 → okN a1 → s.2.1 a0.toNatClampNeg = none → Q (.inl (some (.int 2))) w) (hT : okC a0 → okN a1 → ∀ r, s.2.1 a0.toNatClampNeg = some r → (sP r ∧ hP r (s.1 a1.toNatClampNeg)) → ∀ w', LW g w' x nA cA lA y nM o kn km th s s2 → outN w' o (1) → Q (.inl (some (.int 0))) w') (hF : okC a0 → okN a1 → ∀ r, s.2.1 a0.toNatClampNeg = some r → ¬ ((sP r ∧ hP r (s.1 a1.toNatClampNeg))) → ∀ w', LW g w' x nA cA lA y nM o kn km th s s2 → outN w' o (0) → Q (.inl (some (.int 0))) w') : WP (ML_isValidSmall g) Q (0, [some (.ref x), some (.int a0), some (.int a1), some (.ref o), none], [], w, 0, 0) := by
  have ho := hL.2.1
  simp only [eL_isValidSmall_0, wt_nil, wt_ref, Nat.zero_add, Nat.add_zero]
  with_reducible refine And.intro ?_ ?_
  with_reducible refine LW.gx hL (fun _ => trivial)
  with_reducible refine And.intro ?_ ?_
  omega
  with_reducible refine And.intro ?_ ?_
  omega
  with_reducible refine And.intro ?_ ?_
  omega
  with_reducible refine fX1_isValidSmall hL.cs (fun hXc0 => ?_) (fun hSc0 hSc1 hSc2 => ?_) (fun hTc0 hTc1 hTr hTc2 hTc3 => ?_) (fun hFc0 hFc1 hFr hFc2 hFc3 => ?_)
  simp only [kx_r]
  ((with_reducible refine isHgo ?_); refine hgo_h (HH := [(0, 18, 21, 19), (0, 18, 25, 74)]) (NN := [(19, "java/lang/IndexOutOfBoundsException"), (74, "java/lang/IllegalStateException")]) (h := 21) (E := "java/lang/IndexOutOfBoundsException") rfl rfl (by decide +kernel) (by decide) (fun _ => ?_))
  simp only [eL_isValidSmall_21, nl_ref]
  with_reducible refine And.intro ?_ ?_
  omega
  with_reducible refine And.intro ?_ ?_
  omega
  with_reducible exact hX hXc0
  simp only [kx_r]
  ((with_reducible refine isHgo ?_); refine hgo_h (HH := [(0, 18, 21, 19), (0, 18, 25, 74)]) (NN := [(19, "java/lang/IndexOutOfBoundsException"), (74, "java/lang/IllegalStateException")]) (h := 25) (E := "java/lang/IllegalStateException") rfl rfl (by decide +kernel) (by decide) (fun _ => ?_))
  simp only [eL_isValidSmall_25, nl_ref]
  with_reducible refine And.intro ?_ ?_
  omega
  with_reducible refine And.intro ?_ ?_
  omega
  with_reducible exact hS hSc0 hSc1 hSc2
  simp only [eL_isValidSmall_7, eL_isValidSmall_10, eL_isValidSmall_14, eL_isValidSmall_15, eL_isValidSmall_18, i10, kx_l, tl_s, nf_l, true_and, if_false]
  with_reducible refine go_OF hL (fun _ _ hw => ?_)
  with_reducible refine And.intro ?_ ?_
  simp only [List.length_cons, List.length_nil, Nat.zero_add]
  omega
  with_reducible refine And.intro ?_ ?_
  omega
  with_reducible refine And.intro ?_ ?_
  omega
  simp only [List.set_cons_zero]
  with_reducible exact hT hTc0 hTc1 hTr hTc2 hTc3 _ (hw _ _) outN.mk
  simp only [eL_isValidSmall_7, eL_isValidSmall_10, eL_isValidSmall_14, eL_isValidSmall_15, eL_isValidSmall_18, kx_l, tl_s, nf_l, true_and, if_true]
  with_reducible refine go_OF hL (fun _ _ hw => ?_)
  with_reducible refine And.intro ?_ ?_
  simp only [List.length_cons, List.length_nil, Nat.zero_add]
  omega
  with_reducible refine And.intro ?_ ?_
  omega
  with_reducible refine And.intro ?_ ?_
  omega
  simp only [List.set_cons_zero]
  with_reducible exact hF hFc0 hFc1 hFr hFc2 hFc3 _ (hw _ _) outN.mk
set_option maxHeartbeats 4000000 in
theorem fL_whichValid {a0 a1 : Int32} (hL : LW g w x nA cA lA y nM o kn km th s s2) (hX : ¬ okC a0 → Q (.inl (some (.int 1))) w) (hS : okC a0 → s.2.1 a0.toNatClampNeg = none → Q (.inl (some (.int 2))) w) (hQ : okC a0 → ∀ r, s.2.1 a0.toNatClampNeg = some r → ∀ w', LW g w' x nA cA lA y nM o kn km th s s2 → outN w' o ((wV r a1.toInt64).toInt64) → Q (.inl (some (.int 0))) w') : WP (ML_whichValid g) Q (0, [some (.ref x), some (.int a0), some (.int a1), some (.ref o), none], [], w, 0, 0) := by
  have ho := hL.2.1
  simp only [eL_whichValid_0, wt_nil, wt_ref, Nat.zero_add, Nat.add_zero]
  with_reducible refine And.intro ?_ ?_
  with_reducible refine LW.gx hL (fun _ => trivial)
  with_reducible refine And.intro ?_ ?_
  omega
  with_reducible refine And.intro ?_ ?_
  omega
  with_reducible refine And.intro ?_ ?_
  omega
  with_reducible refine fX1_whichValid hL.cs (fun hXc0 => ?_) (fun hSc0 hSc1 => ?_) (fun hQc0 hQr hQc1 => ?_)
  simp only [kx_r]
  ((with_reducible refine isHgo ?_); refine hgo_h (HH := [(0, 11, 14, 19), (0, 11, 18, 74)]) (NN := [(19, "java/lang/IndexOutOfBoundsException"), (74, "java/lang/IllegalStateException")]) (h := 14) (E := "java/lang/IndexOutOfBoundsException") rfl rfl (by decide +kernel) (by decide) (fun _ => ?_))
  simp only [eL_whichValid_14, nl_ref]
  with_reducible refine And.intro ?_ ?_
  omega
  with_reducible refine And.intro ?_ ?_
  omega
  with_reducible exact hX hXc0
  simp only [kx_r]
  ((with_reducible refine isHgo ?_); refine hgo_h (HH := [(0, 11, 14, 19), (0, 11, 18, 74)]) (NN := [(19, "java/lang/IndexOutOfBoundsException"), (74, "java/lang/IllegalStateException")]) (h := 18) (E := "java/lang/IllegalStateException") rfl rfl (by decide +kernel) (by decide) (fun _ => ?_))
  simp only [eL_whichValid_18, nl_ref]
  with_reducible refine And.intro ?_ ?_
  omega
  with_reducible refine And.intro ?_ ?_
  omega
  with_reducible exact hS hSc0 hSc1
  simp only [eL_whichValid_7, eL_whichValid_11, kx_l, tl_s, nf_l, true_and]
  with_reducible refine go_OF hL (fun _ _ hw => ?_)
  with_reducible refine And.intro ?_ ?_
  simp only [List.length_cons, List.length_nil, Nat.zero_add]
  omega
  with_reducible refine And.intro ?_ ?_
  omega
  with_reducible refine And.intro ?_ ?_
  omega
  simp only [List.set_cons_zero]
  with_reducible exact hQ hQc0 hQr hQc1 _ (hw _ _) outN.mk
set_option maxHeartbeats 4000000 in
theorem fL_around {a0 a1 a2 : Int32} (hL : LW g w x nA cA lA y nM o kn km th s s2) (hX : ¬ okC a0 → Q (.inl (some (.int 1))) w) (hW : okC a0 → ¬ okW a1 3 → Q (.inl (some (.int 2))) w) (hS : okC a0 → okW a1 3 → s.2.1 a0.toNatClampNeg = none → Q (.inl (some (.int 3))) w) (hQ : okC a0 → okW a1 3 → ∀ r, s.2.1 a0.toNatClampNeg = some r → ∀ w', LW g w' x nA cA lA y nM o kn km th s s2 → outN w' o ((nV r (eV r a1) a2).toInt64) → Q (.inl (some (.int 0))) w') : WP (ML_around g) Q (0, [some (.ref x), some (.int a0), some (.int a1), some (.int a2), some (.ref o), none], [], w, 0, 0) := by
  have ho := hL.2.1
  simp only [eL_around_0, wt_nil, wt_ref, Nat.zero_add, Nat.add_zero]
  with_reducible refine And.intro ?_ ?_
  with_reducible refine LW.gx hL (fun _ => trivial)
  with_reducible refine And.intro ?_ ?_
  omega
  with_reducible refine And.intro ?_ ?_
  omega
  with_reducible refine And.intro ?_ ?_
  omega
  with_reducible refine fX1_around hL.cs (fun hXc0 => ?_) (fun hWc0 hWc1 => ?_) (fun hSc0 hSc1 hSc2 => ?_) (fun hQc0 hQc1 hQr hQc2 => ?_)
  simp only [kx_r]
  ((with_reducible refine isHgo ?_); refine hgo_h (HH := [(0, 13, 16, 19), (0, 13, 20, 28), (0, 13, 24, 74)]) (NN := [(19, "java/lang/IndexOutOfBoundsException"), (28, "java/lang/IllegalArgumentException"), (74, "java/lang/IllegalStateException")]) (h := 16) (E := "java/lang/IndexOutOfBoundsException") rfl rfl (by decide +kernel) (by decide) (fun _ => ?_))
  simp only [eL_around_16, nl_ref]
  with_reducible refine And.intro ?_ ?_
  omega
  with_reducible refine And.intro ?_ ?_
  omega
  with_reducible exact hX hXc0
  simp only [kx_r]
  ((with_reducible refine isHgo ?_); refine hgo_h (HH := [(0, 13, 16, 19), (0, 13, 20, 28), (0, 13, 24, 74)]) (NN := [(19, "java/lang/IndexOutOfBoundsException"), (28, "java/lang/IllegalArgumentException"), (74, "java/lang/IllegalStateException")]) (h := 20) (E := "java/lang/IllegalArgumentException") rfl rfl (by decide +kernel) (by decide) (fun _ => ?_))
  simp only [eL_around_20, nl_ref]
  with_reducible refine And.intro ?_ ?_
  omega
  with_reducible refine And.intro ?_ ?_
  omega
  with_reducible exact hW hWc0 hWc1
  simp only [kx_r]
  ((with_reducible refine isHgo ?_); refine hgo_h (HH := [(0, 13, 16, 19), (0, 13, 20, 28), (0, 13, 24, 74)]) (NN := [(19, "java/lang/IndexOutOfBoundsException"), (28, "java/lang/IllegalArgumentException"), (74, "java/lang/IllegalStateException")]) (h := 24) (E := "java/lang/IllegalStateException") rfl rfl (by decide +kernel) (by decide) (fun _ => ?_))
  simp only [eL_around_24, nl_ref]
  with_reducible refine And.intro ?_ ?_
  omega
  with_reducible refine And.intro ?_ ?_
  omega
  with_reducible exact hS hSc0 hSc1 hSc2
  simp only [eL_around_9, eL_around_13, kx_l, tl_s, nf_l, true_and]
  with_reducible refine go_OF hL (fun _ _ hw => ?_)
  with_reducible refine And.intro ?_ ?_
  simp only [List.length_cons, List.length_nil, Nat.zero_add]
  omega
  with_reducible refine And.intro ?_ ?_
  omega
  with_reducible refine And.intro ?_ ?_
  omega
  simp only [List.set_cons_zero]
  with_reducible exact hQ hQc0 hQc1 hQr hQc2 _ (hw _ _) outN.mk
set_option maxHeartbeats 4000000 in
theorem gL_count {a0 a1 a2 : Int32} (hR : RG g) (hL : LW g w x nA cA lA y nM o kn km th s s2) (hQ : ∀ (v : Int32) (w' : Hw), LW g w' x nA cA lA y nM o kn km th s s2 → Q (.inl (some (.int v))) w') : WP (ML_count g) Q (0, [some (.ref x), some (.int a0), some (.int a1), some (.int a2), some (.ref o), none], [], w, 0, 0) := by
  simp only [eL_count_0, wt_nil, wt_ref, Nat.zero_add, Nat.add_zero]
  with_reducible refine And.intro ?_ ?_
  with_reducible refine LW.gx hL (fun _ => trivial)
  with_reducible refine And.intro ?_ ?_
  omega
  with_reducible refine And.intro ?_ ?_
  omega
  with_reducible refine And.intro ?_ ?_
  omega
  with_reducible refine sX1_count hL.cc ?_ ?_ ?_ (fun _ => ?_)
  simp only [kx_r]
  ((with_reducible refine isHgo ?_); refine hgo_h (HH := [(0, 13, 16, 19), (0, 13, 20, 28), (0, 13, 24, 74)]) (NN := [(19, "java/lang/IndexOutOfBoundsException"), (28, "java/lang/IllegalArgumentException"), (74, "java/lang/IllegalStateException")]) (h := 16) (E := "java/lang/IndexOutOfBoundsException") rfl rfl (by decide +kernel) (by decide) (fun _ => ?_))
  simp only [eL_count_16, nl_ref]
  with_reducible refine And.intro ?_ ?_
  omega
  with_reducible refine And.intro ?_ ?_
  omega
  with_reducible exact hQ _ _ hL
  simp only [kx_r]
  ((with_reducible refine isHgo ?_); refine hgo_h (HH := [(0, 13, 16, 19), (0, 13, 20, 28), (0, 13, 24, 74)]) (NN := [(19, "java/lang/IndexOutOfBoundsException"), (28, "java/lang/IllegalArgumentException"), (74, "java/lang/IllegalStateException")]) (h := 20) (E := "java/lang/IllegalArgumentException") rfl rfl (by decide +kernel) (by decide) (fun _ => ?_))
  simp only [eL_count_20, nl_ref]
  with_reducible refine And.intro ?_ ?_
  omega
  with_reducible refine And.intro ?_ ?_
  omega
  with_reducible exact hQ _ _ hL
  simp only [kx_r]
  ((with_reducible refine isHgo ?_); refine hgo_h (HH := [(0, 13, 16, 19), (0, 13, 20, 28), (0, 13, 24, 74)]) (NN := [(19, "java/lang/IndexOutOfBoundsException"), (28, "java/lang/IllegalArgumentException"), (74, "java/lang/IllegalStateException")]) (h := 24) (E := "java/lang/IllegalStateException") rfl rfl (by decide +kernel) (by decide) (fun _ => ?_))
  simp only [eL_count_24, nl_ref]
  with_reducible refine And.intro ?_ ?_
  omega
  with_reducible refine And.intro ?_ ?_
  omega
  with_reducible exact hQ _ _ hL
  simp only [eL_count_9, eL_count_13, kx_l, tl_s, nf_l, true_and]
  with_reducible refine go_OF (by first | assumption | exact hL | exact hL.ext (by assumption)) (fun _ _ hw => ?_)
  with_reducible refine And.intro ?_ ?_
  simp only [List.length_cons, List.length_nil, Nat.zero_add]
  omega
  with_reducible refine And.intro ?_ ?_
  omega
  with_reducible refine And.intro ?_ ?_
  omega
  simp only [List.set_cons_zero]
  with_reducible exact hQ _ _ (hw _ _)
set_option maxHeartbeats 4000000 in
theorem gL_who {a0 a1 : Int32} (hR : RG g) (hL : LW g w x nA cA lA y nM o kn km th s s2) (hQ : ∀ (v : Int32) (w' : Hw), LW g w' x nA cA lA y nM o kn km th s s2 → Q (.inl (some (.int v))) w') : WP (ML_who g) Q (0, [some (.ref x), some (.int a0), some (.int a1), some (.ref o), none], [], w, 0, 0) := by
  simp only [eL_who_0, wt_nil, wt_ref, Nat.zero_add, Nat.add_zero]
  with_reducible refine And.intro ?_ ?_
  with_reducible refine LW.gx hL (fun _ => trivial)
  with_reducible refine And.intro ?_ ?_
  omega
  with_reducible refine And.intro ?_ ?_
  omega
  with_reducible refine And.intro ?_ ?_
  omega
  with_reducible refine sX1_who hL.cc ?_ ?_ (fun _ => ?_)
  simp only [kx_r]
  ((with_reducible refine isHgo ?_); refine hgo_h (HH := [(0, 11, 14, 19), (0, 11, 18, 28)]) (NN := [(19, "java/lang/IndexOutOfBoundsException"), (28, "java/lang/IllegalArgumentException")]) (h := 14) (E := "java/lang/IndexOutOfBoundsException") rfl rfl (by decide +kernel) (by decide) (fun _ => ?_))
  simp only [eL_who_14, nl_ref]
  with_reducible refine And.intro ?_ ?_
  omega
  with_reducible refine And.intro ?_ ?_
  omega
  with_reducible exact hQ _ _ hL
  simp only [kx_r]
  ((with_reducible refine isHgo ?_); refine hgo_h (HH := [(0, 11, 14, 19), (0, 11, 18, 28)]) (NN := [(19, "java/lang/IndexOutOfBoundsException"), (28, "java/lang/IllegalArgumentException")]) (h := 18) (E := "java/lang/IllegalArgumentException") rfl rfl (by decide +kernel) (by decide) (fun _ => ?_))
  simp only [eL_who_18, nl_ref]
  with_reducible refine And.intro ?_ ?_
  omega
  with_reducible refine And.intro ?_ ?_
  omega
  with_reducible exact hQ _ _ hL
  simp only [eL_who_7, eL_who_11, kx_l, tl_s, nf_l, true_and]
  with_reducible refine go_OF (by first | assumption | exact hL | exact hL.ext (by assumption)) (fun _ _ hw => ?_)
  with_reducible refine And.intro ?_ ?_
  simp only [List.length_cons, List.length_nil, Nat.zero_add]
  omega
  with_reducible refine And.intro ?_ ?_
  omega
  with_reducible refine And.intro ?_ ?_
  omega
  simp only [List.set_cons_zero]
  with_reducible exact hQ _ _ (hw _ _)
end
end
