section
section
variable {g : RO} {Q : Ot → Hw → Prop} {w0 w : Hw} {y nM : Nat} {kd th : Int32} {s : AS}
def smF (r : R4) (j : Nat) : Int32 := bI (decide (-2147483648 ≤ (rV r j).toInt ∧ (rV r j).toInt ≤ 2147483647))
theorem smT {r : R4} {j : Nat} (h : -2147483648 ≤ (rV r j).toInt ∧ (rV r j).toInt ≤ 2147483647) : fsum (smF r) j + 1 = fsum (smF r) (j + 1) := by
  show _ = fsum (smF r) j + smF r j
  unfold smF
  rw [decide_eq_true h]
  rfl
theorem smN {r : R4} {j : Nat} (h : ¬ (-2147483648 ≤ (rV r j).toInt ∧ (rV r j).toInt ≤ 2147483647)) : fsum (smF r) j + 0 = fsum (smF r) (j + 1) := by
  show _ = fsum (smF r) j + smF r j
  unfold smF
  rw [decide_eq_false h]
  rfl
theorem fsum_cg {f f' : Nat → Int32} : ∀ {N : Nat}, (∀ j, j < N → f j = f' j) → fsum f N = fsum f' N
  | 0, _ => rfl
  | N + 1, h => by
    show fsum f N + f N = fsum f' N + f' N
    rw [fsum_cg (fun j hj => h j (by omega)), h N (by omega)]
theorem smE {r : R4} : fsum (smF r) 4 = seV r := fsum_cg (fun j hj => by
  show bI (decide (-2147483648 ≤ (rV r j).toInt ∧ (rV r j).toInt ≤ 2147483647)) = _
  rw [rvj hj])
theorem oEta {r : R4} (h : rOk r) (hno : ¬ oP r.1 r.2.1 r.2.2.1 r.2.2.2) : False := hno h
set_option maxHeartbeats 4000000 in
theorem flX3_again_37 {a c : Int32} {b : Nat} {r : R4} (hM : MS g w0 y nM kd th s w) (hb : rowA w b r) (k : okC a) (ho : rOk r) (hQ : ∀ w', MS g w0 y nM kd th (sMk s a.toNatClampNeg r) w' → Q (.inl (some (.int (seV r)))) w') : ∀ (d j : Nat) (i8 : Option Value) (i9 : Option Value) (kz mz : Nat), j + d = 4 → kz ≤ 0 → mz ≤ 0 → WP (MX3_again g) Q (37, [some (.ref y), some (.int a), some (.int c), some (.ref b), some (.int (fsum (smF r) j)), some (.ref b), some (.int 4), some (.int (Int32.ofNat j)), i8, i9], [], w, kz, mz) := by
  intro d
  induction d with
  | zero =>
    intro j i8 i9 kz mz hjd hkz hmz
    have h9 : j < 1000 := (by omega)
    have hlt : ¬ Int32.ofNat j < 4 := oNg (B := 4) h9 rfl (by omega)
    have hnn := oN0 h9
    have hcl := oNc h9
    obtain rfl : j = 4 := by omega
    rw [eX3_again_37]
    simp only [eX3_again_39, eX3_again_44, eX3_again_49, eX3_again_62, eX3_again_71, eX3_again_75, eX3_again_76, eX3_again_88, eX3_again_93, eX3_again_96, eX3_again_99, eX3_again_102, lgp, lgn, if_false, lmi, lmx, hlt, hcl, ite_le, wt_nil, wt_int, nl_int, Nat.add_zero]
    with_reducible refine gl_A hb ?_
    with_reducible refine And.intro ?_ ?_
    with_reducible exact vpi4.1
    (simp only [rv0, rv1, rv2, rv3])
    with_reducible refine gl_A hb ?_
    with_reducible refine And.intro ?_ ?_
    with_reducible exact vpi4.2.1
    (simp only [rv0, rv1, rv2, rv3])
    with_reducible refine gl_A hb ?_
    with_reducible refine And.intro ?_ ?_
    with_reducible exact vpi4.2.2.1
    (simp only [rv0, rv1, rv2, rv3])
    with_reducible refine gl_A hb ?_
    with_reducible refine And.intro ?_ ?_
    with_reducible exact vpi4.2.2.2
    with_reducible refine And.intro ?_ ?_
    with_reducible refine go_S hM (fun _ _ hY => ?_)
    with_reducible exact trivial
    with_reducible refine And.intro ?_ ?_
    omega
    with_reducible refine And.intro ?_ ?_
    omega
    with_reducible refine And.intro ?_ ?_
    omega
    (simp only [rv0, rv1, rv2, rv3])
    with_reducible refine fX3_make hM k (fun hyes w3 h3 => ?_) (fun hno w3 h3 => ?_)
    simp only [eX3_again_105, kx_l, tl_s]
    with_reducible refine And.intro ?_ ?_
    omega
    with_reducible refine And.intro ?_ ?_
    omega
    (rw [smE]; exact hQ _ h3)
    with_reducible exact (oEta ho hno).elim
  | succ d ih =>
    intro j i8 i9 kz mz hjd hkz hmz
    have h9 : j < 1000 := (by omega)
    have hlt : Int32.ofNat j < 4 := oNl (B := 4) h9 rfl (by omega)
    have hjN : j < 4 := by omega
    have hnn := oN0 h9
    have hcl := oNc h9
    rw [eX3_again_37]
    simp only [eX3_again_39, eX3_again_44, eX3_again_49, eX3_again_62, eX3_again_71, eX3_again_75, eX3_again_76, eX3_again_88, eX3_again_93, eX3_again_96, eX3_again_99, eX3_again_102, lgp, lgn, if_true, lmi, lmx, hlt, hcl, ite_le, wt_nil, wt_int, nl_int, Nat.add_zero]
    with_reducible refine gl_A hb ?_
    with_reducible refine And.intro ?_ ?_
    with_reducible exact vpi4j (by omega)
    with_reducible refine itx (fun _ => ?_) (fun _ => ?_)
    with_reducible refine And.intro ?_ ?_
    omega
    with_reducible refine And.intro ?_ ?_
    omega
    with_reducible refine And.intro ?_ ?_
    omega
    with_reducible refine fX3_one (Or.inl rfl) ?_
    simp only [eX3_again_79, kx_l, nl_int, nl_ref, tl_s]
    (rw [oN1, smN (r := r) (j := j) (by omega)]; exact ih (j + 1) _ _ _ _ (by omega) (by first | assumption | omega) (by first | assumption | omega))
    with_reducible refine itx (fun _ => ?_) (fun _ => ?_)
    with_reducible refine And.intro ?_ ?_
    omega
    with_reducible refine And.intro ?_ ?_
    omega
    with_reducible refine And.intro ?_ ?_
    omega
    with_reducible refine fX3_one (Or.inl rfl) ?_
    simp only [eX3_again_79, kx_l, nl_int, nl_ref, tl_s]
    (rw [oN1, smN (r := r) (j := j) (by omega)]; exact ih (j + 1) _ _ _ _ (by omega) (by first | assumption | omega) (by first | assumption | omega))
    with_reducible refine And.intro ?_ ?_
    omega
    with_reducible refine And.intro ?_ ?_
    omega
    with_reducible refine And.intro ?_ ?_
    omega
    with_reducible refine fX3_one (Or.inr rfl) ?_
    simp only [eX3_again_79, kx_l, nl_int, nl_ref, tl_s]
    (rw [oN1, smT (r := r) (j := j) (by omega)]; exact ih (j + 1) _ _ _ _ (by omega) (by first | assumption | omega) (by first | assumption | omega))
theorem al_A {b : Nat} {r : R4} {K : vp_A → Prop} (h : rowA w b r) (k : K (4, .inr (.inl (rV r)))) : ∃ t z, rd g w b = some (.inl (t, z)) ∧ t < 6 ∧ K z := ⟨0, _, rd_e h, by decide, k⟩
set_option maxHeartbeats 4000000 in
theorem fX3_again {a0 a1 : Int32} (hM : MS g w0 y nM kd th s w) (ho : sOk s) (hX : ¬ (okC a0 ∧ okC a1) → ∀ w', MS g w0 y nM kd 1 s w' → Q (.inl (some (.int 0))) w') (hS : okC a0 → okC a1 → s.2.1 a1.toNatClampNeg = none → ∀ w', MS g w0 y nM kd 2 s w' → Q (.inl (some (.int 0))) w') (hQ : okC a0 → okC a1 → ∀ r, s.2.1 a1.toNatClampNeg = some r → ∀ w', MS g w0 y nM kd 0 (sMk s a0.toNatClampNeg r) w' → Q (.inl (some (.int (seV r)))) w') : WP (MX3_again g) Q (0, [some (.ref y), some (.int a0), some (.int a1), none, none, none, none, none, none, none], [], w, 0, 0) := by
  simp only [eX3_again_0, wt_nil, Nat.add_zero]
  with_reducible refine And.intro ?_ ?_
  with_reducible refine go_S (by assumption) (fun _ _ hY => ?_)
  with_reducible exact trivial
  with_reducible refine And.intro ?_ ?_
  omega
  with_reducible refine And.intro ?_ ?_
  omega
  with_reducible refine And.intro ?_ ?_
  omega
  with_reducible refine fX3_isNoPair (by assumption) (fun _ w1 h1 => ?_) (fun _ _ _ w1 h1 => ?_) (fun ka kc r e1 w1 h1 => ?_)
  simp only [eX3_again_6, eX3_again_9, eX3_again_11, eX3_again_15, i10, if_false, kx_l, tl_s]
  with_reducible refine And.intro ?_ ?_
  omega
  with_reducible refine And.intro ?_ ?_
  omega
  with_reducible exact hX (by assumption) _ (by assumption)
  simp only [eX3_again_6, eX3_again_9, eX3_again_11, eX3_again_15, i10, if_false, kx_l, tl_s]
  with_reducible refine And.intro ?_ ?_
  omega
  with_reducible refine And.intro ?_ ?_
  omega
  with_reducible exact hS (by assumption) (by assumption) (by assumption) _ (by assumption)
  simp only [eX3_again_6, eX3_again_9, eX3_again_11, eX3_again_15, if_true, kx_l, tl_s]
  with_reducible refine go_S (by assumption) (fun _ _ hY => ?_)
  simp only [eX3_again_16, wt_nil, g0, gS, ex1, Nat.add_zero]
  with_reducible refine And.intro ?_ ?_
  with_reducible exact MS.gC (by assumption) (by assumption)
  with_reducible refine And.intro ?_ ?_
  omega
  with_reducible refine And.intro ?_ ?_
  omega
  with_reducible refine And.intro ?_ ?_
  omega
  with_reducible refine sGetK (by assumption) (by assumption) (by assumption) (by assumption) (fun _ hb => ?_)
  simp only [eX3_again_19R, eX3_again_22, eX3_again_26, eX3_again_32, kx_l, nl_int, nl_ref, tl_s]
  with_reducible refine And.intro ?_ ?_
  with_reducible exact rowA.ca (by assumption)
  with_reducible refine al_A (by assumption) ?_
  (simp only [rv0, rv1, rv2, rv3])
  ((with_reducible refine isWP (pc := 37) ?_); exact flX3_again_37 h1 hb ka (ho.c kc e1) (fun w3 h3 => hQ ka kc r e1 w3 h3) 4 0 _ _ _ _ rfl (by decide) (by decide))
set_option maxHeartbeats 4000000 in
theorem fX3_outer {a0 a1 : Int32} (hM : MS g w0 y nM kd th s w) (ho : sOk s) (hX : ¬ (okC a0 ∧ okC a1) → ∀ w', MS g w0 y nM kd 1 s w' → Q (.inl (some (.int 0))) w') (hS : okC a0 → okC a1 → s.2.1 a1.toNatClampNeg = none → ∀ w', MS g w0 y nM kd 2 s w' → Q (.inl (some (.int 0))) w') (hT : okC a0 → okC a1 → ∀ r, s.2.1 a1.toNatClampNeg = some r → fP r → ∀ w', MS g w0 y nM kd 0 (sMk s a0.toNatClampNeg (r.1, r.1, r.2.2.2, r.2.2.2)) w' → Q (.inl (some (.int 1))) w') (hF : okC a0 → okC a1 → ∀ r, s.2.1 a1.toNatClampNeg = some r → ¬ fP r → ∀ w', MS g w0 y nM kd 0 (sMk s a0.toNatClampNeg (r.1, r.1, r.2.2.2, r.2.2.2)) w' → Q (.inl (some (.int 0))) w') : WP (MX3_outer g) Q (0, [some (.ref y), some (.int a0), some (.int a1), none], [], w, 0, 0) := by
  simp only [eX3_outer_0, wt_nil, Nat.add_zero]
  with_reducible refine And.intro ?_ ?_
  with_reducible refine go_S (by assumption) (fun _ _ hY => ?_)
  with_reducible exact trivial
  with_reducible refine And.intro ?_ ?_
  omega
  with_reducible refine And.intro ?_ ?_
  omega
  with_reducible refine And.intro ?_ ?_
  omega
  with_reducible refine fX3_isNoPair (by assumption) (fun _ w1 h1 => ?_) (fun _ _ _ w1 h1 => ?_) (fun ka kc r e1 w1 h1 => ?_)
  simp only [eX3_outer_6, eX3_outer_9, eX3_outer_11, eX3_outer_15, i10, if_false, kx_l, tl_s]
  with_reducible refine And.intro ?_ ?_
  omega
  with_reducible refine And.intro ?_ ?_
  omega
  with_reducible exact hX (by assumption) _ (by assumption)
  simp only [eX3_outer_6, eX3_outer_9, eX3_outer_11, eX3_outer_15, i10, if_false, kx_l, tl_s]
  with_reducible refine And.intro ?_ ?_
  omega
  with_reducible refine And.intro ?_ ?_
  omega
  with_reducible exact hS (by assumption) (by assumption) (by assumption) _ (by assumption)
  simp only [eX3_outer_6, eX3_outer_9, eX3_outer_11, eX3_outer_15, if_true, kx_l, tl_s]
  with_reducible refine go_S (by assumption) (fun _ _ hY => ?_)
  simp only [eX3_outer_16, wt_nil, g0, gS, ex1, Nat.add_zero]
  with_reducible refine And.intro ?_ ?_
  with_reducible exact MS.gC (by assumption) (by assumption)
  with_reducible refine And.intro ?_ ?_
  omega
  with_reducible refine And.intro ?_ ?_
  omega
  with_reducible refine And.intro ?_ ?_
  omega
  with_reducible refine sGetK (by assumption) (by assumption) (by assumption) (by assumption) (fun _ hb => ?_)
  simp only [eX3_outer_19R, eX3_outer_22, eX3_outer_28, eX3_outer_31, eX3_outer_34, eX3_outer_37, kx_l, wt_nil, nl_int, tl_s, Nat.zero_add]
  with_reducible refine And.intro ?_ ?_
  with_reducible exact rowA.ca (by assumption)
  with_reducible refine gl_A (by assumption) ?_
  with_reducible refine And.intro ?_ ?_
  with_reducible exact vpi4.1
  (simp only [rv0, rv1, rv2, rv3])
  with_reducible refine gl_A (by assumption) ?_
  with_reducible refine And.intro ?_ ?_
  with_reducible exact vpi4.1
  (simp only [rv0, rv1, rv2, rv3])
  with_reducible refine gl_A (by assumption) ?_
  with_reducible refine And.intro ?_ ?_
  with_reducible exact vpi4.2.2.2
  (simp only [rv0, rv1, rv2, rv3])
  with_reducible refine gl_A (by assumption) ?_
  with_reducible refine And.intro ?_ ?_
  with_reducible exact vpi4.2.2.2
  with_reducible refine And.intro ?_ ?_
  with_reducible refine go_S (by assumption) (fun _ _ hY => ?_)
  with_reducible exact trivial
  with_reducible refine And.intro ?_ ?_
  omega
  with_reducible refine And.intro ?_ ?_
  omega
  with_reducible refine And.intro ?_ ?_
  omega
  (simp only [rv0, rv1, rv2, rv3])
  with_reducible refine fX3_makeR (by assumption) (by assumption) (fun hyes w3 h3 z3 => ?_) (fun hno w3 h3 => ?_)
  simp only [eX3_outer_40, kx_l, wt_nil, tl_s, Nat.add_zero]
  with_reducible refine And.intro ?_ ?_
  omega
  with_reducible refine And.intro ?_ ?_
  omega
  with_reducible refine And.intro ?_ ?_
  omega
  with_reducible refine fX3_fixed (MS.rA h1 z3 hb) (fun hm => ?_) (fun hm => ?_)
  simp only [eX3_outer_45, kx_l, wt_nil, tl_s, Nat.add_zero]
  with_reducible refine And.intro ?_ ?_
  omega
  with_reducible refine And.intro ?_ ?_
  omega
  with_reducible refine And.intro ?_ ?_
  omega
  with_reducible refine fX3_one (Or.inr rfl) ?_
  simp only [eX3_outer_48, kx_l, tl_s]
  with_reducible refine And.intro ?_ ?_
  omega
  with_reducible refine And.intro ?_ ?_
  omega
  with_reducible exact hT ka kc r e1 hm _ h3
  simp only [eX3_outer_45, kx_l, wt_nil, tl_s, Nat.add_zero]
  with_reducible refine And.intro ?_ ?_
  omega
  with_reducible refine And.intro ?_ ?_
  omega
  with_reducible refine And.intro ?_ ?_
  omega
  with_reducible refine fX3_one (Or.inl rfl) ?_
  simp only [eX3_outer_48, kx_l, tl_s]
  with_reducible refine And.intro ?_ ?_
  omega
  with_reducible refine And.intro ?_ ?_
  omega
  with_reducible exact hF ka kc r e1 hm _ h3
  with_reducible exact absurd (oOut (ho.c kc e1)) hno
set_option maxHeartbeats 4000000 in
theorem fX3_inner {a0 a1 : Int32} (hM : MS g w0 y nM kd th s w) (hX : ¬ (okC a0 ∧ okC a1) → ∀ w', MS g w0 y nM kd 1 s w' → Q (.inl (some (.int 0))) w') (hS : okC a0 → okC a1 → s.2.1 a1.toNatClampNeg = none → ∀ w', MS g w0 y nM kd 2 s w' → Q (.inl (some (.int 0))) w') (hT : okC a0 → okC a1 → ∀ r, s.2.1 a1.toNatClampNeg = some r → oP r.2.1 r.2.1 r.2.2.1 r.2.2.1 → ∀ w', MS g w0 y nM kd 0 (sMk s a0.toNatClampNeg (r.2.1, r.2.1, r.2.2.1, r.2.2.1)) w' → Q (.inl (some (.int 1))) w') (hF : okC a0 → okC a1 → ∀ r, s.2.1 a1.toNatClampNeg = some r → ¬ oP r.2.1 r.2.1 r.2.2.1 r.2.2.1 → ∀ w', MS g w0 y nM kd 0 (sRf s) w' → Q (.inl (some (.int (-9)))) w') : WP (MX3_inner g) Q (0, [some (.ref y), some (.int a0), some (.int a1), none], [], w, 0, 0) := by
  simp only [eX3_inner_0, wt_nil, Nat.add_zero]
  with_reducible refine And.intro ?_ ?_
  with_reducible refine go_S (by assumption) (fun _ _ hY => ?_)
  with_reducible exact trivial
  with_reducible refine And.intro ?_ ?_
  omega
  with_reducible refine And.intro ?_ ?_
  omega
  with_reducible refine And.intro ?_ ?_
  omega
  with_reducible refine fX3_isNoPair (by assumption) (fun _ w1 h1 => ?_) (fun _ _ _ w1 h1 => ?_) (fun ka kc r e1 w1 h1 => ?_)
  simp only [eX3_inner_6, eX3_inner_9, eX3_inner_11, eX3_inner_15, i10, if_false, kx_l, tl_s]
  with_reducible refine And.intro ?_ ?_
  omega
  with_reducible refine And.intro ?_ ?_
  omega
  with_reducible exact hX (by assumption) _ (by assumption)
  simp only [eX3_inner_6, eX3_inner_9, eX3_inner_11, eX3_inner_15, i10, if_false, kx_l, tl_s]
  with_reducible refine And.intro ?_ ?_
  omega
  with_reducible refine And.intro ?_ ?_
  omega
  with_reducible exact hS (by assumption) (by assumption) (by assumption) _ (by assumption)
  simp only [eX3_inner_6, eX3_inner_9, eX3_inner_11, eX3_inner_15, if_true, kx_l, tl_s]
  with_reducible refine go_S (by assumption) (fun _ _ hY => ?_)
  simp only [eX3_inner_16, wt_nil, g0, gS, ex1, Nat.add_zero]
  with_reducible refine And.intro ?_ ?_
  with_reducible exact MS.gC (by assumption) (by assumption)
  with_reducible refine And.intro ?_ ?_
  omega
  with_reducible refine And.intro ?_ ?_
  omega
  with_reducible refine And.intro ?_ ?_
  omega
  with_reducible refine sGetK (by assumption) (by assumption) (by assumption) (by assumption) (fun _ hb => ?_)
  simp only [eX3_inner_19R, eX3_inner_22, eX3_inner_28, eX3_inner_31, eX3_inner_34, eX3_inner_37, kx_l, wt_nil, nl_int, tl_s, Nat.zero_add]
  with_reducible refine And.intro ?_ ?_
  with_reducible exact rowA.ca (by assumption)
  with_reducible refine gl_A (by assumption) ?_
  with_reducible refine And.intro ?_ ?_
  with_reducible exact vpi4.2.1
  (simp only [rv0, rv1, rv2, rv3])
  with_reducible refine gl_A (by assumption) ?_
  with_reducible refine And.intro ?_ ?_
  with_reducible exact vpi4.2.1
  (simp only [rv0, rv1, rv2, rv3])
  with_reducible refine gl_A (by assumption) ?_
  with_reducible refine And.intro ?_ ?_
  with_reducible exact vpi4.2.2.1
  (simp only [rv0, rv1, rv2, rv3])
  with_reducible refine gl_A (by assumption) ?_
  with_reducible refine And.intro ?_ ?_
  with_reducible exact vpi4.2.2.1
  with_reducible refine And.intro ?_ ?_
  with_reducible refine go_S (by assumption) (fun _ _ hY => ?_)
  with_reducible exact trivial
  with_reducible refine And.intro ?_ ?_
  omega
  with_reducible refine And.intro ?_ ?_
  omega
  with_reducible refine And.intro ?_ ?_
  omega
  (simp only [rv0, rv1, rv2, rv3])
  with_reducible refine fX3_make (by assumption) (by assumption) (fun hyes w3 h3 => ?_) (fun hno w3 h3 => ?_)
  simp only [eX3_inner_40, kx_l, tl_s]
  with_reducible refine And.intro ?_ ?_
  omega
  with_reducible refine And.intro ?_ ?_
  omega
  with_reducible exact hT ka kc r e1 hyes _ h3
  simp only [eX3_inner_40, kx_l, tl_s]
  with_reducible refine And.intro ?_ ?_
  omega
  with_reducible refine And.intro ?_ ?_
  omega
  with_reducible exact hF ka kc r e1 hno _ h3
set_option maxHeartbeats 4000000 in
theorem fX3_shift {a0 a1 : Int32} (hM : MS g w0 y nM kd th s w) (hX : ¬ (okC a0) → ∀ w', MS g w0 y nM kd 1 s w' → Q (.inl (some (.int 0))) w') (hS : okC a0 → s.2.1 a0.toNatClampNeg = none → ∀ w', MS g w0 y nM kd 2 s w' → Q (.inl (some (.int 0))) w') (hT : okC a0 → ∀ r, s.2.1 a0.toNatClampNeg = some r → oP (r.1 + a1.toInt64) (r.2.1 + a1.toInt64) (r.2.2.1 + a1.toInt64) (r.2.2.2 + a1.toInt64) → ∀ w', MS g w0 y nM kd 0 (sMk s a0.toNatClampNeg (r.1 + a1.toInt64, r.2.1 + a1.toInt64, r.2.2.1 + a1.toInt64, r.2.2.2 + a1.toInt64)) w' → Q (.inl (some (.int 1))) w') (hF : okC a0 → ∀ r, s.2.1 a0.toNatClampNeg = some r → ¬ oP (r.1 + a1.toInt64) (r.2.1 + a1.toInt64) (r.2.2.1 + a1.toInt64) (r.2.2.2 + a1.toInt64) → ∀ w', MS g w0 y nM kd 0 (sRf s) w' → Q (.inl (some (.int (-9)))) w') : WP (MX3_shift g) Q (0, [some (.ref y), some (.int a0), some (.int a1), none], [], w, 0, 0) := by
  simp only [eX3_shift_0, wt_nil, Nat.add_zero]
  with_reducible refine And.intro ?_ ?_
  with_reducible refine go_S (by assumption) (fun _ _ hY => ?_)
  with_reducible exact trivial
  with_reducible refine And.intro ?_ ?_
  omega
  with_reducible refine And.intro ?_ ?_
  omega
  with_reducible refine And.intro ?_ ?_
  omega
  with_reducible refine fX3_isNone (by assumption) (fun _ w1 h1 => ?_) (fun _ _ w1 h1 => ?_) (fun ka r e1 w1 h1 => ?_)
  simp only [eX3_shift_5, eX3_shift_8, eX3_shift_10, eX3_shift_14, i10, if_false, kx_l, tl_s]
  with_reducible refine And.intro ?_ ?_
  omega
  with_reducible refine And.intro ?_ ?_
  omega
  with_reducible exact hX (fun h => absurd h (by assumption)) _ (by assumption)
  simp only [eX3_shift_5, eX3_shift_8, eX3_shift_10, eX3_shift_14, i10, if_false, kx_l, tl_s]
  with_reducible refine And.intro ?_ ?_
  omega
  with_reducible refine And.intro ?_ ?_
  omega
  with_reducible exact hS (by assumption) (by assumption) _ (by assumption)
  simp only [eX3_shift_5, eX3_shift_8, eX3_shift_10, eX3_shift_14, if_true, kx_l, tl_s]
  with_reducible refine go_S (by assumption) (fun _ _ hY => ?_)
  simp only [eX3_shift_15, wt_nil, g0, gS, ex1, Nat.add_zero]
  with_reducible refine And.intro ?_ ?_
  with_reducible exact MS.gC (by assumption) (by assumption)
  with_reducible refine And.intro ?_ ?_
  omega
  with_reducible refine And.intro ?_ ?_
  omega
  with_reducible refine And.intro ?_ ?_
  omega
  with_reducible refine sGetK (by assumption) (by assumption) (by assumption) (by assumption) (fun _ hb => ?_)
  simp only [eX3_shift_18R, eX3_shift_21, eX3_shift_27, eX3_shift_33, eX3_shift_39, eX3_shift_45, kx_l, wt_nil, nl_int, tl_s, Nat.zero_add]
  with_reducible refine And.intro ?_ ?_
  with_reducible exact rowA.ca (by assumption)
  with_reducible refine gl_A (by assumption) ?_
  with_reducible refine And.intro ?_ ?_
  with_reducible exact vpi4.1
  (simp only [rv0, rv1, rv2, rv3])
  with_reducible refine gl_A (by assumption) ?_
  with_reducible refine And.intro ?_ ?_
  with_reducible exact vpi4.2.1
  (simp only [rv0, rv1, rv2, rv3])
  with_reducible refine gl_A (by assumption) ?_
  with_reducible refine And.intro ?_ ?_
  with_reducible exact vpi4.2.2.1
  (simp only [rv0, rv1, rv2, rv3])
  with_reducible refine gl_A (by assumption) ?_
  with_reducible refine And.intro ?_ ?_
  with_reducible exact vpi4.2.2.2
  with_reducible refine And.intro ?_ ?_
  with_reducible refine go_S (by assumption) (fun _ _ hY => ?_)
  with_reducible exact trivial
  with_reducible refine And.intro ?_ ?_
  omega
  with_reducible refine And.intro ?_ ?_
  omega
  with_reducible refine And.intro ?_ ?_
  omega
  (simp only [rv0, rv1, rv2, rv3])
  with_reducible refine fX3_make (by assumption) (by assumption) (fun hyes w3 h3 => ?_) (fun hno w3 h3 => ?_)
  simp only [eX3_shift_51, kx_l, tl_s]
  with_reducible refine And.intro ?_ ?_
  omega
  with_reducible refine And.intro ?_ ?_
  omega
  with_reducible exact hT ka r e1 hyes _ h3
  simp only [eX3_shift_51, kx_l, tl_s]
  with_reducible refine And.intro ?_ ?_
  omega
  with_reducible refine And.intro ?_ ?_
  omega
  with_reducible exact hF ka r e1 hno _ h3
set_option maxHeartbeats 4000000 in
theorem fX3_span {a0 a1 a2 : Int32} (hM : MS g w0 y nM kd th s w) (hX : ¬ (okC a0 ∧ okC a1 ∧ okC a2) → ∀ w', MS g w0 y nM kd 1 s w' → Q (.inl (some (.int 0))) w') (hS : okC a0 → okC a1 → okC a2 → (s.2.1 a1.toNatClampNeg = none ∨ s.2.1 a2.toNatClampNeg = none) → ∀ w', MS g w0 y nM kd 2 s w' → Q (.inl (some (.int 0))) w') (hT : okC a0 → okC a1 → okC a2 → ∀ r q, s.2.1 a1.toNatClampNeg = some r → s.2.1 a2.toNatClampNeg = some q → oP r.1 r.2.1 q.2.2.1 q.2.2.2 → ∀ w', MS g w0 y nM kd 0 (sMk s a0.toNatClampNeg (r.1, r.2.1, q.2.2.1, q.2.2.2)) w' → Q (.inl (some (.int 1))) w') (hF : okC a0 → okC a1 → okC a2 → ∀ r q, s.2.1 a1.toNatClampNeg = some r → s.2.1 a2.toNatClampNeg = some q → ¬ oP r.1 r.2.1 q.2.2.1 q.2.2.2 → ∀ w', MS g w0 y nM kd 0 (sRf s) w' → Q (.inl (some (.int (-9)))) w') : WP (MX3_span g) Q (0, [some (.ref y), some (.int a0), some (.int a1), some (.int a2)], [], w, 0, 0) := by
  simp only [eX3_span_0, wt_nil, wt_ref, Nat.add_zero]
  with_reducible refine And.intro ?_ ?_
  omega
  with_reducible refine And.intro ?_ ?_
  omega
  with_reducible refine And.intro ?_ ?_
  omega
  with_reducible refine fX3_isNoCard (fun _ => ?_) (fun _ => ?_)
  simp only [eX3_span_5, eX3_span_8, eX3_span_22, eX3_span_27, i10, if_false, kx_l, wt_nil, wt_ref, tl_s, Nat.add_zero]
  with_reducible refine And.intro ?_ ?_
  with_reducible refine go_S (by assumption) (fun _ _ hY => ?_)
  with_reducible exact trivial
  with_reducible refine And.intro ?_ ?_
  omega
  with_reducible refine And.intro ?_ ?_
  omega
  with_reducible refine And.intro ?_ ?_
  omega
  with_reducible refine fX3_start (by assumption) (by decide) (fun _ w1 h1 => ?_) (fun _ w1 h1 => ?_)
  with_reducible exact absurd (by assumption) n10'
  simp only [eX3_span_31, eX3_span_34, eX3_span_63, i10, if_false, kx_l, wt_nil, wt_ref, tl_s, Nat.add_zero]
  with_reducible refine And.intro ?_ ?_
  omega
  with_reducible refine And.intro ?_ ?_
  omega
  with_reducible exact hX (fun h => absurd h.1 (by assumption)) _ (by assumption)
  simp only [eX3_span_5, eX3_span_8, eX3_span_22, eX3_span_27, if_true, kx_l, wt_nil, wt_ref, tl_s, Nat.add_zero]
  with_reducible refine And.intro ?_ ?_
  omega
  with_reducible refine And.intro ?_ ?_
  omega
  with_reducible refine And.intro ?_ ?_
  omega
  with_reducible refine fX3_isNoCard (fun _ => ?_) (fun _ => ?_)
  simp only [eX3_span_12, eX3_span_15, eX3_span_22, eX3_span_27, i10, if_false, kx_l, wt_nil, wt_ref, tl_s, Nat.add_zero]
  with_reducible refine And.intro ?_ ?_
  with_reducible refine go_S (by assumption) (fun _ _ hY => ?_)
  with_reducible exact trivial
  with_reducible refine And.intro ?_ ?_
  omega
  with_reducible refine And.intro ?_ ?_
  omega
  with_reducible refine And.intro ?_ ?_
  omega
  with_reducible refine fX3_start (by assumption) (by decide) (fun _ w1 h1 => ?_) (fun _ w1 h1 => ?_)
  with_reducible exact absurd (by assumption) n10'
  simp only [eX3_span_31, eX3_span_34, eX3_span_63, i10, if_false, kx_l, wt_nil, wt_ref, tl_s, Nat.add_zero]
  with_reducible refine And.intro ?_ ?_
  omega
  with_reducible refine And.intro ?_ ?_
  omega
  with_reducible exact hX (fun h => absurd h.2.1 (by assumption)) _ (by assumption)
  simp only [eX3_span_12, eX3_span_15, eX3_span_22, eX3_span_27, if_true, kx_l, wt_nil, wt_ref, tl_s, Nat.add_zero]
  with_reducible refine And.intro ?_ ?_
  omega
  with_reducible refine And.intro ?_ ?_
  omega
  with_reducible refine And.intro ?_ ?_
  omega
  with_reducible refine fX3_isNoCard (fun _ => ?_) (fun _ => ?_)
  simp only [eX3_span_19, eX3_span_22, eX3_span_26, eX3_span_27, i10, if_false, kx_l, wt_nil, tl_s, Nat.add_zero]
  with_reducible refine And.intro ?_ ?_
  with_reducible refine go_S (by assumption) (fun _ _ hY => ?_)
  with_reducible exact trivial
  with_reducible refine And.intro ?_ ?_
  omega
  with_reducible refine And.intro ?_ ?_
  omega
  with_reducible refine And.intro ?_ ?_
  omega
  with_reducible refine fX3_start (by assumption) (by decide) (fun _ w1 h1 => ?_) (fun _ w1 h1 => ?_)
  with_reducible exact absurd (by assumption) n10'
  simp only [eX3_span_31, eX3_span_34, eX3_span_63, i10, if_false, kx_l, wt_nil, wt_ref, tl_s, Nat.add_zero]
  with_reducible refine And.intro ?_ ?_
  omega
  with_reducible refine And.intro ?_ ?_
  omega
  with_reducible exact hX (fun h => absurd h.2.2 (by assumption)) _ (by assumption)
  simp only [eX3_span_19, eX3_span_22, eX3_span_26, eX3_span_27, if_true, kx_l, wt_nil, tl_s, Nat.add_zero]
  with_reducible refine And.intro ?_ ?_
  with_reducible refine go_S (by assumption) (fun _ _ hY => ?_)
  with_reducible exact trivial
  with_reducible refine And.intro ?_ ?_
  omega
  with_reducible refine And.intro ?_ ?_
  omega
  with_reducible refine And.intro ?_ ?_
  omega
  with_reducible refine fX3_start (by assumption) (by decide) (fun _ w1 h1 => ?_) (fun _ w1 h1 => ?_)
  simp only [eX3_span_31, eX3_span_34, eX3_span_63, if_true, kx_l, wt_nil, wt_ref, tl_s, Nat.add_zero]
  with_reducible refine And.intro ?_ ?_
  with_reducible refine go_S (by assumption) (fun _ _ hY => ?_)
  with_reducible exact trivial
  with_reducible refine And.intro ?_ ?_
  omega
  with_reducible refine And.intro ?_ ?_
  omega
  with_reducible refine And.intro ?_ ?_
  omega
  with_reducible refine fX3_isBare (by assumption) (by assumption) (fun _ => ?_) (fun _ _ => ?_)
  simp only [eX3_span_40, eX3_span_43, eX3_span_51, eX3_span_56, i10, if_false, kx_l, wt_nil, wt_ref, tl_s, Nat.add_zero]
  with_reducible refine And.intro ?_ ?_
  with_reducible refine go_S (by assumption) (fun _ _ hY => ?_)
  with_reducible exact trivial
  with_reducible refine And.intro ?_ ?_
  omega
  with_reducible refine And.intro ?_ ?_
  omega
  with_reducible refine And.intro ?_ ?_
  omega
  with_reducible refine fX3_refuse (by assumption) (by decide) (fun _ => ?_) (fun _ w2 h2 => ?_)
  with_reducible exact absurd (by assumption) n10'
  simp only [eX3_span_60, eX3_span_63, eX3_span_65, eX3_span_71, i10, if_false, kx_l, tl_s]
  with_reducible refine And.intro ?_ ?_
  omega
  with_reducible refine And.intro ?_ ?_
  omega
  with_reducible exact hS (by assumption) (by assumption) (by assumption) (Or.inl (by assumption)) _ (by assumption)
  simp only [eX3_span_40, eX3_span_43, eX3_span_51, eX3_span_56, if_true, kx_l, wt_nil, wt_ref, tl_s, Nat.add_zero]
  with_reducible refine And.intro ?_ ?_
  with_reducible refine go_S (by assumption) (fun _ _ hY => ?_)
  with_reducible exact trivial
  with_reducible refine And.intro ?_ ?_
  omega
  with_reducible refine And.intro ?_ ?_
  omega
  with_reducible refine And.intro ?_ ?_
  omega
  with_reducible refine fX3_isBare (by assumption) (by assumption) (fun _ => ?_) (fun _ _ => ?_)
  simp only [eX3_span_48, eX3_span_51, eX3_span_55, eX3_span_56, i10, if_false, kx_l, wt_nil, tl_s, Nat.add_zero]
  with_reducible refine And.intro ?_ ?_
  with_reducible refine go_S (by assumption) (fun _ _ hY => ?_)
  with_reducible exact trivial
  with_reducible refine And.intro ?_ ?_
  omega
  with_reducible refine And.intro ?_ ?_
  omega
  with_reducible refine And.intro ?_ ?_
  omega
  with_reducible refine fX3_refuse (by assumption) (by decide) (fun _ => ?_) (fun _ w2 h2 => ?_)
  with_reducible exact absurd (by assumption) n10'
  simp only [eX3_span_60, eX3_span_63, eX3_span_65, eX3_span_71, i10, if_false, kx_l, tl_s]
  with_reducible refine And.intro ?_ ?_
  omega
  with_reducible refine And.intro ?_ ?_
  omega
  with_reducible exact hS (by assumption) (by assumption) (by assumption) (Or.inr (by assumption)) _ (by assumption)
  simp only [eX3_span_48, eX3_span_51, eX3_span_55, eX3_span_56, if_true, kx_l, wt_nil, tl_s, Nat.add_zero]
  with_reducible refine And.intro ?_ ?_
  with_reducible refine go_S (by assumption) (fun _ _ hY => ?_)
  with_reducible exact trivial
  with_reducible refine And.intro ?_ ?_
  omega
  with_reducible refine And.intro ?_ ?_
  omega
  with_reducible refine And.intro ?_ ?_
  omega
  with_reducible refine fX3_refuse (by assumption) (by decide) (fun _ => ?_) (fun _ w2 h2 => ?_)
  simp only [eX3_span_60, eX3_span_63, eX3_span_65, eX3_span_71, if_true, kx_l, tl_s]
  with_reducible refine go_S (by assumption) (fun _ _ hY => ?_)
  simp only [eX3_span_72, wt_nil, wt_int, wt_ref, g0, gS, ex1, Nat.add_zero]
  with_reducible refine And.intro ?_ ?_
  with_reducible exact MS.gC (by assumption) (by assumption)
  with_reducible refine And.intro ?_ ?_
  omega
  with_reducible refine And.intro ?_ ?_
  omega
  with_reducible refine And.intro ?_ ?_
  omega
  with_reducible refine sGetK (by assumption) (by assumption) (by assumption) (by assumption) (fun _ hb => ?_)
  simp only [eX3_span_75R, eX3_span_78, eX3_span_80, eX3_span_84, kx_l, tl_s]
  with_reducible refine And.intro ?_ ?_
  with_reducible exact rowA.ca (by assumption)
  with_reducible refine gl_A (by assumption) ?_
  with_reducible refine And.intro ?_ ?_
  with_reducible exact vpi4.1
  with_reducible refine go_S (by assumption) (fun _ _ hY => ?_)
  (simp only [rv0, rv1, rv2, rv3])
  simp only [eX3_span_85, wt_nil, wt_int, wt_long, wt_ref, g0, gS, ex1, Nat.add_zero]
  with_reducible refine And.intro ?_ ?_
  with_reducible exact MS.gC (by assumption) (by assumption)
  with_reducible refine And.intro ?_ ?_
  omega
  with_reducible refine And.intro ?_ ?_
  omega
  with_reducible refine And.intro ?_ ?_
  omega
  with_reducible refine sGetK (by assumption) (by assumption) (by assumption) (by assumption) (fun _ hb => ?_)
  simp only [eX3_span_88R, eX3_span_91, eX3_span_93, eX3_span_97, kx_l, tl_s]
  with_reducible refine And.intro ?_ ?_
  with_reducible exact rowA.ca (by assumption)
  with_reducible refine gl_A (by assumption) ?_
  with_reducible refine And.intro ?_ ?_
  with_reducible exact vpi4.2.1
  with_reducible refine go_S (by assumption) (fun _ _ hY => ?_)
  (simp only [rv0, rv1, rv2, rv3])
  simp only [eX3_span_98, wt_nil, wt_int, wt_long, wt_ref, g0, gS, ex1, Nat.add_zero]
  with_reducible refine And.intro ?_ ?_
  with_reducible exact MS.gC (by assumption) (by assumption)
  with_reducible refine And.intro ?_ ?_
  omega
  with_reducible refine And.intro ?_ ?_
  omega
  with_reducible refine And.intro ?_ ?_
  omega
  with_reducible refine sGetK (by assumption) (by assumption) (by assumption) (by assumption) (fun _ hb => ?_)
  simp only [eX3_span_101R, eX3_span_104, eX3_span_106, eX3_span_110, kx_l, tl_s]
  with_reducible refine And.intro ?_ ?_
  with_reducible exact rowA.ca (by assumption)
  with_reducible refine gl_A (by assumption) ?_
  with_reducible refine And.intro ?_ ?_
  with_reducible exact vpi4.2.2.1
  with_reducible refine go_S (by assumption) (fun _ _ hY => ?_)
  (simp only [rv0, rv1, rv2, rv3])
  simp only [eX3_span_111, wt_nil, wt_int, wt_long, wt_ref, g0, gS, ex1, Nat.add_zero]
  with_reducible refine And.intro ?_ ?_
  with_reducible exact MS.gC (by assumption) (by assumption)
  with_reducible refine And.intro ?_ ?_
  omega
  with_reducible refine And.intro ?_ ?_
  omega
  with_reducible refine And.intro ?_ ?_
  omega
  with_reducible refine sGetK (by assumption) (by assumption) (by assumption) (by assumption) (fun _ hb => ?_)
  simp only [eX3_span_114R, eX3_span_117, eX3_span_119, kx_l, wt_nil, tl_s, Nat.zero_add]
  with_reducible refine And.intro ?_ ?_
  with_reducible exact rowA.ca (by assumption)
  with_reducible refine gl_A (by assumption) ?_
  with_reducible refine And.intro ?_ ?_
  with_reducible exact vpi4.2.2.2
  with_reducible refine And.intro ?_ ?_
  with_reducible refine go_S (by assumption) (fun _ _ hY => ?_)
  with_reducible exact trivial
  with_reducible refine And.intro ?_ ?_
  omega
  with_reducible refine And.intro ?_ ?_
  omega
  with_reducible refine And.intro ?_ ?_
  omega
  (simp only [rv0, rv1, rv2, rv3])
  with_reducible refine fX3_make (by assumption) (by assumption) (fun hyes w3 h3 => ?_) (fun hno w3 h3 => ?_)
  simp only [eX3_span_122, kx_l, tl_s]
  with_reducible refine And.intro ?_ ?_
  omega
  with_reducible refine And.intro ?_ ?_
  omega
  with_reducible exact hT (by assumption) (by assumption) (by assumption) _ _ (by assumption) (by assumption) hyes _ h3
  simp only [eX3_span_122, kx_l, tl_s]
  with_reducible refine And.intro ?_ ?_
  omega
  with_reducible refine And.intro ?_ ?_
  omega
  with_reducible exact hF (by assumption) (by assumption) (by assumption) _ _ (by assumption) (by assumption) hno _ h3
  with_reducible exact n00x (by assumption)
  with_reducible exact n00x (by assumption)
end
end
