section
variable {g : RO} {Q : Ot → Hw → Prop} {w0 w : Hw} {y nM : Nat} {kd th : Int32} {s : AS}
/-! MODEL, FUNCTIONAL, 7: made of cards -/
def smF (r : R4) (j : Nat) : Int32 := bI (decide (-2147483648 ≤ (rV r j).toInt ∧ (rV r j).toInt ≤ 2147483647))
theorem smT {r : R4} {j : Nat} (h : -2147483648 ≤ (rV r j).toInt ∧ (rV r j).toInt ≤ 2147483647) : fsum (smF r) j + 1 = fsum (smF r) (j + 1) := by
  show _ = fsum (smF r) j + smF r j
  unfold smF
  rw [decide_eq_true h]
  rfl
theorem smN {r : R4} {j : Nat} (h : ¬ (-2147483648 ≤ (rV r j).toInt ∧ (rV r j).toInt ≤ 2147483647)) : fsum (smF r) j + 0 = fsum (smF r) (j + 1) := by
  show _ = fsum (smF r) j + smF r j
  unfold smF
  rw [decide_eq_false h]
  rfl
theorem fsum_cg {f f' : Nat → Int32} : ∀ {N : Nat}, (∀ j, j < N → f j = f' j) → fsum f N = fsum f' N
  | 0, _ => rfl
  | N + 1, h => by
    show fsum f N + f N = fsum f' N + f' N
    rw [fsum_cg (fun j hj => h j (by omega)), h N (by omega)]
theorem smE {r : R4} : fsum (smF r) 4 = seV r := fsum_cg (fun j hj => by
  show bI (decide (-2147483648 ≤ (rV r j).toInt ∧ (rV r j).toInt ≤ 2147483647)) = _
  rw [rvj hj])
theorem oEta {r : R4} (h : rOk r) (hno : ¬ oP r.1 r.2.1 r.2.2.1 r.2.2.2) : False := hno h
set_option maxHeartbeats 4000000 in
theorem flX3_again_37 {a c : Int32} {b : Nat} {r : R4} (hM : MS g w0 y nM kd th s w) (hb : rowA w b r) (k : okC a) (ho : rOk r) (hQ : ∀ w', MS g w0 y nM kd th (sMk s a.toNatClampNeg r) w' → Q (.inl (some (.int (seV r)))) w') : ∀ (d j : Nat) (i8 : Option Value) (i9 : Option Value) (kz mz : Nat), j + d = 4 → kz ≤ 0 → mz ≤ 0 → WP (MX3_again g) Q (37, [some (.ref y), some (.int a), some (.int c), some (.ref b), some (.int (fsum (smF r) j)), some (.ref b), some (.int 4), some (.int (Int32.ofNat j)), i8, i9], [], w, kz, mz) := by
  intro d
  induction d with
  | zero =>
    intro j i8 i9 kz mz hjd hkz hmz
    have h9 : j < 1000 := (by omega)
    have hlt : ¬ Int32.ofNat j < 4 := oNg (B := 4) h9 rfl (by omega)
    have hnn := oN0 h9
    have hcl := oNc h9
    obtain rfl : j = 4 := by omega
    rw [eX3_again_37]
    repeat' first
      | with_reducible assumption
      | with_reducible refine And.intro ?_ ?_
      | with_reducible exact vpi6 (by assumption) (by assumption)
      | with_reducible exact vpi8 (by assumption) (by assumption)
      | with_reducible exact trivial
      | with_reducible exact absurd (by assumption) n10'
      | with_reducible exact n00x (by assumption)
      | (simp only [rv0, rv1, rv2, rv3])
      | with_reducible refine gl_A hb ?_
      | with_reducible exact vpi4j (by omega)
      | with_reducible exact vpi4.1
      | with_reducible exact vpi4.2.1
      | with_reducible exact vpi4.2.2.1
      | with_reducible exact vpi4.2.2.2
      | with_reducible refine fX3_one (Or.inl rfl) ?_
      | with_reducible refine fX3_one (Or.inr rfl) ?_
      | with_reducible refine go_S hM (fun _ _ hY => ?_)
      | with_reducible refine fX3_make hM k (fun hyes w3 h3 => ?_) (fun hno w3 h3 => ?_)
      | with_reducible exact (oEta ho hno).elim
      | (rw [smE]; exact hQ _ h3)
      | simp only [eX3_again_0, eX3_again_0N, eX3_again_1, eX3_again_2, eX3_again_3, eX3_again_6, eX3_again_9, eX3_again_10, eX3_again_11, eX3_again_11N, eX3_again_12, eX3_again_15, eX3_again_16, eX3_again_19N, eX3_again_19R, eX3_again_22, eX3_again_22N, eX3_again_23, eX3_again_24, eX3_again_26, eX3_again_26N, eX3_again_27, eX3_again_27N, eX3_again_29, eX3_again_29N, eX3_again_31, eX3_again_32, eX3_again_34, eX3_again_35, eX3_again_39, eX3_again_41, eX3_again_44, eX3_again_44N, eX3_again_46, eX3_again_48, eX3_again_49, eX3_again_51, eX3_again_53, eX3_again_55, eX3_again_58, eX3_again_59, eX3_again_62, eX3_again_64, eX3_again_67, eX3_again_68, eX3_again_71, eX3_again_72, eX3_again_75, eX3_again_76, eX3_again_79, eX3_again_80, eX3_again_82, eX3_again_85, eX3_again_88, eX3_again_88N, eX3_again_89, eX3_again_90, eX3_again_90N, eX3_again_91, eX3_again_92, eX3_again_93, eX3_again_93N, eX3_again_94, eX3_again_95, eX3_again_96, eX3_again_96N, eX3_again_97, eX3_again_98, eX3_again_99, eX3_again_99N, eX3_again_100, eX3_again_101, eX3_again_102, eX3_again_105, eX3_again_105R, eX3_again_105N, eX3_again_106, eX3_again_108, lgp, lgn, lgz, i10, i00, if_true, if_false, eq_self, not_true, not_false_eq_true, m10, n4e, upw2q, rv0, rv1, rv2, rv3, lmi, lmx, hlt, hcl, ite_le, n45, n54, true_or, or_true, false_or, or_false, false_and, and_false, kx_l, kx_r, go_s, gl_s, gi_s, gb_s2, gb_s3, gq_s, wt_nil, wt_int, wt_long, wt_ref, wt_null, nl_int, nl_long, nl_ref, nl_null, nl_none, rf_n, rf_s, rf_st, tl_s, tl_n, g0, gS, ex1, nb_b, nb_0, nb_1, nf_i, nf_l, nf_ra, nf_ro, nf_na, nf_no, nf_b0, nf_z0, t45_4, t45_5, true_and, and_true, List.set_cons_zero, List.set_cons_succ, List.length_cons, List.length_nil, rd_s, upw_s, ne_eq, not_false_eq_true, Nat.zero_add, Nat.add_zero]
      | with_reducible refine itx (fun _ => ?_) (fun _ => ?_)
      | split
      | with_reducible intro _
      | omega
  | succ d ih =>
    intro j i8 i9 kz mz hjd hkz hmz
    have h9 : j < 1000 := (by omega)
    have hlt : Int32.ofNat j < 4 := oNl (B := 4) h9 rfl (by omega)
    have hjN : j < 4 := by omega
    have hnn := oN0 h9
    have hcl := oNc h9
    rw [eX3_again_37]
    repeat' first
      | with_reducible assumption
      | with_reducible refine And.intro ?_ ?_
      | with_reducible exact vpi6 (by assumption) (by assumption)
      | with_reducible exact vpi8 (by assumption) (by assumption)
      | with_reducible exact trivial
      | with_reducible exact absurd (by assumption) n10'
      | with_reducible exact n00x (by assumption)
      | (rw [oN1, smT (r := r) (j := j) (by omega)]; exact ih (j + 1) _ _ _ _ (by omega) (by first | assumption | omega) (by first | assumption | omega))
      | (rw [oN1, smN (r := r) (j := j) (by omega)]; exact ih (j + 1) _ _ _ _ (by omega) (by first | assumption | omega) (by first | assumption | omega))
      | (simp only [rv0, rv1, rv2, rv3])
      | with_reducible refine gl_A hb ?_
      | with_reducible exact vpi4j (by omega)
      | with_reducible exact vpi4.1
      | with_reducible exact vpi4.2.1
      | with_reducible exact vpi4.2.2.1
      | with_reducible exact vpi4.2.2.2
      | with_reducible refine fX3_one (Or.inl rfl) ?_
      | with_reducible refine fX3_one (Or.inr rfl) ?_
      | with_reducible refine go_S hM (fun _ _ hY => ?_)
      | with_reducible refine fX3_make hM k (fun hyes w3 h3 => ?_) (fun hno w3 h3 => ?_)
      | with_reducible exact (oEta ho hno).elim
      | (rw [smE]; exact hQ _ h3)
      | simp only [eX3_again_0, eX3_again_0N, eX3_again_1, eX3_again_2, eX3_again_3, eX3_again_6, eX3_again_9, eX3_again_10, eX3_again_11, eX3_again_11N, eX3_again_12, eX3_again_15, eX3_again_16, eX3_again_19N, eX3_again_19R, eX3_again_22, eX3_again_22N, eX3_again_23, eX3_again_24, eX3_again_26, eX3_again_26N, eX3_again_27, eX3_again_27N, eX3_again_29, eX3_again_29N, eX3_again_31, eX3_again_32, eX3_again_34, eX3_again_35, eX3_again_39, eX3_again_41, eX3_again_44, eX3_again_44N, eX3_again_46, eX3_again_48, eX3_again_49, eX3_again_51, eX3_again_53, eX3_again_55, eX3_again_58, eX3_again_59, eX3_again_62, eX3_again_64, eX3_again_67, eX3_again_68, eX3_again_71, eX3_again_72, eX3_again_75, eX3_again_76, eX3_again_79, eX3_again_80, eX3_again_82, eX3_again_85, eX3_again_88, eX3_again_88N, eX3_again_89, eX3_again_90, eX3_again_90N, eX3_again_91, eX3_again_92, eX3_again_93, eX3_again_93N, eX3_again_94, eX3_again_95, eX3_again_96, eX3_again_96N, eX3_again_97, eX3_again_98, eX3_again_99, eX3_again_99N, eX3_again_100, eX3_again_101, eX3_again_102, eX3_again_105, eX3_again_105R, eX3_again_105N, eX3_again_106, eX3_again_108, lgp, lgn, lgz, i10, i00, if_true, if_false, eq_self, not_true, not_false_eq_true, m10, n4e, upw2q, rv0, rv1, rv2, rv3, lmi, lmx, hlt, hcl, ite_le, n45, n54, true_or, or_true, false_or, or_false, false_and, and_false, kx_l, kx_r, go_s, gl_s, gi_s, gb_s2, gb_s3, gq_s, wt_nil, wt_int, wt_long, wt_ref, wt_null, nl_int, nl_long, nl_ref, nl_null, nl_none, rf_n, rf_s, rf_st, tl_s, tl_n, g0, gS, ex1, nb_b, nb_0, nb_1, nf_i, nf_l, nf_ra, nf_ro, nf_na, nf_no, nf_b0, nf_z0, t45_4, t45_5, true_and, and_true, List.set_cons_zero, List.set_cons_succ, List.length_cons, List.length_nil, rd_s, upw_s, ne_eq, not_false_eq_true, Nat.zero_add, Nat.add_zero]
      | with_reducible refine itx (fun _ => ?_) (fun _ => ?_)
      | split
      | with_reducible intro _
      | omega
theorem al_A {b : Nat} {r : R4} {K : vp_A → Prop} (h : rowA w b r) (k : K (4, .inr (.inl (rV r)))) : ∃ t z, rd g w b = some (.inl (t, z)) ∧ t < 6 ∧ K z := ⟨0, _, rd_e h, by decide, k⟩
set_option maxHeartbeats 4000000 in
theorem fX3_again {a0 a1 : Int32} (hM : MS g w0 y nM kd th s w) (ho : sOk s) (hX : ¬ (okC a0 ∧ okC a1) → ∀ w', MS g w0 y nM kd 1 s w' → Q (.inl (some (.int 0))) w') (hS : okC a0 → okC a1 → s.2.1 a1.toNatClampNeg = none → ∀ w', MS g w0 y nM kd 2 s w' → Q (.inl (some (.int 0))) w') (hQ : okC a0 → okC a1 → ∀ r, s.2.1 a1.toNatClampNeg = some r → ∀ w', MS g w0 y nM kd 0 (sMk s a0.toNatClampNeg r) w' → Q (.inl (some (.int (seV r)))) w') : WP (MX3_again g) Q (0, [some (.ref y), some (.int a0), some (.int a1), none, none, none, none, none, none, none], [], w, 0, 0) := by
  repeat' first
    | with_reducible assumption
    | with_reducible refine And.intro ?_ ?_
    | with_reducible exact vpi6 (by assumption) (by assumption)
    | with_reducible exact vpi8 (by assumption) (by assumption)
    | with_reducible exact trivial
    | with_reducible exact absurd (by assumption) n10'
    | with_reducible exact n00x (by assumption)
    | with_reducible exact hX (by assumption) _ (by assumption)
    | with_reducible exact hX (fun h => absurd h.1 (by assumption)) _ (by assumption)
    | with_reducible exact hX (fun h => absurd h.2 (by assumption)) _ (by assumption)
    | with_reducible exact hS (by assumption) (by assumption) (by assumption) _ (by assumption)
    | with_reducible refine fX3_isNoPair (by assumption) (fun _ w1 h1 => ?_) (fun _ _ _ w1 h1 => ?_) (fun ka kc r e1 w1 h1 => ?_)
    | with_reducible refine go_S (by assumption) (fun _ _ hY => ?_)
    | with_reducible exact MS.gC (by assumption) (by assumption)
    | with_reducible exact MS.gP (by assumption) (by assumption)
    | (simp only [rv0, rv1, rv2, rv3])
    | with_reducible refine sGetK (by assumption) (by assumption) (by assumption) (by assumption) (fun _ hb => ?_)
    | with_reducible exact rowA.ca (by assumption)
    | with_reducible refine gl_A (by assumption) ?_
    | with_reducible exact vpi4.1
    | with_reducible exact vpi4.2.1
    | with_reducible exact vpi4.2.2.1
    | with_reducible exact vpi4.2.2.2
    | with_reducible refine al_A (by assumption) ?_
    | ((with_reducible refine isWP (pc := 37) ?_); exact flX3_again_37 h1 hb ka (ho.c kc e1) (fun w3 h3 => hQ ka kc r e1 w3 h3) 4 0 _ _ _ _ rfl (by decide) (by decide))
    | simp only [eX3_again_0, eX3_again_0N, eX3_again_1, eX3_again_2, eX3_again_3, eX3_again_6, eX3_again_9, eX3_again_10, eX3_again_11, eX3_again_11N, eX3_again_12, eX3_again_15, eX3_again_16, eX3_again_19N, eX3_again_19R, eX3_again_22, eX3_again_22N, eX3_again_23, eX3_again_24, eX3_again_26, eX3_again_26N, eX3_again_27, eX3_again_27N, eX3_again_29, eX3_again_29N, eX3_again_31, eX3_again_32, eX3_again_34, eX3_again_35, eX3_again_39, eX3_again_41, eX3_again_44, eX3_again_44N, eX3_again_46, eX3_again_48, eX3_again_49, eX3_again_51, eX3_again_53, eX3_again_55, eX3_again_58, eX3_again_59, eX3_again_62, eX3_again_64, eX3_again_67, eX3_again_68, eX3_again_71, eX3_again_72, eX3_again_75, eX3_again_76, eX3_again_79, eX3_again_80, eX3_again_82, eX3_again_85, eX3_again_88, eX3_again_88N, eX3_again_89, eX3_again_90, eX3_again_90N, eX3_again_91, eX3_again_92, eX3_again_93, eX3_again_93N, eX3_again_94, eX3_again_95, eX3_again_96, eX3_again_96N, eX3_again_97, eX3_again_98, eX3_again_99, eX3_again_99N, eX3_again_100, eX3_again_101, eX3_again_102, eX3_again_105, eX3_again_105R, eX3_again_105N, eX3_again_106, eX3_again_108, lgp, lgn, lgz, i10, i00, if_true, if_false, eq_self, not_true, not_false_eq_true, m10, n4e, upw2q, rv0, rv1, rv2, rv3, lmi, lmx, of4, ite_le, n45, n54, true_or, or_true, false_or, or_false, false_and, and_false, kx_l, kx_r, go_s, gl_s, gi_s, gb_s2, gb_s3, gq_s, wt_nil, wt_int, wt_long, wt_ref, wt_null, nl_int, nl_long, nl_ref, nl_null, nl_none, rf_n, rf_s, rf_st, tl_s, tl_n, g0, gS, ex1, nb_b, nb_0, nb_1, nf_i, nf_l, nf_ra, nf_ro, nf_na, nf_no, nf_b0, nf_z0, t45_4, t45_5, true_and, and_true, List.set_cons_zero, List.set_cons_succ, List.length_cons, List.length_nil, rd_s, upw_s, ne_eq, not_false_eq_true, Nat.zero_add, Nat.add_zero]
    | with_reducible refine itx (fun _ => ?_) (fun _ => ?_)
    | split
    | with_reducible intro _
    | omega
set_option maxHeartbeats 4000000 in
theorem fX3_outer {a0 a1 : Int32} (hM : MS g w0 y nM kd th s w) (ho : sOk s) (hX : ¬ (okC a0 ∧ okC a1) → ∀ w', MS g w0 y nM kd 1 s w' → Q (.inl (some (.int 0))) w') (hS : okC a0 → okC a1 → s.2.1 a1.toNatClampNeg = none → ∀ w', MS g w0 y nM kd 2 s w' → Q (.inl (some (.int 0))) w') (hT : okC a0 → okC a1 → ∀ r, s.2.1 a1.toNatClampNeg = some r → fP r → ∀ w', MS g w0 y nM kd 0 (sMk s a0.toNatClampNeg (r.1, r.1, r.2.2.2, r.2.2.2)) w' → Q (.inl (some (.int 1))) w') (hF : okC a0 → okC a1 → ∀ r, s.2.1 a1.toNatClampNeg = some r → ¬ fP r → ∀ w', MS g w0 y nM kd 0 (sMk s a0.toNatClampNeg (r.1, r.1, r.2.2.2, r.2.2.2)) w' → Q (.inl (some (.int 0))) w') : WP (MX3_outer g) Q (0, [some (.ref y), some (.int a0), some (.int a1), none], [], w, 0, 0) := by
  repeat' first
    | with_reducible assumption
    | with_reducible refine And.intro ?_ ?_
    | with_reducible exact vpi6 (by assumption) (by assumption)
    | with_reducible exact vpi8 (by assumption) (by assumption)
    | with_reducible exact trivial
    | with_reducible exact absurd (by assumption) n10'
    | with_reducible exact n00x (by assumption)
    | with_reducible exact hX (by assumption) _ (by assumption)
    | with_reducible exact hX (fun h => absurd h.1 (by assumption)) _ (by assumption)
    | with_reducible exact hX (fun h => absurd h.2 (by assumption)) _ (by assumption)
    | with_reducible exact hS (by assumption) (by assumption) (by assumption) _ (by assumption)
    | with_reducible refine fX3_isNoPair (by assumption) (fun _ w1 h1 => ?_) (fun _ _ _ w1 h1 => ?_) (fun ka kc r e1 w1 h1 => ?_)
    | with_reducible refine go_S (by assumption) (fun _ _ hY => ?_)
    | with_reducible exact MS.gC (by assumption) (by assumption)
    | with_reducible exact MS.gP (by assumption) (by assumption)
    | (simp only [rv0, rv1, rv2, rv3])
    | with_reducible refine sGetK (by assumption) (by assumption) (by assumption) (by assumption) (fun _ hb => ?_)
    | with_reducible exact rowA.ca (by assumption)
    | with_reducible refine gl_A (by assumption) ?_
    | with_reducible exact vpi4.1
    | with_reducible exact vpi4.2.1
    | with_reducible exact vpi4.2.2.1
    | with_reducible exact vpi4.2.2.2
    | with_reducible refine fX3_makeR (by assumption) (by assumption) (fun hyes w3 h3 z3 => ?_) (fun hno w3 h3 => ?_)
    | with_reducible exact absurd (oOut (ho.c kc e1)) hno
    | with_reducible refine fX3_fixed (MS.rA h1 z3 hb) (fun hm => ?_) (fun hm => ?_)
    | with_reducible refine fX3_one (Or.inl rfl) ?_
    | with_reducible refine fX3_one (Or.inr rfl) ?_
    | with_reducible exact hT ka kc r e1 hm _ h3
    | with_reducible exact hF ka kc r e1 hm _ h3
    | simp only [eX3_outer_0, eX3_outer_0N, eX3_outer_1, eX3_outer_2, eX3_outer_3, eX3_outer_6, eX3_outer_9, eX3_outer_10, eX3_outer_11, eX3_outer_11N, eX3_outer_12, eX3_outer_15, eX3_outer_16, eX3_outer_19N, eX3_outer_19R, eX3_outer_22, eX3_outer_22N, eX3_outer_23, eX3_outer_23N, eX3_outer_24, eX3_outer_25, eX3_outer_25N, eX3_outer_26, eX3_outer_27, eX3_outer_28, eX3_outer_28N, eX3_outer_29, eX3_outer_30, eX3_outer_31, eX3_outer_31N, eX3_outer_32, eX3_outer_33, eX3_outer_34, eX3_outer_34N, eX3_outer_35, eX3_outer_36, eX3_outer_37, eX3_outer_40, eX3_outer_40R, eX3_outer_40N, eX3_outer_41, eX3_outer_41N, eX3_outer_42R, eX3_outer_42N, eX3_outer_45, eX3_outer_48, lgp, lgn, lgz, i10, i00, if_true, if_false, eq_self, not_true, not_false_eq_true, m10, n4e, upw2q, rv0, rv1, rv2, rv3, lmi, lmx, ite_le, n45, n54, true_or, or_true, false_or, or_false, false_and, and_false, kx_l, kx_r, go_s, gl_s, gi_s, gb_s2, gb_s3, gq_s, wt_nil, wt_int, wt_long, wt_ref, wt_null, nl_int, nl_long, nl_ref, nl_null, nl_none, rf_n, rf_s, rf_st, tl_s, tl_n, g0, gS, ex1, nb_b, nb_0, nb_1, nf_i, nf_l, nf_ra, nf_ro, nf_na, nf_no, nf_b0, nf_z0, t45_4, t45_5, true_and, and_true, List.set_cons_zero, List.set_cons_succ, List.length_cons, List.length_nil, rd_s, upw_s, ne_eq, not_false_eq_true, Nat.zero_add, Nat.add_zero]
    | with_reducible refine itx (fun _ => ?_) (fun _ => ?_)
    | split
    | with_reducible intro _
    | omega
set_option maxHeartbeats 4000000 in
theorem fX3_inner {a0 a1 : Int32} (hM : MS g w0 y nM kd th s w) (hX : ¬ (okC a0 ∧ okC a1) → ∀ w', MS g w0 y nM kd 1 s w' → Q (.inl (some (.int 0))) w') (hS : okC a0 → okC a1 → s.2.1 a1.toNatClampNeg = none → ∀ w', MS g w0 y nM kd 2 s w' → Q (.inl (some (.int 0))) w') (hT : okC a0 → okC a1 → ∀ r, s.2.1 a1.toNatClampNeg = some r → oP r.2.1 r.2.1 r.2.2.1 r.2.2.1 → ∀ w', MS g w0 y nM kd 0 (sMk s a0.toNatClampNeg (r.2.1, r.2.1, r.2.2.1, r.2.2.1)) w' → Q (.inl (some (.int 1))) w') (hF : okC a0 → okC a1 → ∀ r, s.2.1 a1.toNatClampNeg = some r → ¬ oP r.2.1 r.2.1 r.2.2.1 r.2.2.1 → ∀ w', MS g w0 y nM kd 0 (sRf s) w' → Q (.inl (some (.int (-9)))) w') : WP (MX3_inner g) Q (0, [some (.ref y), some (.int a0), some (.int a1), none], [], w, 0, 0) := by
  repeat' first
    | with_reducible assumption
    | with_reducible refine And.intro ?_ ?_
    | with_reducible exact vpi6 (by assumption) (by assumption)
    | with_reducible exact vpi8 (by assumption) (by assumption)
    | with_reducible exact trivial
    | with_reducible exact absurd (by assumption) n10'
    | with_reducible exact n00x (by assumption)
    | with_reducible exact hX (by assumption) _ (by assumption)
    | with_reducible exact hX (fun h => absurd h.1 (by assumption)) _ (by assumption)
    | with_reducible exact hX (fun h => absurd h.2 (by assumption)) _ (by assumption)
    | with_reducible exact hS (by assumption) (by assumption) (by assumption) _ (by assumption)
    | with_reducible refine fX3_isNoPair (by assumption) (fun _ w1 h1 => ?_) (fun _ _ _ w1 h1 => ?_) (fun ka kc r e1 w1 h1 => ?_)
    | with_reducible refine go_S (by assumption) (fun _ _ hY => ?_)
    | with_reducible exact MS.gC (by assumption) (by assumption)
    | with_reducible exact MS.gP (by assumption) (by assumption)
    | (simp only [rv0, rv1, rv2, rv3])
    | with_reducible refine sGetK (by assumption) (by assumption) (by assumption) (by assumption) (fun _ hb => ?_)
    | with_reducible exact rowA.ca (by assumption)
    | with_reducible refine gl_A (by assumption) ?_
    | with_reducible exact vpi4.1
    | with_reducible exact vpi4.2.1
    | with_reducible exact vpi4.2.2.1
    | with_reducible exact vpi4.2.2.2
    | with_reducible refine fX3_make (by assumption) (by assumption) (fun hyes w3 h3 => ?_) (fun hno w3 h3 => ?_)
    | with_reducible exact hT ka kc r e1 hyes _ h3
    | with_reducible exact hF ka kc r e1 hno _ h3
    | simp only [eX3_inner_0, eX3_inner_0N, eX3_inner_1, eX3_inner_2, eX3_inner_3, eX3_inner_6, eX3_inner_9, eX3_inner_10, eX3_inner_11, eX3_inner_11N, eX3_inner_12, eX3_inner_15, eX3_inner_16, eX3_inner_19N, eX3_inner_19R, eX3_inner_22, eX3_inner_22N, eX3_inner_23, eX3_inner_23N, eX3_inner_24, eX3_inner_25, eX3_inner_25N, eX3_inner_26, eX3_inner_27, eX3_inner_28, eX3_inner_28N, eX3_inner_29, eX3_inner_30, eX3_inner_31, eX3_inner_31N, eX3_inner_32, eX3_inner_33, eX3_inner_34, eX3_inner_34N, eX3_inner_35, eX3_inner_36, eX3_inner_37, eX3_inner_40, lgp, lgn, lgz, i10, i00, if_true, if_false, eq_self, not_true, not_false_eq_true, m10, n4e, upw2q, rv0, rv1, rv2, rv3, lmi, lmx, ite_le, n45, n54, true_or, or_true, false_or, or_false, false_and, and_false, kx_l, kx_r, go_s, gl_s, gi_s, gb_s2, gb_s3, gq_s, wt_nil, wt_int, wt_long, wt_ref, wt_null, nl_int, nl_long, nl_ref, nl_null, nl_none, rf_n, rf_s, rf_st, tl_s, tl_n, g0, gS, ex1, nb_b, nb_0, nb_1, nf_i, nf_l, nf_ra, nf_ro, nf_na, nf_no, nf_b0, nf_z0, t45_4, t45_5, true_and, and_true, List.set_cons_zero, List.set_cons_succ, List.length_cons, List.length_nil, rd_s, upw_s, ne_eq, not_false_eq_true, Nat.zero_add, Nat.add_zero]
    | with_reducible refine itx (fun _ => ?_) (fun _ => ?_)
    | split
    | with_reducible intro _
    | omega
set_option maxHeartbeats 4000000 in
theorem fX3_shift {a0 a1 : Int32} (hM : MS g w0 y nM kd th s w) (hX : ¬ (okC a0) → ∀ w', MS g w0 y nM kd 1 s w' → Q (.inl (some (.int 0))) w') (hS : okC a0 → s.2.1 a0.toNatClampNeg = none → ∀ w', MS g w0 y nM kd 2 s w' → Q (.inl (some (.int 0))) w') (hT : okC a0 → ∀ r, s.2.1 a0.toNatClampNeg = some r → oP (r.1 + a1.toInt64) (r.2.1 + a1.toInt64) (r.2.2.1 + a1.toInt64) (r.2.2.2 + a1.toInt64) → ∀ w', MS g w0 y nM kd 0 (sMk s a0.toNatClampNeg (r.1 + a1.toInt64, r.2.1 + a1.toInt64, r.2.2.1 + a1.toInt64, r.2.2.2 + a1.toInt64)) w' → Q (.inl (some (.int 1))) w') (hF : okC a0 → ∀ r, s.2.1 a0.toNatClampNeg = some r → ¬ oP (r.1 + a1.toInt64) (r.2.1 + a1.toInt64) (r.2.2.1 + a1.toInt64) (r.2.2.2 + a1.toInt64) → ∀ w', MS g w0 y nM kd 0 (sRf s) w' → Q (.inl (some (.int (-9)))) w') : WP (MX3_shift g) Q (0, [some (.ref y), some (.int a0), some (.int a1), none], [], w, 0, 0) := by
  repeat' first
    | with_reducible assumption
    | with_reducible refine And.intro ?_ ?_
    | with_reducible exact vpi6 (by assumption) (by assumption)
    | with_reducible exact vpi8 (by assumption) (by assumption)
    | with_reducible exact trivial
    | with_reducible exact absurd (by assumption) n10'
    | with_reducible exact n00x (by assumption)
    | with_reducible exact hX (fun h => absurd h (by assumption)) _ (by assumption)
    | with_reducible exact hS (by assumption) (by assumption) _ (by assumption)
    | with_reducible refine fX3_isNone (by assumption) (fun _ w1 h1 => ?_) (fun _ _ w1 h1 => ?_) (fun ka r e1 w1 h1 => ?_)
    | with_reducible refine go_S (by assumption) (fun _ _ hY => ?_)
    | with_reducible exact MS.gC (by assumption) (by assumption)
    | with_reducible exact MS.gP (by assumption) (by assumption)
    | (simp only [rv0, rv1, rv2, rv3])
    | with_reducible refine sGetK (by assumption) (by assumption) (by assumption) (by assumption) (fun _ hb => ?_)
    | with_reducible exact rowA.ca (by assumption)
    | with_reducible refine gl_A (by assumption) ?_
    | with_reducible exact vpi4.1
    | with_reducible exact vpi4.2.1
    | with_reducible exact vpi4.2.2.1
    | with_reducible exact vpi4.2.2.2
    | with_reducible refine fX3_make (by assumption) (by assumption) (fun hyes w3 h3 => ?_) (fun hno w3 h3 => ?_)
    | with_reducible exact hT ka r e1 hyes _ h3
    | with_reducible exact hF ka r e1 hno _ h3
    | simp only [eX3_shift_0, eX3_shift_0N, eX3_shift_1, eX3_shift_2, eX3_shift_5, eX3_shift_8, eX3_shift_9, eX3_shift_10, eX3_shift_10N, eX3_shift_11, eX3_shift_14, eX3_shift_15, eX3_shift_18N, eX3_shift_18R, eX3_shift_21, eX3_shift_21N, eX3_shift_22, eX3_shift_22N, eX3_shift_23, eX3_shift_24, eX3_shift_24N, eX3_shift_25, eX3_shift_26, eX3_shift_27, eX3_shift_28, eX3_shift_29, eX3_shift_30, eX3_shift_30N, eX3_shift_31, eX3_shift_32, eX3_shift_33, eX3_shift_34, eX3_shift_35, eX3_shift_36, eX3_shift_36N, eX3_shift_37, eX3_shift_38, eX3_shift_39, eX3_shift_40, eX3_shift_41, eX3_shift_42, eX3_shift_42N, eX3_shift_43, eX3_shift_44, eX3_shift_45, eX3_shift_46, eX3_shift_47, eX3_shift_48, eX3_shift_51, lgp, lgn, lgz, i10, i00, if_true, if_false, eq_self, not_true, not_false_eq_true, m10, n4e, upw2q, rv0, rv1, rv2, rv3, lmi, lmx, ite_le, n45, n54, true_or, or_true, false_or, or_false, false_and, and_false, kx_l, kx_r, go_s, gl_s, gi_s, gb_s2, gb_s3, gq_s, wt_nil, wt_int, wt_long, wt_ref, wt_null, nl_int, nl_long, nl_ref, nl_null, nl_none, rf_n, rf_s, rf_st, tl_s, tl_n, g0, gS, ex1, nb_b, nb_0, nb_1, nf_i, nf_l, nf_ra, nf_ro, nf_na, nf_no, nf_b0, nf_z0, t45_4, t45_5, true_and, and_true, List.set_cons_zero, List.set_cons_succ, List.length_cons, List.length_nil, rd_s, upw_s, ne_eq, not_false_eq_true, Nat.zero_add, Nat.add_zero]
    | with_reducible refine itx (fun _ => ?_) (fun _ => ?_)
    | split
    | with_reducible intro _
    | omega
set_option maxHeartbeats 4000000 in
theorem fX3_span {a0 a1 a2 : Int32} (hM : MS g w0 y nM kd th s w) (hX : ¬ (okC a0 ∧ okC a1 ∧ okC a2) → ∀ w', MS g w0 y nM kd 1 s w' → Q (.inl (some (.int 0))) w') (hS : okC a0 → okC a1 → okC a2 → (s.2.1 a1.toNatClampNeg = none ∨ s.2.1 a2.toNatClampNeg = none) → ∀ w', MS g w0 y nM kd 2 s w' → Q (.inl (some (.int 0))) w') (hT : okC a0 → okC a1 → okC a2 → ∀ r q, s.2.1 a1.toNatClampNeg = some r → s.2.1 a2.toNatClampNeg = some q → oP r.1 r.2.1 q.2.2.1 q.2.2.2 → ∀ w', MS g w0 y nM kd 0 (sMk s a0.toNatClampNeg (r.1, r.2.1, q.2.2.1, q.2.2.2)) w' → Q (.inl (some (.int 1))) w') (hF : okC a0 → okC a1 → okC a2 → ∀ r q, s.2.1 a1.toNatClampNeg = some r → s.2.1 a2.toNatClampNeg = some q → ¬ oP r.1 r.2.1 q.2.2.1 q.2.2.2 → ∀ w', MS g w0 y nM kd 0 (sRf s) w' → Q (.inl (some (.int (-9)))) w') : WP (MX3_span g) Q (0, [some (.ref y), some (.int a0), some (.int a1), some (.int a2)], [], w, 0, 0) := by
  repeat' first
    | with_reducible assumption
    | with_reducible refine And.intro ?_ ?_
    | with_reducible exact vpi6 (by assumption) (by assumption)
    | with_reducible exact vpi8 (by assumption) (by assumption)
    | with_reducible exact trivial
    | with_reducible exact absurd (by assumption) n10'
    | with_reducible exact n00x (by assumption)
    | with_reducible exact hX (fun h => absurd h.1 (by assumption)) _ (by assumption)
    | with_reducible exact hX (fun h => absurd h.2.1 (by assumption)) _ (by assumption)
    | with_reducible exact hX (fun h => absurd h.2.2 (by assumption)) _ (by assumption)
    | with_reducible exact hS (by assumption) (by assumption) (by assumption) (Or.inl (by assumption)) _ (by assumption)
    | with_reducible exact hS (by assumption) (by assumption) (by assumption) (Or.inr (by assumption)) _ (by assumption)
    | with_reducible refine fX3_isNoCard (fun _ => ?_) (fun _ => ?_)
    | with_reducible refine fX3_start (by assumption) (by decide) (fun _ w1 h1 => ?_) (fun _ w1 h1 => ?_)
    | with_reducible refine fX3_refuse (by assumption) (by decide) (fun _ => ?_) (fun _ w2 h2 => ?_)
    | with_reducible refine go_S (by assumption) (fun _ _ hY => ?_)
    | with_reducible refine fX3_isBare (by assumption) (by assumption) (fun _ => ?_) (fun _ _ => ?_)
    | with_reducible exact MS.gC (by assumption) (by assumption)
    | with_reducible exact MS.gP (by assumption) (by assumption)
    | (simp only [rv0, rv1, rv2, rv3])
    | with_reducible refine sGetK (by assumption) (by assumption) (by assumption) (by assumption) (fun _ hb => ?_)
    | with_reducible exact rowA.ca (by assumption)
    | with_reducible refine gl_A (by assumption) ?_
    | with_reducible exact vpi4.1
    | with_reducible exact vpi4.2.1
    | with_reducible exact vpi4.2.2.1
    | with_reducible exact vpi4.2.2.2
    | with_reducible refine fX3_make (by assumption) (by assumption) (fun hyes w3 h3 => ?_) (fun hno w3 h3 => ?_)
    | with_reducible exact hT (by assumption) (by assumption) (by assumption) _ _ (by assumption) (by assumption) hyes _ h3
    | with_reducible exact hF (by assumption) (by assumption) (by assumption) _ _ (by assumption) (by assumption) hno _ h3
    | simp only [eX3_span_0, eX3_span_0N, eX3_span_1, eX3_span_2, eX3_span_5, eX3_span_8, eX3_span_9, eX3_span_12, eX3_span_15, eX3_span_16, eX3_span_19, eX3_span_22, eX3_span_23, eX3_span_26, eX3_span_27, eX3_span_28, eX3_span_31, eX3_span_34, eX3_span_34N, eX3_span_35, eX3_span_35N, eX3_span_36, eX3_span_37, eX3_span_40, eX3_span_43, eX3_span_43N, eX3_span_44, eX3_span_45, eX3_span_48, eX3_span_51, eX3_span_52, eX3_span_55, eX3_span_56, eX3_span_57, eX3_span_60, eX3_span_63, eX3_span_64, eX3_span_65, eX3_span_65N, eX3_span_66, eX3_span_67, eX3_span_67N, eX3_span_68, eX3_span_71, eX3_span_72, eX3_span_75N, eX3_span_75R, eX3_span_78, eX3_span_79, eX3_span_80, eX3_span_80N, eX3_span_81, eX3_span_84, eX3_span_85, eX3_span_88N, eX3_span_88R, eX3_span_91, eX3_span_92, eX3_span_93, eX3_span_93N, eX3_span_94, eX3_span_97, eX3_span_98, eX3_span_101N, eX3_span_101R, eX3_span_104, eX3_span_105, eX3_span_106, eX3_span_106N, eX3_span_107, eX3_span_110, eX3_span_111, eX3_span_114N, eX3_span_114R, eX3_span_117, eX3_span_118, eX3_span_119, eX3_span_122, lgp, lgn, lgz, i10, i00, if_true, if_false, eq_self, not_true, not_false_eq_true, m10, n4e, upw2q, rv0, rv1, rv2, rv3, lmi, lmx, ite_le, n45, n54, true_or, or_true, false_or, or_false, false_and, and_false, kx_l, kx_r, go_s, gl_s, gi_s, gb_s2, gb_s3, gq_s, wt_nil, wt_int, wt_long, wt_ref, wt_null, nl_int, nl_long, nl_ref, nl_null, nl_none, rf_n, rf_s, rf_st, tl_s, tl_n, g0, gS, ex1, nb_b, nb_0, nb_1, nf_i, nf_l, nf_ra, nf_ro, nf_na, nf_no, nf_b0, nf_z0, t45_4, t45_5, true_and, and_true, List.set_cons_zero, List.set_cons_succ, List.length_cons, List.length_nil, rd_s, upw_s, ne_eq, not_false_eq_true, Nat.zero_add, Nat.add_zero]
    | with_reducible refine itx (fun _ => ?_) (fun _ => ?_)
    | split
    | with_reducible intro _
    | omega
end
