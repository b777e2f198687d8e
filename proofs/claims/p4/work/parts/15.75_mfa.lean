/-! 75.mfa.lean.txt -/
section
section
variable {g : RO} {Q : Ot → Hw → Prop} {w0 w : Hw} {y nM : Nat} {kd th : Int32} {s : AS}
/-! MODEL, FUNCTIONAL, 11: what only asks leaves the state -/
theorem MS.cA {a : Int32} {r : R4} (h : MS g w0 y nM kd th s w) (k : okC a) (e : s.2.1 a.toNatClampNeg = some r) : ∃ b, CAt g w y a (some b) := by
  obtain ⟨cL, pL, D1, D2, c1, c2, h1, h2, a1, a2, a3, a4, a5, a6, a7, a8, a9, b1, b2⟩ := h.1
  have kk := b1 _ (c6 k)
  cases e1 : h1 a.toNatClampNeg with
  | none =>
    rw [e1, e] at kk
    exact (kk : False).elim
  | some b => exact ⟨b, nM, cL, pL, D1, c1, _, _, _, _, h1, a1, a3, a4, e1⟩
theorem MS.ts {b d N : Nat} {c : Int32} {w1 : Hw} (hT : TS g w1 b d N c w) (h : MS g w0 y nM kd th s w1) : MS g w0 y nM kd th s w := h.ext hT.1
theorem msEx2 {w1 : Hw} (k : ext g w1 w) (h : MS g w0 y nM kd th s w1) : MS g w0 y nM kd th s w := h.ext k
theorem rowA.ts {b d N p : Nat} {c : Int32} {w1 : Hw} {r : R4} (hT : TS g w1 b d N c w) (h : rowA w1 p r) : rowA w p r := h.ext hT.1
theorem gX3_likesNow {a : Int32} {r : R4} (hM : MS g w0 y nM kd th s w) (k : okC a) (e : s.2.1 a.toNatClampNeg = some r) (hQ : ∀ v : Int32, Q (.inl (some (.int v))) w) : WP (MX3_likesNow g) Q (0, [some (.ref y), some (.int a), none, none], [], w, 0, 0) := by
  obtain ⟨b, hC⟩ := hM.cA k e
  exact sX3_likesNow hM.mm hC k.1 (lt65 k.2) hQ
theorem gX3_oftenNow {a : Int32} {r : R4} (hM : MS g w0 y nM kd th s w) (k : okC a) (e : s.2.1 a.toNatClampNeg = some r) (hQ : ∀ (v : Int32) w', MS g w0 y nM kd th s w' → Q (.inl (some (.int v))) w') : WP (MX3_oftenNow g) Q (0, [some (.ref y), some (.int a), none, none, none], [], w, 0, 0) := by
  obtain ⟨b, hC⟩ := hM.cA k e
  exact sX3_oftenNow hM.mm hC k.1 (lt65 k.2) (fun v w' hk => hQ v w' (hM.ext hk))
theorem gX3_count_56 {a c e : Int32} {r : R4} {k m : Nat} (hM : MS g w0 y nM kd th s w) (kc : okC a) (e1 : s.2.1 a.toNatClampNeg = some r) (k2 : ¬ 60 < e) (hQ : ∀ v : Int32, Q (.inl (some (.int v))) w) (hk : k ≤ 0) (hm : m ≤ 0) : WP (MX3_count g) Q (56, [some (.ref y), some (.int a), some (.int c), some (.int e), some (.int 0), some (.int 0)], [], w, k, m) := by
  obtain ⟨b, hC⟩ := hM.cA kc e1
  exact lX3_count_56 hM.mm hC kc.1 (lt65 kc.2) k2 hQ 70 _ _ _ _ (n60 k2) hk hm
set_option maxHeartbeats 4000000 in
theorem gX3_whichValid {a0 a1 : Int32} (hM : MS g w0 y nM kd th s w) (hQ : ∀ (v th' : Int32) w', MS g w0 y nM kd th' s w' → Q (.inl (some (.int v))) w') : WP (MX3_whichValid g) Q (0, [some (.ref y), some (.int a0), some (.int a1)], [], w, 0, 0) := by
  repeat' first
    | with_reducible assumption
    | with_reducible refine And.intro ?_ ?_
    | with_reducible exact vpi6 (by assumption) (by assumption)
    | with_reducible exact vpi8 (by assumption) (by assumption)
    | with_reducible exact trivial
    | with_reducible exact absurd (by assumption) n10'
    | with_reducible exact n00x (by assumption)
    | with_reducible refine fX3_isNone (by assumption) (fun _ w1 h1 => ?_) (fun _ _ w1 h1 => ?_) (fun _ _ _ w1 h1 => ?_)
    | with_reducible refine fX3_isNoEnd_ (by assumption) (fun _ w1 h1 => ?_) (fun _ _ w1 h1 => ?_) (fun _ _ _ w1 h1 => ?_) (fun _ _ _ _ w1 h1 => ?_)
    | with_reducible refine sX3_whichNow (rowA.row (by assumption)) (fun _ => ?_)
    | with_reducible refine sX3_aroundNow (rowA.row (by assumption)) (And.left (by assumption : okW _ 3)) (And.right (by assumption : okW _ 3)) (fun _ => ?_)
    | with_reducible refine sX3_whoNow (MS.mm (by assumption)) (And.left (by assumption : okN _)) (lt87 (And.right (by assumption : okN _))) (fun _ => ?_)
    | with_reducible refine sX3_whichNow_ (MS.mm (by assumption)) (fun _ => ?_)
    | with_reducible refine gX3_likesNow (by assumption) (by assumption) (by assumption) (fun _ => ?_)
    | with_reducible refine gX3_oftenNow (by assumption) (by assumption) (by assumption) (fun _ w5 h5 => ?_)
    | with_reducible refine sX3_pileNowM (MS.mm (by assumption)) (And.left (by assumption : okN _)) (lt87 (And.right (by assumption : okN _))) (by assumption) (by assumption) (fun _ w5 k5 => ?_)
    | with_reducible refine sX3_houseNow (MS.mm (by assumption)) (by assumption) (by assumption) (fun _ w5 k5 => ?_)
    | with_reducible exact hQ _ _ _ (MS.ext (by assumption) (by assumption))
    | with_reducible refine sX3_fixed (rowA.row (by assumption)) ?_ ?_
    | with_reducible refine gX3_count_56 (by assumption) (by assumption) (by assumption) (by assumption) (fun _ => ?_) (by first | assumption | omega) (by first | assumption | omega)
    | with_reducible exact hQ _ _ _ (by assumption)
    | with_reducible refine fX3_isNoNumber (fun _ => ?_) (fun _ => ?_)
    | with_reducible refine fX3_isNoCard (fun _ => ?_) (fun _ => ?_)
    | with_reducible refine fX3_isNoEnd (fun _ => ?_) (fun _ => ?_)
    | with_reducible refine fX3_isIn (fun _ _ => ?_) (fun _ => ?_)
    | with_reducible refine fX3_start (by assumption) (by decide) (fun _ w1 h1 => ?_) (fun _ w1 h1 => ?_)
    | with_reducible refine fX3_refuse (by assumption) (by decide) (fun _ => ?_) (fun _ w2 h2 => ?_)
    | with_reducible refine go_S (by assumption) (fun _ _ hY => ?_)
    | with_reducible refine fX3_isBare (by assumption) (by assumption) (fun _ => ?_) (fun _ _ => ?_)
    | with_reducible exact MS.gC (by assumption) (by assumption)
    | with_reducible exact MS.gP (by assumption) (by assumption)
    | (simp only [rv0, rv1, rv2, rv3])
    | with_reducible refine sGetK (by assumption) (by assumption) (by assumption) (by assumption) (fun _ hb => ?_)
    | with_reducible exact rowA.ca (by assumption)
    | with_reducible refine gl_A (by assumption) ?_
    | with_reducible exact vpi4.1
    | with_reducible exact vpi4.2.1
    | with_reducible exact vpi4.2.2.1
    | with_reducible exact vpi4.2.2.2
    | simp only [eX3_whichValid_0, eX3_whichValid_0N, eX3_whichValid_1, eX3_whichValid_2, eX3_whichValid_5, eX3_whichValid_8, eX3_whichValid_9, eX3_whichValid_12, eX3_whichValid_12N, eX3_whichValid_13, eX3_whichValid_16, eX3_whichValid_17, eX3_whichValid_20N, eX3_whichValid_20R, eX3_whichValid_23, eX3_whichValid_24R, eX3_whichValid_24N, eX3_whichValid_27, lgp, lgn, lgz, i10, i00, if_true, if_false, eq_self, not_true, not_false_eq_true, m10, n4e, upw2q, rv0, rv1, rv2, rv3, lmi, lmx, ite_le, n45, n54, true_or, or_true, false_or, or_false, false_and, and_false, kx_l, kx_r, go_s, gl_s, gi_s, gb_s2, gb_s3, gq_s, wt_nil, wt_int, wt_long, wt_ref, wt_null, nl_int, nl_long, nl_ref, nl_null, nl_none, rf_n, rf_s, rf_st, tl_s, tl_n, g0, gS, ex1, nb_b, nb_0, nb_1, nf_i, nf_l, nf_ra, nf_ro, nf_na, nf_no, nf_b0, nf_z0, t45_4, t45_5, true_and, and_true, List.set_cons_zero, List.set_cons_succ, List.length_cons, List.length_nil, rd_s, upw_s, ne_eq, not_false_eq_true, Nat.zero_add, Nat.add_zero]
    | with_reducible refine itx (fun _ => ?_) (fun _ => ?_)
    | split
    | with_reducible intro _
    | omega
set_option maxHeartbeats 4000000 in
theorem gX3_around {a0 a1 a2 : Int32} (hM : MS g w0 y nM kd th s w) (hQ : ∀ (v th' : Int32) w', MS g w0 y nM kd th' s w' → Q (.inl (some (.int v))) w') : WP (MX3_around g) Q (0, [some (.ref y), some (.int a0), some (.int a1), some (.int a2)], [], w, 0, 0) := by
  repeat' first
    | with_reducible assumption
    | with_reducible refine And.intro ?_ ?_
    | with_reducible exact vpi6 (by assumption) (by assumption)
    | with_reducible exact vpi8 (by assumption) (by assumption)
    | with_reducible exact trivial
    | with_reducible exact absurd (by assumption) n10'
    | with_reducible exact n00x (by assumption)
    | with_reducible refine fX3_isNone (by assumption) (fun _ w1 h1 => ?_) (fun _ _ w1 h1 => ?_) (fun _ _ _ w1 h1 => ?_)
    | with_reducible refine fX3_isNoEnd_ (by assumption) (fun _ w1 h1 => ?_) (fun _ _ w1 h1 => ?_) (fun _ _ _ w1 h1 => ?_) (fun _ _ _ _ w1 h1 => ?_)
    | with_reducible refine sX3_whichNow (rowA.row (by assumption)) (fun _ => ?_)
    | with_reducible refine sX3_aroundNow (rowA.row (by assumption)) (And.left (by assumption : okW _ 3)) (And.right (by assumption : okW _ 3)) (fun _ => ?_)
    | with_reducible refine sX3_whoNow (MS.mm (by assumption)) (And.left (by assumption : okN _)) (lt87 (And.right (by assumption : okN _))) (fun _ => ?_)
    | with_reducible refine sX3_whichNow_ (MS.mm (by assumption)) (fun _ => ?_)
    | with_reducible refine gX3_likesNow (by assumption) (by assumption) (by assumption) (fun _ => ?_)
    | with_reducible refine gX3_oftenNow (by assumption) (by assumption) (by assumption) (fun _ w5 h5 => ?_)
    | with_reducible refine sX3_pileNowM (MS.mm (by assumption)) (And.left (by assumption : okN _)) (lt87 (And.right (by assumption : okN _))) (by assumption) (by assumption) (fun _ w5 k5 => ?_)
    | with_reducible refine sX3_houseNow (MS.mm (by assumption)) (by assumption) (by assumption) (fun _ w5 k5 => ?_)
    | with_reducible exact hQ _ _ _ (MS.ext (by assumption) (by assumption))
    | with_reducible refine sX3_fixed (rowA.row (by assumption)) ?_ ?_
    | with_reducible refine gX3_count_56 (by assumption) (by assumption) (by assumption) (by assumption) (fun _ => ?_) (by first | assumption | omega) (by first | assumption | omega)
    | with_reducible exact hQ _ _ _ (by assumption)
    | with_reducible refine fX3_isNoNumber (fun _ => ?_) (fun _ => ?_)
    | with_reducible refine fX3_isNoCard (fun _ => ?_) (fun _ => ?_)
    | with_reducible refine fX3_isNoEnd (fun _ => ?_) (fun _ => ?_)
    | with_reducible refine fX3_isIn (fun _ _ => ?_) (fun _ => ?_)
    | with_reducible refine fX3_start (by assumption) (by decide) (fun _ w1 h1 => ?_) (fun _ w1 h1 => ?_)
    | with_reducible refine fX3_refuse (by assumption) (by decide) (fun _ => ?_) (fun _ w2 h2 => ?_)
    | with_reducible refine go_S (by assumption) (fun _ _ hY => ?_)
    | with_reducible refine fX3_isBare (by assumption) (by assumption) (fun _ => ?_) (fun _ _ => ?_)
    | with_reducible exact MS.gC (by assumption) (by assumption)
    | with_reducible exact MS.gP (by assumption) (by assumption)
    | (simp only [rv0, rv1, rv2, rv3])
    | with_reducible refine sGetK (by assumption) (by assumption) (by assumption) (by assumption) (fun _ hb => ?_)
    | with_reducible exact rowA.ca (by assumption)
    | with_reducible refine gl_A (by assumption) ?_
    | with_reducible exact vpi4.1
    | with_reducible exact vpi4.2.1
    | with_reducible exact vpi4.2.2.1
    | with_reducible exact vpi4.2.2.2
    | simp only [eX3_around_0, eX3_around_0N, eX3_around_1, eX3_around_2, eX3_around_3, eX3_around_6, eX3_around_9, eX3_around_10, eX3_around_13, eX3_around_13N, eX3_around_14, eX3_around_17, eX3_around_18, eX3_around_21N, eX3_around_21R, eX3_around_24, eX3_around_25, eX3_around_26R, eX3_around_26N, eX3_around_29, lgp, lgn, lgz, i10, i00, if_true, if_false, eq_self, not_true, not_false_eq_true, m10, n4e, upw2q, rv0, rv1, rv2, rv3, lmi, lmx, ite_le, n45, n54, true_or, or_true, false_or, or_false, false_and, and_false, kx_l, kx_r, go_s, gl_s, gi_s, gb_s2, gb_s3, gq_s, wt_nil, wt_int, wt_long, wt_ref, wt_null, nl_int, nl_long, nl_ref, nl_null, nl_none, rf_n, rf_s, rf_st, tl_s, tl_n, g0, gS, ex1, nb_b, nb_0, nb_1, nf_i, nf_l, nf_ra, nf_ro, nf_na, nf_no, nf_b0, nf_z0, t45_4, t45_5, true_and, and_true, List.set_cons_zero, List.set_cons_succ, List.length_cons, List.length_nil, rd_s, upw_s, ne_eq, not_false_eq_true, Nat.zero_add, Nat.add_zero]
    | with_reducible refine itx (fun _ => ?_) (fun _ => ?_)
    | split
    | with_reducible intro _
    | omega
set_option maxHeartbeats 4000000 in
theorem gX3_isSameAs {a0 a1 : Int32} (hM : MS g w0 y nM kd th s w) (hQ : ∀ (v th' : Int32) w', MS g w0 y nM kd th' s w' → Q (.inl (some (.int v))) w') : WP (MX3_isSameAs g) Q (0, [some (.ref y), some (.int a0), some (.int a1)], [], w, 0, 0) := by
  repeat' first
    | with_reducible assumption
    | with_reducible refine And.intro ?_ ?_
    | with_reducible exact vpi6 (by assumption) (by assumption)
    | with_reducible exact vpi8 (by assumption) (by assumption)
    | with_reducible exact trivial
    | with_reducible exact absurd (by assumption) n10'
    | with_reducible exact n00x (by assumption)
    | with_reducible refine fX3_isNone (by assumption) (fun _ w1 h1 => ?_) (fun _ _ w1 h1 => ?_) (fun _ _ _ w1 h1 => ?_)
    | with_reducible refine fX3_isNoEnd_ (by assumption) (fun _ w1 h1 => ?_) (fun _ _ w1 h1 => ?_) (fun _ _ _ w1 h1 => ?_) (fun _ _ _ _ w1 h1 => ?_)
    | with_reducible refine sX3_whichNow (rowA.row (by assumption)) (fun _ => ?_)
    | with_reducible refine sX3_aroundNow (rowA.row (by assumption)) (And.left (by assumption : okW _ 3)) (And.right (by assumption : okW _ 3)) (fun _ => ?_)
    | with_reducible refine sX3_whoNow (MS.mm (by assumption)) (And.left (by assumption : okN _)) (lt87 (And.right (by assumption : okN _))) (fun _ => ?_)
    | with_reducible refine sX3_whichNow_ (MS.mm (by assumption)) (fun _ => ?_)
    | with_reducible refine gX3_likesNow (by assumption) (by assumption) (by assumption) (fun _ => ?_)
    | with_reducible refine gX3_oftenNow (by assumption) (by assumption) (by assumption) (fun _ w5 h5 => ?_)
    | with_reducible refine sX3_pileNowM (MS.mm (by assumption)) (And.left (by assumption : okN _)) (lt87 (And.right (by assumption : okN _))) (by assumption) (by assumption) (fun _ w5 k5 => ?_)
    | with_reducible refine sX3_houseNow (MS.mm (by assumption)) (by assumption) (by assumption) (fun _ w5 k5 => ?_)
    | with_reducible exact hQ _ _ _ (MS.ext (by assumption) (by assumption))
    | with_reducible refine sX3_fixed (rowA.row (by assumption)) ?_ ?_
    | with_reducible refine gX3_count_56 (by assumption) (by assumption) (by assumption) (by assumption) (fun _ => ?_) (by first | assumption | omega) (by first | assumption | omega)
    | with_reducible exact hQ _ _ _ (by assumption)
    | with_reducible refine fX3_isNoNumber (fun _ => ?_) (fun _ => ?_)
    | with_reducible refine fX3_isNoCard (fun _ => ?_) (fun _ => ?_)
    | with_reducible refine fX3_isNoEnd (fun _ => ?_) (fun _ => ?_)
    | with_reducible refine fX3_isIn (fun _ _ => ?_) (fun _ => ?_)
    | with_reducible refine fX3_start (by assumption) (by decide) (fun _ w1 h1 => ?_) (fun _ w1 h1 => ?_)
    | with_reducible refine fX3_refuse (by assumption) (by decide) (fun _ => ?_) (fun _ w2 h2 => ?_)
    | with_reducible refine go_S (by assumption) (fun _ _ hY => ?_)
    | with_reducible refine fX3_isBare (by assumption) (by assumption) (fun _ => ?_) (fun _ _ => ?_)
    | with_reducible exact MS.gC (by assumption) (by assumption)
    | with_reducible exact MS.gP (by assumption) (by assumption)
    | (simp only [rv0, rv1, rv2, rv3])
    | with_reducible refine sGetK (by assumption) (by assumption) (by assumption) (by assumption) (fun _ hb => ?_)
    | with_reducible exact rowA.ca (by assumption)
    | with_reducible refine gl_A (by assumption) ?_
    | with_reducible exact vpi4.1
    | with_reducible exact vpi4.2.1
    | with_reducible exact vpi4.2.2.1
    | with_reducible exact vpi4.2.2.2
    | simp only [eX3_isSameAs_0, eX3_isSameAs_0N, eX3_isSameAs_1, eX3_isSameAs_2, eX3_isSameAs_5, eX3_isSameAs_6, eX3_isSameAs_9, eX3_isSameAs_12, eX3_isSameAs_12N, eX3_isSameAs_13, eX3_isSameAs_14, eX3_isSameAs_15, eX3_isSameAs_16, eX3_isSameAs_19, eX3_isSameAs_22, eX3_isSameAs_23, eX3_isSameAs_26, eX3_isSameAs_27, eX3_isSameAs_28, eX3_isSameAs_31, eX3_isSameAs_34, eX3_isSameAs_34N, eX3_isSameAs_35, eX3_isSameAs_35N, eX3_isSameAs_36, eX3_isSameAs_37, eX3_isSameAs_40, eX3_isSameAs_41, eX3_isSameAs_44, eX3_isSameAs_47, eX3_isSameAs_48, eX3_isSameAs_49, eX3_isSameAs_50, eX3_isSameAs_51, eX3_isSameAs_54, eX3_isSameAs_55, eX3_isSameAs_56, eX3_isSameAs_59, eX3_isSameAs_60, eX3_isSameAs_61, eX3_isSameAs_64, eX3_isSameAs_64N, eX3_isSameAs_65, eX3_isSameAs_68, eX3_isSameAs_69, eX3_isSameAs_72N, eX3_isSameAs_72R, eX3_isSameAs_75R, eX3_isSameAs_75N, eX3_isSameAs_78, eX3_isSameAs_81, eX3_isSameAs_82, eX3_isSameAs_85, eX3_isSameAs_86, lgp, lgn, lgz, i10, i00, if_true, if_false, eq_self, not_true, not_false_eq_true, m10, n4e, upw2q, rv0, rv1, rv2, rv3, lmi, lmx, ite_le, n45, n54, true_or, or_true, false_or, or_false, false_and, and_false, kx_l, kx_r, go_s, gl_s, gi_s, gb_s2, gb_s3, gq_s, wt_nil, wt_int, wt_long, wt_ref, wt_null, nl_int, nl_long, nl_ref, nl_null, nl_none, rf_n, rf_s, rf_st, tl_s, tl_n, g0, gS, ex1, nb_b, nb_0, nb_1, nf_i, nf_l, nf_ra, nf_ro, nf_na, nf_no, nf_b0, nf_z0, t45_4, t45_5, true_and, and_true, List.set_cons_zero, List.set_cons_succ, List.length_cons, List.length_nil, rd_s, upw_s, ne_eq, not_false_eq_true, Nat.zero_add, Nat.add_zero]
    | with_reducible refine itx (fun _ => ?_) (fun _ => ?_)
    | split
    | with_reducible intro _
    | omega
set_option maxHeartbeats 4000000 in
theorem gX3_count {a0 a1 a2 : Int32} (hM : MS g w0 y nM kd th s w) (hQ : ∀ (v th' : Int32) w', MS g w0 y nM kd th' s w' → Q (.inl (some (.int v))) w') : WP (MX3_count g) Q (0, [some (.ref y), some (.int a0), some (.int a1), some (.int a2), none, none], [], w, 0, 0) := by
  repeat' first
    | with_reducible assumption
    | with_reducible refine And.intro ?_ ?_
    | with_reducible exact vpi6 (by assumption) (by assumption)
    | with_reducible exact vpi8 (by assumption) (by assumption)
    | with_reducible exact trivial
    | with_reducible exact absurd (by assumption) n10'
    | with_reducible exact n00x (by assumption)
    | with_reducible refine fX3_isNone (by assumption) (fun _ w1 h1 => ?_) (fun _ _ w1 h1 => ?_) (fun _ _ _ w1 h1 => ?_)
    | with_reducible refine fX3_isNoEnd_ (by assumption) (fun _ w1 h1 => ?_) (fun _ _ w1 h1 => ?_) (fun _ _ _ w1 h1 => ?_) (fun _ _ _ _ w1 h1 => ?_)
    | with_reducible refine sX3_whichNow (rowA.row (by assumption)) (fun _ => ?_)
    | with_reducible refine sX3_aroundNow (rowA.row (by assumption)) (And.left (by assumption : okW _ 3)) (And.right (by assumption : okW _ 3)) (fun _ => ?_)
    | with_reducible refine sX3_whoNow (MS.mm (by assumption)) (And.left (by assumption : okN _)) (lt87 (And.right (by assumption : okN _))) (fun _ => ?_)
    | with_reducible refine sX3_whichNow_ (MS.mm (by assumption)) (fun _ => ?_)
    | with_reducible refine gX3_likesNow (by assumption) (by assumption) (by assumption) (fun _ => ?_)
    | with_reducible refine gX3_oftenNow (by assumption) (by assumption) (by assumption) (fun _ w5 h5 => ?_)
    | with_reducible refine sX3_pileNowM (MS.mm (by assumption)) (And.left (by assumption : okN _)) (lt87 (And.right (by assumption : okN _))) (by assumption) (by assumption) (fun _ w5 k5 => ?_)
    | with_reducible refine sX3_houseNow (MS.mm (by assumption)) (by assumption) (by assumption) (fun _ w5 k5 => ?_)
    | with_reducible exact hQ _ _ _ (MS.ext (by assumption) (by assumption))
    | with_reducible refine sX3_fixed (rowA.row (by assumption)) ?_ ?_
    | with_reducible refine gX3_count_56 (by assumption) (by assumption) (by assumption) (by assumption) (fun _ => ?_) (by first | assumption | omega) (by first | assumption | omega)
    | with_reducible exact hQ _ _ _ (by assumption)
    | with_reducible refine fX3_isNoNumber (fun _ => ?_) (fun _ => ?_)
    | with_reducible refine fX3_isNoCard (fun _ => ?_) (fun _ => ?_)
    | with_reducible refine fX3_isNoEnd (fun _ => ?_) (fun _ => ?_)
    | with_reducible refine fX3_isIn (fun _ _ => ?_) (fun _ => ?_)
    | with_reducible refine fX3_start (by assumption) (by decide) (fun _ w1 h1 => ?_) (fun _ w1 h1 => ?_)
    | with_reducible refine fX3_refuse (by assumption) (by decide) (fun _ => ?_) (fun _ w2 h2 => ?_)
    | with_reducible refine go_S (by assumption) (fun _ _ hY => ?_)
    | with_reducible refine fX3_isBare (by assumption) (by assumption) (fun _ => ?_) (fun _ _ => ?_)
    | with_reducible exact MS.gC (by assumption) (by assumption)
    | with_reducible exact MS.gP (by assumption) (by assumption)
    | (simp only [rv0, rv1, rv2, rv3])
    | with_reducible refine sGetK (by assumption) (by assumption) (by assumption) (by assumption) (fun _ hb => ?_)
    | with_reducible exact rowA.ca (by assumption)
    | with_reducible refine gl_A (by assumption) ?_
    | with_reducible exact vpi4.1
    | with_reducible exact vpi4.2.1
    | with_reducible exact vpi4.2.2.1
    | with_reducible exact vpi4.2.2.2
    | simp only [eX3_count_0, eX3_count_0N, eX3_count_1, eX3_count_2, eX3_count_5, eX3_count_6, eX3_count_9, eX3_count_12, eX3_count_12N, eX3_count_13, eX3_count_14, eX3_count_15, eX3_count_17, eX3_count_20, eX3_count_23, eX3_count_24, eX3_count_27, eX3_count_28, eX3_count_29, eX3_count_32, eX3_count_35, eX3_count_35N, eX3_count_36, eX3_count_36N, eX3_count_37, eX3_count_38, eX3_count_41, eX3_count_42, eX3_count_45, eX3_count_48, eX3_count_49, eX3_count_50, eX3_count_51, eX3_count_53, eX3_count_54, eX3_count_58, eX3_count_59, eX3_count_62, eX3_count_64, eX3_count_64N, eX3_count_65, eX3_count_68, eX3_count_69, eX3_count_72N, eX3_count_72R, eX3_count_75, eX3_count_76, eX3_count_77, eX3_count_79, eX3_count_80, eX3_count_81, eX3_count_82R, eX3_count_82N, eX3_count_85, eX3_count_88, eX3_count_89, eX3_count_91, eX3_count_94, eX3_count_97, eX3_count_99, lgp, lgn, lgz, i10, i00, if_true, if_false, eq_self, not_true, not_false_eq_true, m10, n4e, upw2q, rv0, rv1, rv2, rv3, lmi, lmx, ite_le, n45, n54, true_or, or_true, false_or, or_false, false_and, and_false, kx_l, kx_r, go_s, gl_s, gi_s, gb_s2, gb_s3, gq_s, wt_nil, wt_int, wt_long, wt_ref, wt_null, nl_int, nl_long, nl_ref, nl_null, nl_none, rf_n, rf_s, rf_st, tl_s, tl_n, g0, gS, ex1, nb_b, nb_0, nb_1, nf_i, nf_l, nf_ra, nf_ro, nf_na, nf_no, nf_b0, nf_z0, t45_4, t45_5, true_and, and_true, List.set_cons_zero, List.set_cons_succ, List.length_cons, List.length_nil, rd_s, upw_s, ne_eq, not_false_eq_true, Nat.zero_add, Nat.add_zero]
    | with_reducible refine itx (fun _ => ?_) (fun _ => ?_)
    | split
    | with_reducible intro _
    | omega
set_option maxHeartbeats 4000000 in
theorem gX3_who {a0 a1 : Int32} (hM : MS g w0 y nM kd th s w) (hQ : ∀ (v th' : Int32) w', MS g w0 y nM kd th' s w' → Q (.inl (some (.int v))) w') : WP (MX3_who g) Q (0, [some (.ref y), some (.int a0), some (.int a1)], [], w, 0, 0) := by
  repeat' first
    | with_reducible assumption
    | with_reducible refine And.intro ?_ ?_
    | with_reducible exact vpi6 (by assumption) (by assumption)
    | with_reducible exact vpi8 (by assumption) (by assumption)
    | with_reducible exact trivial
    | with_reducible exact absurd (by assumption) n10'
    | with_reducible exact n00x (by assumption)
    | with_reducible refine fX3_isNone (by assumption) (fun _ w1 h1 => ?_) (fun _ _ w1 h1 => ?_) (fun _ _ _ w1 h1 => ?_)
    | with_reducible refine fX3_isNoEnd_ (by assumption) (fun _ w1 h1 => ?_) (fun _ _ w1 h1 => ?_) (fun _ _ _ w1 h1 => ?_) (fun _ _ _ _ w1 h1 => ?_)
    | with_reducible refine sX3_whichNow (rowA.row (by assumption)) (fun _ => ?_)
    | with_reducible refine sX3_aroundNow (rowA.row (by assumption)) (And.left (by assumption : okW _ 3)) (And.right (by assumption : okW _ 3)) (fun _ => ?_)
    | with_reducible refine sX3_whoNow (MS.mm (by assumption)) (And.left (by assumption : okN _)) (lt87 (And.right (by assumption : okN _))) (fun _ => ?_)
    | with_reducible refine sX3_whichNow_ (MS.mm (by assumption)) (fun _ => ?_)
    | with_reducible refine gX3_likesNow (by assumption) (by assumption) (by assumption) (fun _ => ?_)
    | with_reducible refine gX3_oftenNow (by assumption) (by assumption) (by assumption) (fun _ w5 h5 => ?_)
    | with_reducible refine sX3_pileNowM (MS.mm (by assumption)) (And.left (by assumption : okN _)) (lt87 (And.right (by assumption : okN _))) (by assumption) (by assumption) (fun _ w5 k5 => ?_)
    | with_reducible refine sX3_houseNow (MS.mm (by assumption)) (by assumption) (by assumption) (fun _ w5 k5 => ?_)
    | with_reducible exact hQ _ _ _ (MS.ext (by assumption) (by assumption))
    | with_reducible refine sX3_fixed (rowA.row (by assumption)) ?_ ?_
    | with_reducible refine gX3_count_56 (by assumption) (by assumption) (by assumption) (by assumption) (fun _ => ?_) (by first | assumption | omega) (by first | assumption | omega)
    | with_reducible exact hQ _ _ _ (by assumption)
    | with_reducible refine fX3_isNoNumber (fun _ => ?_) (fun _ => ?_)
    | with_reducible refine fX3_isNoCard (fun _ => ?_) (fun _ => ?_)
    | with_reducible refine fX3_isNoEnd (fun _ => ?_) (fun _ => ?_)
    | with_reducible refine fX3_isIn (fun _ _ => ?_) (fun _ => ?_)
    | with_reducible refine fX3_start (by assumption) (by decide) (fun _ w1 h1 => ?_) (fun _ w1 h1 => ?_)
    | with_reducible refine fX3_refuse (by assumption) (by decide) (fun _ => ?_) (fun _ w2 h2 => ?_)
    | with_reducible refine go_S (by assumption) (fun _ _ hY => ?_)
    | with_reducible refine fX3_isBare (by assumption) (by assumption) (fun _ => ?_) (fun _ _ => ?_)
    | with_reducible exact MS.gC (by assumption) (by assumption)
    | with_reducible exact MS.gP (by assumption) (by assumption)
    | (simp only [rv0, rv1, rv2, rv3])
    | with_reducible refine sGetK (by assumption) (by assumption) (by assumption) (by assumption) (fun _ hb => ?_)
    | with_reducible exact rowA.ca (by assumption)
    | with_reducible refine gl_A (by assumption) ?_
    | with_reducible exact vpi4.1
    | with_reducible exact vpi4.2.1
    | with_reducible exact vpi4.2.2.1
    | with_reducible exact vpi4.2.2.2
    | simp only [eX3_who_0, eX3_who_0N, eX3_who_1, eX3_who_2, eX3_who_5, eX3_who_6, eX3_who_9, eX3_who_12, eX3_who_12N, eX3_who_13, eX3_who_14, eX3_who_15, eX3_who_16, eX3_who_19, eX3_who_22, eX3_who_23, eX3_who_26, eX3_who_27, eX3_who_28, eX3_who_31, eX3_who_34, eX3_who_35, eX3_who_38, eX3_who_38N, eX3_who_39, eX3_who_40, eX3_who_41, eX3_who_44, lgp, lgn, lgz, i10, i00, if_true, if_false, eq_self, not_true, not_false_eq_true, m10, n4e, upw2q, rv0, rv1, rv2, rv3, lmi, lmx, ite_le, n45, n54, true_or, or_true, false_or, or_false, false_and, and_false, kx_l, kx_r, go_s, gl_s, gi_s, gb_s2, gb_s3, gq_s, wt_nil, wt_int, wt_long, wt_ref, wt_null, nl_int, nl_long, nl_ref, nl_null, nl_none, rf_n, rf_s, rf_st, tl_s, tl_n, g0, gS, ex1, nb_b, nb_0, nb_1, nf_i, nf_l, nf_ra, nf_ro, nf_na, nf_no, nf_b0, nf_z0, t45_4, t45_5, true_and, and_true, List.set_cons_zero, List.set_cons_succ, List.length_cons, List.length_nil, rd_s, upw_s, ne_eq, not_false_eq_true, Nat.zero_add, Nat.add_zero]
    | with_reducible refine itx (fun _ => ?_) (fun _ => ?_)
    | split
    | with_reducible intro _
    | omega
set_option maxHeartbeats 4000000 in
theorem gX3_which {a0 : Int32} (hM : MS g w0 y nM kd th s w) (hQ : ∀ (v th' : Int32) w', MS g w0 y nM kd th' s w' → Q (.inl (some (.int v))) w') : WP (MX3_which g) Q (0, [some (.ref y), some (.int a0)], [], w, 0, 0) := by
  repeat' first
    | with_reducible assumption
    | with_reducible refine And.intro ?_ ?_
    | with_reducible exact vpi6 (by assumption) (by assumption)
    | with_reducible exact vpi8 (by assumption) (by assumption)
    | with_reducible exact trivial
    | with_reducible exact absurd (by assumption) n10'
    | with_reducible exact n00x (by assumption)
    | with_reducible refine fX3_isNone (by assumption) (fun _ w1 h1 => ?_) (fun _ _ w1 h1 => ?_) (fun _ _ _ w1 h1 => ?_)
    | with_reducible refine fX3_isNoEnd_ (by assumption) (fun _ w1 h1 => ?_) (fun _ _ w1 h1 => ?_) (fun _ _ _ w1 h1 => ?_) (fun _ _ _ _ w1 h1 => ?_)
    | with_reducible refine sX3_whichNow (rowA.row (by assumption)) (fun _ => ?_)
    | with_reducible refine sX3_aroundNow (rowA.row (by assumption)) (And.left (by assumption : okW _ 3)) (And.right (by assumption : okW _ 3)) (fun _ => ?_)
    | with_reducible refine sX3_whoNow (MS.mm (by assumption)) (And.left (by assumption : okN _)) (lt87 (And.right (by assumption : okN _))) (fun _ => ?_)
    | with_reducible refine sX3_whichNow_ (MS.mm (by assumption)) (fun _ => ?_)
    | with_reducible refine gX3_likesNow (by assumption) (by assumption) (by assumption) (fun _ => ?_)
    | with_reducible refine gX3_oftenNow (by assumption) (by assumption) (by assumption) (fun _ w5 h5 => ?_)
    | with_reducible refine sX3_pileNowM (MS.mm (by assumption)) (And.left (by assumption : okN _)) (lt87 (And.right (by assumption : okN _))) (by assumption) (by assumption) (fun _ w5 k5 => ?_)
    | with_reducible refine sX3_houseNow (MS.mm (by assumption)) (by assumption) (by assumption) (fun _ w5 k5 => ?_)
    | with_reducible exact hQ _ _ _ (MS.ext (by assumption) (by assumption))
    | with_reducible refine sX3_fixed (rowA.row (by assumption)) ?_ ?_
    | with_reducible refine gX3_count_56 (by assumption) (by assumption) (by assumption) (by assumption) (fun _ => ?_) (by first | assumption | omega) (by first | assumption | omega)
    | with_reducible exact hQ _ _ _ (by assumption)
    | with_reducible refine fX3_isNoNumber (fun _ => ?_) (fun _ => ?_)
    | with_reducible refine fX3_isNoCard (fun _ => ?_) (fun _ => ?_)
    | with_reducible refine fX3_isNoEnd (fun _ => ?_) (fun _ => ?_)
    | with_reducible refine fX3_isIn (fun _ _ => ?_) (fun _ => ?_)
    | with_reducible refine fX3_start (by assumption) (by decide) (fun _ w1 h1 => ?_) (fun _ w1 h1 => ?_)
    | with_reducible refine fX3_refuse (by assumption) (by decide) (fun _ => ?_) (fun _ w2 h2 => ?_)
    | with_reducible refine go_S (by assumption) (fun _ _ hY => ?_)
    | with_reducible refine fX3_isBare (by assumption) (by assumption) (fun _ => ?_) (fun _ _ => ?_)
    | with_reducible exact MS.gC (by assumption) (by assumption)
    | with_reducible exact MS.gP (by assumption) (by assumption)
    | (simp only [rv0, rv1, rv2, rv3])
    | with_reducible refine sGetK (by assumption) (by assumption) (by assumption) (by assumption) (fun _ hb => ?_)
    | with_reducible exact rowA.ca (by assumption)
    | with_reducible refine gl_A (by assumption) ?_
    | with_reducible exact vpi4.1
    | with_reducible exact vpi4.2.1
    | with_reducible exact vpi4.2.2.1
    | with_reducible exact vpi4.2.2.2
    | simp only [eX3_which_0, eX3_which_0N, eX3_which_1, eX3_which_2, eX3_which_3, eX3_which_4, eX3_which_7, eX3_which_10, eX3_which_11, eX3_which_14, eX3_which_15, eX3_which_16, eX3_which_19, eX3_which_22, eX3_which_23, eX3_which_26, eX3_which_26N, eX3_which_27, eX3_which_28, eX3_which_31, lgp, lgn, lgz, i10, i00, if_true, if_false, eq_self, not_true, not_false_eq_true, m10, n4e, upw2q, rv0, rv1, rv2, rv3, lmi, lmx, ite_le, n45, n54, true_or, or_true, false_or, or_false, false_and, and_false, kx_l, kx_r, go_s, gl_s, gi_s, gb_s2, gb_s3, gq_s, wt_nil, wt_int, wt_long, wt_ref, wt_null, nl_int, nl_long, nl_ref, nl_null, nl_none, rf_n, rf_s, rf_st, tl_s, tl_n, g0, gS, ex1, nb_b, nb_0, nb_1, nf_i, nf_l, nf_ra, nf_ro, nf_na, nf_no, nf_b0, nf_z0, t45_4, t45_5, true_and, and_true, List.set_cons_zero, List.set_cons_succ, List.length_cons, List.length_nil, rd_s, upw_s, ne_eq, not_false_eq_true, Nat.zero_add, Nat.add_zero]
    | with_reducible refine itx (fun _ => ?_) (fun _ => ?_)
    | split
    | with_reducible intro _
    | omega
set_option maxHeartbeats 4000000 in
theorem gX3_likes {a0 : Int32} (hM : MS g w0 y nM kd th s w) (hQ : ∀ (v th' : Int32) w', MS g w0 y nM kd th' s w' → Q (.inl (some (.int v))) w') : WP (MX3_likes g) Q (0, [some (.ref y), some (.int a0)], [], w, 0, 0) := by
  repeat' first
    | with_reducible assumption
    | with_reducible refine And.intro ?_ ?_
    | with_reducible exact vpi6 (by assumption) (by assumption)
    | with_reducible exact vpi8 (by assumption) (by assumption)
    | with_reducible exact trivial
    | with_reducible exact absurd (by assumption) n10'
    | with_reducible exact n00x (by assumption)
    | with_reducible refine fX3_isNone (by assumption) (fun _ w1 h1 => ?_) (fun _ _ w1 h1 => ?_) (fun _ _ _ w1 h1 => ?_)
    | with_reducible refine fX3_isNoEnd_ (by assumption) (fun _ w1 h1 => ?_) (fun _ _ w1 h1 => ?_) (fun _ _ _ w1 h1 => ?_) (fun _ _ _ _ w1 h1 => ?_)
    | with_reducible refine sX3_whichNow (rowA.row (by assumption)) (fun _ => ?_)
    | with_reducible refine sX3_aroundNow (rowA.row (by assumption)) (And.left (by assumption : okW _ 3)) (And.right (by assumption : okW _ 3)) (fun _ => ?_)
    | with_reducible refine sX3_whoNow (MS.mm (by assumption)) (And.left (by assumption : okN _)) (lt87 (And.right (by assumption : okN _))) (fun _ => ?_)
    | with_reducible refine sX3_whichNow_ (MS.mm (by assumption)) (fun _ => ?_)
    | with_reducible refine gX3_likesNow (by assumption) (by assumption) (by assumption) (fun _ => ?_)
    | with_reducible refine gX3_oftenNow (by assumption) (by assumption) (by assumption) (fun _ w5 h5 => ?_)
    | with_reducible refine sX3_pileNowM (MS.mm (by assumption)) (And.left (by assumption : okN _)) (lt87 (And.right (by assumption : okN _))) (by assumption) (by assumption) (fun _ w5 k5 => ?_)
    | with_reducible refine sX3_houseNow (MS.mm (by assumption)) (by assumption) (by assumption) (fun _ w5 k5 => ?_)
    | with_reducible exact hQ _ _ _ (MS.ext (by assumption) (by assumption))
    | with_reducible refine sX3_fixed (rowA.row (by assumption)) ?_ ?_
    | with_reducible refine gX3_count_56 (by assumption) (by assumption) (by assumption) (by assumption) (fun _ => ?_) (by first | assumption | omega) (by first | assumption | omega)
    | with_reducible exact hQ _ _ _ (by assumption)
    | with_reducible refine fX3_isNoNumber (fun _ => ?_) (fun _ => ?_)
    | with_reducible refine fX3_isNoCard (fun _ => ?_) (fun _ => ?_)
    | with_reducible refine fX3_isNoEnd (fun _ => ?_) (fun _ => ?_)
    | with_reducible refine fX3_isIn (fun _ _ => ?_) (fun _ => ?_)
    | with_reducible refine fX3_start (by assumption) (by decide) (fun _ w1 h1 => ?_) (fun _ w1 h1 => ?_)
    | with_reducible refine fX3_refuse (by assumption) (by decide) (fun _ => ?_) (fun _ w2 h2 => ?_)
    | with_reducible refine go_S (by assumption) (fun _ _ hY => ?_)
    | with_reducible refine fX3_isBare (by assumption) (by assumption) (fun _ => ?_) (fun _ _ => ?_)
    | with_reducible exact MS.gC (by assumption) (by assumption)
    | with_reducible exact MS.gP (by assumption) (by assumption)
    | (simp only [rv0, rv1, rv2, rv3])
    | with_reducible refine sGetK (by assumption) (by assumption) (by assumption) (by assumption) (fun _ hb => ?_)
    | with_reducible exact rowA.ca (by assumption)
    | with_reducible refine gl_A (by assumption) ?_
    | with_reducible exact vpi4.1
    | with_reducible exact vpi4.2.1
    | with_reducible exact vpi4.2.2.1
    | with_reducible exact vpi4.2.2.2
    | simp only [eX3_likes_0, eX3_likes_0N, eX3_likes_1, eX3_likes_2, eX3_likes_5, eX3_likes_8, eX3_likes_9, eX3_likes_12, eX3_likes_12N, eX3_likes_13, eX3_likes_14, eX3_likes_17, lgp, lgn, lgz, i10, i00, if_true, if_false, eq_self, not_true, not_false_eq_true, m10, n4e, upw2q, rv0, rv1, rv2, rv3, lmi, lmx, ite_le, n45, n54, true_or, or_true, false_or, or_false, false_and, and_false, kx_l, kx_r, go_s, gl_s, gi_s, gb_s2, gb_s3, gq_s, wt_nil, wt_int, wt_long, wt_ref, wt_null, nl_int, nl_long, nl_ref, nl_null, nl_none, rf_n, rf_s, rf_st, tl_s, tl_n, g0, gS, ex1, nb_b, nb_0, nb_1, nf_i, nf_l, nf_ra, nf_ro, nf_na, nf_no, nf_b0, nf_z0, t45_4, t45_5, true_and, and_true, List.set_cons_zero, List.set_cons_succ, List.length_cons, List.length_nil, rd_s, upw_s, ne_eq, not_false_eq_true, Nat.zero_add, Nat.add_zero]
    | with_reducible refine itx (fun _ => ?_) (fun _ => ?_)
    | split
    | with_reducible intro _
    | omega
set_option maxHeartbeats 4000000 in
theorem gX3_howOften {a0 : Int32} (hM : MS g w0 y nM kd th s w) (hQ : ∀ (v th' : Int32) w', MS g w0 y nM kd th' s w' → Q (.inl (some (.int v))) w') : WP (MX3_howOften g) Q (0, [some (.ref y), some (.int a0)], [], w, 0, 0) := by
  repeat' first
    | with_reducible assumption
    | with_reducible refine And.intro ?_ ?_
    | with_reducible exact vpi6 (by assumption) (by assumption)
    | with_reducible exact vpi8 (by assumption) (by assumption)
    | with_reducible exact trivial
    | with_reducible exact absurd (by assumption) n10'
    | with_reducible exact n00x (by assumption)
    | with_reducible refine fX3_isNone (by assumption) (fun _ w1 h1 => ?_) (fun _ _ w1 h1 => ?_) (fun _ _ _ w1 h1 => ?_)
    | with_reducible refine fX3_isNoEnd_ (by assumption) (fun _ w1 h1 => ?_) (fun _ _ w1 h1 => ?_) (fun _ _ _ w1 h1 => ?_) (fun _ _ _ _ w1 h1 => ?_)
    | with_reducible refine sX3_whichNow (rowA.row (by assumption)) (fun _ => ?_)
    | with_reducible refine sX3_aroundNow (rowA.row (by assumption)) (And.left (by assumption : okW _ 3)) (And.right (by assumption : okW _ 3)) (fun _ => ?_)
    | with_reducible refine sX3_whoNow (MS.mm (by assumption)) (And.left (by assumption : okN _)) (lt87 (And.right (by assumption : okN _))) (fun _ => ?_)
    | with_reducible refine sX3_whichNow_ (MS.mm (by assumption)) (fun _ => ?_)
    | with_reducible refine gX3_likesNow (by assumption) (by assumption) (by assumption) (fun _ => ?_)
    | with_reducible refine gX3_oftenNow (by assumption) (by assumption) (by assumption) (fun _ w5 h5 => ?_)
    | with_reducible refine sX3_pileNowM (MS.mm (by assumption)) (And.left (by assumption : okN _)) (lt87 (And.right (by assumption : okN _))) (by assumption) (by assumption) (fun _ w5 k5 => ?_)
    | with_reducible refine sX3_houseNow (MS.mm (by assumption)) (by assumption) (by assumption) (fun _ w5 k5 => ?_)
    | with_reducible exact hQ _ _ _ (MS.ext (by assumption) (by assumption))
    | with_reducible refine sX3_fixed (rowA.row (by assumption)) ?_ ?_
    | with_reducible refine gX3_count_56 (by assumption) (by assumption) (by assumption) (by assumption) (fun _ => ?_) (by first | assumption | omega) (by first | assumption | omega)
    | with_reducible exact hQ _ _ _ (by assumption)
    | with_reducible refine fX3_isNoNumber (fun _ => ?_) (fun _ => ?_)
    | with_reducible refine fX3_isNoCard (fun _ => ?_) (fun _ => ?_)
    | with_reducible refine fX3_isNoEnd (fun _ => ?_) (fun _ => ?_)
    | with_reducible refine fX3_isIn (fun _ _ => ?_) (fun _ => ?_)
    | with_reducible refine fX3_start (by assumption) (by decide) (fun _ w1 h1 => ?_) (fun _ w1 h1 => ?_)
    | with_reducible refine fX3_refuse (by assumption) (by decide) (fun _ => ?_) (fun _ w2 h2 => ?_)
    | with_reducible refine go_S (by assumption) (fun _ _ hY => ?_)
    | with_reducible refine fX3_isBare (by assumption) (by assumption) (fun _ => ?_) (fun _ _ => ?_)
    | with_reducible exact MS.gC (by assumption) (by assumption)
    | with_reducible exact MS.gP (by assumption) (by assumption)
    | (simp only [rv0, rv1, rv2, rv3])
    | with_reducible refine sGetK (by assumption) (by assumption) (by assumption) (by assumption) (fun _ hb => ?_)
    | with_reducible exact rowA.ca (by assumption)
    | with_reducible refine gl_A (by assumption) ?_
    | with_reducible exact vpi4.1
    | with_reducible exact vpi4.2.1
    | with_reducible exact vpi4.2.2.1
    | with_reducible exact vpi4.2.2.2
    | simp only [eX3_howOften_0, eX3_howOften_0N, eX3_howOften_1, eX3_howOften_2, eX3_howOften_5, eX3_howOften_8, eX3_howOften_9, eX3_howOften_12, eX3_howOften_12N, eX3_howOften_13, eX3_howOften_14, eX3_howOften_17, lgp, lgn, lgz, i10, i00, if_true, if_false, eq_self, not_true, not_false_eq_true, m10, n4e, upw2q, rv0, rv1, rv2, rv3, lmi, lmx, ite_le, n45, n54, true_or, or_true, false_or, or_false, false_and, and_false, kx_l, kx_r, go_s, gl_s, gi_s, gb_s2, gb_s3, gq_s, wt_nil, wt_int, wt_long, wt_ref, wt_null, nl_int, nl_long, nl_ref, nl_null, nl_none, rf_n, rf_s, rf_st, tl_s, tl_n, g0, gS, ex1, nb_b, nb_0, nb_1, nf_i, nf_l, nf_ra, nf_ro, nf_na, nf_no, nf_b0, nf_z0, t45_4, t45_5, true_and, and_true, List.set_cons_zero, List.set_cons_succ, List.length_cons, List.length_nil, rd_s, upw_s, ne_eq, not_false_eq_true, Nat.zero_add, Nat.add_zero]
    | with_reducible refine itx (fun _ => ?_) (fun _ => ?_)
    | split
    | with_reducible intro _
    | omega
set_option maxHeartbeats 4000000 in
theorem gX3_pile {a0 a1 : Int32} (hM : MS g w0 y nM kd th s w) (hQ : ∀ (v th' : Int32) w', MS g w0 y nM kd th' s w' → Q (.inl (some (.int v))) w') : WP (MX3_pile g) Q (0, [some (.ref y), some (.int a0), some (.int a1)], [], w, 0, 0) := by
  repeat' first
    | with_reducible assumption
    | with_reducible refine And.intro ?_ ?_
    | with_reducible exact vpi6 (by assumption) (by assumption)
    | with_reducible exact vpi8 (by assumption) (by assumption)
    | with_reducible exact trivial
    | with_reducible exact absurd (by assumption) n10'
    | with_reducible exact n00x (by assumption)
    | with_reducible refine fX3_isNone (by assumption) (fun _ w1 h1 => ?_) (fun _ _ w1 h1 => ?_) (fun _ _ _ w1 h1 => ?_)
    | with_reducible refine fX3_isNoEnd_ (by assumption) (fun _ w1 h1 => ?_) (fun _ _ w1 h1 => ?_) (fun _ _ _ w1 h1 => ?_) (fun _ _ _ _ w1 h1 => ?_)
    | with_reducible refine sX3_whichNow (rowA.row (by assumption)) (fun _ => ?_)
    | with_reducible refine sX3_aroundNow (rowA.row (by assumption)) (And.left (by assumption : okW _ 3)) (And.right (by assumption : okW _ 3)) (fun _ => ?_)
    | with_reducible refine sX3_whoNow (MS.mm (by assumption)) (And.left (by assumption : okN _)) (lt87 (And.right (by assumption : okN _))) (fun _ => ?_)
    | with_reducible refine sX3_whichNow_ (MS.mm (by assumption)) (fun _ => ?_)
    | with_reducible refine gX3_likesNow (by assumption) (by assumption) (by assumption) (fun _ => ?_)
    | with_reducible refine gX3_oftenNow (by assumption) (by assumption) (by assumption) (fun _ w5 h5 => ?_)
    | with_reducible refine sX3_pileNowM (MS.mm (by assumption)) (And.left (by assumption : okN _)) (lt87 (And.right (by assumption : okN _))) (by assumption) (by assumption) (fun _ w5 k5 => ?_)
    | with_reducible refine sX3_houseNow (MS.mm (by assumption)) (by assumption) (by assumption) (fun _ w5 k5 => ?_)
    | with_reducible exact hQ _ _ _ (MS.ext (by assumption) (by assumption))
    | with_reducible refine sX3_fixed (rowA.row (by assumption)) ?_ ?_
    | with_reducible refine gX3_count_56 (by assumption) (by assumption) (by assumption) (by assumption) (fun _ => ?_) (by first | assumption | omega) (by first | assumption | omega)
    | with_reducible exact hQ _ _ _ (by assumption)
    | with_reducible refine fX3_isNoNumber (fun _ => ?_) (fun _ => ?_)
    | with_reducible refine fX3_isNoCard (fun _ => ?_) (fun _ => ?_)
    | with_reducible refine fX3_isNoEnd (fun _ => ?_) (fun _ => ?_)
    | with_reducible refine fX3_isIn (fun _ _ => ?_) (fun _ => ?_)
    | with_reducible refine fX3_start (by assumption) (by decide) (fun _ w1 h1 => ?_) (fun _ w1 h1 => ?_)
    | with_reducible refine fX3_refuse (by assumption) (by decide) (fun _ => ?_) (fun _ w2 h2 => ?_)
    | with_reducible refine go_S (by assumption) (fun _ _ hY => ?_)
    | with_reducible refine fX3_isBare (by assumption) (by assumption) (fun _ => ?_) (fun _ _ => ?_)
    | with_reducible exact MS.gC (by assumption) (by assumption)
    | with_reducible exact MS.gP (by assumption) (by assumption)
    | (simp only [rv0, rv1, rv2, rv3])
    | with_reducible refine sGetK (by assumption) (by assumption) (by assumption) (by assumption) (fun _ hb => ?_)
    | with_reducible exact rowA.ca (by assumption)
    | with_reducible refine gl_A (by assumption) ?_
    | with_reducible exact vpi4.1
    | with_reducible exact vpi4.2.1
    | with_reducible exact vpi4.2.2.1
    | with_reducible exact vpi4.2.2.2
    | simp only [eX3_pile_0, eX3_pile_0N, eX3_pile_1, eX3_pile_2, eX3_pile_5, eX3_pile_6, eX3_pile_9, eX3_pile_12, eX3_pile_12N, eX3_pile_13, eX3_pile_14, eX3_pile_15, eX3_pile_16, eX3_pile_19, eX3_pile_22, eX3_pile_23, eX3_pile_26, eX3_pile_27, eX3_pile_28, eX3_pile_31, eX3_pile_34, eX3_pile_35, eX3_pile_38, eX3_pile_38N, eX3_pile_39, eX3_pile_40, eX3_pile_41, eX3_pile_44, lgp, lgn, lgz, i10, i00, if_true, if_false, eq_self, not_true, not_false_eq_true, m10, n4e, upw2q, rv0, rv1, rv2, rv3, lmi, lmx, ite_le, n45, n54, true_or, or_true, false_or, or_false, false_and, and_false, kx_l, kx_r, go_s, gl_s, gi_s, gb_s2, gb_s3, gq_s, wt_nil, wt_int, wt_long, wt_ref, wt_null, nl_int, nl_long, nl_ref, nl_null, nl_none, rf_n, rf_s, rf_st, tl_s, tl_n, g0, gS, ex1, nb_b, nb_0, nb_1, nf_i, nf_l, nf_ra, nf_ro, nf_na, nf_no, nf_b0, nf_z0, t45_4, t45_5, true_and, and_true, List.set_cons_zero, List.set_cons_succ, List.length_cons, List.length_nil, rd_s, upw_s, ne_eq, not_false_eq_true, Nat.zero_add, Nat.add_zero]
    | with_reducible refine itx (fun _ => ?_) (fun _ => ?_)
    | split
    | with_reducible intro _
    | omega
set_option maxHeartbeats 4000000 in
theorem gX3_house {a0 : Int32} (hM : MS g w0 y nM kd th s w) (hQ : ∀ (v th' : Int32) w', MS g w0 y nM kd th' s w' → Q (.inl (some (.int v))) w') : WP (MX3_house g) Q (0, [some (.ref y), some (.int a0)], [], w, 0, 0) := by
  repeat' first
    | with_reducible assumption
    | with_reducible refine And.intro ?_ ?_
    | with_reducible exact vpi6 (by assumption) (by assumption)
    | with_reducible exact vpi8 (by assumption) (by assumption)
    | with_reducible exact trivial
    | with_reducible exact absurd (by assumption) n10'
    | with_reducible exact n00x (by assumption)
    | with_reducible refine fX3_isNone (by assumption) (fun _ w1 h1 => ?_) (fun _ _ w1 h1 => ?_) (fun _ _ _ w1 h1 => ?_)
    | with_reducible refine fX3_isNoEnd_ (by assumption) (fun _ w1 h1 => ?_) (fun _ _ w1 h1 => ?_) (fun _ _ _ w1 h1 => ?_) (fun _ _ _ _ w1 h1 => ?_)
    | with_reducible refine sX3_whichNow (rowA.row (by assumption)) (fun _ => ?_)
    | with_reducible refine sX3_aroundNow (rowA.row (by assumption)) (And.left (by assumption : okW _ 3)) (And.right (by assumption : okW _ 3)) (fun _ => ?_)
    | with_reducible refine sX3_whoNow (MS.mm (by assumption)) (And.left (by assumption : okN _)) (lt87 (And.right (by assumption : okN _))) (fun _ => ?_)
    | with_reducible refine sX3_whichNow_ (MS.mm (by assumption)) (fun _ => ?_)
    | with_reducible refine gX3_likesNow (by assumption) (by assumption) (by assumption) (fun _ => ?_)
    | with_reducible refine gX3_oftenNow (by assumption) (by assumption) (by assumption) (fun _ w5 h5 => ?_)
    | with_reducible refine sX3_pileNowM (MS.mm (by assumption)) (And.left (by assumption : okN _)) (lt87 (And.right (by assumption : okN _))) (by assumption) (by assumption) (fun _ w5 k5 => ?_)
    | with_reducible refine sX3_houseNow (MS.mm (by assumption)) (by assumption) (by assumption) (fun _ w5 k5 => ?_)
    | with_reducible exact hQ _ _ _ (MS.ext (by assumption) (by assumption))
    | with_reducible refine sX3_fixed (rowA.row (by assumption)) ?_ ?_
    | with_reducible refine gX3_count_56 (by assumption) (by assumption) (by assumption) (by assumption) (fun _ => ?_) (by first | assumption | omega) (by first | assumption | omega)
    | with_reducible exact hQ _ _ _ (by assumption)
    | with_reducible refine fX3_isNoNumber (fun _ => ?_) (fun _ => ?_)
    | with_reducible refine fX3_isNoCard (fun _ => ?_) (fun _ => ?_)
    | with_reducible refine fX3_isNoEnd (fun _ => ?_) (fun _ => ?_)
    | with_reducible refine fX3_isIn (fun _ _ => ?_) (fun _ => ?_)
    | with_reducible refine fX3_start (by assumption) (by decide) (fun _ w1 h1 => ?_) (fun _ w1 h1 => ?_)
    | with_reducible refine fX3_refuse (by assumption) (by decide) (fun _ => ?_) (fun _ w2 h2 => ?_)
    | with_reducible refine go_S (by assumption) (fun _ _ hY => ?_)
    | with_reducible refine fX3_isBare (by assumption) (by assumption) (fun _ => ?_) (fun _ _ => ?_)
    | with_reducible exact MS.gC (by assumption) (by assumption)
    | with_reducible exact MS.gP (by assumption) (by assumption)
    | (simp only [rv0, rv1, rv2, rv3])
    | with_reducible refine sGetK (by assumption) (by assumption) (by assumption) (by assumption) (fun _ hb => ?_)
    | with_reducible exact rowA.ca (by assumption)
    | with_reducible refine gl_A (by assumption) ?_
    | with_reducible exact vpi4.1
    | with_reducible exact vpi4.2.1
    | with_reducible exact vpi4.2.2.1
    | with_reducible exact vpi4.2.2.2
    | simp only [eX3_house_0, eX3_house_0N, eX3_house_1, eX3_house_2, eX3_house_3, eX3_house_4, eX3_house_7, eX3_house_10, eX3_house_11, eX3_house_14, eX3_house_15, eX3_house_16, eX3_house_19, eX3_house_22, eX3_house_23, eX3_house_26, eX3_house_26N, eX3_house_27, eX3_house_28, eX3_house_31, lgp, lgn, lgz, i10, i00, if_true, if_false, eq_self, not_true, not_false_eq_true, m10, n4e, upw2q, rv0, rv1, rv2, rv3, lmi, lmx, ite_le, n45, n54, true_or, or_true, false_or, or_false, false_and, and_false, kx_l, kx_r, go_s, gl_s, gi_s, gb_s2, gb_s3, gq_s, wt_nil, wt_int, wt_long, wt_ref, wt_null, nl_int, nl_long, nl_ref, nl_null, nl_none, rf_n, rf_s, rf_st, tl_s, tl_n, g0, gS, ex1, nb_b, nb_0, nb_1, nf_i, nf_l, nf_ra, nf_ro, nf_na, nf_no, nf_b0, nf_z0, t45_4, t45_5, true_and, and_true, List.set_cons_zero, List.set_cons_succ, List.length_cons, List.length_nil, rd_s, upw_s, ne_eq, not_false_eq_true, Nat.zero_add, Nat.add_zero]
    | with_reducible refine itx (fun _ => ?_) (fun _ => ?_)
    | split
    | with_reducible intro _
    | omega
set_option maxHeartbeats 8000000 in
theorem gX3_numberText {a : Int32} (hM : MS g w0 y nM kd th s w) (hS : SG g) (hD : DG g w0) (hT : TXT g w0) (hQ : ∀ (q : Nat) (th' : Int32) w', MS g w0 y nM kd th' s w' → Q (.inl (some (.ref q))) w') : WP (MX3_numberText g) Q (0, [some (.ref y), some (.int a)], [], w, 0, 0) := by
  obtain ⟨⟨s1, t1, o1, b1⟩, ⟨s2, t2⟩, s3, t3, o3, b3⟩ := hT
  have z0 : (0 : Int32).toInt = 0 := rfl
  repeat' first
    | with_reducible assumption
    | with_reducible refine And.intro ?_ ?_
    | with_reducible exact trivial
    | with_reducible exact absurd (by assumption) n10'
    | with_reducible exact n00x (by assumption)
    | with_reducible refine sJ4_init_da8c8 hS (ext_up2 ext.rf (by assumption)) (upw_s _ _ _) (rd_none (by assumption)) (rd_ro (by assumption)) (fun _ _ _ => ?_)
    | with_reducible exact TS.g1 (by assumption)
    | with_reducible refine sJ4_append_15ec4 hS (by assumption) (by first | assumption | decide) (by omega) (STO.fm (by assumption) (MS.mm (by assumption))) (by assumption) (fun _ _ _ _ _ _ _ _ => ?_)
    | with_reducible refine sJ4_append_f7089 hS (by assumption) (by first | assumption | decide) (by omega) (DG.fm hD (MS.mm (by assumption))) (fun _ _ _ _ _ _ _ _ => ?_)
    | with_reducible refine sJ4_toString_0e30d hS (by assumption) (by first | decide | omega) (by omega) (fun _ _ _ => ?_)
    | with_reducible exact hQ _ _ _ (msEx2 (by assumption) (by assumption))
    | with_reducible exact hQ _ _ _ (by assumption)
    | with_reducible refine go_S (MS.ts (by assumption) (by assumption)) (fun _ _ hY => ?_)
    | with_reducible refine gl_S (MS.ts (by assumption) (by assumption)) ?_
    | with_reducible refine gl_A (rowA.ts (by assumption) (by assumption)) ?_
    | with_reducible refine fX3_isNoNumber (fun _ => ?_) (fun _ => ?_)
    | with_reducible refine fX3_isNoCard (fun _ => ?_) (fun _ => ?_)
    | with_reducible refine fX3_start (by assumption) (by decide) (fun _ w1 h1 => ?_) (fun _ w1 h1 => ?_)
    | with_reducible refine go_S (by assumption) (fun _ _ hY => ?_)
    | with_reducible refine gl_S (by assumption) ?_
    | with_reducible exact vpi8k (by assumption)
    | with_reducible exact vpi6k (by assumption)
    | with_reducible exact vpi4k (by assumption)
    | with_reducible refine fX3_isBare (by assumption) (by assumption) (fun _ => ?_) (fun _ _ => ?_)
    | with_reducible exact MS.gC (by assumption) (by assumption)
    | with_reducible exact MS.gP (by assumption) (by assumption)
    | with_reducible (simp only [rv0, rv1, rv2, rv3])
    | with_reducible refine sGetK (by assumption) (by assumption) (by assumption) (by assumption) (fun _ hb => ?_)
    | with_reducible exact rowA.ca (by assumption)
    | with_reducible refine gl_A (by assumption) ?_
    | with_reducible exact vpi4.1
    | with_reducible exact vpi4.2.1
    | with_reducible exact vpi4.2.2.1
    | with_reducible exact vpi4.2.2.2
    | simp only [eX3_numberText_0, eX3_numberText_0N, eX3_numberText_1, eX3_numberText_2, eX3_numberText_5, eX3_numberText_6, eX3_numberText_9, eX3_numberText_12, eX3_numberText_14, eX3_numberText_17, eX3_numberText_20, eX3_numberText_20R, eX3_numberText_21, eX3_numberText_24, eX3_numberText_26R, eX3_numberText_26N, eX3_numberText_29, eX3_numberText_29N, eX3_numberText_30, eX3_numberText_33, eX3_numberText_34, eX3_numberText_35, eX3_numberText_38, eX3_numberText_41, eX3_numberText_41N, ite_le, n45, n54, true_or, or_true, false_or, or_false, false_and, and_false, kx_l, kx_r, go_s, gl_s, gi_s, gb_s2, gb_s3, gq_s, wt_nil, wt_int, wt_long, wt_ref, wt_null, nl_int, nl_long, nl_ref, nl_null, nl_none, rf_n, rf_s, rf_st, tl_s, tl_n, g0, gS, ex1, nb_b, nb_0, nb_1, nf_i, nf_l, nf_ra, nf_ro, nf_na, nf_no, nf_b0, nf_z0, t45_4, t45_5, true_and, and_true, List.set_cons_zero, List.set_cons_succ, List.length_cons, List.length_nil, rd_s, upw_s, ne_eq, not_false_eq_true, Nat.zero_add, Nat.add_zero, if_true, if_false, eq_self, m10, n4e, upw2q, t1, t2, t3]
    | with_reducible refine itx (fun _ => ?_) (fun _ => ?_)
    | split
    | with_reducible intro _
    | omega
set_option maxHeartbeats 8000000 in
theorem gX3_cardText {a : Int32} (hM : MS g w0 y nM kd th s w) (hS : SG g) (hD : DG g w0) (hT : TXT g w0) (hQ : ∀ (q : Nat) (th' : Int32) w', MS g w0 y nM kd th' s w' → Q (.inl (some (.ref q))) w') : WP (MX3_cardText g) Q (0, [some (.ref y), some (.int a), none], [], w, 0, 0) := by
  obtain ⟨⟨s1, t1, o1, b1⟩, ⟨s2, t2⟩, s3, t3, o3, b3⟩ := hT
  have z0 : (0 : Int32).toInt = 0 := rfl
  repeat' first
    | with_reducible assumption
    | with_reducible refine And.intro ?_ ?_
    | with_reducible exact trivial
    | with_reducible exact absurd (by assumption) n10'
    | with_reducible exact n00x (by assumption)
    | with_reducible refine sJ4_init_da8c8 hS (ext_up2 ext.rf (by assumption)) (upw_s _ _ _) (rd_none (by assumption)) (rd_ro (by assumption)) (fun _ _ _ => ?_)
    | with_reducible exact TS.g1 (by assumption)
    | with_reducible refine sJ4_append_15ec4 hS (by assumption) (by first | assumption | decide) (by omega) (STO.fm (by assumption) (MS.mm (by assumption))) (by assumption) (fun _ _ _ _ _ _ _ _ => ?_)
    | with_reducible refine sJ4_append_f7089 hS (by assumption) (by first | assumption | decide) (by omega) (DG.fm hD (MS.mm (by assumption))) (fun _ _ _ _ _ _ _ _ => ?_)
    | with_reducible refine sJ4_toString_0e30d hS (by assumption) (by first | decide | omega) (by omega) (fun _ _ _ => ?_)
    | with_reducible exact hQ _ _ _ (msEx2 (by assumption) (by assumption))
    | with_reducible exact hQ _ _ _ (by assumption)
    | with_reducible refine go_S (MS.ts (by assumption) (by assumption)) (fun _ _ hY => ?_)
    | with_reducible refine gl_S (MS.ts (by assumption) (by assumption)) ?_
    | with_reducible refine gl_A (rowA.ts (by assumption) (by assumption)) ?_
    | with_reducible refine fX3_isNoNumber (fun _ => ?_) (fun _ => ?_)
    | with_reducible refine fX3_isNoCard (fun _ => ?_) (fun _ => ?_)
    | with_reducible refine fX3_start (by assumption) (by decide) (fun _ w1 h1 => ?_) (fun _ w1 h1 => ?_)
    | with_reducible refine go_S (by assumption) (fun _ _ hY => ?_)
    | with_reducible refine gl_S (by assumption) ?_
    | with_reducible exact vpi8k (by assumption)
    | with_reducible exact vpi6k (by assumption)
    | with_reducible exact vpi4k (by assumption)
    | with_reducible refine fX3_isBare (by assumption) (by assumption) (fun _ => ?_) (fun _ _ => ?_)
    | with_reducible exact MS.gC (by assumption) (by assumption)
    | with_reducible exact MS.gP (by assumption) (by assumption)
    | with_reducible (simp only [rv0, rv1, rv2, rv3])
    | with_reducible refine sGetK (by assumption) (by assumption) (by assumption) (by assumption) (fun _ hb => ?_)
    | with_reducible exact rowA.ca (by assumption)
    | with_reducible refine gl_A (by assumption) ?_
    | with_reducible exact vpi4.1
    | with_reducible exact vpi4.2.1
    | with_reducible exact vpi4.2.2.1
    | with_reducible exact vpi4.2.2.2
    | simp only [eX3_cardText_0, eX3_cardText_0N, eX3_cardText_1, eX3_cardText_2, eX3_cardText_5, eX3_cardText_6, eX3_cardText_9, eX3_cardText_12, eX3_cardText_14, eX3_cardText_14N, eX3_cardText_15, eX3_cardText_15N, eX3_cardText_16, eX3_cardText_17, eX3_cardText_20, eX3_cardText_23, eX3_cardText_25, eX3_cardText_25N, eX3_cardText_26, eX3_cardText_26N, eX3_cardText_27, eX3_cardText_30, eX3_cardText_31, eX3_cardText_34N, eX3_cardText_34R, eX3_cardText_37, eX3_cardText_37N, eX3_cardText_38, eX3_cardText_41, eX3_cardText_41R, eX3_cardText_42, eX3_cardText_45, eX3_cardText_45N, eX3_cardText_46, eX3_cardText_47, eX3_cardText_48, eX3_cardText_51, eX3_cardText_53R, eX3_cardText_53N, eX3_cardText_56, eX3_cardText_56N, eX3_cardText_57, eX3_cardText_58, eX3_cardText_59, eX3_cardText_62, eX3_cardText_64R, eX3_cardText_64N, eX3_cardText_67, eX3_cardText_67N, eX3_cardText_68, eX3_cardText_69, eX3_cardText_70, eX3_cardText_73, eX3_cardText_75R, eX3_cardText_75N, eX3_cardText_78, eX3_cardText_78N, eX3_cardText_79, eX3_cardText_80, eX3_cardText_81, eX3_cardText_84, eX3_cardText_87, eX3_cardText_87N, ite_le, n45, n54, true_or, or_true, false_or, or_false, false_and, and_false, kx_l, kx_r, go_s, gl_s, gi_s, gb_s2, gb_s3, gq_s, wt_nil, wt_int, wt_long, wt_ref, wt_null, nl_int, nl_long, nl_ref, nl_null, nl_none, rf_n, rf_s, rf_st, tl_s, tl_n, g0, gS, ex1, nb_b, nb_0, nb_1, nf_i, nf_l, nf_ra, nf_ro, nf_na, nf_no, nf_b0, nf_z0, t45_4, t45_5, true_and, and_true, List.set_cons_zero, List.set_cons_succ, List.length_cons, List.length_nil, rd_s, upw_s, ne_eq, not_false_eq_true, Nat.zero_add, Nat.add_zero, if_true, if_false, eq_self, m10, n4e, upw2q, t1, t2, t3]
    | with_reducible refine itx (fun _ => ?_) (fun _ => ?_)
    | split
    | with_reducible intro _
    | omega
end
end
/-! 75.mfb.lean.txt -/
section
section
variable {g : RO} {Q : Ot → Hw → Prop} {w0 w : Hw} {y nM : Nat} {kd th : Int32} {s : AS}
set_option maxHeartbeats 4000000 in
theorem gX3_digest  (hM : MS g w0 y nM kd th s w) (hQ : ∀ (v : Int64) (th' : Int32) w', MS g w0 y nM kd th' s w' → Q (.inl (some (.long v))) w') : WP (MX3_digest g) Q (0, [some (.ref y), none, none, none, none, none], [], w, 0, 0) := by
  obtain ⟨cL, pL, hy, ry⟩ := hM.1.op
  obtain ⟨w1, hw1⟩ : ∃ w1, upw w y (.inr (7, [.int 0, .ref nM, .ref cL, .ref pL, .int s.2.2.2.2.1, .int kd, .int s.2.2.2.2.2])) = w1 := ⟨_, rfl⟩
  have hM1 : MS g w0 y nM kd 0 s w1 := by
    rw [← hw1]
    exact hM.set hy
  have hy1 : w1 y = some (.inr (7, [.int 0, .ref nM, .ref cL, .ref pL, .int s.2.2.2.2.1, .int kd, .int s.2.2.2.2.2])) := by
    rw [← hw1]
    exact upw_s _ _ _
  repeat' first
    | with_reducible assumption
    | with_reducible refine And.intro ?_ ?_
    | with_reducible exact vpi6 (by assumption) (by assumption)
    | with_reducible exact vpi8 (by assumption) (by assumption)
    | with_reducible exact trivial
    | with_reducible exact absurd (by assumption) n10'
    | with_reducible exact n00x (by assumption)
    | (exact elX3_digest_11 hM1.mm (fun v w2 hk => hQ v 0 w2 (hM1.ext hk)) 70 _ _ _ _ _ _ _ (by decide) ext.rf (by decide) (by decide) (by decide) (by decide))
    | simp only [eX3_digest_0, eX3_digest_0N, eX3_digest_1, eX3_digest_2, eX3_digest_5, eX3_digest_8, eX3_digest_9, eX3_digest_10, eX3_digest_12, eX3_digest_13, eX3_digest_16, eX3_digest_17, eX3_digest_17N, eX3_digest_18, eX3_digest_19, eX3_digest_22, eX3_digest_23, eX3_digest_26, eX3_digest_27, eX3_digest_30, eX3_digest_33, eX3_digest_34, eX3_digest_35, eX3_digest_36, eX3_digest_38, eX3_digest_41, eX3_digest_42, eX3_digest_42N, eX3_digest_43, eX3_digest_46, eX3_digest_47, eX3_digest_48, eX3_digest_51, eX3_digest_52, eX3_digest_55, eX3_digest_55N, eX3_digest_56, eX3_digest_59, eX3_digest_60, eX3_digest_61, eX3_digest_64, eX3_digest_65, eX3_digest_68, eX3_digest_68N, eX3_digest_69, eX3_digest_70, eX3_digest_71, eX3_digest_74, eX3_digest_75, eX3_digest_78, eX3_digest_78N, eX3_digest_79, eX3_digest_80, eX3_digest_81, eX3_digest_84, eX3_digest_85, eX3_digest_88, eX3_digest_89, eX3_digest_92, eX3_digest_95, eX3_digest_96, eX3_digest_97, eX3_digest_98, eX3_digest_100, eX3_digest_103, eX3_digest_104, eX3_digest_104N, eX3_digest_105, eX3_digest_106, eX3_digest_109, eX3_digest_112, eX3_digest_113, eX3_digest_116, eX3_digest_117, eX3_digest_120, eX3_digest_121, eX3_digest_124, eX3_digest_125, eX3_digest_125N, eX3_digest_126, eX3_digest_127, eX3_digest_130, eX3_digest_133, eX3_digest_136, eX3_digest_136N, eX3_digest_137, eX3_digest_140, eX3_digest_141, eX3_digest_144N, eX3_digest_144R, eX3_digest_147, eX3_digest_147N, eX3_digest_149, eX3_digest_150, eX3_digest_152, eX3_digest_154, eX3_digest_155, eX3_digest_158, eX3_digest_159, eX3_digest_159N, eX3_digest_161, eX3_digest_163, eX3_digest_164, eX3_digest_167, eX3_digest_168, eX3_digest_171, eX3_digest_171N, eX3_digest_173, eX3_digest_175, eX3_digest_176, eX3_digest_179, eX3_digest_180, eX3_digest_183, eX3_digest_183N, eX3_digest_185, eX3_digest_187, eX3_digest_188R, eX3_digest_188N, eX3_digest_191, eX3_digest_192, eX3_digest_195, eX3_digest_195N, eX3_digest_197, eX3_digest_199, eX3_digest_200R, eX3_digest_200N, eX3_digest_203, eX3_digest_204, eX3_digest_207, eX3_digest_208, eX3_digest_211, eX3_digest_214, eX3_digest_215, eX3_digest_215N, eX3_digest_217R, eX3_digest_217N, eX3_digest_220, eX3_digest_223, eX3_digest_224, eX3_digest_227, eX3_digest_227N, eX3_digest_229R, eX3_digest_229N, eX3_digest_232, eX3_digest_235, eX3_digest_236, eX3_digest_239, eX3_digest_239N, eX3_digest_240, eX3_digest_241, eX3_digest_244, eX3_digest_245, eX3_digest_248, eX3_digest_249, eX3_digest_250, eX3_digest_250N, eX3_digest_251, eX3_digest_252, eX3_digest_253, eX3_digest_256, eX3_digest_257, eX3_digest_260, eX3_digest_260N, eX3_digest_261, eX3_digest_262, eX3_digest_263, eX3_digest_266, eX3_digest_267, eX3_digest_270, eX3_digest_270N, eX3_digest_271, eX3_digest_272, eX3_digest_275, eX3_digest_276, eX3_digest_279, eX3_digest_280, eX3_digest_281, eX3_digest_283, eX3_digest_285, eX3_digest_286, eX3_digest_289, eX3_digest_290, eX3_digest_290N, eX3_digest_292, eX3_digest_294R, eX3_digest_294N, eX3_digest_297, eX3_digest_298, eX3_digest_301, eX3_digest_302, eX3_digest_305, eX3_digest_308, eX3_digest_311, eX3_digest_314, eX3_digest_315, eX3_digest_316, eX3_digest_317, eX3_digest_318, eX3_digest_321, eX3_digest_322, eX3_digest_322N, eX3_digest_323, eX3_digest_324, eX3_digest_327, eX3_digest_328, eX3_digest_331, eX3_digest_332, eX3_digest_335, eX3_digest_338, eX3_digest_339, eX3_digest_340, eX3_digest_341, eX3_digest_342, eX3_digest_345, eX3_digest_346, eX3_digest_346N, eX3_digest_347, eX3_digest_348, eX3_digest_349, eX3_digest_352, eX3_digest_353, eX3_digest_356, eX3_digest_357, eX3_digest_360, eX3_digest_363, eX3_digest_364, eX3_digest_365, eX3_digest_368, lgp, lgn, lgz, i10, i00, if_true, if_false, eq_self, not_true, not_false_eq_true, m10, n4e, upw2q, rv0, rv1, rv2, rv3, lmi, lmx, hy, hw1, ite_le, n45, n54, true_or, or_true, false_or, or_false, false_and, and_false, kx_l, kx_r, go_s, gl_s, gi_s, gb_s2, gb_s3, gq_s, wt_nil, wt_int, wt_long, wt_ref, wt_null, nl_int, nl_long, nl_ref, nl_null, nl_none, rf_n, rf_s, rf_st, tl_s, tl_n, g0, gS, ex1, nb_b, nb_0, nb_1, nf_i, nf_l, nf_ra, nf_ro, nf_na, nf_no, nf_b0, nf_z0, t45_4, t45_5, true_and, and_true, List.set_cons_zero, List.set_cons_succ, List.length_cons, List.length_nil, rd_s, upw_s, ne_eq, not_false_eq_true, Nat.zero_add, Nat.add_zero]
    | with_reducible refine itx (fun _ => ?_) (fun _ => ?_)
    | split
    | with_reducible intro _
    | omega
end
end
/-! 75.mfc.lean.txt -/
section
section
variable {g : RO} {Q : Ot → Hw → Prop} {w0 w : Hw} {y nM : Nat} {kd th : Int32} {s : AS}
/-! MODEL, FUNCTIONAL, 12: new objects -/
set_option maxHeartbeats 4000000 in
theorem fX1_init {x : Nat} (hx : w x = some (.inr (5, [.null, .null, .null, .int 0, .int 0, .int 0, .int 0]))) (hQ : ∀ (w' : Hw) (nA cA lA : Nat), RF w' x nA cA lA 0 S00 → (∀ (a : Nat) (o : Ob), w a = some o → a ≠ x → w' a = some o) → (∀ (a : Nat) (o : Ob), g.2 a = some o → w a = none → w' a = none) → w nA = none → Q (.inl none) w') : WP (MX1_init g) Q (0, [some (.ref x)], [], w, 0, 0) := by
  have fr : ∀ {w1 : Hw} {q : Nat} {o : Ob}, rd g w1 q = none → w1 x = some o → x ≠ q := fun h h2 e => by
    subst e
    have h3 := rd_none h
    rw [h2] at h3
    cases h3
  simp only [eX1_init_0, eX1_init_0N, eX1_init_1, eX1_init_4, eX1_init_4N, eX1_init_5, eX1_init_7, eX1_init_9, eX1_init_12, eX1_init_12N, eX1_init_13, eX1_init_15, eX1_init_18, eX1_init_21, eX1_init_21N, eX1_init_22, eX1_init_24, eX1_init_27, eX1_init_30, eX1_init_30N, eX1_init_31, eX1_init_32, eX1_init_35, eX1_init_35N, eX1_init_36, eX1_init_37, eX1_init_40, eX1_init_40N, eX1_init_41, eX1_init_42, eX1_init_45, eX1_init_45N, eX1_init_46, eX1_init_47, eX1_init_50, ite_le, n45, n54, true_or, or_true, false_or, or_false, false_and, and_false, kx_l, kx_r, go_s, gl_s, gi_s, gb_s2, gb_s3, gq_s, wt_nil, wt_int, wt_long, wt_ref, wt_null, nl_int, nl_long, nl_ref, nl_null, nl_none, rf_n, rf_s, rf_st, tl_s, tl_n, g0, gS, ex1, nb_b, nb_0, nb_1, nf_i, nf_l, nf_ra, nf_ro, nf_na, nf_no, nf_b0, nf_z0, t45_4, t45_5, true_and, and_true, List.set_cons_zero, List.set_cons_succ, List.length_cons, List.length_nil, rd_s, upw_s, ne_eq, not_false_eq_true, Nat.zero_add, Nat.add_zero, tyX1, i8, i6, i12, n8, n6, n12', upw_n, hx]
  repeat' first | with_reducible refine And.intro ?_ ?_ | omega
  intro q1 hq1
  have d1 : x ≠ q1 := fr hq1 hx
  simp only [eX1_init_0, eX1_init_0N, eX1_init_1, eX1_init_4, eX1_init_4N, eX1_init_5, eX1_init_7, eX1_init_9, eX1_init_12, eX1_init_12N, eX1_init_13, eX1_init_15, eX1_init_18, eX1_init_21, eX1_init_21N, eX1_init_22, eX1_init_24, eX1_init_27, eX1_init_30, eX1_init_30N, eX1_init_31, eX1_init_32, eX1_init_35, eX1_init_35N, eX1_init_36, eX1_init_37, eX1_init_40, eX1_init_40N, eX1_init_41, eX1_init_42, eX1_init_45, eX1_init_45N, eX1_init_46, eX1_init_47, eX1_init_50, ite_le, n45, n54, true_or, or_true, false_or, or_false, false_and, and_false, kx_l, kx_r, go_s, gl_s, gi_s, gb_s2, gb_s3, gq_s, wt_nil, wt_int, wt_long, wt_ref, wt_null, nl_int, nl_long, nl_ref, nl_null, nl_none, rf_n, rf_s, rf_st, tl_s, tl_n, g0, gS, ex1, nb_b, nb_0, nb_1, nf_i, nf_l, nf_ra, nf_ro, nf_na, nf_no, nf_b0, nf_z0, t45_4, t45_5, true_and, and_true, List.set_cons_zero, List.set_cons_succ, List.length_cons, List.length_nil, rd_s, upw_s, ne_eq, not_false_eq_true, Nat.zero_add, Nat.add_zero, tyX1, i8, i6, i12, n8, n6, n12', upw_n, hx, d1]
  repeat' first | with_reducible refine And.intro ?_ ?_ | omega
  intro q2 hq2
  obtain ⟨e1, hq2⟩ := rd_up hq2
  obtain ⟨d2, hq2⟩ := rd_up hq2
  have d3 : x ≠ q2 := fun e => e1 e.symm
  simp only [eX1_init_0, eX1_init_0N, eX1_init_1, eX1_init_4, eX1_init_4N, eX1_init_5, eX1_init_7, eX1_init_9, eX1_init_12, eX1_init_12N, eX1_init_13, eX1_init_15, eX1_init_18, eX1_init_21, eX1_init_21N, eX1_init_22, eX1_init_24, eX1_init_27, eX1_init_30, eX1_init_30N, eX1_init_31, eX1_init_32, eX1_init_35, eX1_init_35N, eX1_init_36, eX1_init_37, eX1_init_40, eX1_init_40N, eX1_init_41, eX1_init_42, eX1_init_45, eX1_init_45N, eX1_init_46, eX1_init_47, eX1_init_50, ite_le, n45, n54, true_or, or_true, false_or, or_false, false_and, and_false, kx_l, kx_r, go_s, gl_s, gi_s, gb_s2, gb_s3, gq_s, wt_nil, wt_int, wt_long, wt_ref, wt_null, nl_int, nl_long, nl_ref, nl_null, nl_none, rf_n, rf_s, rf_st, tl_s, tl_n, g0, gS, ex1, nb_b, nb_0, nb_1, nf_i, nf_l, nf_ra, nf_ro, nf_na, nf_no, nf_b0, nf_z0, t45_4, t45_5, true_and, and_true, List.set_cons_zero, List.set_cons_succ, List.length_cons, List.length_nil, rd_s, upw_s, ne_eq, not_false_eq_true, Nat.zero_add, Nat.add_zero, tyX1, i8, i6, i12, n8, n6, n12', upw_n, hx, d1, d2, d3]
  repeat' first | with_reducible refine And.intro ?_ ?_ | omega
  intro q3 hq3
  obtain ⟨e2, hq3⟩ := rd_up hq3
  obtain ⟨d4, hq3⟩ := rd_up hq3
  obtain ⟨-, hq3⟩ := rd_up hq3
  obtain ⟨d5, hq3⟩ := rd_up hq3
  have d6 : x ≠ q3 := fun e => e2 e.symm
  have d7 : q1 ≠ x := fun e => d1 e.symm
  have d8 : q1 ≠ q2 := fun e => d2 e.symm
  have d9 : q1 ≠ q3 := fun e => d5 e.symm
  have d10 : q2 ≠ q3 := fun e => d4 e.symm
  simp only [eX1_init_0, eX1_init_0N, eX1_init_1, eX1_init_4, eX1_init_4N, eX1_init_5, eX1_init_7, eX1_init_9, eX1_init_12, eX1_init_12N, eX1_init_13, eX1_init_15, eX1_init_18, eX1_init_21, eX1_init_21N, eX1_init_22, eX1_init_24, eX1_init_27, eX1_init_30, eX1_init_30N, eX1_init_31, eX1_init_32, eX1_init_35, eX1_init_35N, eX1_init_36, eX1_init_37, eX1_init_40, eX1_init_40N, eX1_init_41, eX1_init_42, eX1_init_45, eX1_init_45N, eX1_init_46, eX1_init_47, eX1_init_50, ite_le, n45, n54, true_or, or_true, false_or, or_false, false_and, and_false, kx_l, kx_r, go_s, gl_s, gi_s, gb_s2, gb_s3, gq_s, wt_nil, wt_int, wt_long, wt_ref, wt_null, nl_int, nl_long, nl_ref, nl_null, nl_none, rf_n, rf_s, rf_st, tl_s, tl_n, g0, gS, ex1, nb_b, nb_0, nb_1, nf_i, nf_l, nf_ra, nf_ro, nf_na, nf_no, nf_b0, nf_z0, t45_4, t45_5, true_and, and_true, List.set_cons_zero, List.set_cons_succ, List.length_cons, List.length_nil, rd_s, upw_s, ne_eq, not_false_eq_true, Nat.zero_add, Nat.add_zero, tyX1, i8, i6, i12, n8, n6, n12', upw_n, hx, d1, d2, d3, d4, d5, d6]
  repeat' first | with_reducible refine And.intro ?_ ?_ | omega
  refine hQ _ q1 q2 q3 ⟨fun _ => none, fun _ => none, ⟨upw_s _ _ _, ?_, ?_, ?_, (fun i b z => by cases z), (fun i b z => by cases z), show ¬ (0 : Int32) < 0 by decide, show ¬ (12 : Int32) < 0 by decide⟩, fun i hi => trivial, fun i hi => (z32 hi).elim⟩ ?_ ?_ (rd_none hq1)
  · simp only [upw_n, upw_s, ne_eq, d1, d2, d3, d4, d5, d6, d7, d8, d9, d10, e1, e2, not_false_eq_true]
  · simp only [upw_n, upw_s, ne_eq, d1, d2, d3, d4, d5, d6, d7, d8, d9, d10, e1, e2, not_false_eq_true]
  · simp only [upw_n, upw_s, ne_eq, d1, d2, d3, d4, d5, d6, d7, d8, d9, d10, e1, e2, not_false_eq_true]
  · intro a o ha hax
    have k1 : a ≠ q1 := fun e => by
      subst e
      have h3 := rd_none hq1
      rw [ha] at h3
      cases h3
    have k2 : a ≠ q2 := fun e => by
      subst e
      have h3 := rd_none hq2
      rw [ha] at h3
      cases h3
    have k3 : a ≠ q3 := fun e => by
      subst e
      have h3 := rd_none hq3
      rw [ha] at h3
      cases h3
    simp only [upw_n, ne_eq, hax, k1, k2, k3, not_false_eq_true]
    exact ha
  · intro a o ha haw
    have k0 : a ≠ x := fun e => by
      subst e
      rw [hx] at haw
      cases haw
    have k1 : a ≠ q1 := fun e => by
      subst e
      have h3 := rd_ro hq1
      rw [ha] at h3
      cases h3
    have k2 : a ≠ q2 := fun e => by
      subst e
      have h3 := rd_ro hq2
      rw [ha] at h3
      cases h3
    have k3 : a ≠ q3 := fun e => by
      subst e
      have h3 := rd_ro hq3
      rw [ha] at h3
      cases h3
    simp only [upw_n, ne_eq, k0, k1, k2, k3, not_false_eq_true]
    exact haw
theorem h0s {h1 h3 : Nat → Option Nat} {i1 : Int32} (h0n : ∀ i : Nat, (i : Int) < i1.toInt → h1 i = none) (hh : HAd h1 i1.toNatClampNeg none h3) (e1 : (i1 + 1).toInt = i1.toInt + 1) (i0 : 0 ≤ i1.toInt) {i : Nat} (hi : (i : Int) < (i1 + 1).toInt) : h3 i = none := by
  have t : i1.toNatClampNeg = i1.toInt.toNat := rfl
  rcases Nat.lt_or_ge i i1.toNatClampNeg with q | q
  · rw [hh.1 i q]
    exact h0n i (by omega)
  · have e : i = i1.toNatClampNeg := by omega
    rw [e]
    exact hh.2
set_option maxHeartbeats 4000000 in
theorem flX3_init_36 {y nM cL pL D2 : Nat} {h2 : Nat → Option Nat} (hE : EG g w) (hS : SG g) (hcl : w cL = none) (cp : cL ≠ pL) (hwn : w nM = none) (hQ : ∀ nM w', w nM = none → MF g w' y nM 0 0 S00 → FI g y w w' → Q (.inl none) w') : ∀ (d : Nat) (i1 : Int32) (w' : Hw) (D1 c1 : Nat) (h1 : Nat → Option Nat) (k m : Nat), FI g y w w' → w' y = some (.inr (7, [.int 0, .ref nM, .ref cL, .ref pL, .int 0, .int 0, .int 0])) → w' nM = some (.inl (0, 8, .inr (.inl fun _ => 0))) → LL g w' cL D1 c1 i1 h1 → (∀ i b, h1 i = some b → isRow w' b) → (∀ i : Nat, (i : Int) < i1.toInt → h1 i = none) → LL g w' pL D2 0 0 h2 → (∀ i b, h2 i = some b → isRow w' b) → w D1 = none → (6 : Int32).toInt - i1.toInt ≤ (d : Int) → i1.toInt ≤ 6 → (k : Int) ≤ 3 + i1.toInt → (m : Int) ≤ 14 + 15 * i1.toInt → WP (MX3_init g) Q (36, [some (.ref y), some (.int i1)], [], w', k, m) := by
  have z6 : (6 : Int32).toInt = 6 := rfl
  intro d
  induction d with
  | zero =>
    intro i1 w' D1 c1 h1 k m hF hy hn hl hr h0n hl2 hr2 hD hd hi km mm
    obtain rfl : i1 = 6 := Int32.toInt_inj.mp (by omega)
    have hD1 : w' D1 = some (.inl (5, c1, qc h1)) := by
      rcases hl.2.1 with ⟨z, -⟩ | ⟨z, -⟩
      · exact z
      · have k2 := hl.2.2.2
        omega
    have hD2 : w' D2 = none := by
      rcases hl2.2.1 with ⟨-, z⟩ | ⟨-, -, z, -⟩
      · omega
      · exact z
    rw [eX3_init_36]
    simp only [eX3_init_0, eX3_init_0N, eX3_init_1, eX3_init_4, eX3_init_4N, eX3_init_5, eX3_init_7, eX3_init_9, eX3_init_12, eX3_init_12N, eX3_init_13, eX3_init_16, eX3_init_16R, eX3_init_17, eX3_init_20, eX3_init_23, eX3_init_23N, eX3_init_24, eX3_init_27, eX3_init_27R, eX3_init_28, eX3_init_31, eX3_init_34, eX3_init_35, eX3_init_37, eX3_init_39, eX3_init_42, eX3_init_42N, eX3_init_43, eX3_init_46, eX3_init_47R, eX3_init_47N, eX3_init_50, eX3_init_50R, eX3_init_50N, eX3_init_51, eX3_init_54, eX3_init_57, ite_le, n45, n54, true_or, or_true, false_or, or_false, false_and, and_false, kx_l, kx_r, go_s, gl_s, gi_s, gb_s2, gb_s3, gq_s, wt_nil, wt_int, wt_long, wt_ref, wt_null, nl_int, nl_long, nl_ref, nl_null, nl_none, rf_n, rf_s, rf_st, tl_s, tl_n, g0, gS, ex1, nb_b, nb_0, nb_1, nf_i, nf_l, nf_ra, nf_ro, nf_na, nf_no, nf_b0, nf_z0, t45_4, t45_5, true_and, and_true, List.set_cons_zero, List.set_cons_succ, List.length_cons, List.length_nil, rd_s, upw_s, ne_eq, not_false_eq_true, Nat.zero_add, Nat.add_zero, if_true, if_false, eq_self, lt66]
    refine ⟨by omega, by omega, hQ nM _ hwn ⟨cL, pL, D1, D2, c1, 0, h1, h2, hy, hn, hl, hr, hl2, hr2, by decide, cp, ?_, fun i hi => ?_, fun i hi => ?_⟩ hF⟩
    · rintro rfl
      rw [hD1] at hD2
      cases hD2
    · rw [h0n i (by omega)]
      exact trivial
    · exact (z32 hi).elim
  | succ d ih =>
    intro i1 w' D1 c1 h1 k m hF hy hn hl hr h0n hl2 hr2 hD hd hi km mm
    by_cases h6 : i1.toInt = 6
    · exact ih i1 w' D1 c1 h1 k m hF hy hn hl hr h0n hl2 hr2 hD (by have := hl.2.2.1; omega) hi km mm
    have i0 := hl.2.2.1
    have lt6 : (i1 < 6) = True := i32_t (by omega)
    have e1 := i32p1 (c := i1) i0 (by omega)
    have fin : ∀ (w3 : Hw) (k' m' : Nat), LPo g w' w3 cL D1 (i1 + 1) (HAd h1 i1.toNatClampNeg none) → (k' : Int) ≤ 4 + i1.toInt → (m' : Int) ≤ 29 + 15 * i1.toInt → WP (MX3_init g) Q (36, [some (.ref y), some (.int (i1 + 1))], [], w3, k', m') := by
      intro w3 k' m' hlp kk' mm'
      obtain ⟨D3, c3, h3, l1, l2, f1, f2, fD, hh⟩ := hlp
      obtain ⟨mc, hcL⟩ := hl.1
      have nD : ∀ {a : Nat} {o : Ob}, w' a = some o → (∀ z, o ≠ .inl (5, z)) → a ≠ D1 := fun ha ho e => by
        rcases hl.2.1 with ⟨k, -⟩ | ⟨-, -, k, -⟩
        · rw [e, k] at ha
          cases ha
          exact ho _ rfl
        · rw [e, k] at ha
          cases ha
      have nDw : ∀ {a : Nat} {o : Ob}, w a = some o → a ≠ D1 := fun e z => by
        rw [z, hD] at e
        cases e
      have nLw : ∀ {a : Nat} {o : Ob}, w a = some o → a ≠ cL := fun e z => by
        rw [z, hcl] at e
        cases e
      obtain ⟨mcp, hpL⟩ := hl2.1
      refine ih _ w3 D3 c3 h3 _ _ ⟨fun a o e n => f1 _ _ (hF.1 _ _ e n) (nLw e) (nDw e), fun a o e n => f2 _ _ e (hF.2 _ _ e n)⟩ (f1 _ _ hy (ne_of hy hcL (fun e => by cases e)) (nD hy (fun _ e => by cases e))) (f1 _ _ hn (ne_of hn hcL (fun e => by cases e)) (nD hn (fun _ e => by cases e))) l1 l2 (fun i hi => h0s h0n hh e1 i0 hi) (hl2.kp (fun fs e => f1 _ _ e cp.symm (nD e (fun _ e => by cases e))) (fun z e => ?_) (fun o e n => f2 _ _ e n)) (fun i b z => ?_) ?_ (by omega) (by omega) (by omega) (by omega)
      · rcases hl2.2.1 with ⟨-, q⟩ | ⟨-, -, q, -⟩
        · omega
        · rw [q] at e
          cases e
      · obtain ⟨f0, hb⟩ := hr2 i b z
        exact ⟨f0, f1 _ _ hb (ne_of hb hcL (fun e => by cases e)) (nD hb (fun _ e => by cases e))⟩
      · rcases fD with rfl | ⟨fD, -⟩
        · exact hD
        · cases hw : w D3 with
          | none => rfl
          | some o =>
            by_cases h : D3 = y
            · rw [h, hy] at fD
              cases fD
            · rw [hF.1 _ _ hw h] at fD
              cases fD
    rw [eX3_init_36]
    repeat' first
      | with_reducible assumption
      | with_reducible refine And.intro ?_ ?_
      | with_reducible exact fin _ _ _ (by assumption) (by omega) (by omega)
      | with_reducible refine go_YE hy ?_
      | with_reducible exact hl.gt
      | with_reducible refine sJx4a65c_add_9ea2dN (hF.eg hE) hS hl hr (by omega) (fun _ _ => ?_)
      | simp only [eX3_init_0, eX3_init_0N, eX3_init_1, eX3_init_4, eX3_init_4N, eX3_init_5, eX3_init_7, eX3_init_9, eX3_init_12, eX3_init_12N, eX3_init_13, eX3_init_16, eX3_init_16R, eX3_init_17, eX3_init_20, eX3_init_23, eX3_init_23N, eX3_init_24, eX3_init_27, eX3_init_27R, eX3_init_28, eX3_init_31, eX3_init_34, eX3_init_35, eX3_init_37, eX3_init_39, eX3_init_42, eX3_init_42N, eX3_init_43, eX3_init_46, eX3_init_47R, eX3_init_47N, eX3_init_50, eX3_init_50R, eX3_init_50N, eX3_init_51, eX3_init_54, eX3_init_57, ite_le, n45, n54, true_or, or_true, false_or, or_false, false_and, and_false, kx_l, kx_r, go_s, gl_s, gi_s, gb_s2, gb_s3, gq_s, wt_nil, wt_int, wt_long, wt_ref, wt_null, nl_int, nl_long, nl_ref, nl_null, nl_none, rf_n, rf_s, rf_st, tl_s, tl_n, g0, gS, ex1, nb_b, nb_0, nb_1, nf_i, nf_l, nf_ra, nf_ro, nf_na, nf_no, nf_b0, nf_z0, t45_4, t45_5, true_and, and_true, List.set_cons_zero, List.set_cons_succ, List.length_cons, List.length_nil, rd_s, upw_s, ne_eq, not_false_eq_true, Nat.zero_add, Nat.add_zero, if_true, if_false, eq_self, m10, lt6]
      | with_reducible refine itx (fun _ => ?_) (fun _ => ?_)
      | split
      | with_reducible intro _
      | omega
set_option maxHeartbeats 4000000 in
theorem fX3_init  (hE : EG g w) (hS : SG g) (hy : w y = some (.inr (7, [.int 0, .null, .null, .null, .int 0, .int 0, .int 0]))) (hQ : ∀ nM w', w nM = none → MF g w' y nM 0 0 S00 → FI g y w w' → Q (.inl none) w') : WP (MX3_init g) Q (0, [some (.ref y), none], [], w, 0, 0) := by
  have z0 : (0 : Int32).toInt = 0 := rfl
  have z6 : (6 : Int32).toInt = 6 := rfl
  simp only [eX3_init_0, eX3_init_0N, eX3_init_1, eX3_init_4, eX3_init_4N, eX3_init_5, eX3_init_7, ite_le, n45, n54, true_or, or_true, false_or, or_false, false_and, and_false, kx_l, kx_r, go_s, gl_s, gi_s, gb_s2, gb_s3, gq_s, wt_nil, wt_int, wt_long, wt_ref, wt_null, nl_int, nl_long, nl_ref, nl_null, nl_none, rf_n, rf_s, rf_st, tl_s, tl_n, g0, gS, ex1, nb_b, nb_0, nb_1, nf_i, nf_l, nf_ra, nf_ro, nf_na, nf_no, nf_b0, nf_z0, t45_4, t45_5, true_and, and_true, List.set_cons_zero, List.set_cons_succ, List.length_cons, List.length_nil, rd_s, upw_s, ne_eq, not_false_eq_true, Nat.zero_add, Nat.add_zero, if_true, if_false, eq_self, n8e]
  repeat' first | with_reducible refine And.intro ?_ ?_ | exact n8a | omega
  intro nM hqn
  have hqn' := rd_none hqn
  have ne : y ≠ nM := fun e => by
    rw [← e, hy] at hqn'
    cases hqn'
  simp only [eX3_init_9, ite_le, n45, n54, true_or, or_true, false_or, or_false, false_and, and_false, kx_l, kx_r, go_s, gl_s, gi_s, gb_s2, gb_s3, gq_s, wt_nil, wt_int, wt_long, wt_ref, wt_null, nl_int, nl_long, nl_ref, nl_null, nl_none, rf_n, rf_s, rf_st, tl_s, tl_n, g0, gS, ex1, nb_b, nb_0, nb_1, nf_i, nf_l, nf_ra, nf_ro, nf_na, nf_no, nf_b0, nf_z0, t45_4, t45_5, true_and, and_true, List.set_cons_zero, List.set_cons_succ, List.length_cons, List.length_nil, rd_s, upw_s, ne_eq, not_false_eq_true, Nat.zero_add, Nat.add_zero, if_true, if_false, eq_self, hy, ne, upw_n, tyX3]
  repeat' first | with_reducible refine And.intro ?_ ?_ | exact n8a | omega
  obtain ⟨w1, hw1⟩ : ∃ w1, upw (upw w nM (.inl (0, 8, .inr (.inl fun _ => 0)))) y (.inr (7, [.int 0, .ref nM, .null, .null, .int 0, .int 0, .int 0])) = w1 := ⟨_, rfl⟩
  rw [hw1]
  have hy1 : w1 y = some (.inr (7, [.int 0, .ref nM, .null, .null, .int 0, .int 0, .int 0])) := by
    rw [← hw1]
    exact upw_s _ _ _
  have hn1 : w1 nM = some (.inl (0, 8, .inr (.inl fun _ => 0))) := by
    rw [← hw1, upw_n ne.symm]
    exact upw_s _ _ _
  have hF1 : FI g y w w1 := by
    rw [← hw1]
    exact (FI.rf.ext (ext_up2 ext.rf hqn)).up (by
      rw [upw_n ne]
      exact hy)
  simp only [eX3_init_12, eX3_init_12N, eX3_init_13, eX3_init_16, eX3_init_16R, eX3_init_17, ite_le, n45, n54, true_or, or_true, false_or, or_false, false_and, and_false, kx_l, kx_r, go_s, gl_s, gi_s, gb_s2, gb_s3, gq_s, wt_nil, wt_int, wt_long, wt_ref, wt_null, nl_int, nl_long, nl_ref, nl_null, nl_none, rf_n, rf_s, rf_st, tl_s, tl_n, g0, gS, ex1, nb_b, nb_0, nb_1, nf_i, nf_l, nf_ra, nf_ro, nf_na, nf_no, nf_b0, nf_z0, t45_4, t45_5, true_and, and_true, List.set_cons_zero, List.set_cons_succ, List.length_cons, List.length_nil, rd_s, upw_s, ne_eq, not_false_eq_true, Nat.zero_add, Nat.add_zero, if_true, if_false, eq_self]
  repeat' first | with_reducible refine And.intro ?_ ?_ | exact n8a | omega
  intro cL hqc
  repeat' first | with_reducible refine And.intro ?_ ?_ | exact n8a | omega
  refine sInitF (hF1.eg hE) hqc (fun D1 w2 hk2 hl2 hd2 => ?_)
  have hy2 := hk2.1 _ _ hy1
  simp only [eX3_init_20, ite_le, n45, n54, true_or, or_true, false_or, or_false, false_and, and_false, kx_l, kx_r, go_s, gl_s, gi_s, gb_s2, gb_s3, gq_s, wt_nil, wt_int, wt_long, wt_ref, wt_null, nl_int, nl_long, nl_ref, nl_null, nl_none, rf_n, rf_s, rf_st, tl_s, tl_n, g0, gS, ex1, nb_b, nb_0, nb_1, nf_i, nf_l, nf_ra, nf_ro, nf_na, nf_no, nf_b0, nf_z0, t45_4, t45_5, true_and, and_true, List.set_cons_zero, List.set_cons_succ, List.length_cons, List.length_nil, rd_s, upw_s, ne_eq, not_false_eq_true, Nat.zero_add, Nat.add_zero, if_true, if_false, eq_self, hy2, tyX3]
  repeat' first | with_reducible refine And.intro ?_ ?_ | exact n8a | omega
  obtain ⟨w3, hw3⟩ : ∃ w3, upw w2 y (.inr (7, [.int 0, .ref nM, .ref cL, .null, .int 0, .int 0, .int 0])) = w3 := ⟨_, rfl⟩
  rw [hw3]
  have hy3 : w3 y = some (.inr (7, [.int 0, .ref nM, .ref cL, .null, .int 0, .int 0, .int 0])) := by
    rw [← hw3]
    exact upw_s _ _ _
  have hn3 : w3 nM = some (.inl (0, 8, .inr (.inl fun _ => 0))) := by
    rw [← hw3, upw_n ne.symm]
    exact hk2.1 _ _ hn1
  have hl3 : LL g w3 cL D1 0 0 (fun _ => none) := by
    rw [← hw3]
    exact hl2.up hy2 (fun _ e => by cases e) (fun _ e => by cases e)
  have hF3 : FI g y w w3 := by
    rw [← hw3]
    exact (hF1.ext hk2).up hy2
  simp only [eX3_init_23, eX3_init_23N, eX3_init_24, eX3_init_27, eX3_init_27R, eX3_init_28, ite_le, n45, n54, true_or, or_true, false_or, or_false, false_and, and_false, kx_l, kx_r, go_s, gl_s, gi_s, gb_s2, gb_s3, gq_s, wt_nil, wt_int, wt_long, wt_ref, wt_null, nl_int, nl_long, nl_ref, nl_null, nl_none, rf_n, rf_s, rf_st, tl_s, tl_n, g0, gS, ex1, nb_b, nb_0, nb_1, nf_i, nf_l, nf_ra, nf_ro, nf_na, nf_no, nf_b0, nf_z0, t45_4, t45_5, true_and, and_true, List.set_cons_zero, List.set_cons_succ, List.length_cons, List.length_nil, rd_s, upw_s, ne_eq, not_false_eq_true, Nat.zero_add, Nat.add_zero, if_true, if_false, eq_self]
  repeat' first | with_reducible refine And.intro ?_ ?_ | exact n8a | omega
  intro pL hqp
  repeat' first | with_reducible refine And.intro ?_ ?_ | exact n8a | omega
  refine sInitF (hF3.eg hE) hqp (fun D2 w4 hk4 hl4 hd4 => ?_)
  have hy4 := hk4.1 _ _ hy3
  simp only [eX3_init_31, ite_le, n45, n54, true_or, or_true, false_or, or_false, false_and, and_false, kx_l, kx_r, go_s, gl_s, gi_s, gb_s2, gb_s3, gq_s, wt_nil, wt_int, wt_long, wt_ref, wt_null, nl_int, nl_long, nl_ref, nl_null, nl_none, rf_n, rf_s, rf_st, tl_s, tl_n, g0, gS, ex1, nb_b, nb_0, nb_1, nf_i, nf_l, nf_ra, nf_ro, nf_na, nf_no, nf_b0, nf_z0, t45_4, t45_5, true_and, and_true, List.set_cons_zero, List.set_cons_succ, List.length_cons, List.length_nil, rd_s, upw_s, ne_eq, not_false_eq_true, Nat.zero_add, Nat.add_zero, if_true, if_false, eq_self, hy4, tyX3]
  repeat' first | with_reducible refine And.intro ?_ ?_ | exact n8a | omega
  obtain ⟨w5, hw5⟩ : ∃ w5, upw w4 y (.inr (7, [.int 0, .ref nM, .ref cL, .ref pL, .int 0, .int 0, .int 0])) = w5 := ⟨_, rfl⟩
  rw [hw5]
  have hy5 : w5 y = some (.inr (7, [.int 0, .ref nM, .ref cL, .ref pL, .int 0, .int 0, .int 0])) := by
    rw [← hw5]
    exact upw_s _ _ _
  have hn5 : w5 nM = some (.inl (0, 8, .inr (.inl fun _ => 0))) := by
    rw [← hw5, upw_n ne.symm]
    exact hk4.1 _ _ hn3
  have hcn : w cL = none := by
    cases e : w cL with
    | none => rfl
    | some o =>
      have q := rd_none hqc
      by_cases h : cL = y
      · rw [h, hy1] at q
        cases q
      · rw [hF1.1 _ _ e h] at q
        cases q
  have hdn : w D1 = none := by
    cases e : w D1 with
    | none => rfl
    | some o =>
      by_cases h : D1 = y
      · rw [h, hy1] at hd2
        cases hd2
      · rw [hF1.1 _ _ e h] at hd2
        cases hd2
  have cp : cL ≠ pL := fun e => by
    obtain ⟨mc, z⟩ := hl3.1
    rw [e, rd_none hqp] at z
    cases z
  simp only [eX3_init_34, eX3_init_35, ite_le, n45, n54, true_or, or_true, false_or, or_false, false_and, and_false, kx_l, kx_r, go_s, gl_s, gi_s, gb_s2, gb_s3, gq_s, wt_nil, wt_int, wt_long, wt_ref, wt_null, nl_int, nl_long, nl_ref, nl_null, nl_none, rf_n, rf_s, rf_st, tl_s, tl_n, g0, gS, ex1, nb_b, nb_0, nb_1, nf_i, nf_l, nf_ra, nf_ro, nf_na, nf_no, nf_b0, nf_z0, t45_4, t45_5, true_and, and_true, List.set_cons_zero, List.set_cons_succ, List.length_cons, List.length_nil, rd_s, upw_s, ne_eq, not_false_eq_true, Nat.zero_add, Nat.add_zero, if_true, if_false, eq_self]
  refine flX3_init_36 (D2 := D2) hE hS hcn cp hqn' hQ 6 0 w5 D1 0 (fun _ => none) _ _ ?_ hy5 hn5 ?_ nr0 (fun _ _ => rfl) ?_ nr0 hdn (by decide) (by decide) (by omega) (by omega)
  · rw [← hw5]
    exact (hF3.ext hk4).up hy4
  · rw [← hw5]
    exact (hl3.ext hk4).up hy4 (fun _ e => by cases e) (fun _ e => by cases e)
  · rw [← hw5]
    exact hl4.up hy4 (fun _ e => by cases e) (fun _ e => by cases e)
end
end
/-! 78.lw0.lean.txt -/
section
section
variable {g : RO} {Q : Ot → Hw → Prop} {w : Hw} {x nA cA lA y nM o : Nat} {kn km th : Int32} {s s2 : AS}
/-! THE LAW, BOTH SIDES: class and model, each in its state -/
def LW (g : RO) (w : Hw) (x nA cA lA y nM o : Nat) (kn km th : Int32) (s s2 : AS) : Prop := RF w x nA cA lA kn s ∧ sOk s ∧ MF g w y nM km th s2 ∧ nA ≠ nM ∧ (∃ a b : Value, w o = some (.inr (6, [a, b]))) ∧ ∀ (a : Nat) (z : Ob), g.2 a = some z → w a = none
def PO4 (o : Ob) : Prop := (∃ fs, o = .inr (5, fs)) ∨ (∃ fs, o = .inr (4, fs)) ∨ ∃ z, o = .inl (4, z)
theorem RF.mv {w' : Hw} (h : RF w x nA cA lA kn s) (m : ∀ (a : Nat) (z : Ob), w a = some z → PO4 z → w' a = some z) (mN : ∀ f : Nat → Int64, w nA = some (.inl (0, 8, .inr (.inl f))) → w' nA = some (.inl (0, 8, .inr (.inl f)))) : RF w' x nA cA lA kn s := by
  obtain ⟨gc, gl, ⟨h1, h2, h3, h4, h5, h6, h7⟩, k1, k2⟩ := h
  have r : ∀ b q, rAt w b q → rAt w' b q := fun b q hb => m _ _ hb (Or.inr (Or.inl ⟨_, rfl⟩))
  have rr : ∀ b, isR w b → isR w' b := fun b ⟨r0, r1, r2, r3, hb⟩ => ⟨r0, r1, r2, r3, m _ _ hb (Or.inr (Or.inl ⟨_, rfl⟩))⟩
  exact ⟨gc, gl, ⟨m _ _ h1 (Or.inl ⟨_, rfl⟩), mN _ h2, m _ _ h3 (Or.inr (Or.inr ⟨_, rfl⟩)), m _ _ h4 (Or.inr (Or.inr ⟨_, rfl⟩)), fun i b z => rr b (h5 i b z), fun i b z => rr b (h6 i b z), h7⟩, fun i hi => (k1 i hi).mp r, fun i hi => (k2 i hi).imp fun b z => ⟨z.1, r _ _ z.2⟩⟩
theorem RF.FM {w' : Hw} (h : RF w x nA cA lA kn s) (k : FM g nM w w') (hM : ∃ f : Nat → Int64, w nM = some (.inl (0, 8, .inr (.inl f)))) (hne : nA ≠ nM) : RF w' x nA cA lA kn s := by
  obtain ⟨fM, hM⟩ := hM
  refine h.mv (fun a z ha hP => k.1 a z ha (fun e => ?_) ?_) (fun f hf => k.1 _ _ hf hne rfl)
  · subst e
    rw [hM] at ha
    cases ha
    rcases hP with ⟨_, e⟩ | ⟨_, e⟩ | ⟨_, e⟩ <;> cases e
  · rcases hP with ⟨_, rfl⟩ | ⟨_, rfl⟩ | ⟨_, rfl⟩ <;> rfl
theorem MF.FC {w' : Hw} {fA : Nat → Int64} (h : MF g w y nM km th s2) (k : FC g nA w w') (hA : w nA = some (.inl (0, 8, .inr (.inl fA)))) (hne : nM ≠ nA) : MF g w' y nM km th s2 := by
  obtain ⟨cL, pL, D1, D2, c1, c2, h1, h2, a1, a2, a3, a4, a5, a6, a7, a8, a9, b1, b2⟩ := h
  have ll : ∀ {L D cap : Nat} {n : Int32} {h : Nat → Option Nat}, LL g w L D cap n h → LL g w' L D cap n h := fun hl => hl.kp (fun fs e => k.ne hA e (fun e => by cases e) rfl) (fun z e => k.ne hA e (fun e => by cases e) rfl) (fun o e1 e2 => k.2 _ o e1 e2)
  have rr : ∀ b r, rowA w b r → rowA w' b r := fun b r hb => k.ne hA hb (fun e => by cases e) rfl
  exact ⟨cL, pL, D1, D2, c1, c2, h1, h2, k.ne hA a1 (fun e => by cases e) rfl, k.1 _ _ a2 hne rfl, ll a3, fun i b z => k.row hA (a4 i b z), ll a5, fun i b z => k.row hA (a6 i b z), a7, a8, a9, fun i hi => (b1 i hi).mp rr, fun i hi => (b2 i hi).imp fun b z => ⟨z.1, rr _ _ z.2⟩⟩
theorem LW.cs (h : LW g w x nA cA lA y nM o kn km th s s2) : CS g w x nA cA lA kn s w := ⟨h.1, FC.rf⟩
theorem LW.cc (h : LW g w x nA cA lA y nM o kn km th s s2) : CC g w x nA cA lA kn w := h.cs.cc
theorem LW.ok (h : LW g w x nA cA lA y nM o kn km th s s2) : sOk s := h.2.1
theorem LW.ms (h : LW g w x nA cA lA y nM o kn km th s s2) : MS g w y nM km th s2 w := ⟨h.2.2.1, FM.rf⟩
theorem LW.ro (h : LW g w x nA cA lA y nM o kn km th s s2) : ∀ (a : Nat) (z : Ob), g.2 a = some z → w a = none := h.2.2.2.2.2
theorem LW.of {kn' : Int32} {s' : AS} {w' : Hw} (h : LW g w x nA cA lA y nM o kn km th s s2) (k : CS g w x nA cA lA kn' s' w') (ho : sOk s') : LW g w' x nA cA lA y nM o kn' km th s' s2 := by
  obtain ⟨h1, -, h2, h3, ⟨a, b, h4⟩, h5⟩ := h
  obtain ⟨gc, gl, ⟨r1, r2, -⟩, -⟩ := h1
  exact ⟨k.1, ho, h2.FC k.2 r2 h3.symm, h3, ⟨a, b, k.2.ne r2 h4 (fun e => by cases e) rfl⟩, fun a z e => k.2.2 a z e (h5 a z e)⟩
theorem LW.ofM {km' th' : Int32} {s2' : AS} {w' : Hw} (h : LW g w x nA cA lA y nM o kn km th s s2) (k : MS g w y nM km' th' s2' w') : LW g w' x nA cA lA y nM o kn km' th' s s2' := by
  obtain ⟨h1, ho, h2, h3, ⟨a, b, h4⟩, h5⟩ := h
  obtain ⟨cL, pL, D1, D2, c1, c2, h1', h2', a1, a2, -⟩ := h2
  exact ⟨h1.FM k.2 ⟨_, a2⟩ h3, ho, k.1, h3, ⟨a, b, k.2.1 _ _ h4 (ne_of h4 a2 (fun e => by cases e)) rfl⟩, fun a z e => k.2.2 a z e (h5 a z e)⟩
theorem LW.ext {w' : Hw} (h : LW g w x nA cA lA y nM o kn km th s s2) (k : ext g w w') : LW g w' x nA cA lA y nM o kn km th s s2 := h.of (h.cs.ext k) h.2.1
theorem LW.out {a b a' b' : Value} (h : LW g w x nA cA lA y nM o kn km th s s2) (ho : w o = some (.inr (6, [a, b]))) : LW g (upw w o (.inr (6, [a', b']))) x nA cA lA y nM o kn km th s s2 := by
  obtain ⟨h1, hk, h2, h3, -, h5⟩ := h
  obtain ⟨cL, pL, D1, D2, c1, c2, g1, g2, a1, a2, a3, a4, a5, a6, a7, a8, a9, b1, b2⟩ := h2
  refine ⟨h1.mv (fun c z hc hP => ?_) (fun f hf => ?_), hk, ⟨cL, pL, D1, D2, c1, c2, g1, g2, ?_, ?_, a3.up ho (fun _ e => by cases e) (fun _ e => by cases e), fun i b z => isRow_up (a4 i b z) ho (fun _ e => by cases e), a5.up ho (fun _ e => by cases e) (fun _ e => by cases e), fun i b z => isRow_up (a6 i b z) ho (fun _ e => by cases e), a7, a8, a9, fun i hi => (b1 i hi).mp fun _ _ z => rowA_up z ho (fun _ e => by cases e), fun i hi => (b2 i hi).imp fun _ z => ⟨z.1, rowA_up z.2 ho (fun _ e => by cases e)⟩⟩, h3, ⟨a', b', upw_s _ _ _⟩, fun a z e => ?_⟩
  · rw [upw_n]
    · exact hc
    · rintro rfl
      rw [ho] at hc
      cases hc
      rcases hP with ⟨_, e⟩ | ⟨_, e⟩ | ⟨_, e⟩ <;> cases e
  · rw [upw_n (ne_of hf ho (fun e => by cases e))]
    exact hf
  · rw [upw_n (ne_of a1 ho (fun e => by cases e))]
    exact a1
  · rw [upw_n (ne_of a2 ho (fun e => by cases e))]
    exact a2
  · rw [upw_n]
    · exact h5 a z e
    · rintro rfl
      rw [h5 _ _ e] at ho
      cases ho
theorem go_OF {K : List Value → Prop} (h : LW g w x nA cA lA y nM o kn km th s s2) (k : ∀ a b : Value, (∀ a' b' : Value, LW g (upw w o (.inr (6, [a', b']))) x nA cA lA y nM o kn km th s s2) → K [a, b]) : go (w o) 6 K := by
  obtain ⟨a, b, ho⟩ := h.2.2.2.2.1
  rw [ho, go_s]
  exact k a b (fun _ _ => h.out ho)
theorem LW.gx {K : List Value → Prop} (h : LW g w x nA cA lA y nM o kn km th s s2) (k : ∀ fs, K fs) : go (rd g w x) 5 K := by
  obtain ⟨gc, gl, ⟨r1, -⟩, -⟩ := h.1
  rw [rd_e r1, go_s]
  exact k _
theorem LW.gz {K : List Value → Prop} (h : LW g w x nA cA lA y nM o kn km th s s2) (k : ∀ fs, K fs) : go (rd g w y) 7 K := by
  obtain ⟨cL, pL, D1, D2, c1, c2, h1, h2, a1, -⟩ := h.2.2.1
  rw [rd_e a1, go_s]
  exact k _
/-- what is handed on -/
def outN (w : Hw) (o : Nat) (v : Int64) : Prop := ∃ b, w o = some (.inr (6, [.long v, b]))
theorem outN.mk {v : Int64} {b : Value} : outN (upw w o (.inr (6, [.long v, b]))) o v := ⟨b, upw_s _ _ _⟩
theorem outN.mv {v : Int64} {km' th' : Int32} {s2' : AS} {w' : Hw} (h : outN w o v) (hL : LW g w x nA cA lA y nM o kn km th s s2) (k : MS g w y nM km' th' s2' w') : outN w' o v := by
  obtain ⟨b, h⟩ := h
  obtain ⟨cL, pL, D1, D2, c1, c2, h1', h2', a1, a2, -⟩ := hL.2.2.1
  exact ⟨b, k.2.1 _ _ h (ne_of h a2 (fun e => by cases e)) rfl⟩
theorem go_ON {v : Int64} {K : List Value → Prop} (h : outN w o v) (k : ∀ b, K [.long v, b]) : go (rd g w o) 6 K := by
  obtain ⟨b, h⟩ := h
  rw [rd_e h, go_s]
  exact k b
theorem LW.rb {b : Nat} {z : Ob} (h : LW g w x nA cA lA y nM o kn km th s s2) (hb : g.2 b = some z) : rd g w b = some z := by
  unfold rd
  rw [h.ro b z hb]
  exact hb
theorem gi_W {b L : Nat} {xs : Nat → Int32} {K : Nat → (Nat → Int32) → Prop} (h : LW g w x nA cA lA y nM o kn km th s s2) (hb : g.2 b = some (.inl (1, L, .inl xs))) (k : K L xs) : gi (rd g w b) 1 K := by
  rw [h.rb hb]
  exact ⟨rfl, k⟩
theorem nsC {q : Option R4} {r : R4} (h : q = none) (k : q = some r) : False := by
  rw [h] at k
  cases k
theorem fstU {f : Nat → R4} {r : R4} {i j : Nat} (h1 : mP r (f i)) (h2 : ∀ k, k < i → ¬ mP r (f k)) (k1 : mP r (f j)) (k2 : ∀ k, k < j → ¬ mP r (f k)) : i = j := by
  rcases Nat.lt_trichotomy i j with q | q | q
  · exact absurd h1 (k2 i q)
  · exact q
  · exact absurd k1 (h2 j q)
end
end
/-! 78.lw1.lean.txt -/
section
section
variable {g : RO} {Q : Ot → Hw → Prop} {w : Hw} {x nA cA lA y nM o : Nat} {kn km th : Int32} {s s2 : AS}
set_option maxHeartbeats 4000000 in
theorem fL_set {a0 a1 a2 : Int32} (hL : LW g w x nA cA lA y nM o kn km th s s2) (hX : ¬ okN a0 → Q (.inl (some (.int 1))) w) (hQ : okN a0 → ∀ w', LW g w' x nA cA lA y nM o kn km th (sN s (vp_updL s.1 a0.toNatClampNeg (stV a1 a2))) s2 → outN w' o ((hiV (s.1 a0.toNatClampNeg)).toInt64) → Q (.inl (some (.int 0))) w') : WP (ML_set g) Q (0, [some (.ref x), some (.int a0), some (.int a1), some (.int a2), some (.ref o), none], [], w, 0, 0) := by
  have ho := hL.2.1
  repeat' first
    | with_reducible assumption
    | with_reducible refine And.intro ?_ ?_
    | with_reducible refine LW.gx hL (fun _ => trivial)
    | with_reducible refine fX1_set hL.cs (fun hXc0 => ?_) (fun hQc0 hQw hQh => ?_)
    | refine hgo_h (HH := [(0, 13, 16, 19)]) (NN := [(19, "java/lang/IndexOutOfBoundsException")]) (h := 16) (E := "java/lang/IndexOutOfBoundsException") rfl rfl (by decide +kernel) (by decide) (fun _ => ?_)
    | with_reducible exact hX hXc0
    | with_reducible refine go_OF (LW.of hL hQh (by first | with_reducible exact ho | with_reducible exact ho.num | with_reducible exact ho.rf | with_reducible exact ho.mk (by assumption) | with_reducible exact ho.mk (ho.c' (by assumption) (by assumption)) | with_reducible exact ho.mkO (by assumption) (by assumption) | with_reducible exact ho.card0 | with_reducible exact ho.card (ho.c' (by assumption) (by assumption)) | with_reducible exact ho.card (ho.p' (by assumption)) | with_reducible exact ho.lay (ho.c' (by assumption) (by assumption)) (by assumption) | with_reducible exact ho.gap (by assumption) | with_reducible exact ho.tur | with_reducible exact ho.zero)) (fun _ _ hw => ?_)
    | with_reducible exact hQ hQc0 _ (hw _ _) outN.mk
    | with_reducible refine go_OF hL (fun _ _ hw => ?_)
    | simp only [eL_set_0, eL_set_0N, eL_set_2, eL_set_2N, eL_set_3, eL_set_4, eL_set_5, eL_set_6, eL_set_9, eL_set_10, eL_set_13, eL_set_16, eL_set_16N, eL_set_18, eL_set_19, eL_set_20, eL_set_21, i10, i00, ite_le, n45, n54, true_or, or_true, false_or, or_false, false_and, and_false, kx_l, kx_r, go_s, gl_s, gi_s, gb_s2, gb_s3, gq_s, wt_nil, wt_int, wt_long, wt_ref, wt_null, nl_int, nl_long, nl_ref, nl_null, nl_none, rf_n, rf_s, rf_st, tl_s, tl_n, g0, gS, ex1, nb_b, nb_0, nb_1, nf_i, nf_l, nf_ra, nf_ro, nf_na, nf_no, nf_b0, nf_z0, t45_4, t45_5, true_and, and_true, List.set_cons_zero, List.set_cons_succ, List.length_cons, List.length_nil, rd_s, upw_s, ne_eq, not_false_eq_true, Nat.zero_add, Nat.add_zero, if_true, if_false, eq_self, tyX2]
    | split
    | with_reducible intro _
    | omega
set_option maxHeartbeats 4000000 in
theorem fL_setSmall {a0 a1 : Int32} (hL : LW g w x nA cA lA y nM o kn km th s s2) (hX : ¬ okN a0 → Q (.inl (some (.int 1))) w) (hQ : okN a0 → ∀ w', LW g w' x nA cA lA y nM o kn km th (sN s (vp_updL s.1 a0.toNatClampNeg a1.toInt64)) s2 → outN w' o ((loV (s.1 a0.toNatClampNeg)).toInt64) → Q (.inl (some (.int 0))) w') : WP (ML_setSmall g) Q (0, [some (.ref x), some (.int a0), some (.int a1), some (.ref o), none], [], w, 0, 0) := by
  have ho := hL.2.1
  repeat' first
    | with_reducible assumption
    | with_reducible refine And.intro ?_ ?_
    | with_reducible refine LW.gx hL (fun _ => trivial)
    | with_reducible refine fX1_setSmall hL.cs (fun hXc0 => ?_) (fun hQc0 hQw hQh => ?_)
    | refine hgo_h (HH := [(0, 11, 14, 19)]) (NN := [(19, "java/lang/IndexOutOfBoundsException")]) (h := 14) (E := "java/lang/IndexOutOfBoundsException") rfl rfl (by decide +kernel) (by decide) (fun _ => ?_)
    | with_reducible exact hX hXc0
    | with_reducible refine go_OF (LW.of hL hQh (by first | with_reducible exact ho | with_reducible exact ho.num | with_reducible exact ho.rf | with_reducible exact ho.mk (by assumption) | with_reducible exact ho.mk (ho.c' (by assumption) (by assumption)) | with_reducible exact ho.mkO (by assumption) (by assumption) | with_reducible exact ho.card0 | with_reducible exact ho.card (ho.c' (by assumption) (by assumption)) | with_reducible exact ho.card (ho.p' (by assumption)) | with_reducible exact ho.lay (ho.c' (by assumption) (by assumption)) (by assumption) | with_reducible exact ho.gap (by assumption) | with_reducible exact ho.tur | with_reducible exact ho.zero)) (fun _ _ hw => ?_)
    | with_reducible exact hQ hQc0 _ (hw _ _) outN.mk
    | with_reducible refine go_OF hL (fun _ _ hw => ?_)
    | simp only [eL_setSmall_0, eL_setSmall_0N, eL_setSmall_1, eL_setSmall_1N, eL_setSmall_2, eL_setSmall_3, eL_setSmall_4, eL_setSmall_7, eL_setSmall_8, eL_setSmall_11, eL_setSmall_14, eL_setSmall_14N, eL_setSmall_16, eL_setSmall_17, eL_setSmall_18, eL_setSmall_19, i10, i00, ite_le, n45, n54, true_or, or_true, false_or, or_false, false_and, and_false, kx_l, kx_r, go_s, gl_s, gi_s, gb_s2, gb_s3, gq_s, wt_nil, wt_int, wt_long, wt_ref, wt_null, nl_int, nl_long, nl_ref, nl_null, nl_none, rf_n, rf_s, rf_st, tl_s, tl_n, g0, gS, ex1, nb_b, nb_0, nb_1, nf_i, nf_l, nf_ra, nf_ro, nf_na, nf_no, nf_b0, nf_z0, t45_4, t45_5, true_and, and_true, List.set_cons_zero, List.set_cons_succ, List.length_cons, List.length_nil, rd_s, upw_s, ne_eq, not_false_eq_true, Nat.zero_add, Nat.add_zero, if_true, if_false, eq_self, tyX2]
    | split
    | with_reducible intro _
    | omega
set_option maxHeartbeats 4000000 in
theorem fL_setEnd {a0 a1 : Int32} (hL : LW g w x nA cA lA y nM o kn km th s s2) (hX : ¬ okN a0 → Q (.inl (some (.int 1))) w) (hW : okN a0 → ¬ okW a1 3 → Q (.inl (some (.int 2))) w) (hQ : okN a0 → okW a1 3 → ∀ w', LW g w' x nA cA lA y nM o kn km th (sN s (vp_updL s.1 a0.toNatClampNeg (frV a1))) s2 → outN w' o ((loV (frV a1)).toInt64) → Q (.inl (some (.int 0))) w') : WP (ML_setEnd g) Q (0, [some (.ref x), some (.int a0), some (.int a1), some (.ref o), none], [], w, 0, 0) := by
  have ho := hL.2.1
  repeat' first
    | with_reducible assumption
    | with_reducible refine And.intro ?_ ?_
    | with_reducible refine LW.gx hL (fun _ => trivial)
    | with_reducible refine fX1_setEnd hL.cs (fun hXc0 => ?_) (fun hWc0 hWc1 => ?_) (fun hQc0 hQc1 hQw hQh => ?_)
    | refine hgo_h (HH := [(0, 11, 14, 19), (0, 11, 18, 28)]) (NN := [(19, "java/lang/IndexOutOfBoundsException"), (28, "java/lang/IllegalArgumentException")]) (h := 14) (E := "java/lang/IndexOutOfBoundsException") rfl rfl (by decide +kernel) (by decide) (fun _ => ?_)
    | refine hgo_h (HH := [(0, 11, 14, 19), (0, 11, 18, 28)]) (NN := [(19, "java/lang/IndexOutOfBoundsException"), (28, "java/lang/IllegalArgumentException")]) (h := 18) (E := "java/lang/IllegalArgumentException") rfl rfl (by decide +kernel) (by decide) (fun _ => ?_)
    | with_reducible exact hX hXc0
    | with_reducible exact hW hWc0 hWc1
    | with_reducible refine go_OF (LW.of hL hQh (by first | with_reducible exact ho | with_reducible exact ho.num | with_reducible exact ho.rf | with_reducible exact ho.mk (by assumption) | with_reducible exact ho.mk (ho.c' (by assumption) (by assumption)) | with_reducible exact ho.mkO (by assumption) (by assumption) | with_reducible exact ho.card0 | with_reducible exact ho.card (ho.c' (by assumption) (by assumption)) | with_reducible exact ho.card (ho.p' (by assumption)) | with_reducible exact ho.lay (ho.c' (by assumption) (by assumption)) (by assumption) | with_reducible exact ho.gap (by assumption) | with_reducible exact ho.tur | with_reducible exact ho.zero)) (fun _ _ hw => ?_)
    | with_reducible exact hQ hQc0 hQc1 _ (hw _ _) outN.mk
    | with_reducible refine go_OF hL (fun _ _ hw => ?_)
    | simp only [eL_setEnd_0, eL_setEnd_0N, eL_setEnd_1, eL_setEnd_1N, eL_setEnd_2, eL_setEnd_3, eL_setEnd_4, eL_setEnd_7, eL_setEnd_8, eL_setEnd_11, eL_setEnd_14, eL_setEnd_14N, eL_setEnd_16, eL_setEnd_17, eL_setEnd_18, eL_setEnd_18N, eL_setEnd_20, eL_setEnd_21, eL_setEnd_22, eL_setEnd_23, i10, i00, ite_le, n45, n54, true_or, or_true, false_or, or_false, false_and, and_false, kx_l, kx_r, go_s, gl_s, gi_s, gb_s2, gb_s3, gq_s, wt_nil, wt_int, wt_long, wt_ref, wt_null, nl_int, nl_long, nl_ref, nl_null, nl_none, rf_n, rf_s, rf_st, tl_s, tl_n, g0, gS, ex1, nb_b, nb_0, nb_1, nf_i, nf_l, nf_ra, nf_ro, nf_na, nf_no, nf_b0, nf_z0, t45_4, t45_5, true_and, and_true, List.set_cons_zero, List.set_cons_succ, List.length_cons, List.length_nil, rd_s, upw_s, ne_eq, not_false_eq_true, Nat.zero_add, Nat.add_zero, if_true, if_false, eq_self, tyX2]
    | split
    | with_reducible intro _
    | omega
set_option maxHeartbeats 4000000 in
theorem fL_move {a0 a1 : Int32} (hL : LW g w x nA cA lA y nM o kn km th s s2) (hX : ¬ okN a0 → Q (.inl (some (.int 1))) w) (hQ : okN a0 → ∀ w', LW g w' x nA cA lA y nM o kn km th (sN s (vp_updL s.1 a0.toNatClampNeg (s.1 a0.toNatClampNeg + a1.toInt64))) s2 → outN w' o ((loV (s.1 a0.toNatClampNeg + a1.toInt64)).toInt64) → Q (.inl (some (.int 0))) w') : WP (ML_move g) Q (0, [some (.ref x), some (.int a0), some (.int a1), some (.ref o), none], [], w, 0, 0) := by
  have ho := hL.2.1
  repeat' first
    | with_reducible assumption
    | with_reducible refine And.intro ?_ ?_
    | with_reducible refine LW.gx hL (fun _ => trivial)
    | with_reducible refine fX1_move hL.cs (fun hXc0 => ?_) (fun hQc0 hQw hQh => ?_)
    | refine hgo_h (HH := [(0, 11, 14, 19)]) (NN := [(19, "java/lang/IndexOutOfBoundsException")]) (h := 14) (E := "java/lang/IndexOutOfBoundsException") rfl rfl (by decide +kernel) (by decide) (fun _ => ?_)
    | with_reducible exact hX hXc0
    | with_reducible refine go_OF (LW.of hL hQh (by first | with_reducible exact ho | with_reducible exact ho.num | with_reducible exact ho.rf | with_reducible exact ho.mk (by assumption) | with_reducible exact ho.mk (ho.c' (by assumption) (by assumption)) | with_reducible exact ho.mkO (by assumption) (by assumption) | with_reducible exact ho.card0 | with_reducible exact ho.card (ho.c' (by assumption) (by assumption)) | with_reducible exact ho.card (ho.p' (by assumption)) | with_reducible exact ho.lay (ho.c' (by assumption) (by assumption)) (by assumption) | with_reducible exact ho.gap (by assumption) | with_reducible exact ho.tur | with_reducible exact ho.zero)) (fun _ _ hw => ?_)
    | with_reducible exact hQ hQc0 _ (hw _ _) outN.mk
    | with_reducible refine go_OF hL (fun _ _ hw => ?_)
    | simp only [eL_move_0, eL_move_0N, eL_move_1, eL_move_1N, eL_move_2, eL_move_3, eL_move_4, eL_move_7, eL_move_8, eL_move_11, eL_move_14, eL_move_14N, eL_move_16, eL_move_17, eL_move_18, eL_move_19, i10, i00, ite_le, n45, n54, true_or, or_true, false_or, or_false, false_and, and_false, kx_l, kx_r, go_s, gl_s, gi_s, gb_s2, gb_s3, gq_s, wt_nil, wt_int, wt_long, wt_ref, wt_null, nl_int, nl_long, nl_ref, nl_null, nl_none, rf_n, rf_s, rf_st, tl_s, tl_n, g0, gS, ex1, nb_b, nb_0, nb_1, nf_i, nf_l, nf_ra, nf_ro, nf_na, nf_no, nf_b0, nf_z0, t45_4, t45_5, true_and, and_true, List.set_cons_zero, List.set_cons_succ, List.length_cons, List.length_nil, rd_s, upw_s, ne_eq, not_false_eq_true, Nat.zero_add, Nat.add_zero, if_true, if_false, eq_self, tyX2]
    | split
    | with_reducible intro _
    | omega
set_option maxHeartbeats 4000000 in
theorem fL_copy {a0 a1 : Int32} (hL : LW g w x nA cA lA y nM o kn km th s s2) (hX : ¬ (okN a0 ∧ okN a1) → Q (.inl (some (.int 1))) w) (hQ : okN a0 → okN a1 → ∀ w', LW g w' x nA cA lA y nM o kn km th (sN s (vp_updL s.1 a0.toNatClampNeg (s.1 a1.toNatClampNeg))) s2 → outN w' o ((loV (s.1 a1.toNatClampNeg)).toInt64) → Q (.inl (some (.int 0))) w') : WP (ML_copy g) Q (0, [some (.ref x), some (.int a0), some (.int a1), some (.ref o), none], [], w, 0, 0) := by
  have ho := hL.2.1
  repeat' first
    | with_reducible assumption
    | with_reducible refine And.intro ?_ ?_
    | with_reducible refine LW.gx hL (fun _ => trivial)
    | with_reducible refine fX1_copy hL.cs (fun hXc0 => ?_) (fun hQc0 hQc1 hQw hQh => ?_)
    | refine hgo_h (HH := [(0, 11, 14, 19)]) (NN := [(19, "java/lang/IndexOutOfBoundsException")]) (h := 14) (E := "java/lang/IndexOutOfBoundsException") rfl rfl (by decide +kernel) (by decide) (fun _ => ?_)
    | with_reducible exact hX hXc0
    | with_reducible refine go_OF (LW.of hL hQh (by first | with_reducible exact ho | with_reducible exact ho.num | with_reducible exact ho.rf | with_reducible exact ho.mk (by assumption) | with_reducible exact ho.mk (ho.c' (by assumption) (by assumption)) | with_reducible exact ho.mkO (by assumption) (by assumption) | with_reducible exact ho.card0 | with_reducible exact ho.card (ho.c' (by assumption) (by assumption)) | with_reducible exact ho.card (ho.p' (by assumption)) | with_reducible exact ho.lay (ho.c' (by assumption) (by assumption)) (by assumption) | with_reducible exact ho.gap (by assumption) | with_reducible exact ho.tur | with_reducible exact ho.zero)) (fun _ _ hw => ?_)
    | with_reducible exact hQ hQc0 hQc1 _ (hw _ _) outN.mk
    | with_reducible refine go_OF hL (fun _ _ hw => ?_)
    | simp only [eL_copy_0, eL_copy_0N, eL_copy_1, eL_copy_1N, eL_copy_2, eL_copy_3, eL_copy_4, eL_copy_7, eL_copy_8, eL_copy_11, eL_copy_14, eL_copy_14N, eL_copy_16, eL_copy_17, eL_copy_18, eL_copy_19, i10, i00, ite_le, n45, n54, true_or, or_true, false_or, or_false, false_and, and_false, kx_l, kx_r, go_s, gl_s, gi_s, gb_s2, gb_s3, gq_s, wt_nil, wt_int, wt_long, wt_ref, wt_null, nl_int, nl_long, nl_ref, nl_null, nl_none, rf_n, rf_s, rf_st, tl_s, tl_n, g0, gS, ex1, nb_b, nb_0, nb_1, nf_i, nf_l, nf_ra, nf_ro, nf_na, nf_no, nf_b0, nf_z0, t45_4, t45_5, true_and, and_true, List.set_cons_zero, List.set_cons_succ, List.length_cons, List.length_nil, rd_s, upw_s, ne_eq, not_false_eq_true, Nat.zero_add, Nat.add_zero, if_true, if_false, eq_self, tyX2]
    | split
    | with_reducible intro _
    | omega
set_option maxHeartbeats 4000000 in
theorem fL_ofNumber {a0 a1 : Int32} (hL : LW g w x nA cA lA y nM o kn km th s s2) (hX : ¬ okN a0 → Q (.inl (some (.int 1))) w) (hQ : okN a0 → ∀ w', LW g w' x nA cA lA y nM o kn km th s s2 → outN w' o ((hfV (s.1 a0.toNatClampNeg) a1).toInt64) → Q (.inl (some (.int 0))) w') : WP (ML_ofNumber g) Q (0, [some (.ref x), some (.int a0), some (.int a1), some (.ref o), none], [], w, 0, 0) := by
  have ho := hL.2.1
  repeat' first
    | with_reducible assumption
    | with_reducible refine And.intro ?_ ?_
    | with_reducible refine LW.gx hL (fun _ => trivial)
    | with_reducible refine fX1_ofNumber hL.cs (fun hXc0 => ?_) (fun hQc0 => ?_)
    | refine hgo_h (HH := [(0, 11, 14, 19)]) (NN := [(19, "java/lang/IndexOutOfBoundsException")]) (h := 14) (E := "java/lang/IndexOutOfBoundsException") rfl rfl (by decide +kernel) (by decide) (fun _ => ?_)
    | with_reducible exact hX hXc0
    | with_reducible exact hQ hQc0 _ (hw _ _) outN.mk
    | with_reducible refine go_OF hL (fun _ _ hw => ?_)
    | simp only [eL_ofNumber_0, eL_ofNumber_0N, eL_ofNumber_1, eL_ofNumber_1N, eL_ofNumber_2, eL_ofNumber_3, eL_ofNumber_4, eL_ofNumber_7, eL_ofNumber_8, eL_ofNumber_11, eL_ofNumber_14, eL_ofNumber_14N, eL_ofNumber_16, eL_ofNumber_17, eL_ofNumber_18, eL_ofNumber_19, i10, i00, ite_le, n45, n54, true_or, or_true, false_or, or_false, false_and, and_false, kx_l, kx_r, go_s, gl_s, gi_s, gb_s2, gb_s3, gq_s, wt_nil, wt_int, wt_long, wt_ref, wt_null, nl_int, nl_long, nl_ref, nl_null, nl_none, rf_n, rf_s, rf_st, tl_s, tl_n, g0, gS, ex1, nb_b, nb_0, nb_1, nf_i, nf_l, nf_ra, nf_ro, nf_na, nf_no, nf_b0, nf_z0, t45_4, t45_5, true_and, and_true, List.set_cons_zero, List.set_cons_succ, List.length_cons, List.length_nil, rd_s, upw_s, ne_eq, not_false_eq_true, Nat.zero_add, Nat.add_zero, if_true, if_false, eq_self, tyX2]
    | split
    | with_reducible intro _
    | omega
set_option maxHeartbeats 4000000 in
theorem gL_numberText {a0 : Int32} (hR : RG g) (hL : LW g w x nA cA lA y nM o kn km th s s2) (hQ : ∀ (v : Int32) (w' : Hw), LW g w' x nA cA lA y nM o kn km th s s2 → Q (.inl (some (.int v))) w') : WP (ML_numberText g) Q (0, [some (.ref x), some (.int a0), some (.ref o), none], [], w, 0, 0) := by
  repeat' first
    | with_reducible assumption
    | with_reducible refine And.intro ?_ ?_
    | with_reducible refine LW.gx hL (fun _ => trivial)
    | with_reducible refine sX1_numberText hL.cc hR.sg (hR.dg hL.ro) ?_ (fun _ _ _ => ?_)
    | refine hgo_h (HH := [(0, 9, 12, 19)]) (NN := [(19, "java/lang/IndexOutOfBoundsException")]) (h := 12) (E := "java/lang/IndexOutOfBoundsException") rfl rfl (by decide +kernel) (by decide) (fun _ => ?_)
    | with_reducible refine go_OF (by first | assumption | exact hL | exact hL.ext (by assumption)) (fun _ _ hw => ?_)
    | with_reducible exact hQ _ _ (hw _ _)
    | with_reducible exact hQ _ _ hL
    | simp only [eL_numberText_0, eL_numberText_0N, eL_numberText_1, eL_numberText_1N, eL_numberText_2, eL_numberText_3, eL_numberText_6, eL_numberText_9, eL_numberText_12, eL_numberText_12N, eL_numberText_13, eL_numberText_14, eL_numberText_15, eL_numberText_16, ite_le, n45, n54, true_or, or_true, false_or, or_false, false_and, and_false, kx_l, kx_r, go_s, gl_s, gi_s, gb_s2, gb_s3, gq_s, wt_nil, wt_int, wt_long, wt_ref, wt_null, nl_int, nl_long, nl_ref, nl_null, nl_none, rf_n, rf_s, rf_st, tl_s, tl_n, g0, gS, ex1, nb_b, nb_0, nb_1, nf_i, nf_l, nf_ra, nf_ro, nf_na, nf_no, nf_b0, nf_z0, t45_4, t45_5, true_and, and_true, List.set_cons_zero, List.set_cons_succ, List.length_cons, List.length_nil, rd_s, upw_s, ne_eq, not_false_eq_true, Nat.zero_add, Nat.add_zero, if_true, if_false, eq_self, tyX2]
    | split
    | with_reducible intro _
    | omega
set_option maxHeartbeats 4000000 in
theorem fL_order {a0 a1 : Int32} (hL : LW g w x nA cA lA y nM o kn km th s s2) (hX : ¬ (okN a0 ∧ okN a1) → Q (.inl (some (.int 1))) w) (hQ : okN a0 → okN a1 → ∀ w', LW g w' x nA cA lA y nM o kn km th s s2 → outN w' o ((orV (s.1 a0.toNatClampNeg) (s.1 a1.toNatClampNeg)).toInt64) → Q (.inl (some (.int 0))) w') : WP (ML_order g) Q (0, [some (.ref x), some (.int a0), some (.int a1), some (.ref o), none], [], w, 0, 0) := by
  have ho := hL.2.1
  repeat' first
    | with_reducible assumption
    | with_reducible refine And.intro ?_ ?_
    | with_reducible refine LW.gx hL (fun _ => trivial)
    | with_reducible refine fX1_order hL.cs (fun hXc0 => ?_) (fun hQc0 hQc1 => ?_)
    | refine hgo_h (HH := [(0, 11, 14, 19)]) (NN := [(19, "java/lang/IndexOutOfBoundsException")]) (h := 14) (E := "java/lang/IndexOutOfBoundsException") rfl rfl (by decide +kernel) (by decide) (fun _ => ?_)
    | with_reducible exact hX hXc0
    | with_reducible exact hQ hQc0 hQc1 _ (hw _ _) outN.mk
    | with_reducible refine go_OF hL (fun _ _ hw => ?_)
    | simp only [eL_order_0, eL_order_0N, eL_order_1, eL_order_1N, eL_order_2, eL_order_3, eL_order_4, eL_order_7, eL_order_8, eL_order_11, eL_order_14, eL_order_14N, eL_order_16, eL_order_17, eL_order_18, eL_order_19, i10, i00, ite_le, n45, n54, true_or, or_true, false_or, or_false, false_and, and_false, kx_l, kx_r, go_s, gl_s, gi_s, gb_s2, gb_s3, gq_s, wt_nil, wt_int, wt_long, wt_ref, wt_null, nl_int, nl_long, nl_ref, nl_null, nl_none, rf_n, rf_s, rf_st, tl_s, tl_n, g0, gS, ex1, nb_b, nb_0, nb_1, nf_i, nf_l, nf_ra, nf_ro, nf_na, nf_no, nf_b0, nf_z0, t45_4, t45_5, true_and, and_true, List.set_cons_zero, List.set_cons_succ, List.length_cons, List.length_nil, rd_s, upw_s, ne_eq, not_false_eq_true, Nat.zero_add, Nat.add_zero, if_true, if_false, eq_self, tyX2]
    | split
    | with_reducible intro _
    | omega
set_option maxHeartbeats 4000000 in
theorem fL_two {a0 a1 a2 : Int32} (hL : LW g w x nA cA lA y nM o kn km th s s2) (hX : ¬ (okC a0 ∧ okN a1 ∧ okN a2) → Q (.inl (some (.int 1))) w) (hT : okC a0 → okN a1 → okN a2 → oP (s.1 a1.toNatClampNeg) (s.1 a1.toNatClampNeg) (s.1 a2.toNatClampNeg) (s.1 a2.toNatClampNeg) → ∀ w', LW g w' x nA cA lA y nM o kn km th (sMk s a0.toNatClampNeg (s.1 a1.toNatClampNeg, s.1 a1.toNatClampNeg, s.1 a2.toNatClampNeg, s.1 a2.toNatClampNeg)) s2 → outN w' o ((1 : Int32).toInt64) → Q (.inl (some (.int 0))) w') (hF : okC a0 → okN a1 → okN a2 → ¬ oP (s.1 a1.toNatClampNeg) (s.1 a1.toNatClampNeg) (s.1 a2.toNatClampNeg) (s.1 a2.toNatClampNeg) → ∀ w', LW g w' x nA cA lA y nM o kn km th (sRf s) s2 → outN w' o ((-9 : Int32).toInt64) → Q (.inl (some (.int 0))) w') : WP (ML_two g) Q (0, [some (.ref x), some (.int a0), some (.int a1), some (.int a2), some (.ref o), none], [], w, 0, 0) := by
  have ho := hL.2.1
  repeat' first
    | with_reducible assumption
    | with_reducible refine And.intro ?_ ?_
    | with_reducible refine LW.gx hL (fun _ => trivial)
    | with_reducible refine fX1_two hL.cs (fun hXc0 => ?_) (fun hTc0 hTc1 hTc2 hTc3 hTw hTh => ?_) (fun hFc0 hFc1 hFc2 hFc3 hFw hFh => ?_)
    | refine hgo_h (HH := [(0, 13, 16, 19)]) (NN := [(19, "java/lang/IndexOutOfBoundsException")]) (h := 16) (E := "java/lang/IndexOutOfBoundsException") rfl rfl (by decide +kernel) (by decide) (fun _ => ?_)
    | with_reducible exact hX hXc0
    | with_reducible refine go_OF (LW.of hL hTh (by first | with_reducible exact ho | with_reducible exact ho.num | with_reducible exact ho.rf | with_reducible exact ho.mk (by assumption) | with_reducible exact ho.mk (ho.c' (by assumption) (by assumption)) | with_reducible exact ho.mkO (by assumption) (by assumption) | with_reducible exact ho.card0 | with_reducible exact ho.card (ho.c' (by assumption) (by assumption)) | with_reducible exact ho.card (ho.p' (by assumption)) | with_reducible exact ho.lay (ho.c' (by assumption) (by assumption)) (by assumption) | with_reducible exact ho.gap (by assumption) | with_reducible exact ho.tur | with_reducible exact ho.zero)) (fun _ _ hw => ?_)
    | with_reducible exact hT hTc0 hTc1 hTc2 hTc3 _ (hw _ _) outN.mk
    | with_reducible refine go_OF (LW.of hL hFh (by first | with_reducible exact ho | with_reducible exact ho.num | with_reducible exact ho.rf | with_reducible exact ho.mk (by assumption) | with_reducible exact ho.mk (ho.c' (by assumption) (by assumption)) | with_reducible exact ho.mkO (by assumption) (by assumption) | with_reducible exact ho.card0 | with_reducible exact ho.card (ho.c' (by assumption) (by assumption)) | with_reducible exact ho.card (ho.p' (by assumption)) | with_reducible exact ho.lay (ho.c' (by assumption) (by assumption)) (by assumption) | with_reducible exact ho.gap (by assumption) | with_reducible exact ho.tur | with_reducible exact ho.zero)) (fun _ _ hw => ?_)
    | with_reducible exact hF hFc0 hFc1 hFc2 hFc3 _ (hw _ _) outN.mk
    | with_reducible refine go_OF hL (fun _ _ hw => ?_)
    | simp only [eL_two_0, eL_two_0N, eL_two_2, eL_two_2N, eL_two_3, eL_two_4, eL_two_5, eL_two_6, eL_two_9, eL_two_10, eL_two_13, eL_two_16, eL_two_16N, eL_two_18, eL_two_19, eL_two_20, eL_two_21, i10, i00, ite_le, n45, n54, true_or, or_true, false_or, or_false, false_and, and_false, kx_l, kx_r, go_s, gl_s, gi_s, gb_s2, gb_s3, gq_s, wt_nil, wt_int, wt_long, wt_ref, wt_null, nl_int, nl_long, nl_ref, nl_null, nl_none, rf_n, rf_s, rf_st, tl_s, tl_n, g0, gS, ex1, nb_b, nb_0, nb_1, nf_i, nf_l, nf_ra, nf_ro, nf_na, nf_no, nf_b0, nf_z0, t45_4, t45_5, true_and, and_true, List.set_cons_zero, List.set_cons_succ, List.length_cons, List.length_nil, rd_s, upw_s, ne_eq, not_false_eq_true, Nat.zero_add, Nat.add_zero, if_true, if_false, eq_self, tyX2]
    | split
    | with_reducible intro _
    | omega
set_option maxHeartbeats 4000000 in
theorem fL_three {a0 a1 a2 a3 : Int32} (hL : LW g w x nA cA lA y nM o kn km th s s2) (hX : ¬ (okC a0 ∧ okN a1 ∧ okN a2 ∧ okN a3) → Q (.inl (some (.int 1))) w) (hT : okC a0 → okN a1 → okN a2 → okN a3 → oP (s.1 a1.toNatClampNeg) (s.1 a1.toNatClampNeg) (s.1 a2.toNatClampNeg) (s.1 a3.toNatClampNeg) → ∀ w', LW g w' x nA cA lA y nM o kn km th (sMk s a0.toNatClampNeg (s.1 a1.toNatClampNeg, s.1 a1.toNatClampNeg, s.1 a2.toNatClampNeg, s.1 a3.toNatClampNeg)) s2 → outN w' o ((1 : Int32).toInt64) → Q (.inl (some (.int 0))) w') (hF : okC a0 → okN a1 → okN a2 → okN a3 → ¬ oP (s.1 a1.toNatClampNeg) (s.1 a1.toNatClampNeg) (s.1 a2.toNatClampNeg) (s.1 a3.toNatClampNeg) → ∀ w', LW g w' x nA cA lA y nM o kn km th (sRf s) s2 → outN w' o ((-9 : Int32).toInt64) → Q (.inl (some (.int 0))) w') : WP (ML_three g) Q (0, [some (.ref x), some (.int a0), some (.int a1), some (.int a2), some (.int a3), some (.ref o), none], [], w, 0, 0) := by
  have ho := hL.2.1
  repeat' first
    | with_reducible assumption
    | with_reducible refine And.intro ?_ ?_
    | with_reducible refine LW.gx hL (fun _ => trivial)
    | with_reducible refine fX1_three hL.cs (fun hXc0 => ?_) (fun hTc0 hTc1 hTc2 hTc3 hTc4 hTw hTh => ?_) (fun hFc0 hFc1 hFc2 hFc3 hFc4 hFw hFh => ?_)
    | refine hgo_h (HH := [(0, 15, 18, 19)]) (NN := [(19, "java/lang/IndexOutOfBoundsException")]) (h := 18) (E := "java/lang/IndexOutOfBoundsException") rfl rfl (by decide +kernel) (by decide) (fun _ => ?_)
    | with_reducible exact hX hXc0
    | with_reducible refine go_OF (LW.of hL hTh (by first | with_reducible exact ho | with_reducible exact ho.num | with_reducible exact ho.rf | with_reducible exact ho.mk (by assumption) | with_reducible exact ho.mk (ho.c' (by assumption) (by assumption)) | with_reducible exact ho.mkO (by assumption) (by assumption) | with_reducible exact ho.card0 | with_reducible exact ho.card (ho.c' (by assumption) (by assumption)) | with_reducible exact ho.card (ho.p' (by assumption)) | with_reducible exact ho.lay (ho.c' (by assumption) (by assumption)) (by assumption) | with_reducible exact ho.gap (by assumption) | with_reducible exact ho.tur | with_reducible exact ho.zero)) (fun _ _ hw => ?_)
    | with_reducible exact hT hTc0 hTc1 hTc2 hTc3 hTc4 _ (hw _ _) outN.mk
    | with_reducible refine go_OF (LW.of hL hFh (by first | with_reducible exact ho | with_reducible exact ho.num | with_reducible exact ho.rf | with_reducible exact ho.mk (by assumption) | with_reducible exact ho.mk (ho.c' (by assumption) (by assumption)) | with_reducible exact ho.mkO (by assumption) (by assumption) | with_reducible exact ho.card0 | with_reducible exact ho.card (ho.c' (by assumption) (by assumption)) | with_reducible exact ho.card (ho.p' (by assumption)) | with_reducible exact ho.lay (ho.c' (by assumption) (by assumption)) (by assumption) | with_reducible exact ho.gap (by assumption) | with_reducible exact ho.tur | with_reducible exact ho.zero)) (fun _ _ hw => ?_)
    | with_reducible exact hF hFc0 hFc1 hFc2 hFc3 hFc4 _ (hw _ _) outN.mk
    | with_reducible refine go_OF hL (fun _ _ hw => ?_)
    | simp only [eL_three_0, eL_three_0N, eL_three_2, eL_three_2N, eL_three_3, eL_three_4, eL_three_5, eL_three_6, eL_three_8, eL_three_11, eL_three_12, eL_three_15, eL_three_18, eL_three_18N, eL_three_20, eL_three_21, eL_three_22, eL_three_23, i10, i00, ite_le, n45, n54, true_or, or_true, false_or, or_false, false_and, and_false, kx_l, kx_r, go_s, gl_s, gi_s, gb_s2, gb_s3, gq_s, wt_nil, wt_int, wt_long, wt_ref, wt_null, nl_int, nl_long, nl_ref, nl_null, nl_none, rf_n, rf_s, rf_st, tl_s, tl_n, g0, gS, ex1, nb_b, nb_0, nb_1, nf_i, nf_l, nf_ra, nf_ro, nf_na, nf_no, nf_b0, nf_z0, t45_4, t45_5, true_and, and_true, List.set_cons_zero, List.set_cons_succ, List.length_cons, List.length_nil, rd_s, upw_s, ne_eq, not_false_eq_true, Nat.zero_add, Nat.add_zero, if_true, if_false, eq_self, tyX2]
    | split
    | with_reducible intro _
    | omega
set_option maxHeartbeats 4000000 in
theorem fL_four {a0 a1 a2 a3 a4 : Int32} (hL : LW g w x nA cA lA y nM o kn km th s s2) (hX : ¬ (okC a0 ∧ okN a1 ∧ okN a2 ∧ okN a3 ∧ okN a4) → Q (.inl (some (.int 1))) w) (hT : okC a0 → okN a1 → okN a2 → okN a3 → okN a4 → oP (s.1 a1.toNatClampNeg) (s.1 a2.toNatClampNeg) (s.1 a3.toNatClampNeg) (s.1 a4.toNatClampNeg) → ∀ w', LW g w' x nA cA lA y nM o kn km th (sMk s a0.toNatClampNeg (s.1 a1.toNatClampNeg, s.1 a2.toNatClampNeg, s.1 a3.toNatClampNeg, s.1 a4.toNatClampNeg)) s2 → outN w' o ((1 : Int32).toInt64) → Q (.inl (some (.int 0))) w') (hF : okC a0 → okN a1 → okN a2 → okN a3 → okN a4 → ¬ oP (s.1 a1.toNatClampNeg) (s.1 a2.toNatClampNeg) (s.1 a3.toNatClampNeg) (s.1 a4.toNatClampNeg) → ∀ w', LW g w' x nA cA lA y nM o kn km th (sRf s) s2 → outN w' o ((-9 : Int32).toInt64) → Q (.inl (some (.int 0))) w') : WP (ML_four g) Q (0, [some (.ref x), some (.int a0), some (.int a1), some (.int a2), some (.int a3), some (.int a4), some (.ref o), none], [], w, 0, 0) := by
  have ho := hL.2.1
  repeat' first
    | with_reducible assumption
    | with_reducible refine And.intro ?_ ?_
    | with_reducible refine LW.gx hL (fun _ => trivial)
    | with_reducible refine fX1_four hL.cs (fun hXc0 => ?_) (fun hTc0 hTc1 hTc2 hTc3 hTc4 hTc5 hTw hTh => ?_) (fun hFc0 hFc1 hFc2 hFc3 hFc4 hFc5 hFw hFh => ?_)
    | refine hgo_h (HH := [(0, 17, 20, 19)]) (NN := [(19, "java/lang/IndexOutOfBoundsException")]) (h := 20) (E := "java/lang/IndexOutOfBoundsException") rfl rfl (by decide +kernel) (by decide) (fun _ => ?_)
    | with_reducible exact hX hXc0
    | with_reducible refine go_OF (LW.of hL hTh (by first | with_reducible exact ho | with_reducible exact ho.num | with_reducible exact ho.rf | with_reducible exact ho.mk (by assumption) | with_reducible exact ho.mk (ho.c' (by assumption) (by assumption)) | with_reducible exact ho.mkO (by assumption) (by assumption) | with_reducible exact ho.card0 | with_reducible exact ho.card (ho.c' (by assumption) (by assumption)) | with_reducible exact ho.card (ho.p' (by assumption)) | with_reducible exact ho.lay (ho.c' (by assumption) (by assumption)) (by assumption) | with_reducible exact ho.gap (by assumption) | with_reducible exact ho.tur | with_reducible exact ho.zero)) (fun _ _ hw => ?_)
    | with_reducible exact hT hTc0 hTc1 hTc2 hTc3 hTc4 hTc5 _ (hw _ _) outN.mk
    | with_reducible refine go_OF (LW.of hL hFh (by first | with_reducible exact ho | with_reducible exact ho.num | with_reducible exact ho.rf | with_reducible exact ho.mk (by assumption) | with_reducible exact ho.mk (ho.c' (by assumption) (by assumption)) | with_reducible exact ho.mkO (by assumption) (by assumption) | with_reducible exact ho.card0 | with_reducible exact ho.card (ho.c' (by assumption) (by assumption)) | with_reducible exact ho.card (ho.p' (by assumption)) | with_reducible exact ho.lay (ho.c' (by assumption) (by assumption)) (by assumption) | with_reducible exact ho.gap (by assumption) | with_reducible exact ho.tur | with_reducible exact ho.zero)) (fun _ _ hw => ?_)
    | with_reducible exact hF hFc0 hFc1 hFc2 hFc3 hFc4 hFc5 _ (hw _ _) outN.mk
    | with_reducible refine go_OF hL (fun _ _ hw => ?_)
    | simp only [eL_four_0, eL_four_0N, eL_four_2, eL_four_2N, eL_four_3, eL_four_4, eL_four_5, eL_four_6, eL_four_8, eL_four_10, eL_four_13, eL_four_14, eL_four_17, eL_four_20, eL_four_20N, eL_four_22, eL_four_23, eL_four_24, eL_four_25, i10, i00, ite_le, n45, n54, true_or, or_true, false_or, or_false, false_and, and_false, kx_l, kx_r, go_s, gl_s, gi_s, gb_s2, gb_s3, gq_s, wt_nil, wt_int, wt_long, wt_ref, wt_null, nl_int, nl_long, nl_ref, nl_null, nl_none, rf_n, rf_s, rf_st, tl_s, tl_n, g0, gS, ex1, nb_b, nb_0, nb_1, nf_i, nf_l, nf_ra, nf_ro, nf_na, nf_no, nf_b0, nf_z0, t45_4, t45_5, true_and, and_true, List.set_cons_zero, List.set_cons_succ, List.length_cons, List.length_nil, rd_s, upw_s, ne_eq, not_false_eq_true, Nat.zero_add, Nat.add_zero, if_true, if_false, eq_self, tyX2]
    | split
    | with_reducible intro _
    | omega
end
end
/-! 78.lw2.lean.txt -/
section
section
variable {g : RO} {Q : Ot → Hw → Prop} {w : Hw} {x nA cA lA y nM o : Nat} {kn km th : Int32} {s s2 : AS}
set_option maxHeartbeats 4000000 in
theorem fL_twoSmall {a0 a1 a2 : Int32} (hL : LW g w x nA cA lA y nM o kn km th s s2) (hX : ¬ (okC a0) → Q (.inl (some (.int 1))) w) (hT : okC a0 → oP (a1.toInt64) (a1.toInt64) (a2.toInt64) (a2.toInt64) → ∀ w', LW g w' x nA cA lA y nM o kn km th (sMk s a0.toNatClampNeg (a1.toInt64, a1.toInt64, a2.toInt64, a2.toInt64)) s2 → outN w' o ((1 : Int32).toInt64) → Q (.inl (some (.int 0))) w') (hF : okC a0 → ¬ oP (a1.toInt64) (a1.toInt64) (a2.toInt64) (a2.toInt64) → ∀ w', LW g w' x nA cA lA y nM o kn km th (sRf s) s2 → outN w' o ((-9 : Int32).toInt64) → Q (.inl (some (.int 0))) w') : WP (ML_twoSmall g) Q (0, [some (.ref x), some (.int a0), some (.int a1), some (.int a2), some (.ref o), none], [], w, 0, 0) := by
  have ho := hL.2.1
  repeat' first
    | with_reducible assumption
    | with_reducible refine And.intro ?_ ?_
    | with_reducible refine LW.gx hL (fun _ => trivial)
    | with_reducible refine fX1_twoSmall hL.cs (fun hXc0 => ?_) (fun hTc0 hTc1 hTw hTh => ?_) (fun hFc0 hFc1 hFw hFh => ?_)
    | refine hgo_h (HH := [(0, 13, 16, 19)]) (NN := [(19, "java/lang/IndexOutOfBoundsException")]) (h := 16) (E := "java/lang/IndexOutOfBoundsException") rfl rfl (by decide +kernel) (by decide) (fun _ => ?_)
    | with_reducible exact hX hXc0
    | with_reducible refine go_OF (LW.of hL hTh (by first | with_reducible exact ho | with_reducible exact ho.num | with_reducible exact ho.rf | with_reducible exact ho.mk (by assumption) | with_reducible exact ho.mk (ho.c' (by assumption) (by assumption)) | with_reducible exact ho.mkO (by assumption) (by assumption) | with_reducible exact ho.card0 | with_reducible exact ho.card (ho.c' (by assumption) (by assumption)) | with_reducible exact ho.card (ho.p' (by assumption)) | with_reducible exact ho.lay (ho.c' (by assumption) (by assumption)) (by assumption) | with_reducible exact ho.gap (by assumption) | with_reducible exact ho.tur | with_reducible exact ho.zero)) (fun _ _ hw => ?_)
    | with_reducible exact hT hTc0 hTc1 _ (hw _ _) outN.mk
    | with_reducible refine go_OF (LW.of hL hFh (by first | with_reducible exact ho | with_reducible exact ho.num | with_reducible exact ho.rf | with_reducible exact ho.mk (by assumption) | with_reducible exact ho.mk (ho.c' (by assumption) (by assumption)) | with_reducible exact ho.mkO (by assumption) (by assumption) | with_reducible exact ho.card0 | with_reducible exact ho.card (ho.c' (by assumption) (by assumption)) | with_reducible exact ho.card (ho.p' (by assumption)) | with_reducible exact ho.lay (ho.c' (by assumption) (by assumption)) (by assumption) | with_reducible exact ho.gap (by assumption) | with_reducible exact ho.tur | with_reducible exact ho.zero)) (fun _ _ hw => ?_)
    | with_reducible exact hF hFc0 hFc1 _ (hw _ _) outN.mk
    | with_reducible refine go_OF hL (fun _ _ hw => ?_)
    | simp only [eL_twoSmall_0, eL_twoSmall_0N, eL_twoSmall_2, eL_twoSmall_2N, eL_twoSmall_3, eL_twoSmall_4, eL_twoSmall_5, eL_twoSmall_6, eL_twoSmall_9, eL_twoSmall_10, eL_twoSmall_13, eL_twoSmall_16, eL_twoSmall_16N, eL_twoSmall_18, eL_twoSmall_19, eL_twoSmall_20, eL_twoSmall_21, i10, i00, ite_le, n45, n54, true_or, or_true, false_or, or_false, false_and, and_false, kx_l, kx_r, go_s, gl_s, gi_s, gb_s2, gb_s3, gq_s, wt_nil, wt_int, wt_long, wt_ref, wt_null, nl_int, nl_long, nl_ref, nl_null, nl_none, rf_n, rf_s, rf_st, tl_s, tl_n, g0, gS, ex1, nb_b, nb_0, nb_1, nf_i, nf_l, nf_ra, nf_ro, nf_na, nf_no, nf_b0, nf_z0, t45_4, t45_5, true_and, and_true, List.set_cons_zero, List.set_cons_succ, List.length_cons, List.length_nil, rd_s, upw_s, ne_eq, not_false_eq_true, Nat.zero_add, Nat.add_zero, if_true, if_false, eq_self, tyX2]
    | split
    | with_reducible intro _
    | omega
set_option maxHeartbeats 4000000 in
theorem fL_threeSmall {a0 a1 a2 a3 : Int32} (hL : LW g w x nA cA lA y nM o kn km th s s2) (hX : ¬ (okC a0) → Q (.inl (some (.int 1))) w) (hT : okC a0 → oP (a1.toInt64) (a1.toInt64) (a2.toInt64) (a3.toInt64) → ∀ w', LW g w' x nA cA lA y nM o kn km th (sMk s a0.toNatClampNeg (a1.toInt64, a1.toInt64, a2.toInt64, a3.toInt64)) s2 → outN w' o ((1 : Int32).toInt64) → Q (.inl (some (.int 0))) w') (hF : okC a0 → ¬ oP (a1.toInt64) (a1.toInt64) (a2.toInt64) (a3.toInt64) → ∀ w', LW g w' x nA cA lA y nM o kn km th (sRf s) s2 → outN w' o ((-9 : Int32).toInt64) → Q (.inl (some (.int 0))) w') : WP (ML_threeSmall g) Q (0, [some (.ref x), some (.int a0), some (.int a1), some (.int a2), some (.int a3), some (.ref o), none], [], w, 0, 0) := by
  have ho := hL.2.1
  repeat' first
    | with_reducible assumption
    | with_reducible refine And.intro ?_ ?_
    | with_reducible refine LW.gx hL (fun _ => trivial)
    | with_reducible refine fX1_threeSmall hL.cs (fun hXc0 => ?_) (fun hTc0 hTc1 hTw hTh => ?_) (fun hFc0 hFc1 hFw hFh => ?_)
    | refine hgo_h (HH := [(0, 15, 18, 19)]) (NN := [(19, "java/lang/IndexOutOfBoundsException")]) (h := 18) (E := "java/lang/IndexOutOfBoundsException") rfl rfl (by decide +kernel) (by decide) (fun _ => ?_)
    | with_reducible exact hX hXc0
    | with_reducible refine go_OF (LW.of hL hTh (by first | with_reducible exact ho | with_reducible exact ho.num | with_reducible exact ho.rf | with_reducible exact ho.mk (by assumption) | with_reducible exact ho.mk (ho.c' (by assumption) (by assumption)) | with_reducible exact ho.mkO (by assumption) (by assumption) | with_reducible exact ho.card0 | with_reducible exact ho.card (ho.c' (by assumption) (by assumption)) | with_reducible exact ho.card (ho.p' (by assumption)) | with_reducible exact ho.lay (ho.c' (by assumption) (by assumption)) (by assumption) | with_reducible exact ho.gap (by assumption) | with_reducible exact ho.tur | with_reducible exact ho.zero)) (fun _ _ hw => ?_)
    | with_reducible exact hT hTc0 hTc1 _ (hw _ _) outN.mk
    | with_reducible refine go_OF (LW.of hL hFh (by first | with_reducible exact ho | with_reducible exact ho.num | with_reducible exact ho.rf | with_reducible exact ho.mk (by assumption) | with_reducible exact ho.mk (ho.c' (by assumption) (by assumption)) | with_reducible exact ho.mkO (by assumption) (by assumption) | with_reducible exact ho.card0 | with_reducible exact ho.card (ho.c' (by assumption) (by assumption)) | with_reducible exact ho.card (ho.p' (by assumption)) | with_reducible exact ho.lay (ho.c' (by assumption) (by assumption)) (by assumption) | with_reducible exact ho.gap (by assumption) | with_reducible exact ho.tur | with_reducible exact ho.zero)) (fun _ _ hw => ?_)
    | with_reducible exact hF hFc0 hFc1 _ (hw _ _) outN.mk
    | with_reducible refine go_OF hL (fun _ _ hw => ?_)
    | simp only [eL_threeSmall_0, eL_threeSmall_0N, eL_threeSmall_2, eL_threeSmall_2N, eL_threeSmall_3, eL_threeSmall_4, eL_threeSmall_5, eL_threeSmall_6, eL_threeSmall_8, eL_threeSmall_11, eL_threeSmall_12, eL_threeSmall_15, eL_threeSmall_18, eL_threeSmall_18N, eL_threeSmall_20, eL_threeSmall_21, eL_threeSmall_22, eL_threeSmall_23, i10, i00, ite_le, n45, n54, true_or, or_true, false_or, or_false, false_and, and_false, kx_l, kx_r, go_s, gl_s, gi_s, gb_s2, gb_s3, gq_s, wt_nil, wt_int, wt_long, wt_ref, wt_null, nl_int, nl_long, nl_ref, nl_null, nl_none, rf_n, rf_s, rf_st, tl_s, tl_n, g0, gS, ex1, nb_b, nb_0, nb_1, nf_i, nf_l, nf_ra, nf_ro, nf_na, nf_no, nf_b0, nf_z0, t45_4, t45_5, true_and, and_true, List.set_cons_zero, List.set_cons_succ, List.length_cons, List.length_nil, rd_s, upw_s, ne_eq, not_false_eq_true, Nat.zero_add, Nat.add_zero, if_true, if_false, eq_self, tyX2]
    | split
    | with_reducible intro _
    | omega
set_option maxHeartbeats 4000000 in
theorem fL_fourSmall {a0 a1 a2 a3 a4 : Int32} (hL : LW g w x nA cA lA y nM o kn km th s s2) (hX : ¬ (okC a0) → Q (.inl (some (.int 1))) w) (hT : okC a0 → oP (a1.toInt64) (a2.toInt64) (a3.toInt64) (a4.toInt64) → ∀ w', LW g w' x nA cA lA y nM o kn km th (sMk s a0.toNatClampNeg (a1.toInt64, a2.toInt64, a3.toInt64, a4.toInt64)) s2 → outN w' o ((1 : Int32).toInt64) → Q (.inl (some (.int 0))) w') (hF : okC a0 → ¬ oP (a1.toInt64) (a2.toInt64) (a3.toInt64) (a4.toInt64) → ∀ w', LW g w' x nA cA lA y nM o kn km th (sRf s) s2 → outN w' o ((-9 : Int32).toInt64) → Q (.inl (some (.int 0))) w') : WP (ML_fourSmall g) Q (0, [some (.ref x), some (.int a0), some (.int a1), some (.int a2), some (.int a3), some (.int a4), some (.ref o), none], [], w, 0, 0) := by
  have ho := hL.2.1
  repeat' first
    | with_reducible assumption
    | with_reducible refine And.intro ?_ ?_
    | with_reducible refine LW.gx hL (fun _ => trivial)
    | with_reducible refine fX1_fourSmall hL.cs (fun hXc0 => ?_) (fun hTc0 hTc1 hTw hTh => ?_) (fun hFc0 hFc1 hFw hFh => ?_)
    | refine hgo_h (HH := [(0, 17, 20, 19)]) (NN := [(19, "java/lang/IndexOutOfBoundsException")]) (h := 20) (E := "java/lang/IndexOutOfBoundsException") rfl rfl (by decide +kernel) (by decide) (fun _ => ?_)
    | with_reducible exact hX hXc0
    | with_reducible refine go_OF (LW.of hL hTh (by first | with_reducible exact ho | with_reducible exact ho.num | with_reducible exact ho.rf | with_reducible exact ho.mk (by assumption) | with_reducible exact ho.mk (ho.c' (by assumption) (by assumption)) | with_reducible exact ho.mkO (by assumption) (by assumption) | with_reducible exact ho.card0 | with_reducible exact ho.card (ho.c' (by assumption) (by assumption)) | with_reducible exact ho.card (ho.p' (by assumption)) | with_reducible exact ho.lay (ho.c' (by assumption) (by assumption)) (by assumption) | with_reducible exact ho.gap (by assumption) | with_reducible exact ho.tur | with_reducible exact ho.zero)) (fun _ _ hw => ?_)
    | with_reducible exact hT hTc0 hTc1 _ (hw _ _) outN.mk
    | with_reducible refine go_OF (LW.of hL hFh (by first | with_reducible exact ho | with_reducible exact ho.num | with_reducible exact ho.rf | with_reducible exact ho.mk (by assumption) | with_reducible exact ho.mk (ho.c' (by assumption) (by assumption)) | with_reducible exact ho.mkO (by assumption) (by assumption) | with_reducible exact ho.card0 | with_reducible exact ho.card (ho.c' (by assumption) (by assumption)) | with_reducible exact ho.card (ho.p' (by assumption)) | with_reducible exact ho.lay (ho.c' (by assumption) (by assumption)) (by assumption) | with_reducible exact ho.gap (by assumption) | with_reducible exact ho.tur | with_reducible exact ho.zero)) (fun _ _ hw => ?_)
    | with_reducible exact hF hFc0 hFc1 _ (hw _ _) outN.mk
    | with_reducible refine go_OF hL (fun _ _ hw => ?_)
    | simp only [eL_fourSmall_0, eL_fourSmall_0N, eL_fourSmall_2, eL_fourSmall_2N, eL_fourSmall_3, eL_fourSmall_4, eL_fourSmall_5, eL_fourSmall_6, eL_fourSmall_8, eL_fourSmall_10, eL_fourSmall_13, eL_fourSmall_14, eL_fourSmall_17, eL_fourSmall_20, eL_fourSmall_20N, eL_fourSmall_22, eL_fourSmall_23, eL_fourSmall_24, eL_fourSmall_25, i10, i00, ite_le, n45, n54, true_or, or_true, false_or, or_false, false_and, and_false, kx_l, kx_r, go_s, gl_s, gi_s, gb_s2, gb_s3, gq_s, wt_nil, wt_int, wt_long, wt_ref, wt_null, nl_int, nl_long, nl_ref, nl_null, nl_none, rf_n, rf_s, rf_st, tl_s, tl_n, g0, gS, ex1, nb_b, nb_0, nb_1, nf_i, nf_l, nf_ra, nf_ro, nf_na, nf_no, nf_b0, nf_z0, t45_4, t45_5, true_and, and_true, List.set_cons_zero, List.set_cons_succ, List.length_cons, List.length_nil, rd_s, upw_s, ne_eq, not_false_eq_true, Nat.zero_add, Nat.add_zero, if_true, if_false, eq_self, tyX2]
    | split
    | with_reducible intro _
    | omega
set_option maxHeartbeats 4000000 in
theorem fL_again {a0 a1 : Int32} (hL : LW g w x nA cA lA y nM o kn km th s s2) (hX : ¬ (okC a0 ∧ okC a1) → Q (.inl (some (.int 1))) w) (hS : okC a0 → okC a1 → s.2.1 a1.toNatClampNeg = none → Q (.inl (some (.int 2))) w) (hQ : okC a0 → okC a1 → ∀ r, s.2.1 a1.toNatClampNeg = some r → ∀ w', LW g w' x nA cA lA y nM o kn km th (sMk s a0.toNatClampNeg r) s2 → outN w' o ((seV r).toInt64) → Q (.inl (some (.int 0))) w') : WP (ML_again g) Q (0, [some (.ref x), some (.int a0), some (.int a1), some (.ref o), none], [], w, 0, 0) := by
  have ho := hL.2.1
  repeat' first
    | with_reducible assumption
    | with_reducible refine And.intro ?_ ?_
    | with_reducible refine LW.gx hL (fun _ => trivial)
    | with_reducible refine fX1_again hL.cs ho (fun hXc0 => ?_) (fun hSc0 hSc1 hSc2 => ?_) (fun hQc0 hQc1 hQr hQc2 hQw hQh => ?_)
    | refine hgo_h (HH := [(0, 11, 14, 19), (0, 11, 18, 74)]) (NN := [(19, "java/lang/IndexOutOfBoundsException"), (74, "java/lang/IllegalStateException")]) (h := 14) (E := "java/lang/IndexOutOfBoundsException") rfl rfl (by decide +kernel) (by decide) (fun _ => ?_)
    | refine hgo_h (HH := [(0, 11, 14, 19), (0, 11, 18, 74)]) (NN := [(19, "java/lang/IndexOutOfBoundsException"), (74, "java/lang/IllegalStateException")]) (h := 18) (E := "java/lang/IllegalStateException") rfl rfl (by decide +kernel) (by decide) (fun _ => ?_)
    | with_reducible exact hX hXc0
    | with_reducible exact hS hSc0 hSc1 hSc2
    | with_reducible refine go_OF (LW.of hL hQh (by first | with_reducible exact ho | with_reducible exact ho.num | with_reducible exact ho.rf | with_reducible exact ho.mk (by assumption) | with_reducible exact ho.mk (ho.c' (by assumption) (by assumption)) | with_reducible exact ho.mkO (by assumption) (by assumption) | with_reducible exact ho.card0 | with_reducible exact ho.card (ho.c' (by assumption) (by assumption)) | with_reducible exact ho.card (ho.p' (by assumption)) | with_reducible exact ho.lay (ho.c' (by assumption) (by assumption)) (by assumption) | with_reducible exact ho.gap (by assumption) | with_reducible exact ho.tur | with_reducible exact ho.zero)) (fun _ _ hw => ?_)
    | with_reducible exact hQ hQc0 hQc1 hQr hQc2 _ (hw _ _) outN.mk
    | with_reducible refine go_OF hL (fun _ _ hw => ?_)
    | simp only [eL_again_0, eL_again_0N, eL_again_1, eL_again_1N, eL_again_2, eL_again_3, eL_again_4, eL_again_7, eL_again_8, eL_again_11, eL_again_14, eL_again_14N, eL_again_16, eL_again_17, eL_again_18, eL_again_18N, eL_again_20, eL_again_21, eL_again_22, eL_again_23, i10, i00, ite_le, n45, n54, true_or, or_true, false_or, or_false, false_and, and_false, kx_l, kx_r, go_s, gl_s, gi_s, gb_s2, gb_s3, gq_s, wt_nil, wt_int, wt_long, wt_ref, wt_null, nl_int, nl_long, nl_ref, nl_null, nl_none, rf_n, rf_s, rf_st, tl_s, tl_n, g0, gS, ex1, nb_b, nb_0, nb_1, nf_i, nf_l, nf_ra, nf_ro, nf_na, nf_no, nf_b0, nf_z0, t45_4, t45_5, true_and, and_true, List.set_cons_zero, List.set_cons_succ, List.length_cons, List.length_nil, rd_s, upw_s, ne_eq, not_false_eq_true, Nat.zero_add, Nat.add_zero, if_true, if_false, eq_self, tyX2]
    | split
    | with_reducible intro _
    | omega
set_option maxHeartbeats 4000000 in
theorem fL_same {a0 a1 : Int32} (hL : LW g w x nA cA lA y nM o kn km th s s2) (hX : ¬ (okC a0 ∧ okC a1) → Q (.inl (some (.int 1))) w) (hS : okC a0 → okC a1 → s.2.1 a1.toNatClampNeg = none → Q (.inl (some (.int 2))) w) (hN : okC a0 → okC a1 → ∀ r, s.2.1 a1.toNatClampNeg = some r → s.2.1 a0.toNatClampNeg = none → ∀ w', LW g w' x nA cA lA y nM o kn km th (sC s (va_up s.2.1 a0.toNatClampNeg (some r))) s2 → outN w' o ((-1 : Int32).toInt64) → Q (.inl (some (.int 0))) w') (hT : okC a0 → okC a1 → ∀ r, s.2.1 a1.toNatClampNeg = some r → ∀ q, s.2.1 a0.toNatClampNeg = some q → mP q r → ∀ w', LW g w' x nA cA lA y nM o kn km th (sC s (va_up s.2.1 a0.toNatClampNeg (some r))) s2 → outN w' o ((1 : Int32).toInt64) → Q (.inl (some (.int 0))) w') (hF : okC a0 → okC a1 → ∀ r, s.2.1 a1.toNatClampNeg = some r → ∀ q, s.2.1 a0.toNatClampNeg = some q → ¬ mP q r → ∀ w', LW g w' x nA cA lA y nM o kn km th (sC s (va_up s.2.1 a0.toNatClampNeg (some r))) s2 → outN w' o ((0 : Int32).toInt64) → Q (.inl (some (.int 0))) w') : WP (ML_same g) Q (0, [some (.ref x), some (.int a0), some (.int a1), some (.ref o), none], [], w, 0, 0) := by
  have ho := hL.2.1
  repeat' first
    | with_reducible assumption
    | with_reducible refine And.intro ?_ ?_
    | with_reducible refine LW.gx hL (fun _ => trivial)
    | with_reducible refine fX1_same hL.cs (fun hXc0 => ?_) (fun hSc0 hSc1 hSc2 => ?_) (fun hNc0 hNc1 hNr hNc2 hNc3 hNw hNh => ?_) (fun hTc0 hTc1 hTr hTc2 hTq hTc3 hTc4 hTw hTh => ?_) (fun hFc0 hFc1 hFr hFc2 hFq hFc3 hFc4 hFw hFh => ?_)
    | refine hgo_h (HH := [(0, 11, 14, 19), (0, 11, 18, 74)]) (NN := [(19, "java/lang/IndexOutOfBoundsException"), (74, "java/lang/IllegalStateException")]) (h := 14) (E := "java/lang/IndexOutOfBoundsException") rfl rfl (by decide +kernel) (by decide) (fun _ => ?_)
    | refine hgo_h (HH := [(0, 11, 14, 19), (0, 11, 18, 74)]) (NN := [(19, "java/lang/IndexOutOfBoundsException"), (74, "java/lang/IllegalStateException")]) (h := 18) (E := "java/lang/IllegalStateException") rfl rfl (by decide +kernel) (by decide) (fun _ => ?_)
    | with_reducible exact hX hXc0
    | with_reducible exact hS hSc0 hSc1 hSc2
    | with_reducible refine go_OF (LW.of hL hNh (by first | with_reducible exact ho | with_reducible exact ho.num | with_reducible exact ho.rf | with_reducible exact ho.mk (by assumption) | with_reducible exact ho.mk (ho.c' (by assumption) (by assumption)) | with_reducible exact ho.mkO (by assumption) (by assumption) | with_reducible exact ho.card0 | with_reducible exact ho.card (ho.c' (by assumption) (by assumption)) | with_reducible exact ho.card (ho.p' (by assumption)) | with_reducible exact ho.lay (ho.c' (by assumption) (by assumption)) (by assumption) | with_reducible exact ho.gap (by assumption) | with_reducible exact ho.tur | with_reducible exact ho.zero)) (fun _ _ hw => ?_)
    | with_reducible exact hN hNc0 hNc1 hNr hNc2 hNc3 _ (hw _ _) outN.mk
    | with_reducible refine go_OF (LW.of hL hTh (by first | with_reducible exact ho | with_reducible exact ho.num | with_reducible exact ho.rf | with_reducible exact ho.mk (by assumption) | with_reducible exact ho.mk (ho.c' (by assumption) (by assumption)) | with_reducible exact ho.mkO (by assumption) (by assumption) | with_reducible exact ho.card0 | with_reducible exact ho.card (ho.c' (by assumption) (by assumption)) | with_reducible exact ho.card (ho.p' (by assumption)) | with_reducible exact ho.lay (ho.c' (by assumption) (by assumption)) (by assumption) | with_reducible exact ho.gap (by assumption) | with_reducible exact ho.tur | with_reducible exact ho.zero)) (fun _ _ hw => ?_)
    | with_reducible exact hT hTc0 hTc1 hTr hTc2 hTq hTc3 hTc4 _ (hw _ _) outN.mk
    | with_reducible refine go_OF (LW.of hL hFh (by first | with_reducible exact ho | with_reducible exact ho.num | with_reducible exact ho.rf | with_reducible exact ho.mk (by assumption) | with_reducible exact ho.mk (ho.c' (by assumption) (by assumption)) | with_reducible exact ho.mkO (by assumption) (by assumption) | with_reducible exact ho.card0 | with_reducible exact ho.card (ho.c' (by assumption) (by assumption)) | with_reducible exact ho.card (ho.p' (by assumption)) | with_reducible exact ho.lay (ho.c' (by assumption) (by assumption)) (by assumption) | with_reducible exact ho.gap (by assumption) | with_reducible exact ho.tur | with_reducible exact ho.zero)) (fun _ _ hw => ?_)
    | with_reducible exact hF hFc0 hFc1 hFr hFc2 hFq hFc3 hFc4 _ (hw _ _) outN.mk
    | with_reducible refine go_OF hL (fun _ _ hw => ?_)
    | simp only [eL_same_0, eL_same_0N, eL_same_1, eL_same_1N, eL_same_2, eL_same_3, eL_same_4, eL_same_7, eL_same_8, eL_same_11, eL_same_14, eL_same_14N, eL_same_16, eL_same_17, eL_same_18, eL_same_18N, eL_same_20, eL_same_21, eL_same_22, eL_same_23, i10, i00, ite_le, n45, n54, true_or, or_true, false_or, or_false, false_and, and_false, kx_l, kx_r, go_s, gl_s, gi_s, gb_s2, gb_s3, gq_s, wt_nil, wt_int, wt_long, wt_ref, wt_null, nl_int, nl_long, nl_ref, nl_null, nl_none, rf_n, rf_s, rf_st, tl_s, tl_n, g0, gS, ex1, nb_b, nb_0, nb_1, nf_i, nf_l, nf_ra, nf_ro, nf_na, nf_no, nf_b0, nf_z0, t45_4, t45_5, true_and, and_true, List.set_cons_zero, List.set_cons_succ, List.length_cons, List.length_nil, rd_s, upw_s, ne_eq, not_false_eq_true, Nat.zero_add, Nat.add_zero, if_true, if_false, eq_self, tyX2]
    | split
    | with_reducible intro _
    | omega
set_option maxHeartbeats 4000000 in
theorem fL_outer {a0 a1 : Int32} (hL : LW g w x nA cA lA y nM o kn km th s s2) (hX : ¬ (okC a0 ∧ okC a1) → Q (.inl (some (.int 1))) w) (hS : okC a0 → okC a1 → s.2.1 a1.toNatClampNeg = none → Q (.inl (some (.int 2))) w) (hT : okC a0 → okC a1 → ∀ r, s.2.1 a1.toNatClampNeg = some r → fP r → ∀ w', LW g w' x nA cA lA y nM o kn km th (sMk s a0.toNatClampNeg (r.1, r.1, r.2.2.2, r.2.2.2)) s2 → outN w' o ((1 : Int32).toInt64) → Q (.inl (some (.int 0))) w') (hF : okC a0 → okC a1 → ∀ r, s.2.1 a1.toNatClampNeg = some r → ¬ fP r → ∀ w', LW g w' x nA cA lA y nM o kn km th (sMk s a0.toNatClampNeg (r.1, r.1, r.2.2.2, r.2.2.2)) s2 → outN w' o ((0 : Int32).toInt64) → Q (.inl (some (.int 0))) w') : WP (ML_outer g) Q (0, [some (.ref x), some (.int a0), some (.int a1), some (.ref o), none], [], w, 0, 0) := by
  have ho := hL.2.1
  repeat' first
    | with_reducible assumption
    | with_reducible refine And.intro ?_ ?_
    | with_reducible refine LW.gx hL (fun _ => trivial)
    | with_reducible refine fX1_outer hL.cs ho (fun hXc0 => ?_) (fun hSc0 hSc1 hSc2 => ?_) (fun hTc0 hTc1 hTr hTc2 hTc3 hTw hTh => ?_) (fun hFc0 hFc1 hFr hFc2 hFc3 hFw hFh => ?_)
    | refine hgo_h (HH := [(0, 11, 14, 19), (0, 11, 18, 74)]) (NN := [(19, "java/lang/IndexOutOfBoundsException"), (74, "java/lang/IllegalStateException")]) (h := 14) (E := "java/lang/IndexOutOfBoundsException") rfl rfl (by decide +kernel) (by decide) (fun _ => ?_)
    | refine hgo_h (HH := [(0, 11, 14, 19), (0, 11, 18, 74)]) (NN := [(19, "java/lang/IndexOutOfBoundsException"), (74, "java/lang/IllegalStateException")]) (h := 18) (E := "java/lang/IllegalStateException") rfl rfl (by decide +kernel) (by decide) (fun _ => ?_)
    | with_reducible exact hX hXc0
    | with_reducible exact hS hSc0 hSc1 hSc2
    | with_reducible refine go_OF (LW.of hL hTh (by first | with_reducible exact ho | with_reducible exact ho.num | with_reducible exact ho.rf | with_reducible exact ho.mk (by assumption) | with_reducible exact ho.mk (ho.c' (by assumption) (by assumption)) | with_reducible exact ho.mkO (by assumption) (by assumption) | with_reducible exact ho.card0 | with_reducible exact ho.card (ho.c' (by assumption) (by assumption)) | with_reducible exact ho.card (ho.p' (by assumption)) | with_reducible exact ho.lay (ho.c' (by assumption) (by assumption)) (by assumption) | with_reducible exact ho.gap (by assumption) | with_reducible exact ho.tur | with_reducible exact ho.zero)) (fun _ _ hw => ?_)
    | with_reducible exact hT hTc0 hTc1 hTr hTc2 hTc3 _ (hw _ _) outN.mk
    | with_reducible refine go_OF (LW.of hL hFh (by first | with_reducible exact ho | with_reducible exact ho.num | with_reducible exact ho.rf | with_reducible exact ho.mk (by assumption) | with_reducible exact ho.mk (ho.c' (by assumption) (by assumption)) | with_reducible exact ho.mkO (by assumption) (by assumption) | with_reducible exact ho.card0 | with_reducible exact ho.card (ho.c' (by assumption) (by assumption)) | with_reducible exact ho.card (ho.p' (by assumption)) | with_reducible exact ho.lay (ho.c' (by assumption) (by assumption)) (by assumption) | with_reducible exact ho.gap (by assumption) | with_reducible exact ho.tur | with_reducible exact ho.zero)) (fun _ _ hw => ?_)
    | with_reducible exact hF hFc0 hFc1 hFr hFc2 hFc3 _ (hw _ _) outN.mk
    | with_reducible refine go_OF hL (fun _ _ hw => ?_)
    | simp only [eL_outer_0, eL_outer_0N, eL_outer_1, eL_outer_1N, eL_outer_2, eL_outer_3, eL_outer_4, eL_outer_7, eL_outer_8, eL_outer_11, eL_outer_14, eL_outer_14N, eL_outer_16, eL_outer_17, eL_outer_18, eL_outer_18N, eL_outer_20, eL_outer_21, eL_outer_22, eL_outer_23, i10, i00, ite_le, n45, n54, true_or, or_true, false_or, or_false, false_and, and_false, kx_l, kx_r, go_s, gl_s, gi_s, gb_s2, gb_s3, gq_s, wt_nil, wt_int, wt_long, wt_ref, wt_null, nl_int, nl_long, nl_ref, nl_null, nl_none, rf_n, rf_s, rf_st, tl_s, tl_n, g0, gS, ex1, nb_b, nb_0, nb_1, nf_i, nf_l, nf_ra, nf_ro, nf_na, nf_no, nf_b0, nf_z0, t45_4, t45_5, true_and, and_true, List.set_cons_zero, List.set_cons_succ, List.length_cons, List.length_nil, rd_s, upw_s, ne_eq, not_false_eq_true, Nat.zero_add, Nat.add_zero, if_true, if_false, eq_self, tyX2]
    | split
    | with_reducible intro _
    | omega
set_option maxHeartbeats 4000000 in
theorem fL_inner {a0 a1 : Int32} (hL : LW g w x nA cA lA y nM o kn km th s s2) (hX : ¬ (okC a0 ∧ okC a1) → Q (.inl (some (.int 1))) w) (hS : okC a0 → okC a1 → s.2.1 a1.toNatClampNeg = none → Q (.inl (some (.int 2))) w) (hT : okC a0 → okC a1 → ∀ r, s.2.1 a1.toNatClampNeg = some r → oP r.2.1 r.2.1 r.2.2.1 r.2.2.1 → ∀ w', LW g w' x nA cA lA y nM o kn km th (sMk s a0.toNatClampNeg (r.2.1, r.2.1, r.2.2.1, r.2.2.1)) s2 → outN w' o ((1 : Int32).toInt64) → Q (.inl (some (.int 0))) w') (hF : okC a0 → okC a1 → ∀ r, s.2.1 a1.toNatClampNeg = some r → ¬ oP r.2.1 r.2.1 r.2.2.1 r.2.2.1 → ∀ w', LW g w' x nA cA lA y nM o kn km th (sRf s) s2 → outN w' o ((-9 : Int32).toInt64) → Q (.inl (some (.int 0))) w') : WP (ML_inner g) Q (0, [some (.ref x), some (.int a0), some (.int a1), some (.ref o), none], [], w, 0, 0) := by
  have ho := hL.2.1
  repeat' first
    | with_reducible assumption
    | with_reducible refine And.intro ?_ ?_
    | with_reducible refine LW.gx hL (fun _ => trivial)
    | with_reducible refine fX1_inner hL.cs (fun hXc0 => ?_) (fun hSc0 hSc1 hSc2 => ?_) (fun hTc0 hTc1 hTr hTc2 hTc3 hTw hTh => ?_) (fun hFc0 hFc1 hFr hFc2 hFc3 hFw hFh => ?_)
    | refine hgo_h (HH := [(0, 11, 14, 19), (0, 11, 18, 74)]) (NN := [(19, "java/lang/IndexOutOfBoundsException"), (74, "java/lang/IllegalStateException")]) (h := 14) (E := "java/lang/IndexOutOfBoundsException") rfl rfl (by decide +kernel) (by decide) (fun _ => ?_)
    | refine hgo_h (HH := [(0, 11, 14, 19), (0, 11, 18, 74)]) (NN := [(19, "java/lang/IndexOutOfBoundsException"), (74, "java/lang/IllegalStateException")]) (h := 18) (E := "java/lang/IllegalStateException") rfl rfl (by decide +kernel) (by decide) (fun _ => ?_)
    | with_reducible exact hX hXc0
    | with_reducible exact hS hSc0 hSc1 hSc2
    | with_reducible refine go_OF (LW.of hL hTh (by first | with_reducible exact ho | with_reducible exact ho.num | with_reducible exact ho.rf | with_reducible exact ho.mk (by assumption) | with_reducible exact ho.mk (ho.c' (by assumption) (by assumption)) | with_reducible exact ho.mkO (by assumption) (by assumption) | with_reducible exact ho.card0 | with_reducible exact ho.card (ho.c' (by assumption) (by assumption)) | with_reducible exact ho.card (ho.p' (by assumption)) | with_reducible exact ho.lay (ho.c' (by assumption) (by assumption)) (by assumption) | with_reducible exact ho.gap (by assumption) | with_reducible exact ho.tur | with_reducible exact ho.zero)) (fun _ _ hw => ?_)
    | with_reducible exact hT hTc0 hTc1 hTr hTc2 hTc3 _ (hw _ _) outN.mk
    | with_reducible refine go_OF (LW.of hL hFh (by first | with_reducible exact ho | with_reducible exact ho.num | with_reducible exact ho.rf | with_reducible exact ho.mk (by assumption) | with_reducible exact ho.mk (ho.c' (by assumption) (by assumption)) | with_reducible exact ho.mkO (by assumption) (by assumption) | with_reducible exact ho.card0 | with_reducible exact ho.card (ho.c' (by assumption) (by assumption)) | with_reducible exact ho.card (ho.p' (by assumption)) | with_reducible exact ho.lay (ho.c' (by assumption) (by assumption)) (by assumption) | with_reducible exact ho.gap (by assumption) | with_reducible exact ho.tur | with_reducible exact ho.zero)) (fun _ _ hw => ?_)
    | with_reducible exact hF hFc0 hFc1 hFr hFc2 hFc3 _ (hw _ _) outN.mk
    | with_reducible refine go_OF hL (fun _ _ hw => ?_)
    | simp only [eL_inner_0, eL_inner_0N, eL_inner_1, eL_inner_1N, eL_inner_2, eL_inner_3, eL_inner_4, eL_inner_7, eL_inner_8, eL_inner_11, eL_inner_14, eL_inner_14N, eL_inner_16, eL_inner_17, eL_inner_18, eL_inner_18N, eL_inner_20, eL_inner_21, eL_inner_22, eL_inner_23, i10, i00, ite_le, n45, n54, true_or, or_true, false_or, or_false, false_and, and_false, kx_l, kx_r, go_s, gl_s, gi_s, gb_s2, gb_s3, gq_s, wt_nil, wt_int, wt_long, wt_ref, wt_null, nl_int, nl_long, nl_ref, nl_null, nl_none, rf_n, rf_s, rf_st, tl_s, tl_n, g0, gS, ex1, nb_b, nb_0, nb_1, nf_i, nf_l, nf_ra, nf_ro, nf_na, nf_no, nf_b0, nf_z0, t45_4, t45_5, true_and, and_true, List.set_cons_zero, List.set_cons_succ, List.length_cons, List.length_nil, rd_s, upw_s, ne_eq, not_false_eq_true, Nat.zero_add, Nat.add_zero, if_true, if_false, eq_self, tyX2]
    | split
    | with_reducible intro _
    | omega
set_option maxHeartbeats 4000000 in
theorem fL_span {a0 a1 a2 : Int32} (hL : LW g w x nA cA lA y nM o kn km th s s2) (hX : ¬ (okC a0 ∧ okC a1 ∧ okC a2) → Q (.inl (some (.int 1))) w) (hS : okC a0 → okC a1 → okC a2 → (s.2.1 a1.toNatClampNeg = none ∨ s.2.1 a2.toNatClampNeg = none) → Q (.inl (some (.int 2))) w) (hT : okC a0 → okC a1 → okC a2 → ∀ r q, s.2.1 a1.toNatClampNeg = some r → s.2.1 a2.toNatClampNeg = some q → oP r.1 r.2.1 q.2.2.1 q.2.2.2 → ∀ w', LW g w' x nA cA lA y nM o kn km th (sMk s a0.toNatClampNeg (r.1, r.2.1, q.2.2.1, q.2.2.2)) s2 → outN w' o ((1 : Int32).toInt64) → Q (.inl (some (.int 0))) w') (hF : okC a0 → okC a1 → okC a2 → ∀ r q, s.2.1 a1.toNatClampNeg = some r → s.2.1 a2.toNatClampNeg = some q → ¬ oP r.1 r.2.1 q.2.2.1 q.2.2.2 → ∀ w', LW g w' x nA cA lA y nM o kn km th (sRf s) s2 → outN w' o ((-9 : Int32).toInt64) → Q (.inl (some (.int 0))) w') : WP (ML_span g) Q (0, [some (.ref x), some (.int a0), some (.int a1), some (.int a2), some (.ref o), none], [], w, 0, 0) := by
  have ho := hL.2.1
  repeat' first
    | with_reducible assumption
    | with_reducible refine And.intro ?_ ?_
    | with_reducible refine LW.gx hL (fun _ => trivial)
    | with_reducible refine fX1_span hL.cs (fun hXc0 => ?_) (fun hSc0 hSc1 hSc2 hSc3 => ?_) (fun hTc0 hTc1 hTc2 hTr hTq hTc3 hTc4 hTc5 hTw hTh => ?_) (fun hFc0 hFc1 hFc2 hFr hFq hFc3 hFc4 hFc5 hFw hFh => ?_)
    | refine hgo_h (HH := [(0, 13, 16, 19), (0, 13, 20, 74)]) (NN := [(19, "java/lang/IndexOutOfBoundsException"), (74, "java/lang/IllegalStateException")]) (h := 16) (E := "java/lang/IndexOutOfBoundsException") rfl rfl (by decide +kernel) (by decide) (fun _ => ?_)
    | refine hgo_h (HH := [(0, 13, 16, 19), (0, 13, 20, 74)]) (NN := [(19, "java/lang/IndexOutOfBoundsException"), (74, "java/lang/IllegalStateException")]) (h := 20) (E := "java/lang/IllegalStateException") rfl rfl (by decide +kernel) (by decide) (fun _ => ?_)
    | with_reducible exact hX hXc0
    | with_reducible exact hS hSc0 hSc1 hSc2 hSc3
    | with_reducible refine go_OF (LW.of hL hTh (by first | with_reducible exact ho | with_reducible exact ho.num | with_reducible exact ho.rf | with_reducible exact ho.mk (by assumption) | with_reducible exact ho.mk (ho.c' (by assumption) (by assumption)) | with_reducible exact ho.mkO (by assumption) (by assumption) | with_reducible exact ho.card0 | with_reducible exact ho.card (ho.c' (by assumption) (by assumption)) | with_reducible exact ho.card (ho.p' (by assumption)) | with_reducible exact ho.lay (ho.c' (by assumption) (by assumption)) (by assumption) | with_reducible exact ho.gap (by assumption) | with_reducible exact ho.tur | with_reducible exact ho.zero)) (fun _ _ hw => ?_)
    | with_reducible exact hT hTc0 hTc1 hTc2 hTr hTq hTc3 hTc4 hTc5 _ (hw _ _) outN.mk
    | with_reducible refine go_OF (LW.of hL hFh (by first | with_reducible exact ho | with_reducible exact ho.num | with_reducible exact ho.rf | with_reducible exact ho.mk (by assumption) | with_reducible exact ho.mk (ho.c' (by assumption) (by assumption)) | with_reducible exact ho.mkO (by assumption) (by assumption) | with_reducible exact ho.card0 | with_reducible exact ho.card (ho.c' (by assumption) (by assumption)) | with_reducible exact ho.card (ho.p' (by assumption)) | with_reducible exact ho.lay (ho.c' (by assumption) (by assumption)) (by assumption) | with_reducible exact ho.gap (by assumption) | with_reducible exact ho.tur | with_reducible exact ho.zero)) (fun _ _ hw => ?_)
    | with_reducible exact hF hFc0 hFc1 hFc2 hFr hFq hFc3 hFc4 hFc5 _ (hw _ _) outN.mk
    | with_reducible refine go_OF hL (fun _ _ hw => ?_)
    | simp only [eL_span_0, eL_span_0N, eL_span_2, eL_span_2N, eL_span_3, eL_span_4, eL_span_5, eL_span_6, eL_span_9, eL_span_10, eL_span_13, eL_span_16, eL_span_16N, eL_span_18, eL_span_19, eL_span_20, eL_span_20N, eL_span_22, eL_span_23, eL_span_24, eL_span_25, i10, i00, ite_le, n45, n54, true_or, or_true, false_or, or_false, false_and, and_false, kx_l, kx_r, go_s, gl_s, gi_s, gb_s2, gb_s3, gq_s, wt_nil, wt_int, wt_long, wt_ref, wt_null, nl_int, nl_long, nl_ref, nl_null, nl_none, rf_n, rf_s, rf_st, tl_s, tl_n, g0, gS, ex1, nb_b, nb_0, nb_1, nf_i, nf_l, nf_ra, nf_ro, nf_na, nf_no, nf_b0, nf_z0, t45_4, t45_5, true_and, and_true, List.set_cons_zero, List.set_cons_succ, List.length_cons, List.length_nil, rd_s, upw_s, ne_eq, not_false_eq_true, Nat.zero_add, Nat.add_zero, if_true, if_false, eq_self, tyX2]
    | split
    | with_reducible intro _
    | omega
set_option maxHeartbeats 4000000 in
theorem fL_shift {a0 a1 : Int32} (hL : LW g w x nA cA lA y nM o kn km th s s2) (hX : ¬ okC a0 → Q (.inl (some (.int 1))) w) (hS : okC a0 → s.2.1 a0.toNatClampNeg = none → Q (.inl (some (.int 2))) w) (hT : okC a0 → ∀ r, s.2.1 a0.toNatClampNeg = some r → oP (r.1 + a1.toInt64) (r.2.1 + a1.toInt64) (r.2.2.1 + a1.toInt64) (r.2.2.2 + a1.toInt64) → ∀ w', LW g w' x nA cA lA y nM o kn km th (sMk s a0.toNatClampNeg (r.1 + a1.toInt64, r.2.1 + a1.toInt64, r.2.2.1 + a1.toInt64, r.2.2.2 + a1.toInt64)) s2 → outN w' o ((1 : Int32).toInt64) → Q (.inl (some (.int 0))) w') (hF : okC a0 → ∀ r, s.2.1 a0.toNatClampNeg = some r → ¬ oP (r.1 + a1.toInt64) (r.2.1 + a1.toInt64) (r.2.2.1 + a1.toInt64) (r.2.2.2 + a1.toInt64) → ∀ w', LW g w' x nA cA lA y nM o kn km th (sRf s) s2 → outN w' o ((-9 : Int32).toInt64) → Q (.inl (some (.int 0))) w') : WP (ML_shift g) Q (0, [some (.ref x), some (.int a0), some (.int a1), some (.ref o), none], [], w, 0, 0) := by
  have ho := hL.2.1
  repeat' first
    | with_reducible assumption
    | with_reducible refine And.intro ?_ ?_
    | with_reducible refine LW.gx hL (fun _ => trivial)
    | with_reducible refine fX1_shift hL.cs (fun hXc0 => ?_) (fun hSc0 hSc1 => ?_) (fun hTc0 hTr hTc1 hTc2 hTw hTh => ?_) (fun hFc0 hFr hFc1 hFc2 hFw hFh => ?_)
    | refine hgo_h (HH := [(0, 11, 14, 19), (0, 11, 18, 74)]) (NN := [(19, "java/lang/IndexOutOfBoundsException"), (74, "java/lang/IllegalStateException")]) (h := 14) (E := "java/lang/IndexOutOfBoundsException") rfl rfl (by decide +kernel) (by decide) (fun _ => ?_)
    | refine hgo_h (HH := [(0, 11, 14, 19), (0, 11, 18, 74)]) (NN := [(19, "java/lang/IndexOutOfBoundsException"), (74, "java/lang/IllegalStateException")]) (h := 18) (E := "java/lang/IllegalStateException") rfl rfl (by decide +kernel) (by decide) (fun _ => ?_)
    | with_reducible exact hX hXc0
    | with_reducible exact hS hSc0 hSc1
    | with_reducible refine go_OF (LW.of hL hTh (by first | with_reducible exact ho | with_reducible exact ho.num | with_reducible exact ho.rf | with_reducible exact ho.mk (by assumption) | with_reducible exact ho.mk (ho.c' (by assumption) (by assumption)) | with_reducible exact ho.mkO (by assumption) (by assumption) | with_reducible exact ho.card0 | with_reducible exact ho.card (ho.c' (by assumption) (by assumption)) | with_reducible exact ho.card (ho.p' (by assumption)) | with_reducible exact ho.lay (ho.c' (by assumption) (by assumption)) (by assumption) | with_reducible exact ho.gap (by assumption) | with_reducible exact ho.tur | with_reducible exact ho.zero)) (fun _ _ hw => ?_)
    | with_reducible exact hT hTc0 hTr hTc1 hTc2 _ (hw _ _) outN.mk
    | with_reducible refine go_OF (LW.of hL hFh (by first | with_reducible exact ho | with_reducible exact ho.num | with_reducible exact ho.rf | with_reducible exact ho.mk (by assumption) | with_reducible exact ho.mk (ho.c' (by assumption) (by assumption)) | with_reducible exact ho.mkO (by assumption) (by assumption) | with_reducible exact ho.card0 | with_reducible exact ho.card (ho.c' (by assumption) (by assumption)) | with_reducible exact ho.card (ho.p' (by assumption)) | with_reducible exact ho.lay (ho.c' (by assumption) (by assumption)) (by assumption) | with_reducible exact ho.gap (by assumption) | with_reducible exact ho.tur | with_reducible exact ho.zero)) (fun _ _ hw => ?_)
    | with_reducible exact hF hFc0 hFr hFc1 hFc2 _ (hw _ _) outN.mk
    | with_reducible refine go_OF hL (fun _ _ hw => ?_)
    | simp only [eL_shift_0, eL_shift_0N, eL_shift_1, eL_shift_1N, eL_shift_2, eL_shift_3, eL_shift_4, eL_shift_7, eL_shift_8, eL_shift_11, eL_shift_14, eL_shift_14N, eL_shift_16, eL_shift_17, eL_shift_18, eL_shift_18N, eL_shift_20, eL_shift_21, eL_shift_22, eL_shift_23, i10, i00, ite_le, n45, n54, true_or, or_true, false_or, or_false, false_and, and_false, kx_l, kx_r, go_s, gl_s, gi_s, gb_s2, gb_s3, gq_s, wt_nil, wt_int, wt_long, wt_ref, wt_null, nl_int, nl_long, nl_ref, nl_null, nl_none, rf_n, rf_s, rf_st, tl_s, tl_n, g0, gS, ex1, nb_b, nb_0, nb_1, nf_i, nf_l, nf_ra, nf_ro, nf_na, nf_no, nf_b0, nf_z0, t45_4, t45_5, true_and, and_true, List.set_cons_zero, List.set_cons_succ, List.length_cons, List.length_nil, rd_s, upw_s, ne_eq, not_false_eq_true, Nat.zero_add, Nat.add_zero, if_true, if_false, eq_self, tyX2]
    | split
    | with_reducible intro _
    | omega
set_option maxHeartbeats 4000000 in
theorem fL_drop {a0 : Int32} (hL : LW g w x nA cA lA y nM o kn km th s s2) (hX : ¬ okC a0 → Q (.inl (some (.int 1))) w) (hN : okC a0 → s.2.1 a0.toNatClampNeg = none → ∀ w', LW g w' x nA cA lA y nM o kn km th (sC s (va_up s.2.1 a0.toNatClampNeg none)) s2 → outN w' o ((0 : Int32).toInt64) → Q (.inl (some (.int 0))) w') (hS : okC a0 → ∀ r, s.2.1 a0.toNatClampNeg = some r → ∀ w', LW g w' x nA cA lA y nM o kn km th (sC s (va_up s.2.1 a0.toNatClampNeg none)) s2 → outN w' o ((1 : Int32).toInt64) → Q (.inl (some (.int 0))) w') : WP (ML_drop g) Q (0, [some (.ref x), some (.int a0), some (.ref o), none], [], w, 0, 0) := by
  have ho := hL.2.1
  repeat' first
    | with_reducible assumption
    | with_reducible refine And.intro ?_ ?_
    | with_reducible refine LW.gx hL (fun _ => trivial)
    | with_reducible refine fX1_drop hL.cs (fun hXc0 => ?_) (fun hNc0 hNc1 hNw hNh => ?_) (fun hSc0 hSr hSc1 hSw hSh => ?_)
    | refine hgo_h (HH := [(0, 10, 13, 19)]) (NN := [(19, "java/lang/IndexOutOfBoundsException")]) (h := 13) (E := "java/lang/IndexOutOfBoundsException") rfl rfl (by decide +kernel) (by decide) (fun _ => ?_)
    | with_reducible exact hX hXc0
    | with_reducible refine go_OF (LW.of hL hNh (by first | with_reducible exact ho | with_reducible exact ho.num | with_reducible exact ho.rf | with_reducible exact ho.mk (by assumption) | with_reducible exact ho.mk (ho.c' (by assumption) (by assumption)) | with_reducible exact ho.mkO (by assumption) (by assumption) | with_reducible exact ho.card0 | with_reducible exact ho.card (ho.c' (by assumption) (by assumption)) | with_reducible exact ho.card (ho.p' (by assumption)) | with_reducible exact ho.lay (ho.c' (by assumption) (by assumption)) (by assumption) | with_reducible exact ho.gap (by assumption) | with_reducible exact ho.tur | with_reducible exact ho.zero)) (fun _ _ hw => ?_)
    | with_reducible exact hN hNc0 hNc1 _ (hw _ _) outN.mk
    | with_reducible refine go_OF (LW.of hL hSh (by first | with_reducible exact ho | with_reducible exact ho.num | with_reducible exact ho.rf | with_reducible exact ho.mk (by assumption) | with_reducible exact ho.mk (ho.c' (by assumption) (by assumption)) | with_reducible exact ho.mkO (by assumption) (by assumption) | with_reducible exact ho.card0 | with_reducible exact ho.card (ho.c' (by assumption) (by assumption)) | with_reducible exact ho.card (ho.p' (by assumption)) | with_reducible exact ho.lay (ho.c' (by assumption) (by assumption)) (by assumption) | with_reducible exact ho.gap (by assumption) | with_reducible exact ho.tur | with_reducible exact ho.zero)) (fun _ _ hw => ?_)
    | with_reducible exact hS hSc0 hSr hSc1 _ (hw _ _) outN.mk
    | with_reducible refine go_OF hL (fun _ _ hw => ?_)
    | simp only [eL_drop_0, eL_drop_0N, eL_drop_1, eL_drop_1N, eL_drop_2, eL_drop_3, eL_drop_6, eL_drop_7, eL_drop_10, eL_drop_13, eL_drop_13N, eL_drop_14, eL_drop_15, eL_drop_16, eL_drop_17, i10, i00, ite_le, n45, n54, true_or, or_true, false_or, or_false, false_and, and_false, kx_l, kx_r, go_s, gl_s, gi_s, gb_s2, gb_s3, gq_s, wt_nil, wt_int, wt_long, wt_ref, wt_null, nl_int, nl_long, nl_ref, nl_null, nl_none, rf_n, rf_s, rf_st, tl_s, tl_n, g0, gS, ex1, nb_b, nb_0, nb_1, nf_i, nf_l, nf_ra, nf_ro, nf_na, nf_no, nf_b0, nf_z0, t45_4, t45_5, true_and, and_true, List.set_cons_zero, List.set_cons_succ, List.length_cons, List.length_nil, rd_s, upw_s, ne_eq, not_false_eq_true, Nat.zero_add, Nat.add_zero, if_true, if_false, eq_self, tyX2]
    | split
    | with_reducible intro _
    | omega
set_option maxHeartbeats 4000000 in
theorem fL_isThere {a0 : Int32} (hL : LW g w x nA cA lA y nM o kn km th s s2) (hX : ¬ okC a0 → Q (.inl (some (.int 1))) w) (hF : okC a0 → s.2.1 a0.toNatClampNeg = none → ∀ w', LW g w' x nA cA lA y nM o kn km th s s2 → outN w' o (0) → Q (.inl (some (.int 0))) w') (hT : okC a0 → ∀ r, s.2.1 a0.toNatClampNeg = some r → ∀ w', LW g w' x nA cA lA y nM o kn km th s s2 → outN w' o (1) → Q (.inl (some (.int 0))) w') : WP (ML_isThere g) Q (0, [some (.ref x), some (.int a0), some (.ref o), none], [], w, 0, 0) := by
  have ho := hL.2.1
  repeat' first
    | with_reducible assumption
    | with_reducible refine And.intro ?_ ?_
    | with_reducible refine LW.gx hL (fun _ => trivial)
    | with_reducible refine fX1_isThere hL.cs (fun hXc0 => ?_) (fun hFc0 hFc1 => ?_) (fun hTc0 hTr hTc1 => ?_)
    | refine hgo_h (HH := [(0, 17, 20, 19)]) (NN := [(19, "java/lang/IndexOutOfBoundsException")]) (h := 20) (E := "java/lang/IndexOutOfBoundsException") rfl rfl (by decide +kernel) (by decide) (fun _ => ?_)
    | with_reducible exact hX hXc0
    | with_reducible exact hF hFc0 hFc1 _ (hw _ _) outN.mk
    | with_reducible exact hT hTc0 hTr hTc1 _ (hw _ _) outN.mk
    | with_reducible refine go_OF hL (fun _ _ hw => ?_)
    | simp only [eL_isThere_0, eL_isThere_0N, eL_isThere_1, eL_isThere_1N, eL_isThere_2, eL_isThere_3, eL_isThere_6, eL_isThere_9, eL_isThere_10, eL_isThere_13, eL_isThere_14, eL_isThere_17, eL_isThere_20, eL_isThere_20N, eL_isThere_21, eL_isThere_22, eL_isThere_23, eL_isThere_24, i10, i00, ite_le, n45, n54, true_or, or_true, false_or, or_false, false_and, and_false, kx_l, kx_r, go_s, gl_s, gi_s, gb_s2, gb_s3, gq_s, wt_nil, wt_int, wt_long, wt_ref, wt_null, nl_int, nl_long, nl_ref, nl_null, nl_none, rf_n, rf_s, rf_st, tl_s, tl_n, g0, gS, ex1, nb_b, nb_0, nb_1, nf_i, nf_l, nf_ra, nf_ro, nf_na, nf_no, nf_b0, nf_z0, t45_4, t45_5, true_and, and_true, List.set_cons_zero, List.set_cons_succ, List.length_cons, List.length_nil, rd_s, upw_s, ne_eq, not_false_eq_true, Nat.zero_add, Nat.add_zero, if_true, if_false, eq_self, tyX2]
    | split
    | with_reducible intro _
    | omega
end
end
/-! 78.lw3.lean.txt -/
section
section
variable {g : RO} {Q : Ot → Hw → Prop} {w : Hw} {x nA cA lA y nM o : Nat} {kn km th : Int32} {s s2 : AS}
set_option maxHeartbeats 4000000 in
theorem fL_isFixed {a0 : Int32} (hL : LW g w x nA cA lA y nM o kn km th s s2) (hX : ¬ okC a0 → Q (.inl (some (.int 1))) w) (hS : okC a0 → s.2.1 a0.toNatClampNeg = none → Q (.inl (some (.int 2))) w) (hT : okC a0 → ∀ r, s.2.1 a0.toNatClampNeg = some r → fP r → ∀ w', LW g w' x nA cA lA y nM o kn km th s s2 → outN w' o (1) → Q (.inl (some (.int 0))) w') (hF : okC a0 → ∀ r, s.2.1 a0.toNatClampNeg = some r → ¬ (fP r) → ∀ w', LW g w' x nA cA lA y nM o kn km th s s2 → outN w' o (0) → Q (.inl (some (.int 0))) w') : WP (ML_isFixed g) Q (0, [some (.ref x), some (.int a0), some (.ref o), none], [], w, 0, 0) := by
  have ho := hL.2.1
  repeat' first
    | with_reducible assumption
    | with_reducible refine And.intro ?_ ?_
    | with_reducible refine LW.gx hL (fun _ => trivial)
    | with_reducible refine fX1_isFixed hL.cs (fun hXc0 => ?_) (fun hSc0 hSc1 => ?_) (fun hTc0 hTr hTc1 hTc2 => ?_) (fun hFc0 hFr hFc1 hFc2 => ?_)
    | refine hgo_h (HH := [(0, 17, 20, 19), (0, 17, 23, 74)]) (NN := [(19, "java/lang/IndexOutOfBoundsException"), (74, "java/lang/IllegalStateException")]) (h := 20) (E := "java/lang/IndexOutOfBoundsException") rfl rfl (by decide +kernel) (by decide) (fun _ => ?_)
    | refine hgo_h (HH := [(0, 17, 20, 19), (0, 17, 23, 74)]) (NN := [(19, "java/lang/IndexOutOfBoundsException"), (74, "java/lang/IllegalStateException")]) (h := 23) (E := "java/lang/IllegalStateException") rfl rfl (by decide +kernel) (by decide) (fun _ => ?_)
    | with_reducible exact hX hXc0
    | with_reducible exact hS hSc0 hSc1
    | with_reducible exact hT hTc0 hTr hTc1 hTc2 _ (hw _ _) outN.mk
    | with_reducible exact hF hFc0 hFr hFc1 hFc2 _ (hw _ _) outN.mk
    | with_reducible refine go_OF hL (fun _ _ hw => ?_)
    | simp only [eL_isFixed_0, eL_isFixed_0N, eL_isFixed_1, eL_isFixed_1N, eL_isFixed_2, eL_isFixed_3, eL_isFixed_6, eL_isFixed_9, eL_isFixed_10, eL_isFixed_13, eL_isFixed_14, eL_isFixed_17, eL_isFixed_20, eL_isFixed_20N, eL_isFixed_21, eL_isFixed_22, eL_isFixed_23, eL_isFixed_23N, eL_isFixed_24, eL_isFixed_25, eL_isFixed_26, eL_isFixed_27, i10, i00, ite_le, n45, n54, true_or, or_true, false_or, or_false, false_and, and_false, kx_l, kx_r, go_s, gl_s, gi_s, gb_s2, gb_s3, gq_s, wt_nil, wt_int, wt_long, wt_ref, wt_null, nl_int, nl_long, nl_ref, nl_null, nl_none, rf_n, rf_s, rf_st, tl_s, tl_n, g0, gS, ex1, nb_b, nb_0, nb_1, nf_i, nf_l, nf_ra, nf_ro, nf_na, nf_no, nf_b0, nf_z0, t45_4, t45_5, true_and, and_true, List.set_cons_zero, List.set_cons_succ, List.length_cons, List.length_nil, rd_s, upw_s, ne_eq, not_false_eq_true, Nat.zero_add, Nat.add_zero, if_true, if_false, eq_self, tyX2]
    | split
    | with_reducible intro _
    | omega
set_option maxHeartbeats 4000000 in
theorem fL_isSmall {a0 : Int32} (hL : LW g w x nA cA lA y nM o kn km th s s2) (hX : ¬ okC a0 → Q (.inl (some (.int 1))) w) (hS : okC a0 → s.2.1 a0.toNatClampNeg = none → Q (.inl (some (.int 2))) w) (hT : okC a0 → ∀ r, s.2.1 a0.toNatClampNeg = some r → sP r → ∀ w', LW g w' x nA cA lA y nM o kn km th s s2 → outN w' o (1) → Q (.inl (some (.int 0))) w') (hF : okC a0 → ∀ r, s.2.1 a0.toNatClampNeg = some r → ¬ (sP r) → ∀ w', LW g w' x nA cA lA y nM o kn km th s s2 → outN w' o (0) → Q (.inl (some (.int 0))) w') : WP (ML_isSmall g) Q (0, [some (.ref x), some (.int a0), some (.ref o), none], [], w, 0, 0) := by
  have ho := hL.2.1
  repeat' first
    | with_reducible assumption
    | with_reducible refine And.intro ?_ ?_
    | with_reducible refine LW.gx hL (fun _ => trivial)
    | with_reducible refine fX1_isSmall hL.cs (fun hXc0 => ?_) (fun hSc0 hSc1 => ?_) (fun hTc0 hTr hTc1 hTc2 => ?_) (fun hFc0 hFr hFc1 hFc2 => ?_)
    | refine hgo_h (HH := [(0, 17, 20, 19), (0, 17, 23, 74)]) (NN := [(19, "java/lang/IndexOutOfBoundsException"), (74, "java/lang/IllegalStateException")]) (h := 20) (E := "java/lang/IndexOutOfBoundsException") rfl rfl (by decide +kernel) (by decide) (fun _ => ?_)
    | refine hgo_h (HH := [(0, 17, 20, 19), (0, 17, 23, 74)]) (NN := [(19, "java/lang/IndexOutOfBoundsException"), (74, "java/lang/IllegalStateException")]) (h := 23) (E := "java/lang/IllegalStateException") rfl rfl (by decide +kernel) (by decide) (fun _ => ?_)
    | with_reducible exact hX hXc0
    | with_reducible exact hS hSc0 hSc1
    | with_reducible exact hT hTc0 hTr hTc1 hTc2 _ (hw _ _) outN.mk
    | with_reducible exact hF hFc0 hFr hFc1 hFc2 _ (hw _ _) outN.mk
    | with_reducible refine go_OF hL (fun _ _ hw => ?_)
    | simp only [eL_isSmall_0, eL_isSmall_0N, eL_isSmall_1, eL_isSmall_1N, eL_isSmall_2, eL_isSmall_3, eL_isSmall_6, eL_isSmall_9, eL_isSmall_10, eL_isSmall_13, eL_isSmall_14, eL_isSmall_17, eL_isSmall_20, eL_isSmall_20N, eL_isSmall_21, eL_isSmall_22, eL_isSmall_23, eL_isSmall_23N, eL_isSmall_24, eL_isSmall_25, eL_isSmall_26, eL_isSmall_27, i10, i00, ite_le, n45, n54, true_or, or_true, false_or, or_false, false_and, and_false, kx_l, kx_r, go_s, gl_s, gi_s, gb_s2, gb_s3, gq_s, wt_nil, wt_int, wt_long, wt_ref, wt_null, nl_int, nl_long, nl_ref, nl_null, nl_none, rf_n, rf_s, rf_st, tl_s, tl_n, g0, gS, ex1, nb_b, nb_0, nb_1, nf_i, nf_l, nf_ra, nf_ro, nf_na, nf_no, nf_b0, nf_z0, t45_4, t45_5, true_and, and_true, List.set_cons_zero, List.set_cons_succ, List.length_cons, List.length_nil, rd_s, upw_s, ne_eq, not_false_eq_true, Nat.zero_add, Nat.add_zero, if_true, if_false, eq_self, tyX2]
    | split
    | with_reducible intro _
    | omega
set_option maxHeartbeats 4000000 in
theorem fL_end {a0 a1 a2 : Int32} (hL : LW g w x nA cA lA y nM o kn km th s s2) (hX : ¬ okC a0 → Q (.inl (some (.int 1))) w) (hW : okC a0 → ¬ okW a1 3 → Q (.inl (some (.int 2))) w) (hS : okC a0 → okW a1 3 → s.2.1 a0.toNatClampNeg = none → Q (.inl (some (.int 3))) w) (hQ : okC a0 → okW a1 3 → ∀ r, s.2.1 a0.toNatClampNeg = some r → ∀ w', LW g w' x nA cA lA y nM o kn km th s s2 → outN w' o ((hfV (eV r a1) a2).toInt64) → Q (.inl (some (.int 0))) w') : WP (ML_end g) Q (0, [some (.ref x), some (.int a0), some (.int a1), some (.int a2), some (.ref o), none], [], w, 0, 0) := by
  have ho := hL.2.1
  repeat' first
    | with_reducible assumption
    | with_reducible refine And.intro ?_ ?_
    | with_reducible refine LW.gx hL (fun _ => trivial)
    | with_reducible refine fX1_end hL.cs (fun hXc0 => ?_) (fun hWc0 hWc1 => ?_) (fun hSc0 hSc1 hSc2 => ?_) (fun hQc0 hQc1 hQr hQc2 => ?_)
    | refine hgo_h (HH := [(0, 13, 16, 19), (0, 13, 20, 28), (0, 13, 24, 74)]) (NN := [(19, "java/lang/IndexOutOfBoundsException"), (28, "java/lang/IllegalArgumentException"), (74, "java/lang/IllegalStateException")]) (h := 16) (E := "java/lang/IndexOutOfBoundsException") rfl rfl (by decide +kernel) (by decide) (fun _ => ?_)
    | refine hgo_h (HH := [(0, 13, 16, 19), (0, 13, 20, 28), (0, 13, 24, 74)]) (NN := [(19, "java/lang/IndexOutOfBoundsException"), (28, "java/lang/IllegalArgumentException"), (74, "java/lang/IllegalStateException")]) (h := 20) (E := "java/lang/IllegalArgumentException") rfl rfl (by decide +kernel) (by decide) (fun _ => ?_)
    | refine hgo_h (HH := [(0, 13, 16, 19), (0, 13, 20, 28), (0, 13, 24, 74)]) (NN := [(19, "java/lang/IndexOutOfBoundsException"), (28, "java/lang/IllegalArgumentException"), (74, "java/lang/IllegalStateException")]) (h := 24) (E := "java/lang/IllegalStateException") rfl rfl (by decide +kernel) (by decide) (fun _ => ?_)
    | with_reducible exact hX hXc0
    | with_reducible exact hW hWc0 hWc1
    | with_reducible exact hS hSc0 hSc1 hSc2
    | with_reducible exact hQ hQc0 hQc1 hQr hQc2 _ (hw _ _) outN.mk
    | with_reducible refine go_OF hL (fun _ _ hw => ?_)
    | simp only [eL_end_0, eL_end_0N, eL_end_2, eL_end_2N, eL_end_3, eL_end_4, eL_end_5, eL_end_6, eL_end_9, eL_end_10, eL_end_13, eL_end_16, eL_end_16N, eL_end_18, eL_end_19, eL_end_20, eL_end_20N, eL_end_22, eL_end_23, eL_end_24, eL_end_24N, eL_end_26, eL_end_27, eL_end_28, eL_end_29, i10, i00, ite_le, n45, n54, true_or, or_true, false_or, or_false, false_and, and_false, kx_l, kx_r, go_s, gl_s, gi_s, gb_s2, gb_s3, gq_s, wt_nil, wt_int, wt_long, wt_ref, wt_null, nl_int, nl_long, nl_ref, nl_null, nl_none, rf_n, rf_s, rf_st, tl_s, tl_n, g0, gS, ex1, nb_b, nb_0, nb_1, nf_i, nf_l, nf_ra, nf_ro, nf_na, nf_no, nf_b0, nf_z0, t45_4, t45_5, true_and, and_true, List.set_cons_zero, List.set_cons_succ, List.length_cons, List.length_nil, rd_s, upw_s, ne_eq, not_false_eq_true, Nat.zero_add, Nat.add_zero, if_true, if_false, eq_self, tyX2]
    | split
    | with_reducible intro _
    | omega
set_option maxHeartbeats 4000000 in
theorem fL_take {a0 a1 a2 : Int32} (hL : LW g w x nA cA lA y nM o kn km th s s2) (hX : ¬ (okC a0 ∧ okN a2) → Q (.inl (some (.int 1))) w) (hW : okC a0 → okN a2 → ¬ okW a1 3 → Q (.inl (some (.int 2))) w) (hS : okC a0 → okN a2 → okW a1 3 → s.2.1 a0.toNatClampNeg = none → Q (.inl (some (.int 3))) w) (hQ : okC a0 → okN a2 → okW a1 3 → ∀ r, s.2.1 a0.toNatClampNeg = some r → ∀ w', LW g w' x nA cA lA y nM o kn km th (sN s (vp_updL s.1 a2.toNatClampNeg (eV r a1))) s2 → outN w' o ((loV (eV r a1)).toInt64) → Q (.inl (some (.int 0))) w') : WP (ML_take g) Q (0, [some (.ref x), some (.int a0), some (.int a1), some (.int a2), some (.ref o), none], [], w, 0, 0) := by
  have ho := hL.2.1
  repeat' first
    | with_reducible assumption
    | with_reducible refine And.intro ?_ ?_
    | with_reducible refine LW.gx hL (fun _ => trivial)
    | with_reducible refine fX1_take hL.cs (fun hXc0 => ?_) (fun hWc0 hWc1 hWc2 => ?_) (fun hSc0 hSc1 hSc2 hSc3 => ?_) (fun hQc0 hQc1 hQc2 hQr hQc3 hQw hQh => ?_)
    | refine hgo_h (HH := [(0, 13, 16, 19), (0, 13, 20, 28), (0, 13, 24, 74)]) (NN := [(19, "java/lang/IndexOutOfBoundsException"), (28, "java/lang/IllegalArgumentException"), (74, "java/lang/IllegalStateException")]) (h := 16) (E := "java/lang/IndexOutOfBoundsException") rfl rfl (by decide +kernel) (by decide) (fun _ => ?_)
    | refine hgo_h (HH := [(0, 13, 16, 19), (0, 13, 20, 28), (0, 13, 24, 74)]) (NN := [(19, "java/lang/IndexOutOfBoundsException"), (28, "java/lang/IllegalArgumentException"), (74, "java/lang/IllegalStateException")]) (h := 20) (E := "java/lang/IllegalArgumentException") rfl rfl (by decide +kernel) (by decide) (fun _ => ?_)
    | refine hgo_h (HH := [(0, 13, 16, 19), (0, 13, 20, 28), (0, 13, 24, 74)]) (NN := [(19, "java/lang/IndexOutOfBoundsException"), (28, "java/lang/IllegalArgumentException"), (74, "java/lang/IllegalStateException")]) (h := 24) (E := "java/lang/IllegalStateException") rfl rfl (by decide +kernel) (by decide) (fun _ => ?_)
    | with_reducible exact hX hXc0
    | with_reducible exact hW hWc0 hWc1 hWc2
    | with_reducible exact hS hSc0 hSc1 hSc2 hSc3
    | with_reducible refine go_OF (LW.of hL hQh (by first | with_reducible exact ho | with_reducible exact ho.num | with_reducible exact ho.rf | with_reducible exact ho.mk (by assumption) | with_reducible exact ho.mk (ho.c' (by assumption) (by assumption)) | with_reducible exact ho.mkO (by assumption) (by assumption) | with_reducible exact ho.card0 | with_reducible exact ho.card (ho.c' (by assumption) (by assumption)) | with_reducible exact ho.card (ho.p' (by assumption)) | with_reducible exact ho.lay (ho.c' (by assumption) (by assumption)) (by assumption) | with_reducible exact ho.gap (by assumption) | with_reducible exact ho.tur | with_reducible exact ho.zero)) (fun _ _ hw => ?_)
    | with_reducible exact hQ hQc0 hQc1 hQc2 hQr hQc3 _ (hw _ _) outN.mk
    | with_reducible refine go_OF hL (fun _ _ hw => ?_)
    | simp only [eL_take_0, eL_take_0N, eL_take_2, eL_take_2N, eL_take_3, eL_take_4, eL_take_5, eL_take_6, eL_take_9, eL_take_10, eL_take_13, eL_take_16, eL_take_16N, eL_take_18, eL_take_19, eL_take_20, eL_take_20N, eL_take_22, eL_take_23, eL_take_24, eL_take_24N, eL_take_26, eL_take_27, eL_take_28, eL_take_29, i10, i00, ite_le, n45, n54, true_or, or_true, false_or, or_false, false_and, and_false, kx_l, kx_r, go_s, gl_s, gi_s, gb_s2, gb_s3, gq_s, wt_nil, wt_int, wt_long, wt_ref, wt_null, nl_int, nl_long, nl_ref, nl_null, nl_none, rf_n, rf_s, rf_st, tl_s, tl_n, g0, gS, ex1, nb_b, nb_0, nb_1, nf_i, nf_l, nf_ra, nf_ro, nf_na, nf_no, nf_b0, nf_z0, t45_4, t45_5, true_and, and_true, List.set_cons_zero, List.set_cons_succ, List.length_cons, List.length_nil, rd_s, upw_s, ne_eq, not_false_eq_true, Nat.zero_add, Nat.add_zero, if_true, if_false, eq_self, tyX2]
    | split
    | with_reducible intro _
    | omega
set_option maxHeartbeats 4000000 in
theorem gL_cardText {a0 : Int32} (hR : RG g) (hL : LW g w x nA cA lA y nM o kn km th s s2) (hQ : ∀ (v : Int32) (w' : Hw), LW g w' x nA cA lA y nM o kn km th s s2 → Q (.inl (some (.int v))) w') : WP (ML_cardText g) Q (0, [some (.ref x), some (.int a0), some (.ref o), none], [], w, 0, 0) := by
  repeat' first
    | with_reducible assumption
    | with_reducible refine And.intro ?_ ?_
    | with_reducible refine LW.gx hL (fun _ => trivial)
    | with_reducible refine sX1_cardText hL.cc hR.sg (hR.dg hL.ro) hR.r20 ?_ (fun _ _ _ => ?_)
    | refine hgo_h (HH := [(0, 9, 12, 19)]) (NN := [(19, "java/lang/IndexOutOfBoundsException")]) (h := 12) (E := "java/lang/IndexOutOfBoundsException") rfl rfl (by decide +kernel) (by decide) (fun _ => ?_)
    | with_reducible refine go_OF (by first | assumption | exact hL | exact hL.ext (by assumption)) (fun _ _ hw => ?_)
    | with_reducible exact hQ _ _ (hw _ _)
    | with_reducible exact hQ _ _ hL
    | simp only [eL_cardText_0, eL_cardText_0N, eL_cardText_1, eL_cardText_1N, eL_cardText_2, eL_cardText_3, eL_cardText_6, eL_cardText_9, eL_cardText_12, eL_cardText_12N, eL_cardText_13, eL_cardText_14, eL_cardText_15, eL_cardText_16, ite_le, n45, n54, true_or, or_true, false_or, or_false, false_and, and_false, kx_l, kx_r, go_s, gl_s, gi_s, gb_s2, gb_s3, gq_s, wt_nil, wt_int, wt_long, wt_ref, wt_null, nl_int, nl_long, nl_ref, nl_null, nl_none, rf_n, rf_s, rf_st, tl_s, tl_n, g0, gS, ex1, nb_b, nb_0, nb_1, nf_i, nf_l, nf_ra, nf_ro, nf_na, nf_no, nf_b0, nf_z0, t45_4, t45_5, true_and, and_true, List.set_cons_zero, List.set_cons_succ, List.length_cons, List.length_nil, rd_s, upw_s, ne_eq, not_false_eq_true, Nat.zero_add, Nat.add_zero, if_true, if_false, eq_self, tyX2]
    | split
    | with_reducible intro _
    | omega
set_option maxHeartbeats 4000000 in
theorem fL_isValid {a0 a1 : Int32} (hL : LW g w x nA cA lA y nM o kn km th s s2) (hX : ¬ (okC a0 ∧ okN a1) → Q (.inl (some (.int 1))) w) (hS : okC a0 → okN a1 → s.2.1 a0.toNatClampNeg = none → Q (.inl (some (.int 2))) w) (hT : okC a0 → okN a1 → ∀ r, s.2.1 a0.toNatClampNeg = some r → hP r (s.1 a1.toNatClampNeg) → ∀ w', LW g w' x nA cA lA y nM o kn km th s s2 → outN w' o (1) → Q (.inl (some (.int 0))) w') (hF : okC a0 → okN a1 → ∀ r, s.2.1 a0.toNatClampNeg = some r → ¬ (hP r (s.1 a1.toNatClampNeg)) → ∀ w', LW g w' x nA cA lA y nM o kn km th s s2 → outN w' o (0) → Q (.inl (some (.int 0))) w') : WP (ML_isValid g) Q (0, [some (.ref x), some (.int a0), some (.int a1), some (.ref o), none], [], w, 0, 0) := by
  have ho := hL.2.1
  repeat' first
    | with_reducible assumption
    | with_reducible refine And.intro ?_ ?_
    | with_reducible refine LW.gx hL (fun _ => trivial)
    | with_reducible refine fX1_isValid hL.cs (fun hXc0 => ?_) (fun hSc0 hSc1 hSc2 => ?_) (fun hTc0 hTc1 hTr hTc2 hTc3 => ?_) (fun hFc0 hFc1 hFr hFc2 hFc3 => ?_)
    | refine hgo_h (HH := [(0, 18, 21, 19), (0, 18, 25, 74)]) (NN := [(19, "java/lang/IndexOutOfBoundsException"), (74, "java/lang/IllegalStateException")]) (h := 21) (E := "java/lang/IndexOutOfBoundsException") rfl rfl (by decide +kernel) (by decide) (fun _ => ?_)
    | refine hgo_h (HH := [(0, 18, 21, 19), (0, 18, 25, 74)]) (NN := [(19, "java/lang/IndexOutOfBoundsException"), (74, "java/lang/IllegalStateException")]) (h := 25) (E := "java/lang/IllegalStateException") rfl rfl (by decide +kernel) (by decide) (fun _ => ?_)
    | with_reducible exact hX hXc0
    | with_reducible exact hS hSc0 hSc1 hSc2
    | with_reducible exact hT hTc0 hTc1 hTr hTc2 hTc3 _ (hw _ _) outN.mk
    | with_reducible exact hF hFc0 hFc1 hFr hFc2 hFc3 _ (hw _ _) outN.mk
    | with_reducible refine go_OF hL (fun _ _ hw => ?_)
    | simp only [eL_isValid_0, eL_isValid_0N, eL_isValid_1, eL_isValid_1N, eL_isValid_2, eL_isValid_3, eL_isValid_4, eL_isValid_7, eL_isValid_10, eL_isValid_11, eL_isValid_14, eL_isValid_15, eL_isValid_18, eL_isValid_21, eL_isValid_21N, eL_isValid_23, eL_isValid_24, eL_isValid_25, eL_isValid_25N, eL_isValid_27, eL_isValid_28, eL_isValid_29, eL_isValid_30, i10, i00, ite_le, n45, n54, true_or, or_true, false_or, or_false, false_and, and_false, kx_l, kx_r, go_s, gl_s, gi_s, gb_s2, gb_s3, gq_s, wt_nil, wt_int, wt_long, wt_ref, wt_null, nl_int, nl_long, nl_ref, nl_null, nl_none, rf_n, rf_s, rf_st, tl_s, tl_n, g0, gS, ex1, nb_b, nb_0, nb_1, nf_i, nf_l, nf_ra, nf_ro, nf_na, nf_no, nf_b0, nf_z0, t45_4, t45_5, true_and, and_true, List.set_cons_zero, List.set_cons_succ, List.length_cons, List.length_nil, rd_s, upw_s, ne_eq, not_false_eq_true, Nat.zero_add, Nat.add_zero, if_true, if_false, eq_self, tyX2]
    | split
    | with_reducible intro _
    | omega
set_option maxHeartbeats 4000000 in
theorem fL_isValidSmall {a0 a1 : Int32} (hL : LW g w x nA cA lA y nM o kn km th s s2) (hX : ¬ (okC a0 ∧ okN a1) → Q (.inl (some (.int 1))) w) (hS : okC a0 → okN a1 → s.2.1 a0.toNatClampNeg = none → Q (.inl (some (.int 2))) w) (hT : okC a0 → okN a1 → ∀ r, s.2.1 a0.toNatClampNeg = some r → (sP r ∧ hP r (s.1 a1.toNatClampNeg)) → ∀ w', LW g w' x nA cA lA y nM o kn km th s s2 → outN w' o (1) → Q (.inl (some (.int 0))) w') (hF : okC a0 → okN a1 → ∀ r, s.2.1 a0.toNatClampNeg = some r → ¬ ((sP r ∧ hP r (s.1 a1.toNatClampNeg))) → ∀ w', LW g w' x nA cA lA y nM o kn km th s s2 → outN w' o (0) → Q (.inl (some (.int 0))) w') : WP (ML_isValidSmall g) Q (0, [some (.ref x), some (.int a0), some (.int a1), some (.ref o), none], [], w, 0, 0) := by
  have ho := hL.2.1
  repeat' first
    | with_reducible assumption
    | with_reducible refine And.intro ?_ ?_
    | with_reducible refine LW.gx hL (fun _ => trivial)
    | with_reducible refine fX1_isValidSmall hL.cs (fun hXc0 => ?_) (fun hSc0 hSc1 hSc2 => ?_) (fun hTc0 hTc1 hTr hTc2 hTc3 => ?_) (fun hFc0 hFc1 hFr hFc2 hFc3 => ?_)
    | refine hgo_h (HH := [(0, 18, 21, 19), (0, 18, 25, 74)]) (NN := [(19, "java/lang/IndexOutOfBoundsException"), (74, "java/lang/IllegalStateException")]) (h := 21) (E := "java/lang/IndexOutOfBoundsException") rfl rfl (by decide +kernel) (by decide) (fun _ => ?_)
    | refine hgo_h (HH := [(0, 18, 21, 19), (0, 18, 25, 74)]) (NN := [(19, "java/lang/IndexOutOfBoundsException"), (74, "java/lang/IllegalStateException")]) (h := 25) (E := "java/lang/IllegalStateException") rfl rfl (by decide +kernel) (by decide) (fun _ => ?_)
    | with_reducible exact hX hXc0
    | with_reducible exact hS hSc0 hSc1 hSc2
    | with_reducible exact hT hTc0 hTc1 hTr hTc2 hTc3 _ (hw _ _) outN.mk
    | with_reducible exact hF hFc0 hFc1 hFr hFc2 hFc3 _ (hw _ _) outN.mk
    | with_reducible refine go_OF hL (fun _ _ hw => ?_)
    | simp only [eL_isValidSmall_0, eL_isValidSmall_0N, eL_isValidSmall_1, eL_isValidSmall_1N, eL_isValidSmall_2, eL_isValidSmall_3, eL_isValidSmall_4, eL_isValidSmall_7, eL_isValidSmall_10, eL_isValidSmall_11, eL_isValidSmall_14, eL_isValidSmall_15, eL_isValidSmall_18, eL_isValidSmall_21, eL_isValidSmall_21N, eL_isValidSmall_23, eL_isValidSmall_24, eL_isValidSmall_25, eL_isValidSmall_25N, eL_isValidSmall_27, eL_isValidSmall_28, eL_isValidSmall_29, eL_isValidSmall_30, i10, i00, ite_le, n45, n54, true_or, or_true, false_or, or_false, false_and, and_false, kx_l, kx_r, go_s, gl_s, gi_s, gb_s2, gb_s3, gq_s, wt_nil, wt_int, wt_long, wt_ref, wt_null, nl_int, nl_long, nl_ref, nl_null, nl_none, rf_n, rf_s, rf_st, tl_s, tl_n, g0, gS, ex1, nb_b, nb_0, nb_1, nf_i, nf_l, nf_ra, nf_ro, nf_na, nf_no, nf_b0, nf_z0, t45_4, t45_5, true_and, and_true, List.set_cons_zero, List.set_cons_succ, List.length_cons, List.length_nil, rd_s, upw_s, ne_eq, not_false_eq_true, Nat.zero_add, Nat.add_zero, if_true, if_false, eq_self, tyX2]
    | split
    | with_reducible intro _
    | omega
set_option maxHeartbeats 4000000 in
theorem fL_whichValid {a0 a1 : Int32} (hL : LW g w x nA cA lA y nM o kn km th s s2) (hX : ¬ okC a0 → Q (.inl (some (.int 1))) w) (hS : okC a0 → s.2.1 a0.toNatClampNeg = none → Q (.inl (some (.int 2))) w) (hQ : okC a0 → ∀ r, s.2.1 a0.toNatClampNeg = some r → ∀ w', LW g w' x nA cA lA y nM o kn km th s s2 → outN w' o ((wV r a1.toInt64).toInt64) → Q (.inl (some (.int 0))) w') : WP (ML_whichValid g) Q (0, [some (.ref x), some (.int a0), some (.int a1), some (.ref o), none], [], w, 0, 0) := by
  have ho := hL.2.1
  repeat' first
    | with_reducible assumption
    | with_reducible refine And.intro ?_ ?_
    | with_reducible refine LW.gx hL (fun _ => trivial)
    | with_reducible refine fX1_whichValid hL.cs (fun hXc0 => ?_) (fun hSc0 hSc1 => ?_) (fun hQc0 hQr hQc1 => ?_)
    | refine hgo_h (HH := [(0, 11, 14, 19), (0, 11, 18, 74)]) (NN := [(19, "java/lang/IndexOutOfBoundsException"), (74, "java/lang/IllegalStateException")]) (h := 14) (E := "java/lang/IndexOutOfBoundsException") rfl rfl (by decide +kernel) (by decide) (fun _ => ?_)
    | refine hgo_h (HH := [(0, 11, 14, 19), (0, 11, 18, 74)]) (NN := [(19, "java/lang/IndexOutOfBoundsException"), (74, "java/lang/IllegalStateException")]) (h := 18) (E := "java/lang/IllegalStateException") rfl rfl (by decide +kernel) (by decide) (fun _ => ?_)
    | with_reducible exact hX hXc0
    | with_reducible exact hS hSc0 hSc1
    | with_reducible exact hQ hQc0 hQr hQc1 _ (hw _ _) outN.mk
    | with_reducible refine go_OF hL (fun _ _ hw => ?_)
    | simp only [eL_whichValid_0, eL_whichValid_0N, eL_whichValid_1, eL_whichValid_1N, eL_whichValid_2, eL_whichValid_3, eL_whichValid_4, eL_whichValid_7, eL_whichValid_8, eL_whichValid_11, eL_whichValid_14, eL_whichValid_14N, eL_whichValid_16, eL_whichValid_17, eL_whichValid_18, eL_whichValid_18N, eL_whichValid_20, eL_whichValid_21, eL_whichValid_22, eL_whichValid_23, i10, i00, ite_le, n45, n54, true_or, or_true, false_or, or_false, false_and, and_false, kx_l, kx_r, go_s, gl_s, gi_s, gb_s2, gb_s3, gq_s, wt_nil, wt_int, wt_long, wt_ref, wt_null, nl_int, nl_long, nl_ref, nl_null, nl_none, rf_n, rf_s, rf_st, tl_s, tl_n, g0, gS, ex1, nb_b, nb_0, nb_1, nf_i, nf_l, nf_ra, nf_ro, nf_na, nf_no, nf_b0, nf_z0, t45_4, t45_5, true_and, and_true, List.set_cons_zero, List.set_cons_succ, List.length_cons, List.length_nil, rd_s, upw_s, ne_eq, not_false_eq_true, Nat.zero_add, Nat.add_zero, if_true, if_false, eq_self, tyX2]
    | split
    | with_reducible intro _
    | omega
set_option maxHeartbeats 4000000 in
theorem fL_around {a0 a1 a2 : Int32} (hL : LW g w x nA cA lA y nM o kn km th s s2) (hX : ¬ okC a0 → Q (.inl (some (.int 1))) w) (hW : okC a0 → ¬ okW a1 3 → Q (.inl (some (.int 2))) w) (hS : okC a0 → okW a1 3 → s.2.1 a0.toNatClampNeg = none → Q (.inl (some (.int 3))) w) (hQ : okC a0 → okW a1 3 → ∀ r, s.2.1 a0.toNatClampNeg = some r → ∀ w', LW g w' x nA cA lA y nM o kn km th s s2 → outN w' o ((nV r (eV r a1) a2).toInt64) → Q (.inl (some (.int 0))) w') : WP (ML_around g) Q (0, [some (.ref x), some (.int a0), some (.int a1), some (.int a2), some (.ref o), none], [], w, 0, 0) := by
  have ho := hL.2.1
  repeat' first
    | with_reducible assumption
    | with_reducible refine And.intro ?_ ?_
    | with_reducible refine LW.gx hL (fun _ => trivial)
    | with_reducible refine fX1_around hL.cs (fun hXc0 => ?_) (fun hWc0 hWc1 => ?_) (fun hSc0 hSc1 hSc2 => ?_) (fun hQc0 hQc1 hQr hQc2 => ?_)
    | refine hgo_h (HH := [(0, 13, 16, 19), (0, 13, 20, 28), (0, 13, 24, 74)]) (NN := [(19, "java/lang/IndexOutOfBoundsException"), (28, "java/lang/IllegalArgumentException"), (74, "java/lang/IllegalStateException")]) (h := 16) (E := "java/lang/IndexOutOfBoundsException") rfl rfl (by decide +kernel) (by decide) (fun _ => ?_)
    | refine hgo_h (HH := [(0, 13, 16, 19), (0, 13, 20, 28), (0, 13, 24, 74)]) (NN := [(19, "java/lang/IndexOutOfBoundsException"), (28, "java/lang/IllegalArgumentException"), (74, "java/lang/IllegalStateException")]) (h := 20) (E := "java/lang/IllegalArgumentException") rfl rfl (by decide +kernel) (by decide) (fun _ => ?_)
    | refine hgo_h (HH := [(0, 13, 16, 19), (0, 13, 20, 28), (0, 13, 24, 74)]) (NN := [(19, "java/lang/IndexOutOfBoundsException"), (28, "java/lang/IllegalArgumentException"), (74, "java/lang/IllegalStateException")]) (h := 24) (E := "java/lang/IllegalStateException") rfl rfl (by decide +kernel) (by decide) (fun _ => ?_)
    | with_reducible exact hX hXc0
    | with_reducible exact hW hWc0 hWc1
    | with_reducible exact hS hSc0 hSc1 hSc2
    | with_reducible exact hQ hQc0 hQc1 hQr hQc2 _ (hw _ _) outN.mk
    | with_reducible refine go_OF hL (fun _ _ hw => ?_)
    | simp only [eL_around_0, eL_around_0N, eL_around_2, eL_around_2N, eL_around_3, eL_around_4, eL_around_5, eL_around_6, eL_around_9, eL_around_10, eL_around_13, eL_around_16, eL_around_16N, eL_around_18, eL_around_19, eL_around_20, eL_around_20N, eL_around_22, eL_around_23, eL_around_24, eL_around_24N, eL_around_26, eL_around_27, eL_around_28, eL_around_29, i10, i00, ite_le, n45, n54, true_or, or_true, false_or, or_false, false_and, and_false, kx_l, kx_r, go_s, gl_s, gi_s, gb_s2, gb_s3, gq_s, wt_nil, wt_int, wt_long, wt_ref, wt_null, nl_int, nl_long, nl_ref, nl_null, nl_none, rf_n, rf_s, rf_st, tl_s, tl_n, g0, gS, ex1, nb_b, nb_0, nb_1, nf_i, nf_l, nf_ra, nf_ro, nf_na, nf_no, nf_b0, nf_z0, t45_4, t45_5, true_and, and_true, List.set_cons_zero, List.set_cons_succ, List.length_cons, List.length_nil, rd_s, upw_s, ne_eq, not_false_eq_true, Nat.zero_add, Nat.add_zero, if_true, if_false, eq_self, tyX2]
    | split
    | with_reducible intro _
    | omega
set_option maxHeartbeats 4000000 in
theorem gL_count {a0 a1 a2 : Int32} (hR : RG g) (hL : LW g w x nA cA lA y nM o kn km th s s2) (hQ : ∀ (v : Int32) (w' : Hw), LW g w' x nA cA lA y nM o kn km th s s2 → Q (.inl (some (.int v))) w') : WP (ML_count g) Q (0, [some (.ref x), some (.int a0), some (.int a1), some (.int a2), some (.ref o), none], [], w, 0, 0) := by
  repeat' first
    | with_reducible assumption
    | with_reducible refine And.intro ?_ ?_
    | with_reducible refine LW.gx hL (fun _ => trivial)
    | with_reducible refine sX1_count hL.cc ?_ ?_ ?_ (fun _ => ?_)
    | refine hgo_h (HH := [(0, 13, 16, 19), (0, 13, 20, 28), (0, 13, 24, 74)]) (NN := [(19, "java/lang/IndexOutOfBoundsException"), (28, "java/lang/IllegalArgumentException"), (74, "java/lang/IllegalStateException")]) (h := 16) (E := "java/lang/IndexOutOfBoundsException") rfl rfl (by decide +kernel) (by decide) (fun _ => ?_)
    | refine hgo_h (HH := [(0, 13, 16, 19), (0, 13, 20, 28), (0, 13, 24, 74)]) (NN := [(19, "java/lang/IndexOutOfBoundsException"), (28, "java/lang/IllegalArgumentException"), (74, "java/lang/IllegalStateException")]) (h := 20) (E := "java/lang/IllegalArgumentException") rfl rfl (by decide +kernel) (by decide) (fun _ => ?_)
    | refine hgo_h (HH := [(0, 13, 16, 19), (0, 13, 20, 28), (0, 13, 24, 74)]) (NN := [(19, "java/lang/IndexOutOfBoundsException"), (28, "java/lang/IllegalArgumentException"), (74, "java/lang/IllegalStateException")]) (h := 24) (E := "java/lang/IllegalStateException") rfl rfl (by decide +kernel) (by decide) (fun _ => ?_)
    | with_reducible refine go_OF (by first | assumption | exact hL | exact hL.ext (by assumption)) (fun _ _ hw => ?_)
    | with_reducible exact hQ _ _ (hw _ _)
    | with_reducible exact hQ _ _ hL
    | simp only [eL_count_0, eL_count_0N, eL_count_2, eL_count_2N, eL_count_3, eL_count_4, eL_count_5, eL_count_6, eL_count_9, eL_count_10, eL_count_13, eL_count_16, eL_count_16N, eL_count_18, eL_count_19, eL_count_20, eL_count_20N, eL_count_22, eL_count_23, eL_count_24, eL_count_24N, eL_count_26, eL_count_27, eL_count_28, eL_count_29, ite_le, n45, n54, true_or, or_true, false_or, or_false, false_and, and_false, kx_l, kx_r, go_s, gl_s, gi_s, gb_s2, gb_s3, gq_s, wt_nil, wt_int, wt_long, wt_ref, wt_null, nl_int, nl_long, nl_ref, nl_null, nl_none, rf_n, rf_s, rf_st, tl_s, tl_n, g0, gS, ex1, nb_b, nb_0, nb_1, nf_i, nf_l, nf_ra, nf_ro, nf_na, nf_no, nf_b0, nf_z0, t45_4, t45_5, true_and, and_true, List.set_cons_zero, List.set_cons_succ, List.length_cons, List.length_nil, rd_s, upw_s, ne_eq, not_false_eq_true, Nat.zero_add, Nat.add_zero, if_true, if_false, eq_self, tyX2]
    | split
    | with_reducible intro _
    | omega
set_option maxHeartbeats 4000000 in
theorem gL_who {a0 a1 : Int32} (hR : RG g) (hL : LW g w x nA cA lA y nM o kn km th s s2) (hQ : ∀ (v : Int32) (w' : Hw), LW g w' x nA cA lA y nM o kn km th s s2 → Q (.inl (some (.int v))) w') : WP (ML_who g) Q (0, [some (.ref x), some (.int a0), some (.int a1), some (.ref o), none], [], w, 0, 0) := by
  repeat' first
    | with_reducible assumption
    | with_reducible refine And.intro ?_ ?_
    | with_reducible refine LW.gx hL (fun _ => trivial)
    | with_reducible refine sX1_who hL.cc ?_ ?_ (fun _ => ?_)
    | refine hgo_h (HH := [(0, 11, 14, 19), (0, 11, 18, 28)]) (NN := [(19, "java/lang/IndexOutOfBoundsException"), (28, "java/lang/IllegalArgumentException")]) (h := 14) (E := "java/lang/IndexOutOfBoundsException") rfl rfl (by decide +kernel) (by decide) (fun _ => ?_)
    | refine hgo_h (HH := [(0, 11, 14, 19), (0, 11, 18, 28)]) (NN := [(19, "java/lang/IndexOutOfBoundsException"), (28, "java/lang/IllegalArgumentException")]) (h := 18) (E := "java/lang/IllegalArgumentException") rfl rfl (by decide +kernel) (by decide) (fun _ => ?_)
    | with_reducible refine go_OF (by first | assumption | exact hL | exact hL.ext (by assumption)) (fun _ _ hw => ?_)
    | with_reducible exact hQ _ _ (hw _ _)
    | with_reducible exact hQ _ _ hL
    | simp only [eL_who_0, eL_who_0N, eL_who_1, eL_who_1N, eL_who_2, eL_who_3, eL_who_4, eL_who_7, eL_who_8, eL_who_11, eL_who_14, eL_who_14N, eL_who_16, eL_who_17, eL_who_18, eL_who_18N, eL_who_20, eL_who_21, eL_who_22, eL_who_23, ite_le, n45, n54, true_or, or_true, false_or, or_false, false_and, and_false, kx_l, kx_r, go_s, gl_s, gi_s, gb_s2, gb_s3, gq_s, wt_nil, wt_int, wt_long, wt_ref, wt_null, nl_int, nl_long, nl_ref, nl_null, nl_none, rf_n, rf_s, rf_st, tl_s, tl_n, g0, gS, ex1, nb_b, nb_0, nb_1, nf_i, nf_l, nf_ra, nf_ro, nf_na, nf_no, nf_b0, nf_z0, t45_4, t45_5, true_and, and_true, List.set_cons_zero, List.set_cons_succ, List.length_cons, List.length_nil, rd_s, upw_s, ne_eq, not_false_eq_true, Nat.zero_add, Nat.add_zero, if_true, if_false, eq_self, tyX2]
    | split
    | with_reducible intro _
    | omega
end
end
/-! 78.lw4.lean.txt -/
section
section
variable {g : RO} {Q : Ot → Hw → Prop} {w : Hw} {x nA cA lA y nM o : Nat} {kn km th : Int32} {s s2 : AS}
set_option maxHeartbeats 4000000 in
theorem gL_which {a0 : Int32} (hR : RG g) (hL : LW g w x nA cA lA y nM o kn km th s s2) (hQ : ∀ (v : Int32) (w' : Hw), LW g w' x nA cA lA y nM o kn km th s s2 → Q (.inl (some (.int v))) w') : WP (ML_which g) Q (0, [some (.ref x), some (.int a0), some (.ref o), none], [], w, 0, 0) := by
  repeat' first
    | with_reducible assumption
    | with_reducible refine And.intro ?_ ?_
    | with_reducible refine LW.gx hL (fun _ => trivial)
    | with_reducible refine sX1_which hL.cc ?_ (fun _ => ?_)
    | refine hgo_h (HH := [(0, 10, 13, 28)]) (NN := [(28, "java/lang/IllegalArgumentException")]) (h := 13) (E := "java/lang/IllegalArgumentException") rfl rfl (by decide +kernel) (by decide) (fun _ => ?_)
    | with_reducible refine go_OF (by first | assumption | exact hL | exact hL.ext (by assumption)) (fun _ _ hw => ?_)
    | with_reducible exact hQ _ _ (hw _ _)
    | with_reducible exact hQ _ _ hL
    | simp only [eL_which_0, eL_which_0N, eL_which_1, eL_which_1N, eL_which_2, eL_which_3, eL_which_6, eL_which_7, eL_which_10, eL_which_13, eL_which_13N, eL_which_14, eL_which_15, eL_which_16, eL_which_17, ite_le, n45, n54, true_or, or_true, false_or, or_false, false_and, and_false, kx_l, kx_r, go_s, gl_s, gi_s, gb_s2, gb_s3, gq_s, wt_nil, wt_int, wt_long, wt_ref, wt_null, nl_int, nl_long, nl_ref, nl_null, nl_none, rf_n, rf_s, rf_st, tl_s, tl_n, g0, gS, ex1, nb_b, nb_0, nb_1, nf_i, nf_l, nf_ra, nf_ro, nf_na, nf_no, nf_b0, nf_z0, t45_4, t45_5, true_and, and_true, List.set_cons_zero, List.set_cons_succ, List.length_cons, List.length_nil, rd_s, upw_s, ne_eq, not_false_eq_true, Nat.zero_add, Nat.add_zero, if_true, if_false, eq_self, tyX2]
    | split
    | with_reducible intro _
    | omega
set_option maxHeartbeats 4000000 in
theorem fL_areSame {a0 a1 : Int32} (hL : LW g w x nA cA lA y nM o kn km th s s2) (hX : ¬ (okC a0 ∧ okC a1) → Q (.inl (some (.int 1))) w) (hS : okC a0 → okC a1 → (s.2.1 a0.toNatClampNeg = none ∨ s.2.1 a1.toNatClampNeg = none) → Q (.inl (some (.int 2))) w) (hT : okC a0 → okC a1 → ∀ r q, s.2.1 a0.toNatClampNeg = some r → s.2.1 a1.toNatClampNeg = some q → mP r q → ∀ w', LW g w' x nA cA lA y nM o kn km th s s2 → outN w' o (1) → Q (.inl (some (.int 0))) w') (hF : okC a0 → okC a1 → ∀ r q, s.2.1 a0.toNatClampNeg = some r → s.2.1 a1.toNatClampNeg = some q → ¬ mP r q → ∀ w', LW g w' x nA cA lA y nM o kn km th s s2 → outN w' o (0) → Q (.inl (some (.int 0))) w') : WP (ML_areSame g) Q (0, [some (.ref x), some (.int a0), some (.int a1), some (.ref o), none], [], w, 0, 0) := by
  have ho := hL.2.1
  repeat' first
    | with_reducible assumption
    | with_reducible refine And.intro ?_ ?_
    | with_reducible refine LW.gx hL (fun _ => trivial)
    | with_reducible refine fX1_areSame hL.cs (fun hXc0 => ?_) (fun hSc0 hSc1 hSc2 => ?_) (fun hTc0 hTc1 hTr hTq hTc2 hTc3 hTc4 => ?_) (fun hFc0 hFc1 hFr hFq hFc2 hFc3 hFc4 => ?_)
    | refine hgo_h (HH := [(0, 18, 21, 19), (0, 18, 25, 74)]) (NN := [(19, "java/lang/IndexOutOfBoundsException"), (74, "java/lang/IllegalStateException")]) (h := 21) (E := "java/lang/IndexOutOfBoundsException") rfl rfl (by decide +kernel) (by decide) (fun _ => ?_)
    | refine hgo_h (HH := [(0, 18, 21, 19), (0, 18, 25, 74)]) (NN := [(19, "java/lang/IndexOutOfBoundsException"), (74, "java/lang/IllegalStateException")]) (h := 25) (E := "java/lang/IllegalStateException") rfl rfl (by decide +kernel) (by decide) (fun _ => ?_)
    | with_reducible exact hX hXc0
    | with_reducible exact hS hSc0 hSc1 hSc2
    | with_reducible exact hT hTc0 hTc1 hTr hTq hTc2 hTc3 hTc4 _ (hw _ _) outN.mk
    | with_reducible exact hF hFc0 hFc1 hFr hFq hFc2 hFc3 hFc4 _ (hw _ _) outN.mk
    | with_reducible refine go_OF hL (fun _ _ hw => ?_)
    | simp only [eL_areSame_0, eL_areSame_0N, eL_areSame_1, eL_areSame_1N, eL_areSame_2, eL_areSame_3, eL_areSame_4, eL_areSame_7, eL_areSame_10, eL_areSame_11, eL_areSame_14, eL_areSame_15, eL_areSame_18, eL_areSame_21, eL_areSame_21N, eL_areSame_23, eL_areSame_24, eL_areSame_25, eL_areSame_25N, eL_areSame_27, eL_areSame_28, eL_areSame_29, eL_areSame_30, i10, i00, ite_le, n45, n54, true_or, or_true, false_or, or_false, false_and, and_false, kx_l, kx_r, go_s, gl_s, gi_s, gb_s2, gb_s3, gq_s, wt_nil, wt_int, wt_long, wt_ref, wt_null, nl_int, nl_long, nl_ref, nl_null, nl_none, rf_n, rf_s, rf_st, tl_s, tl_n, g0, gS, ex1, nb_b, nb_0, nb_1, nf_i, nf_l, nf_ra, nf_ro, nf_na, nf_no, nf_b0, nf_z0, t45_4, t45_5, true_and, and_true, List.set_cons_zero, List.set_cons_succ, List.length_cons, List.length_nil, rd_s, upw_s, ne_eq, not_false_eq_true, Nat.zero_add, Nat.add_zero, if_true, if_false, eq_self, tyX2]
    | split
    | with_reducible intro _
    | omega
set_option maxHeartbeats 4000000 in
theorem gL_isSameAs {a0 a1 : Int32} (hR : RG g) (hL : LW g w x nA cA lA y nM o kn km th s s2) (hQ : ∀ (v : Int32) (w' : Hw), LW g w' x nA cA lA y nM o kn km th s s2 → Q (.inl (some (.int v))) w') : WP (ML_isSameAs g) Q (0, [some (.ref x), some (.int a0), some (.int a1), some (.ref o), none], [], w, 0, 0) := by
  repeat' first
    | with_reducible assumption
    | with_reducible refine And.intro ?_ ?_
    | with_reducible refine LW.gx hL (fun _ => trivial)
    | with_reducible refine sX1_isSameAs hL.cc ?_ ?_ ?_ (fun _ _ _ => ?_)
    | refine hgo_h (HH := [(0, 18, 21, 19), (0, 18, 25, 28), (0, 18, 29, 74)]) (NN := [(19, "java/lang/IndexOutOfBoundsException"), (28, "java/lang/IllegalArgumentException"), (74, "java/lang/IllegalStateException")]) (h := 21) (E := "java/lang/IndexOutOfBoundsException") rfl rfl (by decide +kernel) (by decide) (fun _ => ?_)
    | refine hgo_h (HH := [(0, 18, 21, 19), (0, 18, 25, 28), (0, 18, 29, 74)]) (NN := [(19, "java/lang/IndexOutOfBoundsException"), (28, "java/lang/IllegalArgumentException"), (74, "java/lang/IllegalStateException")]) (h := 25) (E := "java/lang/IllegalArgumentException") rfl rfl (by decide +kernel) (by decide) (fun _ => ?_)
    | refine hgo_h (HH := [(0, 18, 21, 19), (0, 18, 25, 28), (0, 18, 29, 74)]) (NN := [(19, "java/lang/IndexOutOfBoundsException"), (28, "java/lang/IllegalArgumentException"), (74, "java/lang/IllegalStateException")]) (h := 29) (E := "java/lang/IllegalStateException") rfl rfl (by decide +kernel) (by decide) (fun _ => ?_)
    | with_reducible refine go_OF (by first | assumption | exact hL | exact hL.ext (by assumption)) (fun _ _ hw => ?_)
    | with_reducible exact hQ _ _ (hw _ _)
    | with_reducible exact hQ _ _ hL
    | simp only [eL_isSameAs_0, eL_isSameAs_0N, eL_isSameAs_1, eL_isSameAs_1N, eL_isSameAs_2, eL_isSameAs_3, eL_isSameAs_4, eL_isSameAs_7, eL_isSameAs_10, eL_isSameAs_11, eL_isSameAs_14, eL_isSameAs_15, eL_isSameAs_18, eL_isSameAs_21, eL_isSameAs_21N, eL_isSameAs_23, eL_isSameAs_24, eL_isSameAs_25, eL_isSameAs_25N, eL_isSameAs_27, eL_isSameAs_28, eL_isSameAs_29, eL_isSameAs_29N, eL_isSameAs_31, eL_isSameAs_32, eL_isSameAs_33, eL_isSameAs_34, ite_le, n45, n54, true_or, or_true, false_or, or_false, false_and, and_false, kx_l, kx_r, go_s, gl_s, gi_s, gb_s2, gb_s3, gq_s, wt_nil, wt_int, wt_long, wt_ref, wt_null, nl_int, nl_long, nl_ref, nl_null, nl_none, rf_n, rf_s, rf_st, tl_s, tl_n, g0, gS, ex1, nb_b, nb_0, nb_1, nf_i, nf_l, nf_ra, nf_ro, nf_na, nf_no, nf_b0, nf_z0, t45_4, t45_5, true_and, and_true, List.set_cons_zero, List.set_cons_succ, List.length_cons, List.length_nil, rd_s, upw_s, ne_eq, not_false_eq_true, Nat.zero_add, Nat.add_zero, if_true, if_false, eq_self, tyX2]
    | split
    | with_reducible intro _
    | omega
set_option maxHeartbeats 4000000 in
theorem gL_likes {a0 : Int32} (hR : RG g) (hL : LW g w x nA cA lA y nM o kn km th s s2) (hQ : ∀ (v : Int32) (w' : Hw), LW g w' x nA cA lA y nM o kn km th s s2 → Q (.inl (some (.int v))) w') : WP (ML_likes g) Q (0, [some (.ref x), some (.int a0), some (.ref o), none], [], w, 0, 0) := by
  repeat' first
    | with_reducible assumption
    | with_reducible refine And.intro ?_ ?_
    | with_reducible refine LW.gx hL (fun _ => trivial)
    | with_reducible refine sX1_likes hL.cc ?_ ?_ (fun _ => ?_)
    | refine hgo_h (HH := [(0, 10, 13, 19), (0, 10, 16, 74)]) (NN := [(19, "java/lang/IndexOutOfBoundsException"), (74, "java/lang/IllegalStateException")]) (h := 13) (E := "java/lang/IndexOutOfBoundsException") rfl rfl (by decide +kernel) (by decide) (fun _ => ?_)
    | refine hgo_h (HH := [(0, 10, 13, 19), (0, 10, 16, 74)]) (NN := [(19, "java/lang/IndexOutOfBoundsException"), (74, "java/lang/IllegalStateException")]) (h := 16) (E := "java/lang/IllegalStateException") rfl rfl (by decide +kernel) (by decide) (fun _ => ?_)
    | with_reducible refine go_OF (by first | assumption | exact hL | exact hL.ext (by assumption)) (fun _ _ hw => ?_)
    | with_reducible exact hQ _ _ (hw _ _)
    | with_reducible exact hQ _ _ hL
    | simp only [eL_likes_0, eL_likes_0N, eL_likes_1, eL_likes_1N, eL_likes_2, eL_likes_3, eL_likes_6, eL_likes_7, eL_likes_10, eL_likes_13, eL_likes_13N, eL_likes_14, eL_likes_15, eL_likes_16, eL_likes_16N, eL_likes_17, eL_likes_18, eL_likes_19, eL_likes_20, ite_le, n45, n54, true_or, or_true, false_or, or_false, false_and, and_false, kx_l, kx_r, go_s, gl_s, gi_s, gb_s2, gb_s3, gq_s, wt_nil, wt_int, wt_long, wt_ref, wt_null, nl_int, nl_long, nl_ref, nl_null, nl_none, rf_n, rf_s, rf_st, tl_s, tl_n, g0, gS, ex1, nb_b, nb_0, nb_1, nf_i, nf_l, nf_ra, nf_ro, nf_na, nf_no, nf_b0, nf_z0, t45_4, t45_5, true_and, and_true, List.set_cons_zero, List.set_cons_succ, List.length_cons, List.length_nil, rd_s, upw_s, ne_eq, not_false_eq_true, Nat.zero_add, Nat.add_zero, if_true, if_false, eq_self, tyX2]
    | split
    | with_reducible intro _
    | omega
set_option maxHeartbeats 4000000 in
theorem fL_lay {a0 : Int32} (hL : LW g w x nA cA lA y nM o kn km th s s2) (hX : ¬ okC a0 → Q (.inl (some (.int 1))) w) (hS : okC a0 → s.2.1 a0.toNatClampNeg = none → Q (.inl (some (.int 2))) w) (hF : okC a0 → ∀ r, s.2.1 a0.toNatClampNeg = some r → ¬ s.2.2.1 < 12 → ∀ w', LW g w' x nA cA lA y nM o kn km th (sRf s) s2 → outN w' o ((-9 : Int32).toInt64) → Q (.inl (some (.int 0))) w') (hQ : okC a0 → ∀ r, s.2.1 a0.toNatClampNeg = some r → s.2.2.1 < 12 → ∀ w', LW g w' x nA cA lA y nM o kn km th (sP_ s (s.2.2.1 + 1) (va_up s.2.2.2.1 s.2.2.1.toNatClampNeg r)) s2 → outN w' o ((s.2.2.1 + 1).toInt64) → Q (.inl (some (.int 0))) w') : WP (ML_lay g) Q (0, [some (.ref x), some (.int a0), some (.ref o), none], [], w, 0, 0) := by
  have ho := hL.2.1
  repeat' first
    | with_reducible assumption
    | with_reducible refine And.intro ?_ ?_
    | with_reducible refine LW.gx hL (fun _ => trivial)
    | with_reducible refine fX1_lay hL.cs (fun hXc0 => ?_) (fun hSc0 hSc1 => ?_) (fun hFc0 hFr hFc1 hFc2 hFw hFh => ?_) (fun hQc0 hQr hQc1 hQc2 hQw hQh => ?_)
    | refine hgo_h (HH := [(0, 10, 13, 19), (0, 10, 16, 74)]) (NN := [(19, "java/lang/IndexOutOfBoundsException"), (74, "java/lang/IllegalStateException")]) (h := 13) (E := "java/lang/IndexOutOfBoundsException") rfl rfl (by decide +kernel) (by decide) (fun _ => ?_)
    | refine hgo_h (HH := [(0, 10, 13, 19), (0, 10, 16, 74)]) (NN := [(19, "java/lang/IndexOutOfBoundsException"), (74, "java/lang/IllegalStateException")]) (h := 16) (E := "java/lang/IllegalStateException") rfl rfl (by decide +kernel) (by decide) (fun _ => ?_)
    | with_reducible exact hX hXc0
    | with_reducible exact hS hSc0 hSc1
    | with_reducible refine go_OF (LW.of hL hFh (by first | with_reducible exact ho | with_reducible exact ho.num | with_reducible exact ho.rf | with_reducible exact ho.mk (by assumption) | with_reducible exact ho.mk (ho.c' (by assumption) (by assumption)) | with_reducible exact ho.mkO (by assumption) (by assumption) | with_reducible exact ho.card0 | with_reducible exact ho.card (ho.c' (by assumption) (by assumption)) | with_reducible exact ho.card (ho.p' (by assumption)) | with_reducible exact ho.lay (ho.c' (by assumption) (by assumption)) (by assumption) | with_reducible exact ho.gap (by assumption) | with_reducible exact ho.tur | with_reducible exact ho.zero)) (fun _ _ hw => ?_)
    | with_reducible exact hF hFc0 hFr hFc1 hFc2 _ (hw _ _) outN.mk
    | with_reducible refine go_OF (LW.of hL hQh (by first | with_reducible exact ho | with_reducible exact ho.num | with_reducible exact ho.rf | with_reducible exact ho.mk (by assumption) | with_reducible exact ho.mk (ho.c' (by assumption) (by assumption)) | with_reducible exact ho.mkO (by assumption) (by assumption) | with_reducible exact ho.card0 | with_reducible exact ho.card (ho.c' (by assumption) (by assumption)) | with_reducible exact ho.card (ho.p' (by assumption)) | with_reducible exact ho.lay (ho.c' (by assumption) (by assumption)) (by assumption) | with_reducible exact ho.gap (by assumption) | with_reducible exact ho.tur | with_reducible exact ho.zero)) (fun _ _ hw => ?_)
    | with_reducible exact hQ hQc0 hQr hQc1 hQc2 _ (hw _ _) outN.mk
    | with_reducible refine go_OF hL (fun _ _ hw => ?_)
    | simp only [eL_lay_0, eL_lay_0N, eL_lay_1, eL_lay_1N, eL_lay_2, eL_lay_3, eL_lay_6, eL_lay_7, eL_lay_10, eL_lay_13, eL_lay_13N, eL_lay_14, eL_lay_15, eL_lay_16, eL_lay_16N, eL_lay_17, eL_lay_18, eL_lay_19, eL_lay_20, i10, i00, ite_le, n45, n54, true_or, or_true, false_or, or_false, false_and, and_false, kx_l, kx_r, go_s, gl_s, gi_s, gb_s2, gb_s3, gq_s, wt_nil, wt_int, wt_long, wt_ref, wt_null, nl_int, nl_long, nl_ref, nl_null, nl_none, rf_n, rf_s, rf_st, tl_s, tl_n, g0, gS, ex1, nb_b, nb_0, nb_1, nf_i, nf_l, nf_ra, nf_ro, nf_na, nf_no, nf_b0, nf_z0, t45_4, t45_5, true_and, and_true, List.set_cons_zero, List.set_cons_succ, List.length_cons, List.length_nil, rd_s, upw_s, ne_eq, not_false_eq_true, Nat.zero_add, Nat.add_zero, if_true, if_false, eq_self, tyX2]
    | split
    | with_reducible intro _
    | omega
set_option maxHeartbeats 4000000 in
theorem fL_seek {a0 a1 : Int32} (hL : LW g w x nA cA lA y nM o kn km th s s2) (hX : ¬ okC a0 → Q (.inl (some (.int 1))) w) (hS : okC a0 → s.2.1 a0.toNatClampNeg = none → Q (.inl (some (.int 2))) w) (hN : okC a0 → ∀ r, s.2.1 a0.toNatClampNeg = some r → (∀ i, i < s.2.2.1.toInt.toNat → ¬ mP r (s.2.2.2.1 i)) → ∀ w', LW g w' x nA cA lA y nM o kn km th s s2 → outN w' o ((-1 : Int32).toInt64) → Q (.inl (some (.int 0))) w') (hF : a1 = 0 → okC a0 → ∀ r, s.2.1 a0.toNatClampNeg = some r → ∀ i, i < s.2.2.1.toInt.toNat → mP r (s.2.2.2.1 i) → (∀ k, k < i → ¬ mP r (s.2.2.2.1 k)) → ∀ w', LW g w' x nA cA lA y nM o kn km th s s2 → outN w' o ((Int32.ofNat i).toInt64) → Q (.inl (some (.int 0))) w') (hLL : ¬ a1 = 0 → okC a0 → ∀ r, s.2.1 a0.toNatClampNeg = some r → ∀ i, i < s.2.2.1.toInt.toNat → mP r (s.2.2.2.1 i) → (∀ k, i + 1 ≤ k → k < s.2.2.1.toInt.toNat → ¬ mP r (s.2.2.2.1 k)) → ∀ w', LW g w' x nA cA lA y nM o kn km th s s2 → outN w' o ((Int32.ofNat i).toInt64) → Q (.inl (some (.int 0))) w') : WP (ML_seek g) Q (0, [some (.ref x), some (.int a0), some (.int a1), some (.ref o), none], [], w, 0, 0) := by
  have ho := hL.2.1
  repeat' first
    | with_reducible assumption
    | with_reducible refine And.intro ?_ ?_
    | with_reducible refine LW.gx hL (fun _ => trivial)
    | with_reducible refine fX1_seek hL.cs (fun hXc0 => ?_) (fun hSc0 hSc1 => ?_) (fun hNc0 hNr hNc1 hNc2 => ?_) (fun hFc0 hFc1 hFr hFc2 hFi hFc3 hFc4 hFc5 => ?_) (fun hLLc0 hLLc1 hLLr hLLc2 hLLi hLLc3 hLLc4 hLLc5 => ?_)
    | refine hgo_h (HH := [(0, 11, 14, 19), (0, 11, 18, 74)]) (NN := [(19, "java/lang/IndexOutOfBoundsException"), (74, "java/lang/IllegalStateException")]) (h := 14) (E := "java/lang/IndexOutOfBoundsException") rfl rfl (by decide +kernel) (by decide) (fun _ => ?_)
    | refine hgo_h (HH := [(0, 11, 14, 19), (0, 11, 18, 74)]) (NN := [(19, "java/lang/IndexOutOfBoundsException"), (74, "java/lang/IllegalStateException")]) (h := 18) (E := "java/lang/IllegalStateException") rfl rfl (by decide +kernel) (by decide) (fun _ => ?_)
    | with_reducible exact hX hXc0
    | with_reducible exact hS hSc0 hSc1
    | with_reducible exact hN hNc0 hNr hNc1 hNc2 _ (hw _ _) outN.mk
    | with_reducible exact hF hFc0 hFc1 hFr hFc2 hFi hFc3 hFc4 hFc5 _ (hw _ _) outN.mk
    | with_reducible exact hLL hLLc0 hLLc1 hLLr hLLc2 hLLi hLLc3 hLLc4 hLLc5 _ (hw _ _) outN.mk
    | with_reducible refine go_OF hL (fun _ _ hw => ?_)
    | simp only [eL_seek_0, eL_seek_0N, eL_seek_1, eL_seek_1N, eL_seek_2, eL_seek_3, eL_seek_4, eL_seek_7, eL_seek_8, eL_seek_11, eL_seek_14, eL_seek_14N, eL_seek_16, eL_seek_17, eL_seek_18, eL_seek_18N, eL_seek_20, eL_seek_21, eL_seek_22, eL_seek_23, i10, i00, ite_le, n45, n54, true_or, or_true, false_or, or_false, false_and, and_false, kx_l, kx_r, go_s, gl_s, gi_s, gb_s2, gb_s3, gq_s, wt_nil, wt_int, wt_long, wt_ref, wt_null, nl_int, nl_long, nl_ref, nl_null, nl_none, rf_n, rf_s, rf_st, tl_s, tl_n, g0, gS, ex1, nb_b, nb_0, nb_1, nf_i, nf_l, nf_ra, nf_ro, nf_na, nf_no, nf_b0, nf_z0, t45_4, t45_5, true_and, and_true, List.set_cons_zero, List.set_cons_succ, List.length_cons, List.length_nil, rd_s, upw_s, ne_eq, not_false_eq_true, Nat.zero_add, Nat.add_zero, if_true, if_false, eq_self, tyX2]
    | split
    | with_reducible intro _
    | omega
set_option maxHeartbeats 4000000 in
theorem fL_howOften {a0 : Int32} (hL : LW g w x nA cA lA y nM o kn km th s s2) (hX : ¬ okC a0 → Q (.inl (some (.int 1))) w) (hS : okC a0 → s.2.1 a0.toNatClampNeg = none → Q (.inl (some (.int 2))) w) (hQ : okC a0 → ∀ r, s.2.1 a0.toNatClampNeg = some r → ∀ w', LW g w' x nA cA lA y nM o kn km th s s2 → outN w' o ((fsum (fun j => bI (decide (mP r (s.2.2.2.1 j)))) s.2.2.1.toInt.toNat).toInt64) → Q (.inl (some (.int 0))) w') : WP (ML_howOften g) Q (0, [some (.ref x), some (.int a0), some (.ref o), none], [], w, 0, 0) := by
  have ho := hL.2.1
  repeat' first
    | with_reducible assumption
    | with_reducible refine And.intro ?_ ?_
    | with_reducible refine LW.gx hL (fun _ => trivial)
    | with_reducible refine fX1_howOften hL.cs (fun hXc0 => ?_) (fun hSc0 hSc1 => ?_) (fun hQc0 hQr hQc1 => ?_)
    | refine hgo_h (HH := [(0, 10, 13, 19), (0, 10, 16, 74)]) (NN := [(19, "java/lang/IndexOutOfBoundsException"), (74, "java/lang/IllegalStateException")]) (h := 13) (E := "java/lang/IndexOutOfBoundsException") rfl rfl (by decide +kernel) (by decide) (fun _ => ?_)
    | refine hgo_h (HH := [(0, 10, 13, 19), (0, 10, 16, 74)]) (NN := [(19, "java/lang/IndexOutOfBoundsException"), (74, "java/lang/IllegalStateException")]) (h := 16) (E := "java/lang/IllegalStateException") rfl rfl (by decide +kernel) (by decide) (fun _ => ?_)
    | with_reducible exact hX hXc0
    | with_reducible exact hS hSc0 hSc1
    | with_reducible exact hQ hQc0 hQr hQc1 _ (hw _ _) outN.mk
    | with_reducible refine go_OF hL (fun _ _ hw => ?_)
    | simp only [eL_howOften_0, eL_howOften_0N, eL_howOften_1, eL_howOften_1N, eL_howOften_2, eL_howOften_3, eL_howOften_6, eL_howOften_7, eL_howOften_10, eL_howOften_13, eL_howOften_13N, eL_howOften_14, eL_howOften_15, eL_howOften_16, eL_howOften_16N, eL_howOften_17, eL_howOften_18, eL_howOften_19, eL_howOften_20, i10, i00, ite_le, n45, n54, true_or, or_true, false_or, or_false, false_and, and_false, kx_l, kx_r, go_s, gl_s, gi_s, gb_s2, gb_s3, gq_s, wt_nil, wt_int, wt_long, wt_ref, wt_null, nl_int, nl_long, nl_ref, nl_null, nl_none, rf_n, rf_s, rf_st, tl_s, tl_n, g0, gS, ex1, nb_b, nb_0, nb_1, nf_i, nf_l, nf_ra, nf_ro, nf_na, nf_no, nf_b0, nf_z0, t45_4, t45_5, true_and, and_true, List.set_cons_zero, List.set_cons_succ, List.length_cons, List.length_nil, rd_s, upw_s, ne_eq, not_false_eq_true, Nat.zero_add, Nat.add_zero, if_true, if_false, eq_self, tyX2]
    | split
    | with_reducible intro _
    | omega
set_option maxHeartbeats 4000000 in
theorem fL_lift {a0 : Int32} (hL : LW g w x nA cA lA y nM o kn km th s s2) (hX : ¬ okC a0 → Q (.inl (some (.int 1))) w) (hS : okC a0 → s.2.1 a0.toNatClampNeg = none → Q (.inl (some (.int 2))) w) (hN : okC a0 → ∀ r, s.2.1 a0.toNatClampNeg = some r → (∀ i, i < s.2.2.1.toInt.toNat → ¬ mP r (s.2.2.2.1 i)) → ∀ w', LW g w' x nA cA lA y nM o kn km th s s2 → outN w' o ((0 : Int32).toInt64) → Q (.inl (some (.int 0))) w') (hQ : okC a0 → ∀ r, s.2.1 a0.toNatClampNeg = some r → ∀ i, i < s.2.2.1.toInt.toNat → mP r (s.2.2.2.1 i) → (∀ k, k < i → ¬ mP r (s.2.2.2.1 k)) → ∀ w', LW g w' x nA cA lA y nM o kn km th (sP_ s (s.2.2.1 - 1) (rmv s.2.2.2.1 i)) s2 → outN w' o ((1 : Int32).toInt64) → Q (.inl (some (.int 0))) w') : WP (ML_lift g) Q (0, [some (.ref x), some (.int a0), some (.ref o), none], [], w, 0, 0) := by
  have ho := hL.2.1
  repeat' first
    | with_reducible assumption
    | with_reducible refine And.intro ?_ ?_
    | with_reducible refine LW.gx hL (fun _ => trivial)
    | with_reducible refine fX1_lift hL.cs (fun hXc0 => ?_) (fun hSc0 hSc1 => ?_) (fun hNc0 hNr hNc1 hNc2 => ?_) (fun hQc0 hQr hQc1 hQi hQc2 hQc3 hQc4 hQw hQh => ?_)
    | refine hgo_h (HH := [(0, 10, 13, 19), (0, 10, 16, 74)]) (NN := [(19, "java/lang/IndexOutOfBoundsException"), (74, "java/lang/IllegalStateException")]) (h := 13) (E := "java/lang/IndexOutOfBoundsException") rfl rfl (by decide +kernel) (by decide) (fun _ => ?_)
    | refine hgo_h (HH := [(0, 10, 13, 19), (0, 10, 16, 74)]) (NN := [(19, "java/lang/IndexOutOfBoundsException"), (74, "java/lang/IllegalStateException")]) (h := 16) (E := "java/lang/IllegalStateException") rfl rfl (by decide +kernel) (by decide) (fun _ => ?_)
    | with_reducible exact hX hXc0
    | with_reducible exact hS hSc0 hSc1
    | with_reducible exact hN hNc0 hNr hNc1 hNc2 _ (hw _ _) outN.mk
    | with_reducible refine go_OF (LW.of hL hQh (by first | with_reducible exact ho | with_reducible exact ho.num | with_reducible exact ho.rf | with_reducible exact ho.mk (by assumption) | with_reducible exact ho.mk (ho.c' (by assumption) (by assumption)) | with_reducible exact ho.mkO (by assumption) (by assumption) | with_reducible exact ho.card0 | with_reducible exact ho.card (ho.c' (by assumption) (by assumption)) | with_reducible exact ho.card (ho.p' (by assumption)) | with_reducible exact ho.lay (ho.c' (by assumption) (by assumption)) (by assumption) | with_reducible exact ho.gap (by assumption) | with_reducible exact ho.tur | with_reducible exact ho.zero)) (fun _ _ hw => ?_)
    | with_reducible exact hQ hQc0 hQr hQc1 hQi hQc2 hQc3 hQc4 _ (hw _ _) outN.mk
    | with_reducible refine go_OF hL (fun _ _ hw => ?_)
    | simp only [eL_lift_0, eL_lift_0N, eL_lift_1, eL_lift_1N, eL_lift_2, eL_lift_3, eL_lift_6, eL_lift_7, eL_lift_10, eL_lift_13, eL_lift_13N, eL_lift_14, eL_lift_15, eL_lift_16, eL_lift_16N, eL_lift_17, eL_lift_18, eL_lift_19, eL_lift_20, i10, i00, ite_le, n45, n54, true_or, or_true, false_or, or_false, false_and, and_false, kx_l, kx_r, go_s, gl_s, gi_s, gb_s2, gb_s3, gq_s, wt_nil, wt_int, wt_long, wt_ref, wt_null, nl_int, nl_long, nl_ref, nl_null, nl_none, rf_n, rf_s, rf_st, tl_s, tl_n, g0, gS, ex1, nb_b, nb_0, nb_1, nf_i, nf_l, nf_ra, nf_ro, nf_na, nf_no, nf_b0, nf_z0, t45_4, t45_5, true_and, and_true, List.set_cons_zero, List.set_cons_succ, List.length_cons, List.length_nil, rd_s, upw_s, ne_eq, not_false_eq_true, Nat.zero_add, Nat.add_zero, if_true, if_false, eq_self, tyX2]
    | split
    | with_reducible intro _
    | omega
set_option maxHeartbeats 4000000 in
theorem fL_pick {a0 a1 : Int32} (hL : LW g w x nA cA lA y nM o kn km th s s2) (hX : ¬ (okP s.2.2.1 a0 ∧ okC a1) → Q (.inl (some (.int 1))) w) (hN : okP s.2.2.1 a0 → okC a1 → s.2.1 a1.toNatClampNeg = none → ∀ w', LW g w' x nA cA lA y nM o kn km th (sC s (va_up s.2.1 a1.toNatClampNeg (some (s.2.2.2.1 a0.toNatClampNeg)))) s2 → outN w' o ((0 : Int32).toInt64) → Q (.inl (some (.int 0))) w') (hS : okP s.2.2.1 a0 → okC a1 → ∀ r, s.2.1 a1.toNatClampNeg = some r → ∀ w', LW g w' x nA cA lA y nM o kn km th (sC s (va_up s.2.1 a1.toNatClampNeg (some (s.2.2.2.1 a0.toNatClampNeg)))) s2 → outN w' o ((1 : Int32).toInt64) → Q (.inl (some (.int 0))) w') : WP (ML_pick g) Q (0, [some (.ref x), some (.int a0), some (.int a1), some (.ref o), none], [], w, 0, 0) := by
  have ho := hL.2.1
  repeat' first
    | with_reducible assumption
    | with_reducible refine And.intro ?_ ?_
    | with_reducible refine LW.gx hL (fun _ => trivial)
    | with_reducible refine fX1_pick hL.cs (fun hXc0 => ?_) (fun hNc0 hNc1 hNc2 hNw hNh => ?_) (fun hSc0 hSc1 hSr hSc2 hSw hSh => ?_)
    | refine hgo_h (HH := [(0, 11, 14, 19)]) (NN := [(19, "java/lang/IndexOutOfBoundsException")]) (h := 14) (E := "java/lang/IndexOutOfBoundsException") rfl rfl (by decide +kernel) (by decide) (fun _ => ?_)
    | with_reducible exact hX hXc0
    | with_reducible refine go_OF (LW.of hL hNh (by first | with_reducible exact ho | with_reducible exact ho.num | with_reducible exact ho.rf | with_reducible exact ho.mk (by assumption) | with_reducible exact ho.mk (ho.c' (by assumption) (by assumption)) | with_reducible exact ho.mkO (by assumption) (by assumption) | with_reducible exact ho.card0 | with_reducible exact ho.card (ho.c' (by assumption) (by assumption)) | with_reducible exact ho.card (ho.p' (by assumption)) | with_reducible exact ho.lay (ho.c' (by assumption) (by assumption)) (by assumption) | with_reducible exact ho.gap (by assumption) | with_reducible exact ho.tur | with_reducible exact ho.zero)) (fun _ _ hw => ?_)
    | with_reducible exact hN hNc0 hNc1 hNc2 _ (hw _ _) outN.mk
    | with_reducible refine go_OF (LW.of hL hSh (by first | with_reducible exact ho | with_reducible exact ho.num | with_reducible exact ho.rf | with_reducible exact ho.mk (by assumption) | with_reducible exact ho.mk (ho.c' (by assumption) (by assumption)) | with_reducible exact ho.mkO (by assumption) (by assumption) | with_reducible exact ho.card0 | with_reducible exact ho.card (ho.c' (by assumption) (by assumption)) | with_reducible exact ho.card (ho.p' (by assumption)) | with_reducible exact ho.lay (ho.c' (by assumption) (by assumption)) (by assumption) | with_reducible exact ho.gap (by assumption) | with_reducible exact ho.tur | with_reducible exact ho.zero)) (fun _ _ hw => ?_)
    | with_reducible exact hS hSc0 hSc1 hSr hSc2 _ (hw _ _) outN.mk
    | with_reducible refine go_OF hL (fun _ _ hw => ?_)
    | simp only [eL_pick_0, eL_pick_0N, eL_pick_1, eL_pick_1N, eL_pick_2, eL_pick_3, eL_pick_4, eL_pick_7, eL_pick_8, eL_pick_11, eL_pick_14, eL_pick_14N, eL_pick_16, eL_pick_17, eL_pick_18, eL_pick_19, i10, i00, ite_le, n45, n54, true_or, or_true, false_or, or_false, false_and, and_false, kx_l, kx_r, go_s, gl_s, gi_s, gb_s2, gb_s3, gq_s, wt_nil, wt_int, wt_long, wt_ref, wt_null, nl_int, nl_long, nl_ref, nl_null, nl_none, rf_n, rf_s, rf_st, tl_s, tl_n, g0, gS, ex1, nb_b, nb_0, nb_1, nf_i, nf_l, nf_ra, nf_ro, nf_na, nf_no, nf_b0, nf_z0, t45_4, t45_5, true_and, and_true, List.set_cons_zero, List.set_cons_succ, List.length_cons, List.length_nil, rd_s, upw_s, ne_eq, not_false_eq_true, Nat.zero_add, Nat.add_zero, if_true, if_false, eq_self, tyX2]
    | split
    | with_reducible intro _
    | omega
set_option maxHeartbeats 4000000 in
theorem gL_pile {a0 a1 : Int32} (hR : RG g) (hL : LW g w x nA cA lA y nM o kn km th s s2) (hQ : ∀ (v : Int32) (w' : Hw), LW g w' x nA cA lA y nM o kn km th s s2 → Q (.inl (some (.int v))) w') : WP (ML_pile g) Q (0, [some (.ref x), some (.int a0), some (.int a1), some (.ref o), none], [], w, 0, 0) := by
  repeat' first
    | with_reducible assumption
    | with_reducible refine And.intro ?_ ?_
    | with_reducible refine LW.gx hL (fun _ => trivial)
    | with_reducible refine sX1_pile hL.cc ?_ ?_ (fun _ => ?_)
    | refine hgo_h (HH := [(0, 11, 14, 19), (0, 11, 18, 28)]) (NN := [(19, "java/lang/IndexOutOfBoundsException"), (28, "java/lang/IllegalArgumentException")]) (h := 14) (E := "java/lang/IndexOutOfBoundsException") rfl rfl (by decide +kernel) (by decide) (fun _ => ?_)
    | refine hgo_h (HH := [(0, 11, 14, 19), (0, 11, 18, 28)]) (NN := [(19, "java/lang/IndexOutOfBoundsException"), (28, "java/lang/IllegalArgumentException")]) (h := 18) (E := "java/lang/IllegalArgumentException") rfl rfl (by decide +kernel) (by decide) (fun _ => ?_)
    | with_reducible refine go_OF (by first | assumption | exact hL | exact hL.ext (by assumption)) (fun _ _ hw => ?_)
    | with_reducible exact hQ _ _ (hw _ _)
    | with_reducible exact hQ _ _ hL
    | simp only [eL_pile_0, eL_pile_0N, eL_pile_1, eL_pile_1N, eL_pile_2, eL_pile_3, eL_pile_4, eL_pile_7, eL_pile_8, eL_pile_11, eL_pile_14, eL_pile_14N, eL_pile_16, eL_pile_17, eL_pile_18, eL_pile_18N, eL_pile_20, eL_pile_21, eL_pile_22, eL_pile_23, ite_le, n45, n54, true_or, or_true, false_or, or_false, false_and, and_false, kx_l, kx_r, go_s, gl_s, gi_s, gb_s2, gb_s3, gq_s, wt_nil, wt_int, wt_long, wt_ref, wt_null, nl_int, nl_long, nl_ref, nl_null, nl_none, rf_n, rf_s, rf_st, tl_s, tl_n, g0, gS, ex1, nb_b, nb_0, nb_1, nf_i, nf_l, nf_ra, nf_ro, nf_na, nf_no, nf_b0, nf_z0, t45_4, t45_5, true_and, and_true, List.set_cons_zero, List.set_cons_succ, List.length_cons, List.length_nil, rd_s, upw_s, ne_eq, not_false_eq_true, Nat.zero_add, Nat.add_zero, if_true, if_false, eq_self, tyX2]
    | split
    | with_reducible intro _
    | omega
set_option maxHeartbeats 4000000 in
theorem gL_house {a0 : Int32} (hR : RG g) (hL : LW g w x nA cA lA y nM o kn km th s s2) (hQ : ∀ (v : Int32) (w' : Hw), LW g w' x nA cA lA y nM o kn km th s s2 → Q (.inl (some (.int v))) w') : WP (ML_house g) Q (0, [some (.ref x), some (.int a0), some (.ref o), none], [], w, 0, 0) := by
  repeat' first
    | with_reducible assumption
    | with_reducible refine And.intro ?_ ?_
    | with_reducible refine LW.gx hL (fun _ => trivial)
    | with_reducible refine sX1_house hL.cc ?_ (fun _ => ?_)
    | refine hgo_h (HH := [(0, 10, 13, 28)]) (NN := [(28, "java/lang/IllegalArgumentException")]) (h := 13) (E := "java/lang/IllegalArgumentException") rfl rfl (by decide +kernel) (by decide) (fun _ => ?_)
    | with_reducible refine go_OF (by first | assumption | exact hL | exact hL.ext (by assumption)) (fun _ _ hw => ?_)
    | with_reducible exact hQ _ _ (hw _ _)
    | with_reducible exact hQ _ _ hL
    | simp only [eL_house_0, eL_house_0N, eL_house_1, eL_house_1N, eL_house_2, eL_house_3, eL_house_6, eL_house_7, eL_house_10, eL_house_13, eL_house_13N, eL_house_14, eL_house_15, eL_house_16, eL_house_17, ite_le, n45, n54, true_or, or_true, false_or, or_false, false_and, and_false, kx_l, kx_r, go_s, gl_s, gi_s, gb_s2, gb_s3, gq_s, wt_nil, wt_int, wt_long, wt_ref, wt_null, nl_int, nl_long, nl_ref, nl_null, nl_none, rf_n, rf_s, rf_st, tl_s, tl_n, g0, gS, ex1, nb_b, nb_0, nb_1, nf_i, nf_l, nf_ra, nf_ro, nf_na, nf_no, nf_b0, nf_z0, t45_4, t45_5, true_and, and_true, List.set_cons_zero, List.set_cons_succ, List.length_cons, List.length_nil, rd_s, upw_s, ne_eq, not_false_eq_true, Nat.zero_add, Nat.add_zero, if_true, if_false, eq_self, tyX2]
    | split
    | with_reducible intro _
    | omega
end
end
/-! 79.cw0.lean.txt -/
section
section
variable {g : RO} {w : Hw} {x nA cA lA y nM o b L k n : Nat} {xs : Nat → Int32} {i kn th : Int32} {s : AS} {l5 l6 : Option Value}
/-! THE LAW: its cases, both sides -/
def QLaw : Ot → Hw → Prop := fun o _ => o = .inl (some (.int 1))
theorem vpin (h0 : 0 ≤ i.toInt) (h1 : i.toInt < (L : Int)) : vp_in i L := by
  rintro (h | h)
  · have h2 := i32_lt h
    have e : (0 : Int32).toInt = 0 := rfl
    omega
  · have e : i.toNatClampNeg = i.toInt.toNat := rfl
    omega
theorem gi_L (h : LW g w x nA cA lA y nM o kn kn th s s) (hb : g.2 b = some (.inl (1, L, .inl xs))) {K : Nat → (Nat → Int32) → Prop} (k : K L xs) : gi (rd g w b) 1 K := gi_W h hb k
theorem n12z : ((1 : Int32) = 0) = False := eq_false (by decide)
theorem n2z : ((2 : Int32) = 0) = False := eq_false (by decide)
theorem n3z : ((3 : Int32) = 0) = False := eq_false (by decide)
set_option maxHeartbeats 4000000 in
theorem cL_0 (hR : RG g) (hb : g.2 b = some (.inl (1, L, .inl xs))) (hL : LW g w x nA cA lA y nM o kn kn th s s) (v1 : vp_in (i + 1) L) (v2 : vp_in (i + 2) L) (v3 : vp_in (i + 3) L) (v4 : vp_in (i + 4) L) (v5 : vp_in (i + 5) L) (hk : k + 114 ≤ 58408) (hn : n + 2834 ≤ 1451408) (next : (∀ (l5' l6' : Option Value) (w' : Hw) (k' n' : Nat) (kn' th' : Int32) (s' : AS), LW g w' x nA cA lA y nM o kn' kn' th' s' s' → k' ≤ k + 114 → n' ≤ n + 2834 → WP (ML_law g) QLaw (2246, [some (.ref b), some (.ref x), some (.ref y), some (.ref o), some (.int i), l5', l6'], [], w', k', n'))) : WP (ML_law g) QLaw (256, [some (.ref b), some (.ref x), some (.ref y), some (.ref o), some (.int i), l5, l6], [], w, k, n) := by
  repeat' first
    | with_reducible assumption
    | with_reducible refine And.intro ?_ ?_
    | with_reducible refine gi_W hL hb ?_
    | with_reducible refine LW.gx hL (fun _ => trivial)
    | with_reducible exact absurd hQqc0 hXpc0
    | with_reducible exact absurd hQpc0 hXqc0
    | with_reducible refine fL_set hL (fun hXpc0 => ?_) (fun hQpc0 hQpw hQph hQpo => ?_)
    | with_reducible refine fX3_set (LW.ms hL) (fun hXqc0 hXqw hXqh => ?_) (fun hQqc0 hQqw hQqh => ?_)
    | with_reducible refine fX3_set (LW.ms hQph) (fun hXqc0 hXqw hXqh => ?_) (fun hQqc0 hQqw hQqh => ?_)
    | with_reducible refine LW.gz hL (fun _ => trivial)
    | with_reducible refine gi_W hL hb ?_
    | with_reducible refine LW.gz hQph (fun _ => trivial)
    | with_reducible refine gi_W hQph hb ?_
    | with_reducible exact next _ _ _ _ _ _ _ _ (LW.ofM hL hXqh) (by omega) (by omega)
    | with_reducible exact next _ _ _ _ _ _ _ _ (LW.ofM hL hQqh) (by omega) (by omega)
    | with_reducible exact next _ _ _ _ _ _ _ _ (LW.ofM hQph hXqh) (by omega) (by omega)
    | with_reducible exact next _ _ _ _ _ _ _ _ (LW.ofM hQph hQqh) (by omega) (by omega)
    | simp only [eL_law_256, eL_law_256N, eL_law_257, eL_law_257N, eL_law_258, eL_law_260, eL_law_261, eL_law_262, eL_law_263, eL_law_263N, eL_law_264, eL_law_266, eL_law_267, eL_law_268, eL_law_269, eL_law_269N, eL_law_270, eL_law_272, eL_law_273, eL_law_274, eL_law_275, eL_law_275N, eL_law_276RR, eL_law_276NR, eL_law_276RN, eL_law_276NN, eL_law_279, eL_law_281, eL_law_281N, eL_law_282, eL_law_282N, eL_law_283, eL_law_285, eL_law_286, eL_law_287, eL_law_288, eL_law_288N, eL_law_289, eL_law_291, eL_law_292, eL_law_293, eL_law_294, eL_law_294N, eL_law_295, eL_law_297, eL_law_298, eL_law_299, eL_law_300, eL_law_303, eL_law_305, ite_le, n45, n54, true_or, or_true, false_or, or_false, false_and, and_false, kx_l, kx_r, go_s, gl_s, gi_s, gb_s2, gb_s3, gq_s, wt_nil, wt_int, wt_long, wt_ref, wt_null, nl_int, nl_long, nl_ref, nl_null, nl_none, rf_n, rf_s, rf_st, tl_s, tl_n, g0, gS, ex1, nb_b, nb_0, nb_1, nf_i, nf_l, nf_ra, nf_ro, nf_na, nf_no, nf_b0, nf_z0, t45_4, t45_5, true_and, and_true, List.set_cons_zero, List.set_cons_succ, List.length_cons, List.length_nil, rd_s, upw_s, ne_eq, not_false_eq_true, Nat.zero_add, Nat.add_zero, if_true, if_false, eq_self, lgz, n12z, n2z, n3z, i00, not_true]
    | split
    | with_reducible intro _
    | omega
set_option maxHeartbeats 4000000 in
theorem cL_1 (hR : RG g) (hb : g.2 b = some (.inl (1, L, .inl xs))) (hL : LW g w x nA cA lA y nM o kn kn th s s) (v1 : vp_in (i + 1) L) (v2 : vp_in (i + 2) L) (v3 : vp_in (i + 3) L) (v4 : vp_in (i + 4) L) (v5 : vp_in (i + 5) L) (hk : k + 114 ≤ 58408) (hn : n + 2834 ≤ 1451408) (next : (∀ (l5' l6' : Option Value) (w' : Hw) (k' n' : Nat) (kn' th' : Int32) (s' : AS), LW g w' x nA cA lA y nM o kn' kn' th' s' s' → k' ≤ k + 114 → n' ≤ n + 2834 → WP (ML_law g) QLaw (2246, [some (.ref b), some (.ref x), some (.ref y), some (.ref o), some (.int i), l5', l6'], [], w', k', n'))) : WP (ML_law g) QLaw (308, [some (.ref b), some (.ref x), some (.ref y), some (.ref o), some (.int i), l5, l6], [], w, k, n) := by
  repeat' first
    | with_reducible assumption
    | with_reducible refine And.intro ?_ ?_
    | with_reducible refine gi_W hL hb ?_
    | with_reducible refine LW.gx hL (fun _ => trivial)
    | with_reducible exact absurd hQqc0 hXpc0
    | with_reducible exact absurd hQpc0 hXqc0
    | with_reducible refine fL_setSmall hL (fun hXpc0 => ?_) (fun hQpc0 hQpw hQph hQpo => ?_)
    | with_reducible refine fX3_setSmall (LW.ms hL) (fun hXqc0 hXqw hXqh => ?_) (fun hQqc0 hQqw hQqh => ?_)
    | with_reducible refine fX3_setSmall (LW.ms hQph) (fun hXqc0 hXqw hXqh => ?_) (fun hQqc0 hQqw hQqh => ?_)
    | with_reducible refine LW.gz hL (fun _ => trivial)
    | with_reducible refine gi_W hL hb ?_
    | with_reducible refine LW.gz hQph (fun _ => trivial)
    | with_reducible refine gi_W hQph hb ?_
    | with_reducible exact next _ _ _ _ _ _ _ _ (LW.ofM hL hXqh) (by omega) (by omega)
    | with_reducible exact next _ _ _ _ _ _ _ _ (LW.ofM hL hQqh) (by omega) (by omega)
    | with_reducible exact next _ _ _ _ _ _ _ _ (LW.ofM hQph hXqh) (by omega) (by omega)
    | with_reducible exact next _ _ _ _ _ _ _ _ (LW.ofM hQph hQqh) (by omega) (by omega)
    | simp only [eL_law_308, eL_law_308N, eL_law_309, eL_law_309N, eL_law_310, eL_law_312, eL_law_313, eL_law_314, eL_law_315, eL_law_315N, eL_law_316, eL_law_318, eL_law_319, eL_law_320, eL_law_321, eL_law_321N, eL_law_322RR, eL_law_322NR, eL_law_322RN, eL_law_322NN, eL_law_325, eL_law_327, eL_law_327N, eL_law_328, eL_law_328N, eL_law_329, eL_law_331, eL_law_332, eL_law_333, eL_law_334, eL_law_334N, eL_law_335, eL_law_337, eL_law_338, eL_law_339, eL_law_340, eL_law_343, eL_law_345, ite_le, n45, n54, true_or, or_true, false_or, or_false, false_and, and_false, kx_l, kx_r, go_s, gl_s, gi_s, gb_s2, gb_s3, gq_s, wt_nil, wt_int, wt_long, wt_ref, wt_null, nl_int, nl_long, nl_ref, nl_null, nl_none, rf_n, rf_s, rf_st, tl_s, tl_n, g0, gS, ex1, nb_b, nb_0, nb_1, nf_i, nf_l, nf_ra, nf_ro, nf_na, nf_no, nf_b0, nf_z0, t45_4, t45_5, true_and, and_true, List.set_cons_zero, List.set_cons_succ, List.length_cons, List.length_nil, rd_s, upw_s, ne_eq, not_false_eq_true, Nat.zero_add, Nat.add_zero, if_true, if_false, eq_self, lgz, n12z, n2z, n3z, i00, not_true]
    | split
    | with_reducible intro _
    | omega
set_option maxHeartbeats 4000000 in
theorem cL_2 (hR : RG g) (hb : g.2 b = some (.inl (1, L, .inl xs))) (hL : LW g w x nA cA lA y nM o kn kn th s s) (v1 : vp_in (i + 1) L) (v2 : vp_in (i + 2) L) (v3 : vp_in (i + 3) L) (v4 : vp_in (i + 4) L) (v5 : vp_in (i + 5) L) (hk : k + 114 ≤ 58408) (hn : n + 2834 ≤ 1451408) (next : (∀ (l5' l6' : Option Value) (w' : Hw) (k' n' : Nat) (kn' th' : Int32) (s' : AS), LW g w' x nA cA lA y nM o kn' kn' th' s' s' → k' ≤ k + 114 → n' ≤ n + 2834 → WP (ML_law g) QLaw (2246, [some (.ref b), some (.ref x), some (.ref y), some (.ref o), some (.int i), l5', l6'], [], w', k', n'))) : WP (ML_law g) QLaw (348, [some (.ref b), some (.ref x), some (.ref y), some (.ref o), some (.int i), l5, l6], [], w, k, n) := by
  repeat' first
    | with_reducible assumption
    | with_reducible refine And.intro ?_ ?_
    | with_reducible refine gi_W hL hb ?_
    | with_reducible refine LW.gx hL (fun _ => trivial)
    | with_reducible exact absurd hWqc0 hXpc0
    | with_reducible exact absurd hQqc0 hXpc0
    | with_reducible exact absurd hWpc0 hXqc0
    | with_reducible exact absurd hQqc1 hWpc1
    | with_reducible exact absurd hQpc0 hXqc0
    | with_reducible exact absurd hQpc1 hWqc1
    | with_reducible refine fL_setEnd hL (fun hXpc0 => ?_) (fun hWpc0 hWpc1 => ?_) (fun hQpc0 hQpc1 hQpw hQph hQpo => ?_)
    | with_reducible refine fX3_setEnd (LW.ms hL) (fun hXqc0 hXqw hXqh => ?_) (fun hWqc0 hWqc1 hWqw hWqh => ?_) (fun hQqc0 hQqc1 hQqw hQqh => ?_)
    | with_reducible refine fX3_setEnd (LW.ms hQph) (fun hXqc0 hXqw hXqh => ?_) (fun hWqc0 hWqc1 hWqw hWqh => ?_) (fun hQqc0 hQqc1 hQqw hQqh => ?_)
    | with_reducible refine LW.gz hL (fun _ => trivial)
    | with_reducible refine gi_W hL hb ?_
    | with_reducible refine LW.gz hQph (fun _ => trivial)
    | with_reducible refine gi_W hQph hb ?_
    | with_reducible exact next _ _ _ _ _ _ _ _ (LW.ofM hL hXqh) (by omega) (by omega)
    | with_reducible exact next _ _ _ _ _ _ _ _ (LW.ofM hL hWqh) (by omega) (by omega)
    | with_reducible exact next _ _ _ _ _ _ _ _ (LW.ofM hL hQqh) (by omega) (by omega)
    | with_reducible exact next _ _ _ _ _ _ _ _ (LW.ofM hQph hXqh) (by omega) (by omega)
    | with_reducible exact next _ _ _ _ _ _ _ _ (LW.ofM hQph hWqh) (by omega) (by omega)
    | with_reducible exact next _ _ _ _ _ _ _ _ (LW.ofM hQph hQqh) (by omega) (by omega)
    | with_reducible refine LW.gz (LW.ofM hL hXqh) (fun _ => trivial)
    | with_reducible refine fX3_thrown (LW.ms (LW.ofM hL hXqh)) ?_
    | with_reducible refine LW.gz (LW.ofM hL hWqh) (fun _ => trivial)
    | with_reducible refine fX3_thrown (LW.ms (LW.ofM hL hWqh)) ?_
    | with_reducible refine LW.gz (LW.ofM hL hQqh) (fun _ => trivial)
    | with_reducible refine fX3_thrown (LW.ms (LW.ofM hL hQqh)) ?_
    | with_reducible refine LW.gz (LW.ofM hQph hXqh) (fun _ => trivial)
    | with_reducible refine fX3_thrown (LW.ms (LW.ofM hQph hXqh)) ?_
    | with_reducible refine go_ON (outN.mv hQpo hQph hXqh) (fun _ => ?_)
    | with_reducible refine LW.gz (LW.ofM hQph hWqh) (fun _ => trivial)
    | with_reducible refine fX3_thrown (LW.ms (LW.ofM hQph hWqh)) ?_
    | with_reducible refine go_ON (outN.mv hQpo hQph hWqh) (fun _ => ?_)
    | with_reducible refine LW.gz (LW.ofM hQph hQqh) (fun _ => trivial)
    | with_reducible refine fX3_thrown (LW.ms (LW.ofM hQph hQqh)) ?_
    | with_reducible refine go_ON (outN.mv hQpo hQph hQqh) (fun _ => ?_)
    | simp only [eL_law_348, eL_law_348N, eL_law_349, eL_law_349N, eL_law_350, eL_law_352, eL_law_353, eL_law_354, eL_law_355, eL_law_355N, eL_law_356, eL_law_358, eL_law_359, eL_law_360, eL_law_361, eL_law_361N, eL_law_362RR, eL_law_362NR, eL_law_362RN, eL_law_362NN, eL_law_365, eL_law_367, eL_law_367N, eL_law_368, eL_law_368N, eL_law_369, eL_law_371, eL_law_372, eL_law_373, eL_law_374, eL_law_374N, eL_law_375, eL_law_377, eL_law_378, eL_law_379, eL_law_380, eL_law_383, eL_law_385, eL_law_385N, eL_law_386, eL_law_389, eL_law_391, eL_law_394, eL_law_395, eL_law_396, eL_law_398, eL_law_401, eL_law_401N, eL_law_402, eL_law_405, eL_law_407, eL_law_408, eL_law_409, eL_law_412, eL_law_413, eL_law_414, ite_le, n45, n54, true_or, or_true, false_or, or_false, false_and, and_false, kx_l, kx_r, go_s, gl_s, gi_s, gb_s2, gb_s3, gq_s, wt_nil, wt_int, wt_long, wt_ref, wt_null, nl_int, nl_long, nl_ref, nl_null, nl_none, rf_n, rf_s, rf_st, tl_s, tl_n, g0, gS, ex1, nb_b, nb_0, nb_1, nf_i, nf_l, nf_ra, nf_ro, nf_na, nf_no, nf_b0, nf_z0, t45_4, t45_5, true_and, and_true, List.set_cons_zero, List.set_cons_succ, List.length_cons, List.length_nil, rd_s, upw_s, ne_eq, not_false_eq_true, Nat.zero_add, Nat.add_zero, if_true, if_false, eq_self, lgz, n12z, n2z, n3z, i00, not_true]
    | split
    | with_reducible intro _
    | omega
set_option maxHeartbeats 4000000 in
theorem cL_3 (hR : RG g) (hb : g.2 b = some (.inl (1, L, .inl xs))) (hL : LW g w x nA cA lA y nM o kn kn th s s) (v1 : vp_in (i + 1) L) (v2 : vp_in (i + 2) L) (v3 : vp_in (i + 3) L) (v4 : vp_in (i + 4) L) (v5 : vp_in (i + 5) L) (hk : k + 114 ≤ 58408) (hn : n + 2834 ≤ 1451408) (next : (∀ (l5' l6' : Option Value) (w' : Hw) (k' n' : Nat) (kn' th' : Int32) (s' : AS), LW g w' x nA cA lA y nM o kn' kn' th' s' s' → k' ≤ k + 114 → n' ≤ n + 2834 → WP (ML_law g) QLaw (2246, [some (.ref b), some (.ref x), some (.ref y), some (.ref o), some (.int i), l5', l6'], [], w', k', n'))) : WP (ML_law g) QLaw (417, [some (.ref b), some (.ref x), some (.ref y), some (.ref o), some (.int i), l5, l6], [], w, k, n) := by
  repeat' first
    | with_reducible assumption
    | with_reducible refine And.intro ?_ ?_
    | with_reducible refine gi_W hL hb ?_
    | with_reducible refine LW.gx hL (fun _ => trivial)
    | with_reducible exact absurd hQqc0 hXpc0
    | with_reducible exact absurd hQpc0 hXqc0
    | with_reducible refine fL_move hL (fun hXpc0 => ?_) (fun hQpc0 hQpw hQph hQpo => ?_)
    | with_reducible refine fX3_move (LW.ms hL) (fun hXqc0 hXqw hXqh => ?_) (fun hQqc0 hQqw hQqh => ?_)
    | with_reducible refine fX3_move (LW.ms hQph) (fun hXqc0 hXqw hXqh => ?_) (fun hQqc0 hQqw hQqh => ?_)
    | with_reducible refine LW.gz hL (fun _ => trivial)
    | with_reducible refine gi_W hL hb ?_
    | with_reducible refine LW.gz hQph (fun _ => trivial)
    | with_reducible refine gi_W hQph hb ?_
    | with_reducible exact next _ _ _ _ _ _ _ _ (LW.ofM hL hXqh) (by omega) (by omega)
    | with_reducible exact next _ _ _ _ _ _ _ _ (LW.ofM hL hQqh) (by omega) (by omega)
    | with_reducible exact next _ _ _ _ _ _ _ _ (LW.ofM hQph hXqh) (by omega) (by omega)
    | with_reducible exact next _ _ _ _ _ _ _ _ (LW.ofM hQph hQqh) (by omega) (by omega)
    | simp only [eL_law_417, eL_law_417N, eL_law_418, eL_law_418N, eL_law_419, eL_law_421, eL_law_422, eL_law_423, eL_law_424, eL_law_424N, eL_law_425, eL_law_427, eL_law_428, eL_law_429, eL_law_430, eL_law_430N, eL_law_431RR, eL_law_431NR, eL_law_431RN, eL_law_431NN, eL_law_434, eL_law_436, eL_law_436N, eL_law_437, eL_law_437N, eL_law_438, eL_law_440, eL_law_441, eL_law_442, eL_law_443, eL_law_443N, eL_law_444, eL_law_446, eL_law_447, eL_law_448, eL_law_449, eL_law_452, eL_law_454, ite_le, n45, n54, true_or, or_true, false_or, or_false, false_and, and_false, kx_l, kx_r, go_s, gl_s, gi_s, gb_s2, gb_s3, gq_s, wt_nil, wt_int, wt_long, wt_ref, wt_null, nl_int, nl_long, nl_ref, nl_null, nl_none, rf_n, rf_s, rf_st, tl_s, tl_n, g0, gS, ex1, nb_b, nb_0, nb_1, nf_i, nf_l, nf_ra, nf_ro, nf_na, nf_no, nf_b0, nf_z0, t45_4, t45_5, true_and, and_true, List.set_cons_zero, List.set_cons_succ, List.length_cons, List.length_nil, rd_s, upw_s, ne_eq, not_false_eq_true, Nat.zero_add, Nat.add_zero, if_true, if_false, eq_self, lgz, n12z, n2z, n3z, i00, not_true]
    | split
    | with_reducible intro _
    | omega
set_option maxHeartbeats 4000000 in
theorem cL_4 (hR : RG g) (hb : g.2 b = some (.inl (1, L, .inl xs))) (hL : LW g w x nA cA lA y nM o kn kn th s s) (v1 : vp_in (i + 1) L) (v2 : vp_in (i + 2) L) (v3 : vp_in (i + 3) L) (v4 : vp_in (i + 4) L) (v5 : vp_in (i + 5) L) (hk : k + 114 ≤ 58408) (hn : n + 2834 ≤ 1451408) (next : (∀ (l5' l6' : Option Value) (w' : Hw) (k' n' : Nat) (kn' th' : Int32) (s' : AS), LW g w' x nA cA lA y nM o kn' kn' th' s' s' → k' ≤ k + 114 → n' ≤ n + 2834 → WP (ML_law g) QLaw (2246, [some (.ref b), some (.ref x), some (.ref y), some (.ref o), some (.int i), l5', l6'], [], w', k', n'))) : WP (ML_law g) QLaw (457, [some (.ref b), some (.ref x), some (.ref y), some (.ref o), some (.int i), l5, l6], [], w, k, n) := by
  repeat' first
    | with_reducible assumption
    | with_reducible refine And.intro ?_ ?_
    | with_reducible refine gi_W hL hb ?_
    | with_reducible refine LW.gx hL (fun _ => trivial)
    | with_reducible exact absurd (And.intro hQqc0 hQqc1) hXpc0
    | with_reducible exact absurd (And.intro hQpc0 hQpc1) hXqc0
    | with_reducible refine fL_copy hL (fun hXpc0 => ?_) (fun hQpc0 hQpc1 hQpw hQph hQpo => ?_)
    | with_reducible refine fX3_copy (LW.ms hL) (fun hXqc0 hXqw hXqh => ?_) (fun hQqc0 hQqc1 hQqw hQqh => ?_)
    | with_reducible refine fX3_copy (LW.ms hQph) (fun hXqc0 hXqw hXqh => ?_) (fun hQqc0 hQqc1 hQqw hQqh => ?_)
    | with_reducible refine LW.gz hL (fun _ => trivial)
    | with_reducible refine gi_W hL hb ?_
    | with_reducible refine LW.gz hQph (fun _ => trivial)
    | with_reducible refine gi_W hQph hb ?_
    | with_reducible exact next _ _ _ _ _ _ _ _ (LW.ofM hL hXqh) (by omega) (by omega)
    | with_reducible exact next _ _ _ _ _ _ _ _ (LW.ofM hL hQqh) (by omega) (by omega)
    | with_reducible exact next _ _ _ _ _ _ _ _ (LW.ofM hQph hXqh) (by omega) (by omega)
    | with_reducible exact next _ _ _ _ _ _ _ _ (LW.ofM hQph hQqh) (by omega) (by omega)
    | simp only [eL_law_457, eL_law_457N, eL_law_458, eL_law_458N, eL_law_459, eL_law_461, eL_law_462, eL_law_463, eL_law_464, eL_law_464N, eL_law_465, eL_law_467, eL_law_468, eL_law_469, eL_law_470, eL_law_470N, eL_law_471RR, eL_law_471NR, eL_law_471RN, eL_law_471NN, eL_law_474, eL_law_476, eL_law_476N, eL_law_477, eL_law_477N, eL_law_478, eL_law_480, eL_law_481, eL_law_482, eL_law_483, eL_law_483N, eL_law_484, eL_law_486, eL_law_487, eL_law_488, eL_law_489, eL_law_492, eL_law_494, ite_le, n45, n54, true_or, or_true, false_or, or_false, false_and, and_false, kx_l, kx_r, go_s, gl_s, gi_s, gb_s2, gb_s3, gq_s, wt_nil, wt_int, wt_long, wt_ref, wt_null, nl_int, nl_long, nl_ref, nl_null, nl_none, rf_n, rf_s, rf_st, tl_s, tl_n, g0, gS, ex1, nb_b, nb_0, nb_1, nf_i, nf_l, nf_ra, nf_ro, nf_na, nf_no, nf_b0, nf_z0, t45_4, t45_5, true_and, and_true, List.set_cons_zero, List.set_cons_succ, List.length_cons, List.length_nil, rd_s, upw_s, ne_eq, not_false_eq_true, Nat.zero_add, Nat.add_zero, if_true, if_false, eq_self, lgz, n12z, n2z, n3z, i00, not_true]
    | split
    | with_reducible intro _
    | omega
set_option maxHeartbeats 4000000 in
theorem cL_5 (hR : RG g) (hb : g.2 b = some (.inl (1, L, .inl xs))) (hL : LW g w x nA cA lA y nM o kn kn th s s) (v1 : vp_in (i + 1) L) (v2 : vp_in (i + 2) L) (v3 : vp_in (i + 3) L) (v4 : vp_in (i + 4) L) (v5 : vp_in (i + 5) L) (hk : k + 114 ≤ 58408) (hn : n + 2834 ≤ 1451408) (next : (∀ (l5' l6' : Option Value) (w' : Hw) (k' n' : Nat) (kn' th' : Int32) (s' : AS), LW g w' x nA cA lA y nM o kn' kn' th' s' s' → k' ≤ k + 114 → n' ≤ n + 2834 → WP (ML_law g) QLaw (2246, [some (.ref b), some (.ref x), some (.ref y), some (.ref o), some (.int i), l5', l6'], [], w', k', n'))) : WP (ML_law g) QLaw (497, [some (.ref b), some (.ref x), some (.ref y), some (.ref o), some (.int i), l5, l6], [], w, k, n) := by
  repeat' first
    | with_reducible assumption
    | with_reducible refine And.intro ?_ ?_
    | with_reducible refine gi_W hL hb ?_
    | with_reducible refine LW.gx hL (fun _ => trivial)
    | with_reducible exact absurd hQqc0 hXpc0
    | with_reducible exact absurd hQpc0 hXqc0
    | with_reducible refine fL_ofNumber hL (fun hXpc0 => ?_) (fun hQpc0 hQpw hQph hQpo => ?_)
    | with_reducible refine fX3_ofNumber (LW.ms hL) (fun hXqc0 hXqw hXqh => ?_) (fun hQqc0 hQqw hQqh => ?_)
    | with_reducible refine fX3_ofNumber (LW.ms hQph) (fun hXqc0 hXqw hXqh => ?_) (fun hQqc0 hQqw hQqh => ?_)
    | with_reducible refine LW.gz hL (fun _ => trivial)
    | with_reducible refine gi_W hL hb ?_
    | with_reducible refine LW.gz hQph (fun _ => trivial)
    | with_reducible refine gi_W hQph hb ?_
    | with_reducible exact next _ _ _ _ _ _ _ _ (LW.ofM hL hXqh) (by omega) (by omega)
    | with_reducible exact next _ _ _ _ _ _ _ _ (LW.ofM hL hQqh) (by omega) (by omega)
    | with_reducible exact next _ _ _ _ _ _ _ _ (LW.ofM hQph hXqh) (by omega) (by omega)
    | with_reducible exact next _ _ _ _ _ _ _ _ (LW.ofM hQph hQqh) (by omega) (by omega)
    | simp only [eL_law_497, eL_law_497N, eL_law_498, eL_law_498N, eL_law_499, eL_law_501, eL_law_502, eL_law_503, eL_law_504, eL_law_504N, eL_law_505, eL_law_507, eL_law_508, eL_law_509, eL_law_510, eL_law_513, eL_law_514, eL_law_517, eL_law_518, eL_law_518N, eL_law_519RR, eL_law_519NR, eL_law_519RN, eL_law_519NN, eL_law_522, eL_law_524, eL_law_524N, eL_law_525, eL_law_525N, eL_law_526, eL_law_528, eL_law_529, eL_law_530, eL_law_531, eL_law_531N, eL_law_532, eL_law_534, eL_law_535, eL_law_536, eL_law_537, eL_law_540, eL_law_541, eL_law_544, eL_law_545, eL_law_548, eL_law_550, ite_le, n45, n54, true_or, or_true, false_or, or_false, false_and, and_false, kx_l, kx_r, go_s, gl_s, gi_s, gb_s2, gb_s3, gq_s, wt_nil, wt_int, wt_long, wt_ref, wt_null, nl_int, nl_long, nl_ref, nl_null, nl_none, rf_n, rf_s, rf_st, tl_s, tl_n, g0, gS, ex1, nb_b, nb_0, nb_1, nf_i, nf_l, nf_ra, nf_ro, nf_na, nf_no, nf_b0, nf_z0, t45_4, t45_5, true_and, and_true, List.set_cons_zero, List.set_cons_succ, List.length_cons, List.length_nil, rd_s, upw_s, ne_eq, not_false_eq_true, Nat.zero_add, Nat.add_zero, if_true, if_false, eq_self, lgz, n12z, n2z, n3z, i00, not_true]
    | split
    | with_reducible intro _
    | omega
set_option maxHeartbeats 4000000 in
theorem cL_6 (hR : RG g) (hb : g.2 b = some (.inl (1, L, .inl xs))) (hL : LW g w x nA cA lA y nM o kn kn th s s) (v1 : vp_in (i + 1) L) (v2 : vp_in (i + 2) L) (v3 : vp_in (i + 3) L) (v4 : vp_in (i + 4) L) (v5 : vp_in (i + 5) L) (hk : k + 114 ≤ 58408) (hn : n + 2834 ≤ 1451408) (next : (∀ (l5' l6' : Option Value) (w' : Hw) (k' n' : Nat) (kn' th' : Int32) (s' : AS), LW g w' x nA cA lA y nM o kn' kn' th' s' s' → k' ≤ k + 114 → n' ≤ n + 2834 → WP (ML_law g) QLaw (2246, [some (.ref b), some (.ref x), some (.ref y), some (.ref o), some (.int i), l5', l6'], [], w', k', n'))) : WP (ML_law g) QLaw (553, [some (.ref b), some (.ref x), some (.ref y), some (.ref o), some (.int i), l5, l6], [], w, k, n) := by
  repeat' first
    | with_reducible assumption
    | with_reducible refine And.intro ?_ ?_
    | with_reducible refine gi_W hL hb ?_
    | with_reducible refine LW.gx hL (fun _ => trivial)
    | with_reducible refine gL_numberText hR hL (fun v1 w1 h1 => ?_)
    | with_reducible refine gX3_numberText (LW.ms h1) hR.sg (hR.dg (LW.ro h1)) (hR.tx (LW.ro h1)) (fun v2 t2 w2 m2 => ?_)
    | with_reducible refine LW.gz h1 (fun _ => trivial)
    | with_reducible refine gi_W h1 hb ?_
    | with_reducible exact next _ _ _ _ _ _ _ _ (LW.ofM h1 m2) (by omega) (by omega)
    | simp only [eL_law_553, eL_law_553N, eL_law_554, eL_law_554N, eL_law_555, eL_law_557, eL_law_558, eL_law_559, eL_law_560, eL_law_560N, eL_law_561RR, eL_law_561NR, eL_law_561RN, eL_law_561NN, eL_law_564, eL_law_566, eL_law_566N, eL_law_567, eL_law_567N, eL_law_568, eL_law_570, eL_law_571, eL_law_572, eL_law_573, eL_law_576, eL_law_576N, eL_law_578, ite_le, n45, n54, true_or, or_true, false_or, or_false, false_and, and_false, kx_l, kx_r, go_s, gl_s, gi_s, gb_s2, gb_s3, gq_s, wt_nil, wt_int, wt_long, wt_ref, wt_null, nl_int, nl_long, nl_ref, nl_null, nl_none, rf_n, rf_s, rf_st, tl_s, tl_n, g0, gS, ex1, nb_b, nb_0, nb_1, nf_i, nf_l, nf_ra, nf_ro, nf_na, nf_no, nf_b0, nf_z0, t45_4, t45_5, true_and, and_true, List.set_cons_zero, List.set_cons_succ, List.length_cons, List.length_nil, rd_s, upw_s, ne_eq, not_false_eq_true, Nat.zero_add, Nat.add_zero, if_true, if_false, eq_self, lgz, n12z, n2z, n3z, i00, not_true]
    | split
    | with_reducible intro _
    | omega
set_option maxHeartbeats 4000000 in
theorem cL_7 (hR : RG g) (hb : g.2 b = some (.inl (1, L, .inl xs))) (hL : LW g w x nA cA lA y nM o kn kn th s s) (v1 : vp_in (i + 1) L) (v2 : vp_in (i + 2) L) (v3 : vp_in (i + 3) L) (v4 : vp_in (i + 4) L) (v5 : vp_in (i + 5) L) (hk : k + 114 ≤ 58408) (hn : n + 2834 ≤ 1451408) (next : (∀ (l5' l6' : Option Value) (w' : Hw) (k' n' : Nat) (kn' th' : Int32) (s' : AS), LW g w' x nA cA lA y nM o kn' kn' th' s' s' → k' ≤ k + 114 → n' ≤ n + 2834 → WP (ML_law g) QLaw (2246, [some (.ref b), some (.ref x), some (.ref y), some (.ref o), some (.int i), l5', l6'], [], w', k', n'))) : WP (ML_law g) QLaw (581, [some (.ref b), some (.ref x), some (.ref y), some (.ref o), some (.int i), l5, l6], [], w, k, n) := by
  repeat' first
    | with_reducible assumption
    | with_reducible refine And.intro ?_ ?_
    | with_reducible refine gi_W hL hb ?_
    | with_reducible refine LW.gx hL (fun _ => trivial)
    | with_reducible exact absurd (And.intro hQqc0 hQqc1) hXpc0
    | with_reducible exact absurd (And.intro hQpc0 hQpc1) hXqc0
    | with_reducible refine fL_order hL (fun hXpc0 => ?_) (fun hQpc0 hQpc1 hQpw hQph hQpo => ?_)
    | with_reducible refine fX3_order (LW.ms hL) (fun hXqc0 hXqw hXqh => ?_) (fun hQqc0 hQqc1 hQqw hQqh => ?_)
    | with_reducible refine fX3_order (LW.ms hQph) (fun hXqc0 hXqw hXqh => ?_) (fun hQqc0 hQqc1 hQqw hQqh => ?_)
    | with_reducible refine LW.gz hL (fun _ => trivial)
    | with_reducible refine gi_W hL hb ?_
    | with_reducible refine LW.gz hQph (fun _ => trivial)
    | with_reducible refine gi_W hQph hb ?_
    | with_reducible exact next _ _ _ _ _ _ _ _ (LW.ofM hL hXqh) (by omega) (by omega)
    | with_reducible exact next _ _ _ _ _ _ _ _ (LW.ofM hL hQqh) (by omega) (by omega)
    | with_reducible exact next _ _ _ _ _ _ _ _ (LW.ofM hQph hXqh) (by omega) (by omega)
    | with_reducible exact next _ _ _ _ _ _ _ _ (LW.ofM hQph hQqh) (by omega) (by omega)
    | simp only [eL_law_581, eL_law_581N, eL_law_582, eL_law_582N, eL_law_583, eL_law_585, eL_law_586, eL_law_587, eL_law_588, eL_law_588N, eL_law_589, eL_law_591, eL_law_592, eL_law_593, eL_law_594, eL_law_594N, eL_law_595RR, eL_law_595NR, eL_law_595RN, eL_law_595NN, eL_law_598, eL_law_600, eL_law_600N, eL_law_601, eL_law_601N, eL_law_602, eL_law_604, eL_law_605, eL_law_606, eL_law_607, eL_law_607N, eL_law_608, eL_law_610, eL_law_611, eL_law_612, eL_law_613, eL_law_616, eL_law_618, ite_le, n45, n54, true_or, or_true, false_or, or_false, false_and, and_false, kx_l, kx_r, go_s, gl_s, gi_s, gb_s2, gb_s3, gq_s, wt_nil, wt_int, wt_long, wt_ref, wt_null, nl_int, nl_long, nl_ref, nl_null, nl_none, rf_n, rf_s, rf_st, tl_s, tl_n, g0, gS, ex1, nb_b, nb_0, nb_1, nf_i, nf_l, nf_ra, nf_ro, nf_na, nf_no, nf_b0, nf_z0, t45_4, t45_5, true_and, and_true, List.set_cons_zero, List.set_cons_succ, List.length_cons, List.length_nil, rd_s, upw_s, ne_eq, not_false_eq_true, Nat.zero_add, Nat.add_zero, if_true, if_false, eq_self, lgz, n12z, n2z, n3z, i00, not_true]
    | split
    | with_reducible intro _
    | omega
set_option maxHeartbeats 4000000 in
theorem cL_8 (hR : RG g) (hb : g.2 b = some (.inl (1, L, .inl xs))) (hL : LW g w x nA cA lA y nM o kn kn th s s) (v1 : vp_in (i + 1) L) (v2 : vp_in (i + 2) L) (v3 : vp_in (i + 3) L) (v4 : vp_in (i + 4) L) (v5 : vp_in (i + 5) L) (hk : k + 114 ≤ 58408) (hn : n + 2834 ≤ 1451408) (next : (∀ (l5' l6' : Option Value) (w' : Hw) (k' n' : Nat) (kn' th' : Int32) (s' : AS), LW g w' x nA cA lA y nM o kn' kn' th' s' s' → k' ≤ k + 114 → n' ≤ n + 2834 → WP (ML_law g) QLaw (2246, [some (.ref b), some (.ref x), some (.ref y), some (.ref o), some (.int i), l5', l6'], [], w', k', n'))) : WP (ML_law g) QLaw (621, [some (.ref b), some (.ref x), some (.ref y), some (.ref o), some (.int i), l5, l6], [], w, k, n) := by
  repeat' first
    | with_reducible assumption
    | with_reducible refine And.intro ?_ ?_
    | with_reducible refine gi_W hL hb ?_
    | with_reducible refine LW.gx hL (fun _ => trivial)
    | with_reducible exact absurd (And.intro hTqc0 (And.intro hTqc1 hTqc2)) hXpc0
    | with_reducible exact absurd (And.intro hFqc0 (And.intro hFqc1 hFqc2)) hXpc0
    | with_reducible exact absurd (And.intro hTpc0 (And.intro hTpc1 hTpc2)) hXqc0
    | with_reducible exact absurd hTpc3 hFqc3
    | with_reducible exact absurd (And.intro hFpc0 (And.intro hFpc1 hFpc2)) hXqc0
    | with_reducible exact absurd hTqc3 hFpc3
    | with_reducible refine fL_two hL (fun hXpc0 => ?_) (fun hTpc0 hTpc1 hTpc2 hTpc3 hTpw hTph hTpo => ?_) (fun hFpc0 hFpc1 hFpc2 hFpc3 hFpw hFph hFpo => ?_)
    | with_reducible refine fX3_two (LW.ms hFph) (fun hXqc0 hXqw hXqh => ?_) (fun hTqc0 hTqc1 hTqc2 hTqc3 hTqw hTqh => ?_) (fun hFqc0 hFqc1 hFqc2 hFqc3 hFqw hFqh => ?_)
    | with_reducible refine fX3_two (LW.ms hL) (fun hXqc0 hXqw hXqh => ?_) (fun hTqc0 hTqc1 hTqc2 hTqc3 hTqw hTqh => ?_) (fun hFqc0 hFqc1 hFqc2 hFqc3 hFqw hFqh => ?_)
    | with_reducible refine fX3_two (LW.ms hTph) (fun hXqc0 hXqw hXqh => ?_) (fun hTqc0 hTqc1 hTqc2 hTqc3 hTqw hTqh => ?_) (fun hFqc0 hFqc1 hFqc2 hFqc3 hFqw hFqh => ?_)
    | with_reducible refine LW.gz hFph (fun _ => trivial)
    | with_reducible refine gi_W hFph hb ?_
    | with_reducible refine LW.gz hL (fun _ => trivial)
    | with_reducible refine gi_W hL hb ?_
    | with_reducible refine LW.gz hTph (fun _ => trivial)
    | with_reducible refine gi_W hTph hb ?_
    | with_reducible exact next _ _ _ _ _ _ _ _ (LW.ofM hL hXqh) (by omega) (by omega)
    | with_reducible exact next _ _ _ _ _ _ _ _ (LW.ofM hL hTqh) (by omega) (by omega)
    | with_reducible exact next _ _ _ _ _ _ _ _ (LW.ofM hL hFqh) (by omega) (by omega)
    | with_reducible exact next _ _ _ _ _ _ _ _ (LW.ofM hTph hXqh) (by omega) (by omega)
    | with_reducible exact next _ _ _ _ _ _ _ _ (LW.ofM hTph hTqh) (by omega) (by omega)
    | with_reducible exact next _ _ _ _ _ _ _ _ (LW.ofM hTph hFqh) (by omega) (by omega)
    | with_reducible exact next _ _ _ _ _ _ _ _ (LW.ofM hFph hXqh) (by omega) (by omega)
    | with_reducible exact next _ _ _ _ _ _ _ _ (LW.ofM hFph hTqh) (by omega) (by omega)
    | with_reducible exact next _ _ _ _ _ _ _ _ (LW.ofM hFph hFqh) (by omega) (by omega)
    | simp only [eL_law_621, eL_law_621N, eL_law_622, eL_law_622N, eL_law_623, eL_law_625, eL_law_626, eL_law_627, eL_law_628, eL_law_628N, eL_law_629, eL_law_631, eL_law_632, eL_law_633, eL_law_634, eL_law_634N, eL_law_635, eL_law_637, eL_law_638, eL_law_639, eL_law_640, eL_law_640N, eL_law_641RR, eL_law_641NR, eL_law_641RN, eL_law_641NN, eL_law_644, eL_law_646, eL_law_646N, eL_law_647, eL_law_647N, eL_law_648, eL_law_650, eL_law_651, eL_law_652, eL_law_653, eL_law_653N, eL_law_654, eL_law_656, eL_law_657, eL_law_658, eL_law_659, eL_law_659N, eL_law_660, eL_law_662, eL_law_663, eL_law_664, eL_law_665, eL_law_668, eL_law_670, ite_le, n45, n54, true_or, or_true, false_or, or_false, false_and, and_false, kx_l, kx_r, go_s, gl_s, gi_s, gb_s2, gb_s3, gq_s, wt_nil, wt_int, wt_long, wt_ref, wt_null, nl_int, nl_long, nl_ref, nl_null, nl_none, rf_n, rf_s, rf_st, tl_s, tl_n, g0, gS, ex1, nb_b, nb_0, nb_1, nf_i, nf_l, nf_ra, nf_ro, nf_na, nf_no, nf_b0, nf_z0, t45_4, t45_5, true_and, and_true, List.set_cons_zero, List.set_cons_succ, List.length_cons, List.length_nil, rd_s, upw_s, ne_eq, not_false_eq_true, Nat.zero_add, Nat.add_zero, if_true, if_false, eq_self, lgz, n12z, n2z, n3z, i00, not_true]
    | split
    | with_reducible intro _
    | omega
set_option maxHeartbeats 4000000 in
theorem cL_9 (hR : RG g) (hb : g.2 b = some (.inl (1, L, .inl xs))) (hL : LW g w x nA cA lA y nM o kn kn th s s) (v1 : vp_in (i + 1) L) (v2 : vp_in (i + 2) L) (v3 : vp_in (i + 3) L) (v4 : vp_in (i + 4) L) (v5 : vp_in (i + 5) L) (hk : k + 114 ≤ 58408) (hn : n + 2834 ≤ 1451408) (next : (∀ (l5' l6' : Option Value) (w' : Hw) (k' n' : Nat) (kn' th' : Int32) (s' : AS), LW g w' x nA cA lA y nM o kn' kn' th' s' s' → k' ≤ k + 114 → n' ≤ n + 2834 → WP (ML_law g) QLaw (2246, [some (.ref b), some (.ref x), some (.ref y), some (.ref o), some (.int i), l5', l6'], [], w', k', n'))) : WP (ML_law g) QLaw (673, [some (.ref b), some (.ref x), some (.ref y), some (.ref o), some (.int i), l5, l6], [], w, k, n) := by
  repeat' first
    | with_reducible assumption
    | with_reducible refine And.intro ?_ ?_
    | with_reducible refine gi_W hL hb ?_
    | with_reducible refine LW.gx hL (fun _ => trivial)
    | with_reducible exact absurd (And.intro hTqc0 (And.intro hTqc1 (And.intro hTqc2 hTqc3))) hXpc0
    | with_reducible exact absurd (And.intro hFqc0 (And.intro hFqc1 (And.intro hFqc2 hFqc3))) hXpc0
    | with_reducible exact absurd (And.intro hTpc0 (And.intro hTpc1 (And.intro hTpc2 hTpc3))) hXqc0
    | with_reducible exact absurd hTpc4 hFqc4
    | with_reducible exact absurd (And.intro hFpc0 (And.intro hFpc1 (And.intro hFpc2 hFpc3))) hXqc0
    | with_reducible exact absurd hTqc4 hFpc4
    | with_reducible refine fL_three hL (fun hXpc0 => ?_) (fun hTpc0 hTpc1 hTpc2 hTpc3 hTpc4 hTpw hTph hTpo => ?_) (fun hFpc0 hFpc1 hFpc2 hFpc3 hFpc4 hFpw hFph hFpo => ?_)
    | with_reducible refine fX3_three (LW.ms hFph) (fun hXqc0 hXqw hXqh => ?_) (fun hTqc0 hTqc1 hTqc2 hTqc3 hTqc4 hTqw hTqh => ?_) (fun hFqc0 hFqc1 hFqc2 hFqc3 hFqc4 hFqw hFqh => ?_)
    | with_reducible refine fX3_three (LW.ms hL) (fun hXqc0 hXqw hXqh => ?_) (fun hTqc0 hTqc1 hTqc2 hTqc3 hTqc4 hTqw hTqh => ?_) (fun hFqc0 hFqc1 hFqc2 hFqc3 hFqc4 hFqw hFqh => ?_)
    | with_reducible refine fX3_three (LW.ms hTph) (fun hXqc0 hXqw hXqh => ?_) (fun hTqc0 hTqc1 hTqc2 hTqc3 hTqc4 hTqw hTqh => ?_) (fun hFqc0 hFqc1 hFqc2 hFqc3 hFqc4 hFqw hFqh => ?_)
    | with_reducible refine LW.gz hFph (fun _ => trivial)
    | with_reducible refine gi_W hFph hb ?_
    | with_reducible refine LW.gz hL (fun _ => trivial)
    | with_reducible refine gi_W hL hb ?_
    | with_reducible refine LW.gz hTph (fun _ => trivial)
    | with_reducible refine gi_W hTph hb ?_
    | with_reducible exact next _ _ _ _ _ _ _ _ (LW.ofM hL hXqh) (by omega) (by omega)
    | with_reducible exact next _ _ _ _ _ _ _ _ (LW.ofM hL hTqh) (by omega) (by omega)
    | with_reducible exact next _ _ _ _ _ _ _ _ (LW.ofM hL hFqh) (by omega) (by omega)
    | with_reducible exact next _ _ _ _ _ _ _ _ (LW.ofM hTph hXqh) (by omega) (by omega)
    | with_reducible exact next _ _ _ _ _ _ _ _ (LW.ofM hTph hTqh) (by omega) (by omega)
    | with_reducible exact next _ _ _ _ _ _ _ _ (LW.ofM hTph hFqh) (by omega) (by omega)
    | with_reducible exact next _ _ _ _ _ _ _ _ (LW.ofM hFph hXqh) (by omega) (by omega)
    | with_reducible exact next _ _ _ _ _ _ _ _ (LW.ofM hFph hTqh) (by omega) (by omega)
    | with_reducible exact next _ _ _ _ _ _ _ _ (LW.ofM hFph hFqh) (by omega) (by omega)
    | simp only [eL_law_673, eL_law_673N, eL_law_674, eL_law_674N, eL_law_675, eL_law_677, eL_law_678, eL_law_679, eL_law_680, eL_law_680N, eL_law_681, eL_law_683, eL_law_684, eL_law_685, eL_law_686, eL_law_686N, eL_law_687, eL_law_689, eL_law_690, eL_law_691, eL_law_692, eL_law_692N, eL_law_693, eL_law_695, eL_law_696, eL_law_697, eL_law_698, eL_law_698N, eL_law_699RR, eL_law_699NR, eL_law_699RN, eL_law_699NN, eL_law_702, eL_law_704, eL_law_704N, eL_law_705, eL_law_705N, eL_law_706, eL_law_708, eL_law_709, eL_law_710, eL_law_711, eL_law_711N, eL_law_712, eL_law_714, eL_law_715, eL_law_716, eL_law_717, eL_law_717N, eL_law_718, eL_law_720, eL_law_721, eL_law_722, eL_law_723, eL_law_723N, eL_law_724, eL_law_726, eL_law_727, eL_law_728, eL_law_729, eL_law_732, eL_law_734, ite_le, n45, n54, true_or, or_true, false_or, or_false, false_and, and_false, kx_l, kx_r, go_s, gl_s, gi_s, gb_s2, gb_s3, gq_s, wt_nil, wt_int, wt_long, wt_ref, wt_null, nl_int, nl_long, nl_ref, nl_null, nl_none, rf_n, rf_s, rf_st, tl_s, tl_n, g0, gS, ex1, nb_b, nb_0, nb_1, nf_i, nf_l, nf_ra, nf_ro, nf_na, nf_no, nf_b0, nf_z0, t45_4, t45_5, true_and, and_true, List.set_cons_zero, List.set_cons_succ, List.length_cons, List.length_nil, rd_s, upw_s, ne_eq, not_false_eq_true, Nat.zero_add, Nat.add_zero, if_true, if_false, eq_self, lgz, n12z, n2z, n3z, i00, not_true]
    | split
    | with_reducible intro _
    | omega
set_option maxHeartbeats 4000000 in
theorem cL_10 (hR : RG g) (hb : g.2 b = some (.inl (1, L, .inl xs))) (hL : LW g w x nA cA lA y nM o kn kn th s s) (v1 : vp_in (i + 1) L) (v2 : vp_in (i + 2) L) (v3 : vp_in (i + 3) L) (v4 : vp_in (i + 4) L) (v5 : vp_in (i + 5) L) (hk : k + 114 ≤ 58408) (hn : n + 2834 ≤ 1451408) (next : (∀ (l5' l6' : Option Value) (w' : Hw) (k' n' : Nat) (kn' th' : Int32) (s' : AS), LW g w' x nA cA lA y nM o kn' kn' th' s' s' → k' ≤ k + 114 → n' ≤ n + 2834 → WP (ML_law g) QLaw (2246, [some (.ref b), some (.ref x), some (.ref y), some (.ref o), some (.int i), l5', l6'], [], w', k', n'))) : WP (ML_law g) QLaw (737, [some (.ref b), some (.ref x), some (.ref y), some (.ref o), some (.int i), l5, l6], [], w, k, n) := by
  repeat' first
    | with_reducible assumption
    | with_reducible refine And.intro ?_ ?_
    | with_reducible refine gi_W hL hb ?_
    | with_reducible refine LW.gx hL (fun _ => trivial)
    | with_reducible exact absurd (And.intro hTqc0 (And.intro hTqc1 (And.intro hTqc2 (And.intro hTqc3 hTqc4)))) hXpc0
    | with_reducible exact absurd (And.intro hFqc0 (And.intro hFqc1 (And.intro hFqc2 (And.intro hFqc3 hFqc4)))) hXpc0
    | with_reducible exact absurd (And.intro hTpc0 (And.intro hTpc1 (And.intro hTpc2 (And.intro hTpc3 hTpc4)))) hXqc0
    | with_reducible exact absurd hTpc5 hFqc5
    | with_reducible exact absurd (And.intro hFpc0 (And.intro hFpc1 (And.intro hFpc2 (And.intro hFpc3 hFpc4)))) hXqc0
    | with_reducible exact absurd hTqc5 hFpc5
    | with_reducible refine fL_four hL (fun hXpc0 => ?_) (fun hTpc0 hTpc1 hTpc2 hTpc3 hTpc4 hTpc5 hTpw hTph hTpo => ?_) (fun hFpc0 hFpc1 hFpc2 hFpc3 hFpc4 hFpc5 hFpw hFph hFpo => ?_)
    | with_reducible refine fX3_four (LW.ms hFph) (fun hXqc0 hXqw hXqh => ?_) (fun hTqc0 hTqc1 hTqc2 hTqc3 hTqc4 hTqc5 hTqw hTqh => ?_) (fun hFqc0 hFqc1 hFqc2 hFqc3 hFqc4 hFqc5 hFqw hFqh => ?_)
    | with_reducible refine fX3_four (LW.ms hL) (fun hXqc0 hXqw hXqh => ?_) (fun hTqc0 hTqc1 hTqc2 hTqc3 hTqc4 hTqc5 hTqw hTqh => ?_) (fun hFqc0 hFqc1 hFqc2 hFqc3 hFqc4 hFqc5 hFqw hFqh => ?_)
    | with_reducible refine fX3_four (LW.ms hTph) (fun hXqc0 hXqw hXqh => ?_) (fun hTqc0 hTqc1 hTqc2 hTqc3 hTqc4 hTqc5 hTqw hTqh => ?_) (fun hFqc0 hFqc1 hFqc2 hFqc3 hFqc4 hFqc5 hFqw hFqh => ?_)
    | with_reducible refine LW.gz hFph (fun _ => trivial)
    | with_reducible refine gi_W hFph hb ?_
    | with_reducible refine LW.gz hL (fun _ => trivial)
    | with_reducible refine gi_W hL hb ?_
    | with_reducible refine LW.gz hTph (fun _ => trivial)
    | with_reducible refine gi_W hTph hb ?_
    | with_reducible exact next _ _ _ _ _ _ _ _ (LW.ofM hL hXqh) (by omega) (by omega)
    | with_reducible exact next _ _ _ _ _ _ _ _ (LW.ofM hL hTqh) (by omega) (by omega)
    | with_reducible exact next _ _ _ _ _ _ _ _ (LW.ofM hL hFqh) (by omega) (by omega)
    | with_reducible exact next _ _ _ _ _ _ _ _ (LW.ofM hTph hXqh) (by omega) (by omega)
    | with_reducible exact next _ _ _ _ _ _ _ _ (LW.ofM hTph hTqh) (by omega) (by omega)
    | with_reducible exact next _ _ _ _ _ _ _ _ (LW.ofM hTph hFqh) (by omega) (by omega)
    | with_reducible exact next _ _ _ _ _ _ _ _ (LW.ofM hFph hXqh) (by omega) (by omega)
    | with_reducible exact next _ _ _ _ _ _ _ _ (LW.ofM hFph hTqh) (by omega) (by omega)
    | with_reducible exact next _ _ _ _ _ _ _ _ (LW.ofM hFph hFqh) (by omega) (by omega)
    | simp only [eL_law_737, eL_law_737N, eL_law_738, eL_law_738N, eL_law_739, eL_law_741, eL_law_742, eL_law_743, eL_law_744, eL_law_744N, eL_law_745, eL_law_747, eL_law_748, eL_law_749, eL_law_750, eL_law_750N, eL_law_751, eL_law_753, eL_law_754, eL_law_755, eL_law_756, eL_law_756N, eL_law_757, eL_law_759, eL_law_760, eL_law_761, eL_law_762, eL_law_762N, eL_law_763, eL_law_765, eL_law_766, eL_law_767, eL_law_768, eL_law_768N, eL_law_769RR, eL_law_769NR, eL_law_769RN, eL_law_769NN, eL_law_772, eL_law_774, eL_law_774N, eL_law_775, eL_law_775N, eL_law_776, eL_law_778, eL_law_779, eL_law_780, eL_law_781, eL_law_781N, eL_law_782, eL_law_784, eL_law_785, eL_law_786, eL_law_787, eL_law_787N, eL_law_788, eL_law_790, eL_law_791, eL_law_792, eL_law_793, eL_law_793N, eL_law_794, eL_law_796, eL_law_797, eL_law_798, eL_law_799, eL_law_799N, eL_law_800, eL_law_802, eL_law_803, eL_law_804, eL_law_805, eL_law_808, eL_law_810, ite_le, n45, n54, true_or, or_true, false_or, or_false, false_and, and_false, kx_l, kx_r, go_s, gl_s, gi_s, gb_s2, gb_s3, gq_s, wt_nil, wt_int, wt_long, wt_ref, wt_null, nl_int, nl_long, nl_ref, nl_null, nl_none, rf_n, rf_s, rf_st, tl_s, tl_n, g0, gS, ex1, nb_b, nb_0, nb_1, nf_i, nf_l, nf_ra, nf_ro, nf_na, nf_no, nf_b0, nf_z0, t45_4, t45_5, true_and, and_true, List.set_cons_zero, List.set_cons_succ, List.length_cons, List.length_nil, rd_s, upw_s, ne_eq, not_false_eq_true, Nat.zero_add, Nat.add_zero, if_true, if_false, eq_self, lgz, n12z, n2z, n3z, i00, not_true]
    | split
    | with_reducible intro _
    | omega
set_option maxHeartbeats 4000000 in
theorem cL_11 (hR : RG g) (hb : g.2 b = some (.inl (1, L, .inl xs))) (hL : LW g w x nA cA lA y nM o kn kn th s s) (v1 : vp_in (i + 1) L) (v2 : vp_in (i + 2) L) (v3 : vp_in (i + 3) L) (v4 : vp_in (i + 4) L) (v5 : vp_in (i + 5) L) (hk : k + 114 ≤ 58408) (hn : n + 2834 ≤ 1451408) (next : (∀ (l5' l6' : Option Value) (w' : Hw) (k' n' : Nat) (kn' th' : Int32) (s' : AS), LW g w' x nA cA lA y nM o kn' kn' th' s' s' → k' ≤ k + 114 → n' ≤ n + 2834 → WP (ML_law g) QLaw (2246, [some (.ref b), some (.ref x), some (.ref y), some (.ref o), some (.int i), l5', l6'], [], w', k', n'))) : WP (ML_law g) QLaw (813, [some (.ref b), some (.ref x), some (.ref y), some (.ref o), some (.int i), l5, l6], [], w, k, n) := by
  repeat' first
    | with_reducible assumption
    | with_reducible refine And.intro ?_ ?_
    | with_reducible refine gi_W hL hb ?_
    | with_reducible refine LW.gx hL (fun _ => trivial)
    | with_reducible exact absurd hTqc0 hXpc0
    | with_reducible exact absurd hFqc0 hXpc0
    | with_reducible exact absurd hTpc0 hXqc0
    | with_reducible exact absurd hTpc1 hFqc1
    | with_reducible exact absurd hFpc0 hXqc0
    | with_reducible exact absurd hTqc1 hFpc1
    | with_reducible refine fL_twoSmall hL (fun hXpc0 => ?_) (fun hTpc0 hTpc1 hTpw hTph hTpo => ?_) (fun hFpc0 hFpc1 hFpw hFph hFpo => ?_)
    | with_reducible refine fX3_twoSmall (LW.ms hFph) (fun hXqc0 hXqw hXqh => ?_) (fun hTqc0 hTqc1 hTqw hTqh => ?_) (fun hFqc0 hFqc1 hFqw hFqh => ?_)
    | with_reducible refine fX3_twoSmall (LW.ms hL) (fun hXqc0 hXqw hXqh => ?_) (fun hTqc0 hTqc1 hTqw hTqh => ?_) (fun hFqc0 hFqc1 hFqw hFqh => ?_)
    | with_reducible refine fX3_twoSmall (LW.ms hTph) (fun hXqc0 hXqw hXqh => ?_) (fun hTqc0 hTqc1 hTqw hTqh => ?_) (fun hFqc0 hFqc1 hFqw hFqh => ?_)
    | with_reducible refine LW.gz hFph (fun _ => trivial)
    | with_reducible refine gi_W hFph hb ?_
    | with_reducible refine LW.gz hL (fun _ => trivial)
    | with_reducible refine gi_W hL hb ?_
    | with_reducible refine LW.gz hTph (fun _ => trivial)
    | with_reducible refine gi_W hTph hb ?_
    | with_reducible exact next _ _ _ _ _ _ _ _ (LW.ofM hL hXqh) (by omega) (by omega)
    | with_reducible exact next _ _ _ _ _ _ _ _ (LW.ofM hL hTqh) (by omega) (by omega)
    | with_reducible exact next _ _ _ _ _ _ _ _ (LW.ofM hL hFqh) (by omega) (by omega)
    | with_reducible exact next _ _ _ _ _ _ _ _ (LW.ofM hTph hXqh) (by omega) (by omega)
    | with_reducible exact next _ _ _ _ _ _ _ _ (LW.ofM hTph hTqh) (by omega) (by omega)
    | with_reducible exact next _ _ _ _ _ _ _ _ (LW.ofM hTph hFqh) (by omega) (by omega)
    | with_reducible exact next _ _ _ _ _ _ _ _ (LW.ofM hFph hXqh) (by omega) (by omega)
    | with_reducible exact next _ _ _ _ _ _ _ _ (LW.ofM hFph hTqh) (by omega) (by omega)
    | with_reducible exact next _ _ _ _ _ _ _ _ (LW.ofM hFph hFqh) (by omega) (by omega)
    | simp only [eL_law_813, eL_law_813N, eL_law_814, eL_law_814N, eL_law_815, eL_law_817, eL_law_818, eL_law_819, eL_law_820, eL_law_820N, eL_law_821, eL_law_823, eL_law_824, eL_law_825, eL_law_826, eL_law_826N, eL_law_827, eL_law_829, eL_law_830, eL_law_831, eL_law_832, eL_law_832N, eL_law_833RR, eL_law_833NR, eL_law_833RN, eL_law_833NN, eL_law_836, eL_law_838, eL_law_838N, eL_law_839, eL_law_839N, eL_law_840, eL_law_842, eL_law_843, eL_law_844, eL_law_845, eL_law_845N, eL_law_846, eL_law_848, eL_law_849, eL_law_850, eL_law_851, eL_law_851N, eL_law_852, eL_law_854, eL_law_855, eL_law_856, eL_law_857, eL_law_860, eL_law_862, ite_le, n45, n54, true_or, or_true, false_or, or_false, false_and, and_false, kx_l, kx_r, go_s, gl_s, gi_s, gb_s2, gb_s3, gq_s, wt_nil, wt_int, wt_long, wt_ref, wt_null, nl_int, nl_long, nl_ref, nl_null, nl_none, rf_n, rf_s, rf_st, tl_s, tl_n, g0, gS, ex1, nb_b, nb_0, nb_1, nf_i, nf_l, nf_ra, nf_ro, nf_na, nf_no, nf_b0, nf_z0, t45_4, t45_5, true_and, and_true, List.set_cons_zero, List.set_cons_succ, List.length_cons, List.length_nil, rd_s, upw_s, ne_eq, not_false_eq_true, Nat.zero_add, Nat.add_zero, if_true, if_false, eq_self, lgz, n12z, n2z, n3z, i00, not_true]
    | split
    | with_reducible intro _
    | omega
end
end
/-! 79.cw1.lean.txt -/
section
section
variable {g : RO} {w : Hw} {x nA cA lA y nM o b L k n : Nat} {xs : Nat → Int32} {i kn th : Int32} {s : AS} {l5 l6 : Option Value}
set_option maxHeartbeats 4000000 in
theorem cL_12 (hR : RG g) (hb : g.2 b = some (.inl (1, L, .inl xs))) (hL : LW g w x nA cA lA y nM o kn kn th s s) (v1 : vp_in (i + 1) L) (v2 : vp_in (i + 2) L) (v3 : vp_in (i + 3) L) (v4 : vp_in (i + 4) L) (v5 : vp_in (i + 5) L) (hk : k + 114 ≤ 58408) (hn : n + 2834 ≤ 1451408) (next : (∀ (l5' l6' : Option Value) (w' : Hw) (k' n' : Nat) (kn' th' : Int32) (s' : AS), LW g w' x nA cA lA y nM o kn' kn' th' s' s' → k' ≤ k + 114 → n' ≤ n + 2834 → WP (ML_law g) QLaw (2246, [some (.ref b), some (.ref x), some (.ref y), some (.ref o), some (.int i), l5', l6'], [], w', k', n'))) : WP (ML_law g) QLaw (865, [some (.ref b), some (.ref x), some (.ref y), some (.ref o), some (.int i), l5, l6], [], w, k, n) := by
  repeat' first
    | with_reducible assumption
    | with_reducible refine And.intro ?_ ?_
    | with_reducible refine gi_W hL hb ?_
    | with_reducible refine LW.gx hL (fun _ => trivial)
    | with_reducible exact absurd hTqc0 hXpc0
    | with_reducible exact absurd hFqc0 hXpc0
    | with_reducible exact absurd hTpc0 hXqc0
    | with_reducible exact absurd hTpc1 hFqc1
    | with_reducible exact absurd hFpc0 hXqc0
    | with_reducible exact absurd hTqc1 hFpc1
    | with_reducible refine fL_threeSmall hL (fun hXpc0 => ?_) (fun hTpc0 hTpc1 hTpw hTph hTpo => ?_) (fun hFpc0 hFpc1 hFpw hFph hFpo => ?_)
    | with_reducible refine fX3_threeSmall (LW.ms hFph) (fun hXqc0 hXqw hXqh => ?_) (fun hTqc0 hTqc1 hTqw hTqh => ?_) (fun hFqc0 hFqc1 hFqw hFqh => ?_)
    | with_reducible refine fX3_threeSmall (LW.ms hL) (fun hXqc0 hXqw hXqh => ?_) (fun hTqc0 hTqc1 hTqw hTqh => ?_) (fun hFqc0 hFqc1 hFqw hFqh => ?_)
    | with_reducible refine fX3_threeSmall (LW.ms hTph) (fun hXqc0 hXqw hXqh => ?_) (fun hTqc0 hTqc1 hTqw hTqh => ?_) (fun hFqc0 hFqc1 hFqw hFqh => ?_)
    | with_reducible refine LW.gz hFph (fun _ => trivial)
    | with_reducible refine gi_W hFph hb ?_
    | with_reducible refine LW.gz hL (fun _ => trivial)
    | with_reducible refine gi_W hL hb ?_
    | with_reducible refine LW.gz hTph (fun _ => trivial)
    | with_reducible refine gi_W hTph hb ?_
    | with_reducible exact next _ _ _ _ _ _ _ _ (LW.ofM hL hXqh) (by omega) (by omega)
    | with_reducible exact next _ _ _ _ _ _ _ _ (LW.ofM hL hTqh) (by omega) (by omega)
    | with_reducible exact next _ _ _ _ _ _ _ _ (LW.ofM hL hFqh) (by omega) (by omega)
    | with_reducible exact next _ _ _ _ _ _ _ _ (LW.ofM hTph hXqh) (by omega) (by omega)
    | with_reducible exact next _ _ _ _ _ _ _ _ (LW.ofM hTph hTqh) (by omega) (by omega)
    | with_reducible exact next _ _ _ _ _ _ _ _ (LW.ofM hTph hFqh) (by omega) (by omega)
    | with_reducible exact next _ _ _ _ _ _ _ _ (LW.ofM hFph hXqh) (by omega) (by omega)
    | with_reducible exact next _ _ _ _ _ _ _ _ (LW.ofM hFph hTqh) (by omega) (by omega)
    | with_reducible exact next _ _ _ _ _ _ _ _ (LW.ofM hFph hFqh) (by omega) (by omega)
    | simp only [eL_law_865, eL_law_865N, eL_law_866, eL_law_866N, eL_law_867, eL_law_869, eL_law_870, eL_law_871, eL_law_872, eL_law_872N, eL_law_873, eL_law_875, eL_law_876, eL_law_877, eL_law_878, eL_law_878N, eL_law_879, eL_law_881, eL_law_882, eL_law_883, eL_law_884, eL_law_884N, eL_law_885, eL_law_887, eL_law_888, eL_law_889, eL_law_890, eL_law_890N, eL_law_891RR, eL_law_891NR, eL_law_891RN, eL_law_891NN, eL_law_894, eL_law_896, eL_law_896N, eL_law_897, eL_law_897N, eL_law_898, eL_law_900, eL_law_901, eL_law_902, eL_law_903, eL_law_903N, eL_law_904, eL_law_906, eL_law_907, eL_law_908, eL_law_909, eL_law_909N, eL_law_910, eL_law_912, eL_law_913, eL_law_914, eL_law_915, eL_law_915N, eL_law_916, eL_law_918, eL_law_919, eL_law_920, eL_law_921, eL_law_924, eL_law_926, ite_le, n45, n54, true_or, or_true, false_or, or_false, false_and, and_false, kx_l, kx_r, go_s, gl_s, gi_s, gb_s2, gb_s3, gq_s, wt_nil, wt_int, wt_long, wt_ref, wt_null, nl_int, nl_long, nl_ref, nl_null, nl_none, rf_n, rf_s, rf_st, tl_s, tl_n, g0, gS, ex1, nb_b, nb_0, nb_1, nf_i, nf_l, nf_ra, nf_ro, nf_na, nf_no, nf_b0, nf_z0, t45_4, t45_5, true_and, and_true, List.set_cons_zero, List.set_cons_succ, List.length_cons, List.length_nil, rd_s, upw_s, ne_eq, not_false_eq_true, Nat.zero_add, Nat.add_zero, if_true, if_false, eq_self, lgz, n12z, n2z, n3z, i00, not_true]
    | split
    | with_reducible intro _
    | omega
set_option maxHeartbeats 4000000 in
theorem cL_13 (hR : RG g) (hb : g.2 b = some (.inl (1, L, .inl xs))) (hL : LW g w x nA cA lA y nM o kn kn th s s) (v1 : vp_in (i + 1) L) (v2 : vp_in (i + 2) L) (v3 : vp_in (i + 3) L) (v4 : vp_in (i + 4) L) (v5 : vp_in (i + 5) L) (hk : k + 114 ≤ 58408) (hn : n + 2834 ≤ 1451408) (next : (∀ (l5' l6' : Option Value) (w' : Hw) (k' n' : Nat) (kn' th' : Int32) (s' : AS), LW g w' x nA cA lA y nM o kn' kn' th' s' s' → k' ≤ k + 114 → n' ≤ n + 2834 → WP (ML_law g) QLaw (2246, [some (.ref b), some (.ref x), some (.ref y), some (.ref o), some (.int i), l5', l6'], [], w', k', n'))) : WP (ML_law g) QLaw (929, [some (.ref b), some (.ref x), some (.ref y), some (.ref o), some (.int i), l5, l6], [], w, k, n) := by
  repeat' first
    | with_reducible assumption
    | with_reducible refine And.intro ?_ ?_
    | with_reducible refine gi_W hL hb ?_
    | with_reducible refine LW.gx hL (fun _ => trivial)
    | with_reducible exact absurd hTqc0 hXpc0
    | with_reducible exact absurd hFqc0 hXpc0
    | with_reducible exact absurd hTpc0 hXqc0
    | with_reducible exact absurd hTpc1 hFqc1
    | with_reducible exact absurd hFpc0 hXqc0
    | with_reducible exact absurd hTqc1 hFpc1
    | with_reducible refine fL_fourSmall hL (fun hXpc0 => ?_) (fun hTpc0 hTpc1 hTpw hTph hTpo => ?_) (fun hFpc0 hFpc1 hFpw hFph hFpo => ?_)
    | with_reducible refine fX3_fourSmall (LW.ms hFph) (fun hXqc0 hXqw hXqh => ?_) (fun hTqc0 hTqc1 hTqw hTqh => ?_) (fun hFqc0 hFqc1 hFqw hFqh => ?_)
    | with_reducible refine fX3_fourSmall (LW.ms hL) (fun hXqc0 hXqw hXqh => ?_) (fun hTqc0 hTqc1 hTqw hTqh => ?_) (fun hFqc0 hFqc1 hFqw hFqh => ?_)
    | with_reducible refine fX3_fourSmall (LW.ms hTph) (fun hXqc0 hXqw hXqh => ?_) (fun hTqc0 hTqc1 hTqw hTqh => ?_) (fun hFqc0 hFqc1 hFqw hFqh => ?_)
    | with_reducible refine LW.gz hFph (fun _ => trivial)
    | with_reducible refine gi_W hFph hb ?_
    | with_reducible refine LW.gz hL (fun _ => trivial)
    | with_reducible refine gi_W hL hb ?_
    | with_reducible refine LW.gz hTph (fun _ => trivial)
    | with_reducible refine gi_W hTph hb ?_
    | with_reducible exact next _ _ _ _ _ _ _ _ (LW.ofM hL hXqh) (by omega) (by omega)
    | with_reducible exact next _ _ _ _ _ _ _ _ (LW.ofM hL hTqh) (by omega) (by omega)
    | with_reducible exact next _ _ _ _ _ _ _ _ (LW.ofM hL hFqh) (by omega) (by omega)
    | with_reducible exact next _ _ _ _ _ _ _ _ (LW.ofM hTph hXqh) (by omega) (by omega)
    | with_reducible exact next _ _ _ _ _ _ _ _ (LW.ofM hTph hTqh) (by omega) (by omega)
    | with_reducible exact next _ _ _ _ _ _ _ _ (LW.ofM hTph hFqh) (by omega) (by omega)
    | with_reducible exact next _ _ _ _ _ _ _ _ (LW.ofM hFph hXqh) (by omega) (by omega)
    | with_reducible exact next _ _ _ _ _ _ _ _ (LW.ofM hFph hTqh) (by omega) (by omega)
    | with_reducible exact next _ _ _ _ _ _ _ _ (LW.ofM hFph hFqh) (by omega) (by omega)
    | simp only [eL_law_929, eL_law_929N, eL_law_930, eL_law_930N, eL_law_931, eL_law_933, eL_law_934, eL_law_935, eL_law_936, eL_law_936N, eL_law_937, eL_law_939, eL_law_940, eL_law_941, eL_law_942, eL_law_942N, eL_law_943, eL_law_945, eL_law_946, eL_law_947, eL_law_948, eL_law_948N, eL_law_949, eL_law_951, eL_law_952, eL_law_953, eL_law_954, eL_law_954N, eL_law_955, eL_law_957, eL_law_958, eL_law_959, eL_law_960, eL_law_960N, eL_law_961RR, eL_law_961NR, eL_law_961RN, eL_law_961NN, eL_law_964, eL_law_966, eL_law_966N, eL_law_967, eL_law_967N, eL_law_968, eL_law_970, eL_law_971, eL_law_972, eL_law_973, eL_law_973N, eL_law_974, eL_law_976, eL_law_977, eL_law_978, eL_law_979, eL_law_979N, eL_law_980, eL_law_982, eL_law_983, eL_law_984, eL_law_985, eL_law_985N, eL_law_986, eL_law_988, eL_law_989, eL_law_990, eL_law_991, eL_law_991N, eL_law_992, eL_law_994, eL_law_995, eL_law_996, eL_law_997, eL_law_1000, eL_law_1002, ite_le, n45, n54, true_or, or_true, false_or, or_false, false_and, and_false, kx_l, kx_r, go_s, gl_s, gi_s, gb_s2, gb_s3, gq_s, wt_nil, wt_int, wt_long, wt_ref, wt_null, nl_int, nl_long, nl_ref, nl_null, nl_none, rf_n, rf_s, rf_st, tl_s, tl_n, g0, gS, ex1, nb_b, nb_0, nb_1, nf_i, nf_l, nf_ra, nf_ro, nf_na, nf_no, nf_b0, nf_z0, t45_4, t45_5, true_and, and_true, List.set_cons_zero, List.set_cons_succ, List.length_cons, List.length_nil, rd_s, upw_s, ne_eq, not_false_eq_true, Nat.zero_add, Nat.add_zero, if_true, if_false, eq_self, lgz, n12z, n2z, n3z, i00, not_true]
    | split
    | with_reducible intro _
    | omega
set_option maxHeartbeats 4000000 in
theorem cL_14 (hR : RG g) (hb : g.2 b = some (.inl (1, L, .inl xs))) (hL : LW g w x nA cA lA y nM o kn kn th s s) (v1 : vp_in (i + 1) L) (v2 : vp_in (i + 2) L) (v3 : vp_in (i + 3) L) (v4 : vp_in (i + 4) L) (v5 : vp_in (i + 5) L) (hk : k + 114 ≤ 58408) (hn : n + 2834 ≤ 1451408) (next : (∀ (l5' l6' : Option Value) (w' : Hw) (k' n' : Nat) (kn' th' : Int32) (s' : AS), LW g w' x nA cA lA y nM o kn' kn' th' s' s' → k' ≤ k + 114 → n' ≤ n + 2834 → WP (ML_law g) QLaw (2246, [some (.ref b), some (.ref x), some (.ref y), some (.ref o), some (.int i), l5', l6'], [], w', k', n'))) : WP (ML_law g) QLaw (1005, [some (.ref b), some (.ref x), some (.ref y), some (.ref o), some (.int i), l5, l6], [], w, k, n) := by
  repeat' first
    | with_reducible assumption
    | with_reducible refine And.intro ?_ ?_
    | with_reducible refine gi_W hL hb ?_
    | with_reducible refine LW.gx hL (fun _ => trivial)
    | cases Option.some.inj (hQpc2.symm.trans hQqc2); clear hQqc2
    | with_reducible exact absurd (And.intro hSqc0 hSqc1) hXpc0
    | with_reducible exact absurd (And.intro hQqc0 hQqc1) hXpc0
    | with_reducible exact absurd (And.intro hSpc0 hSpc1) hXqc0
    | with_reducible exact (nsC hSpc2 hQqc2).elim
    | with_reducible exact absurd (And.intro hQpc0 hQpc1) hXqc0
    | with_reducible exact (nsC hSqc2 hQpc2).elim
    | with_reducible refine fL_again hL (fun hXpc0 => ?_) (fun hSpc0 hSpc1 hSpc2 => ?_) (fun hQpc0 hQpc1 hQpr hQpc2 hQpw hQph hQpo => ?_)
    | with_reducible refine fX3_again (LW.ms hL) hL.ok (fun hXqc0 hXqw hXqh => ?_) (fun hSqc0 hSqc1 hSqc2 hSqw hSqh => ?_) (fun hQqc0 hQqc1 hQqr hQqc2 hQqw hQqh => ?_)
    | with_reducible refine fX3_again (LW.ms hQph) hL.ok (fun hXqc0 hXqw hXqh => ?_) (fun hSqc0 hSqc1 hSqc2 hSqw hSqh => ?_) (fun hQqc0 hQqc1 hQqr hQqc2 hQqw hQqh => ?_)
    | with_reducible refine LW.gz hL (fun _ => trivial)
    | with_reducible refine gi_W hL hb ?_
    | with_reducible refine LW.gz hQph (fun _ => trivial)
    | with_reducible refine gi_W hQph hb ?_
    | with_reducible exact next _ _ _ _ _ _ _ _ (LW.ofM hL hXqh) (by omega) (by omega)
    | with_reducible exact next _ _ _ _ _ _ _ _ (LW.ofM hL hSqh) (by omega) (by omega)
    | with_reducible exact next _ _ _ _ _ _ _ _ (LW.ofM hL hQqh) (by omega) (by omega)
    | with_reducible exact next _ _ _ _ _ _ _ _ (LW.ofM hQph hXqh) (by omega) (by omega)
    | with_reducible exact next _ _ _ _ _ _ _ _ (LW.ofM hQph hSqh) (by omega) (by omega)
    | with_reducible exact next _ _ _ _ _ _ _ _ (LW.ofM hQph hQqh) (by omega) (by omega)
    | simp only [eL_law_1005, eL_law_1005N, eL_law_1006, eL_law_1006N, eL_law_1007, eL_law_1009, eL_law_1010, eL_law_1011, eL_law_1012, eL_law_1012N, eL_law_1013, eL_law_1015, eL_law_1016, eL_law_1017, eL_law_1018, eL_law_1018N, eL_law_1019RR, eL_law_1019NR, eL_law_1019RN, eL_law_1019NN, eL_law_1022, eL_law_1024, eL_law_1024N, eL_law_1025, eL_law_1025N, eL_law_1026, eL_law_1028, eL_law_1029, eL_law_1030, eL_law_1031, eL_law_1031N, eL_law_1032, eL_law_1034, eL_law_1035, eL_law_1036, eL_law_1037, eL_law_1040, eL_law_1042, ite_le, n45, n54, true_or, or_true, false_or, or_false, false_and, and_false, kx_l, kx_r, go_s, gl_s, gi_s, gb_s2, gb_s3, gq_s, wt_nil, wt_int, wt_long, wt_ref, wt_null, nl_int, nl_long, nl_ref, nl_null, nl_none, rf_n, rf_s, rf_st, tl_s, tl_n, g0, gS, ex1, nb_b, nb_0, nb_1, nf_i, nf_l, nf_ra, nf_ro, nf_na, nf_no, nf_b0, nf_z0, t45_4, t45_5, true_and, and_true, List.set_cons_zero, List.set_cons_succ, List.length_cons, List.length_nil, rd_s, upw_s, ne_eq, not_false_eq_true, Nat.zero_add, Nat.add_zero, if_true, if_false, eq_self, lgz, n12z, n2z, n3z, i00, not_true]
    | split
    | with_reducible intro _
    | omega
set_option maxHeartbeats 4000000 in
theorem cL_15 (hR : RG g) (hb : g.2 b = some (.inl (1, L, .inl xs))) (hL : LW g w x nA cA lA y nM o kn kn th s s) (v1 : vp_in (i + 1) L) (v2 : vp_in (i + 2) L) (v3 : vp_in (i + 3) L) (v4 : vp_in (i + 4) L) (v5 : vp_in (i + 5) L) (hk : k + 114 ≤ 58408) (hn : n + 2834 ≤ 1451408) (next : (∀ (l5' l6' : Option Value) (w' : Hw) (k' n' : Nat) (kn' th' : Int32) (s' : AS), LW g w' x nA cA lA y nM o kn' kn' th' s' s' → k' ≤ k + 114 → n' ≤ n + 2834 → WP (ML_law g) QLaw (2246, [some (.ref b), some (.ref x), some (.ref y), some (.ref o), some (.int i), l5', l6'], [], w', k', n'))) : WP (ML_law g) QLaw (1045, [some (.ref b), some (.ref x), some (.ref y), some (.ref o), some (.int i), l5, l6], [], w, k, n) := by
  repeat' first
    | with_reducible assumption
    | with_reducible refine And.intro ?_ ?_
    | with_reducible refine gi_W hL hb ?_
    | with_reducible refine LW.gx hL (fun _ => trivial)
    | cases Option.some.inj (hNpc2.symm.trans hNqc2); clear hNqc2
    | cases Option.some.inj (hNpc2.symm.trans hTqc2); clear hTqc2
    | cases Option.some.inj (hNpc2.symm.trans hFqc2); clear hFqc2
    | cases Option.some.inj (hTpc2.symm.trans hNqc2); clear hNqc2
    | cases Option.some.inj (hTpc2.symm.trans hTqc2); clear hTqc2
    | cases Option.some.inj (hTpc3.symm.trans hTqc3); clear hTqc3
    | cases Option.some.inj (hTpc2.symm.trans hFqc2); clear hFqc2
    | cases Option.some.inj (hTpc3.symm.trans hFqc3); clear hFqc3
    | cases Option.some.inj (hFpc2.symm.trans hNqc2); clear hNqc2
    | cases Option.some.inj (hFpc2.symm.trans hTqc2); clear hTqc2
    | cases Option.some.inj (hFpc3.symm.trans hTqc3); clear hTqc3
    | cases Option.some.inj (hFpc2.symm.trans hFqc2); clear hFqc2
    | cases Option.some.inj (hFpc3.symm.trans hFqc3); clear hFqc3
    | with_reducible exact absurd (And.intro hSqc0 hSqc1) hXpc0
    | with_reducible exact absurd (And.intro hNqc0 hNqc1) hXpc0
    | with_reducible exact absurd (And.intro hTqc0 hTqc1) hXpc0
    | with_reducible exact absurd (And.intro hFqc0 hFqc1) hXpc0
    | with_reducible exact absurd (And.intro hSpc0 hSpc1) hXqc0
    | with_reducible exact (nsC hSpc2 hNqc2).elim
    | with_reducible exact (nsC hSpc2 hTqc2).elim
    | with_reducible exact (nsC hSpc2 hFqc2).elim
    | with_reducible exact absurd (And.intro hNpc0 hNpc1) hXqc0
    | with_reducible exact (nsC hSqc2 hNpc2).elim
    | with_reducible exact (nsC hNpc3 hTqc3).elim
    | with_reducible exact (nsC hNpc3 hFqc3).elim
    | with_reducible exact absurd (And.intro hTpc0 hTpc1) hXqc0
    | with_reducible exact (nsC hSqc2 hTpc2).elim
    | with_reducible exact (nsC hNqc3 hTpc3).elim
    | with_reducible exact absurd hTpc4 hFqc4
    | with_reducible exact absurd (And.intro hFpc0 hFpc1) hXqc0
    | with_reducible exact (nsC hSqc2 hFpc2).elim
    | with_reducible exact (nsC hNqc3 hFpc3).elim
    | with_reducible exact absurd hTqc4 hFpc4
    | with_reducible refine fL_same hL (fun hXpc0 => ?_) (fun hSpc0 hSpc1 hSpc2 => ?_) (fun hNpc0 hNpc1 hNpr hNpc2 hNpc3 hNpw hNph hNpo => ?_) (fun hTpc0 hTpc1 hTpr hTpc2 hTpq hTpc3 hTpc4 hTpw hTph hTpo => ?_) (fun hFpc0 hFpc1 hFpr hFpc2 hFpq hFpc3 hFpc4 hFpw hFph hFpo => ?_)
    | with_reducible refine fX3_same_ (LW.ms hFph) (fun hXqc0 hXqw hXqh => ?_) (fun hSqc0 hSqc1 hSqc2 hSqw hSqh => ?_) (fun hNqc0 hNqc1 hNqr hNqc2 hNqc3 hNqw hNqh => ?_) (fun hTqc0 hTqc1 hTqr hTqc2 hTqq hTqc3 hTqc4 hTqw hTqh => ?_) (fun hFqc0 hFqc1 hFqr hFqc2 hFqq hFqc3 hFqc4 hFqw hFqh => ?_)
    | with_reducible refine fX3_same_ (LW.ms hL) (fun hXqc0 hXqw hXqh => ?_) (fun hSqc0 hSqc1 hSqc2 hSqw hSqh => ?_) (fun hNqc0 hNqc1 hNqr hNqc2 hNqc3 hNqw hNqh => ?_) (fun hTqc0 hTqc1 hTqr hTqc2 hTqq hTqc3 hTqc4 hTqw hTqh => ?_) (fun hFqc0 hFqc1 hFqr hFqc2 hFqq hFqc3 hFqc4 hFqw hFqh => ?_)
    | with_reducible refine fX3_same_ (LW.ms hNph) (fun hXqc0 hXqw hXqh => ?_) (fun hSqc0 hSqc1 hSqc2 hSqw hSqh => ?_) (fun hNqc0 hNqc1 hNqr hNqc2 hNqc3 hNqw hNqh => ?_) (fun hTqc0 hTqc1 hTqr hTqc2 hTqq hTqc3 hTqc4 hTqw hTqh => ?_) (fun hFqc0 hFqc1 hFqr hFqc2 hFqq hFqc3 hFqc4 hFqw hFqh => ?_)
    | with_reducible refine fX3_same_ (LW.ms hTph) (fun hXqc0 hXqw hXqh => ?_) (fun hSqc0 hSqc1 hSqc2 hSqw hSqh => ?_) (fun hNqc0 hNqc1 hNqr hNqc2 hNqc3 hNqw hNqh => ?_) (fun hTqc0 hTqc1 hTqr hTqc2 hTqq hTqc3 hTqc4 hTqw hTqh => ?_) (fun hFqc0 hFqc1 hFqr hFqc2 hFqq hFqc3 hFqc4 hFqw hFqh => ?_)
    | with_reducible refine LW.gz hFph (fun _ => trivial)
    | with_reducible refine gi_W hFph hb ?_
    | with_reducible refine LW.gz hL (fun _ => trivial)
    | with_reducible refine gi_W hL hb ?_
    | with_reducible refine LW.gz hNph (fun _ => trivial)
    | with_reducible refine gi_W hNph hb ?_
    | with_reducible refine LW.gz hTph (fun _ => trivial)
    | with_reducible refine gi_W hTph hb ?_
    | with_reducible exact next _ _ _ _ _ _ _ _ (LW.ofM hL hXqh) (by omega) (by omega)
    | with_reducible exact next _ _ _ _ _ _ _ _ (LW.ofM hL hSqh) (by omega) (by omega)
    | with_reducible exact next _ _ _ _ _ _ _ _ (LW.ofM hL hNqh) (by omega) (by omega)
    | with_reducible exact next _ _ _ _ _ _ _ _ (LW.ofM hL hTqh) (by omega) (by omega)
    | with_reducible exact next _ _ _ _ _ _ _ _ (LW.ofM hL hFqh) (by omega) (by omega)
    | with_reducible exact next _ _ _ _ _ _ _ _ (LW.ofM hNph hXqh) (by omega) (by omega)
    | with_reducible exact next _ _ _ _ _ _ _ _ (LW.ofM hNph hSqh) (by omega) (by omega)
    | with_reducible exact next _ _ _ _ _ _ _ _ (LW.ofM hNph hNqh) (by omega) (by omega)
    | with_reducible exact next _ _ _ _ _ _ _ _ (LW.ofM hNph hTqh) (by omega) (by omega)
    | with_reducible exact next _ _ _ _ _ _ _ _ (LW.ofM hNph hFqh) (by omega) (by omega)
    | with_reducible exact next _ _ _ _ _ _ _ _ (LW.ofM hTph hXqh) (by omega) (by omega)
    | with_reducible exact next _ _ _ _ _ _ _ _ (LW.ofM hTph hSqh) (by omega) (by omega)
    | with_reducible exact next _ _ _ _ _ _ _ _ (LW.ofM hTph hNqh) (by omega) (by omega)
    | with_reducible exact next _ _ _ _ _ _ _ _ (LW.ofM hTph hTqh) (by omega) (by omega)
    | with_reducible exact next _ _ _ _ _ _ _ _ (LW.ofM hTph hFqh) (by omega) (by omega)
    | with_reducible exact next _ _ _ _ _ _ _ _ (LW.ofM hFph hXqh) (by omega) (by omega)
    | with_reducible exact next _ _ _ _ _ _ _ _ (LW.ofM hFph hSqh) (by omega) (by omega)
    | with_reducible exact next _ _ _ _ _ _ _ _ (LW.ofM hFph hNqh) (by omega) (by omega)
    | with_reducible exact next _ _ _ _ _ _ _ _ (LW.ofM hFph hTqh) (by omega) (by omega)
    | with_reducible exact next _ _ _ _ _ _ _ _ (LW.ofM hFph hFqh) (by omega) (by omega)
    | simp only [eL_law_1045, eL_law_1045N, eL_law_1046, eL_law_1046N, eL_law_1047, eL_law_1049, eL_law_1050, eL_law_1051, eL_law_1052, eL_law_1052N, eL_law_1053, eL_law_1055, eL_law_1056, eL_law_1057, eL_law_1058, eL_law_1058N, eL_law_1059RR, eL_law_1059NR, eL_law_1059RN, eL_law_1059NN, eL_law_1062, eL_law_1064, eL_law_1064N, eL_law_1065, eL_law_1065N, eL_law_1066, eL_law_1068, eL_law_1069, eL_law_1070, eL_law_1071, eL_law_1071N, eL_law_1072, eL_law_1074, eL_law_1075, eL_law_1076, eL_law_1077, eL_law_1080, eL_law_1082, ite_le, n45, n54, true_or, or_true, false_or, or_false, false_and, and_false, kx_l, kx_r, go_s, gl_s, gi_s, gb_s2, gb_s3, gq_s, wt_nil, wt_int, wt_long, wt_ref, wt_null, nl_int, nl_long, nl_ref, nl_null, nl_none, rf_n, rf_s, rf_st, tl_s, tl_n, g0, gS, ex1, nb_b, nb_0, nb_1, nf_i, nf_l, nf_ra, nf_ro, nf_na, nf_no, nf_b0, nf_z0, t45_4, t45_5, true_and, and_true, List.set_cons_zero, List.set_cons_succ, List.length_cons, List.length_nil, rd_s, upw_s, ne_eq, not_false_eq_true, Nat.zero_add, Nat.add_zero, if_true, if_false, eq_self, lgz, n12z, n2z, n3z, i00, not_true]
    | split
    | with_reducible intro _
    | omega
set_option maxHeartbeats 4000000 in
theorem cL_16 (hR : RG g) (hb : g.2 b = some (.inl (1, L, .inl xs))) (hL : LW g w x nA cA lA y nM o kn kn th s s) (v1 : vp_in (i + 1) L) (v2 : vp_in (i + 2) L) (v3 : vp_in (i + 3) L) (v4 : vp_in (i + 4) L) (v5 : vp_in (i + 5) L) (hk : k + 114 ≤ 58408) (hn : n + 2834 ≤ 1451408) (next : (∀ (l5' l6' : Option Value) (w' : Hw) (k' n' : Nat) (kn' th' : Int32) (s' : AS), LW g w' x nA cA lA y nM o kn' kn' th' s' s' → k' ≤ k + 114 → n' ≤ n + 2834 → WP (ML_law g) QLaw (2246, [some (.ref b), some (.ref x), some (.ref y), some (.ref o), some (.int i), l5', l6'], [], w', k', n'))) : WP (ML_law g) QLaw (1085, [some (.ref b), some (.ref x), some (.ref y), some (.ref o), some (.int i), l5, l6], [], w, k, n) := by
  repeat' first
    | with_reducible assumption
    | with_reducible refine And.intro ?_ ?_
    | with_reducible refine gi_W hL hb ?_
    | with_reducible refine LW.gx hL (fun _ => trivial)
    | cases Option.some.inj (hTpc2.symm.trans hTqc2); clear hTqc2
    | cases Option.some.inj (hTpc2.symm.trans hFqc2); clear hFqc2
    | cases Option.some.inj (hFpc2.symm.trans hTqc2); clear hTqc2
    | cases Option.some.inj (hFpc2.symm.trans hFqc2); clear hFqc2
    | with_reducible exact absurd (And.intro hSqc0 hSqc1) hXpc0
    | with_reducible exact absurd (And.intro hTqc0 hTqc1) hXpc0
    | with_reducible exact absurd (And.intro hFqc0 hFqc1) hXpc0
    | with_reducible exact absurd (And.intro hSpc0 hSpc1) hXqc0
    | with_reducible exact (nsC hSpc2 hTqc2).elim
    | with_reducible exact (nsC hSpc2 hFqc2).elim
    | with_reducible exact absurd (And.intro hTpc0 hTpc1) hXqc0
    | with_reducible exact (nsC hSqc2 hTpc2).elim
    | with_reducible exact absurd hTpc3 hFqc3
    | with_reducible exact absurd (And.intro hFpc0 hFpc1) hXqc0
    | with_reducible exact (nsC hSqc2 hFpc2).elim
    | with_reducible exact absurd hTqc3 hFpc3
    | with_reducible refine fL_outer hL (fun hXpc0 => ?_) (fun hSpc0 hSpc1 hSpc2 => ?_) (fun hTpc0 hTpc1 hTpr hTpc2 hTpc3 hTpw hTph hTpo => ?_) (fun hFpc0 hFpc1 hFpr hFpc2 hFpc3 hFpw hFph hFpo => ?_)
    | with_reducible refine fX3_outer (LW.ms hFph) hL.ok (fun hXqc0 hXqw hXqh => ?_) (fun hSqc0 hSqc1 hSqc2 hSqw hSqh => ?_) (fun hTqc0 hTqc1 hTqr hTqc2 hTqc3 hTqw hTqh => ?_) (fun hFqc0 hFqc1 hFqr hFqc2 hFqc3 hFqw hFqh => ?_)
    | with_reducible refine fX3_outer (LW.ms hL) hL.ok (fun hXqc0 hXqw hXqh => ?_) (fun hSqc0 hSqc1 hSqc2 hSqw hSqh => ?_) (fun hTqc0 hTqc1 hTqr hTqc2 hTqc3 hTqw hTqh => ?_) (fun hFqc0 hFqc1 hFqr hFqc2 hFqc3 hFqw hFqh => ?_)
    | with_reducible refine fX3_outer (LW.ms hTph) hL.ok (fun hXqc0 hXqw hXqh => ?_) (fun hSqc0 hSqc1 hSqc2 hSqw hSqh => ?_) (fun hTqc0 hTqc1 hTqr hTqc2 hTqc3 hTqw hTqh => ?_) (fun hFqc0 hFqc1 hFqr hFqc2 hFqc3 hFqw hFqh => ?_)
    | with_reducible refine LW.gz hFph (fun _ => trivial)
    | with_reducible refine gi_W hFph hb ?_
    | with_reducible refine LW.gz hL (fun _ => trivial)
    | with_reducible refine gi_W hL hb ?_
    | with_reducible refine LW.gz hTph (fun _ => trivial)
    | with_reducible refine gi_W hTph hb ?_
    | with_reducible exact next _ _ _ _ _ _ _ _ (LW.ofM hL hXqh) (by omega) (by omega)
    | with_reducible exact next _ _ _ _ _ _ _ _ (LW.ofM hL hSqh) (by omega) (by omega)
    | with_reducible exact next _ _ _ _ _ _ _ _ (LW.ofM hL hTqh) (by omega) (by omega)
    | with_reducible exact next _ _ _ _ _ _ _ _ (LW.ofM hL hFqh) (by omega) (by omega)
    | with_reducible exact next _ _ _ _ _ _ _ _ (LW.ofM hTph hXqh) (by omega) (by omega)
    | with_reducible exact next _ _ _ _ _ _ _ _ (LW.ofM hTph hSqh) (by omega) (by omega)
    | with_reducible exact next _ _ _ _ _ _ _ _ (LW.ofM hTph hTqh) (by omega) (by omega)
    | with_reducible exact next _ _ _ _ _ _ _ _ (LW.ofM hTph hFqh) (by omega) (by omega)
    | with_reducible exact next _ _ _ _ _ _ _ _ (LW.ofM hFph hXqh) (by omega) (by omega)
    | with_reducible exact next _ _ _ _ _ _ _ _ (LW.ofM hFph hSqh) (by omega) (by omega)
    | with_reducible exact next _ _ _ _ _ _ _ _ (LW.ofM hFph hTqh) (by omega) (by omega)
    | with_reducible exact next _ _ _ _ _ _ _ _ (LW.ofM hFph hFqh) (by omega) (by omega)
    | simp only [eL_law_1085, eL_law_1085N, eL_law_1086, eL_law_1086N, eL_law_1087, eL_law_1089, eL_law_1090, eL_law_1091, eL_law_1092, eL_law_1092N, eL_law_1093, eL_law_1095, eL_law_1096, eL_law_1097, eL_law_1098, eL_law_1098N, eL_law_1099RR, eL_law_1099NR, eL_law_1099RN, eL_law_1099NN, eL_law_1102, eL_law_1104, eL_law_1104N, eL_law_1105, eL_law_1105N, eL_law_1106, eL_law_1108, eL_law_1109, eL_law_1110, eL_law_1111, eL_law_1111N, eL_law_1112, eL_law_1114, eL_law_1115, eL_law_1116, eL_law_1117, eL_law_1120, eL_law_1122, ite_le, n45, n54, true_or, or_true, false_or, or_false, false_and, and_false, kx_l, kx_r, go_s, gl_s, gi_s, gb_s2, gb_s3, gq_s, wt_nil, wt_int, wt_long, wt_ref, wt_null, nl_int, nl_long, nl_ref, nl_null, nl_none, rf_n, rf_s, rf_st, tl_s, tl_n, g0, gS, ex1, nb_b, nb_0, nb_1, nf_i, nf_l, nf_ra, nf_ro, nf_na, nf_no, nf_b0, nf_z0, t45_4, t45_5, true_and, and_true, List.set_cons_zero, List.set_cons_succ, List.length_cons, List.length_nil, rd_s, upw_s, ne_eq, not_false_eq_true, Nat.zero_add, Nat.add_zero, if_true, if_false, eq_self, lgz, n12z, n2z, n3z, i00, not_true]
    | split
    | with_reducible intro _
    | omega
set_option maxHeartbeats 4000000 in
theorem cL_17 (hR : RG g) (hb : g.2 b = some (.inl (1, L, .inl xs))) (hL : LW g w x nA cA lA y nM o kn kn th s s) (v1 : vp_in (i + 1) L) (v2 : vp_in (i + 2) L) (v3 : vp_in (i + 3) L) (v4 : vp_in (i + 4) L) (v5 : vp_in (i + 5) L) (hk : k + 114 ≤ 58408) (hn : n + 2834 ≤ 1451408) (next : (∀ (l5' l6' : Option Value) (w' : Hw) (k' n' : Nat) (kn' th' : Int32) (s' : AS), LW g w' x nA cA lA y nM o kn' kn' th' s' s' → k' ≤ k + 114 → n' ≤ n + 2834 → WP (ML_law g) QLaw (2246, [some (.ref b), some (.ref x), some (.ref y), some (.ref o), some (.int i), l5', l6'], [], w', k', n'))) : WP (ML_law g) QLaw (1125, [some (.ref b), some (.ref x), some (.ref y), some (.ref o), some (.int i), l5, l6], [], w, k, n) := by
  repeat' first
    | with_reducible assumption
    | with_reducible refine And.intro ?_ ?_
    | with_reducible refine gi_W hL hb ?_
    | with_reducible refine LW.gx hL (fun _ => trivial)
    | cases Option.some.inj (hTpc2.symm.trans hTqc2); clear hTqc2
    | cases Option.some.inj (hTpc2.symm.trans hFqc2); clear hFqc2
    | cases Option.some.inj (hFpc2.symm.trans hTqc2); clear hTqc2
    | cases Option.some.inj (hFpc2.symm.trans hFqc2); clear hFqc2
    | with_reducible exact absurd (And.intro hSqc0 hSqc1) hXpc0
    | with_reducible exact absurd (And.intro hTqc0 hTqc1) hXpc0
    | with_reducible exact absurd (And.intro hFqc0 hFqc1) hXpc0
    | with_reducible exact absurd (And.intro hSpc0 hSpc1) hXqc0
    | with_reducible exact (nsC hSpc2 hTqc2).elim
    | with_reducible exact (nsC hSpc2 hFqc2).elim
    | with_reducible exact absurd (And.intro hTpc0 hTpc1) hXqc0
    | with_reducible exact (nsC hSqc2 hTpc2).elim
    | with_reducible exact absurd hTpc3 hFqc3
    | with_reducible exact absurd (And.intro hFpc0 hFpc1) hXqc0
    | with_reducible exact (nsC hSqc2 hFpc2).elim
    | with_reducible exact absurd hTqc3 hFpc3
    | with_reducible refine fL_inner hL (fun hXpc0 => ?_) (fun hSpc0 hSpc1 hSpc2 => ?_) (fun hTpc0 hTpc1 hTpr hTpc2 hTpc3 hTpw hTph hTpo => ?_) (fun hFpc0 hFpc1 hFpr hFpc2 hFpc3 hFpw hFph hFpo => ?_)
    | with_reducible refine fX3_inner (LW.ms hFph) (fun hXqc0 hXqw hXqh => ?_) (fun hSqc0 hSqc1 hSqc2 hSqw hSqh => ?_) (fun hTqc0 hTqc1 hTqr hTqc2 hTqc3 hTqw hTqh => ?_) (fun hFqc0 hFqc1 hFqr hFqc2 hFqc3 hFqw hFqh => ?_)
    | with_reducible refine fX3_inner (LW.ms hL) (fun hXqc0 hXqw hXqh => ?_) (fun hSqc0 hSqc1 hSqc2 hSqw hSqh => ?_) (fun hTqc0 hTqc1 hTqr hTqc2 hTqc3 hTqw hTqh => ?_) (fun hFqc0 hFqc1 hFqr hFqc2 hFqc3 hFqw hFqh => ?_)
    | with_reducible refine fX3_inner (LW.ms hTph) (fun hXqc0 hXqw hXqh => ?_) (fun hSqc0 hSqc1 hSqc2 hSqw hSqh => ?_) (fun hTqc0 hTqc1 hTqr hTqc2 hTqc3 hTqw hTqh => ?_) (fun hFqc0 hFqc1 hFqr hFqc2 hFqc3 hFqw hFqh => ?_)
    | with_reducible refine LW.gz hFph (fun _ => trivial)
    | with_reducible refine gi_W hFph hb ?_
    | with_reducible refine LW.gz hL (fun _ => trivial)
    | with_reducible refine gi_W hL hb ?_
    | with_reducible refine LW.gz hTph (fun _ => trivial)
    | with_reducible refine gi_W hTph hb ?_
    | with_reducible exact next _ _ _ _ _ _ _ _ (LW.ofM hL hXqh) (by omega) (by omega)
    | with_reducible exact next _ _ _ _ _ _ _ _ (LW.ofM hL hSqh) (by omega) (by omega)
    | with_reducible exact next _ _ _ _ _ _ _ _ (LW.ofM hL hTqh) (by omega) (by omega)
    | with_reducible exact next _ _ _ _ _ _ _ _ (LW.ofM hL hFqh) (by omega) (by omega)
    | with_reducible exact next _ _ _ _ _ _ _ _ (LW.ofM hTph hXqh) (by omega) (by omega)
    | with_reducible exact next _ _ _ _ _ _ _ _ (LW.ofM hTph hSqh) (by omega) (by omega)
    | with_reducible exact next _ _ _ _ _ _ _ _ (LW.ofM hTph hTqh) (by omega) (by omega)
    | with_reducible exact next _ _ _ _ _ _ _ _ (LW.ofM hTph hFqh) (by omega) (by omega)
    | with_reducible exact next _ _ _ _ _ _ _ _ (LW.ofM hFph hXqh) (by omega) (by omega)
    | with_reducible exact next _ _ _ _ _ _ _ _ (LW.ofM hFph hSqh) (by omega) (by omega)
    | with_reducible exact next _ _ _ _ _ _ _ _ (LW.ofM hFph hTqh) (by omega) (by omega)
    | with_reducible exact next _ _ _ _ _ _ _ _ (LW.ofM hFph hFqh) (by omega) (by omega)
    | simp only [eL_law_1125, eL_law_1125N, eL_law_1126, eL_law_1126N, eL_law_1127, eL_law_1129, eL_law_1130, eL_law_1131, eL_law_1132, eL_law_1132N, eL_law_1133, eL_law_1135, eL_law_1136, eL_law_1137, eL_law_1138, eL_law_1138N, eL_law_1139RR, eL_law_1139NR, eL_law_1139RN, eL_law_1139NN, eL_law_1142, eL_law_1144, eL_law_1144N, eL_law_1145, eL_law_1145N, eL_law_1146, eL_law_1148, eL_law_1149, eL_law_1150, eL_law_1151, eL_law_1151N, eL_law_1152, eL_law_1154, eL_law_1155, eL_law_1156, eL_law_1157, eL_law_1160, eL_law_1162, ite_le, n45, n54, true_or, or_true, false_or, or_false, false_and, and_false, kx_l, kx_r, go_s, gl_s, gi_s, gb_s2, gb_s3, gq_s, wt_nil, wt_int, wt_long, wt_ref, wt_null, nl_int, nl_long, nl_ref, nl_null, nl_none, rf_n, rf_s, rf_st, tl_s, tl_n, g0, gS, ex1, nb_b, nb_0, nb_1, nf_i, nf_l, nf_ra, nf_ro, nf_na, nf_no, nf_b0, nf_z0, t45_4, t45_5, true_and, and_true, List.set_cons_zero, List.set_cons_succ, List.length_cons, List.length_nil, rd_s, upw_s, ne_eq, not_false_eq_true, Nat.zero_add, Nat.add_zero, if_true, if_false, eq_self, lgz, n12z, n2z, n3z, i00, not_true]
    | split
    | with_reducible intro _
    | omega
set_option maxHeartbeats 4000000 in
theorem cL_18 (hR : RG g) (hb : g.2 b = some (.inl (1, L, .inl xs))) (hL : LW g w x nA cA lA y nM o kn kn th s s) (v1 : vp_in (i + 1) L) (v2 : vp_in (i + 2) L) (v3 : vp_in (i + 3) L) (v4 : vp_in (i + 4) L) (v5 : vp_in (i + 5) L) (hk : k + 114 ≤ 58408) (hn : n + 2834 ≤ 1451408) (next : (∀ (l5' l6' : Option Value) (w' : Hw) (k' n' : Nat) (kn' th' : Int32) (s' : AS), LW g w' x nA cA lA y nM o kn' kn' th' s' s' → k' ≤ k + 114 → n' ≤ n + 2834 → WP (ML_law g) QLaw (2246, [some (.ref b), some (.ref x), some (.ref y), some (.ref o), some (.int i), l5', l6'], [], w', k', n'))) : WP (ML_law g) QLaw (1165, [some (.ref b), some (.ref x), some (.ref y), some (.ref o), some (.int i), l5, l6], [], w, k, n) := by
  repeat' first
    | with_reducible assumption
    | with_reducible refine And.intro ?_ ?_
    | with_reducible refine gi_W hL hb ?_
    | with_reducible refine LW.gx hL (fun _ => trivial)
    | cases Option.some.inj (hTpc3.symm.trans hTqc3); clear hTqc3
    | cases Option.some.inj (hTpc4.symm.trans hTqc4); clear hTqc4
    | cases Option.some.inj (hTpc3.symm.trans hFqc3); clear hFqc3
    | cases Option.some.inj (hTpc4.symm.trans hFqc4); clear hFqc4
    | cases Option.some.inj (hFpc3.symm.trans hTqc3); clear hTqc3
    | cases Option.some.inj (hFpc4.symm.trans hTqc4); clear hTqc4
    | cases Option.some.inj (hFpc3.symm.trans hFqc3); clear hFqc3
    | cases Option.some.inj (hFpc4.symm.trans hFqc4); clear hFqc4
    | with_reducible exact absurd (And.intro hSqc0 (And.intro hSqc1 hSqc2)) hXpc0
    | with_reducible exact absurd (And.intro hTqc0 (And.intro hTqc1 hTqc2)) hXpc0
    | with_reducible exact absurd (And.intro hFqc0 (And.intro hFqc1 hFqc2)) hXpc0
    | with_reducible exact absurd (And.intro hSpc0 (And.intro hSpc1 hSpc2)) hXqc0
    | with_reducible exact (hSpc3.elim (fun e => nsC e hTqc3) (fun e => nsC e hTqc4)).elim
    | with_reducible exact (hSpc3.elim (fun e => nsC e hFqc3) (fun e => nsC e hFqc4)).elim
    | with_reducible exact absurd (And.intro hTpc0 (And.intro hTpc1 hTpc2)) hXqc0
    | with_reducible exact (hSqc3.elim (fun e => nsC e hTpc3) (fun e => nsC e hTpc4)).elim
    | with_reducible exact absurd hTpc5 hFqc5
    | with_reducible exact absurd (And.intro hFpc0 (And.intro hFpc1 hFpc2)) hXqc0
    | with_reducible exact (hSqc3.elim (fun e => nsC e hFpc3) (fun e => nsC e hFpc4)).elim
    | with_reducible exact absurd hTqc5 hFpc5
    | with_reducible refine fL_span hL (fun hXpc0 => ?_) (fun hSpc0 hSpc1 hSpc2 hSpc3 => ?_) (fun hTpc0 hTpc1 hTpc2 hTpr hTpq hTpc3 hTpc4 hTpc5 hTpw hTph hTpo => ?_) (fun hFpc0 hFpc1 hFpc2 hFpr hFpq hFpc3 hFpc4 hFpc5 hFpw hFph hFpo => ?_)
    | with_reducible refine fX3_span (LW.ms hFph) (fun hXqc0 hXqw hXqh => ?_) (fun hSqc0 hSqc1 hSqc2 hSqc3 hSqw hSqh => ?_) (fun hTqc0 hTqc1 hTqc2 hTqr hTqq hTqc3 hTqc4 hTqc5 hTqw hTqh => ?_) (fun hFqc0 hFqc1 hFqc2 hFqr hFqq hFqc3 hFqc4 hFqc5 hFqw hFqh => ?_)
    | with_reducible refine fX3_span (LW.ms hL) (fun hXqc0 hXqw hXqh => ?_) (fun hSqc0 hSqc1 hSqc2 hSqc3 hSqw hSqh => ?_) (fun hTqc0 hTqc1 hTqc2 hTqr hTqq hTqc3 hTqc4 hTqc5 hTqw hTqh => ?_) (fun hFqc0 hFqc1 hFqc2 hFqr hFqq hFqc3 hFqc4 hFqc5 hFqw hFqh => ?_)
    | with_reducible refine fX3_span (LW.ms hTph) (fun hXqc0 hXqw hXqh => ?_) (fun hSqc0 hSqc1 hSqc2 hSqc3 hSqw hSqh => ?_) (fun hTqc0 hTqc1 hTqc2 hTqr hTqq hTqc3 hTqc4 hTqc5 hTqw hTqh => ?_) (fun hFqc0 hFqc1 hFqc2 hFqr hFqq hFqc3 hFqc4 hFqc5 hFqw hFqh => ?_)
    | with_reducible refine LW.gz hFph (fun _ => trivial)
    | with_reducible refine gi_W hFph hb ?_
    | with_reducible refine LW.gz hL (fun _ => trivial)
    | with_reducible refine gi_W hL hb ?_
    | with_reducible refine LW.gz hTph (fun _ => trivial)
    | with_reducible refine gi_W hTph hb ?_
    | with_reducible exact next _ _ _ _ _ _ _ _ (LW.ofM hL hXqh) (by omega) (by omega)
    | with_reducible exact next _ _ _ _ _ _ _ _ (LW.ofM hL hSqh) (by omega) (by omega)
    | with_reducible exact next _ _ _ _ _ _ _ _ (LW.ofM hL hTqh) (by omega) (by omega)
    | with_reducible exact next _ _ _ _ _ _ _ _ (LW.ofM hL hFqh) (by omega) (by omega)
    | with_reducible exact next _ _ _ _ _ _ _ _ (LW.ofM hTph hXqh) (by omega) (by omega)
    | with_reducible exact next _ _ _ _ _ _ _ _ (LW.ofM hTph hSqh) (by omega) (by omega)
    | with_reducible exact next _ _ _ _ _ _ _ _ (LW.ofM hTph hTqh) (by omega) (by omega)
    | with_reducible exact next _ _ _ _ _ _ _ _ (LW.ofM hTph hFqh) (by omega) (by omega)
    | with_reducible exact next _ _ _ _ _ _ _ _ (LW.ofM hFph hXqh) (by omega) (by omega)
    | with_reducible exact next _ _ _ _ _ _ _ _ (LW.ofM hFph hSqh) (by omega) (by omega)
    | with_reducible exact next _ _ _ _ _ _ _ _ (LW.ofM hFph hTqh) (by omega) (by omega)
    | with_reducible exact next _ _ _ _ _ _ _ _ (LW.ofM hFph hFqh) (by omega) (by omega)
    | simp only [eL_law_1165, eL_law_1165N, eL_law_1166, eL_law_1166N, eL_law_1167, eL_law_1169, eL_law_1170, eL_law_1171, eL_law_1172, eL_law_1172N, eL_law_1173, eL_law_1175, eL_law_1176, eL_law_1177, eL_law_1178, eL_law_1178N, eL_law_1179, eL_law_1181, eL_law_1182, eL_law_1183, eL_law_1184, eL_law_1184N, eL_law_1185RR, eL_law_1185NR, eL_law_1185RN, eL_law_1185NN, eL_law_1188, eL_law_1190, eL_law_1190N, eL_law_1191, eL_law_1191N, eL_law_1192, eL_law_1194, eL_law_1195, eL_law_1196, eL_law_1197, eL_law_1197N, eL_law_1198, eL_law_1200, eL_law_1201, eL_law_1202, eL_law_1203, eL_law_1203N, eL_law_1204, eL_law_1206, eL_law_1207, eL_law_1208, eL_law_1209, eL_law_1212, eL_law_1214, ite_le, n45, n54, true_or, or_true, false_or, or_false, false_and, and_false, kx_l, kx_r, go_s, gl_s, gi_s, gb_s2, gb_s3, gq_s, wt_nil, wt_int, wt_long, wt_ref, wt_null, nl_int, nl_long, nl_ref, nl_null, nl_none, rf_n, rf_s, rf_st, tl_s, tl_n, g0, gS, ex1, nb_b, nb_0, nb_1, nf_i, nf_l, nf_ra, nf_ro, nf_na, nf_no, nf_b0, nf_z0, t45_4, t45_5, true_and, and_true, List.set_cons_zero, List.set_cons_succ, List.length_cons, List.length_nil, rd_s, upw_s, ne_eq, not_false_eq_true, Nat.zero_add, Nat.add_zero, if_true, if_false, eq_self, lgz, n12z, n2z, n3z, i00, not_true]
    | split
    | with_reducible intro _
    | omega
set_option maxHeartbeats 4000000 in
theorem cL_19 (hR : RG g) (hb : g.2 b = some (.inl (1, L, .inl xs))) (hL : LW g w x nA cA lA y nM o kn kn th s s) (v1 : vp_in (i + 1) L) (v2 : vp_in (i + 2) L) (v3 : vp_in (i + 3) L) (v4 : vp_in (i + 4) L) (v5 : vp_in (i + 5) L) (hk : k + 114 ≤ 58408) (hn : n + 2834 ≤ 1451408) (next : (∀ (l5' l6' : Option Value) (w' : Hw) (k' n' : Nat) (kn' th' : Int32) (s' : AS), LW g w' x nA cA lA y nM o kn' kn' th' s' s' → k' ≤ k + 114 → n' ≤ n + 2834 → WP (ML_law g) QLaw (2246, [some (.ref b), some (.ref x), some (.ref y), some (.ref o), some (.int i), l5', l6'], [], w', k', n'))) : WP (ML_law g) QLaw (1217, [some (.ref b), some (.ref x), some (.ref y), some (.ref o), some (.int i), l5, l6], [], w, k, n) := by
  repeat' first
    | with_reducible assumption
    | with_reducible refine And.intro ?_ ?_
    | with_reducible refine gi_W hL hb ?_
    | with_reducible refine LW.gx hL (fun _ => trivial)
    | cases Option.some.inj (hTpc1.symm.trans hTqc1); clear hTqc1
    | cases Option.some.inj (hTpc1.symm.trans hFqc1); clear hFqc1
    | cases Option.some.inj (hFpc1.symm.trans hTqc1); clear hTqc1
    | cases Option.some.inj (hFpc1.symm.trans hFqc1); clear hFqc1
    | with_reducible exact absurd hSqc0 hXpc0
    | with_reducible exact absurd hTqc0 hXpc0
    | with_reducible exact absurd hFqc0 hXpc0
    | with_reducible exact absurd hSpc0 hXqc0
    | with_reducible exact (nsC hSpc1 hTqc1).elim
    | with_reducible exact (nsC hSpc1 hFqc1).elim
    | with_reducible exact absurd hTpc0 hXqc0
    | with_reducible exact (nsC hSqc1 hTpc1).elim
    | with_reducible exact absurd hTpc2 hFqc2
    | with_reducible exact absurd hFpc0 hXqc0
    | with_reducible exact (nsC hSqc1 hFpc1).elim
    | with_reducible exact absurd hTqc2 hFpc2
    | with_reducible refine fL_shift hL (fun hXpc0 => ?_) (fun hSpc0 hSpc1 => ?_) (fun hTpc0 hTpr hTpc1 hTpc2 hTpw hTph hTpo => ?_) (fun hFpc0 hFpr hFpc1 hFpc2 hFpw hFph hFpo => ?_)
    | with_reducible refine fX3_shift (LW.ms hFph) (fun hXqc0 hXqw hXqh => ?_) (fun hSqc0 hSqc1 hSqw hSqh => ?_) (fun hTqc0 hTqr hTqc1 hTqc2 hTqw hTqh => ?_) (fun hFqc0 hFqr hFqc1 hFqc2 hFqw hFqh => ?_)
    | with_reducible refine fX3_shift (LW.ms hL) (fun hXqc0 hXqw hXqh => ?_) (fun hSqc0 hSqc1 hSqw hSqh => ?_) (fun hTqc0 hTqr hTqc1 hTqc2 hTqw hTqh => ?_) (fun hFqc0 hFqr hFqc1 hFqc2 hFqw hFqh => ?_)
    | with_reducible refine fX3_shift (LW.ms hTph) (fun hXqc0 hXqw hXqh => ?_) (fun hSqc0 hSqc1 hSqw hSqh => ?_) (fun hTqc0 hTqr hTqc1 hTqc2 hTqw hTqh => ?_) (fun hFqc0 hFqr hFqc1 hFqc2 hFqw hFqh => ?_)
    | with_reducible refine LW.gz hFph (fun _ => trivial)
    | with_reducible refine gi_W hFph hb ?_
    | with_reducible refine LW.gz hL (fun _ => trivial)
    | with_reducible refine gi_W hL hb ?_
    | with_reducible refine LW.gz hTph (fun _ => trivial)
    | with_reducible refine gi_W hTph hb ?_
    | with_reducible exact next _ _ _ _ _ _ _ _ (LW.ofM hL hXqh) (by omega) (by omega)
    | with_reducible exact next _ _ _ _ _ _ _ _ (LW.ofM hL hSqh) (by omega) (by omega)
    | with_reducible exact next _ _ _ _ _ _ _ _ (LW.ofM hL hTqh) (by omega) (by omega)
    | with_reducible exact next _ _ _ _ _ _ _ _ (LW.ofM hL hFqh) (by omega) (by omega)
    | with_reducible exact next _ _ _ _ _ _ _ _ (LW.ofM hTph hXqh) (by omega) (by omega)
    | with_reducible exact next _ _ _ _ _ _ _ _ (LW.ofM hTph hSqh) (by omega) (by omega)
    | with_reducible exact next _ _ _ _ _ _ _ _ (LW.ofM hTph hTqh) (by omega) (by omega)
    | with_reducible exact next _ _ _ _ _ _ _ _ (LW.ofM hTph hFqh) (by omega) (by omega)
    | with_reducible exact next _ _ _ _ _ _ _ _ (LW.ofM hFph hXqh) (by omega) (by omega)
    | with_reducible exact next _ _ _ _ _ _ _ _ (LW.ofM hFph hSqh) (by omega) (by omega)
    | with_reducible exact next _ _ _ _ _ _ _ _ (LW.ofM hFph hTqh) (by omega) (by omega)
    | with_reducible exact next _ _ _ _ _ _ _ _ (LW.ofM hFph hFqh) (by omega) (by omega)
    | simp only [eL_law_1217, eL_law_1217N, eL_law_1218, eL_law_1218N, eL_law_1219, eL_law_1221, eL_law_1222, eL_law_1223, eL_law_1224, eL_law_1224N, eL_law_1225, eL_law_1227, eL_law_1228, eL_law_1229, eL_law_1230, eL_law_1230N, eL_law_1231RR, eL_law_1231NR, eL_law_1231RN, eL_law_1231NN, eL_law_1234, eL_law_1236, eL_law_1236N, eL_law_1237, eL_law_1237N, eL_law_1238, eL_law_1240, eL_law_1241, eL_law_1242, eL_law_1243, eL_law_1243N, eL_law_1244, eL_law_1246, eL_law_1247, eL_law_1248, eL_law_1249, eL_law_1252, eL_law_1254, ite_le, n45, n54, true_or, or_true, false_or, or_false, false_and, and_false, kx_l, kx_r, go_s, gl_s, gi_s, gb_s2, gb_s3, gq_s, wt_nil, wt_int, wt_long, wt_ref, wt_null, nl_int, nl_long, nl_ref, nl_null, nl_none, rf_n, rf_s, rf_st, tl_s, tl_n, g0, gS, ex1, nb_b, nb_0, nb_1, nf_i, nf_l, nf_ra, nf_ro, nf_na, nf_no, nf_b0, nf_z0, t45_4, t45_5, true_and, and_true, List.set_cons_zero, List.set_cons_succ, List.length_cons, List.length_nil, rd_s, upw_s, ne_eq, not_false_eq_true, Nat.zero_add, Nat.add_zero, if_true, if_false, eq_self, lgz, n12z, n2z, n3z, i00, not_true]
    | split
    | with_reducible intro _
    | omega
set_option maxHeartbeats 4000000 in
theorem cL_20 (hR : RG g) (hb : g.2 b = some (.inl (1, L, .inl xs))) (hL : LW g w x nA cA lA y nM o kn kn th s s) (v1 : vp_in (i + 1) L) (v2 : vp_in (i + 2) L) (v3 : vp_in (i + 3) L) (v4 : vp_in (i + 4) L) (v5 : vp_in (i + 5) L) (hk : k + 114 ≤ 58408) (hn : n + 2834 ≤ 1451408) (next : (∀ (l5' l6' : Option Value) (w' : Hw) (k' n' : Nat) (kn' th' : Int32) (s' : AS), LW g w' x nA cA lA y nM o kn' kn' th' s' s' → k' ≤ k + 114 → n' ≤ n + 2834 → WP (ML_law g) QLaw (2246, [some (.ref b), some (.ref x), some (.ref y), some (.ref o), some (.int i), l5', l6'], [], w', k', n'))) : WP (ML_law g) QLaw (1257, [some (.ref b), some (.ref x), some (.ref y), some (.ref o), some (.int i), l5, l6], [], w, k, n) := by
  repeat' first
    | with_reducible assumption
    | with_reducible refine And.intro ?_ ?_
    | with_reducible refine gi_W hL hb ?_
    | with_reducible refine LW.gx hL (fun _ => trivial)
    | cases Option.some.inj (hSpc1.symm.trans hSqc1); clear hSqc1
    | with_reducible exact absurd hNqc0 hXpc0
    | with_reducible exact absurd hSqc0 hXpc0
    | with_reducible exact absurd hNpc0 hXqc0
    | with_reducible exact (nsC hNpc1 hSqc1).elim
    | with_reducible exact absurd hSpc0 hXqc0
    | with_reducible exact (nsC hNqc1 hSpc1).elim
    | with_reducible refine fL_drop hL (fun hXpc0 => ?_) (fun hNpc0 hNpc1 hNpw hNph hNpo => ?_) (fun hSpc0 hSpr hSpc1 hSpw hSph hSpo => ?_)
    | with_reducible refine fX3_drop (LW.ms hL) (fun hXqc0 hXqw hXqh => ?_) (fun hNqc0 hNqc1 hNqw hNqh => ?_) (fun hSqc0 hSqr hSqc1 hSqw hSqh => ?_)
    | with_reducible refine fX3_drop (LW.ms hNph) (fun hXqc0 hXqw hXqh => ?_) (fun hNqc0 hNqc1 hNqw hNqh => ?_) (fun hSqc0 hSqr hSqc1 hSqw hSqh => ?_)
    | with_reducible refine fX3_drop (LW.ms hSph) (fun hXqc0 hXqw hXqh => ?_) (fun hNqc0 hNqc1 hNqw hNqh => ?_) (fun hSqc0 hSqr hSqc1 hSqw hSqh => ?_)
    | with_reducible refine LW.gz hL (fun _ => trivial)
    | with_reducible refine gi_W hL hb ?_
    | with_reducible refine LW.gz hNph (fun _ => trivial)
    | with_reducible refine gi_W hNph hb ?_
    | with_reducible refine LW.gz hSph (fun _ => trivial)
    | with_reducible refine gi_W hSph hb ?_
    | with_reducible exact next _ _ _ _ _ _ _ _ (LW.ofM hL hXqh) (by omega) (by omega)
    | with_reducible exact next _ _ _ _ _ _ _ _ (LW.ofM hL hNqh) (by omega) (by omega)
    | with_reducible exact next _ _ _ _ _ _ _ _ (LW.ofM hL hSqh) (by omega) (by omega)
    | with_reducible exact next _ _ _ _ _ _ _ _ (LW.ofM hNph hXqh) (by omega) (by omega)
    | with_reducible exact next _ _ _ _ _ _ _ _ (LW.ofM hNph hNqh) (by omega) (by omega)
    | with_reducible exact next _ _ _ _ _ _ _ _ (LW.ofM hNph hSqh) (by omega) (by omega)
    | with_reducible exact next _ _ _ _ _ _ _ _ (LW.ofM hSph hXqh) (by omega) (by omega)
    | with_reducible exact next _ _ _ _ _ _ _ _ (LW.ofM hSph hNqh) (by omega) (by omega)
    | with_reducible exact next _ _ _ _ _ _ _ _ (LW.ofM hSph hSqh) (by omega) (by omega)
    | simp only [eL_law_1257, eL_law_1257N, eL_law_1258, eL_law_1258N, eL_law_1259, eL_law_1261, eL_law_1262, eL_law_1263, eL_law_1264, eL_law_1264N, eL_law_1265RR, eL_law_1265NR, eL_law_1265RN, eL_law_1265NN, eL_law_1268, eL_law_1270, eL_law_1270N, eL_law_1271, eL_law_1271N, eL_law_1272, eL_law_1274, eL_law_1275, eL_law_1276, eL_law_1277, eL_law_1280, eL_law_1282, ite_le, n45, n54, true_or, or_true, false_or, or_false, false_and, and_false, kx_l, kx_r, go_s, gl_s, gi_s, gb_s2, gb_s3, gq_s, wt_nil, wt_int, wt_long, wt_ref, wt_null, nl_int, nl_long, nl_ref, nl_null, nl_none, rf_n, rf_s, rf_st, tl_s, tl_n, g0, gS, ex1, nb_b, nb_0, nb_1, nf_i, nf_l, nf_ra, nf_ro, nf_na, nf_no, nf_b0, nf_z0, t45_4, t45_5, true_and, and_true, List.set_cons_zero, List.set_cons_succ, List.length_cons, List.length_nil, rd_s, upw_s, ne_eq, not_false_eq_true, Nat.zero_add, Nat.add_zero, if_true, if_false, eq_self, lgz, n12z, n2z, n3z, i00, not_true]
    | split
    | with_reducible intro _
    | omega
set_option maxHeartbeats 4000000 in
theorem cL_21 (hR : RG g) (hb : g.2 b = some (.inl (1, L, .inl xs))) (hL : LW g w x nA cA lA y nM o kn kn th s s) (v1 : vp_in (i + 1) L) (v2 : vp_in (i + 2) L) (v3 : vp_in (i + 3) L) (v4 : vp_in (i + 4) L) (v5 : vp_in (i + 5) L) (hk : k + 114 ≤ 58408) (hn : n + 2834 ≤ 1451408) (next : (∀ (l5' l6' : Option Value) (w' : Hw) (k' n' : Nat) (kn' th' : Int32) (s' : AS), LW g w' x nA cA lA y nM o kn' kn' th' s' s' → k' ≤ k + 114 → n' ≤ n + 2834 → WP (ML_law g) QLaw (2246, [some (.ref b), some (.ref x), some (.ref y), some (.ref o), some (.int i), l5', l6'], [], w', k', n'))) : WP (ML_law g) QLaw (1285, [some (.ref b), some (.ref x), some (.ref y), some (.ref o), some (.int i), l5, l6], [], w, k, n) := by
  repeat' first
    | with_reducible assumption
    | with_reducible refine And.intro ?_ ?_
    | with_reducible refine gi_W hL hb ?_
    | with_reducible refine LW.gx hL (fun _ => trivial)
    | cases Option.some.inj (hTpc1.symm.trans hTqc1); clear hTqc1
    | with_reducible exact absurd hFqc0 hXpc0
    | with_reducible exact absurd hTqc0 hXpc0
    | with_reducible exact absurd hFpc0 hXqc0
    | with_reducible exact (nsC hFpc1 hTqc1).elim
    | with_reducible exact absurd hTpc0 hXqc0
    | with_reducible exact (nsC hFqc1 hTpc1).elim
    | with_reducible refine fL_isThere hL (fun hXpc0 => ?_) (fun hFpc0 hFpc1 hFpw hFph hFpo => ?_) (fun hTpc0 hTpr hTpc1 hTpw hTph hTpo => ?_)
    | with_reducible refine fX3_isThere (LW.ms hFph) (fun hXqc0 hXqw hXqh => ?_) (fun hFqc0 hFqc1 hFqw hFqh => ?_) (fun hTqc0 hTqr hTqc1 hTqw hTqh => ?_)
    | with_reducible refine fX3_isThere (LW.ms hL) (fun hXqc0 hXqw hXqh => ?_) (fun hFqc0 hFqc1 hFqw hFqh => ?_) (fun hTqc0 hTqr hTqc1 hTqw hTqh => ?_)
    | with_reducible refine fX3_isThere (LW.ms hTph) (fun hXqc0 hXqw hXqh => ?_) (fun hFqc0 hFqc1 hFqw hFqh => ?_) (fun hTqc0 hTqr hTqc1 hTqw hTqh => ?_)
    | with_reducible refine LW.gz hFph (fun _ => trivial)
    | with_reducible refine gi_W hFph hb ?_
    | with_reducible refine LW.gz hL (fun _ => trivial)
    | with_reducible refine gi_W hL hb ?_
    | with_reducible refine LW.gz hTph (fun _ => trivial)
    | with_reducible refine gi_W hTph hb ?_
    | with_reducible exact next _ _ _ _ _ _ _ _ (LW.ofM hL hXqh) (by omega) (by omega)
    | with_reducible exact next _ _ _ _ _ _ _ _ (LW.ofM hL hFqh) (by omega) (by omega)
    | with_reducible exact next _ _ _ _ _ _ _ _ (LW.ofM hL hTqh) (by omega) (by omega)
    | with_reducible exact next _ _ _ _ _ _ _ _ (LW.ofM hFph hXqh) (by omega) (by omega)
    | with_reducible exact next _ _ _ _ _ _ _ _ (LW.ofM hFph hFqh) (by omega) (by omega)
    | with_reducible exact next _ _ _ _ _ _ _ _ (LW.ofM hFph hTqh) (by omega) (by omega)
    | with_reducible exact next _ _ _ _ _ _ _ _ (LW.ofM hTph hXqh) (by omega) (by omega)
    | with_reducible exact next _ _ _ _ _ _ _ _ (LW.ofM hTph hFqh) (by omega) (by omega)
    | with_reducible exact next _ _ _ _ _ _ _ _ (LW.ofM hTph hTqh) (by omega) (by omega)
    | simp only [eL_law_1285, eL_law_1285N, eL_law_1286, eL_law_1286N, eL_law_1287, eL_law_1289, eL_law_1290, eL_law_1291, eL_law_1292, eL_law_1292N, eL_law_1293RR, eL_law_1293NR, eL_law_1293RN, eL_law_1293NN, eL_law_1296, eL_law_1298, eL_law_1298N, eL_law_1299, eL_law_1299N, eL_law_1300, eL_law_1302, eL_law_1303, eL_law_1304, eL_law_1305, eL_law_1308, eL_law_1310, ite_le, n45, n54, true_or, or_true, false_or, or_false, false_and, and_false, kx_l, kx_r, go_s, gl_s, gi_s, gb_s2, gb_s3, gq_s, wt_nil, wt_int, wt_long, wt_ref, wt_null, nl_int, nl_long, nl_ref, nl_null, nl_none, rf_n, rf_s, rf_st, tl_s, tl_n, g0, gS, ex1, nb_b, nb_0, nb_1, nf_i, nf_l, nf_ra, nf_ro, nf_na, nf_no, nf_b0, nf_z0, t45_4, t45_5, true_and, and_true, List.set_cons_zero, List.set_cons_succ, List.length_cons, List.length_nil, rd_s, upw_s, ne_eq, not_false_eq_true, Nat.zero_add, Nat.add_zero, if_true, if_false, eq_self, lgz, n12z, n2z, n3z, i00, not_true]
    | split
    | with_reducible intro _
    | omega
set_option maxHeartbeats 4000000 in
theorem cL_22 (hR : RG g) (hb : g.2 b = some (.inl (1, L, .inl xs))) (hL : LW g w x nA cA lA y nM o kn kn th s s) (v1 : vp_in (i + 1) L) (v2 : vp_in (i + 2) L) (v3 : vp_in (i + 3) L) (v4 : vp_in (i + 4) L) (v5 : vp_in (i + 5) L) (hk : k + 114 ≤ 58408) (hn : n + 2834 ≤ 1451408) (next : (∀ (l5' l6' : Option Value) (w' : Hw) (k' n' : Nat) (kn' th' : Int32) (s' : AS), LW g w' x nA cA lA y nM o kn' kn' th' s' s' → k' ≤ k + 114 → n' ≤ n + 2834 → WP (ML_law g) QLaw (2246, [some (.ref b), some (.ref x), some (.ref y), some (.ref o), some (.int i), l5', l6'], [], w', k', n'))) : WP (ML_law g) QLaw (1313, [some (.ref b), some (.ref x), some (.ref y), some (.ref o), some (.int i), l5, l6], [], w, k, n) := by
  repeat' first
    | with_reducible assumption
    | with_reducible refine And.intro ?_ ?_
    | with_reducible refine gi_W hL hb ?_
    | with_reducible refine LW.gx hL (fun _ => trivial)
    | cases Option.some.inj (hTpc1.symm.trans hTqc1); clear hTqc1
    | cases Option.some.inj (hTpc1.symm.trans hFqc1); clear hFqc1
    | cases Option.some.inj (hFpc1.symm.trans hTqc1); clear hTqc1
    | cases Option.some.inj (hFpc1.symm.trans hFqc1); clear hFqc1
    | with_reducible exact absurd hSqc0 hXpc0
    | with_reducible exact absurd hTqc0 hXpc0
    | with_reducible exact absurd hFqc0 hXpc0
    | with_reducible exact absurd hSpc0 hXqc0
    | with_reducible exact (nsC hSpc1 hTqc1).elim
    | with_reducible exact (nsC hSpc1 hFqc1).elim
    | with_reducible exact absurd hTpc0 hXqc0
    | with_reducible exact (nsC hSqc1 hTpc1).elim
    | with_reducible exact absurd hTpc2 hFqc2
    | with_reducible exact absurd hFpc0 hXqc0
    | with_reducible exact (nsC hSqc1 hFpc1).elim
    | with_reducible exact absurd hTqc2 hFpc2
    | with_reducible refine fL_isFixed hL (fun hXpc0 => ?_) (fun hSpc0 hSpc1 => ?_) (fun hTpc0 hTpr hTpc1 hTpc2 hTpw hTph hTpo => ?_) (fun hFpc0 hFpr hFpc1 hFpc2 hFpw hFph hFpo => ?_)
    | with_reducible refine fX3_isFixed (LW.ms hFph) (fun hXqc0 hXqw hXqh => ?_) (fun hSqc0 hSqc1 hSqw hSqh => ?_) (fun hTqc0 hTqr hTqc1 hTqc2 hTqw hTqh => ?_) (fun hFqc0 hFqr hFqc1 hFqc2 hFqw hFqh => ?_)
    | with_reducible refine fX3_isFixed (LW.ms hL) (fun hXqc0 hXqw hXqh => ?_) (fun hSqc0 hSqc1 hSqw hSqh => ?_) (fun hTqc0 hTqr hTqc1 hTqc2 hTqw hTqh => ?_) (fun hFqc0 hFqr hFqc1 hFqc2 hFqw hFqh => ?_)
    | with_reducible refine fX3_isFixed (LW.ms hTph) (fun hXqc0 hXqw hXqh => ?_) (fun hSqc0 hSqc1 hSqw hSqh => ?_) (fun hTqc0 hTqr hTqc1 hTqc2 hTqw hTqh => ?_) (fun hFqc0 hFqr hFqc1 hFqc2 hFqw hFqh => ?_)
    | with_reducible refine LW.gz hFph (fun _ => trivial)
    | with_reducible refine gi_W hFph hb ?_
    | with_reducible refine LW.gz hL (fun _ => trivial)
    | with_reducible refine gi_W hL hb ?_
    | with_reducible refine LW.gz hTph (fun _ => trivial)
    | with_reducible refine gi_W hTph hb ?_
    | with_reducible exact next _ _ _ _ _ _ _ _ (LW.ofM hL hXqh) (by omega) (by omega)
    | with_reducible exact next _ _ _ _ _ _ _ _ (LW.ofM hL hSqh) (by omega) (by omega)
    | with_reducible exact next _ _ _ _ _ _ _ _ (LW.ofM hL hTqh) (by omega) (by omega)
    | with_reducible exact next _ _ _ _ _ _ _ _ (LW.ofM hL hFqh) (by omega) (by omega)
    | with_reducible exact next _ _ _ _ _ _ _ _ (LW.ofM hTph hXqh) (by omega) (by omega)
    | with_reducible exact next _ _ _ _ _ _ _ _ (LW.ofM hTph hSqh) (by omega) (by omega)
    | with_reducible exact next _ _ _ _ _ _ _ _ (LW.ofM hTph hTqh) (by omega) (by omega)
    | with_reducible exact next _ _ _ _ _ _ _ _ (LW.ofM hTph hFqh) (by omega) (by omega)
    | with_reducible exact next _ _ _ _ _ _ _ _ (LW.ofM hFph hXqh) (by omega) (by omega)
    | with_reducible exact next _ _ _ _ _ _ _ _ (LW.ofM hFph hSqh) (by omega) (by omega)
    | with_reducible exact next _ _ _ _ _ _ _ _ (LW.ofM hFph hTqh) (by omega) (by omega)
    | with_reducible exact next _ _ _ _ _ _ _ _ (LW.ofM hFph hFqh) (by omega) (by omega)
    | simp only [eL_law_1313, eL_law_1313N, eL_law_1314, eL_law_1314N, eL_law_1315, eL_law_1317, eL_law_1318, eL_law_1319, eL_law_1320, eL_law_1320N, eL_law_1321RR, eL_law_1321NR, eL_law_1321RN, eL_law_1321NN, eL_law_1324, eL_law_1326, eL_law_1326N, eL_law_1327, eL_law_1327N, eL_law_1328, eL_law_1330, eL_law_1331, eL_law_1332, eL_law_1333, eL_law_1336, eL_law_1338, ite_le, n45, n54, true_or, or_true, false_or, or_false, false_and, and_false, kx_l, kx_r, go_s, gl_s, gi_s, gb_s2, gb_s3, gq_s, wt_nil, wt_int, wt_long, wt_ref, wt_null, nl_int, nl_long, nl_ref, nl_null, nl_none, rf_n, rf_s, rf_st, tl_s, tl_n, g0, gS, ex1, nb_b, nb_0, nb_1, nf_i, nf_l, nf_ra, nf_ro, nf_na, nf_no, nf_b0, nf_z0, t45_4, t45_5, true_and, and_true, List.set_cons_zero, List.set_cons_succ, List.length_cons, List.length_nil, rd_s, upw_s, ne_eq, not_false_eq_true, Nat.zero_add, Nat.add_zero, if_true, if_false, eq_self, lgz, n12z, n2z, n3z, i00, not_true]
    | split
    | with_reducible intro _
    | omega
set_option maxHeartbeats 4000000 in
theorem cL_23 (hR : RG g) (hb : g.2 b = some (.inl (1, L, .inl xs))) (hL : LW g w x nA cA lA y nM o kn kn th s s) (v1 : vp_in (i + 1) L) (v2 : vp_in (i + 2) L) (v3 : vp_in (i + 3) L) (v4 : vp_in (i + 4) L) (v5 : vp_in (i + 5) L) (hk : k + 114 ≤ 58408) (hn : n + 2834 ≤ 1451408) (next : (∀ (l5' l6' : Option Value) (w' : Hw) (k' n' : Nat) (kn' th' : Int32) (s' : AS), LW g w' x nA cA lA y nM o kn' kn' th' s' s' → k' ≤ k + 114 → n' ≤ n + 2834 → WP (ML_law g) QLaw (2246, [some (.ref b), some (.ref x), some (.ref y), some (.ref o), some (.int i), l5', l6'], [], w', k', n'))) : WP (ML_law g) QLaw (1341, [some (.ref b), some (.ref x), some (.ref y), some (.ref o), some (.int i), l5, l6], [], w, k, n) := by
  repeat' first
    | with_reducible assumption
    | with_reducible refine And.intro ?_ ?_
    | with_reducible refine gi_W hL hb ?_
    | with_reducible refine LW.gx hL (fun _ => trivial)
    | cases Option.some.inj (hTpc1.symm.trans hTqc1); clear hTqc1
    | cases Option.some.inj (hTpc1.symm.trans hFqc1); clear hFqc1
    | cases Option.some.inj (hFpc1.symm.trans hTqc1); clear hTqc1
    | cases Option.some.inj (hFpc1.symm.trans hFqc1); clear hFqc1
    | with_reducible exact absurd hSqc0 hXpc0
    | with_reducible exact absurd hTqc0 hXpc0
    | with_reducible exact absurd hFqc0 hXpc0
    | with_reducible exact absurd hSpc0 hXqc0
    | with_reducible exact (nsC hSpc1 hTqc1).elim
    | with_reducible exact (nsC hSpc1 hFqc1).elim
    | with_reducible exact absurd hTpc0 hXqc0
    | with_reducible exact (nsC hSqc1 hTpc1).elim
    | with_reducible exact absurd hTpc2 hFqc2
    | with_reducible exact absurd hFpc0 hXqc0
    | with_reducible exact (nsC hSqc1 hFpc1).elim
    | with_reducible exact absurd hTqc2 hFpc2
    | with_reducible refine fL_isSmall hL (fun hXpc0 => ?_) (fun hSpc0 hSpc1 => ?_) (fun hTpc0 hTpr hTpc1 hTpc2 hTpw hTph hTpo => ?_) (fun hFpc0 hFpr hFpc1 hFpc2 hFpw hFph hFpo => ?_)
    | with_reducible refine fX3_isSmall (LW.ms hFph) (fun hXqc0 hXqw hXqh => ?_) (fun hSqc0 hSqc1 hSqw hSqh => ?_) (fun hTqc0 hTqr hTqc1 hTqc2 hTqw hTqh => ?_) (fun hFqc0 hFqr hFqc1 hFqc2 hFqw hFqh => ?_)
    | with_reducible refine fX3_isSmall (LW.ms hL) (fun hXqc0 hXqw hXqh => ?_) (fun hSqc0 hSqc1 hSqw hSqh => ?_) (fun hTqc0 hTqr hTqc1 hTqc2 hTqw hTqh => ?_) (fun hFqc0 hFqr hFqc1 hFqc2 hFqw hFqh => ?_)
    | with_reducible refine fX3_isSmall (LW.ms hTph) (fun hXqc0 hXqw hXqh => ?_) (fun hSqc0 hSqc1 hSqw hSqh => ?_) (fun hTqc0 hTqr hTqc1 hTqc2 hTqw hTqh => ?_) (fun hFqc0 hFqr hFqc1 hFqc2 hFqw hFqh => ?_)
    | with_reducible refine LW.gz hFph (fun _ => trivial)
    | with_reducible refine gi_W hFph hb ?_
    | with_reducible refine LW.gz hL (fun _ => trivial)
    | with_reducible refine gi_W hL hb ?_
    | with_reducible refine LW.gz hTph (fun _ => trivial)
    | with_reducible refine gi_W hTph hb ?_
    | with_reducible exact next _ _ _ _ _ _ _ _ (LW.ofM hL hXqh) (by omega) (by omega)
    | with_reducible exact next _ _ _ _ _ _ _ _ (LW.ofM hL hSqh) (by omega) (by omega)
    | with_reducible exact next _ _ _ _ _ _ _ _ (LW.ofM hL hTqh) (by omega) (by omega)
    | with_reducible exact next _ _ _ _ _ _ _ _ (LW.ofM hL hFqh) (by omega) (by omega)
    | with_reducible exact next _ _ _ _ _ _ _ _ (LW.ofM hTph hXqh) (by omega) (by omega)
    | with_reducible exact next _ _ _ _ _ _ _ _ (LW.ofM hTph hSqh) (by omega) (by omega)
    | with_reducible exact next _ _ _ _ _ _ _ _ (LW.ofM hTph hTqh) (by omega) (by omega)
    | with_reducible exact next _ _ _ _ _ _ _ _ (LW.ofM hTph hFqh) (by omega) (by omega)
    | with_reducible exact next _ _ _ _ _ _ _ _ (LW.ofM hFph hXqh) (by omega) (by omega)
    | with_reducible exact next _ _ _ _ _ _ _ _ (LW.ofM hFph hSqh) (by omega) (by omega)
    | with_reducible exact next _ _ _ _ _ _ _ _ (LW.ofM hFph hTqh) (by omega) (by omega)
    | with_reducible exact next _ _ _ _ _ _ _ _ (LW.ofM hFph hFqh) (by omega) (by omega)
    | simp only [eL_law_1341, eL_law_1341N, eL_law_1342, eL_law_1342N, eL_law_1343, eL_law_1345, eL_law_1346, eL_law_1347, eL_law_1348, eL_law_1348N, eL_law_1349RR, eL_law_1349NR, eL_law_1349RN, eL_law_1349NN, eL_law_1352, eL_law_1354, eL_law_1354N, eL_law_1355, eL_law_1355N, eL_law_1356, eL_law_1358, eL_law_1359, eL_law_1360, eL_law_1361, eL_law_1364, eL_law_1366, ite_le, n45, n54, true_or, or_true, false_or, or_false, false_and, and_false, kx_l, kx_r, go_s, gl_s, gi_s, gb_s2, gb_s3, gq_s, wt_nil, wt_int, wt_long, wt_ref, wt_null, nl_int, nl_long, nl_ref, nl_null, nl_none, rf_n, rf_s, rf_st, tl_s, tl_n, g0, gS, ex1, nb_b, nb_0, nb_1, nf_i, nf_l, nf_ra, nf_ro, nf_na, nf_no, nf_b0, nf_z0, t45_4, t45_5, true_and, and_true, List.set_cons_zero, List.set_cons_succ, List.length_cons, List.length_nil, rd_s, upw_s, ne_eq, not_false_eq_true, Nat.zero_add, Nat.add_zero, if_true, if_false, eq_self, lgz, n12z, n2z, n3z, i00, not_true]
    | split
    | with_reducible intro _
    | omega
end
end
