section
variable {g : RO} {Q : Ot → Hw → Prop} {w0 w : Hw}
variable {y nM : Nat} {kd : Int32}
set_option maxHeartbeats 4000000 in
theorem sX3_isNoAsked {a c : Int32} (hM : MM g w0 y nM kd w) (h1 : ∀ w', MM g w0 y nM kd w' → Q (.inl (some (.int 1))) w') (h0 : ∀ b w', MM g w0 y nM kd w' → ¬ a < 0 → ¬ 5 < a → ¬ c < 0 → ¬ 7 < c → CAt g w' y a (some b) → Q (.inl (some (.int 0))) w') : WP (MX3_isNoAsked g) Q (0, [some (.ref y), some (.int a), some (.int c)], [], w, 0, 0) := by
  repeat' first
    | with_reducible assumption
    | with_reducible refine And.intro ?_ ?_
    | with_reducible exact absurd (by assumption) n10'
    | with_reducible refine sX3_isNoNumber ?_ (fun _ _ => ?_)
    | with_reducible refine sX3_isNoEnd ?_ (fun _ _ => ?_)
    | with_reducible refine sX3_isIn (fun _ _ => ?_) ?_
    | with_reducible refine sX3_start (by first | assumption | exact MMz.m (by assumption) | exact (by assumption : ∀ f', MM g w0 y nM kd (upw _ nM (.inl (0, 8, .inr (.inl f'))))) _) (by decide) (fun _ _ _ => ?_) (fun _ _ => ?_)
    | with_reducible refine sX3_refuse (by assumption) (by decide) (fun _ => ?_) (fun _ _ => ?_)
    | with_reducible exact vpi8n (by assumption) (by assumption)
    | with_reducible refine go_M (by first | assumption | exact MMz.m (by assumption) | exact (by assumption : ∀ f', MM g w0 y nM kd (upw _ nM (.inl (0, 8, .inr (.inl f'))))) _) ?_
    | with_reducible refine gl_M (by first | assumption | exact MMz.m (by assumption) | exact (by assumption : ∀ f', MM g w0 y nM kd (upw _ nM (.inl (0, 8, .inr (.inl f'))))) _) ?_
    | with_reducible refine gl_Mw (by first | assumption | exact MMz.m (by assumption) | exact (by assumption : ∀ f', MM g w0 y nM kd (upw _ nM (.inl (0, 8, .inr (.inl f'))))) _) ?_
    | with_reducible exact hQ _ _ (by first | assumption | exact MMz.m (by assumption) | exact (by assumption : ∀ f', MM g w0 y nM kd (upw _ nM (.inl (0, 8, .inr (.inl f'))))) _)
    | with_reducible exact hQ _
    | with_reducible exact n4g
    | with_reducible exact n4a
    | with_reducible exact n4b
    | with_reducible exact n4c
    | with_reducible refine sX3_high (fun _ => ?_)
    | with_reducible refine sX3_low (fun _ => ?_)
    | with_reducible refine sX3_one (fun _ => ?_)
    | with_reducible refine sX3_become (by first | assumption | exact MMz.m (by assumption) | exact (by assumption : ∀ f', MM g w0 y nM kd (upw _ nM (.inl (0, 8, .inr (.inl f'))))) _) (by assumption) (by assumption) (fun _ _ _ => ?_)
    | with_reducible refine sX3_isNoCard ?_ (fun _ _ => ?_)
    | with_reducible refine sX3_isBareM (by first | assumption | exact MMz.m (by assumption) | exact (by assumption : ∀ f', MM g w0 y nM kd (upw _ nM (.inl (0, 8, .inr (.inl f'))))) _) (by assumption) (by assumption) ?_ (fun _ _ => ?_)
    | with_reducible exact h0 _ _ (by first | assumption | exact MMz.m (by assumption) | exact (by assumption : ∀ f', MM g w0 y nM kd (upw _ nM (.inl (0, 8, .inr (.inl f'))))) _) (by assumption) (by assumption) (by assumption) (by assumption) (by assumption)
    | with_reducible exact h1 _ (by first | assumption | exact MMz.m (by assumption) | exact (by assumption : ∀ f', MM g w0 y nM kd (upw _ nM (.inl (0, 8, .inr (.inl f'))))) _)
    | simp only [eX3_isNoAsked_0, eX3_isNoAsked_0N, eX3_isNoAsked_1, eX3_isNoAsked_2, eX3_isNoAsked_5, eX3_isNoAsked_8, eX3_isNoAsked_9, eX3_isNoAsked_12, eX3_isNoAsked_15, eX3_isNoAsked_16, eX3_isNoAsked_19, eX3_isNoAsked_20, eX3_isNoAsked_21, eX3_isNoAsked_24, eX3_isNoAsked_27, eX3_isNoAsked_27N, eX3_isNoAsked_28, eX3_isNoAsked_28N, eX3_isNoAsked_29, eX3_isNoAsked_30, eX3_isNoAsked_33, eX3_isNoAsked_34, eX3_isNoAsked_37, eX3_isNoAsked_40, eX3_isNoAsked_41, eX3_isNoAsked_44, eX3_isNoAsked_45, ite_le, n45, n54, true_or, or_true, false_or, or_false, false_and, and_false, kx_l, kx_r, go_s, gl_s, gi_s, gb_s2, gb_s3, gq_s, wt_nil, wt_int, wt_long, wt_ref, wt_null, nl_int, nl_long, nl_ref, nl_null, nl_none, rf_n, rf_s, rf_st, tl_s, tl_n, g0, gS, ex1, nb_b, nb_0, nb_1, nf_i, nf_l, nf_ra, nf_ro, nf_na, nf_no, nf_b0, nf_z0, t45_4, t45_5, true_and, and_true, List.set_cons_zero, List.set_cons_succ, List.length_cons, List.length_nil, rd_s, upw_s, ne_eq, not_false_eq_true, Nat.zero_add, Nat.add_zero, if_true, if_false, eq_self, m10]
    | split
    | with_reducible intro _
    | omega
theorem goCM {i : Int32} {v : Option Nat} {K : List Value → Prop} (h : CAt g w y i v) (hM : MM g w0 y nM kd w) (k : ∀ (cL pL D c : Nat) (th rf md : Int32) (hh : Nat → Option Nat), LL g w cL D c 6 hh → hh i.toNatClampNeg = v → K [.int th, .ref nM, .ref cL, .ref pL, .int rf, .int kd, .int md]) : go (rd g w y) 7 K := by
  obtain ⟨nM1, cL1, pL1, D, c, th1, rf1, kd1, md1, hh, a1, a2, a3, a4⟩ := h
  obtain ⟨cL, pL, D1, D2, c1, c2, th, rf, md, n, f, h1, h2, b1, -⟩ := hM.1
  rw [a1] at b1
  cases b1
  rw [rd_e a1, go_s]
  exact k _ _ D c _ _ _ hh a2 a4
set_option maxHeartbeats 4000000 in
theorem sX3_isValid {a c : Int32} (hM : MM g w0 y nM kd w) (hQ : ∀ (v : Int32) w', MM g w0 y nM kd w' → Q (.inl (some (.int v))) w') : WP (MX3_isValid g) Q (0, [some (.ref y), some (.int a), some (.int c)], [], w, 0, 0) := by
  repeat' first
    | with_reducible assumption
    | with_reducible refine And.intro ?_ ?_
    | with_reducible refine sX3_isNone (by first | assumption | exact MMz.m (by assumption) | exact (by assumption : ∀ f', MM g w0 y nM kd (upw _ nM (.inl (0, 8, .inr (.inl f'))))) _) (fun _ _ => ?_) (fun _ _ _ _ _ _ => ?_)
    | with_reducible refine sGetC (by assumption) (by assumption) (by assumption) (by assumption) ?_
    | with_reducible exact LL.gt (by assumption)
    | with_reducible exact isRow.ca (CAt.row (by assumption))
    | with_reducible refine goCM (by assumption) (by first | assumption | exact MMz.m (by assumption) | exact (by assumption : ∀ f', MM g w0 y nM kd (upw _ nM (.inl (0, 8, .inr (.inl f'))))) _) (fun _ _ _ _ _ _ _ _ _ _ => ?_)
    | with_reducible exact absurd (by assumption) n10'
    | with_reducible refine sX3_isNoNumber ?_ (fun _ _ => ?_)
    | with_reducible refine sX3_isNoEnd ?_ (fun _ _ => ?_)
    | with_reducible refine sX3_isIn (fun _ _ => ?_) ?_
    | with_reducible refine sX3_start (by first | assumption | exact MMz.m (by assumption) | exact (by assumption : ∀ f', MM g w0 y nM kd (upw _ nM (.inl (0, 8, .inr (.inl f'))))) _) (by decide) (fun _ _ _ => ?_) (fun _ _ => ?_)
    | with_reducible refine sX3_refuse (by assumption) (by decide) (fun _ => ?_) (fun _ _ => ?_)
    | with_reducible exact vpi8n (by assumption) (by assumption)
    | with_reducible refine go_M (by first | assumption | exact MMz.m (by assumption) | exact (by assumption : ∀ f', MM g w0 y nM kd (upw _ nM (.inl (0, 8, .inr (.inl f'))))) _) ?_
    | with_reducible refine gl_M (by first | assumption | exact MMz.m (by assumption) | exact (by assumption : ∀ f', MM g w0 y nM kd (upw _ nM (.inl (0, 8, .inr (.inl f'))))) _) ?_
    | with_reducible refine gl_Mw (by first | assumption | exact MMz.m (by assumption) | exact (by assumption : ∀ f', MM g w0 y nM kd (upw _ nM (.inl (0, 8, .inr (.inl f'))))) _) ?_
    | with_reducible exact hQ _ _ (by first | assumption | exact MMz.m (by assumption) | exact (by assumption : ∀ f', MM g w0 y nM kd (upw _ nM (.inl (0, 8, .inr (.inl f'))))) _)
    | with_reducible exact hQ _
    | with_reducible exact n4g
    | with_reducible exact n4a
    | with_reducible exact n4b
    | with_reducible exact n4c
    | with_reducible refine sX3_high (fun _ => ?_)
    | with_reducible refine sX3_low (fun _ => ?_)
    | with_reducible refine sX3_one (fun _ => ?_)
    | with_reducible refine sX3_become (by first | assumption | exact MMz.m (by assumption) | exact (by assumption : ∀ f', MM g w0 y nM kd (upw _ nM (.inl (0, 8, .inr (.inl f'))))) _) (by assumption) (by assumption) (fun _ _ _ => ?_)
    | with_reducible refine sX3_isNoAsked (by first | assumption | exact MMz.m (by assumption) | exact (by assumption : ∀ f', MM g w0 y nM kd (upw _ nM (.inl (0, 8, .inr (.inl f'))))) _) (fun _ _ => ?_) (fun _ _ _ _ _ _ _ _ => ?_)
    | with_reducible refine sX3_valid (CAt.row (by assumption)) ?_ ?_
    | with_reducible refine sX3_whichNow (CAt.row (by assumption)) (fun _ => ?_)
    | simp only [eX3_isValid_0, eX3_isValid_0N, eX3_isValid_1, eX3_isValid_2, eX3_isValid_3, eX3_isValid_6, eX3_isValid_9, eX3_isValid_9N, eX3_isValid_10, eX3_isValid_13, eX3_isValid_14, eX3_isValid_17N, eX3_isValid_17R, eX3_isValid_20, eX3_isValid_20N, eX3_isValid_21, eX3_isValid_24, eX3_isValid_25, eX3_isValid_26, eX3_isValid_27R, eX3_isValid_27N, eX3_isValid_30, eX3_isValid_33, eX3_isValid_34, eX3_isValid_37, eX3_isValid_38, ite_le, n45, n54, true_or, or_true, false_or, or_false, false_and, and_false, kx_l, kx_r, go_s, gl_s, gi_s, gb_s2, gb_s3, gq_s, wt_nil, wt_int, wt_long, wt_ref, wt_null, nl_int, nl_long, nl_ref, nl_null, nl_none, rf_n, rf_s, rf_st, tl_s, tl_n, g0, gS, ex1, nb_b, nb_0, nb_1, nf_i, nf_l, nf_ra, nf_ro, nf_na, nf_no, nf_b0, nf_z0, t45_4, t45_5, true_and, and_true, List.set_cons_zero, List.set_cons_succ, List.length_cons, List.length_nil, rd_s, upw_s, ne_eq, not_false_eq_true, Nat.zero_add, Nat.add_zero, if_true, if_false, eq_self]
    | split
    | with_reducible intro _
    | omega
set_option maxHeartbeats 4000000 in
theorem sX3_isValidSmall {a c : Int32} (hM : MM g w0 y nM kd w) (hQ : ∀ (v : Int32) w', MM g w0 y nM kd w' → Q (.inl (some (.int v))) w') : WP (MX3_isValidSmall g) Q (0, [some (.ref y), some (.int a), some (.int c)], [], w, 0, 0) := by
  repeat' first
    | with_reducible assumption
    | with_reducible refine And.intro ?_ ?_
    | with_reducible refine sX3_isNone (by first | assumption | exact MMz.m (by assumption) | exact (by assumption : ∀ f', MM g w0 y nM kd (upw _ nM (.inl (0, 8, .inr (.inl f'))))) _) (fun _ _ => ?_) (fun _ _ _ _ _ _ => ?_)
    | with_reducible refine sGetC (by assumption) (by assumption) (by assumption) (by assumption) ?_
    | with_reducible exact LL.gt (by assumption)
    | with_reducible exact isRow.ca (CAt.row (by assumption))
    | with_reducible refine goCM (by assumption) (by first | assumption | exact MMz.m (by assumption) | exact (by assumption : ∀ f', MM g w0 y nM kd (upw _ nM (.inl (0, 8, .inr (.inl f'))))) _) (fun _ _ _ _ _ _ _ _ _ _ => ?_)
    | with_reducible exact absurd (by assumption) n10'
    | with_reducible refine sX3_isNoNumber ?_ (fun _ _ => ?_)
    | with_reducible refine sX3_isNoEnd ?_ (fun _ _ => ?_)
    | with_reducible refine sX3_isIn (fun _ _ => ?_) ?_
    | with_reducible refine sX3_start (by first | assumption | exact MMz.m (by assumption) | exact (by assumption : ∀ f', MM g w0 y nM kd (upw _ nM (.inl (0, 8, .inr (.inl f'))))) _) (by decide) (fun _ _ _ => ?_) (fun _ _ => ?_)
    | with_reducible refine sX3_refuse (by assumption) (by decide) (fun _ => ?_) (fun _ _ => ?_)
    | with_reducible exact vpi8n (by assumption) (by assumption)
    | with_reducible refine go_M (by first | assumption | exact MMz.m (by assumption) | exact (by assumption : ∀ f', MM g w0 y nM kd (upw _ nM (.inl (0, 8, .inr (.inl f'))))) _) ?_
    | with_reducible refine gl_M (by first | assumption | exact MMz.m (by assumption) | exact (by assumption : ∀ f', MM g w0 y nM kd (upw _ nM (.inl (0, 8, .inr (.inl f'))))) _) ?_
    | with_reducible refine gl_Mw (by first | assumption | exact MMz.m (by assumption) | exact (by assumption : ∀ f', MM g w0 y nM kd (upw _ nM (.inl (0, 8, .inr (.inl f'))))) _) ?_
    | with_reducible exact hQ _ _ (by first | assumption | exact MMz.m (by assumption) | exact (by assumption : ∀ f', MM g w0 y nM kd (upw _ nM (.inl (0, 8, .inr (.inl f'))))) _)
    | with_reducible exact hQ _
    | with_reducible exact n4g
    | with_reducible exact n4a
    | with_reducible exact n4b
    | with_reducible exact n4c
    | with_reducible refine sX3_high (fun _ => ?_)
    | with_reducible refine sX3_low (fun _ => ?_)
    | with_reducible refine sX3_one (fun _ => ?_)
    | with_reducible refine sX3_become (by first | assumption | exact MMz.m (by assumption) | exact (by assumption : ∀ f', MM g w0 y nM kd (upw _ nM (.inl (0, 8, .inr (.inl f'))))) _) (by assumption) (by assumption) (fun _ _ _ => ?_)
    | with_reducible refine sX3_isNoAsked (by first | assumption | exact MMz.m (by assumption) | exact (by assumption : ∀ f', MM g w0 y nM kd (upw _ nM (.inl (0, 8, .inr (.inl f'))))) _) (fun _ _ => ?_) (fun _ _ _ _ _ _ _ _ => ?_)
    | with_reducible refine sX3_valid (CAt.row (by assumption)) ?_ ?_
    | with_reducible refine sX3_whichNow (CAt.row (by assumption)) (fun _ => ?_)
    | simp only [eX3_isValidSmall_0, eX3_isValidSmall_0N, eX3_isValidSmall_1, eX3_isValidSmall_2, eX3_isValidSmall_3, eX3_isValidSmall_6, eX3_isValidSmall_9, eX3_isValidSmall_9N, eX3_isValidSmall_10, eX3_isValidSmall_13, eX3_isValidSmall_14, eX3_isValidSmall_17N, eX3_isValidSmall_17R, eX3_isValidSmall_20, eX3_isValidSmall_20N, eX3_isValidSmall_21, eX3_isValidSmall_24, eX3_isValidSmall_25, eX3_isValidSmall_26, eX3_isValidSmall_27R, eX3_isValidSmall_27N, eX3_isValidSmall_30, eX3_isValidSmall_33, eX3_isValidSmall_34, eX3_isValidSmall_37, eX3_isValidSmall_38, ite_le, n45, n54, true_or, or_true, false_or, or_false, false_and, and_false, kx_l, kx_r, go_s, gl_s, gi_s, gb_s2, gb_s3, gq_s, wt_nil, wt_int, wt_long, wt_ref, wt_null, nl_int, nl_long, nl_ref, nl_null, nl_none, rf_n, rf_s, rf_st, tl_s, tl_n, g0, gS, ex1, nb_b, nb_0, nb_1, nf_i, nf_l, nf_ra, nf_ro, nf_na, nf_no, nf_b0, nf_z0, t45_4, t45_5, true_and, and_true, List.set_cons_zero, List.set_cons_succ, List.length_cons, List.length_nil, rd_s, upw_s, ne_eq, not_false_eq_true, Nat.zero_add, Nat.add_zero, if_true, if_false, eq_self]
    | split
    | with_reducible intro _
    | omega
set_option maxHeartbeats 4000000 in
theorem sX3_whichValid {a c : Int32} (hM : MM g w0 y nM kd w) (hQ : ∀ (v : Int32) w', MM g w0 y nM kd w' → Q (.inl (some (.int v))) w') : WP (MX3_whichValid g) Q (0, [some (.ref y), some (.int a), some (.int c)], [], w, 0, 0) := by
  repeat' first
    | with_reducible assumption
    | with_reducible refine And.intro ?_ ?_
    | with_reducible refine sX3_isNone (by first | assumption | exact MMz.m (by assumption) | exact (by assumption : ∀ f', MM g w0 y nM kd (upw _ nM (.inl (0, 8, .inr (.inl f'))))) _) (fun _ _ => ?_) (fun _ _ _ _ _ _ => ?_)
    | with_reducible refine sGetC (by assumption) (by assumption) (by assumption) (by assumption) ?_
    | with_reducible exact LL.gt (by assumption)
    | with_reducible exact isRow.ca (CAt.row (by assumption))
    | with_reducible refine goCM (by assumption) (by first | assumption | exact MMz.m (by assumption) | exact (by assumption : ∀ f', MM g w0 y nM kd (upw _ nM (.inl (0, 8, .inr (.inl f'))))) _) (fun _ _ _ _ _ _ _ _ _ _ => ?_)
    | with_reducible exact absurd (by assumption) n10'
    | with_reducible refine sX3_isNoNumber ?_ (fun _ _ => ?_)
    | with_reducible refine sX3_isNoEnd ?_ (fun _ _ => ?_)
    | with_reducible refine sX3_isIn (fun _ _ => ?_) ?_
    | with_reducible refine sX3_start (by first | assumption | exact MMz.m (by assumption) | exact (by assumption : ∀ f', MM g w0 y nM kd (upw _ nM (.inl (0, 8, .inr (.inl f'))))) _) (by decide) (fun _ _ _ => ?_) (fun _ _ => ?_)
    | with_reducible refine sX3_refuse (by assumption) (by decide) (fun _ => ?_) (fun _ _ => ?_)
    | with_reducible exact vpi8n (by assumption) (by assumption)
    | with_reducible refine go_M (by first | assumption | exact MMz.m (by assumption) | exact (by assumption : ∀ f', MM g w0 y nM kd (upw _ nM (.inl (0, 8, .inr (.inl f'))))) _) ?_
    | with_reducible refine gl_M (by first | assumption | exact MMz.m (by assumption) | exact (by assumption : ∀ f', MM g w0 y nM kd (upw _ nM (.inl (0, 8, .inr (.inl f'))))) _) ?_
    | with_reducible refine gl_Mw (by first | assumption | exact MMz.m (by assumption) | exact (by assumption : ∀ f', MM g w0 y nM kd (upw _ nM (.inl (0, 8, .inr (.inl f'))))) _) ?_
    | with_reducible exact hQ _ _ (by first | assumption | exact MMz.m (by assumption) | exact (by assumption : ∀ f', MM g w0 y nM kd (upw _ nM (.inl (0, 8, .inr (.inl f'))))) _)
    | with_reducible exact hQ _
    | with_reducible exact n4g
    | with_reducible exact n4a
    | with_reducible exact n4b
    | with_reducible exact n4c
    | with_reducible refine sX3_high (fun _ => ?_)
    | with_reducible refine sX3_low (fun _ => ?_)
    | with_reducible refine sX3_one (fun _ => ?_)
    | with_reducible refine sX3_become (by first | assumption | exact MMz.m (by assumption) | exact (by assumption : ∀ f', MM g w0 y nM kd (upw _ nM (.inl (0, 8, .inr (.inl f'))))) _) (by assumption) (by assumption) (fun _ _ _ => ?_)
    | with_reducible refine sX3_isNoAsked (by first | assumption | exact MMz.m (by assumption) | exact (by assumption : ∀ f', MM g w0 y nM kd (upw _ nM (.inl (0, 8, .inr (.inl f'))))) _) (fun _ _ => ?_) (fun _ _ _ _ _ _ _ _ => ?_)
    | with_reducible refine sX3_valid (CAt.row (by assumption)) ?_ ?_
    | with_reducible refine sX3_whichNow (CAt.row (by assumption)) (fun _ => ?_)
    | simp only [eX3_whichValid_0, eX3_whichValid_0N, eX3_whichValid_1, eX3_whichValid_2, eX3_whichValid_5, eX3_whichValid_8, eX3_whichValid_9, eX3_whichValid_12, eX3_whichValid_12N, eX3_whichValid_13, eX3_whichValid_16, eX3_whichValid_17, eX3_whichValid_20N, eX3_whichValid_20R, eX3_whichValid_23, eX3_whichValid_24R, eX3_whichValid_24N, eX3_whichValid_27, ite_le, n45, n54, true_or, or_true, false_or, or_false, false_and, and_false, kx_l, kx_r, go_s, gl_s, gi_s, gb_s2, gb_s3, gq_s, wt_nil, wt_int, wt_long, wt_ref, wt_null, nl_int, nl_long, nl_ref, nl_null, nl_none, rf_n, rf_s, rf_st, tl_s, tl_n, g0, gS, ex1, nb_b, nb_0, nb_1, nf_i, nf_l, nf_ra, nf_ro, nf_na, nf_no, nf_b0, nf_z0, t45_4, t45_5, true_and, and_true, List.set_cons_zero, List.set_cons_succ, List.length_cons, List.length_nil, rd_s, upw_s, ne_eq, not_false_eq_true, Nat.zero_add, Nat.add_zero, if_true, if_false, eq_self]
    | split
    | with_reducible intro _
    | omega
end
