/-! 63.mod3.lean.txt -/
section
section
variable {g : RO} {Q : Ot → Hw → Prop} {w0 w : Hw}
variable {y nM : Nat} {kd : Int32}
set_option maxHeartbeats 4000000 in
theorem sX3_isNoPair {a c : Int32} (hM : MM g w0 y nM kd w) (h1 : ∀ w', MM g w0 y nM kd w' → Q (.inl (some (.int 1))) w') (h0 : ∀ b w', MM g w0 y nM kd w' → ¬ a < 0 → ¬ 5 < a → ¬ c < 0 → ¬ 5 < c → CAt g w' y c (some b) → Q (.inl (some (.int 0))) w') : WP (MX3_isNoPair g) Q (0, [some (.ref y), some (.int a), some (.int c)], [], w, 0, 0) := by
  repeat' first
    | with_reducible assumption
    | with_reducible refine And.intro ?_ ?_
    | with_reducible exact h0 _ _ (by first | assumption | exact MMz.m (by assumption) | exact MM.fr (by first | assumption | exact MMz.m (by assumption)) (by assumption) | exact MM.ext' (by assumption) (by assumption) | exact (by assumption : ∀ f', MM g w0 y nM kd (upw _ nM (.inl (0, 8, .inr (.inl f'))))) _ | exact (by assumption : ∀ (th' rf' md' : Int32), MM g w0 y nM kd (upw _ y (.inr (7, [.int th', .ref nM, .ref _, .ref _, .int rf', .int kd, .int md'])))) _ _ _) (by assumption) (by assumption) (by assumption) (by assumption) (by assumption)
    | with_reducible exact h1 _ (by first | assumption | exact MMz.m (by assumption) | exact MM.fr (by first | assumption | exact MMz.m (by assumption)) (by assumption) | exact MM.ext' (by assumption) (by assumption) | exact (by assumption : ∀ f', MM g w0 y nM kd (upw _ nM (.inl (0, 8, .inr (.inl f'))))) _ | exact (by assumption : ∀ (th' rf' md' : Int32), MM g w0 y nM kd (upw _ y (.inr (7, [.int th', .ref nM, .ref _, .ref _, .int rf', .int kd, .int md'])))) _ _ _)
    | with_reducible exact absurd (by assumption) n10'
    | with_reducible refine sX3_isNoNumber ?_ (fun _ _ => ?_)
    | with_reducible refine sX3_isNoCard ?_ (fun _ _ => ?_)
    | with_reducible refine sX3_isNoEnd ?_ (fun _ _ => ?_)
    | with_reducible refine sX3_isIn (fun _ _ => ?_) ?_
    | with_reducible refine sX3_start (by first | assumption | exact MMz.m (by assumption) | exact MM.fr (by first | assumption | exact MMz.m (by assumption)) (by assumption) | exact MM.ext' (by assumption) (by assumption) | exact (by assumption : ∀ f', MM g w0 y nM kd (upw _ nM (.inl (0, 8, .inr (.inl f'))))) _ | exact (by assumption : ∀ (th' rf' md' : Int32), MM g w0 y nM kd (upw _ y (.inr (7, [.int th', .ref nM, .ref _, .ref _, .int rf', .int kd, .int md'])))) _ _ _) (by decide) (fun _ _ _ => ?_) (fun _ _ => ?_)
    | with_reducible refine sX3_refuse (by assumption) (by decide) (fun _ => ?_) (fun _ _ => ?_)
    | with_reducible refine sX3_isBareM (by first | assumption | exact MMz.m (by assumption) | exact MM.fr (by first | assumption | exact MMz.m (by assumption)) (by assumption) | exact MM.ext' (by assumption) (by assumption) | exact (by assumption : ∀ f', MM g w0 y nM kd (upw _ nM (.inl (0, 8, .inr (.inl f'))))) _ | exact (by assumption : ∀ (th' rf' md' : Int32), MM g w0 y nM kd (upw _ y (.inr (7, [.int th', .ref nM, .ref _, .ref _, .int rf', .int kd, .int md'])))) _ _ _) (by assumption) (by first | assumption | exact lt65 (by assumption)) ?_ (fun _ _ => ?_)
    | with_reducible refine sX3_isNone (by first | assumption | exact MMz.m (by assumption) | exact MM.fr (by first | assumption | exact MMz.m (by assumption)) (by assumption) | exact MM.ext' (by assumption) (by assumption) | exact (by assumption : ∀ f', MM g w0 y nM kd (upw _ nM (.inl (0, 8, .inr (.inl f'))))) _ | exact (by assumption : ∀ (th' rf' md' : Int32), MM g w0 y nM kd (upw _ y (.inr (7, [.int th', .ref nM, .ref _, .ref _, .int rf', .int kd, .int md'])))) _ _ _) (fun _ _ => ?_) (fun _ _ _ _ _ _ => ?_)
    | with_reducible exact vpi8n (by assumption) (by assumption)
    | with_reducible exact vpi4n (by assumption) (by assumption)
    | with_reducible exact vpi4.1
    | with_reducible exact vpi4.2.1
    | with_reducible exact vpi4.2.2.1
    | with_reducible exact vpi4.2.2.2
    | with_reducible refine go_Y (by first | assumption | exact MMz.m (by assumption) | exact MM.fr (by first | assumption | exact MMz.m (by assumption)) (by assumption) | exact MM.ext' (by assumption) (by assumption) | exact (by assumption : ∀ f', MM g w0 y nM kd (upw _ nM (.inl (0, 8, .inr (.inl f'))))) _ | exact (by assumption : ∀ (th' rf' md' : Int32), MM g w0 y nM kd (upw _ y (.inr (7, [.int th', .ref nM, .ref _, .ref _, .int rf', .int kd, .int md'])))) _ _ _) (fun _ _ _ _ _ _ => ?_)
    | with_reducible refine go_Yw (by first | assumption | exact MMz.m (by assumption) | exact MM.fr (by first | assumption | exact MMz.m (by assumption)) (by assumption) | exact MM.ext' (by assumption) (by assumption) | exact (by assumption : ∀ f', MM g w0 y nM kd (upw _ nM (.inl (0, 8, .inr (.inl f'))))) _ | exact (by assumption : ∀ (th' rf' md' : Int32), MM g w0 y nM kd (upw _ y (.inr (7, [.int th', .ref nM, .ref _, .ref _, .int rf', .int kd, .int md'])))) _ _ _) (fun _ _ _ _ _ _ => ?_)
    | with_reducible refine gl_M (by first | assumption | exact MMz.m (by assumption) | exact MM.fr (by first | assumption | exact MMz.m (by assumption)) (by assumption) | exact MM.ext' (by assumption) (by assumption) | exact (by assumption : ∀ f', MM g w0 y nM kd (upw _ nM (.inl (0, 8, .inr (.inl f'))))) _ | exact (by assumption : ∀ (th' rf' md' : Int32), MM g w0 y nM kd (upw _ y (.inr (7, [.int th', .ref nM, .ref _, .ref _, .int rf', .int kd, .int md'])))) _ _ _) ?_
    | with_reducible refine gl_Mw (by first | assumption | exact MMz.m (by assumption) | exact MM.fr (by first | assumption | exact MMz.m (by assumption)) (by assumption) | exact MM.ext' (by assumption) (by assumption) | exact (by assumption : ∀ f', MM g w0 y nM kd (upw _ nM (.inl (0, 8, .inr (.inl f'))))) _ | exact (by assumption : ∀ (th' rf' md' : Int32), MM g w0 y nM kd (upw _ y (.inr (7, [.int th', .ref nM, .ref _, .ref _, .int rf', .int kd, .int md'])))) _ _ _) ?_
    | with_reducible exact gtC (by first | assumption | exact MMz.m (by assumption) | exact MM.fr (by first | assumption | exact MMz.m (by assumption)) (by assumption) | exact MM.ext' (by assumption) (by assumption) | exact (by assumption : ∀ f', MM g w0 y nM kd (upw _ nM (.inl (0, 8, .inr (.inl f'))))) _ | exact (by assumption : ∀ (th' rf' md' : Int32), MM g w0 y nM kd (upw _ y (.inr (7, [.int th', .ref nM, .ref _, .ref _, .int rf', .int kd, .int md'])))) _ _ _) (by first | assumption | exact isY.s | exact isY.fr (by assumption) (by assumption))
    | with_reducible exact gtP (by first | assumption | exact MMz.m (by assumption) | exact MM.fr (by first | assumption | exact MMz.m (by assumption)) (by assumption) | exact MM.ext' (by assumption) (by assumption) | exact (by assumption : ∀ f', MM g w0 y nM kd (upw _ nM (.inl (0, 8, .inr (.inl f'))))) _ | exact (by assumption : ∀ (th' rf' md' : Int32), MM g w0 y nM kd (upw _ y (.inr (7, [.int th', .ref nM, .ref _, .ref _, .int rf', .int kd, .int md'])))) _ _ _) (by first | assumption | exact isY.s | exact isY.fr (by assumption) (by assumption))
    | with_reducible refine gl_Row (by first | assumption | exact CAt.row (by assumption) | exact isRow.ext (by assumption) (by assumption)) (fun _ => ?_)
    | with_reducible exact isRow.ca (by first | assumption | exact CAt.row (by assumption) | exact isRow.ext (by assumption) (by assumption))
    | with_reducible refine sGetY (by first | assumption | exact CAt.fr (by assumption) (by assumption)) (by first | assumption | exact isY.s | exact isY.fr (by assumption) (by assumption)) (by assumption) (by first | assumption | exact lt65 (by assumption)) ?_
    | with_reducible exact hQ _ _ (by first | assumption | exact MMz.m (by assumption) | exact MM.fr (by first | assumption | exact MMz.m (by assumption)) (by assumption) | exact MM.ext' (by assumption) (by assumption) | exact (by assumption : ∀ f', MM g w0 y nM kd (upw _ nM (.inl (0, 8, .inr (.inl f'))))) _ | exact (by assumption : ∀ (th' rf' md' : Int32), MM g w0 y nM kd (upw _ y (.inr (7, [.int th', .ref nM, .ref _, .ref _, .int rf', .int kd, .int md'])))) _ _ _)
    | with_reducible exact hQ _ (by first | assumption | exact MMz.m (by assumption) | exact MM.fr (by first | assumption | exact MMz.m (by assumption)) (by assumption) | exact MM.ext' (by assumption) (by assumption) | exact (by assumption : ∀ f', MM g w0 y nM kd (upw _ nM (.inl (0, 8, .inr (.inl f'))))) _ | exact (by assumption : ∀ (th' rf' md' : Int32), MM g w0 y nM kd (upw _ y (.inr (7, [.int th', .ref nM, .ref _, .ref _, .int rf', .int kd, .int md'])))) _ _ _)
    | with_reducible exact hQ _
    | with_reducible exact n4g
    | with_reducible exact n4a
    | with_reducible exact n4b
    | with_reducible exact n4c
    | with_reducible refine sX3_high (fun _ => ?_)
    | with_reducible refine sX3_low (fun _ => ?_)
    | with_reducible refine sX3_one (fun _ => ?_)
    | with_reducible refine sX3_become (by first | assumption | exact MMz.m (by assumption) | exact MM.fr (by first | assumption | exact MMz.m (by assumption)) (by assumption) | exact MM.ext' (by assumption) (by assumption) | exact (by assumption : ∀ f', MM g w0 y nM kd (upw _ nM (.inl (0, 8, .inr (.inl f'))))) _ | exact (by assumption : ∀ (th' rf' md' : Int32), MM g w0 y nM kd (upw _ y (.inr (7, [.int th', .ref nM, .ref _, .ref _, .int rf', .int kd, .int md'])))) _ _ _) (by assumption) (by assumption) (fun _ _ _ => ?_)
    | with_reducible refine sX3_no (by first | assumption | exact MMz.m (by assumption) | exact MM.fr (by first | assumption | exact MMz.m (by assumption)) (by assumption) | exact MM.ext' (by assumption) (by assumption) | exact (by assumption : ∀ f', MM g w0 y nM kd (upw _ nM (.inl (0, 8, .inr (.inl f'))))) _ | exact (by assumption : ∀ (th' rf' md' : Int32), MM g w0 y nM kd (upw _ y (.inr (7, [.int th', .ref nM, .ref _, .ref _, .int rf', .int kd, .int md'])))) _ _ _) (fun _ _ => ?_)
    | with_reducible refine sX3_fixed (by first | assumption | exact CAt.row (by assumption) | exact isRow.ext (by assumption) (by assumption)) ?_ ?_
    | with_reducible refine sX3_small (by first | assumption | exact CAt.row (by assumption) | exact isRow.ext (by assumption) (by assumption)) ?_ ?_
    | with_reducible refine sX3_make (by first | assumption | exact MMz.m (by assumption) | exact MM.fr (by first | assumption | exact MMz.m (by assumption)) (by assumption) | exact MM.ext' (by assumption) (by assumption) | exact (by assumption : ∀ f', MM g w0 y nM kd (upw _ nM (.inl (0, 8, .inr (.inl f'))))) _ | exact (by assumption : ∀ (th' rf' md' : Int32), MM g w0 y nM kd (upw _ y (.inr (7, [.int th', .ref nM, .ref _, .ref _, .int rf', .int kd, .int md'])))) _ _ _) (by assumption) (by assumption) (fun _ _ _ => ?_)
    | with_reducible refine sX3_valid (by first | assumption | exact CAt.row (by assumption) | exact isRow.ext (by assumption) (by assumption)) ?_ ?_
    | with_reducible refine sX3_same (by first | assumption | exact CAt.row (by assumption) | exact isRow.ext (by assumption) (by assumption)) (by first | assumption | exact CAt.row (by assumption) | exact isRow.ext (by assumption) (by assumption)) (fun _ _ => ?_)
    | with_reducible refine sX3_aroundNow (by first | assumption | exact CAt.row (by assumption) | exact isRow.ext (by assumption) (by assumption)) (by assumption) (by assumption) (fun _ => ?_)
    | with_reducible refine sX3_whoNow (by first | assumption | exact MMz.m (by assumption) | exact MM.fr (by first | assumption | exact MMz.m (by assumption)) (by assumption) | exact MM.ext' (by assumption) (by assumption) | exact (by assumption : ∀ f', MM g w0 y nM kd (upw _ nM (.inl (0, 8, .inr (.inl f'))))) _ | exact (by assumption : ∀ (th' rf' md' : Int32), MM g w0 y nM kd (upw _ y (.inr (7, [.int th', .ref nM, .ref _, .ref _, .int rf', .int kd, .int md'])))) _ _ _) (by assumption) (by assumption) (fun _ => ?_)
    | with_reducible refine sX3_whichNow_ (by first | assumption | exact MMz.m (by assumption) | exact MM.fr (by first | assumption | exact MMz.m (by assumption)) (by assumption) | exact MM.ext' (by assumption) (by assumption) | exact (by assumption : ∀ f', MM g w0 y nM kd (upw _ nM (.inl (0, 8, .inr (.inl f'))))) _ | exact (by assumption : ∀ (th' rf' md' : Int32), MM g w0 y nM kd (upw _ y (.inr (7, [.int th', .ref nM, .ref _, .ref _, .int rf', .int kd, .int md'])))) _ _ _) (fun _ => ?_)
    | with_reducible refine sX3_likesNow (by first | assumption | exact MMz.m (by assumption) | exact MM.fr (by first | assumption | exact MMz.m (by assumption)) (by assumption) | exact MM.ext' (by assumption) (by assumption) | exact (by assumption : ∀ f', MM g w0 y nM kd (upw _ nM (.inl (0, 8, .inr (.inl f'))))) _ | exact (by assumption : ∀ (th' rf' md' : Int32), MM g w0 y nM kd (upw _ y (.inr (7, [.int th', .ref nM, .ref _, .ref _, .int rf', .int kd, .int md'])))) _ _ _) (by assumption) (by assumption) (by assumption) (fun _ => ?_)
    | simp only [eX3_isNoPair_0, eX3_isNoPair_0N, eX3_isNoPair_1, eX3_isNoPair_2, eX3_isNoPair_5, eX3_isNoPair_8, eX3_isNoPair_9, eX3_isNoPair_12, eX3_isNoPair_15, eX3_isNoPair_16, eX3_isNoPair_19, eX3_isNoPair_20, eX3_isNoPair_21, eX3_isNoPair_24, eX3_isNoPair_27, eX3_isNoPair_27N, eX3_isNoPair_28, eX3_isNoPair_28N, eX3_isNoPair_29, eX3_isNoPair_30, eX3_isNoPair_33, eX3_isNoPair_34, eX3_isNoPair_37, eX3_isNoPair_40, eX3_isNoPair_41, eX3_isNoPair_44, eX3_isNoPair_45, ite_le, n45, n54, true_or, or_true, false_or, or_false, false_and, and_false, kx_l, kx_r, go_s, gl_s, gi_s, gb_s2, gb_s3, gq_s, wt_nil, wt_int, wt_long, wt_ref, wt_null, nl_int, nl_long, nl_ref, nl_null, nl_none, rf_n, rf_s, rf_st, tl_s, tl_n, g0, gS, ex1, nb_b, nb_0, nb_1, nf_i, nf_l, nf_ra, nf_ro, nf_na, nf_no, nf_b0, nf_z0, t45_4, t45_5, true_and, and_true, List.set_cons_zero, List.set_cons_succ, List.length_cons, List.length_nil, rd_s, upw_s, ne_eq, not_false_eq_true, Nat.zero_add, Nat.add_zero, if_true, if_false, eq_self, m10]
    | split
    | with_reducible intro _
    | omega
set_option maxHeartbeats 4000000 in
theorem sX3_isNoEnd_ {a c : Int32} (hM : MM g w0 y nM kd w) (h1 : ∀ w', MM g w0 y nM kd w' → Q (.inl (some (.int 1))) w') (h0 : ∀ b w', MM g w0 y nM kd w' → ¬ a < 0 → ¬ 5 < a → ¬ c < 0 → ¬ 3 < c → CAt g w' y a (some b) → Q (.inl (some (.int 0))) w') : WP (MX3_isNoEnd_ g) Q (0, [some (.ref y), some (.int a), some (.int c)], [], w, 0, 0) := by
  repeat' first
    | with_reducible assumption
    | with_reducible refine And.intro ?_ ?_
    | with_reducible exact h0 _ _ (by first | assumption | exact MMz.m (by assumption) | exact MM.fr (by first | assumption | exact MMz.m (by assumption)) (by assumption) | exact MM.ext' (by assumption) (by assumption) | exact (by assumption : ∀ f', MM g w0 y nM kd (upw _ nM (.inl (0, 8, .inr (.inl f'))))) _ | exact (by assumption : ∀ (th' rf' md' : Int32), MM g w0 y nM kd (upw _ y (.inr (7, [.int th', .ref nM, .ref _, .ref _, .int rf', .int kd, .int md'])))) _ _ _) (by assumption) (by assumption) (by assumption) (by assumption) (by assumption)
    | with_reducible exact h1 _ (by first | assumption | exact MMz.m (by assumption) | exact MM.fr (by first | assumption | exact MMz.m (by assumption)) (by assumption) | exact MM.ext' (by assumption) (by assumption) | exact (by assumption : ∀ f', MM g w0 y nM kd (upw _ nM (.inl (0, 8, .inr (.inl f'))))) _ | exact (by assumption : ∀ (th' rf' md' : Int32), MM g w0 y nM kd (upw _ y (.inr (7, [.int th', .ref nM, .ref _, .ref _, .int rf', .int kd, .int md'])))) _ _ _)
    | with_reducible exact absurd (by assumption) n10'
    | with_reducible refine sX3_isNoNumber ?_ (fun _ _ => ?_)
    | with_reducible refine sX3_isNoCard ?_ (fun _ _ => ?_)
    | with_reducible refine sX3_isNoEnd ?_ (fun _ _ => ?_)
    | with_reducible refine sX3_isIn (fun _ _ => ?_) ?_
    | with_reducible refine sX3_start (by first | assumption | exact MMz.m (by assumption) | exact MM.fr (by first | assumption | exact MMz.m (by assumption)) (by assumption) | exact MM.ext' (by assumption) (by assumption) | exact (by assumption : ∀ f', MM g w0 y nM kd (upw _ nM (.inl (0, 8, .inr (.inl f'))))) _ | exact (by assumption : ∀ (th' rf' md' : Int32), MM g w0 y nM kd (upw _ y (.inr (7, [.int th', .ref nM, .ref _, .ref _, .int rf', .int kd, .int md'])))) _ _ _) (by decide) (fun _ _ _ => ?_) (fun _ _ => ?_)
    | with_reducible refine sX3_refuse (by assumption) (by decide) (fun _ => ?_) (fun _ _ => ?_)
    | with_reducible refine sX3_isBareM (by first | assumption | exact MMz.m (by assumption) | exact MM.fr (by first | assumption | exact MMz.m (by assumption)) (by assumption) | exact MM.ext' (by assumption) (by assumption) | exact (by assumption : ∀ f', MM g w0 y nM kd (upw _ nM (.inl (0, 8, .inr (.inl f'))))) _ | exact (by assumption : ∀ (th' rf' md' : Int32), MM g w0 y nM kd (upw _ y (.inr (7, [.int th', .ref nM, .ref _, .ref _, .int rf', .int kd, .int md'])))) _ _ _) (by assumption) (by first | assumption | exact lt65 (by assumption)) ?_ (fun _ _ => ?_)
    | with_reducible refine sX3_isNone (by first | assumption | exact MMz.m (by assumption) | exact MM.fr (by first | assumption | exact MMz.m (by assumption)) (by assumption) | exact MM.ext' (by assumption) (by assumption) | exact (by assumption : ∀ f', MM g w0 y nM kd (upw _ nM (.inl (0, 8, .inr (.inl f'))))) _ | exact (by assumption : ∀ (th' rf' md' : Int32), MM g w0 y nM kd (upw _ y (.inr (7, [.int th', .ref nM, .ref _, .ref _, .int rf', .int kd, .int md'])))) _ _ _) (fun _ _ => ?_) (fun _ _ _ _ _ _ => ?_)
    | with_reducible exact vpi8n (by assumption) (by assumption)
    | with_reducible exact vpi4n (by assumption) (by assumption)
    | with_reducible exact vpi4.1
    | with_reducible exact vpi4.2.1
    | with_reducible exact vpi4.2.2.1
    | with_reducible exact vpi4.2.2.2
    | with_reducible refine go_Y (by first | assumption | exact MMz.m (by assumption) | exact MM.fr (by first | assumption | exact MMz.m (by assumption)) (by assumption) | exact MM.ext' (by assumption) (by assumption) | exact (by assumption : ∀ f', MM g w0 y nM kd (upw _ nM (.inl (0, 8, .inr (.inl f'))))) _ | exact (by assumption : ∀ (th' rf' md' : Int32), MM g w0 y nM kd (upw _ y (.inr (7, [.int th', .ref nM, .ref _, .ref _, .int rf', .int kd, .int md'])))) _ _ _) (fun _ _ _ _ _ _ => ?_)
    | with_reducible refine go_Yw (by first | assumption | exact MMz.m (by assumption) | exact MM.fr (by first | assumption | exact MMz.m (by assumption)) (by assumption) | exact MM.ext' (by assumption) (by assumption) | exact (by assumption : ∀ f', MM g w0 y nM kd (upw _ nM (.inl (0, 8, .inr (.inl f'))))) _ | exact (by assumption : ∀ (th' rf' md' : Int32), MM g w0 y nM kd (upw _ y (.inr (7, [.int th', .ref nM, .ref _, .ref _, .int rf', .int kd, .int md'])))) _ _ _) (fun _ _ _ _ _ _ => ?_)
    | with_reducible refine gl_M (by first | assumption | exact MMz.m (by assumption) | exact MM.fr (by first | assumption | exact MMz.m (by assumption)) (by assumption) | exact MM.ext' (by assumption) (by assumption) | exact (by assumption : ∀ f', MM g w0 y nM kd (upw _ nM (.inl (0, 8, .inr (.inl f'))))) _ | exact (by assumption : ∀ (th' rf' md' : Int32), MM g w0 y nM kd (upw _ y (.inr (7, [.int th', .ref nM, .ref _, .ref _, .int rf', .int kd, .int md'])))) _ _ _) ?_
    | with_reducible refine gl_Mw (by first | assumption | exact MMz.m (by assumption) | exact MM.fr (by first | assumption | exact MMz.m (by assumption)) (by assumption) | exact MM.ext' (by assumption) (by assumption) | exact (by assumption : ∀ f', MM g w0 y nM kd (upw _ nM (.inl (0, 8, .inr (.inl f'))))) _ | exact (by assumption : ∀ (th' rf' md' : Int32), MM g w0 y nM kd (upw _ y (.inr (7, [.int th', .ref nM, .ref _, .ref _, .int rf', .int kd, .int md'])))) _ _ _) ?_
    | with_reducible exact gtC (by first | assumption | exact MMz.m (by assumption) | exact MM.fr (by first | assumption | exact MMz.m (by assumption)) (by assumption) | exact MM.ext' (by assumption) (by assumption) | exact (by assumption : ∀ f', MM g w0 y nM kd (upw _ nM (.inl (0, 8, .inr (.inl f'))))) _ | exact (by assumption : ∀ (th' rf' md' : Int32), MM g w0 y nM kd (upw _ y (.inr (7, [.int th', .ref nM, .ref _, .ref _, .int rf', .int kd, .int md'])))) _ _ _) (by first | assumption | exact isY.s | exact isY.fr (by assumption) (by assumption))
    | with_reducible exact gtP (by first | assumption | exact MMz.m (by assumption) | exact MM.fr (by first | assumption | exact MMz.m (by assumption)) (by assumption) | exact MM.ext' (by assumption) (by assumption) | exact (by assumption : ∀ f', MM g w0 y nM kd (upw _ nM (.inl (0, 8, .inr (.inl f'))))) _ | exact (by assumption : ∀ (th' rf' md' : Int32), MM g w0 y nM kd (upw _ y (.inr (7, [.int th', .ref nM, .ref _, .ref _, .int rf', .int kd, .int md'])))) _ _ _) (by first | assumption | exact isY.s | exact isY.fr (by assumption) (by assumption))
    | with_reducible refine gl_Row (by first | assumption | exact CAt.row (by assumption) | exact isRow.ext (by assumption) (by assumption)) (fun _ => ?_)
    | with_reducible exact isRow.ca (by first | assumption | exact CAt.row (by assumption) | exact isRow.ext (by assumption) (by assumption))
    | with_reducible refine sGetY (by first | assumption | exact CAt.fr (by assumption) (by assumption)) (by first | assumption | exact isY.s | exact isY.fr (by assumption) (by assumption)) (by assumption) (by first | assumption | exact lt65 (by assumption)) ?_
    | with_reducible exact hQ _ _ (by first | assumption | exact MMz.m (by assumption) | exact MM.fr (by first | assumption | exact MMz.m (by assumption)) (by assumption) | exact MM.ext' (by assumption) (by assumption) | exact (by assumption : ∀ f', MM g w0 y nM kd (upw _ nM (.inl (0, 8, .inr (.inl f'))))) _ | exact (by assumption : ∀ (th' rf' md' : Int32), MM g w0 y nM kd (upw _ y (.inr (7, [.int th', .ref nM, .ref _, .ref _, .int rf', .int kd, .int md'])))) _ _ _)
    | with_reducible exact hQ _ (by first | assumption | exact MMz.m (by assumption) | exact MM.fr (by first | assumption | exact MMz.m (by assumption)) (by assumption) | exact MM.ext' (by assumption) (by assumption) | exact (by assumption : ∀ f', MM g w0 y nM kd (upw _ nM (.inl (0, 8, .inr (.inl f'))))) _ | exact (by assumption : ∀ (th' rf' md' : Int32), MM g w0 y nM kd (upw _ y (.inr (7, [.int th', .ref nM, .ref _, .ref _, .int rf', .int kd, .int md'])))) _ _ _)
    | with_reducible exact hQ _
    | with_reducible exact n4g
    | with_reducible exact n4a
    | with_reducible exact n4b
    | with_reducible exact n4c
    | with_reducible refine sX3_high (fun _ => ?_)
    | with_reducible refine sX3_low (fun _ => ?_)
    | with_reducible refine sX3_one (fun _ => ?_)
    | with_reducible refine sX3_become (by first | assumption | exact MMz.m (by assumption) | exact MM.fr (by first | assumption | exact MMz.m (by assumption)) (by assumption) | exact MM.ext' (by assumption) (by assumption) | exact (by assumption : ∀ f', MM g w0 y nM kd (upw _ nM (.inl (0, 8, .inr (.inl f'))))) _ | exact (by assumption : ∀ (th' rf' md' : Int32), MM g w0 y nM kd (upw _ y (.inr (7, [.int th', .ref nM, .ref _, .ref _, .int rf', .int kd, .int md'])))) _ _ _) (by assumption) (by assumption) (fun _ _ _ => ?_)
    | with_reducible refine sX3_no (by first | assumption | exact MMz.m (by assumption) | exact MM.fr (by first | assumption | exact MMz.m (by assumption)) (by assumption) | exact MM.ext' (by assumption) (by assumption) | exact (by assumption : ∀ f', MM g w0 y nM kd (upw _ nM (.inl (0, 8, .inr (.inl f'))))) _ | exact (by assumption : ∀ (th' rf' md' : Int32), MM g w0 y nM kd (upw _ y (.inr (7, [.int th', .ref nM, .ref _, .ref _, .int rf', .int kd, .int md'])))) _ _ _) (fun _ _ => ?_)
    | with_reducible refine sX3_fixed (by first | assumption | exact CAt.row (by assumption) | exact isRow.ext (by assumption) (by assumption)) ?_ ?_
    | with_reducible refine sX3_small (by first | assumption | exact CAt.row (by assumption) | exact isRow.ext (by assumption) (by assumption)) ?_ ?_
    | with_reducible refine sX3_make (by first | assumption | exact MMz.m (by assumption) | exact MM.fr (by first | assumption | exact MMz.m (by assumption)) (by assumption) | exact MM.ext' (by assumption) (by assumption) | exact (by assumption : ∀ f', MM g w0 y nM kd (upw _ nM (.inl (0, 8, .inr (.inl f'))))) _ | exact (by assumption : ∀ (th' rf' md' : Int32), MM g w0 y nM kd (upw _ y (.inr (7, [.int th', .ref nM, .ref _, .ref _, .int rf', .int kd, .int md'])))) _ _ _) (by assumption) (by assumption) (fun _ _ _ => ?_)
    | with_reducible refine sX3_valid (by first | assumption | exact CAt.row (by assumption) | exact isRow.ext (by assumption) (by assumption)) ?_ ?_
    | with_reducible refine sX3_same (by first | assumption | exact CAt.row (by assumption) | exact isRow.ext (by assumption) (by assumption)) (by first | assumption | exact CAt.row (by assumption) | exact isRow.ext (by assumption) (by assumption)) (fun _ _ => ?_)
    | with_reducible refine sX3_aroundNow (by first | assumption | exact CAt.row (by assumption) | exact isRow.ext (by assumption) (by assumption)) (by assumption) (by assumption) (fun _ => ?_)
    | with_reducible refine sX3_whoNow (by first | assumption | exact MMz.m (by assumption) | exact MM.fr (by first | assumption | exact MMz.m (by assumption)) (by assumption) | exact MM.ext' (by assumption) (by assumption) | exact (by assumption : ∀ f', MM g w0 y nM kd (upw _ nM (.inl (0, 8, .inr (.inl f'))))) _ | exact (by assumption : ∀ (th' rf' md' : Int32), MM g w0 y nM kd (upw _ y (.inr (7, [.int th', .ref nM, .ref _, .ref _, .int rf', .int kd, .int md'])))) _ _ _) (by assumption) (by assumption) (fun _ => ?_)
    | with_reducible refine sX3_whichNow_ (by first | assumption | exact MMz.m (by assumption) | exact MM.fr (by first | assumption | exact MMz.m (by assumption)) (by assumption) | exact MM.ext' (by assumption) (by assumption) | exact (by assumption : ∀ f', MM g w0 y nM kd (upw _ nM (.inl (0, 8, .inr (.inl f'))))) _ | exact (by assumption : ∀ (th' rf' md' : Int32), MM g w0 y nM kd (upw _ y (.inr (7, [.int th', .ref nM, .ref _, .ref _, .int rf', .int kd, .int md'])))) _ _ _) (fun _ => ?_)
    | with_reducible refine sX3_likesNow (by first | assumption | exact MMz.m (by assumption) | exact MM.fr (by first | assumption | exact MMz.m (by assumption)) (by assumption) | exact MM.ext' (by assumption) (by assumption) | exact (by assumption : ∀ f', MM g w0 y nM kd (upw _ nM (.inl (0, 8, .inr (.inl f'))))) _ | exact (by assumption : ∀ (th' rf' md' : Int32), MM g w0 y nM kd (upw _ y (.inr (7, [.int th', .ref nM, .ref _, .ref _, .int rf', .int kd, .int md'])))) _ _ _) (by assumption) (by assumption) (by assumption) (fun _ => ?_)
    | simp only [eX3_isNoEnd__0, eX3_isNoEnd__0N, eX3_isNoEnd__1, eX3_isNoEnd__2, eX3_isNoEnd__5, eX3_isNoEnd__6, eX3_isNoEnd__9, eX3_isNoEnd__12, eX3_isNoEnd__12N, eX3_isNoEnd__13, eX3_isNoEnd__14, eX3_isNoEnd__17, eX3_isNoEnd__18, eX3_isNoEnd__21, eX3_isNoEnd__24, eX3_isNoEnd__24N, eX3_isNoEnd__25, eX3_isNoEnd__25N, eX3_isNoEnd__26, eX3_isNoEnd__27, eX3_isNoEnd__30, eX3_isNoEnd__31, eX3_isNoEnd__34, eX3_isNoEnd__37, eX3_isNoEnd__38, eX3_isNoEnd__41, eX3_isNoEnd__42, ite_le, n45, n54, true_or, or_true, false_or, or_false, false_and, and_false, kx_l, kx_r, go_s, gl_s, gi_s, gb_s2, gb_s3, gq_s, wt_nil, wt_int, wt_long, wt_ref, wt_null, nl_int, nl_long, nl_ref, nl_null, nl_none, rf_n, rf_s, rf_st, tl_s, tl_n, g0, gS, ex1, nb_b, nb_0, nb_1, nf_i, nf_l, nf_ra, nf_ro, nf_na, nf_no, nf_b0, nf_z0, t45_4, t45_5, true_and, and_true, List.set_cons_zero, List.set_cons_succ, List.length_cons, List.length_nil, rd_s, upw_s, ne_eq, not_false_eq_true, Nat.zero_add, Nat.add_zero, if_true, if_false, eq_self, m10]
    | split
    | with_reducible intro _
    | omega
theorem MM.st (h : MM g w0 y nM kd w) : MM g w y nM kd w := ⟨h.1, FM.rf⟩
theorem MM.cat {kd' : Int32} {w' : Hw} (h : MM g w0 y nM kd w) (k : MM g w y nM kd' w') : MM g w0 y nM kd' w' := ⟨k.1, h.2.tr k.2⟩
theorem MM.row {kd' : Int32} {w' : Hw} {b : Nat} (h : MM g w0 y nM kd w) (k : MM g w y nM kd' w') (hb : isRow w b) : isRow w' b := by
  obtain ⟨cL, pL, D1, D2, c1, c2, th, rf, md, n, f, h1, h2, a1, a2, -⟩ := h.1
  obtain ⟨f0, hb⟩ := hb
  exact ⟨f0, k.2.1 _ _ hb (ne_of hb a2 (fun e => by cases e)) rfl⟩
end
end
/-! 64.pil0.lean.txt -/
section
section
variable {g : RO} {Q : Ot → Hw → Prop} {w0 w : Hw}
variable {y nM : Nat} {kd : Int32}
/-- the pile's size is n -/
def PN (g : RO) (w : Hw) (y : Nat) (n : Int32) : Prop := ∃ (nM cL pL D c : Nat) (h : Nat → Option Nat), isY w y nM cL pL ∧ LL g w pL D c n h ∧ (∀ i b, h i = some b → isRow w b) ∧ n.toInt ≤ 12 ∧ ∀ i : Nat, (i : Int) < n.toInt → ∃ b, h i = some b
theorem PN.ofM (h : MM g w0 y nM kd w) : ∃ n, PN g w y n := by
  obtain ⟨cL, pL, D1, D2, c1, c2, th, rf, md, n, f, h1, h2, a1, a2, a3, a4, a5, a6, a7, a8, a9, b1⟩ := h.1
  exact ⟨n, nM, cL, pL, D2, c2, h2, ⟨_, _, _, _, a1⟩, a5, a6, a7, b1⟩
theorem PN.bd {n : Int32} (h : PN g w y n) : 0 ≤ n.toInt ∧ n.toInt ≤ 12 := by
  obtain ⟨nM, cL, pL, D, c, h, h1, h2, h3, h4, h5⟩ := h
  exact ⟨h2.2.2.1, h4⟩
theorem PN.m {n : Int32} (h : PN g w y n) : (n : Int32).toInt - (0 : Int32).toInt ≤ ((70 : Nat) : Int) := by
  have k := h.bd
  have e : (0 : Int32).toInt = 0 := rfl
  omega
theorem PN.set {n : Int32} {nM' cL pL : Nat} {th rf md kd0 th' rf' md' kd' : Int32} (h : PN g w y n) (hy : w y = some (.inr (7, [.int th, .ref nM', .ref cL, .ref pL, .int rf, .int kd0, .int md]))) : PN g (upw w y (.inr (7, [.int th', .ref nM', .ref cL, .ref pL, .int rf', .int kd', .int md']))) y n := by
  obtain ⟨nM1, cL1, pL1, D, c, hh, h1, h2, h3, h4, h5⟩ := h
  obtain ⟨e0, e1, e2⟩ := h1.un ⟨_, _, _, _, hy⟩
  subst e0 e1 e2
  exact ⟨_, _, _, D, c, hh, ⟨_, _, _, _, upw_s _ _ _⟩, h2.up hy (fun _ e => by cases e) (fun _ e => by cases e), fun i b z => isRow_up (h3 i b z) hy (fun _ e => by cases e), h4, h5⟩
theorem PN.ext {n : Int32} {w' : Hw} (h : PN g w y n) (k : ext g w w') : PN g w' y n := by
  obtain ⟨nM1, cL1, pL1, D, c, hh, h1, h2, h3, h4, h5⟩ := h
  exact ⟨_, _, _, D, c, hh, h1.ext k, h2.kp (fun fs e => k.1 _ _ e) (fun z e => k.1 _ _ e) (fun o e1 e2 => k.2 _ o e1 e2), fun i b z => (h3 i b z).ext k, h4, h5⟩
theorem sSizeY {n : Int32} {nM' cL pL : Nat} (hP : PN g w y n) (hY : isY w y nM' cL pL) (hQ : Q (.inl (some (.int n))) w) : WP (MJx4a65c_size_8abf5 g) Q (0, [some (.ref pL)], [], w, 0, 0) := by
  obtain ⟨nM1, cL1, pL1, D, c, hh, h1, h2, h3, h4, h5⟩ := hP
  obtain ⟨-, -, e2⟩ := h1.un hY
  subst e2
  exact sJx4a65c_size h2 hQ
theorem sSizeM {cL pL : Nat} (hM : MM g w0 y nM kd w) (hY : isY w y nM cL pL) (hQ : ∀ n, PN g w y n → Q (.inl (some (.int n))) w) : WP (MJx4a65c_size_8abf5 g) Q (0, [some (.ref pL)], [], w, 0, 0) := by
  obtain ⟨n, hP⟩ := PN.ofM hM
  exact sSizeY hP hY (hQ _ hP)
theorem sGetP {n i : Int32} {nM' cL pL : Nat} (hP : PN g w y n) (hY : isY w y nM' cL pL) (k0 : ¬ i < 0) (k1 : i < n) (hQ : ∀ b, isRow w b → Q (.inl (some (.ref b))) w) : WP (MJx4a65c_get_915e3 g) Q (0, [some (.ref pL), some (.int i)], [], w, 0, 0) := by
  obtain ⟨nM1, cL1, pL1, D, c, hh, h1, h2, h3, h4, h5⟩ := hP
  obtain ⟨-, -, e2⟩ := h1.un hY
  subst e2
  have q0 := i32_0 k0
  have q1 := i32_lt k1
  refine sJx4a65c_get h2 q0 q1 (fun e => ?_) (fun b e => hQ b (h3 _ _ e))
  obtain ⟨b, hb⟩ := h5 i.toNatClampNeg (by
    have t : i.toNatClampNeg = i.toInt.toNat := rfl
    omega)
  rw [hb] at e
  cases e
theorem MM.eg (h : MM g w0 y nM kd w) (hE : EG g w0) : EG g w := ⟨hE.1.imp fun e z => ⟨z.1, z.2.1, h.2.2 e _ z.2.1 z.2.2⟩, hE.2⟩
/-- the pile's list another: one row more or less -/
theorem MM.lpo {cL pL D1 D2 c1 c2 : Nat} {th rf md n n' : Int32} {f : Nat → Int64} {h1 h2 : Nat → Option Nat} {w' : Hw} {H : (Nat → Option Nat) → Prop} (h : MM g w0 y nM kd w) (a1 : w y = some (.inr (7, [.int th, .ref nM, .ref cL, .ref pL, .int rf, .int kd, .int md]))) (a2 : w nM = some (.inl (0, 8, .inr (.inl f)))) (a3 : LL g w cL D1 c1 6 h1) (a4 : ∀ i b, h1 i = some b → isRow w b) (a5 : LL g w pL D2 c2 n h2) (a8 : cL ≠ pL) (a9 : D1 ≠ D2) (hD : w D1 = some (.inl (5, c1, qc h1))) (hl : LPo g w w' pL D2 n' H) (hn : n'.toInt ≤ 12) (hH : ∀ h', H h' → ∀ i : Nat, (i : Int) < n'.toInt → ∃ b, h' i = some b) : MM g w0 y nM kd w' := by
  obtain ⟨D', c', h', l1, l2, f1, f2, fD, hh⟩ := hl
  have hL := a5.1
  obtain ⟨mcp, hL⟩ := hL
  have nD : ∀ {a : Nat} {o : Ob}, w a = some o → (∀ z, o ≠ .inl (5, z)) → a ≠ D2 := fun ha ho e => by
    rcases a5.2.1 with ⟨k, -⟩ | ⟨-, -, k, -⟩
    · rw [e, k] at ha
      cases ha
      exact ho _ rfl
    · rw [e, k] at ha
      cases ha
  have mv : ∀ {a : Nat} {o : Ob}, w a = some o → (∀ z, o ≠ .inl (5, z)) → (∀ fs, o ≠ .inr (3, fs)) → w' a = some o := fun ha h5 h3 => f1 _ _ ha (ne_of ha hL (h3 _)) (nD ha h5)
  have rw1 : ∀ b, isRow w b → isRow w' b := fun b ⟨f0, hb⟩ => ⟨f0, mv hb (fun _ e => by cases e) (fun _ e => by cases e)⟩
  refine ⟨⟨cL, pL, D1, D', c1, c', th, rf, md, n', f, h1, h', mv a1 (fun _ e => by cases e) (fun _ e => by cases e), mv a2 (fun _ e => by cases e) (fun _ e => by cases e), ?_, fun i b z => rw1 b (a4 i b z), l1, l2, hn, a8, ?_, hH h' hh⟩, h.2.tr ⟨fun a o e1 e2 e3 => ?_, f2⟩⟩
  · refine a3.kp (fun fs e => f1 _ _ e a8 (nD e (fun _ e => by cases e))) (fun z e => f1 _ _ e (ne_of e hL (fun e => by cases e)) a9) (fun o e1 e2 => f2 _ _ e1 e2)
  · rcases fD with rfl | ⟨fD, -⟩
    · exact a9
    · intro e
      rw [e, fD] at hD
      cases hD
  · refine mv e1 (fun z e => ?_) (fun fs e => ?_)
    · subst e
      cases e3
    · subst e
      cases e3
end
end
/-! 64.pil1.lean.txt -/
section
section
variable {g : RO} {Q : Ot → Hw → Prop} {w0 w : Hw}
variable {y nM : Nat} {kd : Int32}
theorem pz_lt {a n : Int32} (h0 : 0 ≤ n.toInt ∧ n.toInt ≤ 12) (h : ¬ n - 1 < a) : a < n := by
  have z1' : (1 : Int32).toInt = 1 := rfl
  have e1 : (n - 1).toInt = n.toInt - 1 := by rw [i32_sub (by omega) (by omega), z1']
  have q := i32_nlt h
  exact i32_of_lt (by omega)
set_option maxHeartbeats 4000000 in
theorem lX3_seekNow_5 {a c n : Int32} {b : Nat} (hM : MM g w0 y nM kd w) (hC : CAt g w y a (some b)) (k0 : ¬ a < 0) (k1 : ¬ 5 < a) (hP : PN g w y n) (hQ : ∀ v : Int32, (v = -1 ∨ (¬ v < 0 ∧ v < n)) → Q (.inl (some (.int v))) w) : ∀ (d : Nat) (i3 : Int32) (i4 : Int32) (k m : Nat), ¬ i4 < 0 → (i3 = -1 ∨ (¬ i3 < 0 ∧ i3 < n)) → (n : Int32).toInt - i4.toInt ≤ (d : Int) → k ≤ 0 → m ≤ 0 → WP (MX3_seekNow g) Q (5, [some (.ref y), some (.int a), some (.int c), some (.int i3), some (.int i4)], [], w, k, m) := by
  intro d
  induction d with
  | zero =>
    intro i3 i4 k m z0 zi hm hk hs
    rw [eX3_seekNow_5]
    repeat' first
      | with_reducible assumption
      | with_reducible refine And.intro ?_ ?_
      | with_reducible exact (ic_z (by assumption) (by assumption)).elim
      | with_reducible refine sSizeY (by assumption) (by first | assumption | exact isY.s | exact isY.fr (by assumption) (by assumption)) ?_
      | with_reducible refine sGetP (by assumption) (by first | assumption | exact isY.s | exact isY.fr (by assumption) (by assumption)) (by assumption) (by assumption) (fun _ _ => ?_)
      | with_reducible exact hQ _ (by assumption)
      | with_reducible exact absurd (by assumption) n10'
      | with_reducible refine sX3_isNoNumber ?_ (fun _ _ => ?_)
      | with_reducible refine sX3_isNoCard ?_ (fun _ _ => ?_)
      | with_reducible refine sX3_isNoEnd ?_ (fun _ _ => ?_)
      | with_reducible refine sX3_isIn (fun _ _ => ?_) ?_
      | with_reducible refine sX3_start (by first | assumption | exact MMz.m (by assumption) | exact MM.fr (by first | assumption | exact MMz.m (by assumption)) (by assumption) | exact MM.ext' (by assumption) (by assumption) | exact (by assumption : ∀ f', MM g w0 y nM kd (upw _ nM (.inl (0, 8, .inr (.inl f'))))) _ | exact (by assumption : ∀ (th' rf' md' : Int32), MM g w0 y nM kd (upw _ y (.inr (7, [.int th', .ref nM, .ref _, .ref _, .int rf', .int kd, .int md'])))) _ _ _) (by decide) (fun _ _ _ => ?_) (fun _ _ => ?_)
      | with_reducible refine sX3_refuse (by assumption) (by decide) (fun _ => ?_) (fun _ _ => ?_)
      | with_reducible refine sX3_isBareM (by first | assumption | exact MMz.m (by assumption) | exact MM.fr (by first | assumption | exact MMz.m (by assumption)) (by assumption) | exact MM.ext' (by assumption) (by assumption) | exact (by assumption : ∀ f', MM g w0 y nM kd (upw _ nM (.inl (0, 8, .inr (.inl f'))))) _ | exact (by assumption : ∀ (th' rf' md' : Int32), MM g w0 y nM kd (upw _ y (.inr (7, [.int th', .ref nM, .ref _, .ref _, .int rf', .int kd, .int md'])))) _ _ _) (by assumption) (by first | assumption | exact lt65 (by assumption)) ?_ (fun _ _ => ?_)
      | with_reducible refine sX3_isNone (by first | assumption | exact MMz.m (by assumption) | exact MM.fr (by first | assumption | exact MMz.m (by assumption)) (by assumption) | exact MM.ext' (by assumption) (by assumption) | exact (by assumption : ∀ f', MM g w0 y nM kd (upw _ nM (.inl (0, 8, .inr (.inl f'))))) _ | exact (by assumption : ∀ (th' rf' md' : Int32), MM g w0 y nM kd (upw _ y (.inr (7, [.int th', .ref nM, .ref _, .ref _, .int rf', .int kd, .int md'])))) _ _ _) (fun _ _ => ?_) (fun _ _ _ _ _ _ => ?_)
      | with_reducible exact vpi8n (by assumption) (by assumption)
      | with_reducible exact vpi4n (by assumption) (by assumption)
      | with_reducible exact vpi4.1
      | with_reducible exact vpi4.2.1
      | with_reducible exact vpi4.2.2.1
      | with_reducible exact vpi4.2.2.2
      | with_reducible refine go_Y (by first | assumption | exact MMz.m (by assumption) | exact MM.fr (by first | assumption | exact MMz.m (by assumption)) (by assumption) | exact MM.ext' (by assumption) (by assumption) | exact (by assumption : ∀ f', MM g w0 y nM kd (upw _ nM (.inl (0, 8, .inr (.inl f'))))) _ | exact (by assumption : ∀ (th' rf' md' : Int32), MM g w0 y nM kd (upw _ y (.inr (7, [.int th', .ref nM, .ref _, .ref _, .int rf', .int kd, .int md'])))) _ _ _) (fun _ _ _ _ _ _ => ?_)
      | with_reducible refine go_Yw (by first | assumption | exact MMz.m (by assumption) | exact MM.fr (by first | assumption | exact MMz.m (by assumption)) (by assumption) | exact MM.ext' (by assumption) (by assumption) | exact (by assumption : ∀ f', MM g w0 y nM kd (upw _ nM (.inl (0, 8, .inr (.inl f'))))) _ | exact (by assumption : ∀ (th' rf' md' : Int32), MM g w0 y nM kd (upw _ y (.inr (7, [.int th', .ref nM, .ref _, .ref _, .int rf', .int kd, .int md'])))) _ _ _) (fun _ _ _ _ _ _ => ?_)
      | with_reducible refine gl_M (by first | assumption | exact MMz.m (by assumption) | exact MM.fr (by first | assumption | exact MMz.m (by assumption)) (by assumption) | exact MM.ext' (by assumption) (by assumption) | exact (by assumption : ∀ f', MM g w0 y nM kd (upw _ nM (.inl (0, 8, .inr (.inl f'))))) _ | exact (by assumption : ∀ (th' rf' md' : Int32), MM g w0 y nM kd (upw _ y (.inr (7, [.int th', .ref nM, .ref _, .ref _, .int rf', .int kd, .int md'])))) _ _ _) ?_
      | with_reducible refine gl_Mw (by first | assumption | exact MMz.m (by assumption) | exact MM.fr (by first | assumption | exact MMz.m (by assumption)) (by assumption) | exact MM.ext' (by assumption) (by assumption) | exact (by assumption : ∀ f', MM g w0 y nM kd (upw _ nM (.inl (0, 8, .inr (.inl f'))))) _ | exact (by assumption : ∀ (th' rf' md' : Int32), MM g w0 y nM kd (upw _ y (.inr (7, [.int th', .ref nM, .ref _, .ref _, .int rf', .int kd, .int md'])))) _ _ _) ?_
      | with_reducible exact gtC (by first | assumption | exact MMz.m (by assumption) | exact MM.fr (by first | assumption | exact MMz.m (by assumption)) (by assumption) | exact MM.ext' (by assumption) (by assumption) | exact (by assumption : ∀ f', MM g w0 y nM kd (upw _ nM (.inl (0, 8, .inr (.inl f'))))) _ | exact (by assumption : ∀ (th' rf' md' : Int32), MM g w0 y nM kd (upw _ y (.inr (7, [.int th', .ref nM, .ref _, .ref _, .int rf', .int kd, .int md'])))) _ _ _) (by first | assumption | exact isY.s | exact isY.fr (by assumption) (by assumption))
      | with_reducible exact gtP (by first | assumption | exact MMz.m (by assumption) | exact MM.fr (by first | assumption | exact MMz.m (by assumption)) (by assumption) | exact MM.ext' (by assumption) (by assumption) | exact (by assumption : ∀ f', MM g w0 y nM kd (upw _ nM (.inl (0, 8, .inr (.inl f'))))) _ | exact (by assumption : ∀ (th' rf' md' : Int32), MM g w0 y nM kd (upw _ y (.inr (7, [.int th', .ref nM, .ref _, .ref _, .int rf', .int kd, .int md'])))) _ _ _) (by first | assumption | exact isY.s | exact isY.fr (by assumption) (by assumption))
      | with_reducible refine gl_Row (by first | assumption | exact CAt.row (by assumption) | exact isRow.ext (by assumption) (by assumption)) (fun _ => ?_)
      | with_reducible exact isRow.ca (by first | assumption | exact CAt.row (by assumption) | exact isRow.ext (by assumption) (by assumption))
      | with_reducible refine sGetY (by first | assumption | exact CAt.fr (by assumption) (by assumption)) (by first | assumption | exact isY.s | exact isY.fr (by assumption) (by assumption)) (by assumption) (by first | assumption | exact lt65 (by assumption)) ?_
      | with_reducible exact n4g
      | with_reducible exact n4a
      | with_reducible exact n4b
      | with_reducible exact n4c
      | with_reducible refine sX3_high (fun _ => ?_)
      | with_reducible refine sX3_low (fun _ => ?_)
      | with_reducible refine sX3_one (fun _ => ?_)
      | with_reducible refine sX3_become (by first | assumption | exact MMz.m (by assumption) | exact MM.fr (by first | assumption | exact MMz.m (by assumption)) (by assumption) | exact MM.ext' (by assumption) (by assumption) | exact (by assumption : ∀ f', MM g w0 y nM kd (upw _ nM (.inl (0, 8, .inr (.inl f'))))) _ | exact (by assumption : ∀ (th' rf' md' : Int32), MM g w0 y nM kd (upw _ y (.inr (7, [.int th', .ref nM, .ref _, .ref _, .int rf', .int kd, .int md'])))) _ _ _) (by assumption) (by assumption) (fun _ _ _ => ?_)
      | with_reducible refine sX3_no (by first | assumption | exact MMz.m (by assumption) | exact MM.fr (by first | assumption | exact MMz.m (by assumption)) (by assumption) | exact MM.ext' (by assumption) (by assumption) | exact (by assumption : ∀ f', MM g w0 y nM kd (upw _ nM (.inl (0, 8, .inr (.inl f'))))) _ | exact (by assumption : ∀ (th' rf' md' : Int32), MM g w0 y nM kd (upw _ y (.inr (7, [.int th', .ref nM, .ref _, .ref _, .int rf', .int kd, .int md'])))) _ _ _) (fun _ _ => ?_)
      | with_reducible refine sX3_fixed (by first | assumption | exact CAt.row (by assumption) | exact isRow.ext (by assumption) (by assumption)) ?_ ?_
      | with_reducible refine sX3_small (by first | assumption | exact CAt.row (by assumption) | exact isRow.ext (by assumption) (by assumption)) ?_ ?_
      | with_reducible refine sX3_make (by first | assumption | exact MMz.m (by assumption) | exact MM.fr (by first | assumption | exact MMz.m (by assumption)) (by assumption) | exact MM.ext' (by assumption) (by assumption) | exact (by assumption : ∀ f', MM g w0 y nM kd (upw _ nM (.inl (0, 8, .inr (.inl f'))))) _ | exact (by assumption : ∀ (th' rf' md' : Int32), MM g w0 y nM kd (upw _ y (.inr (7, [.int th', .ref nM, .ref _, .ref _, .int rf', .int kd, .int md'])))) _ _ _) (by assumption) (by assumption) (fun _ _ _ => ?_)
      | with_reducible refine sX3_valid (by first | assumption | exact CAt.row (by assumption) | exact isRow.ext (by assumption) (by assumption)) ?_ ?_
      | with_reducible refine sX3_same (by first | assumption | exact CAt.row (by assumption) | exact isRow.ext (by assumption) (by assumption)) (by first | assumption | exact CAt.row (by assumption) | exact isRow.ext (by assumption) (by assumption)) (fun _ _ => ?_)
      | with_reducible refine sX3_aroundNow (by first | assumption | exact CAt.row (by assumption) | exact isRow.ext (by assumption) (by assumption)) (by assumption) (by assumption) (fun _ => ?_)
      | with_reducible refine sX3_whoNow (by first | assumption | exact MMz.m (by assumption) | exact MM.fr (by first | assumption | exact MMz.m (by assumption)) (by assumption) | exact MM.ext' (by assumption) (by assumption) | exact (by assumption : ∀ f', MM g w0 y nM kd (upw _ nM (.inl (0, 8, .inr (.inl f'))))) _ | exact (by assumption : ∀ (th' rf' md' : Int32), MM g w0 y nM kd (upw _ y (.inr (7, [.int th', .ref nM, .ref _, .ref _, .int rf', .int kd, .int md'])))) _ _ _) (by assumption) (by assumption) (fun _ => ?_)
      | with_reducible refine sX3_whichNow_ (by first | assumption | exact MMz.m (by assumption) | exact MM.fr (by first | assumption | exact MMz.m (by assumption)) (by assumption) | exact MM.ext' (by assumption) (by assumption) | exact (by assumption : ∀ f', MM g w0 y nM kd (upw _ nM (.inl (0, 8, .inr (.inl f'))))) _ | exact (by assumption : ∀ (th' rf' md' : Int32), MM g w0 y nM kd (upw _ y (.inr (7, [.int th', .ref nM, .ref _, .ref _, .int rf', .int kd, .int md'])))) _ _ _) (fun _ => ?_)
      | with_reducible refine sX3_likesNow (by first | assumption | exact MMz.m (by assumption) | exact MM.fr (by first | assumption | exact MMz.m (by assumption)) (by assumption) | exact MM.ext' (by assumption) (by assumption) | exact (by assumption : ∀ f', MM g w0 y nM kd (upw _ nM (.inl (0, 8, .inr (.inl f'))))) _ | exact (by assumption : ∀ (th' rf' md' : Int32), MM g w0 y nM kd (upw _ y (.inr (7, [.int th', .ref nM, .ref _, .ref _, .int rf', .int kd, .int md'])))) _ _ _) (by assumption) (by assumption) (by assumption) (fun _ => ?_)
      | with_reducible refine sX3_isNoPair (by first | assumption | exact MMz.m (by assumption) | exact MM.fr (by first | assumption | exact MMz.m (by assumption)) (by assumption) | exact MM.ext' (by assumption) (by assumption) | exact (by assumption : ∀ f', MM g w0 y nM kd (upw _ nM (.inl (0, 8, .inr (.inl f'))))) _ | exact (by assumption : ∀ (th' rf' md' : Int32), MM g w0 y nM kd (upw _ y (.inr (7, [.int th', .ref nM, .ref _, .ref _, .int rf', .int kd, .int md'])))) _ _ _) (fun _ _ => ?_) (fun _ _ _ _ _ _ _ _ => ?_)
      | with_reducible refine sX3_isNoEnd_ (by first | assumption | exact MMz.m (by assumption) | exact MM.fr (by first | assumption | exact MMz.m (by assumption)) (by assumption) | exact MM.ext' (by assumption) (by assumption) | exact (by assumption : ∀ f', MM g w0 y nM kd (upw _ nM (.inl (0, 8, .inr (.inl f'))))) _ | exact (by assumption : ∀ (th' rf' md' : Int32), MM g w0 y nM kd (upw _ y (.inr (7, [.int th', .ref nM, .ref _, .ref _, .int rf', .int kd, .int md'])))) _ _ _) (fun _ _ => ?_) (fun _ _ _ _ _ _ _ _ => ?_)
      | simp only [eX3_seekNow_0, eX3_seekNow_1, eX3_seekNow_2, eX3_seekNow_3, eX3_seekNow_7, eX3_seekNow_7N, eX3_seekNow_8, eX3_seekNow_11, eX3_seekNow_14, eX3_seekNow_17, eX3_seekNow_17N, eX3_seekNow_18, eX3_seekNow_21, eX3_seekNow_23, eX3_seekNow_26N, eX3_seekNow_26R, eX3_seekNow_29, eX3_seekNow_29N, eX3_seekNow_30, eX3_seekNow_33, eX3_seekNow_34, eX3_seekNow_37N, eX3_seekNow_37R, eX3_seekNow_40RR, eX3_seekNow_40NR, eX3_seekNow_40RN, eX3_seekNow_40NN, eX3_seekNow_43, eX3_seekNow_46, eX3_seekNow_47, eX3_seekNow_50, eX3_seekNow_51, eX3_seekNow_52, eX3_seekNow_55, eX3_seekNow_57, eX3_seekNow_58, eX3_seekNow_61, eX3_seekNow_64, eX3_seekNow_65, ite_le, n45, n54, true_or, or_true, false_or, or_false, false_and, and_false, kx_l, kx_r, go_s, gl_s, gi_s, gb_s2, gb_s3, gq_s, wt_nil, wt_int, wt_long, wt_ref, wt_null, nl_int, nl_long, nl_ref, nl_null, nl_none, rf_n, rf_s, rf_st, tl_s, tl_n, g0, gS, ex1, nb_b, nb_0, nb_1, nf_i, nf_l, nf_ra, nf_ro, nf_na, nf_no, nf_b0, nf_z0, t45_4, t45_5, true_and, and_true, List.set_cons_zero, List.set_cons_succ, List.length_cons, List.length_nil, rd_s, upw_s, ne_eq, not_false_eq_true, Nat.zero_add, Nat.add_zero, if_true, if_false, eq_self, m10, n4e, upw2q]
      | split
      | with_reducible intro _
      | omega
  | succ d ih =>
    intro i3 i4 k m z0 zi hm hk hs
    rw [eX3_seekNow_5]
    repeat' first
      | with_reducible assumption
      | with_reducible refine And.intro ?_ ?_
      | with_reducible exact ih _ _ _ _ (ic_p (by assumption) (by assumption)) (by first | assumption | exact Or.inr ⟨by assumption, by assumption⟩) (ic_s (by assumption) (by assumption)) (by first | assumption | omega) (by first | assumption | omega)
      | with_reducible refine sSizeY (by assumption) (by first | assumption | exact isY.s | exact isY.fr (by assumption) (by assumption)) ?_
      | with_reducible refine sGetP (by assumption) (by first | assumption | exact isY.s | exact isY.fr (by assumption) (by assumption)) (by assumption) (by assumption) (fun _ _ => ?_)
      | with_reducible exact hQ _ (by assumption)
      | with_reducible exact absurd (by assumption) n10'
      | with_reducible refine sX3_isNoNumber ?_ (fun _ _ => ?_)
      | with_reducible refine sX3_isNoCard ?_ (fun _ _ => ?_)
      | with_reducible refine sX3_isNoEnd ?_ (fun _ _ => ?_)
      | with_reducible refine sX3_isIn (fun _ _ => ?_) ?_
      | with_reducible refine sX3_start (by first | assumption | exact MMz.m (by assumption) | exact MM.fr (by first | assumption | exact MMz.m (by assumption)) (by assumption) | exact MM.ext' (by assumption) (by assumption) | exact (by assumption : ∀ f', MM g w0 y nM kd (upw _ nM (.inl (0, 8, .inr (.inl f'))))) _ | exact (by assumption : ∀ (th' rf' md' : Int32), MM g w0 y nM kd (upw _ y (.inr (7, [.int th', .ref nM, .ref _, .ref _, .int rf', .int kd, .int md'])))) _ _ _) (by decide) (fun _ _ _ => ?_) (fun _ _ => ?_)
      | with_reducible refine sX3_refuse (by assumption) (by decide) (fun _ => ?_) (fun _ _ => ?_)
      | with_reducible refine sX3_isBareM (by first | assumption | exact MMz.m (by assumption) | exact MM.fr (by first | assumption | exact MMz.m (by assumption)) (by assumption) | exact MM.ext' (by assumption) (by assumption) | exact (by assumption : ∀ f', MM g w0 y nM kd (upw _ nM (.inl (0, 8, .inr (.inl f'))))) _ | exact (by assumption : ∀ (th' rf' md' : Int32), MM g w0 y nM kd (upw _ y (.inr (7, [.int th', .ref nM, .ref _, .ref _, .int rf', .int kd, .int md'])))) _ _ _) (by assumption) (by first | assumption | exact lt65 (by assumption)) ?_ (fun _ _ => ?_)
      | with_reducible refine sX3_isNone (by first | assumption | exact MMz.m (by assumption) | exact MM.fr (by first | assumption | exact MMz.m (by assumption)) (by assumption) | exact MM.ext' (by assumption) (by assumption) | exact (by assumption : ∀ f', MM g w0 y nM kd (upw _ nM (.inl (0, 8, .inr (.inl f'))))) _ | exact (by assumption : ∀ (th' rf' md' : Int32), MM g w0 y nM kd (upw _ y (.inr (7, [.int th', .ref nM, .ref _, .ref _, .int rf', .int kd, .int md'])))) _ _ _) (fun _ _ => ?_) (fun _ _ _ _ _ _ => ?_)
      | with_reducible exact vpi8n (by assumption) (by assumption)
      | with_reducible exact vpi4n (by assumption) (by assumption)
      | with_reducible exact vpi4.1
      | with_reducible exact vpi4.2.1
      | with_reducible exact vpi4.2.2.1
      | with_reducible exact vpi4.2.2.2
      | with_reducible refine go_Y (by first | assumption | exact MMz.m (by assumption) | exact MM.fr (by first | assumption | exact MMz.m (by assumption)) (by assumption) | exact MM.ext' (by assumption) (by assumption) | exact (by assumption : ∀ f', MM g w0 y nM kd (upw _ nM (.inl (0, 8, .inr (.inl f'))))) _ | exact (by assumption : ∀ (th' rf' md' : Int32), MM g w0 y nM kd (upw _ y (.inr (7, [.int th', .ref nM, .ref _, .ref _, .int rf', .int kd, .int md'])))) _ _ _) (fun _ _ _ _ _ _ => ?_)
      | with_reducible refine go_Yw (by first | assumption | exact MMz.m (by assumption) | exact MM.fr (by first | assumption | exact MMz.m (by assumption)) (by assumption) | exact MM.ext' (by assumption) (by assumption) | exact (by assumption : ∀ f', MM g w0 y nM kd (upw _ nM (.inl (0, 8, .inr (.inl f'))))) _ | exact (by assumption : ∀ (th' rf' md' : Int32), MM g w0 y nM kd (upw _ y (.inr (7, [.int th', .ref nM, .ref _, .ref _, .int rf', .int kd, .int md'])))) _ _ _) (fun _ _ _ _ _ _ => ?_)
      | with_reducible refine gl_M (by first | assumption | exact MMz.m (by assumption) | exact MM.fr (by first | assumption | exact MMz.m (by assumption)) (by assumption) | exact MM.ext' (by assumption) (by assumption) | exact (by assumption : ∀ f', MM g w0 y nM kd (upw _ nM (.inl (0, 8, .inr (.inl f'))))) _ | exact (by assumption : ∀ (th' rf' md' : Int32), MM g w0 y nM kd (upw _ y (.inr (7, [.int th', .ref nM, .ref _, .ref _, .int rf', .int kd, .int md'])))) _ _ _) ?_
      | with_reducible refine gl_Mw (by first | assumption | exact MMz.m (by assumption) | exact MM.fr (by first | assumption | exact MMz.m (by assumption)) (by assumption) | exact MM.ext' (by assumption) (by assumption) | exact (by assumption : ∀ f', MM g w0 y nM kd (upw _ nM (.inl (0, 8, .inr (.inl f'))))) _ | exact (by assumption : ∀ (th' rf' md' : Int32), MM g w0 y nM kd (upw _ y (.inr (7, [.int th', .ref nM, .ref _, .ref _, .int rf', .int kd, .int md'])))) _ _ _) ?_
      | with_reducible exact gtC (by first | assumption | exact MMz.m (by assumption) | exact MM.fr (by first | assumption | exact MMz.m (by assumption)) (by assumption) | exact MM.ext' (by assumption) (by assumption) | exact (by assumption : ∀ f', MM g w0 y nM kd (upw _ nM (.inl (0, 8, .inr (.inl f'))))) _ | exact (by assumption : ∀ (th' rf' md' : Int32), MM g w0 y nM kd (upw _ y (.inr (7, [.int th', .ref nM, .ref _, .ref _, .int rf', .int kd, .int md'])))) _ _ _) (by first | assumption | exact isY.s | exact isY.fr (by assumption) (by assumption))
      | with_reducible exact gtP (by first | assumption | exact MMz.m (by assumption) | exact MM.fr (by first | assumption | exact MMz.m (by assumption)) (by assumption) | exact MM.ext' (by assumption) (by assumption) | exact (by assumption : ∀ f', MM g w0 y nM kd (upw _ nM (.inl (0, 8, .inr (.inl f'))))) _ | exact (by assumption : ∀ (th' rf' md' : Int32), MM g w0 y nM kd (upw _ y (.inr (7, [.int th', .ref nM, .ref _, .ref _, .int rf', .int kd, .int md'])))) _ _ _) (by first | assumption | exact isY.s | exact isY.fr (by assumption) (by assumption))
      | with_reducible refine gl_Row (by first | assumption | exact CAt.row (by assumption) | exact isRow.ext (by assumption) (by assumption)) (fun _ => ?_)
      | with_reducible exact isRow.ca (by first | assumption | exact CAt.row (by assumption) | exact isRow.ext (by assumption) (by assumption))
      | with_reducible refine sGetY (by first | assumption | exact CAt.fr (by assumption) (by assumption)) (by first | assumption | exact isY.s | exact isY.fr (by assumption) (by assumption)) (by assumption) (by first | assumption | exact lt65 (by assumption)) ?_
      | with_reducible exact n4g
      | with_reducible exact n4a
      | with_reducible exact n4b
      | with_reducible exact n4c
      | with_reducible refine sX3_high (fun _ => ?_)
      | with_reducible refine sX3_low (fun _ => ?_)
      | with_reducible refine sX3_one (fun _ => ?_)
      | with_reducible refine sX3_become (by first | assumption | exact MMz.m (by assumption) | exact MM.fr (by first | assumption | exact MMz.m (by assumption)) (by assumption) | exact MM.ext' (by assumption) (by assumption) | exact (by assumption : ∀ f', MM g w0 y nM kd (upw _ nM (.inl (0, 8, .inr (.inl f'))))) _ | exact (by assumption : ∀ (th' rf' md' : Int32), MM g w0 y nM kd (upw _ y (.inr (7, [.int th', .ref nM, .ref _, .ref _, .int rf', .int kd, .int md'])))) _ _ _) (by assumption) (by assumption) (fun _ _ _ => ?_)
      | with_reducible refine sX3_no (by first | assumption | exact MMz.m (by assumption) | exact MM.fr (by first | assumption | exact MMz.m (by assumption)) (by assumption) | exact MM.ext' (by assumption) (by assumption) | exact (by assumption : ∀ f', MM g w0 y nM kd (upw _ nM (.inl (0, 8, .inr (.inl f'))))) _ | exact (by assumption : ∀ (th' rf' md' : Int32), MM g w0 y nM kd (upw _ y (.inr (7, [.int th', .ref nM, .ref _, .ref _, .int rf', .int kd, .int md'])))) _ _ _) (fun _ _ => ?_)
      | with_reducible refine sX3_fixed (by first | assumption | exact CAt.row (by assumption) | exact isRow.ext (by assumption) (by assumption)) ?_ ?_
      | with_reducible refine sX3_small (by first | assumption | exact CAt.row (by assumption) | exact isRow.ext (by assumption) (by assumption)) ?_ ?_
      | with_reducible refine sX3_make (by first | assumption | exact MMz.m (by assumption) | exact MM.fr (by first | assumption | exact MMz.m (by assumption)) (by assumption) | exact MM.ext' (by assumption) (by assumption) | exact (by assumption : ∀ f', MM g w0 y nM kd (upw _ nM (.inl (0, 8, .inr (.inl f'))))) _ | exact (by assumption : ∀ (th' rf' md' : Int32), MM g w0 y nM kd (upw _ y (.inr (7, [.int th', .ref nM, .ref _, .ref _, .int rf', .int kd, .int md'])))) _ _ _) (by assumption) (by assumption) (fun _ _ _ => ?_)
      | with_reducible refine sX3_valid (by first | assumption | exact CAt.row (by assumption) | exact isRow.ext (by assumption) (by assumption)) ?_ ?_
      | with_reducible refine sX3_same (by first | assumption | exact CAt.row (by assumption) | exact isRow.ext (by assumption) (by assumption)) (by first | assumption | exact CAt.row (by assumption) | exact isRow.ext (by assumption) (by assumption)) (fun _ _ => ?_)
      | with_reducible refine sX3_aroundNow (by first | assumption | exact CAt.row (by assumption) | exact isRow.ext (by assumption) (by assumption)) (by assumption) (by assumption) (fun _ => ?_)
      | with_reducible refine sX3_whoNow (by first | assumption | exact MMz.m (by assumption) | exact MM.fr (by first | assumption | exact MMz.m (by assumption)) (by assumption) | exact MM.ext' (by assumption) (by assumption) | exact (by assumption : ∀ f', MM g w0 y nM kd (upw _ nM (.inl (0, 8, .inr (.inl f'))))) _ | exact (by assumption : ∀ (th' rf' md' : Int32), MM g w0 y nM kd (upw _ y (.inr (7, [.int th', .ref nM, .ref _, .ref _, .int rf', .int kd, .int md'])))) _ _ _) (by assumption) (by assumption) (fun _ => ?_)
      | with_reducible refine sX3_whichNow_ (by first | assumption | exact MMz.m (by assumption) | exact MM.fr (by first | assumption | exact MMz.m (by assumption)) (by assumption) | exact MM.ext' (by assumption) (by assumption) | exact (by assumption : ∀ f', MM g w0 y nM kd (upw _ nM (.inl (0, 8, .inr (.inl f'))))) _ | exact (by assumption : ∀ (th' rf' md' : Int32), MM g w0 y nM kd (upw _ y (.inr (7, [.int th', .ref nM, .ref _, .ref _, .int rf', .int kd, .int md'])))) _ _ _) (fun _ => ?_)
      | with_reducible refine sX3_likesNow (by first | assumption | exact MMz.m (by assumption) | exact MM.fr (by first | assumption | exact MMz.m (by assumption)) (by assumption) | exact MM.ext' (by assumption) (by assumption) | exact (by assumption : ∀ f', MM g w0 y nM kd (upw _ nM (.inl (0, 8, .inr (.inl f'))))) _ | exact (by assumption : ∀ (th' rf' md' : Int32), MM g w0 y nM kd (upw _ y (.inr (7, [.int th', .ref nM, .ref _, .ref _, .int rf', .int kd, .int md'])))) _ _ _) (by assumption) (by assumption) (by assumption) (fun _ => ?_)
      | with_reducible refine sX3_isNoPair (by first | assumption | exact MMz.m (by assumption) | exact MM.fr (by first | assumption | exact MMz.m (by assumption)) (by assumption) | exact MM.ext' (by assumption) (by assumption) | exact (by assumption : ∀ f', MM g w0 y nM kd (upw _ nM (.inl (0, 8, .inr (.inl f'))))) _ | exact (by assumption : ∀ (th' rf' md' : Int32), MM g w0 y nM kd (upw _ y (.inr (7, [.int th', .ref nM, .ref _, .ref _, .int rf', .int kd, .int md'])))) _ _ _) (fun _ _ => ?_) (fun _ _ _ _ _ _ _ _ => ?_)
      | with_reducible refine sX3_isNoEnd_ (by first | assumption | exact MMz.m (by assumption) | exact MM.fr (by first | assumption | exact MMz.m (by assumption)) (by assumption) | exact MM.ext' (by assumption) (by assumption) | exact (by assumption : ∀ f', MM g w0 y nM kd (upw _ nM (.inl (0, 8, .inr (.inl f'))))) _ | exact (by assumption : ∀ (th' rf' md' : Int32), MM g w0 y nM kd (upw _ y (.inr (7, [.int th', .ref nM, .ref _, .ref _, .int rf', .int kd, .int md'])))) _ _ _) (fun _ _ => ?_) (fun _ _ _ _ _ _ _ _ => ?_)
      | simp only [eX3_seekNow_0, eX3_seekNow_1, eX3_seekNow_2, eX3_seekNow_3, eX3_seekNow_7, eX3_seekNow_7N, eX3_seekNow_8, eX3_seekNow_11, eX3_seekNow_14, eX3_seekNow_17, eX3_seekNow_17N, eX3_seekNow_18, eX3_seekNow_21, eX3_seekNow_23, eX3_seekNow_26N, eX3_seekNow_26R, eX3_seekNow_29, eX3_seekNow_29N, eX3_seekNow_30, eX3_seekNow_33, eX3_seekNow_34, eX3_seekNow_37N, eX3_seekNow_37R, eX3_seekNow_40RR, eX3_seekNow_40NR, eX3_seekNow_40RN, eX3_seekNow_40NN, eX3_seekNow_43, eX3_seekNow_46, eX3_seekNow_47, eX3_seekNow_50, eX3_seekNow_51, eX3_seekNow_52, eX3_seekNow_55, eX3_seekNow_57, eX3_seekNow_58, eX3_seekNow_61, eX3_seekNow_64, eX3_seekNow_65, ite_le, n45, n54, true_or, or_true, false_or, or_false, false_and, and_false, kx_l, kx_r, go_s, gl_s, gi_s, gb_s2, gb_s3, gq_s, wt_nil, wt_int, wt_long, wt_ref, wt_null, nl_int, nl_long, nl_ref, nl_null, nl_none, rf_n, rf_s, rf_st, tl_s, tl_n, g0, gS, ex1, nb_b, nb_0, nb_1, nf_i, nf_l, nf_ra, nf_ro, nf_na, nf_no, nf_b0, nf_z0, t45_4, t45_5, true_and, and_true, List.set_cons_zero, List.set_cons_succ, List.length_cons, List.length_nil, rd_s, upw_s, ne_eq, not_false_eq_true, Nat.zero_add, Nat.add_zero, if_true, if_false, eq_self, m10, n4e, upw2q]
      | split
      | with_reducible intro _
      | omega
set_option maxHeartbeats 4000000 in
theorem sX3_seekNow {a c n : Int32} {b : Nat} (hM : MM g w0 y nM kd w) (hC : CAt g w y a (some b)) (k0 : ¬ a < 0) (k1 : ¬ 5 < a) (hP : PN g w y n) (hQ : ∀ v : Int32, (v = -1 ∨ (¬ v < 0 ∧ v < n)) → Q (.inl (some (.int v))) w) : WP (MX3_seekNow g) Q (0, [some (.ref y), some (.int a), some (.int c), none, none], [], w, 0, 0) := by
  repeat' first
    | with_reducible assumption
    | with_reducible refine And.intro ?_ ?_
    | with_reducible exact lX3_seekNow_5 hM hC k0 k1 hP hQ 70 _ _ _ _ (by first | decide | assumption) (Or.inl rfl) hP.m (by first | decide | omega) (by first | decide | omega)
    | with_reducible refine sSizeY (by assumption) (by first | assumption | exact isY.s | exact isY.fr (by assumption) (by assumption)) ?_
    | with_reducible refine sGetP (by assumption) (by first | assumption | exact isY.s | exact isY.fr (by assumption) (by assumption)) (by assumption) (by assumption) (fun _ _ => ?_)
    | with_reducible exact hQ _ (by assumption)
    | with_reducible exact absurd (by assumption) n10'
    | with_reducible refine sX3_isNoNumber ?_ (fun _ _ => ?_)
    | with_reducible refine sX3_isNoCard ?_ (fun _ _ => ?_)
    | with_reducible refine sX3_isNoEnd ?_ (fun _ _ => ?_)
    | with_reducible refine sX3_isIn (fun _ _ => ?_) ?_
    | with_reducible refine sX3_start (by first | assumption | exact MMz.m (by assumption) | exact MM.fr (by first | assumption | exact MMz.m (by assumption)) (by assumption) | exact MM.ext' (by assumption) (by assumption) | exact (by assumption : ∀ f', MM g w0 y nM kd (upw _ nM (.inl (0, 8, .inr (.inl f'))))) _ | exact (by assumption : ∀ (th' rf' md' : Int32), MM g w0 y nM kd (upw _ y (.inr (7, [.int th', .ref nM, .ref _, .ref _, .int rf', .int kd, .int md'])))) _ _ _) (by decide) (fun _ _ _ => ?_) (fun _ _ => ?_)
    | with_reducible refine sX3_refuse (by assumption) (by decide) (fun _ => ?_) (fun _ _ => ?_)
    | with_reducible refine sX3_isBareM (by first | assumption | exact MMz.m (by assumption) | exact MM.fr (by first | assumption | exact MMz.m (by assumption)) (by assumption) | exact MM.ext' (by assumption) (by assumption) | exact (by assumption : ∀ f', MM g w0 y nM kd (upw _ nM (.inl (0, 8, .inr (.inl f'))))) _ | exact (by assumption : ∀ (th' rf' md' : Int32), MM g w0 y nM kd (upw _ y (.inr (7, [.int th', .ref nM, .ref _, .ref _, .int rf', .int kd, .int md'])))) _ _ _) (by assumption) (by first | assumption | exact lt65 (by assumption)) ?_ (fun _ _ => ?_)
    | with_reducible refine sX3_isNone (by first | assumption | exact MMz.m (by assumption) | exact MM.fr (by first | assumption | exact MMz.m (by assumption)) (by assumption) | exact MM.ext' (by assumption) (by assumption) | exact (by assumption : ∀ f', MM g w0 y nM kd (upw _ nM (.inl (0, 8, .inr (.inl f'))))) _ | exact (by assumption : ∀ (th' rf' md' : Int32), MM g w0 y nM kd (upw _ y (.inr (7, [.int th', .ref nM, .ref _, .ref _, .int rf', .int kd, .int md'])))) _ _ _) (fun _ _ => ?_) (fun _ _ _ _ _ _ => ?_)
    | with_reducible exact vpi8n (by assumption) (by assumption)
    | with_reducible exact vpi4n (by assumption) (by assumption)
    | with_reducible exact vpi4.1
    | with_reducible exact vpi4.2.1
    | with_reducible exact vpi4.2.2.1
    | with_reducible exact vpi4.2.2.2
    | with_reducible refine go_Y (by first | assumption | exact MMz.m (by assumption) | exact MM.fr (by first | assumption | exact MMz.m (by assumption)) (by assumption) | exact MM.ext' (by assumption) (by assumption) | exact (by assumption : ∀ f', MM g w0 y nM kd (upw _ nM (.inl (0, 8, .inr (.inl f'))))) _ | exact (by assumption : ∀ (th' rf' md' : Int32), MM g w0 y nM kd (upw _ y (.inr (7, [.int th', .ref nM, .ref _, .ref _, .int rf', .int kd, .int md'])))) _ _ _) (fun _ _ _ _ _ _ => ?_)
    | with_reducible refine go_Yw (by first | assumption | exact MMz.m (by assumption) | exact MM.fr (by first | assumption | exact MMz.m (by assumption)) (by assumption) | exact MM.ext' (by assumption) (by assumption) | exact (by assumption : ∀ f', MM g w0 y nM kd (upw _ nM (.inl (0, 8, .inr (.inl f'))))) _ | exact (by assumption : ∀ (th' rf' md' : Int32), MM g w0 y nM kd (upw _ y (.inr (7, [.int th', .ref nM, .ref _, .ref _, .int rf', .int kd, .int md'])))) _ _ _) (fun _ _ _ _ _ _ => ?_)
    | with_reducible refine gl_M (by first | assumption | exact MMz.m (by assumption) | exact MM.fr (by first | assumption | exact MMz.m (by assumption)) (by assumption) | exact MM.ext' (by assumption) (by assumption) | exact (by assumption : ∀ f', MM g w0 y nM kd (upw _ nM (.inl (0, 8, .inr (.inl f'))))) _ | exact (by assumption : ∀ (th' rf' md' : Int32), MM g w0 y nM kd (upw _ y (.inr (7, [.int th', .ref nM, .ref _, .ref _, .int rf', .int kd, .int md'])))) _ _ _) ?_
    | with_reducible refine gl_Mw (by first | assumption | exact MMz.m (by assumption) | exact MM.fr (by first | assumption | exact MMz.m (by assumption)) (by assumption) | exact MM.ext' (by assumption) (by assumption) | exact (by assumption : ∀ f', MM g w0 y nM kd (upw _ nM (.inl (0, 8, .inr (.inl f'))))) _ | exact (by assumption : ∀ (th' rf' md' : Int32), MM g w0 y nM kd (upw _ y (.inr (7, [.int th', .ref nM, .ref _, .ref _, .int rf', .int kd, .int md'])))) _ _ _) ?_
    | with_reducible exact gtC (by first | assumption | exact MMz.m (by assumption) | exact MM.fr (by first | assumption | exact MMz.m (by assumption)) (by assumption) | exact MM.ext' (by assumption) (by assumption) | exact (by assumption : ∀ f', MM g w0 y nM kd (upw _ nM (.inl (0, 8, .inr (.inl f'))))) _ | exact (by assumption : ∀ (th' rf' md' : Int32), MM g w0 y nM kd (upw _ y (.inr (7, [.int th', .ref nM, .ref _, .ref _, .int rf', .int kd, .int md'])))) _ _ _) (by first | assumption | exact isY.s | exact isY.fr (by assumption) (by assumption))
    | with_reducible exact gtP (by first | assumption | exact MMz.m (by assumption) | exact MM.fr (by first | assumption | exact MMz.m (by assumption)) (by assumption) | exact MM.ext' (by assumption) (by assumption) | exact (by assumption : ∀ f', MM g w0 y nM kd (upw _ nM (.inl (0, 8, .inr (.inl f'))))) _ | exact (by assumption : ∀ (th' rf' md' : Int32), MM g w0 y nM kd (upw _ y (.inr (7, [.int th', .ref nM, .ref _, .ref _, .int rf', .int kd, .int md'])))) _ _ _) (by first | assumption | exact isY.s | exact isY.fr (by assumption) (by assumption))
    | with_reducible refine gl_Row (by first | assumption | exact CAt.row (by assumption) | exact isRow.ext (by assumption) (by assumption)) (fun _ => ?_)
    | with_reducible exact isRow.ca (by first | assumption | exact CAt.row (by assumption) | exact isRow.ext (by assumption) (by assumption))
    | with_reducible refine sGetY (by first | assumption | exact CAt.fr (by assumption) (by assumption)) (by first | assumption | exact isY.s | exact isY.fr (by assumption) (by assumption)) (by assumption) (by first | assumption | exact lt65 (by assumption)) ?_
    | with_reducible exact n4g
    | with_reducible exact n4a
    | with_reducible exact n4b
    | with_reducible exact n4c
    | with_reducible refine sX3_high (fun _ => ?_)
    | with_reducible refine sX3_low (fun _ => ?_)
    | with_reducible refine sX3_one (fun _ => ?_)
    | with_reducible refine sX3_become (by first | assumption | exact MMz.m (by assumption) | exact MM.fr (by first | assumption | exact MMz.m (by assumption)) (by assumption) | exact MM.ext' (by assumption) (by assumption) | exact (by assumption : ∀ f', MM g w0 y nM kd (upw _ nM (.inl (0, 8, .inr (.inl f'))))) _ | exact (by assumption : ∀ (th' rf' md' : Int32), MM g w0 y nM kd (upw _ y (.inr (7, [.int th', .ref nM, .ref _, .ref _, .int rf', .int kd, .int md'])))) _ _ _) (by assumption) (by assumption) (fun _ _ _ => ?_)
    | with_reducible refine sX3_no (by first | assumption | exact MMz.m (by assumption) | exact MM.fr (by first | assumption | exact MMz.m (by assumption)) (by assumption) | exact MM.ext' (by assumption) (by assumption) | exact (by assumption : ∀ f', MM g w0 y nM kd (upw _ nM (.inl (0, 8, .inr (.inl f'))))) _ | exact (by assumption : ∀ (th' rf' md' : Int32), MM g w0 y nM kd (upw _ y (.inr (7, [.int th', .ref nM, .ref _, .ref _, .int rf', .int kd, .int md'])))) _ _ _) (fun _ _ => ?_)
    | with_reducible refine sX3_fixed (by first | assumption | exact CAt.row (by assumption) | exact isRow.ext (by assumption) (by assumption)) ?_ ?_
    | with_reducible refine sX3_small (by first | assumption | exact CAt.row (by assumption) | exact isRow.ext (by assumption) (by assumption)) ?_ ?_
    | with_reducible refine sX3_make (by first | assumption | exact MMz.m (by assumption) | exact MM.fr (by first | assumption | exact MMz.m (by assumption)) (by assumption) | exact MM.ext' (by assumption) (by assumption) | exact (by assumption : ∀ f', MM g w0 y nM kd (upw _ nM (.inl (0, 8, .inr (.inl f'))))) _ | exact (by assumption : ∀ (th' rf' md' : Int32), MM g w0 y nM kd (upw _ y (.inr (7, [.int th', .ref nM, .ref _, .ref _, .int rf', .int kd, .int md'])))) _ _ _) (by assumption) (by assumption) (fun _ _ _ => ?_)
    | with_reducible refine sX3_valid (by first | assumption | exact CAt.row (by assumption) | exact isRow.ext (by assumption) (by assumption)) ?_ ?_
    | with_reducible refine sX3_same (by first | assumption | exact CAt.row (by assumption) | exact isRow.ext (by assumption) (by assumption)) (by first | assumption | exact CAt.row (by assumption) | exact isRow.ext (by assumption) (by assumption)) (fun _ _ => ?_)
    | with_reducible refine sX3_aroundNow (by first | assumption | exact CAt.row (by assumption) | exact isRow.ext (by assumption) (by assumption)) (by assumption) (by assumption) (fun _ => ?_)
    | with_reducible refine sX3_whoNow (by first | assumption | exact MMz.m (by assumption) | exact MM.fr (by first | assumption | exact MMz.m (by assumption)) (by assumption) | exact MM.ext' (by assumption) (by assumption) | exact (by assumption : ∀ f', MM g w0 y nM kd (upw _ nM (.inl (0, 8, .inr (.inl f'))))) _ | exact (by assumption : ∀ (th' rf' md' : Int32), MM g w0 y nM kd (upw _ y (.inr (7, [.int th', .ref nM, .ref _, .ref _, .int rf', .int kd, .int md'])))) _ _ _) (by assumption) (by assumption) (fun _ => ?_)
    | with_reducible refine sX3_whichNow_ (by first | assumption | exact MMz.m (by assumption) | exact MM.fr (by first | assumption | exact MMz.m (by assumption)) (by assumption) | exact MM.ext' (by assumption) (by assumption) | exact (by assumption : ∀ f', MM g w0 y nM kd (upw _ nM (.inl (0, 8, .inr (.inl f'))))) _ | exact (by assumption : ∀ (th' rf' md' : Int32), MM g w0 y nM kd (upw _ y (.inr (7, [.int th', .ref nM, .ref _, .ref _, .int rf', .int kd, .int md'])))) _ _ _) (fun _ => ?_)
    | with_reducible refine sX3_likesNow (by first | assumption | exact MMz.m (by assumption) | exact MM.fr (by first | assumption | exact MMz.m (by assumption)) (by assumption) | exact MM.ext' (by assumption) (by assumption) | exact (by assumption : ∀ f', MM g w0 y nM kd (upw _ nM (.inl (0, 8, .inr (.inl f'))))) _ | exact (by assumption : ∀ (th' rf' md' : Int32), MM g w0 y nM kd (upw _ y (.inr (7, [.int th', .ref nM, .ref _, .ref _, .int rf', .int kd, .int md'])))) _ _ _) (by assumption) (by assumption) (by assumption) (fun _ => ?_)
    | with_reducible refine sX3_isNoPair (by first | assumption | exact MMz.m (by assumption) | exact MM.fr (by first | assumption | exact MMz.m (by assumption)) (by assumption) | exact MM.ext' (by assumption) (by assumption) | exact (by assumption : ∀ f', MM g w0 y nM kd (upw _ nM (.inl (0, 8, .inr (.inl f'))))) _ | exact (by assumption : ∀ (th' rf' md' : Int32), MM g w0 y nM kd (upw _ y (.inr (7, [.int th', .ref nM, .ref _, .ref _, .int rf', .int kd, .int md'])))) _ _ _) (fun _ _ => ?_) (fun _ _ _ _ _ _ _ _ => ?_)
    | with_reducible refine sX3_isNoEnd_ (by first | assumption | exact MMz.m (by assumption) | exact MM.fr (by first | assumption | exact MMz.m (by assumption)) (by assumption) | exact MM.ext' (by assumption) (by assumption) | exact (by assumption : ∀ f', MM g w0 y nM kd (upw _ nM (.inl (0, 8, .inr (.inl f'))))) _ | exact (by assumption : ∀ (th' rf' md' : Int32), MM g w0 y nM kd (upw _ y (.inr (7, [.int th', .ref nM, .ref _, .ref _, .int rf', .int kd, .int md'])))) _ _ _) (fun _ _ => ?_) (fun _ _ _ _ _ _ _ _ => ?_)
    | simp only [eX3_seekNow_0, eX3_seekNow_1, eX3_seekNow_2, eX3_seekNow_3, eX3_seekNow_7, eX3_seekNow_7N, eX3_seekNow_8, eX3_seekNow_11, eX3_seekNow_14, eX3_seekNow_17, eX3_seekNow_17N, eX3_seekNow_18, eX3_seekNow_21, eX3_seekNow_23, eX3_seekNow_26N, eX3_seekNow_26R, eX3_seekNow_29, eX3_seekNow_29N, eX3_seekNow_30, eX3_seekNow_33, eX3_seekNow_34, eX3_seekNow_37N, eX3_seekNow_37R, eX3_seekNow_40RR, eX3_seekNow_40NR, eX3_seekNow_40RN, eX3_seekNow_40NN, eX3_seekNow_43, eX3_seekNow_46, eX3_seekNow_47, eX3_seekNow_50, eX3_seekNow_51, eX3_seekNow_52, eX3_seekNow_55, eX3_seekNow_57, eX3_seekNow_58, eX3_seekNow_61, eX3_seekNow_64, eX3_seekNow_65, ite_le, n45, n54, true_or, or_true, false_or, or_false, false_and, and_false, kx_l, kx_r, go_s, gl_s, gi_s, gb_s2, gb_s3, gq_s, wt_nil, wt_int, wt_long, wt_ref, wt_null, nl_int, nl_long, nl_ref, nl_null, nl_none, rf_n, rf_s, rf_st, tl_s, tl_n, g0, gS, ex1, nb_b, nb_0, nb_1, nf_i, nf_l, nf_ra, nf_ro, nf_na, nf_no, nf_b0, nf_z0, t45_4, t45_5, true_and, and_true, List.set_cons_zero, List.set_cons_succ, List.length_cons, List.length_nil, rd_s, upw_s, ne_eq, not_false_eq_true, Nat.zero_add, Nat.add_zero, if_true, if_false, eq_self, m10, n4e, upw2q]
    | split
    | with_reducible intro _
    | omega
set_option maxHeartbeats 4000000 in
theorem lX3_isAhead_4 {a n : Int32} (hM : MM g w0 y nM kd w) (hP : PN g w y n) (k0 : ¬ a < 0) (k1 : a < n) (hQ : ∀ v : Int32, Q (.inl (some (.int v))) w) : ∀ (d : Nat) (i2 : Int32) (i3 : Int32) (k m : Nat), ¬ i3 < 0 → (i2 = 0 ∨ i2 = 1) → (a : Int32).toInt - i3.toInt ≤ (d : Int) → k ≤ 0 → m ≤ 0 → WP (MX3_isAhead g) Q (4, [some (.ref y), some (.int a), some (.int i2), some (.int i3)], [], w, k, m) := by
  intro d
  induction d with
  | zero =>
    intro i2 i3 k m z0 zi hm hk hs
    rw [eX3_isAhead_4]
    repeat' first
      | with_reducible assumption
      | with_reducible refine And.intro ?_ ?_
      | with_reducible exact (ic_z (by assumption) (by assumption)).elim
      | with_reducible refine sGetP (by assumption) (by first | assumption | exact isY.s | exact isY.fr (by assumption) (by assumption)) (by assumption) (by first | assumption | exact Int32.lt_trans (by assumption) (by assumption)) (fun _ _ => ?_)
      | with_reducible exact hQ _
      | with_reducible exact nbz (by assumption)
      | with_reducible exact absurd (by assumption) n10'
      | with_reducible refine sX3_isNoNumber ?_ (fun _ _ => ?_)
      | with_reducible refine sX3_isNoCard ?_ (fun _ _ => ?_)
      | with_reducible refine sX3_isNoEnd ?_ (fun _ _ => ?_)
      | with_reducible refine sX3_isIn (fun _ _ => ?_) ?_
      | with_reducible refine sX3_start (by first | assumption | exact MMz.m (by assumption) | exact MM.fr (by first | assumption | exact MMz.m (by assumption)) (by assumption) | exact MM.ext' (by assumption) (by assumption) | exact (by assumption : ∀ f', MM g w0 y nM kd (upw _ nM (.inl (0, 8, .inr (.inl f'))))) _ | exact (by assumption : ∀ (th' rf' md' : Int32), MM g w0 y nM kd (upw _ y (.inr (7, [.int th', .ref nM, .ref _, .ref _, .int rf', .int kd, .int md'])))) _ _ _) (by decide) (fun _ _ _ => ?_) (fun _ _ => ?_)
      | with_reducible refine sX3_refuse (by assumption) (by decide) (fun _ => ?_) (fun _ _ => ?_)
      | with_reducible refine sX3_isBareM (by first | assumption | exact MMz.m (by assumption) | exact MM.fr (by first | assumption | exact MMz.m (by assumption)) (by assumption) | exact MM.ext' (by assumption) (by assumption) | exact (by assumption : ∀ f', MM g w0 y nM kd (upw _ nM (.inl (0, 8, .inr (.inl f'))))) _ | exact (by assumption : ∀ (th' rf' md' : Int32), MM g w0 y nM kd (upw _ y (.inr (7, [.int th', .ref nM, .ref _, .ref _, .int rf', .int kd, .int md'])))) _ _ _) (by assumption) (by first | assumption | exact lt65 (by assumption)) ?_ (fun _ _ => ?_)
      | with_reducible refine sX3_isNone (by first | assumption | exact MMz.m (by assumption) | exact MM.fr (by first | assumption | exact MMz.m (by assumption)) (by assumption) | exact MM.ext' (by assumption) (by assumption) | exact (by assumption : ∀ f', MM g w0 y nM kd (upw _ nM (.inl (0, 8, .inr (.inl f'))))) _ | exact (by assumption : ∀ (th' rf' md' : Int32), MM g w0 y nM kd (upw _ y (.inr (7, [.int th', .ref nM, .ref _, .ref _, .int rf', .int kd, .int md'])))) _ _ _) (fun _ _ => ?_) (fun _ _ _ _ _ _ => ?_)
      | with_reducible exact vpi8n (by assumption) (by assumption)
      | with_reducible exact vpi4n (by assumption) (by assumption)
      | with_reducible exact vpi4.1
      | with_reducible exact vpi4.2.1
      | with_reducible exact vpi4.2.2.1
      | with_reducible exact vpi4.2.2.2
      | with_reducible refine go_Y (by first | assumption | exact MMz.m (by assumption) | exact MM.fr (by first | assumption | exact MMz.m (by assumption)) (by assumption) | exact MM.ext' (by assumption) (by assumption) | exact (by assumption : ∀ f', MM g w0 y nM kd (upw _ nM (.inl (0, 8, .inr (.inl f'))))) _ | exact (by assumption : ∀ (th' rf' md' : Int32), MM g w0 y nM kd (upw _ y (.inr (7, [.int th', .ref nM, .ref _, .ref _, .int rf', .int kd, .int md'])))) _ _ _) (fun _ _ _ _ _ _ => ?_)
      | with_reducible refine go_Yw (by first | assumption | exact MMz.m (by assumption) | exact MM.fr (by first | assumption | exact MMz.m (by assumption)) (by assumption) | exact MM.ext' (by assumption) (by assumption) | exact (by assumption : ∀ f', MM g w0 y nM kd (upw _ nM (.inl (0, 8, .inr (.inl f'))))) _ | exact (by assumption : ∀ (th' rf' md' : Int32), MM g w0 y nM kd (upw _ y (.inr (7, [.int th', .ref nM, .ref _, .ref _, .int rf', .int kd, .int md'])))) _ _ _) (fun _ _ _ _ _ _ => ?_)
      | with_reducible refine gl_M (by first | assumption | exact MMz.m (by assumption) | exact MM.fr (by first | assumption | exact MMz.m (by assumption)) (by assumption) | exact MM.ext' (by assumption) (by assumption) | exact (by assumption : ∀ f', MM g w0 y nM kd (upw _ nM (.inl (0, 8, .inr (.inl f'))))) _ | exact (by assumption : ∀ (th' rf' md' : Int32), MM g w0 y nM kd (upw _ y (.inr (7, [.int th', .ref nM, .ref _, .ref _, .int rf', .int kd, .int md'])))) _ _ _) ?_
      | with_reducible refine gl_Mw (by first | assumption | exact MMz.m (by assumption) | exact MM.fr (by first | assumption | exact MMz.m (by assumption)) (by assumption) | exact MM.ext' (by assumption) (by assumption) | exact (by assumption : ∀ f', MM g w0 y nM kd (upw _ nM (.inl (0, 8, .inr (.inl f'))))) _ | exact (by assumption : ∀ (th' rf' md' : Int32), MM g w0 y nM kd (upw _ y (.inr (7, [.int th', .ref nM, .ref _, .ref _, .int rf', .int kd, .int md'])))) _ _ _) ?_
      | with_reducible exact gtC (by first | assumption | exact MMz.m (by assumption) | exact MM.fr (by first | assumption | exact MMz.m (by assumption)) (by assumption) | exact MM.ext' (by assumption) (by assumption) | exact (by assumption : ∀ f', MM g w0 y nM kd (upw _ nM (.inl (0, 8, .inr (.inl f'))))) _ | exact (by assumption : ∀ (th' rf' md' : Int32), MM g w0 y nM kd (upw _ y (.inr (7, [.int th', .ref nM, .ref _, .ref _, .int rf', .int kd, .int md'])))) _ _ _) (by first | assumption | exact isY.s | exact isY.fr (by assumption) (by assumption))
      | with_reducible exact gtP (by first | assumption | exact MMz.m (by assumption) | exact MM.fr (by first | assumption | exact MMz.m (by assumption)) (by assumption) | exact MM.ext' (by assumption) (by assumption) | exact (by assumption : ∀ f', MM g w0 y nM kd (upw _ nM (.inl (0, 8, .inr (.inl f'))))) _ | exact (by assumption : ∀ (th' rf' md' : Int32), MM g w0 y nM kd (upw _ y (.inr (7, [.int th', .ref nM, .ref _, .ref _, .int rf', .int kd, .int md'])))) _ _ _) (by first | assumption | exact isY.s | exact isY.fr (by assumption) (by assumption))
      | with_reducible refine gl_Row (by first | assumption | exact CAt.row (by assumption) | exact isRow.ext (by assumption) (by assumption)) (fun _ => ?_)
      | with_reducible exact isRow.ca (by first | assumption | exact CAt.row (by assumption) | exact isRow.ext (by assumption) (by assumption))
      | with_reducible refine sGetY (by first | assumption | exact CAt.fr (by assumption) (by assumption)) (by first | assumption | exact isY.s | exact isY.fr (by assumption) (by assumption)) (by assumption) (by first | assumption | exact lt65 (by assumption)) ?_
      | with_reducible exact n4g
      | with_reducible exact n4a
      | with_reducible exact n4b
      | with_reducible exact n4c
      | with_reducible refine sX3_high (fun _ => ?_)
      | with_reducible refine sX3_low (fun _ => ?_)
      | with_reducible refine sX3_one (fun _ => ?_)
      | with_reducible refine sX3_become (by first | assumption | exact MMz.m (by assumption) | exact MM.fr (by first | assumption | exact MMz.m (by assumption)) (by assumption) | exact MM.ext' (by assumption) (by assumption) | exact (by assumption : ∀ f', MM g w0 y nM kd (upw _ nM (.inl (0, 8, .inr (.inl f'))))) _ | exact (by assumption : ∀ (th' rf' md' : Int32), MM g w0 y nM kd (upw _ y (.inr (7, [.int th', .ref nM, .ref _, .ref _, .int rf', .int kd, .int md'])))) _ _ _) (by assumption) (by assumption) (fun _ _ _ => ?_)
      | with_reducible refine sX3_no (by first | assumption | exact MMz.m (by assumption) | exact MM.fr (by first | assumption | exact MMz.m (by assumption)) (by assumption) | exact MM.ext' (by assumption) (by assumption) | exact (by assumption : ∀ f', MM g w0 y nM kd (upw _ nM (.inl (0, 8, .inr (.inl f'))))) _ | exact (by assumption : ∀ (th' rf' md' : Int32), MM g w0 y nM kd (upw _ y (.inr (7, [.int th', .ref nM, .ref _, .ref _, .int rf', .int kd, .int md'])))) _ _ _) (fun _ _ => ?_)
      | with_reducible refine sX3_fixed (by first | assumption | exact CAt.row (by assumption) | exact isRow.ext (by assumption) (by assumption)) ?_ ?_
      | with_reducible refine sX3_small (by first | assumption | exact CAt.row (by assumption) | exact isRow.ext (by assumption) (by assumption)) ?_ ?_
      | with_reducible refine sX3_make (by first | assumption | exact MMz.m (by assumption) | exact MM.fr (by first | assumption | exact MMz.m (by assumption)) (by assumption) | exact MM.ext' (by assumption) (by assumption) | exact (by assumption : ∀ f', MM g w0 y nM kd (upw _ nM (.inl (0, 8, .inr (.inl f'))))) _ | exact (by assumption : ∀ (th' rf' md' : Int32), MM g w0 y nM kd (upw _ y (.inr (7, [.int th', .ref nM, .ref _, .ref _, .int rf', .int kd, .int md'])))) _ _ _) (by assumption) (by assumption) (fun _ _ _ => ?_)
      | with_reducible refine sX3_valid (by first | assumption | exact CAt.row (by assumption) | exact isRow.ext (by assumption) (by assumption)) ?_ ?_
      | with_reducible refine sX3_same (by first | assumption | exact CAt.row (by assumption) | exact isRow.ext (by assumption) (by assumption)) (by first | assumption | exact CAt.row (by assumption) | exact isRow.ext (by assumption) (by assumption)) (fun _ _ => ?_)
      | with_reducible refine sX3_aroundNow (by first | assumption | exact CAt.row (by assumption) | exact isRow.ext (by assumption) (by assumption)) (by assumption) (by assumption) (fun _ => ?_)
      | with_reducible refine sX3_whoNow (by first | assumption | exact MMz.m (by assumption) | exact MM.fr (by first | assumption | exact MMz.m (by assumption)) (by assumption) | exact MM.ext' (by assumption) (by assumption) | exact (by assumption : ∀ f', MM g w0 y nM kd (upw _ nM (.inl (0, 8, .inr (.inl f'))))) _ | exact (by assumption : ∀ (th' rf' md' : Int32), MM g w0 y nM kd (upw _ y (.inr (7, [.int th', .ref nM, .ref _, .ref _, .int rf', .int kd, .int md'])))) _ _ _) (by assumption) (by assumption) (fun _ => ?_)
      | with_reducible refine sX3_whichNow_ (by first | assumption | exact MMz.m (by assumption) | exact MM.fr (by first | assumption | exact MMz.m (by assumption)) (by assumption) | exact MM.ext' (by assumption) (by assumption) | exact (by assumption : ∀ f', MM g w0 y nM kd (upw _ nM (.inl (0, 8, .inr (.inl f'))))) _ | exact (by assumption : ∀ (th' rf' md' : Int32), MM g w0 y nM kd (upw _ y (.inr (7, [.int th', .ref nM, .ref _, .ref _, .int rf', .int kd, .int md'])))) _ _ _) (fun _ => ?_)
      | with_reducible refine sX3_likesNow (by first | assumption | exact MMz.m (by assumption) | exact MM.fr (by first | assumption | exact MMz.m (by assumption)) (by assumption) | exact MM.ext' (by assumption) (by assumption) | exact (by assumption : ∀ f', MM g w0 y nM kd (upw _ nM (.inl (0, 8, .inr (.inl f'))))) _ | exact (by assumption : ∀ (th' rf' md' : Int32), MM g w0 y nM kd (upw _ y (.inr (7, [.int th', .ref nM, .ref _, .ref _, .int rf', .int kd, .int md'])))) _ _ _) (by assumption) (by assumption) (by assumption) (fun _ => ?_)
      | with_reducible refine sX3_isNoPair (by first | assumption | exact MMz.m (by assumption) | exact MM.fr (by first | assumption | exact MMz.m (by assumption)) (by assumption) | exact MM.ext' (by assumption) (by assumption) | exact (by assumption : ∀ f', MM g w0 y nM kd (upw _ nM (.inl (0, 8, .inr (.inl f'))))) _ | exact (by assumption : ∀ (th' rf' md' : Int32), MM g w0 y nM kd (upw _ y (.inr (7, [.int th', .ref nM, .ref _, .ref _, .int rf', .int kd, .int md'])))) _ _ _) (fun _ _ => ?_) (fun _ _ _ _ _ _ _ _ => ?_)
      | with_reducible refine sX3_isNoEnd_ (by first | assumption | exact MMz.m (by assumption) | exact MM.fr (by first | assumption | exact MMz.m (by assumption)) (by assumption) | exact MM.ext' (by assumption) (by assumption) | exact (by assumption : ∀ f', MM g w0 y nM kd (upw _ nM (.inl (0, 8, .inr (.inl f'))))) _ | exact (by assumption : ∀ (th' rf' md' : Int32), MM g w0 y nM kd (upw _ y (.inr (7, [.int th', .ref nM, .ref _, .ref _, .int rf', .int kd, .int md'])))) _ _ _) (fun _ _ => ?_) (fun _ _ _ _ _ _ _ _ => ?_)
      | simp only [eX3_isAhead_0, eX3_isAhead_1, eX3_isAhead_2, eX3_isAhead_3, eX3_isAhead_5, eX3_isAhead_6, eX3_isAhead_9, eX3_isAhead_10, eX3_isAhead_10N, eX3_isAhead_11, eX3_isAhead_14, eX3_isAhead_15, eX3_isAhead_18N, eX3_isAhead_18R, eX3_isAhead_21, eX3_isAhead_21N, eX3_isAhead_22, eX3_isAhead_25, eX3_isAhead_26, eX3_isAhead_29N, eX3_isAhead_29R, eX3_isAhead_32RR, eX3_isAhead_32NR, eX3_isAhead_32RN, eX3_isAhead_32NN, eX3_isAhead_35, eX3_isAhead_36, eX3_isAhead_37, eX3_isAhead_40, eX3_isAhead_43, eX3_isAhead_44, ite_le, n45, n54, true_or, or_true, false_or, or_false, false_and, and_false, kx_l, kx_r, go_s, gl_s, gi_s, gb_s2, gb_s3, gq_s, wt_nil, wt_int, wt_long, wt_ref, wt_null, nl_int, nl_long, nl_ref, nl_null, nl_none, rf_n, rf_s, rf_st, tl_s, tl_n, g0, gS, ex1, nb_b, nb_0, nb_1, nf_i, nf_l, nf_ra, nf_ro, nf_na, nf_no, nf_b0, nf_z0, t45_4, t45_5, true_and, and_true, List.set_cons_zero, List.set_cons_succ, List.length_cons, List.length_nil, rd_s, upw_s, ne_eq, not_false_eq_true, Nat.zero_add, Nat.add_zero, if_true, if_false, eq_self, m10, n4e, upw2q]
      | split
      | with_reducible intro _
      | omega
  | succ d ih =>
    intro i2 i3 k m z0 zi hm hk hs
    rw [eX3_isAhead_4]
    repeat' first
      | with_reducible assumption
      | with_reducible refine And.intro ?_ ?_
      | with_reducible exact ih _ _ _ _ (ic_p (by assumption) (by assumption)) (by first | assumption | exact bor (by assumption) (by assumption)) (ic_s (by assumption) (by assumption)) (by first | assumption | omega) (by first | assumption | omega)
      | with_reducible refine sGetP (by assumption) (by first | assumption | exact isY.s | exact isY.fr (by assumption) (by assumption)) (by assumption) (by first | assumption | exact Int32.lt_trans (by assumption) (by assumption)) (fun _ _ => ?_)
      | with_reducible exact hQ _
      | with_reducible exact nbz (by assumption)
      | with_reducible exact absurd (by assumption) n10'
      | with_reducible refine sX3_isNoNumber ?_ (fun _ _ => ?_)
      | with_reducible refine sX3_isNoCard ?_ (fun _ _ => ?_)
      | with_reducible refine sX3_isNoEnd ?_ (fun _ _ => ?_)
      | with_reducible refine sX3_isIn (fun _ _ => ?_) ?_
      | with_reducible refine sX3_start (by first | assumption | exact MMz.m (by assumption) | exact MM.fr (by first | assumption | exact MMz.m (by assumption)) (by assumption) | exact MM.ext' (by assumption) (by assumption) | exact (by assumption : ∀ f', MM g w0 y nM kd (upw _ nM (.inl (0, 8, .inr (.inl f'))))) _ | exact (by assumption : ∀ (th' rf' md' : Int32), MM g w0 y nM kd (upw _ y (.inr (7, [.int th', .ref nM, .ref _, .ref _, .int rf', .int kd, .int md'])))) _ _ _) (by decide) (fun _ _ _ => ?_) (fun _ _ => ?_)
      | with_reducible refine sX3_refuse (by assumption) (by decide) (fun _ => ?_) (fun _ _ => ?_)
      | with_reducible refine sX3_isBareM (by first | assumption | exact MMz.m (by assumption) | exact MM.fr (by first | assumption | exact MMz.m (by assumption)) (by assumption) | exact MM.ext' (by assumption) (by assumption) | exact (by assumption : ∀ f', MM g w0 y nM kd (upw _ nM (.inl (0, 8, .inr (.inl f'))))) _ | exact (by assumption : ∀ (th' rf' md' : Int32), MM g w0 y nM kd (upw _ y (.inr (7, [.int th', .ref nM, .ref _, .ref _, .int rf', .int kd, .int md'])))) _ _ _) (by assumption) (by first | assumption | exact lt65 (by assumption)) ?_ (fun _ _ => ?_)
      | with_reducible refine sX3_isNone (by first | assumption | exact MMz.m (by assumption) | exact MM.fr (by first | assumption | exact MMz.m (by assumption)) (by assumption) | exact MM.ext' (by assumption) (by assumption) | exact (by assumption : ∀ f', MM g w0 y nM kd (upw _ nM (.inl (0, 8, .inr (.inl f'))))) _ | exact (by assumption : ∀ (th' rf' md' : Int32), MM g w0 y nM kd (upw _ y (.inr (7, [.int th', .ref nM, .ref _, .ref _, .int rf', .int kd, .int md'])))) _ _ _) (fun _ _ => ?_) (fun _ _ _ _ _ _ => ?_)
      | with_reducible exact vpi8n (by assumption) (by assumption)
      | with_reducible exact vpi4n (by assumption) (by assumption)
      | with_reducible exact vpi4.1
      | with_reducible exact vpi4.2.1
      | with_reducible exact vpi4.2.2.1
      | with_reducible exact vpi4.2.2.2
      | with_reducible refine go_Y (by first | assumption | exact MMz.m (by assumption) | exact MM.fr (by first | assumption | exact MMz.m (by assumption)) (by assumption) | exact MM.ext' (by assumption) (by assumption) | exact (by assumption : ∀ f', MM g w0 y nM kd (upw _ nM (.inl (0, 8, .inr (.inl f'))))) _ | exact (by assumption : ∀ (th' rf' md' : Int32), MM g w0 y nM kd (upw _ y (.inr (7, [.int th', .ref nM, .ref _, .ref _, .int rf', .int kd, .int md'])))) _ _ _) (fun _ _ _ _ _ _ => ?_)
      | with_reducible refine go_Yw (by first | assumption | exact MMz.m (by assumption) | exact MM.fr (by first | assumption | exact MMz.m (by assumption)) (by assumption) | exact MM.ext' (by assumption) (by assumption) | exact (by assumption : ∀ f', MM g w0 y nM kd (upw _ nM (.inl (0, 8, .inr (.inl f'))))) _ | exact (by assumption : ∀ (th' rf' md' : Int32), MM g w0 y nM kd (upw _ y (.inr (7, [.int th', .ref nM, .ref _, .ref _, .int rf', .int kd, .int md'])))) _ _ _) (fun _ _ _ _ _ _ => ?_)
      | with_reducible refine gl_M (by first | assumption | exact MMz.m (by assumption) | exact MM.fr (by first | assumption | exact MMz.m (by assumption)) (by assumption) | exact MM.ext' (by assumption) (by assumption) | exact (by assumption : ∀ f', MM g w0 y nM kd (upw _ nM (.inl (0, 8, .inr (.inl f'))))) _ | exact (by assumption : ∀ (th' rf' md' : Int32), MM g w0 y nM kd (upw _ y (.inr (7, [.int th', .ref nM, .ref _, .ref _, .int rf', .int kd, .int md'])))) _ _ _) ?_
      | with_reducible refine gl_Mw (by first | assumption | exact MMz.m (by assumption) | exact MM.fr (by first | assumption | exact MMz.m (by assumption)) (by assumption) | exact MM.ext' (by assumption) (by assumption) | exact (by assumption : ∀ f', MM g w0 y nM kd (upw _ nM (.inl (0, 8, .inr (.inl f'))))) _ | exact (by assumption : ∀ (th' rf' md' : Int32), MM g w0 y nM kd (upw _ y (.inr (7, [.int th', .ref nM, .ref _, .ref _, .int rf', .int kd, .int md'])))) _ _ _) ?_
      | with_reducible exact gtC (by first | assumption | exact MMz.m (by assumption) | exact MM.fr (by first | assumption | exact MMz.m (by assumption)) (by assumption) | exact MM.ext' (by assumption) (by assumption) | exact (by assumption : ∀ f', MM g w0 y nM kd (upw _ nM (.inl (0, 8, .inr (.inl f'))))) _ | exact (by assumption : ∀ (th' rf' md' : Int32), MM g w0 y nM kd (upw _ y (.inr (7, [.int th', .ref nM, .ref _, .ref _, .int rf', .int kd, .int md'])))) _ _ _) (by first | assumption | exact isY.s | exact isY.fr (by assumption) (by assumption))
      | with_reducible exact gtP (by first | assumption | exact MMz.m (by assumption) | exact MM.fr (by first | assumption | exact MMz.m (by assumption)) (by assumption) | exact MM.ext' (by assumption) (by assumption) | exact (by assumption : ∀ f', MM g w0 y nM kd (upw _ nM (.inl (0, 8, .inr (.inl f'))))) _ | exact (by assumption : ∀ (th' rf' md' : Int32), MM g w0 y nM kd (upw _ y (.inr (7, [.int th', .ref nM, .ref _, .ref _, .int rf', .int kd, .int md'])))) _ _ _) (by first | assumption | exact isY.s | exact isY.fr (by assumption) (by assumption))
      | with_reducible refine gl_Row (by first | assumption | exact CAt.row (by assumption) | exact isRow.ext (by assumption) (by assumption)) (fun _ => ?_)
      | with_reducible exact isRow.ca (by first | assumption | exact CAt.row (by assumption) | exact isRow.ext (by assumption) (by assumption))
      | with_reducible refine sGetY (by first | assumption | exact CAt.fr (by assumption) (by assumption)) (by first | assumption | exact isY.s | exact isY.fr (by assumption) (by assumption)) (by assumption) (by first | assumption | exact lt65 (by assumption)) ?_
      | with_reducible exact n4g
      | with_reducible exact n4a
      | with_reducible exact n4b
      | with_reducible exact n4c
      | with_reducible refine sX3_high (fun _ => ?_)
      | with_reducible refine sX3_low (fun _ => ?_)
      | with_reducible refine sX3_one (fun _ => ?_)
      | with_reducible refine sX3_become (by first | assumption | exact MMz.m (by assumption) | exact MM.fr (by first | assumption | exact MMz.m (by assumption)) (by assumption) | exact MM.ext' (by assumption) (by assumption) | exact (by assumption : ∀ f', MM g w0 y nM kd (upw _ nM (.inl (0, 8, .inr (.inl f'))))) _ | exact (by assumption : ∀ (th' rf' md' : Int32), MM g w0 y nM kd (upw _ y (.inr (7, [.int th', .ref nM, .ref _, .ref _, .int rf', .int kd, .int md'])))) _ _ _) (by assumption) (by assumption) (fun _ _ _ => ?_)
      | with_reducible refine sX3_no (by first | assumption | exact MMz.m (by assumption) | exact MM.fr (by first | assumption | exact MMz.m (by assumption)) (by assumption) | exact MM.ext' (by assumption) (by assumption) | exact (by assumption : ∀ f', MM g w0 y nM kd (upw _ nM (.inl (0, 8, .inr (.inl f'))))) _ | exact (by assumption : ∀ (th' rf' md' : Int32), MM g w0 y nM kd (upw _ y (.inr (7, [.int th', .ref nM, .ref _, .ref _, .int rf', .int kd, .int md'])))) _ _ _) (fun _ _ => ?_)
      | with_reducible refine sX3_fixed (by first | assumption | exact CAt.row (by assumption) | exact isRow.ext (by assumption) (by assumption)) ?_ ?_
      | with_reducible refine sX3_small (by first | assumption | exact CAt.row (by assumption) | exact isRow.ext (by assumption) (by assumption)) ?_ ?_
      | with_reducible refine sX3_make (by first | assumption | exact MMz.m (by assumption) | exact MM.fr (by first | assumption | exact MMz.m (by assumption)) (by assumption) | exact MM.ext' (by assumption) (by assumption) | exact (by assumption : ∀ f', MM g w0 y nM kd (upw _ nM (.inl (0, 8, .inr (.inl f'))))) _ | exact (by assumption : ∀ (th' rf' md' : Int32), MM g w0 y nM kd (upw _ y (.inr (7, [.int th', .ref nM, .ref _, .ref _, .int rf', .int kd, .int md'])))) _ _ _) (by assumption) (by assumption) (fun _ _ _ => ?_)
      | with_reducible refine sX3_valid (by first | assumption | exact CAt.row (by assumption) | exact isRow.ext (by assumption) (by assumption)) ?_ ?_
      | with_reducible refine sX3_same (by first | assumption | exact CAt.row (by assumption) | exact isRow.ext (by assumption) (by assumption)) (by first | assumption | exact CAt.row (by assumption) | exact isRow.ext (by assumption) (by assumption)) (fun _ _ => ?_)
      | with_reducible refine sX3_aroundNow (by first | assumption | exact CAt.row (by assumption) | exact isRow.ext (by assumption) (by assumption)) (by assumption) (by assumption) (fun _ => ?_)
      | with_reducible refine sX3_whoNow (by first | assumption | exact MMz.m (by assumption) | exact MM.fr (by first | assumption | exact MMz.m (by assumption)) (by assumption) | exact MM.ext' (by assumption) (by assumption) | exact (by assumption : ∀ f', MM g w0 y nM kd (upw _ nM (.inl (0, 8, .inr (.inl f'))))) _ | exact (by assumption : ∀ (th' rf' md' : Int32), MM g w0 y nM kd (upw _ y (.inr (7, [.int th', .ref nM, .ref _, .ref _, .int rf', .int kd, .int md'])))) _ _ _) (by assumption) (by assumption) (fun _ => ?_)
      | with_reducible refine sX3_whichNow_ (by first | assumption | exact MMz.m (by assumption) | exact MM.fr (by first | assumption | exact MMz.m (by assumption)) (by assumption) | exact MM.ext' (by assumption) (by assumption) | exact (by assumption : ∀ f', MM g w0 y nM kd (upw _ nM (.inl (0, 8, .inr (.inl f'))))) _ | exact (by assumption : ∀ (th' rf' md' : Int32), MM g w0 y nM kd (upw _ y (.inr (7, [.int th', .ref nM, .ref _, .ref _, .int rf', .int kd, .int md'])))) _ _ _) (fun _ => ?_)
      | with_reducible refine sX3_likesNow (by first | assumption | exact MMz.m (by assumption) | exact MM.fr (by first | assumption | exact MMz.m (by assumption)) (by assumption) | exact MM.ext' (by assumption) (by assumption) | exact (by assumption : ∀ f', MM g w0 y nM kd (upw _ nM (.inl (0, 8, .inr (.inl f'))))) _ | exact (by assumption : ∀ (th' rf' md' : Int32), MM g w0 y nM kd (upw _ y (.inr (7, [.int th', .ref nM, .ref _, .ref _, .int rf', .int kd, .int md'])))) _ _ _) (by assumption) (by assumption) (by assumption) (fun _ => ?_)
      | with_reducible refine sX3_isNoPair (by first | assumption | exact MMz.m (by assumption) | exact MM.fr (by first | assumption | exact MMz.m (by assumption)) (by assumption) | exact MM.ext' (by assumption) (by assumption) | exact (by assumption : ∀ f', MM g w0 y nM kd (upw _ nM (.inl (0, 8, .inr (.inl f'))))) _ | exact (by assumption : ∀ (th' rf' md' : Int32), MM g w0 y nM kd (upw _ y (.inr (7, [.int th', .ref nM, .ref _, .ref _, .int rf', .int kd, .int md'])))) _ _ _) (fun _ _ => ?_) (fun _ _ _ _ _ _ _ _ => ?_)
      | with_reducible refine sX3_isNoEnd_ (by first | assumption | exact MMz.m (by assumption) | exact MM.fr (by first | assumption | exact MMz.m (by assumption)) (by assumption) | exact MM.ext' (by assumption) (by assumption) | exact (by assumption : ∀ f', MM g w0 y nM kd (upw _ nM (.inl (0, 8, .inr (.inl f'))))) _ | exact (by assumption : ∀ (th' rf' md' : Int32), MM g w0 y nM kd (upw _ y (.inr (7, [.int th', .ref nM, .ref _, .ref _, .int rf', .int kd, .int md'])))) _ _ _) (fun _ _ => ?_) (fun _ _ _ _ _ _ _ _ => ?_)
      | simp only [eX3_isAhead_0, eX3_isAhead_1, eX3_isAhead_2, eX3_isAhead_3, eX3_isAhead_5, eX3_isAhead_6, eX3_isAhead_9, eX3_isAhead_10, eX3_isAhead_10N, eX3_isAhead_11, eX3_isAhead_14, eX3_isAhead_15, eX3_isAhead_18N, eX3_isAhead_18R, eX3_isAhead_21, eX3_isAhead_21N, eX3_isAhead_22, eX3_isAhead_25, eX3_isAhead_26, eX3_isAhead_29N, eX3_isAhead_29R, eX3_isAhead_32RR, eX3_isAhead_32NR, eX3_isAhead_32RN, eX3_isAhead_32NN, eX3_isAhead_35, eX3_isAhead_36, eX3_isAhead_37, eX3_isAhead_40, eX3_isAhead_43, eX3_isAhead_44, ite_le, n45, n54, true_or, or_true, false_or, or_false, false_and, and_false, kx_l, kx_r, go_s, gl_s, gi_s, gb_s2, gb_s3, gq_s, wt_nil, wt_int, wt_long, wt_ref, wt_null, nl_int, nl_long, nl_ref, nl_null, nl_none, rf_n, rf_s, rf_st, tl_s, tl_n, g0, gS, ex1, nb_b, nb_0, nb_1, nf_i, nf_l, nf_ra, nf_ro, nf_na, nf_no, nf_b0, nf_z0, t45_4, t45_5, true_and, and_true, List.set_cons_zero, List.set_cons_succ, List.length_cons, List.length_nil, rd_s, upw_s, ne_eq, not_false_eq_true, Nat.zero_add, Nat.add_zero, if_true, if_false, eq_self, m10, n4e, upw2q]
      | split
      | with_reducible intro _
      | omega
theorem pz_m {a n : Int32} (hP : PN g w y n) (h : a < n) : (a : Int32).toInt - (0 : Int32).toInt ≤ ((70 : Nat) : Int) := by
  have k := hP.bd
  have q := i32_lt h
  have e : (0 : Int32).toInt = 0 := rfl
  omega
set_option maxHeartbeats 4000000 in
theorem sX3_isAhead {a n : Int32} (hM : MM g w0 y nM kd w) (hP : PN g w y n) (k0 : ¬ a < 0) (k1 : a < n) (hQ : ∀ v : Int32, Q (.inl (some (.int v))) w) : WP (MX3_isAhead g) Q (0, [some (.ref y), some (.int a), none, none], [], w, 0, 0) := by
  repeat' first
    | with_reducible assumption
    | with_reducible refine And.intro ?_ ?_
    | with_reducible exact lX3_isAhead_4 hM hP k0 k1 hQ 70 _ _ _ _ (by first | decide | assumption) (Or.inl rfl) (pz_m hP (by assumption)) (by first | decide | omega) (by first | decide | omega)
    | with_reducible refine sGetP (by assumption) (by first | assumption | exact isY.s | exact isY.fr (by assumption) (by assumption)) (by assumption) (by first | assumption | exact Int32.lt_trans (by assumption) (by assumption)) (fun _ _ => ?_)
    | with_reducible exact hQ _
    | with_reducible exact nbz (by assumption)
    | with_reducible exact absurd (by assumption) n10'
    | with_reducible refine sX3_isNoNumber ?_ (fun _ _ => ?_)
    | with_reducible refine sX3_isNoCard ?_ (fun _ _ => ?_)
    | with_reducible refine sX3_isNoEnd ?_ (fun _ _ => ?_)
    | with_reducible refine sX3_isIn (fun _ _ => ?_) ?_
    | with_reducible refine sX3_start (by first | assumption | exact MMz.m (by assumption) | exact MM.fr (by first | assumption | exact MMz.m (by assumption)) (by assumption) | exact MM.ext' (by assumption) (by assumption) | exact (by assumption : ∀ f', MM g w0 y nM kd (upw _ nM (.inl (0, 8, .inr (.inl f'))))) _ | exact (by assumption : ∀ (th' rf' md' : Int32), MM g w0 y nM kd (upw _ y (.inr (7, [.int th', .ref nM, .ref _, .ref _, .int rf', .int kd, .int md'])))) _ _ _) (by decide) (fun _ _ _ => ?_) (fun _ _ => ?_)
    | with_reducible refine sX3_refuse (by assumption) (by decide) (fun _ => ?_) (fun _ _ => ?_)
    | with_reducible refine sX3_isBareM (by first | assumption | exact MMz.m (by assumption) | exact MM.fr (by first | assumption | exact MMz.m (by assumption)) (by assumption) | exact MM.ext' (by assumption) (by assumption) | exact (by assumption : ∀ f', MM g w0 y nM kd (upw _ nM (.inl (0, 8, .inr (.inl f'))))) _ | exact (by assumption : ∀ (th' rf' md' : Int32), MM g w0 y nM kd (upw _ y (.inr (7, [.int th', .ref nM, .ref _, .ref _, .int rf', .int kd, .int md'])))) _ _ _) (by assumption) (by first | assumption | exact lt65 (by assumption)) ?_ (fun _ _ => ?_)
    | with_reducible refine sX3_isNone (by first | assumption | exact MMz.m (by assumption) | exact MM.fr (by first | assumption | exact MMz.m (by assumption)) (by assumption) | exact MM.ext' (by assumption) (by assumption) | exact (by assumption : ∀ f', MM g w0 y nM kd (upw _ nM (.inl (0, 8, .inr (.inl f'))))) _ | exact (by assumption : ∀ (th' rf' md' : Int32), MM g w0 y nM kd (upw _ y (.inr (7, [.int th', .ref nM, .ref _, .ref _, .int rf', .int kd, .int md'])))) _ _ _) (fun _ _ => ?_) (fun _ _ _ _ _ _ => ?_)
    | with_reducible exact vpi8n (by assumption) (by assumption)
    | with_reducible exact vpi4n (by assumption) (by assumption)
    | with_reducible exact vpi4.1
    | with_reducible exact vpi4.2.1
    | with_reducible exact vpi4.2.2.1
    | with_reducible exact vpi4.2.2.2
    | with_reducible refine go_Y (by first | assumption | exact MMz.m (by assumption) | exact MM.fr (by first | assumption | exact MMz.m (by assumption)) (by assumption) | exact MM.ext' (by assumption) (by assumption) | exact (by assumption : ∀ f', MM g w0 y nM kd (upw _ nM (.inl (0, 8, .inr (.inl f'))))) _ | exact (by assumption : ∀ (th' rf' md' : Int32), MM g w0 y nM kd (upw _ y (.inr (7, [.int th', .ref nM, .ref _, .ref _, .int rf', .int kd, .int md'])))) _ _ _) (fun _ _ _ _ _ _ => ?_)
    | with_reducible refine go_Yw (by first | assumption | exact MMz.m (by assumption) | exact MM.fr (by first | assumption | exact MMz.m (by assumption)) (by assumption) | exact MM.ext' (by assumption) (by assumption) | exact (by assumption : ∀ f', MM g w0 y nM kd (upw _ nM (.inl (0, 8, .inr (.inl f'))))) _ | exact (by assumption : ∀ (th' rf' md' : Int32), MM g w0 y nM kd (upw _ y (.inr (7, [.int th', .ref nM, .ref _, .ref _, .int rf', .int kd, .int md'])))) _ _ _) (fun _ _ _ _ _ _ => ?_)
    | with_reducible refine gl_M (by first | assumption | exact MMz.m (by assumption) | exact MM.fr (by first | assumption | exact MMz.m (by assumption)) (by assumption) | exact MM.ext' (by assumption) (by assumption) | exact (by assumption : ∀ f', MM g w0 y nM kd (upw _ nM (.inl (0, 8, .inr (.inl f'))))) _ | exact (by assumption : ∀ (th' rf' md' : Int32), MM g w0 y nM kd (upw _ y (.inr (7, [.int th', .ref nM, .ref _, .ref _, .int rf', .int kd, .int md'])))) _ _ _) ?_
    | with_reducible refine gl_Mw (by first | assumption | exact MMz.m (by assumption) | exact MM.fr (by first | assumption | exact MMz.m (by assumption)) (by assumption) | exact MM.ext' (by assumption) (by assumption) | exact (by assumption : ∀ f', MM g w0 y nM kd (upw _ nM (.inl (0, 8, .inr (.inl f'))))) _ | exact (by assumption : ∀ (th' rf' md' : Int32), MM g w0 y nM kd (upw _ y (.inr (7, [.int th', .ref nM, .ref _, .ref _, .int rf', .int kd, .int md'])))) _ _ _) ?_
    | with_reducible exact gtC (by first | assumption | exact MMz.m (by assumption) | exact MM.fr (by first | assumption | exact MMz.m (by assumption)) (by assumption) | exact MM.ext' (by assumption) (by assumption) | exact (by assumption : ∀ f', MM g w0 y nM kd (upw _ nM (.inl (0, 8, .inr (.inl f'))))) _ | exact (by assumption : ∀ (th' rf' md' : Int32), MM g w0 y nM kd (upw _ y (.inr (7, [.int th', .ref nM, .ref _, .ref _, .int rf', .int kd, .int md'])))) _ _ _) (by first | assumption | exact isY.s | exact isY.fr (by assumption) (by assumption))
    | with_reducible exact gtP (by first | assumption | exact MMz.m (by assumption) | exact MM.fr (by first | assumption | exact MMz.m (by assumption)) (by assumption) | exact MM.ext' (by assumption) (by assumption) | exact (by assumption : ∀ f', MM g w0 y nM kd (upw _ nM (.inl (0, 8, .inr (.inl f'))))) _ | exact (by assumption : ∀ (th' rf' md' : Int32), MM g w0 y nM kd (upw _ y (.inr (7, [.int th', .ref nM, .ref _, .ref _, .int rf', .int kd, .int md'])))) _ _ _) (by first | assumption | exact isY.s | exact isY.fr (by assumption) (by assumption))
    | with_reducible refine gl_Row (by first | assumption | exact CAt.row (by assumption) | exact isRow.ext (by assumption) (by assumption)) (fun _ => ?_)
    | with_reducible exact isRow.ca (by first | assumption | exact CAt.row (by assumption) | exact isRow.ext (by assumption) (by assumption))
    | with_reducible refine sGetY (by first | assumption | exact CAt.fr (by assumption) (by assumption)) (by first | assumption | exact isY.s | exact isY.fr (by assumption) (by assumption)) (by assumption) (by first | assumption | exact lt65 (by assumption)) ?_
    | with_reducible exact n4g
    | with_reducible exact n4a
    | with_reducible exact n4b
    | with_reducible exact n4c
    | with_reducible refine sX3_high (fun _ => ?_)
    | with_reducible refine sX3_low (fun _ => ?_)
    | with_reducible refine sX3_one (fun _ => ?_)
    | with_reducible refine sX3_become (by first | assumption | exact MMz.m (by assumption) | exact MM.fr (by first | assumption | exact MMz.m (by assumption)) (by assumption) | exact MM.ext' (by assumption) (by assumption) | exact (by assumption : ∀ f', MM g w0 y nM kd (upw _ nM (.inl (0, 8, .inr (.inl f'))))) _ | exact (by assumption : ∀ (th' rf' md' : Int32), MM g w0 y nM kd (upw _ y (.inr (7, [.int th', .ref nM, .ref _, .ref _, .int rf', .int kd, .int md'])))) _ _ _) (by assumption) (by assumption) (fun _ _ _ => ?_)
    | with_reducible refine sX3_no (by first | assumption | exact MMz.m (by assumption) | exact MM.fr (by first | assumption | exact MMz.m (by assumption)) (by assumption) | exact MM.ext' (by assumption) (by assumption) | exact (by assumption : ∀ f', MM g w0 y nM kd (upw _ nM (.inl (0, 8, .inr (.inl f'))))) _ | exact (by assumption : ∀ (th' rf' md' : Int32), MM g w0 y nM kd (upw _ y (.inr (7, [.int th', .ref nM, .ref _, .ref _, .int rf', .int kd, .int md'])))) _ _ _) (fun _ _ => ?_)
    | with_reducible refine sX3_fixed (by first | assumption | exact CAt.row (by assumption) | exact isRow.ext (by assumption) (by assumption)) ?_ ?_
    | with_reducible refine sX3_small (by first | assumption | exact CAt.row (by assumption) | exact isRow.ext (by assumption) (by assumption)) ?_ ?_
    | with_reducible refine sX3_make (by first | assumption | exact MMz.m (by assumption) | exact MM.fr (by first | assumption | exact MMz.m (by assumption)) (by assumption) | exact MM.ext' (by assumption) (by assumption) | exact (by assumption : ∀ f', MM g w0 y nM kd (upw _ nM (.inl (0, 8, .inr (.inl f'))))) _ | exact (by assumption : ∀ (th' rf' md' : Int32), MM g w0 y nM kd (upw _ y (.inr (7, [.int th', .ref nM, .ref _, .ref _, .int rf', .int kd, .int md'])))) _ _ _) (by assumption) (by assumption) (fun _ _ _ => ?_)
    | with_reducible refine sX3_valid (by first | assumption | exact CAt.row (by assumption) | exact isRow.ext (by assumption) (by assumption)) ?_ ?_
    | with_reducible refine sX3_same (by first | assumption | exact CAt.row (by assumption) | exact isRow.ext (by assumption) (by assumption)) (by first | assumption | exact CAt.row (by assumption) | exact isRow.ext (by assumption) (by assumption)) (fun _ _ => ?_)
    | with_reducible refine sX3_aroundNow (by first | assumption | exact CAt.row (by assumption) | exact isRow.ext (by assumption) (by assumption)) (by assumption) (by assumption) (fun _ => ?_)
    | with_reducible refine sX3_whoNow (by first | assumption | exact MMz.m (by assumption) | exact MM.fr (by first | assumption | exact MMz.m (by assumption)) (by assumption) | exact MM.ext' (by assumption) (by assumption) | exact (by assumption : ∀ f', MM g w0 y nM kd (upw _ nM (.inl (0, 8, .inr (.inl f'))))) _ | exact (by assumption : ∀ (th' rf' md' : Int32), MM g w0 y nM kd (upw _ y (.inr (7, [.int th', .ref nM, .ref _, .ref _, .int rf', .int kd, .int md'])))) _ _ _) (by assumption) (by assumption) (fun _ => ?_)
    | with_reducible refine sX3_whichNow_ (by first | assumption | exact MMz.m (by assumption) | exact MM.fr (by first | assumption | exact MMz.m (by assumption)) (by assumption) | exact MM.ext' (by assumption) (by assumption) | exact (by assumption : ∀ f', MM g w0 y nM kd (upw _ nM (.inl (0, 8, .inr (.inl f'))))) _ | exact (by assumption : ∀ (th' rf' md' : Int32), MM g w0 y nM kd (upw _ y (.inr (7, [.int th', .ref nM, .ref _, .ref _, .int rf', .int kd, .int md'])))) _ _ _) (fun _ => ?_)
    | with_reducible refine sX3_likesNow (by first | assumption | exact MMz.m (by assumption) | exact MM.fr (by first | assumption | exact MMz.m (by assumption)) (by assumption) | exact MM.ext' (by assumption) (by assumption) | exact (by assumption : ∀ f', MM g w0 y nM kd (upw _ nM (.inl (0, 8, .inr (.inl f'))))) _ | exact (by assumption : ∀ (th' rf' md' : Int32), MM g w0 y nM kd (upw _ y (.inr (7, [.int th', .ref nM, .ref _, .ref _, .int rf', .int kd, .int md'])))) _ _ _) (by assumption) (by assumption) (by assumption) (fun _ => ?_)
    | with_reducible refine sX3_isNoPair (by first | assumption | exact MMz.m (by assumption) | exact MM.fr (by first | assumption | exact MMz.m (by assumption)) (by assumption) | exact MM.ext' (by assumption) (by assumption) | exact (by assumption : ∀ f', MM g w0 y nM kd (upw _ nM (.inl (0, 8, .inr (.inl f'))))) _ | exact (by assumption : ∀ (th' rf' md' : Int32), MM g w0 y nM kd (upw _ y (.inr (7, [.int th', .ref nM, .ref _, .ref _, .int rf', .int kd, .int md'])))) _ _ _) (fun _ _ => ?_) (fun _ _ _ _ _ _ _ _ => ?_)
    | with_reducible refine sX3_isNoEnd_ (by first | assumption | exact MMz.m (by assumption) | exact MM.fr (by first | assumption | exact MMz.m (by assumption)) (by assumption) | exact MM.ext' (by assumption) (by assumption) | exact (by assumption : ∀ f', MM g w0 y nM kd (upw _ nM (.inl (0, 8, .inr (.inl f'))))) _ | exact (by assumption : ∀ (th' rf' md' : Int32), MM g w0 y nM kd (upw _ y (.inr (7, [.int th', .ref nM, .ref _, .ref _, .int rf', .int kd, .int md'])))) _ _ _) (fun _ _ => ?_) (fun _ _ _ _ _ _ _ _ => ?_)
    | simp only [eX3_isAhead_0, eX3_isAhead_1, eX3_isAhead_2, eX3_isAhead_3, eX3_isAhead_5, eX3_isAhead_6, eX3_isAhead_9, eX3_isAhead_10, eX3_isAhead_10N, eX3_isAhead_11, eX3_isAhead_14, eX3_isAhead_15, eX3_isAhead_18N, eX3_isAhead_18R, eX3_isAhead_21, eX3_isAhead_21N, eX3_isAhead_22, eX3_isAhead_25, eX3_isAhead_26, eX3_isAhead_29N, eX3_isAhead_29R, eX3_isAhead_32RR, eX3_isAhead_32NR, eX3_isAhead_32RN, eX3_isAhead_32NN, eX3_isAhead_35, eX3_isAhead_36, eX3_isAhead_37, eX3_isAhead_40, eX3_isAhead_43, eX3_isAhead_44, ite_le, n45, n54, true_or, or_true, false_or, or_false, false_and, and_false, kx_l, kx_r, go_s, gl_s, gi_s, gb_s2, gb_s3, gq_s, wt_nil, wt_int, wt_long, wt_ref, wt_null, nl_int, nl_long, nl_ref, nl_null, nl_none, rf_n, rf_s, rf_st, tl_s, tl_n, g0, gS, ex1, nb_b, nb_0, nb_1, nf_i, nf_l, nf_ra, nf_ro, nf_na, nf_no, nf_b0, nf_z0, t45_4, t45_5, true_and, and_true, List.set_cons_zero, List.set_cons_succ, List.length_cons, List.length_nil, rd_s, upw_s, ne_eq, not_false_eq_true, Nat.zero_add, Nat.add_zero, if_true, if_false, eq_self, m10, n4e, upw2q]
    | split
    | with_reducible intro _
    | omega
end
end
/-! 64.pil2.lean.txt -/
section
section
variable {g : RO} {Q : Ot → Hw → Prop} {w0 w : Hw}
variable {y nM : Nat} {kd : Int32}
theorem sX3_seekNowM {a c : Int32} {b : Nat} (hM : MM g w0 y nM kd w) (hC : CAt g w y a (some b)) (k0 : ¬ a < 0) (k1 : ¬ 5 < a) (hQ : ∀ n v : Int32, PN g w y n → (v = -1 ∨ (¬ v < 0 ∧ v < n)) → Q (.inl (some (.int v))) w) : WP (MX3_seekNow g) Q (0, [some (.ref y), some (.int a), some (.int c), none, none], [], w, 0, 0) := by
  obtain ⟨n, hP⟩ := PN.ofM hM
  exact sX3_seekNow hM hC k0 k1 hP (fun v hv => hQ n v hP hv)
end
end
/-! 64.pil3.lean.txt -/
section
section
variable {g : RO} {Q : Ot → Hw → Prop} {w0 w : Hw}
variable {y nM : Nat} {kd : Int32}
theorem LL.ext {L D cap : Nat} {n : Int32} {h : Nat → Option Nat} {w' : Hw} (hl : LL g w L D cap n h) (k : ext g w w') : LL g w' L D cap n h := hl.kp (fun fs e => k.1 _ _ e) (fun z e => k.1 _ _ e) (fun o e1 e2 => k.2 _ o e1 e2)
theorem LL.rD {L D cap : Nat} {n : Int32} {h : Nat → Option Nat} (hl : LL g w L D cap n h) : rd g w D = some (.inl (5, cap, qc h)) := by
  obtain ⟨mc, q1, q2, q3, -⟩ := hl.opn
  exact q3
theorem LL.c15 {L D cap : Nat} {n : Int32} {h : Nat → Option Nat} (hl : LL g w L D cap n h) : cap ≤ 15 := by
  rcases hl.2.1 with ⟨-, k⟩ | ⟨k, -⟩ <;> omega
theorem sInitF {w1 : Hw} {q : Nat} (hE : EG g w1) (hq : rd g w1 q = none) (hQ : ∀ D w', ext g w1 w' → LL g w' q D 0 0 (fun _ => none) → w1 D = none → Q (.inl none) w') : WP (MJx4a65c_init_da8c8 g) Q (0, [some (.ref q)], [], upw w1 q (.inr (3, [.int 0, .null, .int 0])), 0, 0) := by
  have hqn := rd_none hq
  have hE' : EG g (upw w1 q (.inr (3, [.int 0, .null, .int 0]))) := hE.ext (ext_up2 ext.rf hq)
  refine sJx4a65c_init hE' (upw_s _ _ _) (fun D w' f1 f2 hl => ?_)
  have k : ext g w1 w' := by
    refine ⟨fun a o e => ?_, fun a o e1 e2 => ?_⟩
    · have hne : a ≠ q := fun z => by
        rw [z, hqn] at e
        cases e
      exact f1 a o (by rw [upw_n hne]; exact e) hne
    · have hne : a ≠ q := fun z => by
        rw [z, rd_ro hq] at e1
        cases e1
      exact f2 a o e1 (by rw [upw_n hne]; exact e2)
  refine hQ D w' k hl ?_
  rcases hl.2.1 with ⟨-, z⟩ | ⟨-, -, z, -⟩
  · omega
  · cases hw : w1 D with
    | none => rfl
    | some o =>
      rw [k.1 _ _ hw] at z
      cases z
theorem n00' : (0 : Int32).toInt ≤ 12 := by decide
theorem nr0 : ∀ (i b : Nat), (fun _ => none : Nat → Option Nat) i = some b → isRow w b := fun _ _ e => by cases e
end
end
/-! 64.pil4.lean.txt -/
section
section
variable {g : RO} {Q : Ot → Hw → Prop} {w0 w : Hw}
variable {y nM : Nat} {kd : Int32}
theorem itl {c n : Int32} (h1 : ¬ c = n) (h2 : c.toInt ≤ n.toInt) : c.toInt < n.toInt := by
  rcases (by omega : c.toInt < n.toInt ∨ n.toInt ≤ c.toInt) with k | k
  · exact k
  · exact absurd (Int32.toInt_inj.mp (by omega)) h1
theorem itz {c n : Int32} (h1 : ¬ c = n) (h2 : c.toInt ≤ n.toInt) (h3 : n.toInt - c.toInt ≤ ((0 : Nat) : Int)) : False := by
  have := itl h1 h2
  omega
theorem itn {c n : Int32} {h : Nat → Option Nat} (hnn : ∀ i : Nat, (i : Int) < n.toInt → ∃ b, h i = some b) (h0 : 0 ≤ c.toInt) (h1 : c.toInt < n.toInt) (e : h c.toNatClampNeg = none) : False := by
  obtain ⟨b, hb⟩ := hnn c.toNatClampNeg (by
    have t : c.toNatClampNeg = c.toInt.toNat := rfl
    omega)
  rw [e] at hb
  cases hb
theorem its {c n : Int32} (h0 : 0 ≤ c.toInt) (h1 : ¬ c = n) (h2 : c.toInt ≤ n.toInt) (hn : n.toInt ≤ 15) : (c + 1).toInt = c.toInt + 1 ∧ c.toInt < n.toInt := by
  have := itl h1 h2
  exact ⟨i32p1 h0 (by omega), this⟩
theorem LL.n0 {L D cap : Nat} {n : Int32} {h : Nat → Option Nat} (hl : LL g w L D cap n h) : 0 ≤ n.toInt := hl.2.2.1
theorem LL.nc {L D cap : Nat} {n : Int32} {h : Nat → Option Nat} (hl : LL g w L D cap n h) : n.toInt ≤ (cap : Int) := hl.2.2.2
theorem LL.nq {L D cap q : Nat} {n : Int32} {h : Nat → Option Nat} (hl : LL g w L D cap n h) (hq : rd g w q = none) (o : Ob) : LL g (upw w q o) L D cap n h := hl.ext (ext_up2 ext.rf hq)
theorem go_YE {K : List Value → Prop} {fs : List Value} (a1 : w y = some (.inr (7, fs))) (k : K fs) : go (rd g w y) 7 K := by
  rw [rd_e a1, go_s]
  exact k
set_option maxHeartbeats 4000000 in
theorem lX3_oftenNow_10 {a n mc : Int32} {b L D2 c2 q : Nat} {h2 : Nat → Option Nat} (hM : MM g w0 y nM kd w) (hC : CAt g w y a (some b)) (k0 : ¬ a < 0) (k1 : ¬ 5 < a) (hL : w L = some (.inr (3, [.int mc, .ref D2, .int n]))) (hl : LL g w L D2 c2 n h2) (hr : ∀ i b, h2 i = some b → isRow w b) (hnn : ∀ i : Nat, (i : Int) < n.toInt → ∃ b, h2 i = some b) (hn : n.toInt ≤ 12) (hq : rd g w q = none) (hQ : ∀ (v : Int32) w', ext g w w' → Q (.inl (some (.int v))) w') : ∀ (d : Nat) (i2 c lr : Int32) (o4 : Option Value) (k m : Nat), n.toInt - c.toInt ≤ (d : Int) → 0 ≤ c.toInt → c.toInt ≤ n.toInt → k ≤ 1 → m ≤ 4 → WP (MX3_oftenNow g) Q (10, [some (.ref y), some (.int a), some (.int i2), some (.ref q), o4], [], upw w q (.inr (2, [.int c, .int lr, .int mc, .ref L])), k, m) := by
  have hLq : ∀ o, upw w q o L = some (.inr (3, [.int mc, .ref D2, .int n])) := fun o => (ext_up2 ext.rf hq).1 _ _ hL
  intro d
  induction d with
  | zero =>
    intro i2 c lr o4 k m hm c0 c1 hk hs
    rw [eX3_oftenNow_10]
    repeat' first
      | with_reducible assumption
      | with_reducible refine And.intro ?_ ?_
      | with_reducible exact (itz (by assumption) (by assumption) (by assumption)).elim
      | with_reducible refine sJx35411_hasNext_aae02 (cap := 0) (upw_s _ _ _) (hLq _) (fun _ => ?_) (fun _ => ?_)
      | with_reducible refine sJx35411_next_0502b (upw_s _ _ _) (hLq _) (hl.nq hq _).rD (by assumption) (itl (by assumption) (by assumption)) hl.nc hl.c15 (fun e => (itn hnn (by assumption) (itl (by assumption) (by assumption)) e).elim) (fun _ _ => ?_)
      | with_reducible refine go_Y (hM.ext' (by first | assumption | exact ext.rf | exact ext_up2 ext.rf (by assumption) | exact ext_up2 (by assumption) (by assumption) | exact ext_up2 (ext_up2 ext.rf (by assumption)) (by assumption))) (fun _ _ _ _ _ _ => ?_)
      | with_reducible exact gtC (hM.ext' (by first | assumption | exact ext.rf | exact ext_up2 ext.rf (by assumption) | exact ext_up2 (by assumption) (by assumption) | exact ext_up2 (ext_up2 ext.rf (by assumption)) (by assumption))) (by first | assumption | exact isY.s | exact isY.fr (by assumption) (by assumption))
      | with_reducible refine sGetY (hC.fr hq) (by first | assumption | exact isY.s | exact isY.fr (by assumption) (by assumption)) k0 k1 ?_
      | with_reducible exact isRow.ca (by first | assumption | exact CAt.row (by assumption) | exact (hr _ _ (by assumption)).ext (ext_up2 ext.rf hq) | exact (CAt.row hC).ext (ext_up2 ext.rf hq) | exact isRow.ext (by assumption) (ext_up2 ext.rf (by assumption)))
      | with_reducible refine sX3_same (by first | assumption | exact CAt.row (by assumption) | exact (hr _ _ (by assumption)).ext (ext_up2 ext.rf hq) | exact (CAt.row hC).ext (ext_up2 ext.rf hq) | exact isRow.ext (by assumption) (ext_up2 ext.rf (by assumption))) (by first | assumption | exact CAt.row (by assumption) | exact (hr _ _ (by assumption)).ext (ext_up2 ext.rf hq) | exact (CAt.row hC).ext (ext_up2 ext.rf hq) | exact isRow.ext (by assumption) (ext_up2 ext.rf (by assumption))) (fun _ _ => ?_)
      | with_reducible refine sX3_one (fun _ => ?_)
      | with_reducible exact hQ _ _ (by first | assumption | exact ext.rf | exact ext_up2 ext.rf (by assumption) | exact ext_up2 (by assumption) (by assumption) | exact ext_up2 (ext_up2 ext.rf (by assumption)) (by assumption))
      | simp only [eX3_oftenNow_0, eX3_oftenNow_1, eX3_oftenNow_2, eX3_oftenNow_2N, eX3_oftenNow_3, eX3_oftenNow_6, eX3_oftenNow_9, eX3_oftenNow_9N, eX3_oftenNow_11, eX3_oftenNow_16, eX3_oftenNow_19, eX3_oftenNow_19N, eX3_oftenNow_20, eX3_oftenNow_25N, eX3_oftenNow_25R, eX3_oftenNow_28, eX3_oftenNow_28N, eX3_oftenNow_30, eX3_oftenNow_31, eX3_oftenNow_31N, eX3_oftenNow_33, eX3_oftenNow_33N, eX3_oftenNow_34, eX3_oftenNow_37, eX3_oftenNow_38, eX3_oftenNow_41N, eX3_oftenNow_41R, eX3_oftenNow_44RR, eX3_oftenNow_44NR, eX3_oftenNow_44RN, eX3_oftenNow_44NN, eX3_oftenNow_47, eX3_oftenNow_50, eX3_oftenNow_51, eX3_oftenNow_52, eX3_oftenNow_55, eX3_oftenNow_56, ite_le, n45, n54, true_or, or_true, false_or, or_false, false_and, and_false, kx_l, kx_r, go_s, gl_s, gi_s, gb_s2, gb_s3, gq_s, wt_nil, wt_int, wt_long, wt_ref, wt_null, nl_int, nl_long, nl_ref, nl_null, nl_none, rf_n, rf_s, rf_st, tl_s, tl_n, g0, gS, ex1, nb_b, nb_0, nb_1, nf_i, nf_l, nf_ra, nf_ro, nf_na, nf_no, nf_b0, nf_z0, t45_4, t45_5, true_and, and_true, List.set_cons_zero, List.set_cons_succ, List.length_cons, List.length_nil, rd_s, upw_s, ne_eq, not_false_eq_true, Nat.zero_add, Nat.add_zero, if_true, if_false, eq_self, m10, upw2q]
      | split
      | with_reducible intro _
      | omega
  | succ d ih =>
    intro i2 c lr o4 k m hm c0 c1 hk hs
    rw [eX3_oftenNow_10]
    repeat' first
      | with_reducible assumption
      | with_reducible refine And.intro ?_ ?_
      | with_reducible exact ih _ _ _ _ _ _ (by have e := its (n := n) (by assumption) (by assumption) (by assumption) (by omega); omega) (by have e := its (n := n) (by assumption) (by assumption) (by assumption) (by omega); omega) (by have e := its (n := n) (by assumption) (by assumption) (by assumption) (by omega); omega) (by first | assumption | omega) (by first | assumption | omega)
      | with_reducible refine sJx35411_hasNext_aae02 (cap := 0) (upw_s _ _ _) (hLq _) (fun _ => ?_) (fun _ => ?_)
      | with_reducible refine sJx35411_next_0502b (upw_s _ _ _) (hLq _) (hl.nq hq _).rD (by assumption) (itl (by assumption) (by assumption)) hl.nc hl.c15 (fun e => (itn hnn (by assumption) (itl (by assumption) (by assumption)) e).elim) (fun _ _ => ?_)
      | with_reducible refine go_Y (hM.ext' (by first | assumption | exact ext.rf | exact ext_up2 ext.rf (by assumption) | exact ext_up2 (by assumption) (by assumption) | exact ext_up2 (ext_up2 ext.rf (by assumption)) (by assumption))) (fun _ _ _ _ _ _ => ?_)
      | with_reducible exact gtC (hM.ext' (by first | assumption | exact ext.rf | exact ext_up2 ext.rf (by assumption) | exact ext_up2 (by assumption) (by assumption) | exact ext_up2 (ext_up2 ext.rf (by assumption)) (by assumption))) (by first | assumption | exact isY.s | exact isY.fr (by assumption) (by assumption))
      | with_reducible refine sGetY (hC.fr hq) (by first | assumption | exact isY.s | exact isY.fr (by assumption) (by assumption)) k0 k1 ?_
      | with_reducible exact isRow.ca (by first | assumption | exact CAt.row (by assumption) | exact (hr _ _ (by assumption)).ext (ext_up2 ext.rf hq) | exact (CAt.row hC).ext (ext_up2 ext.rf hq) | exact isRow.ext (by assumption) (ext_up2 ext.rf (by assumption)))
      | with_reducible refine sX3_same (by first | assumption | exact CAt.row (by assumption) | exact (hr _ _ (by assumption)).ext (ext_up2 ext.rf hq) | exact (CAt.row hC).ext (ext_up2 ext.rf hq) | exact isRow.ext (by assumption) (ext_up2 ext.rf (by assumption))) (by first | assumption | exact CAt.row (by assumption) | exact (hr _ _ (by assumption)).ext (ext_up2 ext.rf hq) | exact (CAt.row hC).ext (ext_up2 ext.rf hq) | exact isRow.ext (by assumption) (ext_up2 ext.rf (by assumption))) (fun _ _ => ?_)
      | with_reducible refine sX3_one (fun _ => ?_)
      | with_reducible exact hQ _ _ (by first | assumption | exact ext.rf | exact ext_up2 ext.rf (by assumption) | exact ext_up2 (by assumption) (by assumption) | exact ext_up2 (ext_up2 ext.rf (by assumption)) (by assumption))
      | simp only [eX3_oftenNow_0, eX3_oftenNow_1, eX3_oftenNow_2, eX3_oftenNow_2N, eX3_oftenNow_3, eX3_oftenNow_6, eX3_oftenNow_9, eX3_oftenNow_9N, eX3_oftenNow_11, eX3_oftenNow_16, eX3_oftenNow_19, eX3_oftenNow_19N, eX3_oftenNow_20, eX3_oftenNow_25N, eX3_oftenNow_25R, eX3_oftenNow_28, eX3_oftenNow_28N, eX3_oftenNow_30, eX3_oftenNow_31, eX3_oftenNow_31N, eX3_oftenNow_33, eX3_oftenNow_33N, eX3_oftenNow_34, eX3_oftenNow_37, eX3_oftenNow_38, eX3_oftenNow_41N, eX3_oftenNow_41R, eX3_oftenNow_44RR, eX3_oftenNow_44NR, eX3_oftenNow_44RN, eX3_oftenNow_44NN, eX3_oftenNow_47, eX3_oftenNow_50, eX3_oftenNow_51, eX3_oftenNow_52, eX3_oftenNow_55, eX3_oftenNow_56, ite_le, n45, n54, true_or, or_true, false_or, or_false, false_and, and_false, kx_l, kx_r, go_s, gl_s, gi_s, gb_s2, gb_s3, gq_s, wt_nil, wt_int, wt_long, wt_ref, wt_null, nl_int, nl_long, nl_ref, nl_null, nl_none, rf_n, rf_s, rf_st, tl_s, tl_n, g0, gS, ex1, nb_b, nb_0, nb_1, nf_i, nf_l, nf_ra, nf_ro, nf_na, nf_no, nf_b0, nf_z0, t45_4, t45_5, true_and, and_true, List.set_cons_zero, List.set_cons_succ, List.length_cons, List.length_nil, rd_s, upw_s, ne_eq, not_false_eq_true, Nat.zero_add, Nat.add_zero, if_true, if_false, eq_self, m10, upw2q]
      | split
      | with_reducible intro _
      | omega
set_option maxHeartbeats 4000000 in
theorem sX3_oftenNow {a : Int32} {b : Nat} (hM : MM g w0 y nM kd w) (hC : CAt g w y a (some b)) (k0 : ¬ a < 0) (k1 : ¬ 5 < a) (hQ : ∀ (v : Int32) w', ext g w w' → Q (.inl (some (.int v))) w') : WP (MX3_oftenNow g) Q (0, [some (.ref y), some (.int a), none, none, none], [], w, 0, 0) := by
  obtain ⟨cL0, pL0, D1, D2, c1, c2, th, rf, md, n, f, h1, h2, a1, a2, a3, a4, a5, a6, a7, a8, a9, b1⟩ := hM.1
  repeat' first
    | with_reducible assumption
    | with_reducible refine And.intro ?_ ?_
    | with_reducible refine go_YE a1 ?_
    | with_reducible exact a5.gt
    | with_reducible refine sJx4a65c_iterator_32c93 a5 (fun _ _ _ _ => ?_)
    | with_reducible exact lX3_oftenNow_10 hM hC k0 k1 (by assumption) a5 a6 b1 a7 (by assumption) hQ 70 _ _ _ _ _ _ (by have e := a5.n0; have z : (0 : Int32).toInt = 0 := rfl; omega) (by decide) (by have e := a5.n0; have z : (0 : Int32).toInt = 0 := rfl; omega) (by first | decide | omega) (by first | decide | omega)
    | simp only [eX3_oftenNow_0, eX3_oftenNow_1, eX3_oftenNow_2, eX3_oftenNow_2N, eX3_oftenNow_3, eX3_oftenNow_6, eX3_oftenNow_9, eX3_oftenNow_9N, eX3_oftenNow_11, eX3_oftenNow_16, eX3_oftenNow_19, eX3_oftenNow_19N, eX3_oftenNow_20, eX3_oftenNow_25N, eX3_oftenNow_25R, eX3_oftenNow_28, eX3_oftenNow_28N, eX3_oftenNow_30, eX3_oftenNow_31, eX3_oftenNow_31N, eX3_oftenNow_33, eX3_oftenNow_33N, eX3_oftenNow_34, eX3_oftenNow_37, eX3_oftenNow_38, eX3_oftenNow_41N, eX3_oftenNow_41R, eX3_oftenNow_44RR, eX3_oftenNow_44NR, eX3_oftenNow_44RN, eX3_oftenNow_44NN, eX3_oftenNow_47, eX3_oftenNow_50, eX3_oftenNow_51, eX3_oftenNow_52, eX3_oftenNow_55, eX3_oftenNow_56, ite_le, n45, n54, true_or, or_true, false_or, or_false, false_and, and_false, kx_l, kx_r, go_s, gl_s, gi_s, gb_s2, gb_s3, gq_s, wt_nil, wt_int, wt_long, wt_ref, wt_null, nl_int, nl_long, nl_ref, nl_null, nl_none, rf_n, rf_s, rf_st, tl_s, tl_n, g0, gS, ex1, nb_b, nb_0, nb_1, nf_i, nf_l, nf_ra, nf_ro, nf_na, nf_no, nf_b0, nf_z0, t45_4, t45_5, true_and, and_true, List.set_cons_zero, List.set_cons_succ, List.length_cons, List.length_nil, rd_s, upw_s, ne_eq, not_false_eq_true, Nat.zero_add, Nat.add_zero, if_true, if_false, eq_self, m10]
    | split
    | with_reducible intro _
    | omega
end
end
/-! 66.class00.lean.txt -/
section
/-! Rangecard.needNumber(I)V -/
theorem dX1_needNumber_0 : decode cX1_needNumber 0 = .ok (.iload_n 0, 1) := by decide +kernel
theorem dX1_needNumber_1 : decode cX1_needNumber 1 = .ok (.ifCond .lt 9, 3) := by decide +kernel
theorem dX1_needNumber_4 : decode cX1_needNumber 4 = .ok (.iload_n 0, 1) := by decide +kernel
theorem dX1_needNumber_5 : decode cX1_needNumber 5 = .ok (.bipush 8, 2) := by decide +kernel
theorem dX1_needNumber_7 : decode cX1_needNumber 7 = .ok (.if_icmp .lt 13, 3) := by decide +kernel
theorem dX1_needNumber_10 : decode cX1_needNumber 10 = .ok (.new 240, 3) := by decide +kernel
theorem dX1_needNumber_13 : decode cX1_needNumber 13 = .ok (.dup, 1) := by decide +kernel
theorem dX1_needNumber_14 : decode cX1_needNumber 14 = .ok (.ldc 242, 2) := by decide +kernel
theorem dX1_needNumber_16 : decode cX1_needNumber 16 = .ok (.invokespecial 244, 3) := by decide +kernel
theorem dX1_needNumber_19 : decode cX1_needNumber 19 = .ok (.athrow, 1) := by decide +kernel
theorem dX1_needNumber_20 : decode cX1_needNumber 20 = .ok (.return_, 1) := by decide +kernel
def MX1_needNumber (g : RO) : MT := ((RX1, cX1_needNumber, 1, 6, 1, 6, false, none), [], [], [], [], [(10, "java/lang/IndexOutOfBoundsException")], 0, [], [], [], 0, [], [], g)
section
variable {g : RO} {Q : Ot → Hw → Prop} {st : List Value} {w : Hw} {k n p q : Nat} {a b : Int32} {x y : Int64} {u v : Value} {l0 : Option Value}
theorem eX1_needNumber_0 : WP (MX1_needNumber g) Q (0, [some (.int a)], st, w, k, n) = WP (MX1_needNumber g) Q (1, [some (.int a)], .int a :: st, w, k, n) := Eq.trans (WP_at (M := (MX1_needNumber g)) rfl dX1_needNumber_0 (Or.inr rfl)) rfl
theorem eX1_needNumber_1 : WP (MX1_needNumber g) Q (1, [l0], .int a :: st, w, k, n) = if a < 0 then WP (MX1_needNumber g) Q (10, [l0], st, w, k, n) else WP (MX1_needNumber g) Q (4, [l0], st, w, k, n) := ifc_e (a < 0) rfl dX1_needNumber_1 rfl (by decide)
theorem eX1_needNumber_4 : WP (MX1_needNumber g) Q (4, [some (.int a)], st, w, k, n) = WP (MX1_needNumber g) Q (5, [some (.int a)], .int a :: st, w, k, n) := Eq.trans (WP_at (M := (MX1_needNumber g)) rfl dX1_needNumber_4 (Or.inr rfl)) rfl
theorem eX1_needNumber_5 : WP (MX1_needNumber g) Q (5, [l0], st, w, k, n) = WP (MX1_needNumber g) Q (7, [l0], .int 8 :: st, w, k, n) := bipush_e rfl dX1_needNumber_5 (by decide)
theorem eX1_needNumber_7 : WP (MX1_needNumber g) Q (7, [l0], .int b :: .int a :: st, w, k, n) = if a < b then WP (MX1_needNumber g) Q (20, [l0], st, w, k, n) else WP (MX1_needNumber g) Q (10, [l0], st, w, k, n) := icm_e (a < b) rfl dX1_needNumber_7 rfl (by decide)
theorem eX1_needNumber_10 : WP (MX1_needNumber g) Q (10, [l0], st, w, k, n) = (k + 1 ≤ 1 ∧ n + 6 ≤ 6 ∧ wt st ≤ 8 ∧ 6 ≤ 6 ∧ Q (.inr "java/lang/IndexOutOfBoundsException") w) := WP_thr rfl rfl
theorem eX1_needNumber_20 : WP (MX1_needNumber g) Q (20, [l0], [], w, k, n) = (k ≤ 1 ∧ n ≤ 6 ∧ Q (.inl none) w) := vret_e rfl dX1_needNumber_20 rfl
end
theorem vX_RX1_240_244 : ∀ w ∈ vx_atS RX1 244 "java/lang/IndexOutOfBoundsException" exNames, ((w ∈ lw_tbl ∧ (goodWord w || isNW w) = true) ∨ w = .castable "java/lang/IndexOutOfBoundsException" "java/lang/IndexOutOfBoundsException") ∧ vx_ot w = true := by decide +kernel
theorem wk_356 : (.classLink RX1 240 "java/lang/IndexOutOfBoundsException" : Jvm.Cond) ∈ WS := WS_t2 58 rfl rfl
theorem wk_72 : (.initialized "java/lang/IndexOutOfBoundsException" : Jvm.Cond) ∈ WS := WS_t1 14 rfl rfl
theorem vMX1_needNumber {l : Launch} (hl : l.stackTraces = false) (G : GT) : vM l G (MX1_needNumber (gg G)) := ⟨fun i c j h => lookup_all (l := (MX1_needNumber (gg G)).fld) (P := fun i e => vFld RX1 i e.1 e.2) (all_n) i (c, j) h, fun i c fs h => lookup_all (l := (MX1_needNumber (gg G)).new) (P := fun i e => vNew RX1 i e.1 e.2) (all_n) i (c, fs) h, lookup_all (l := (MX1_needNumber (gg G)).anew) (P := fun i e => vANew RX1 i e) (all_n), lookup_all (l := (MX1_needNumber (gg G)).lng) (P := fun i e => Jvm.Cond.constantLong RX1 i e ∈ WS) (all_n), lookup_all (l := (MX1_needNumber (gg G)).thr) (P := fun i e => vThr RX1 cX1_needNumber i e) (all_c (⟨240, 242, 244, "no such number", by decide, by decide +kernel, wk_356, wk_72, vX_RX1_240_244, by decide, dX1_needNumber_10, dX1_needNumber_13, dX1_needNumber_14, dX1_needNumber_16, dX1_needNumber_19⟩) (all_n)), fun h => absurd rfl h, lookup_all (l := (MX1_needNumber (gg G)).cal) (P := fun i e => vCal l G RX1 i e) (all_n), lookup_all (l := (MX1_needNumber (gg G)).stt) (P := fun i e => vStt G RX1 i e) (all_n), lookup_all (l := (MX1_needNumber (gg G)).cst) (P := fun i e => vCst RX1 i e) (all_n), fun h => absurd rfl h, rfl, all_n⟩
theorem okX1_needNumber {l : Launch} (hl : l.stackTraces = false) {G : GT} : ∀ (args : List Value) (w : Hw) (S : Ot → Hw → Prop), spOf (MX1_needNumber (gg G)) args w S → CX l G yX1_needNumber (.code yX1_needNumber cX1_needNumber 1 (none)) 6 1 6 args w S := CX_sp (M := MX1_needNumber (gg G)) (y := yX1_needNumber) hl (by decide) rfl (vMX1_needNumber hl G) (fun h => by cases h) rfl
/-! Rangecard.needCard(I)V -/
theorem dX1_needCard_0 : decode cX1_needCard 0 = .ok (.iload_n 0, 1) := by decide +kernel
theorem dX1_needCard_1 : decode cX1_needCard 1 = .ok (.ifCond .lt 9, 3) := by decide +kernel
theorem dX1_needCard_4 : decode cX1_needCard 4 = .ok (.iload_n 0, 1) := by decide +kernel
theorem dX1_needCard_5 : decode cX1_needCard 5 = .ok (.bipush 6, 2) := by decide +kernel
theorem dX1_needCard_7 : decode cX1_needCard 7 = .ok (.if_icmp .lt 13, 3) := by decide +kernel
theorem dX1_needCard_10 : decode cX1_needCard 10 = .ok (.new 240, 3) := by decide +kernel
theorem dX1_needCard_13 : decode cX1_needCard 13 = .ok (.dup, 1) := by decide +kernel
theorem dX1_needCard_14 : decode cX1_needCard 14 = .ok (.ldc 245, 2) := by decide +kernel
theorem dX1_needCard_16 : decode cX1_needCard 16 = .ok (.invokespecial 244, 3) := by decide +kernel
theorem dX1_needCard_19 : decode cX1_needCard 19 = .ok (.athrow, 1) := by decide +kernel
theorem dX1_needCard_20 : decode cX1_needCard 20 = .ok (.return_, 1) := by decide +kernel
def MX1_needCard (g : RO) : MT := ((RX1, cX1_needCard, 1, 6, 1, 6, false, none), [], [], [], [], [(10, "java/lang/IndexOutOfBoundsException")], 0, [], [], [], 0, [], [], g)
section
variable {g : RO} {Q : Ot → Hw → Prop} {st : List Value} {w : Hw} {k n p q : Nat} {a b : Int32} {x y : Int64} {u v : Value} {l0 : Option Value}
theorem eX1_needCard_0 : WP (MX1_needCard g) Q (0, [some (.int a)], st, w, k, n) = WP (MX1_needCard g) Q (1, [some (.int a)], .int a :: st, w, k, n) := Eq.trans (WP_at (M := (MX1_needCard g)) rfl dX1_needCard_0 (Or.inr rfl)) rfl
theorem eX1_needCard_1 : WP (MX1_needCard g) Q (1, [l0], .int a :: st, w, k, n) = if a < 0 then WP (MX1_needCard g) Q (10, [l0], st, w, k, n) else WP (MX1_needCard g) Q (4, [l0], st, w, k, n) := ifc_e (a < 0) rfl dX1_needCard_1 rfl (by decide)
theorem eX1_needCard_4 : WP (MX1_needCard g) Q (4, [some (.int a)], st, w, k, n) = WP (MX1_needCard g) Q (5, [some (.int a)], .int a :: st, w, k, n) := Eq.trans (WP_at (M := (MX1_needCard g)) rfl dX1_needCard_4 (Or.inr rfl)) rfl
theorem eX1_needCard_5 : WP (MX1_needCard g) Q (5, [l0], st, w, k, n) = WP (MX1_needCard g) Q (7, [l0], .int 6 :: st, w, k, n) := bipush_e rfl dX1_needCard_5 (by decide)
theorem eX1_needCard_7 : WP (MX1_needCard g) Q (7, [l0], .int b :: .int a :: st, w, k, n) = if a < b then WP (MX1_needCard g) Q (20, [l0], st, w, k, n) else WP (MX1_needCard g) Q (10, [l0], st, w, k, n) := icm_e (a < b) rfl dX1_needCard_7 rfl (by decide)
theorem eX1_needCard_10 : WP (MX1_needCard g) Q (10, [l0], st, w, k, n) = (k + 1 ≤ 1 ∧ n + 6 ≤ 6 ∧ wt st ≤ 8 ∧ 6 ≤ 6 ∧ Q (.inr "java/lang/IndexOutOfBoundsException") w) := WP_thr rfl rfl
theorem eX1_needCard_20 : WP (MX1_needCard g) Q (20, [l0], [], w, k, n) = (k ≤ 1 ∧ n ≤ 6 ∧ Q (.inl none) w) := vret_e rfl dX1_needCard_20 rfl
end
theorem vMX1_needCard {l : Launch} (hl : l.stackTraces = false) (G : GT) : vM l G (MX1_needCard (gg G)) := ⟨fun i c j h => lookup_all (l := (MX1_needCard (gg G)).fld) (P := fun i e => vFld RX1 i e.1 e.2) (all_n) i (c, j) h, fun i c fs h => lookup_all (l := (MX1_needCard (gg G)).new) (P := fun i e => vNew RX1 i e.1 e.2) (all_n) i (c, fs) h, lookup_all (l := (MX1_needCard (gg G)).anew) (P := fun i e => vANew RX1 i e) (all_n), lookup_all (l := (MX1_needCard (gg G)).lng) (P := fun i e => Jvm.Cond.constantLong RX1 i e ∈ WS) (all_n), lookup_all (l := (MX1_needCard (gg G)).thr) (P := fun i e => vThr RX1 cX1_needCard i e) (all_c (⟨240, 245, 244, "no such card", by decide, by decide +kernel, wk_356, wk_72, vX_RX1_240_244, by decide, dX1_needCard_10, dX1_needCard_13, dX1_needCard_14, dX1_needCard_16, dX1_needCard_19⟩) (all_n)), fun h => absurd rfl h, lookup_all (l := (MX1_needCard (gg G)).cal) (P := fun i e => vCal l G RX1 i e) (all_n), lookup_all (l := (MX1_needCard (gg G)).stt) (P := fun i e => vStt G RX1 i e) (all_n), lookup_all (l := (MX1_needCard (gg G)).cst) (P := fun i e => vCst RX1 i e) (all_n), fun h => absurd rfl h, rfl, all_n⟩
theorem okX1_needCard {l : Launch} (hl : l.stackTraces = false) {G : GT} : ∀ (args : List Value) (w : Hw) (S : Ot → Hw → Prop), spOf (MX1_needCard (gg G)) args w S → CX l G yX1_needCard (.code yX1_needCard cX1_needCard 1 (none)) 6 1 6 args w S := CX_sp (M := MX1_needCard (gg G)) (y := yX1_needCard) hl (by decide) rfl (vMX1_needCard hl G) (fun h => by cases h) rfl
/-! Rangecard.needPlace(I)V -/
theorem dX1_needPlace_0 : decode cX1_needPlace 0 = .ok (.iload_n 1, 1) := by decide +kernel
theorem dX1_needPlace_1 : decode cX1_needPlace 1 = .ok (.ifCond .lt 11, 3) := by decide +kernel
theorem dX1_needPlace_4 : decode cX1_needPlace 4 = .ok (.iload_n 1, 1) := by decide +kernel
theorem dX1_needPlace_5 : decode cX1_needPlace 5 = .ok (.aload_n 0, 1) := by decide +kernel
theorem dX1_needPlace_6 : decode cX1_needPlace 6 = .ok (.getfield 22, 3) := by decide +kernel
theorem dX1_needPlace_9 : decode cX1_needPlace 9 = .ok (.if_icmp .lt 13, 3) := by decide +kernel
theorem dX1_needPlace_12 : decode cX1_needPlace 12 = .ok (.new 240, 3) := by decide +kernel
theorem dX1_needPlace_15 : decode cX1_needPlace 15 = .ok (.dup, 1) := by decide +kernel
theorem dX1_needPlace_16 : decode cX1_needPlace 16 = .ok (.ldc 247, 2) := by decide +kernel
theorem dX1_needPlace_18 : decode cX1_needPlace 18 = .ok (.invokespecial 244, 3) := by decide +kernel
theorem dX1_needPlace_21 : decode cX1_needPlace 21 = .ok (.athrow, 1) := by decide +kernel
theorem dX1_needPlace_22 : decode cX1_needPlace 22 = .ok (.return_, 1) := by decide +kernel
def MX1_needPlace (g : RO) : MT := ((RX1, cX1_needPlace, 2, 6, 1, 6, false, none), [(22, 5, 3)], [], [], [], [(12, "java/lang/IndexOutOfBoundsException")], 0, [], [], [], 0, [], [], g)
section
variable {g : RO} {Q : Ot → Hw → Prop} {st : List Value} {w : Hw} {k n p q : Nat} {a b : Int32} {x y : Int64} {u v : Value} {l0 l1 : Option Value}
theorem eX1_needPlace_0 : WP (MX1_needPlace g) Q (0, [l0, some (.int a)], st, w, k, n) = WP (MX1_needPlace g) Q (1, [l0, some (.int a)], .int a :: st, w, k, n) := Eq.trans (WP_at (M := (MX1_needPlace g)) rfl dX1_needPlace_0 (Or.inr rfl)) rfl
theorem eX1_needPlace_1 : WP (MX1_needPlace g) Q (1, [l0, l1], .int a :: st, w, k, n) = if a < 0 then WP (MX1_needPlace g) Q (12, [l0, l1], st, w, k, n) else WP (MX1_needPlace g) Q (4, [l0, l1], st, w, k, n) := ifc_e (a < 0) rfl dX1_needPlace_1 rfl (by decide)
theorem eX1_needPlace_4 : WP (MX1_needPlace g) Q (4, [l0, some (.int a)], st, w, k, n) = WP (MX1_needPlace g) Q (5, [l0, some (.int a)], .int a :: st, w, k, n) := Eq.trans (WP_at (M := (MX1_needPlace g)) rfl dX1_needPlace_4 (Or.inr rfl)) rfl
theorem eX1_needPlace_5 : WP (MX1_needPlace g) Q (5, [some (.ref p), l1], st, w, k, n) = WP (MX1_needPlace g) Q (6, [some (.ref p), l1], .ref p :: st, w, k, n) := Eq.trans (WP_at (M := (MX1_needPlace g)) rfl dX1_needPlace_5 (Or.inr rfl)) rfl
theorem eX1_needPlace_5N : WP (MX1_needPlace g) Q (5, [some .null, l1], st, w, k, n) = WP (MX1_needPlace g) Q (6, [some .null, l1], .null :: st, w, k, n) := Eq.trans (WP_at (M := (MX1_needPlace g)) rfl dX1_needPlace_5 (Or.inr rfl)) rfl
theorem eX1_needPlace_6 : WP (MX1_needPlace g) Q (6, [l0, l1], .ref p :: st, w, k, n) = go (rd g w p) 5 fun fs => ∃ v, fs[3]? = some v ∧ WP (MX1_needPlace g) Q (9, [l0, l1], v :: st, w, k, n) := get_e rfl dX1_needPlace_6 rfl
theorem eX1_needPlace_9 : WP (MX1_needPlace g) Q (9, [l0, l1], .int b :: .int a :: st, w, k, n) = if a < b then WP (MX1_needPlace g) Q (22, [l0, l1], st, w, k, n) else WP (MX1_needPlace g) Q (12, [l0, l1], st, w, k, n) := icm_e (a < b) rfl dX1_needPlace_9 rfl (by decide)
theorem eX1_needPlace_12 : WP (MX1_needPlace g) Q (12, [l0, l1], st, w, k, n) = (k + 1 ≤ 1 ∧ n + 6 ≤ 6 ∧ wt st ≤ 8 ∧ 6 ≤ 6 ∧ Q (.inr "java/lang/IndexOutOfBoundsException") w) := WP_thr rfl rfl
theorem eX1_needPlace_22 : WP (MX1_needPlace g) Q (22, [l0, l1], [], w, k, n) = (k ≤ 1 ∧ n ≤ 6 ∧ Q (.inl none) w) := vret_e rfl dX1_needPlace_22 rfl
end
theorem iW_5 : ∀ w ∈ u_ws RX1 TX1 7, w ∈ WS := fun w h => (fun q => WS_in q.1 q.2) ((show ∀ w ∈ u_ws RX1 TX1 7, w ∈ lw_tbl ∧ goodWord w = true by decide +kernel) w h)
theorem wk_101 : (.fieldLink RX1 22 "Rangecard" "laidCount" "I" : Jvm.Cond) ∈ WS := WS_t1 43 rfl rfl
theorem vF_RX1_22 : vFld RX1 22 5 3 := ⟨RX1, TX1, 7, tyX1, "Rangecard", rfl, by decide, iW_5, tyX1_ok, nmX1, Or.inl rfl, Or.inl wk_101⟩
theorem vMX1_needPlace {l : Launch} (hl : l.stackTraces = false) (G : GT) : vM l G (MX1_needPlace (gg G)) := ⟨fun i c j h => lookup_all (l := (MX1_needPlace (gg G)).fld) (P := fun i e => vFld RX1 i e.1 e.2) (all_c (vF_RX1_22) (all_n)) i (c, j) h, fun i c fs h => lookup_all (l := (MX1_needPlace (gg G)).new) (P := fun i e => vNew RX1 i e.1 e.2) (all_n) i (c, fs) h, lookup_all (l := (MX1_needPlace (gg G)).anew) (P := fun i e => vANew RX1 i e) (all_n), lookup_all (l := (MX1_needPlace (gg G)).lng) (P := fun i e => Jvm.Cond.constantLong RX1 i e ∈ WS) (all_n), lookup_all (l := (MX1_needPlace (gg G)).thr) (P := fun i e => vThr RX1 cX1_needPlace i e) (all_c (⟨240, 247, 244, "no such place", by decide, by decide +kernel, wk_356, wk_72, vX_RX1_240_244, by decide, dX1_needPlace_12, dX1_needPlace_15, dX1_needPlace_16, dX1_needPlace_18, dX1_needPlace_21⟩) (all_n)), fun h => absurd rfl h, lookup_all (l := (MX1_needPlace (gg G)).cal) (P := fun i e => vCal l G RX1 i e) (all_n), lookup_all (l := (MX1_needPlace (gg G)).stt) (P := fun i e => vStt G RX1 i e) (all_n), lookup_all (l := (MX1_needPlace (gg G)).cst) (P := fun i e => vCst RX1 i e) (all_n), fun h => absurd rfl h, rfl, all_n⟩
theorem okX1_needPlace {l : Launch} (hl : l.stackTraces = false) {G : GT} : ∀ (args : List Value) (w : Hw) (S : Ot → Hw → Prop), spOf (MX1_needPlace (gg G)) args w S → CX l G yX1_needPlace (.code yX1_needPlace cX1_needPlace 2 (none)) 6 1 6 args w S := CX_sp (M := MX1_needPlace (gg G)) (y := yX1_needPlace) hl (by decide) rfl (vMX1_needPlace hl G) (fun h => by cases h) rfl
/-! Rangecard.needChoice(II)V -/
theorem dX1_needChoice_0 : decode cX1_needChoice 0 = .ok (.iload_n 0, 1) := by decide +kernel
theorem dX1_needChoice_1 : decode cX1_needChoice 1 = .ok (.ifCond .lt 8, 3) := by decide +kernel
theorem dX1_needChoice_4 : decode cX1_needChoice 4 = .ok (.iload_n 0, 1) := by decide +kernel
theorem dX1_needChoice_5 : decode cX1_needChoice 5 = .ok (.iload_n 1, 1) := by decide +kernel
theorem dX1_needChoice_6 : decode cX1_needChoice 6 = .ok (.if_icmp .le 13, 3) := by decide +kernel
theorem dX1_needChoice_9 : decode cX1_needChoice 9 = .ok (.new 165, 3) := by decide +kernel
theorem dX1_needChoice_12 : decode cX1_needChoice 12 = .ok (.dup, 1) := by decide +kernel
theorem dX1_needChoice_13 : decode cX1_needChoice 13 = .ok (.ldc 249, 2) := by decide +kernel
theorem dX1_needChoice_15 : decode cX1_needChoice 15 = .ok (.invokespecial 169, 3) := by decide +kernel
theorem dX1_needChoice_18 : decode cX1_needChoice 18 = .ok (.athrow, 1) := by decide +kernel
theorem dX1_needChoice_19 : decode cX1_needChoice 19 = .ok (.return_, 1) := by decide +kernel
def MX1_needChoice (g : RO) : MT := ((RX1, cX1_needChoice, 2, 6, 1, 6, false, none), [], [], [], [], [(9, "java/lang/IllegalArgumentException")], 0, [], [], [], 0, [], [], g)
section
variable {g : RO} {Q : Ot → Hw → Prop} {st : List Value} {w : Hw} {k n p q : Nat} {a b : Int32} {x y : Int64} {u v : Value} {l0 l1 : Option Value}
theorem eX1_needChoice_0 : WP (MX1_needChoice g) Q (0, [some (.int a), l1], st, w, k, n) = WP (MX1_needChoice g) Q (1, [some (.int a), l1], .int a :: st, w, k, n) := Eq.trans (WP_at (M := (MX1_needChoice g)) rfl dX1_needChoice_0 (Or.inr rfl)) rfl
theorem eX1_needChoice_1 : WP (MX1_needChoice g) Q (1, [l0, l1], .int a :: st, w, k, n) = if a < 0 then WP (MX1_needChoice g) Q (9, [l0, l1], st, w, k, n) else WP (MX1_needChoice g) Q (4, [l0, l1], st, w, k, n) := ifc_e (a < 0) rfl dX1_needChoice_1 rfl (by decide)
theorem eX1_needChoice_4 : WP (MX1_needChoice g) Q (4, [some (.int a), l1], st, w, k, n) = WP (MX1_needChoice g) Q (5, [some (.int a), l1], .int a :: st, w, k, n) := Eq.trans (WP_at (M := (MX1_needChoice g)) rfl dX1_needChoice_4 (Or.inr rfl)) rfl
theorem eX1_needChoice_5 : WP (MX1_needChoice g) Q (5, [l0, some (.int a)], st, w, k, n) = WP (MX1_needChoice g) Q (6, [l0, some (.int a)], .int a :: st, w, k, n) := Eq.trans (WP_at (M := (MX1_needChoice g)) rfl dX1_needChoice_5 (Or.inr rfl)) rfl
theorem eX1_needChoice_6 : WP (MX1_needChoice g) Q (6, [l0, l1], .int b :: .int a :: st, w, k, n) = if a ≤ b then WP (MX1_needChoice g) Q (19, [l0, l1], st, w, k, n) else WP (MX1_needChoice g) Q (9, [l0, l1], st, w, k, n) := icm_e (a ≤ b) rfl dX1_needChoice_6 rfl (by decide)
theorem eX1_needChoice_9 : WP (MX1_needChoice g) Q (9, [l0, l1], st, w, k, n) = (k + 1 ≤ 1 ∧ n + 6 ≤ 6 ∧ wt st ≤ 8 ∧ 6 ≤ 6 ∧ Q (.inr "java/lang/IllegalArgumentException") w) := WP_thr rfl rfl
theorem eX1_needChoice_19 : WP (MX1_needChoice g) Q (19, [l0, l1], [], w, k, n) = (k ≤ 1 ∧ n ≤ 6 ∧ Q (.inl none) w) := vret_e rfl dX1_needChoice_19 rfl
end
theorem vX_RX1_165_169 : ∀ w ∈ vx_atS RX1 169 "java/lang/IllegalArgumentException" exNames, ((w ∈ lw_tbl ∧ (goodWord w || isNW w) = true) ∨ w = .castable "java/lang/IllegalArgumentException" "java/lang/IllegalArgumentException") ∧ vx_ot w = true := by decide +kernel
theorem wk_443 : (.classLink RX1 165 "java/lang/IllegalArgumentException" : Jvm.Cond) ∈ WS := WS_t2 145 rfl rfl
theorem wk_73 : (.initialized "java/lang/IllegalArgumentException" : Jvm.Cond) ∈ WS := WS_t1 15 rfl rfl
theorem vMX1_needChoice {l : Launch} (hl : l.stackTraces = false) (G : GT) : vM l G (MX1_needChoice (gg G)) := ⟨fun i c j h => lookup_all (l := (MX1_needChoice (gg G)).fld) (P := fun i e => vFld RX1 i e.1 e.2) (all_n) i (c, j) h, fun i c fs h => lookup_all (l := (MX1_needChoice (gg G)).new) (P := fun i e => vNew RX1 i e.1 e.2) (all_n) i (c, fs) h, lookup_all (l := (MX1_needChoice (gg G)).anew) (P := fun i e => vANew RX1 i e) (all_n), lookup_all (l := (MX1_needChoice (gg G)).lng) (P := fun i e => Jvm.Cond.constantLong RX1 i e ∈ WS) (all_n), lookup_all (l := (MX1_needChoice (gg G)).thr) (P := fun i e => vThr RX1 cX1_needChoice i e) (all_c (⟨165, 249, 169, "no such what", by decide, by decide +kernel, wk_443, wk_73, vX_RX1_165_169, by decide, dX1_needChoice_9, dX1_needChoice_12, dX1_needChoice_13, dX1_needChoice_15, dX1_needChoice_18⟩) (all_n)), fun h => absurd rfl h, lookup_all (l := (MX1_needChoice (gg G)).cal) (P := fun i e => vCal l G RX1 i e) (all_n), lookup_all (l := (MX1_needChoice (gg G)).stt) (P := fun i e => vStt G RX1 i e) (all_n), lookup_all (l := (MX1_needChoice (gg G)).cst) (P := fun i e => vCst RX1 i e) (all_n), fun h => absurd rfl h, rfl, all_n⟩
theorem okX1_needChoice {l : Launch} (hl : l.stackTraces = false) {G : GT} : ∀ (args : List Value) (w : Hw) (S : Ot → Hw → Prop), spOf (MX1_needChoice (gg G)) args w S → CX l G yX1_needChoice (.code yX1_needChoice cX1_needChoice 2 (none)) 6 1 6 args w S := CX_sp (M := MX1_needChoice (gg G)) (y := yX1_needChoice) hl (by decide) rfl (vMX1_needChoice hl G) (fun h => by cases h) rfl
/-! Rangecard.rangeOf(I)LRangecard$Range; -/
theorem dX1_rangeOf_0 : decode cX1_rangeOf 0 = .ok (.iload_n 1, 1) := by decide +kernel
theorem dX1_rangeOf_1 : decode cX1_rangeOf 1 = .ok (.invokestatic 79, 3) := by decide +kernel
theorem dX1_rangeOf_4 : decode cX1_rangeOf 4 = .ok (.aload_n 0, 1) := by decide +kernel
theorem dX1_rangeOf_5 : decode cX1_rangeOf 5 = .ok (.getfield 15, 3) := by decide +kernel
theorem dX1_rangeOf_8 : decode cX1_rangeOf 8 = .ok (.iload_n 1, 1) := by decide +kernel
theorem dX1_rangeOf_9 : decode cX1_rangeOf 9 = .ok (.aaload, 1) := by decide +kernel
theorem dX1_rangeOf_10 : decode cX1_rangeOf 10 = .ok (.astore_n 2, 1) := by decide +kernel
theorem dX1_rangeOf_11 : decode cX1_rangeOf 11 = .ok (.aload_n 2, 1) := by decide +kernel
theorem dX1_rangeOf_12 : decode cX1_rangeOf 12 = .ok (.ifnonnull 13, 3) := by decide +kernel
theorem dX1_rangeOf_15 : decode cX1_rangeOf 15 = .ok (.new 251, 3) := by decide +kernel
theorem dX1_rangeOf_18 : decode cX1_rangeOf 18 = .ok (.dup, 1) := by decide +kernel
theorem dX1_rangeOf_19 : decode cX1_rangeOf 19 = .ok (.ldc 253, 2) := by decide +kernel
theorem dX1_rangeOf_21 : decode cX1_rangeOf 21 = .ok (.invokespecial 255, 3) := by decide +kernel
theorem dX1_rangeOf_24 : decode cX1_rangeOf 24 = .ok (.athrow, 1) := by decide +kernel
theorem dX1_rangeOf_25 : decode cX1_rangeOf 25 = .ok (.aload_n 2, 1) := by decide +kernel
theorem dX1_rangeOf_26 : decode cX1_rangeOf 26 = .ok (.areturn, 1) := by decide +kernel
def MX1_rangeOf (g : RO) : MT := ((RX1, cX1_rangeOf, 3, 7, 2, 12, false, some (.object "Rangecard$Range")), [(15, 5, 1)], [], [], [], [(15, "java/lang/IllegalStateException")], 0, [(79, 0, 1, 0, 6, (fun _ _ => 1), (fun _ _ => 6), yX1_needCard, spOf (MX1_needCard g))], [], [], 0, [], [], g)
section
variable {g : RO} {Q : Ot → Hw → Prop} {st : List Value} {w : Hw} {k n p q : Nat} {a b : Int32} {x y : Int64} {u v : Value} {l0 l1 l2 : Option Value}
theorem eX1_rangeOf_0 : WP (MX1_rangeOf g) Q (0, [l0, some (.int a), l2], st, w, k, n) = WP (MX1_rangeOf g) Q (1, [l0, some (.int a), l2], .int a :: st, w, k, n) := Eq.trans (WP_at (M := (MX1_rangeOf g)) rfl dX1_rangeOf_0 (Or.inr rfl)) rfl
theorem eX1_rangeOf_1 {z0 : Int32} : WP (MX1_rangeOf g) Q (1, [l0, l1, l2], .int z0 :: st, w, k, n) = (wt st ≤ 8 ∧ k + 1 ≤ 2 ∧ n + 6 ≤ 12 ∧ WP (MX1_needCard g) (kx (fun v w' => WP (MX1_rangeOf g) Q (4, [l0, l1, l2], v.toList ++ st, w', k + 1, n + 6)) (fun E w' => Q (.inr E) w')) (0, [some (.int z0)], [], w, 0, 0)) := csS (M := (MX1_rangeOf g)) (mc := (fun _ _ => 1)) (ms := (fun _ _ => 6)) (As := [.int z0]) (rest := st) (MX1_needCard g) rfl rfl dX1_rangeOf_1 (Nat.ne_of_beq_eq_false rfl) (by exact fun h => nomatch (show (none : Option Nat) = some 12 from h)) (by exact fun h => nomatch (show (none : Option Nat) = some 13 from h)) (by exact fun h => nomatch (show (none : Option Nat) = some 14 from h)) rfl rfl (by decide) (Nat.le_of_ble_eq_true rfl) (Nat.le_of_ble_eq_true rfl) rfl
theorem eX1_rangeOf_4 : WP (MX1_rangeOf g) Q (4, [some (.ref p), l1, l2], st, w, k, n) = WP (MX1_rangeOf g) Q (5, [some (.ref p), l1, l2], .ref p :: st, w, k, n) := Eq.trans (WP_at (M := (MX1_rangeOf g)) rfl dX1_rangeOf_4 (Or.inr rfl)) rfl
theorem eX1_rangeOf_4N : WP (MX1_rangeOf g) Q (4, [some .null, l1, l2], st, w, k, n) = WP (MX1_rangeOf g) Q (5, [some .null, l1, l2], .null :: st, w, k, n) := Eq.trans (WP_at (M := (MX1_rangeOf g)) rfl dX1_rangeOf_4 (Or.inr rfl)) rfl
theorem eX1_rangeOf_5 : WP (MX1_rangeOf g) Q (5, [l0, l1, l2], .ref p :: st, w, k, n) = go (rd g w p) 5 fun fs => ∃ v, fs[1]? = some v ∧ WP (MX1_rangeOf g) Q (8, [l0, l1, l2], v :: st, w, k, n) := get_e rfl dX1_rangeOf_5 rfl
theorem eX1_rangeOf_8 : WP (MX1_rangeOf g) Q (8, [l0, some (.int a), l2], st, w, k, n) = WP (MX1_rangeOf g) Q (9, [l0, some (.int a), l2], .int a :: st, w, k, n) := Eq.trans (WP_at (M := (MX1_rangeOf g)) rfl dX1_rangeOf_8 (Or.inr rfl)) rfl
theorem eX1_rangeOf_9 : WP (MX1_rangeOf g) Q (9, [l0, l1, l2], .int a :: .ref p :: st, w, k, n) = gq (rd g w p) fun t N f => (t = 4 ∨ t = 5) ∧ vp_in a N ∧ WP (MX1_rangeOf g) Q (10, [l0, l1, l2], va_rf (f a.toNatClampNeg) :: st, w, k, n) := Eq.trans (WP_at (M := (MX1_rangeOf g)) rfl dX1_rangeOf_9 (Or.inr rfl)) rfl
theorem eX1_rangeOf_10 : WP (MX1_rangeOf g) Q (10, [l0, l1, l2], .ref p :: st, w, k, n) = WP (MX1_rangeOf g) Q (11, [l0, nl l1, some (.ref p)], st, w, k, n) := by rw [WP_at (M := (MX1_rangeOf g)) rfl dX1_rangeOf_10 (Or.inr rfl)]; exact and_t (Nat.le_of_ble_eq_true rfl)
theorem eX1_rangeOf_10N : WP (MX1_rangeOf g) Q (10, [l0, l1, l2], .null :: st, w, k, n) = WP (MX1_rangeOf g) Q (11, [l0, nl l1, some (.null)], st, w, k, n) := by rw [WP_at (M := (MX1_rangeOf g)) rfl dX1_rangeOf_10 (Or.inr rfl)]; exact and_t (Nat.le_of_ble_eq_true rfl)
theorem eX1_rangeOf_11 : WP (MX1_rangeOf g) Q (11, [l0, l1, some (.ref p)], st, w, k, n) = WP (MX1_rangeOf g) Q (12, [l0, l1, some (.ref p)], .ref p :: st, w, k, n) := Eq.trans (WP_at (M := (MX1_rangeOf g)) rfl dX1_rangeOf_11 (Or.inr rfl)) rfl
theorem eX1_rangeOf_11N : WP (MX1_rangeOf g) Q (11, [l0, l1, some .null], st, w, k, n) = WP (MX1_rangeOf g) Q (12, [l0, l1, some .null], .null :: st, w, k, n) := Eq.trans (WP_at (M := (MX1_rangeOf g)) rfl dX1_rangeOf_11 (Or.inr rfl)) rfl
theorem eX1_rangeOf_12R : WP (MX1_rangeOf g) Q (12, [l0, l1, l2], .ref p :: st, w, k, n) = WP (MX1_rangeOf g) Q (25, [l0, l1, l2], st, w, k, n) := ifnonnullR_e rfl dX1_rangeOf_12 (tgt := 25) (by decide)
theorem eX1_rangeOf_12N : WP (MX1_rangeOf g) Q (12, [l0, l1, l2], .null :: st, w, k, n) = WP (MX1_rangeOf g) Q (15, [l0, l1, l2], st, w, k, n) := ifnonnullN_e rfl dX1_rangeOf_12 (tgt := 25) (by decide)
theorem eX1_rangeOf_15 : WP (MX1_rangeOf g) Q (15, [l0, l1, l2], st, w, k, n) = (k + 1 ≤ 2 ∧ n + 6 ≤ 12 ∧ wt st ≤ 8 ∧ 6 ≤ 7 ∧ Q (.inr "java/lang/IllegalStateException") w) := WP_thr rfl rfl
theorem eX1_rangeOf_25 : WP (MX1_rangeOf g) Q (25, [l0, l1, some (.ref p)], st, w, k, n) = WP (MX1_rangeOf g) Q (26, [l0, l1, some (.ref p)], .ref p :: st, w, k, n) := Eq.trans (WP_at (M := (MX1_rangeOf g)) rfl dX1_rangeOf_25 (Or.inr rfl)) rfl
theorem eX1_rangeOf_25N : WP (MX1_rangeOf g) Q (25, [l0, l1, some .null], st, w, k, n) = WP (MX1_rangeOf g) Q (26, [l0, l1, some .null], .null :: st, w, k, n) := Eq.trans (WP_at (M := (MX1_rangeOf g)) rfl dX1_rangeOf_25 (Or.inr rfl)) rfl
theorem eX1_rangeOf_26 : WP (MX1_rangeOf g) Q (26, [l0, l1, l2], [.ref p], w, k, n) = (k ≤ 2 ∧ n ≤ 12 ∧ Q (.inl (some (.ref p))) w) := aretR_e rfl dX1_rangeOf_26 rfl
theorem eX1_rangeOf_26N : WP (MX1_rangeOf g) Q (26, [l0, l1, l2], [.null], w, k, n) = (k ≤ 2 ∧ n ≤ 12 ∧ Q (.inl (some .null)) w) := aretN_e rfl dX1_rangeOf_26 rfl
end
theorem wk_99 : (.fieldLink RX1 15 "Rangecard" "cards" "[LRangecard$Range;" : Jvm.Cond) ∈ WS := WS_t1 41 rfl rfl
theorem vF_RX1_15 : vFld RX1 15 5 1 := ⟨RX1, TX1, 7, tyX1, "Rangecard", rfl, by decide, iW_5, tyX1_ok, nmX1, Or.inl rfl, Or.inl wk_99⟩
theorem vX_RX1_251_255 : ∀ w ∈ vx_atS RX1 255 "java/lang/IllegalStateException" exNames, ((w ∈ lw_tbl ∧ (goodWord w || isNW w) = true) ∨ w = .castable "java/lang/IllegalStateException" "java/lang/IllegalStateException") ∧ vx_ot w = true := by decide +kernel
theorem wk_878 : (.classLink RX1 251 "java/lang/IllegalStateException" : Jvm.Cond) ∈ WS := WS_t4 100 rfl rfl
theorem wk_86 : (.initialized "java/lang/IllegalStateException" : Jvm.Cond) ∈ WS := WS_t1 28 rfl rfl
theorem wk_818 : (.code yX1_needCard cX1_needCard 1 (none) : Jvm.Cond) ∈ WS := WS_t4 40 rfl rfl
theorem wk_59 : (.initialized RX1 : Jvm.Cond) ∈ WS := WS_t1 1 rfl rfl
theorem wk_816 : (.methodLink RX1 79 yX1_needCard : Jvm.Cond) ∈ WS := WS_t4 38 rfl rfl
theorem wk_817 : (.static yX1_needCard : Jvm.Cond) ∈ WS := WS_t4 39 rfl rfl
theorem vMX1_rangeOf {l : Launch} (hl : l.stackTraces = false) (G : GT) : vM l G (MX1_rangeOf (gg G)) := ⟨fun i c j h => lookup_all (l := (MX1_rangeOf (gg G)).fld) (P := fun i e => vFld RX1 i e.1 e.2) (all_c (vF_RX1_15) (all_n)) i (c, j) h, fun i c fs h => lookup_all (l := (MX1_rangeOf (gg G)).new) (P := fun i e => vNew RX1 i e.1 e.2) (all_n) i (c, fs) h, lookup_all (l := (MX1_rangeOf (gg G)).anew) (P := fun i e => vANew RX1 i e) (all_n), lookup_all (l := (MX1_rangeOf (gg G)).lng) (P := fun i e => Jvm.Cond.constantLong RX1 i e ∈ WS) (all_n), lookup_all (l := (MX1_rangeOf (gg G)).thr) (P := fun i e => vThr RX1 cX1_rangeOf i e) (all_c (⟨251, 253, 255, "the card has no range", by decide, by decide +kernel, wk_878, wk_86, vX_RX1_251_255, by decide, dX1_rangeOf_15, dX1_rangeOf_18, dX1_rangeOf_19, dX1_rangeOf_21, dX1_rangeOf_24⟩) (all_n)), fun h => absurd rfl h, lookup_all (l := (MX1_rangeOf (gg G)).cal) (P := fun i e => vCal l G RX1 i e) (all_c (⟨cX1_needCard, 1, none, fun y hy => by subst hy; exact ⟨by decide, ⟨_, wk_818, okX1_needCard hl, Or.inl ⟨Nat.ne_of_beq_eq_false rfl, rfl⟩⟩, wk_59, ⟨(by decide : yX1_needCard.cls ≠ "java/lang/invoke/MethodHandle"), (by decide : yX1_needCard.cls ≠ "java/lang/invoke/VarHandle")⟩, ⟨(by decide +kernel : (parseMethodDescriptor yX1_needCard.desc).map (fun d => d.parameters.length) = some 1), wk_816, wk_817⟩⟩⟩) (all_n)), lookup_all (l := (MX1_rangeOf (gg G)).stt) (P := fun i e => vStt G RX1 i e) (all_n), lookup_all (l := (MX1_rangeOf (gg G)).cst) (P := fun i e => vCst RX1 i e) (all_n), fun h => absurd rfl h, rfl, all_n⟩
theorem okX1_rangeOf {l : Launch} (hl : l.stackTraces = false) {G : GT} : ∀ (args : List Value) (w : Hw) (S : Ot → Hw → Prop), spOf (MX1_rangeOf (gg G)) args w S → CX l G yX1_rangeOf (.code yX1_rangeOf cX1_rangeOf 3 (some (.object "Rangecard$Range"))) 7 2 12 args w S := CX_sp (M := MX1_rangeOf (gg G)) (y := yX1_rangeOf) hl (by decide) rfl (vMX1_rangeOf hl G) (fun h => by cases h) rfl
end
/-! 66.class01.lean.txt -/
section
/-! Rangecard.refuse()I -/
theorem dX1_refuse_0 : decode cX1_refuse 0 = .ok (.aload_n 0, 1) := by decide +kernel
theorem dX1_refuse_1 : decode cX1_refuse 1 = .ok (.dup, 1) := by decide +kernel
theorem dX1_refuse_2 : decode cX1_refuse 2 = .ok (.getfield 26, 3) := by decide +kernel
theorem dX1_refuse_5 : decode cX1_refuse 5 = .ok (.iconst 1, 1) := by decide +kernel
theorem dX1_refuse_6 : decode cX1_refuse 6 = .ok (.iadd, 1) := by decide +kernel
theorem dX1_refuse_7 : decode cX1_refuse 7 = .ok (.putfield 26, 3) := by decide +kernel
theorem dX1_refuse_10 : decode cX1_refuse 10 = .ok (.bipush (-9), 2) := by decide +kernel
theorem dX1_refuse_12 : decode cX1_refuse 12 = .ok (.ireturn, 1) := by decide +kernel
def MX1_refuse (g : RO) : MT := ((RX1, cX1_refuse, 1, 1, 0, 0, false, some .int), [(26, 5, 4)], [], [], [], [], 0, [], [], [], 0, [], [], g)
section
variable {g : RO} {Q : Ot → Hw → Prop} {st : List Value} {w : Hw} {k n p q : Nat} {a b : Int32} {x y : Int64} {u v : Value} {l0 : Option Value}
theorem eX1_refuse_0 : WP (MX1_refuse g) Q (0, [some (.ref p)], st, w, k, n) = WP (MX1_refuse g) Q (1, [some (.ref p)], .ref p :: st, w, k, n) := Eq.trans (WP_at (M := (MX1_refuse g)) rfl dX1_refuse_0 (Or.inr rfl)) rfl
theorem eX1_refuse_0N : WP (MX1_refuse g) Q (0, [some .null], st, w, k, n) = WP (MX1_refuse g) Q (1, [some .null], .null :: st, w, k, n) := Eq.trans (WP_at (M := (MX1_refuse g)) rfl dX1_refuse_0 (Or.inr rfl)) rfl
theorem eX1_refuse_1 : WP (MX1_refuse g) Q (1, [l0], .int a :: st, w, k, n) = WP (MX1_refuse g) Q (2, [l0], .int a :: .int a :: st, w, k, n) := by rw [WP_at (M := (MX1_refuse g)) rfl dX1_refuse_1 (Or.inr rfl)]; exact and_t rfl
theorem eX1_refuse_1R : WP (MX1_refuse g) Q (1, [l0], .ref p :: st, w, k, n) = WP (MX1_refuse g) Q (2, [l0], .ref p :: .ref p :: st, w, k, n) := by rw [WP_at (M := (MX1_refuse g)) rfl dX1_refuse_1 (Or.inr rfl)]; exact and_t rfl
theorem eX1_refuse_2 : WP (MX1_refuse g) Q (2, [l0], .ref p :: st, w, k, n) = go (rd g w p) 5 fun fs => ∃ v, fs[4]? = some v ∧ WP (MX1_refuse g) Q (5, [l0], v :: st, w, k, n) := get_e rfl dX1_refuse_2 rfl
theorem eX1_refuse_5 : WP (MX1_refuse g) Q (5, [l0], st, w, k, n) = WP (MX1_refuse g) Q (6, [l0], .int 1 :: st, w, k, n) := iconst_e rfl dX1_refuse_5 (by decide)
theorem eX1_refuse_6 : WP (MX1_refuse g) Q (6, [l0], .int b :: .int a :: st, w, k, n) = WP (MX1_refuse g) Q (7, [l0], .int (a + b) :: st, w, k, n) := Eq.trans (WP_at (M := (MX1_refuse g)) rfl dX1_refuse_6 (Or.inr rfl)) rfl
theorem eX1_refuse_7 : WP (MX1_refuse g) Q (7, [l0], v :: .ref p :: st, w, k, n) = go (w p) 5 fun fs => 4 < fs.length ∧ (narrow (.int) v = v ∧ fits (.int) v = true) ∧ WP (MX1_refuse g) Q (10, [l0], st, upw w p (.inr (5, fs.set 4 v)), k, n) := put_e (q := (RX1, TX1, 7)) rfl dX1_refuse_7 rfl rfl (tyX1_ok 4 (by decide)) (Or.inl rfl)
theorem eX1_refuse_10 : WP (MX1_refuse g) Q (10, [l0], st, w, k, n) = WP (MX1_refuse g) Q (12, [l0], .int (-9) :: st, w, k, n) := bipush_e rfl dX1_refuse_10 (by decide)
theorem eX1_refuse_12 : WP (MX1_refuse g) Q (12, [l0], [.int a], w, k, n) = (k ≤ 0 ∧ n ≤ 0 ∧ Q (.inl (some (.int a))) w) := iretI_e rfl dX1_refuse_12 rfl
end
theorem wk_102 : (.fieldLink RX1 26 "Rangecard" "refusals" "I" : Jvm.Cond) ∈ WS := WS_t1 44 rfl rfl
theorem vF_RX1_26 : vFld RX1 26 5 4 := ⟨RX1, TX1, 7, tyX1, "Rangecard", rfl, by decide, iW_5, tyX1_ok, nmX1, Or.inl rfl, Or.inl wk_102⟩
theorem vMX1_refuse {l : Launch} (hl : l.stackTraces = false) (G : GT) : vM l G (MX1_refuse (gg G)) := ⟨fun i c j h => lookup_all (l := (MX1_refuse (gg G)).fld) (P := fun i e => vFld RX1 i e.1 e.2) (all_c (vF_RX1_26) (all_n)) i (c, j) h, fun i c fs h => lookup_all (l := (MX1_refuse (gg G)).new) (P := fun i e => vNew RX1 i e.1 e.2) (all_n) i (c, fs) h, lookup_all (l := (MX1_refuse (gg G)).anew) (P := fun i e => vANew RX1 i e) (all_n), lookup_all (l := (MX1_refuse (gg G)).lng) (P := fun i e => Jvm.Cond.constantLong RX1 i e ∈ WS) (all_n), lookup_all (l := (MX1_refuse (gg G)).thr) (P := fun i e => vThr RX1 cX1_refuse i e) (all_n), fun h => absurd rfl h, lookup_all (l := (MX1_refuse (gg G)).cal) (P := fun i e => vCal l G RX1 i e) (all_n), lookup_all (l := (MX1_refuse (gg G)).stt) (P := fun i e => vStt G RX1 i e) (all_n), lookup_all (l := (MX1_refuse (gg G)).cst) (P := fun i e => vCst RX1 i e) (all_n), fun h => absurd rfl h, rfl, all_n⟩
theorem okX1_refuse {l : Launch} (hl : l.stackTraces = false) {G : GT} : ∀ (args : List Value) (w : Hw) (S : Ot → Hw → Prop), spOf (MX1_refuse (gg G)) args w S → CX l G yX1_refuse (.code yX1_refuse cX1_refuse 1 (some .int)) 1 0 0 args w S := CX_sp (M := MX1_refuse (gg G)) (y := yX1_refuse) hl (by decide) rfl (vMX1_refuse hl G) (fun h => by cases h) rfl
/-! Rangecard.give(ILRangecard$Range;)I -/
theorem dX1_give_0 : decode cX1_give 0 = .ok (.aload_n 2, 1) := by decide +kernel
theorem dX1_give_1 : decode cX1_give 1 = .ok (.ifnonnull 8, 3) := by decide +kernel
theorem dX1_give_4 : decode cX1_give 4 = .ok (.aload_n 0, 1) := by decide +kernel
theorem dX1_give_5 : decode cX1_give 5 = .ok (.invokevirtual 182, 3) := by decide +kernel
theorem dX1_give_8 : decode cX1_give 8 = .ok (.ireturn, 1) := by decide +kernel
theorem dX1_give_9 : decode cX1_give 9 = .ok (.aload_n 0, 1) := by decide +kernel
theorem dX1_give_10 : decode cX1_give 10 = .ok (.getfield 15, 3) := by decide +kernel
theorem dX1_give_13 : decode cX1_give 13 = .ok (.iload_n 1, 1) := by decide +kernel
theorem dX1_give_14 : decode cX1_give 14 = .ok (.aload_n 2, 1) := by decide +kernel
theorem dX1_give_15 : decode cX1_give 15 = .ok (.aastore, 1) := by decide +kernel
theorem dX1_give_16 : decode cX1_give 16 = .ok (.aload_n 0, 1) := by decide +kernel
theorem dX1_give_17 : decode cX1_give 17 = .ok (.dup, 1) := by decide +kernel
theorem dX1_give_18 : decode cX1_give 18 = .ok (.getfield 32, 3) := by decide +kernel
theorem dX1_give_21 : decode cX1_give 21 = .ok (.iconst 1, 1) := by decide +kernel
theorem dX1_give_22 : decode cX1_give 22 = .ok (.iadd, 1) := by decide +kernel
theorem dX1_give_23 : decode cX1_give 23 = .ok (.putfield 32, 3) := by decide +kernel
theorem dX1_give_26 : decode cX1_give 26 = .ok (.iconst 1, 1) := by decide +kernel
theorem dX1_give_27 : decode cX1_give 27 = .ok (.ireturn, 1) := by decide +kernel
def MX1_give (g : RO) : MT := ((RX1, cX1_give, 3, 2, 0, 0, false, some .int), [(15, 5, 1), (32, 5, 6)], [], [], [], [], 0, [(182, 2, 1, 5, 1, (fun _ _ => 0), (fun _ _ => 0), yX1_refuse, spOf (MX1_refuse g))], [], [], 0, [], [], g)
section
variable {g : RO} {Q : Ot → Hw → Prop} {st : List Value} {w : Hw} {k n p q : Nat} {a b : Int32} {x y : Int64} {u v : Value} {l0 l1 l2 : Option Value}
theorem eX1_give_0 : WP (MX1_give g) Q (0, [l0, l1, some (.ref p)], st, w, k, n) = WP (MX1_give g) Q (1, [l0, l1, some (.ref p)], .ref p :: st, w, k, n) := Eq.trans (WP_at (M := (MX1_give g)) rfl dX1_give_0 (Or.inr rfl)) rfl
theorem eX1_give_0N : WP (MX1_give g) Q (0, [l0, l1, some .null], st, w, k, n) = WP (MX1_give g) Q (1, [l0, l1, some .null], .null :: st, w, k, n) := Eq.trans (WP_at (M := (MX1_give g)) rfl dX1_give_0 (Or.inr rfl)) rfl
theorem eX1_give_1R : WP (MX1_give g) Q (1, [l0, l1, l2], .ref p :: st, w, k, n) = WP (MX1_give g) Q (9, [l0, l1, l2], st, w, k, n) := ifnonnullR_e rfl dX1_give_1 (tgt := 9) (by decide)
theorem eX1_give_1N : WP (MX1_give g) Q (1, [l0, l1, l2], .null :: st, w, k, n) = WP (MX1_give g) Q (4, [l0, l1, l2], st, w, k, n) := ifnonnullN_e rfl dX1_give_1 (tgt := 9) (by decide)
theorem eX1_give_4 : WP (MX1_give g) Q (4, [some (.ref p), l1, l2], st, w, k, n) = WP (MX1_give g) Q (5, [some (.ref p), l1, l2], .ref p :: st, w, k, n) := Eq.trans (WP_at (M := (MX1_give g)) rfl dX1_give_4 (Or.inr rfl)) rfl
theorem eX1_give_4N : WP (MX1_give g) Q (4, [some .null, l1, l2], st, w, k, n) = WP (MX1_give g) Q (5, [some .null, l1, l2], .null :: st, w, k, n) := Eq.trans (WP_at (M := (MX1_give g)) rfl dX1_give_4 (Or.inr rfl)) rfl
theorem eX1_give_5  : WP (MX1_give g) Q (5, [l0, l1, l2], .ref p :: st, w, k, n) = (go (rd g w p) 5 (fun _ => True) ∧ wt st ≤ 8 ∧ k + 0 ≤ 0 ∧ n + 0 ≤ 0 ∧ WP (MX1_refuse g) (kx (fun v w' => WP (MX1_give g) Q (8, [l0, l1, l2], v.toList ++ st, w', k + 0, n + 0)) (fun E w' => Q (.inr E) w')) (0, [some (.ref p)], [], w, 0, 0)) := csV (M := (MX1_give g)) (mc := (fun _ _ => 0)) (ms := (fun _ _ => 0)) (As := []) (rest := st) (MX1_refuse g) rfl rfl dX1_give_5 (by exact fun h => nomatch (show (none : Option Nat) = some 11 from h)) (by exact fun h => nomatch (show (none : Option Nat) = some 15 from h)) rfl rfl (by decide) (Nat.le_of_ble_eq_true rfl) (Nat.le_of_ble_eq_true rfl) rfl
theorem eX1_give_8 : WP (MX1_give g) Q (8, [l0, l1, l2], [.int a], w, k, n) = (k ≤ 0 ∧ n ≤ 0 ∧ Q (.inl (some (.int a))) w) := iretI_e rfl dX1_give_8 rfl
theorem eX1_give_9 : WP (MX1_give g) Q (9, [some (.ref p), l1, l2], st, w, k, n) = WP (MX1_give g) Q (10, [some (.ref p), l1, l2], .ref p :: st, w, k, n) := Eq.trans (WP_at (M := (MX1_give g)) rfl dX1_give_9 (Or.inr rfl)) rfl
theorem eX1_give_9N : WP (MX1_give g) Q (9, [some .null, l1, l2], st, w, k, n) = WP (MX1_give g) Q (10, [some .null, l1, l2], .null :: st, w, k, n) := Eq.trans (WP_at (M := (MX1_give g)) rfl dX1_give_9 (Or.inr rfl)) rfl
theorem eX1_give_10 : WP (MX1_give g) Q (10, [l0, l1, l2], .ref p :: st, w, k, n) = go (rd g w p) 5 fun fs => ∃ v, fs[1]? = some v ∧ WP (MX1_give g) Q (13, [l0, l1, l2], v :: st, w, k, n) := get_e rfl dX1_give_10 rfl
theorem eX1_give_13 : WP (MX1_give g) Q (13, [l0, some (.int a), l2], st, w, k, n) = WP (MX1_give g) Q (14, [l0, some (.int a), l2], .int a :: st, w, k, n) := Eq.trans (WP_at (M := (MX1_give g)) rfl dX1_give_13 (Or.inr rfl)) rfl
theorem eX1_give_14 : WP (MX1_give g) Q (14, [l0, l1, some (.ref p)], st, w, k, n) = WP (MX1_give g) Q (15, [l0, l1, some (.ref p)], .ref p :: st, w, k, n) := Eq.trans (WP_at (M := (MX1_give g)) rfl dX1_give_14 (Or.inr rfl)) rfl
theorem eX1_give_14N : WP (MX1_give g) Q (14, [l0, l1, some .null], st, w, k, n) = WP (MX1_give g) Q (15, [l0, l1, some .null], .null :: st, w, k, n) := Eq.trans (WP_at (M := (MX1_give g)) rfl dX1_give_14 (Or.inr rfl)) rfl
theorem eX1_give_15N : WP (MX1_give g) Q (15, [l0, l1, l2], .null :: .int a :: .ref p :: st, w, k, n) = gq (w p) fun t N f => vp_in a N ∧ (t = 4 ∨ t = 5) ∧ WP (MX1_give g) Q (16, [l0, l1, l2], st, upw w p (.inl (t, N, .inr (.inr (.inr (.inr (va_up f a.toNatClampNeg none)))))), k, n) := aastN_e rfl dX1_give_15
theorem eX1_give_15R : WP (MX1_give g) Q (15, [l0, l1, l2], .ref q :: .int a :: .ref p :: st, w, k, n) = gq (w p) fun t N f => vp_in a N ∧ ((t = 4 ∧ go (w q) 4 fun _ => True) ∨ (t = 5 ∧ gl (w q) 0 fun _ _ => True)) ∧ WP (MX1_give g) Q (16, [l0, l1, l2], st, upw w p (.inl (t, N, .inr (.inr (.inr (.inr (va_up f a.toNatClampNeg (some q))))))), k, n) := aastR_e rfl dX1_give_15
theorem eX1_give_16 : WP (MX1_give g) Q (16, [some (.ref p), l1, l2], st, w, k, n) = WP (MX1_give g) Q (17, [some (.ref p), l1, l2], .ref p :: st, w, k, n) := Eq.trans (WP_at (M := (MX1_give g)) rfl dX1_give_16 (Or.inr rfl)) rfl
theorem eX1_give_16N : WP (MX1_give g) Q (16, [some .null, l1, l2], st, w, k, n) = WP (MX1_give g) Q (17, [some .null, l1, l2], .null :: st, w, k, n) := Eq.trans (WP_at (M := (MX1_give g)) rfl dX1_give_16 (Or.inr rfl)) rfl
theorem eX1_give_17 : WP (MX1_give g) Q (17, [l0, l1, l2], .int a :: st, w, k, n) = WP (MX1_give g) Q (18, [l0, l1, l2], .int a :: .int a :: st, w, k, n) := by rw [WP_at (M := (MX1_give g)) rfl dX1_give_17 (Or.inr rfl)]; exact and_t rfl
theorem eX1_give_17R : WP (MX1_give g) Q (17, [l0, l1, l2], .ref p :: st, w, k, n) = WP (MX1_give g) Q (18, [l0, l1, l2], .ref p :: .ref p :: st, w, k, n) := by rw [WP_at (M := (MX1_give g)) rfl dX1_give_17 (Or.inr rfl)]; exact and_t rfl
theorem eX1_give_18 : WP (MX1_give g) Q (18, [l0, l1, l2], .ref p :: st, w, k, n) = go (rd g w p) 5 fun fs => ∃ v, fs[6]? = some v ∧ WP (MX1_give g) Q (21, [l0, l1, l2], v :: st, w, k, n) := get_e rfl dX1_give_18 rfl
theorem eX1_give_21 : WP (MX1_give g) Q (21, [l0, l1, l2], st, w, k, n) = WP (MX1_give g) Q (22, [l0, l1, l2], .int 1 :: st, w, k, n) := iconst_e rfl dX1_give_21 (by decide)
theorem eX1_give_22 : WP (MX1_give g) Q (22, [l0, l1, l2], .int b :: .int a :: st, w, k, n) = WP (MX1_give g) Q (23, [l0, l1, l2], .int (a + b) :: st, w, k, n) := Eq.trans (WP_at (M := (MX1_give g)) rfl dX1_give_22 (Or.inr rfl)) rfl
theorem eX1_give_23 : WP (MX1_give g) Q (23, [l0, l1, l2], v :: .ref p :: st, w, k, n) = go (w p) 5 fun fs => 6 < fs.length ∧ (narrow (.int) v = v ∧ fits (.int) v = true) ∧ WP (MX1_give g) Q (26, [l0, l1, l2], st, upw w p (.inr (5, fs.set 6 v)), k, n) := put_e (q := (RX1, TX1, 7)) rfl dX1_give_23 rfl rfl (tyX1_ok 6 (by decide)) (Or.inl rfl)
theorem eX1_give_26 : WP (MX1_give g) Q (26, [l0, l1, l2], st, w, k, n) = WP (MX1_give g) Q (27, [l0, l1, l2], .int 1 :: st, w, k, n) := iconst_e rfl dX1_give_26 (by decide)
theorem eX1_give_27 : WP (MX1_give g) Q (27, [l0, l1, l2], [.int a], w, k, n) = (k ≤ 0 ∧ n ≤ 0 ∧ Q (.inl (some (.int a))) w) := iretI_e rfl dX1_give_27 rfl
end
theorem wk_104 : (.fieldLink RX1 32 "Rangecard" "made" "I" : Jvm.Cond) ∈ WS := WS_t1 46 rfl rfl
theorem vF_RX1_32 : vFld RX1 32 5 6 := ⟨RX1, TX1, 7, tyX1, "Rangecard", rfl, by decide, iW_5, tyX1_ok, nmX1, Or.inl rfl, Or.inl wk_104⟩
theorem wk_827 : (.code yX1_refuse cX1_refuse 1 (some .int) : Jvm.Cond) ∈ WS := WS_t4 49 rfl rfl
theorem wk_824 : (.methodLink RX1 182 yX1_refuse : Jvm.Cond) ∈ WS := WS_t4 46 rfl rfl
theorem wk_826 : (.instanceMethod yX1_refuse : Jvm.Cond) ∈ WS := WS_t4 48 rfl rfl
theorem wk_30 : (.selects RX1 yX1_refuse yX1_refuse : Jvm.Cond) ∈ WS := WS_at 30 (by decide +kernel) rfl
theorem vMX1_give {l : Launch} (hl : l.stackTraces = false) (G : GT) : vM l G (MX1_give (gg G)) := ⟨fun i c j h => lookup_all (l := (MX1_give (gg G)).fld) (P := fun i e => vFld RX1 i e.1 e.2) (all_c (vF_RX1_15) (all_c (vF_RX1_32) (all_n))) i (c, j) h, fun i c fs h => lookup_all (l := (MX1_give (gg G)).new) (P := fun i e => vNew RX1 i e.1 e.2) (all_n) i (c, fs) h, lookup_all (l := (MX1_give (gg G)).anew) (P := fun i e => vANew RX1 i e) (all_n), lookup_all (l := (MX1_give (gg G)).lng) (P := fun i e => Jvm.Cond.constantLong RX1 i e ∈ WS) (all_n), lookup_all (l := (MX1_give (gg G)).thr) (P := fun i e => vThr RX1 cX1_give i e) (all_n), fun h => absurd rfl h, lookup_all (l := (MX1_give (gg G)).cal) (P := fun i e => vCal l G RX1 i e) (all_c (⟨cX1_refuse, 1, some .int, fun y hy => by subst hy; exact ⟨by decide, ⟨_, wk_827, okX1_refuse hl, Or.inl ⟨Nat.ne_of_beq_eq_false rfl, rfl⟩⟩, wk_59, ⟨(by decide : yX1_refuse.cls ≠ "java/lang/invoke/MethodHandle"), (by decide : yX1_refuse.cls ≠ "java/lang/invoke/VarHandle")⟩, ⟨(by decide +kernel : (parseMethodDescriptor yX1_refuse.desc).map (fun d => d.parameters.length + 1) = some 1), wk_824, wk_826, wk_30, (RX1, TX1, 7), rfl, rfl⟩⟩⟩) (all_n)), lookup_all (l := (MX1_give (gg G)).stt) (P := fun i e => vStt G RX1 i e) (all_n), lookup_all (l := (MX1_give (gg G)).cst) (P := fun i e => vCst RX1 i e) (all_n), fun h => absurd rfl h, rfl, all_n⟩
theorem okX1_give {l : Launch} (hl : l.stackTraces = false) {G : GT} : ∀ (args : List Value) (w : Hw) (S : Ot → Hw → Prop), spOf (MX1_give (gg G)) args w S → CX l G yX1_give (.code yX1_give cX1_give 3 (some .int)) 2 0 0 args w S := CX_sp (M := MX1_give (gg G)) (y := yX1_give) hl (by decide) rfl (vMX1_give hl G) (fun h => by cases h) rfl
/-! Rangecard.highOf(J)I -/
theorem dX1_highOf_0 : decode cX1_highOf 0 = .ok (.lload_n 0, 1) := by decide +kernel
theorem dX1_highOf_1 : decode cX1_highOf 1 = .ok (.bipush 32, 2) := by decide +kernel
theorem dX1_highOf_3 : decode cX1_highOf 3 = .ok (.lshr, 1) := by decide +kernel
theorem dX1_highOf_4 : decode cX1_highOf 4 = .ok (.l2i, 1) := by decide +kernel
theorem dX1_highOf_5 : decode cX1_highOf 5 = .ok (.ireturn, 1) := by decide +kernel
def MX1_highOf (g : RO) : MT := ((RX1, cX1_highOf, 2, 1, 0, 0, false, some .int), [], [], [], [], [], 0, [], [], [], 0, [], [], g)
section
variable {g : RO} {Q : Ot → Hw → Prop} {st : List Value} {w : Hw} {k n p q : Nat} {a b : Int32} {x y : Int64} {u v : Value} {l0 l1 : Option Value}
theorem eX1_highOf_0 : WP (MX1_highOf g) Q (0, [some (.long x), l1], st, w, k, n) = WP (MX1_highOf g) Q (1, [some (.long x), l1], .long x :: st, w, k, n) := Eq.trans (WP_at (M := (MX1_highOf g)) rfl dX1_highOf_0 (Or.inr rfl)) rfl
theorem eX1_highOf_1 : WP (MX1_highOf g) Q (1, [l0, l1], st, w, k, n) = WP (MX1_highOf g) Q (3, [l0, l1], .int 32 :: st, w, k, n) := bipush_e rfl dX1_highOf_1 (by decide)
theorem eX1_highOf_3 : WP (MX1_highOf g) Q (3, [l0, l1], .int b :: .long x :: st, w, k, n) = WP (MX1_highOf g) Q (4, [l0, l1], .long (x >>> (b.toInt64 &&& 63)) :: st, w, k, n) := Eq.trans (WP_at (M := (MX1_highOf g)) rfl dX1_highOf_3 (Or.inr rfl)) rfl
theorem eX1_highOf_4 : WP (MX1_highOf g) Q (4, [l0, l1], .long x :: st, w, k, n) = WP (MX1_highOf g) Q (5, [l0, l1], .int x.toInt32 :: st, w, k, n) := Eq.trans (WP_at (M := (MX1_highOf g)) rfl dX1_highOf_4 (Or.inr rfl)) rfl
theorem eX1_highOf_5 : WP (MX1_highOf g) Q (5, [l0, l1], [.int a], w, k, n) = (k ≤ 0 ∧ n ≤ 0 ∧ Q (.inl (some (.int a))) w) := iretI_e rfl dX1_highOf_5 rfl
end
theorem vMX1_highOf {l : Launch} (hl : l.stackTraces = false) (G : GT) : vM l G (MX1_highOf (gg G)) := ⟨fun i c j h => lookup_all (l := (MX1_highOf (gg G)).fld) (P := fun i e => vFld RX1 i e.1 e.2) (all_n) i (c, j) h, fun i c fs h => lookup_all (l := (MX1_highOf (gg G)).new) (P := fun i e => vNew RX1 i e.1 e.2) (all_n) i (c, fs) h, lookup_all (l := (MX1_highOf (gg G)).anew) (P := fun i e => vANew RX1 i e) (all_n), lookup_all (l := (MX1_highOf (gg G)).lng) (P := fun i e => Jvm.Cond.constantLong RX1 i e ∈ WS) (all_n), lookup_all (l := (MX1_highOf (gg G)).thr) (P := fun i e => vThr RX1 cX1_highOf i e) (all_n), fun h => absurd rfl h, lookup_all (l := (MX1_highOf (gg G)).cal) (P := fun i e => vCal l G RX1 i e) (all_n), lookup_all (l := (MX1_highOf (gg G)).stt) (P := fun i e => vStt G RX1 i e) (all_n), lookup_all (l := (MX1_highOf (gg G)).cst) (P := fun i e => vCst RX1 i e) (all_n), fun h => absurd rfl h, rfl, all_n⟩
theorem okX1_highOf {l : Launch} (hl : l.stackTraces = false) {G : GT} : ∀ (args : List Value) (w : Hw) (S : Ot → Hw → Prop), spOf (MX1_highOf (gg G)) args w S → CX l G yX1_highOf (.code yX1_highOf cX1_highOf 2 (some .int)) 1 0 0 args w S := CX_sp (M := MX1_highOf (gg G)) (y := yX1_highOf) hl (by decide) rfl (vMX1_highOf hl G) (fun h => by cases h) rfl
/-! Rangecard.lowOf(J)I -/
theorem dX1_lowOf_0 : decode cX1_lowOf 0 = .ok (.lload_n 0, 1) := by decide +kernel
theorem dX1_lowOf_1 : decode cX1_lowOf 1 = .ok (.l2i, 1) := by decide +kernel
theorem dX1_lowOf_2 : decode cX1_lowOf 2 = .ok (.ireturn, 1) := by decide +kernel
def MX1_lowOf (g : RO) : MT := ((RX1, cX1_lowOf, 2, 1, 0, 0, false, some .int), [], [], [], [], [], 0, [], [], [], 0, [], [], g)
section
variable {g : RO} {Q : Ot → Hw → Prop} {st : List Value} {w : Hw} {k n p q : Nat} {a b : Int32} {x y : Int64} {u v : Value} {l0 l1 : Option Value}
theorem eX1_lowOf_0 : WP (MX1_lowOf g) Q (0, [some (.long x), l1], st, w, k, n) = WP (MX1_lowOf g) Q (1, [some (.long x), l1], .long x :: st, w, k, n) := Eq.trans (WP_at (M := (MX1_lowOf g)) rfl dX1_lowOf_0 (Or.inr rfl)) rfl
theorem eX1_lowOf_1 : WP (MX1_lowOf g) Q (1, [l0, l1], .long x :: st, w, k, n) = WP (MX1_lowOf g) Q (2, [l0, l1], .int x.toInt32 :: st, w, k, n) := Eq.trans (WP_at (M := (MX1_lowOf g)) rfl dX1_lowOf_1 (Or.inr rfl)) rfl
theorem eX1_lowOf_2 : WP (MX1_lowOf g) Q (2, [l0, l1], [.int a], w, k, n) = (k ≤ 0 ∧ n ≤ 0 ∧ Q (.inl (some (.int a))) w) := iretI_e rfl dX1_lowOf_2 rfl
end
theorem vMX1_lowOf {l : Launch} (hl : l.stackTraces = false) (G : GT) : vM l G (MX1_lowOf (gg G)) := ⟨fun i c j h => lookup_all (l := (MX1_lowOf (gg G)).fld) (P := fun i e => vFld RX1 i e.1 e.2) (all_n) i (c, j) h, fun i c fs h => lookup_all (l := (MX1_lowOf (gg G)).new) (P := fun i e => vNew RX1 i e.1 e.2) (all_n) i (c, fs) h, lookup_all (l := (MX1_lowOf (gg G)).anew) (P := fun i e => vANew RX1 i e) (all_n), lookup_all (l := (MX1_lowOf (gg G)).lng) (P := fun i e => Jvm.Cond.constantLong RX1 i e ∈ WS) (all_n), lookup_all (l := (MX1_lowOf (gg G)).thr) (P := fun i e => vThr RX1 cX1_lowOf i e) (all_n), fun h => absurd rfl h, lookup_all (l := (MX1_lowOf (gg G)).cal) (P := fun i e => vCal l G RX1 i e) (all_n), lookup_all (l := (MX1_lowOf (gg G)).stt) (P := fun i e => vStt G RX1 i e) (all_n), lookup_all (l := (MX1_lowOf (gg G)).cst) (P := fun i e => vCst RX1 i e) (all_n), fun h => absurd rfl h, rfl, all_n⟩
theorem okX1_lowOf {l : Launch} (hl : l.stackTraces = false) {G : GT} : ∀ (args : List Value) (w : Hw) (S : Ot → Hw → Prop), spOf (MX1_lowOf (gg G)) args w S → CX l G yX1_lowOf (.code yX1_lowOf cX1_lowOf 2 (some .int)) 1 0 0 args w S := CX_sp (M := MX1_lowOf (gg G)) (y := yX1_lowOf) hl (by decide) rfl (vMX1_lowOf hl G) (fun h => by cases h) rfl
/-! Rangecard.halfOf(JZ)I -/
theorem dX1_halfOf_0 : decode cX1_halfOf 0 = .ok (.iload_n 2, 1) := by decide +kernel
theorem dX1_halfOf_1 : decode cX1_halfOf 1 = .ok (.ifCond .eq 10, 3) := by decide +kernel
theorem dX1_halfOf_4 : decode cX1_halfOf 4 = .ok (.lload_n 0, 1) := by decide +kernel
theorem dX1_halfOf_5 : decode cX1_halfOf 5 = .ok (.invokestatic 39, 3) := by decide +kernel
theorem dX1_halfOf_8 : decode cX1_halfOf 8 = .ok (.goto 7, 3) := by decide +kernel
theorem dX1_halfOf_11 : decode cX1_halfOf 11 = .ok (.lload_n 0, 1) := by decide +kernel
theorem dX1_halfOf_12 : decode cX1_halfOf 12 = .ok (.invokestatic 45, 3) := by decide +kernel
theorem dX1_halfOf_15 : decode cX1_halfOf 15 = .ok (.ireturn, 1) := by decide +kernel
def MX1_halfOf (g : RO) : MT := ((RX1, cX1_halfOf, 3, 2, 0, 0, false, some .int), [], [], [], [], [], 0, [(39, 0, 1, 0, 1, (fun _ _ => 0), (fun _ _ => 0), yX1_highOf, spOf (MX1_highOf g)), (45, 0, 1, 0, 1, (fun _ _ => 0), (fun _ _ => 0), yX1_lowOf, spOf (MX1_lowOf g))], [], [], 0, [], [], g)
section
variable {g : RO} {Q : Ot → Hw → Prop} {st : List Value} {w : Hw} {k n p q : Nat} {a b : Int32} {x y : Int64} {u v : Value} {l0 l1 l2 : Option Value}
theorem eX1_halfOf_0 : WP (MX1_halfOf g) Q (0, [l0, l1, some (.int a)], st, w, k, n) = WP (MX1_halfOf g) Q (1, [l0, l1, some (.int a)], .int a :: st, w, k, n) := Eq.trans (WP_at (M := (MX1_halfOf g)) rfl dX1_halfOf_0 (Or.inr rfl)) rfl
theorem eX1_halfOf_1 : WP (MX1_halfOf g) Q (1, [l0, l1, l2], .int a :: st, w, k, n) = if a = 0 then WP (MX1_halfOf g) Q (11, [l0, l1, l2], st, w, k, n) else WP (MX1_halfOf g) Q (4, [l0, l1, l2], st, w, k, n) := ifc_e (a = 0) rfl dX1_halfOf_1 rfl (by decide)
theorem eX1_halfOf_4 : WP (MX1_halfOf g) Q (4, [some (.long x), l1, l2], st, w, k, n) = WP (MX1_halfOf g) Q (5, [some (.long x), l1, l2], .long x :: st, w, k, n) := Eq.trans (WP_at (M := (MX1_halfOf g)) rfl dX1_halfOf_4 (Or.inr rfl)) rfl
theorem eX1_halfOf_5 {z0 : Int64} : WP (MX1_halfOf g) Q (5, [l0, l1, l2], .long z0 :: st, w, k, n) = (wt st ≤ 8 ∧ k + 0 ≤ 0 ∧ n + 0 ≤ 0 ∧ WP (MX1_highOf g) (kx (fun v w' => WP (MX1_halfOf g) Q (8, [l0, l1, l2], v.toList ++ st, w', k + 0, n + 0)) (fun E w' => Q (.inr E) w')) (0, [some (.long z0), none], [], w, 0, 0)) := csS (M := (MX1_halfOf g)) (mc := (fun _ _ => 0)) (ms := (fun _ _ => 0)) (As := [.long z0]) (rest := st) (MX1_highOf g) rfl rfl dX1_halfOf_5 (Nat.ne_of_beq_eq_false rfl) (by exact fun h => nomatch (show (none : Option Nat) = some 12 from h)) (by exact fun h => nomatch (show (none : Option Nat) = some 13 from h)) (by exact fun h => nomatch (show (none : Option Nat) = some 14 from h)) rfl rfl (by decide) (Nat.le_of_ble_eq_true rfl) (Nat.le_of_ble_eq_true rfl) rfl
theorem eX1_halfOf_8 : WP (MX1_halfOf g) Q (8, [l0, l1, l2], st, w, k, n) = WP (MX1_halfOf g) Q (15, [l0, l1, l2], st, w, k, n) := goto_e rfl dX1_halfOf_8 (by decide)
theorem eX1_halfOf_11 : WP (MX1_halfOf g) Q (11, [some (.long x), l1, l2], st, w, k, n) = WP (MX1_halfOf g) Q (12, [some (.long x), l1, l2], .long x :: st, w, k, n) := Eq.trans (WP_at (M := (MX1_halfOf g)) rfl dX1_halfOf_11 (Or.inr rfl)) rfl
theorem eX1_halfOf_12 {z0 : Int64} : WP (MX1_halfOf g) Q (12, [l0, l1, l2], .long z0 :: st, w, k, n) = (wt st ≤ 8 ∧ k + 0 ≤ 0 ∧ n + 0 ≤ 0 ∧ WP (MX1_lowOf g) (kx (fun v w' => WP (MX1_halfOf g) Q (15, [l0, l1, l2], v.toList ++ st, w', k + 0, n + 0)) (fun E w' => Q (.inr E) w')) (0, [some (.long z0), none], [], w, 0, 0)) := csS (M := (MX1_halfOf g)) (mc := (fun _ _ => 0)) (ms := (fun _ _ => 0)) (As := [.long z0]) (rest := st) (MX1_lowOf g) rfl rfl dX1_halfOf_12 (Nat.ne_of_beq_eq_false rfl) (by exact fun h => nomatch (show (none : Option Nat) = some 12 from h)) (by exact fun h => nomatch (show (none : Option Nat) = some 13 from h)) (by exact fun h => nomatch (show (none : Option Nat) = some 14 from h)) rfl rfl (by decide) (Nat.le_of_ble_eq_true rfl) (Nat.le_of_ble_eq_true rfl) rfl
theorem eX1_halfOf_15 : WP (MX1_halfOf g) Q (15, [l0, l1, l2], [.int a], w, k, n) = (k ≤ 0 ∧ n ≤ 0 ∧ Q (.inl (some (.int a))) w) := iretI_e rfl dX1_halfOf_15 rfl
end
theorem wk_274 : (.code yX1_highOf cX1_highOf 2 (some .int) : Jvm.Cond) ∈ WS := WS_t1 216 rfl rfl
theorem wk_272 : (.methodLink RX1 39 yX1_highOf : Jvm.Cond) ∈ WS := WS_t1 214 rfl rfl
theorem wk_273 : (.static yX1_highOf : Jvm.Cond) ∈ WS := WS_t1 215 rfl rfl
theorem wk_277 : (.code yX1_lowOf cX1_lowOf 2 (some .int) : Jvm.Cond) ∈ WS := WS_t1 219 rfl rfl
theorem wk_275 : (.methodLink RX1 45 yX1_lowOf : Jvm.Cond) ∈ WS := WS_t1 217 rfl rfl
theorem wk_276 : (.static yX1_lowOf : Jvm.Cond) ∈ WS := WS_t1 218 rfl rfl
theorem vMX1_halfOf {l : Launch} (hl : l.stackTraces = false) (G : GT) : vM l G (MX1_halfOf (gg G)) := ⟨fun i c j h => lookup_all (l := (MX1_halfOf (gg G)).fld) (P := fun i e => vFld RX1 i e.1 e.2) (all_n) i (c, j) h, fun i c fs h => lookup_all (l := (MX1_halfOf (gg G)).new) (P := fun i e => vNew RX1 i e.1 e.2) (all_n) i (c, fs) h, lookup_all (l := (MX1_halfOf (gg G)).anew) (P := fun i e => vANew RX1 i e) (all_n), lookup_all (l := (MX1_halfOf (gg G)).lng) (P := fun i e => Jvm.Cond.constantLong RX1 i e ∈ WS) (all_n), lookup_all (l := (MX1_halfOf (gg G)).thr) (P := fun i e => vThr RX1 cX1_halfOf i e) (all_n), fun h => absurd rfl h, lookup_all (l := (MX1_halfOf (gg G)).cal) (P := fun i e => vCal l G RX1 i e) (all_c (⟨cX1_highOf, 2, some .int, fun y hy => by subst hy; exact ⟨by decide, ⟨_, wk_274, okX1_highOf hl, Or.inl ⟨Nat.ne_of_beq_eq_false rfl, rfl⟩⟩, wk_59, ⟨(by decide : yX1_highOf.cls ≠ "java/lang/invoke/MethodHandle"), (by decide : yX1_highOf.cls ≠ "java/lang/invoke/VarHandle")⟩, ⟨(by decide +kernel : (parseMethodDescriptor yX1_highOf.desc).map (fun d => d.parameters.length) = some 1), wk_272, wk_273⟩⟩⟩) (all_c (⟨cX1_lowOf, 2, some .int, fun y hy => by subst hy; exact ⟨by decide, ⟨_, wk_277, okX1_lowOf hl, Or.inl ⟨Nat.ne_of_beq_eq_false rfl, rfl⟩⟩, wk_59, ⟨(by decide : yX1_lowOf.cls ≠ "java/lang/invoke/MethodHandle"), (by decide : yX1_lowOf.cls ≠ "java/lang/invoke/VarHandle")⟩, ⟨(by decide +kernel : (parseMethodDescriptor yX1_lowOf.desc).map (fun d => d.parameters.length) = some 1), wk_275, wk_276⟩⟩⟩) (all_n))), lookup_all (l := (MX1_halfOf (gg G)).stt) (P := fun i e => vStt G RX1 i e) (all_n), lookup_all (l := (MX1_halfOf (gg G)).cst) (P := fun i e => vCst RX1 i e) (all_n), fun h => absurd rfl h, rfl, all_n⟩
theorem okX1_halfOf {l : Launch} (hl : l.stackTraces = false) {G : GT} : ∀ (args : List Value) (w : Hw) (S : Ot → Hw → Prop), spOf (MX1_halfOf (gg G)) args w S → CX l G yX1_halfOf (.code yX1_halfOf cX1_halfOf 3 (some .int)) 2 0 0 args w S := CX_sp (M := MX1_halfOf (gg G)) (y := yX1_halfOf) hl (by decide) rfl (vMX1_halfOf hl G) (fun h => by cases h) rfl
end
/-! 66.class02.lean.txt -/
section
/-! Rangecard.isSmallNumber(J)Z -/
theorem dX1_isSmallNumber_0 : decode cX1_isSmallNumber 0 = .ok (.lload_n 0, 1) := by decide +kernel
theorem dX1_isSmallNumber_1 : decode cX1_isSmallNumber 1 = .ok (.ldc2_w 256, 3) := by decide +kernel
theorem dX1_isSmallNumber_4 : decode cX1_isSmallNumber 4 = .ok (.lcmp, 1) := by decide +kernel
theorem dX1_isSmallNumber_5 : decode cX1_isSmallNumber 5 = .ok (.ifCond .lt 15, 3) := by decide +kernel
theorem dX1_isSmallNumber_8 : decode cX1_isSmallNumber 8 = .ok (.lload_n 0, 1) := by decide +kernel
theorem dX1_isSmallNumber_9 : decode cX1_isSmallNumber 9 = .ok (.ldc2_w 258, 3) := by decide +kernel
theorem dX1_isSmallNumber_12 : decode cX1_isSmallNumber 12 = .ok (.lcmp, 1) := by decide +kernel
theorem dX1_isSmallNumber_13 : decode cX1_isSmallNumber 13 = .ok (.ifCond .gt 7, 3) := by decide +kernel
theorem dX1_isSmallNumber_16 : decode cX1_isSmallNumber 16 = .ok (.iconst 1, 1) := by decide +kernel
theorem dX1_isSmallNumber_17 : decode cX1_isSmallNumber 17 = .ok (.goto 4, 3) := by decide +kernel
theorem dX1_isSmallNumber_20 : decode cX1_isSmallNumber 20 = .ok (.iconst 0, 1) := by decide +kernel
theorem dX1_isSmallNumber_21 : decode cX1_isSmallNumber 21 = .ok (.ireturn, 1) := by decide +kernel
def MX1_isSmallNumber (g : RO) : MT := ((RX1, cX1_isSmallNumber, 2, 1, 0, 0, false, some .boolean), [], [], [], [(256, -2147483648), (258, 2147483647)], [], 0, [], [], [], 0, [], [], g)
section
variable {g : RO} {Q : Ot → Hw → Prop} {st : List Value} {w : Hw} {k n p q : Nat} {a b : Int32} {x y : Int64} {u v : Value} {l0 l1 : Option Value}
theorem eX1_isSmallNumber_0 : WP (MX1_isSmallNumber g) Q (0, [some (.long x), l1], st, w, k, n) = WP (MX1_isSmallNumber g) Q (1, [some (.long x), l1], .long x :: st, w, k, n) := Eq.trans (WP_at (M := (MX1_isSmallNumber g)) rfl dX1_isSmallNumber_0 (Or.inr rfl)) rfl
theorem eX1_isSmallNumber_1 : WP (MX1_isSmallNumber g) Q (1, [l0, l1], st, w, k, n) = WP (MX1_isSmallNumber g) Q (4, [l0, l1], .long (-2147483648) :: st, w, k, n) := ldc2_e rfl dX1_isSmallNumber_1 rfl
theorem eX1_isSmallNumber_4 : WP (MX1_isSmallNumber g) Q (4, [l0, l1], .long y :: .long x :: st, w, k, n) = WP (MX1_isSmallNumber g) Q (5, [l0, l1], .int (lg_cmp x y) :: st, w, k, n) := Eq.trans (WP_at (M := (MX1_isSmallNumber g)) rfl dX1_isSmallNumber_4 (Or.inr rfl)) rfl
theorem eX1_isSmallNumber_5 : WP (MX1_isSmallNumber g) Q (5, [l0, l1], .int a :: st, w, k, n) = if a < 0 then WP (MX1_isSmallNumber g) Q (20, [l0, l1], st, w, k, n) else WP (MX1_isSmallNumber g) Q (8, [l0, l1], st, w, k, n) := ifc_e (a < 0) rfl dX1_isSmallNumber_5 rfl (by decide)
theorem eX1_isSmallNumber_8 : WP (MX1_isSmallNumber g) Q (8, [some (.long x), l1], st, w, k, n) = WP (MX1_isSmallNumber g) Q (9, [some (.long x), l1], .long x :: st, w, k, n) := Eq.trans (WP_at (M := (MX1_isSmallNumber g)) rfl dX1_isSmallNumber_8 (Or.inr rfl)) rfl
theorem eX1_isSmallNumber_9 : WP (MX1_isSmallNumber g) Q (9, [l0, l1], st, w, k, n) = WP (MX1_isSmallNumber g) Q (12, [l0, l1], .long 2147483647 :: st, w, k, n) := ldc2_e rfl dX1_isSmallNumber_9 rfl
theorem eX1_isSmallNumber_12 : WP (MX1_isSmallNumber g) Q (12, [l0, l1], .long y :: .long x :: st, w, k, n) = WP (MX1_isSmallNumber g) Q (13, [l0, l1], .int (lg_cmp x y) :: st, w, k, n) := Eq.trans (WP_at (M := (MX1_isSmallNumber g)) rfl dX1_isSmallNumber_12 (Or.inr rfl)) rfl
theorem eX1_isSmallNumber_13 : WP (MX1_isSmallNumber g) Q (13, [l0, l1], .int a :: st, w, k, n) = if 0 < a then WP (MX1_isSmallNumber g) Q (20, [l0, l1], st, w, k, n) else WP (MX1_isSmallNumber g) Q (16, [l0, l1], st, w, k, n) := ifc_e (0 < a) rfl dX1_isSmallNumber_13 rfl (by decide)
theorem eX1_isSmallNumber_16 : WP (MX1_isSmallNumber g) Q (16, [l0, l1], st, w, k, n) = WP (MX1_isSmallNumber g) Q (17, [l0, l1], .int 1 :: st, w, k, n) := iconst_e rfl dX1_isSmallNumber_16 (by decide)
theorem eX1_isSmallNumber_17 : WP (MX1_isSmallNumber g) Q (17, [l0, l1], st, w, k, n) = WP (MX1_isSmallNumber g) Q (21, [l0, l1], st, w, k, n) := goto_e rfl dX1_isSmallNumber_17 (by decide)
theorem eX1_isSmallNumber_20 : WP (MX1_isSmallNumber g) Q (20, [l0, l1], st, w, k, n) = WP (MX1_isSmallNumber g) Q (21, [l0, l1], .int 0 :: st, w, k, n) := iconst_e rfl dX1_isSmallNumber_20 (by decide)
theorem eX1_isSmallNumber_21 : WP (MX1_isSmallNumber g) Q (21, [l0, l1], [.int a], w, k, n) = (narrow (.boolean) (.int a) = .int a ∧ k ≤ 0 ∧ n ≤ 0 ∧ Q (.inl (some (.int a))) w) := iret_e rfl dX1_isSmallNumber_21 rfl
end
theorem wk_462 : (.constantLong RX1 256 (-2147483648) : Jvm.Cond) ∈ WS := WS_t2 164 rfl rfl
theorem wk_463 : (.constantLong RX1 258 (2147483647) : Jvm.Cond) ∈ WS := WS_t2 165 rfl rfl
theorem vMX1_isSmallNumber {l : Launch} (hl : l.stackTraces = false) (G : GT) : vM l G (MX1_isSmallNumber (gg G)) := ⟨fun i c j h => lookup_all (l := (MX1_isSmallNumber (gg G)).fld) (P := fun i e => vFld RX1 i e.1 e.2) (all_n) i (c, j) h, fun i c fs h => lookup_all (l := (MX1_isSmallNumber (gg G)).new) (P := fun i e => vNew RX1 i e.1 e.2) (all_n) i (c, fs) h, lookup_all (l := (MX1_isSmallNumber (gg G)).anew) (P := fun i e => vANew RX1 i e) (all_n), lookup_all (l := (MX1_isSmallNumber (gg G)).lng) (P := fun i e => Jvm.Cond.constantLong RX1 i e ∈ WS) (all_c (wk_462) (all_c (wk_463) (all_n))), lookup_all (l := (MX1_isSmallNumber (gg G)).thr) (P := fun i e => vThr RX1 cX1_isSmallNumber i e) (all_n), fun h => absurd rfl h, lookup_all (l := (MX1_isSmallNumber (gg G)).cal) (P := fun i e => vCal l G RX1 i e) (all_n), lookup_all (l := (MX1_isSmallNumber (gg G)).stt) (P := fun i e => vStt G RX1 i e) (all_n), lookup_all (l := (MX1_isSmallNumber (gg G)).cst) (P := fun i e => vCst RX1 i e) (all_n), fun h => absurd rfl h, rfl, all_n⟩
theorem okX1_isSmallNumber {l : Launch} (hl : l.stackTraces = false) {G : GT} : ∀ (args : List Value) (w : Hw) (S : Ot → Hw → Prop), spOf (MX1_isSmallNumber (gg G)) args w S → CX l G yX1_isSmallNumber (.code yX1_isSmallNumber cX1_isSmallNumber 2 (some .boolean)) 1 0 0 args w S := CX_sp (M := MX1_isSmallNumber (gg G)) (y := yX1_isSmallNumber) hl (by decide) rfl (vMX1_isSmallNumber hl G) (fun h => by cases h) rfl
/-! Rangecard.asNumber(Z)I -/
theorem dX1_asNumber_0 : decode cX1_asNumber 0 = .ok (.iload_n 0, 1) := by decide +kernel
theorem dX1_asNumber_1 : decode cX1_asNumber 1 = .ok (.ifCond .eq 7, 3) := by decide +kernel
theorem dX1_asNumber_4 : decode cX1_asNumber 4 = .ok (.iconst 1, 1) := by decide +kernel
theorem dX1_asNumber_5 : decode cX1_asNumber 5 = .ok (.goto 4, 3) := by decide +kernel
theorem dX1_asNumber_8 : decode cX1_asNumber 8 = .ok (.iconst 0, 1) := by decide +kernel
theorem dX1_asNumber_9 : decode cX1_asNumber 9 = .ok (.ireturn, 1) := by decide +kernel
def MX1_asNumber (g : RO) : MT := ((RX1, cX1_asNumber, 1, 1, 0, 0, false, some .int), [], [], [], [], [], 0, [], [], [], 0, [], [], g)
section
variable {g : RO} {Q : Ot → Hw → Prop} {st : List Value} {w : Hw} {k n p q : Nat} {a b : Int32} {x y : Int64} {u v : Value} {l0 : Option Value}
theorem eX1_asNumber_0 : WP (MX1_asNumber g) Q (0, [some (.int a)], st, w, k, n) = WP (MX1_asNumber g) Q (1, [some (.int a)], .int a :: st, w, k, n) := Eq.trans (WP_at (M := (MX1_asNumber g)) rfl dX1_asNumber_0 (Or.inr rfl)) rfl
theorem eX1_asNumber_1 : WP (MX1_asNumber g) Q (1, [l0], .int a :: st, w, k, n) = if a = 0 then WP (MX1_asNumber g) Q (8, [l0], st, w, k, n) else WP (MX1_asNumber g) Q (4, [l0], st, w, k, n) := ifc_e (a = 0) rfl dX1_asNumber_1 rfl (by decide)
theorem eX1_asNumber_4 : WP (MX1_asNumber g) Q (4, [l0], st, w, k, n) = WP (MX1_asNumber g) Q (5, [l0], .int 1 :: st, w, k, n) := iconst_e rfl dX1_asNumber_4 (by decide)
theorem eX1_asNumber_5 : WP (MX1_asNumber g) Q (5, [l0], st, w, k, n) = WP (MX1_asNumber g) Q (9, [l0], st, w, k, n) := goto_e rfl dX1_asNumber_5 (by decide)
theorem eX1_asNumber_8 : WP (MX1_asNumber g) Q (8, [l0], st, w, k, n) = WP (MX1_asNumber g) Q (9, [l0], .int 0 :: st, w, k, n) := iconst_e rfl dX1_asNumber_8 (by decide)
theorem eX1_asNumber_9 : WP (MX1_asNumber g) Q (9, [l0], [.int a], w, k, n) = (k ≤ 0 ∧ n ≤ 0 ∧ Q (.inl (some (.int a))) w) := iretI_e rfl dX1_asNumber_9 rfl
end
theorem vMX1_asNumber {l : Launch} (hl : l.stackTraces = false) (G : GT) : vM l G (MX1_asNumber (gg G)) := ⟨fun i c j h => lookup_all (l := (MX1_asNumber (gg G)).fld) (P := fun i e => vFld RX1 i e.1 e.2) (all_n) i (c, j) h, fun i c fs h => lookup_all (l := (MX1_asNumber (gg G)).new) (P := fun i e => vNew RX1 i e.1 e.2) (all_n) i (c, fs) h, lookup_all (l := (MX1_asNumber (gg G)).anew) (P := fun i e => vANew RX1 i e) (all_n), lookup_all (l := (MX1_asNumber (gg G)).lng) (P := fun i e => Jvm.Cond.constantLong RX1 i e ∈ WS) (all_n), lookup_all (l := (MX1_asNumber (gg G)).thr) (P := fun i e => vThr RX1 cX1_asNumber i e) (all_n), fun h => absurd rfl h, lookup_all (l := (MX1_asNumber (gg G)).cal) (P := fun i e => vCal l G RX1 i e) (all_n), lookup_all (l := (MX1_asNumber (gg G)).stt) (P := fun i e => vStt G RX1 i e) (all_n), lookup_all (l := (MX1_asNumber (gg G)).cst) (P := fun i e => vCst RX1 i e) (all_n), fun h => absurd rfl h, rfl, all_n⟩
theorem okX1_asNumber {l : Launch} (hl : l.stackTraces = false) {G : GT} : ∀ (args : List Value) (w : Hw) (S : Ot → Hw → Prop), spOf (MX1_asNumber (gg G)) args w S → CX l G yX1_asNumber (.code yX1_asNumber cX1_asNumber 1 (some .int)) 1 0 0 args w S := CX_sp (M := MX1_asNumber (gg G)) (y := yX1_asNumber) hl (by decide) rfl (vMX1_asNumber hl G) (fun h => by cases h) rfl
/-! Rangecard.farNumber(I)J -/
theorem dX1_farNumber_0 : decode cX1_farNumber 0 = .ok (.iload_n 0, 1) := by decide +kernel
theorem dX1_farNumber_1 : decode cX1_farNumber 1 = .ok (.tableswitch 39 0 2 #[27, 31, 35], 27) := by decide +kernel
theorem dX1_farNumber_28 : decode cX1_farNumber 28 = .ok (.ldc2_w 260, 3) := by decide +kernel
theorem dX1_farNumber_31 : decode cX1_farNumber 31 = .ok (.lreturn, 1) := by decide +kernel
theorem dX1_farNumber_32 : decode cX1_farNumber 32 = .ok (.ldc2_w 262, 3) := by decide +kernel
theorem dX1_farNumber_35 : decode cX1_farNumber 35 = .ok (.lreturn, 1) := by decide +kernel
theorem dX1_farNumber_36 : decode cX1_farNumber 36 = .ok (.ldc2_w 256, 3) := by decide +kernel
theorem dX1_farNumber_39 : decode cX1_farNumber 39 = .ok (.lreturn, 1) := by decide +kernel
theorem dX1_farNumber_40 : decode cX1_farNumber 40 = .ok (.ldc2_w 258, 3) := by decide +kernel
theorem dX1_farNumber_43 : decode cX1_farNumber 43 = .ok (.lreturn, 1) := by decide +kernel
def MX1_farNumber (g : RO) : MT := ((RX1, cX1_farNumber, 1, 1, 0, 0, false, some .long), [], [], [], [(260, -9223372036854775808), (262, 9223372036854775807), (256, -2147483648), (258, 2147483647)], [], 0, [], [], [], 0, [], [], g)
section
variable {g : RO} {Q : Ot → Hw → Prop} {st : List Value} {w : Hw} {k n p q : Nat} {a b : Int32} {x y : Int64} {u v : Value} {l0 : Option Value}
theorem eX1_farNumber_0 : WP (MX1_farNumber g) Q (0, [some (.int a)], st, w, k, n) = WP (MX1_farNumber g) Q (1, [some (.int a)], .int a :: st, w, k, n) := Eq.trans (WP_at (M := (MX1_farNumber g)) rfl dX1_farNumber_0 (Or.inr rfl)) rfl
theorem eX1_farNumber_1_0 : WP (MX1_farNumber g) Q (1, [l0], .int 0 :: st, w, k, n) = WP (MX1_farNumber g) Q (28, [l0], st, w, k, n) := tsw_e (off := 27) rfl dX1_farNumber_1 (by decide) (by decide) (by decide) (by decide) (by decide)
theorem eX1_farNumber_1_1 : WP (MX1_farNumber g) Q (1, [l0], .int 1 :: st, w, k, n) = WP (MX1_farNumber g) Q (32, [l0], st, w, k, n) := tsw_e (off := 31) rfl dX1_farNumber_1 (by decide) (by decide) (by decide) (by decide) (by decide)
theorem eX1_farNumber_1_2 : WP (MX1_farNumber g) Q (1, [l0], .int 2 :: st, w, k, n) = WP (MX1_farNumber g) Q (36, [l0], st, w, k, n) := tsw_e (off := 35) rfl dX1_farNumber_1 (by decide) (by decide) (by decide) (by decide) (by decide)
theorem eX1_farNumber_1_d3 : WP (MX1_farNumber g) Q (1, [l0], .int 3 :: st, w, k, n) = WP (MX1_farNumber g) Q (40, [l0], st, w, k, n) := tswd_e rfl dX1_farNumber_1 (by decide) (by decide)
theorem eX1_farNumber_1_d4 : WP (MX1_farNumber g) Q (1, [l0], .int 4 :: st, w, k, n) = WP (MX1_farNumber g) Q (40, [l0], st, w, k, n) := tswd_e rfl dX1_farNumber_1 (by decide) (by decide)
theorem eX1_farNumber_1_d (h : a.toInt < 0 ∨ 2 < a.toInt) : WP (MX1_farNumber g) Q (1, [l0], .int a :: st, w, k, n) = WP (MX1_farNumber g) Q (40, [l0], st, w, k, n) := tswd_e rfl dX1_farNumber_1 h (by decide)
theorem eX1_farNumber_28 : WP (MX1_farNumber g) Q (28, [l0], st, w, k, n) = WP (MX1_farNumber g) Q (31, [l0], .long (-9223372036854775808) :: st, w, k, n) := ldc2_e rfl dX1_farNumber_28 rfl
theorem eX1_farNumber_31 : WP (MX1_farNumber g) Q (31, [l0], [.long x], w, k, n) = (k ≤ 0 ∧ n ≤ 0 ∧ Q (.inl (some (.long x))) w) := lret_e rfl dX1_farNumber_31 rfl
theorem eX1_farNumber_32 : WP (MX1_farNumber g) Q (32, [l0], st, w, k, n) = WP (MX1_farNumber g) Q (35, [l0], .long 9223372036854775807 :: st, w, k, n) := ldc2_e rfl dX1_farNumber_32 rfl
theorem eX1_farNumber_35 : WP (MX1_farNumber g) Q (35, [l0], [.long x], w, k, n) = (k ≤ 0 ∧ n ≤ 0 ∧ Q (.inl (some (.long x))) w) := lret_e rfl dX1_farNumber_35 rfl
theorem eX1_farNumber_36 : WP (MX1_farNumber g) Q (36, [l0], st, w, k, n) = WP (MX1_farNumber g) Q (39, [l0], .long (-2147483648) :: st, w, k, n) := ldc2_e rfl dX1_farNumber_36 rfl
theorem eX1_farNumber_39 : WP (MX1_farNumber g) Q (39, [l0], [.long x], w, k, n) = (k ≤ 0 ∧ n ≤ 0 ∧ Q (.inl (some (.long x))) w) := lret_e rfl dX1_farNumber_39 rfl
theorem eX1_farNumber_40 : WP (MX1_farNumber g) Q (40, [l0], st, w, k, n) = WP (MX1_farNumber g) Q (43, [l0], .long 2147483647 :: st, w, k, n) := ldc2_e rfl dX1_farNumber_40 rfl
theorem eX1_farNumber_43 : WP (MX1_farNumber g) Q (43, [l0], [.long x], w, k, n) = (k ≤ 0 ∧ n ≤ 0 ∧ Q (.inl (some (.long x))) w) := lret_e rfl dX1_farNumber_43 rfl
end
theorem wk_199 : (.constantLong RX1 260 (-9223372036854775808) : Jvm.Cond) ∈ WS := WS_t1 141 rfl rfl
theorem wk_204 : (.constantLong RX1 262 (9223372036854775807) : Jvm.Cond) ∈ WS := WS_t1 146 rfl rfl
theorem vMX1_farNumber {l : Launch} (hl : l.stackTraces = false) (G : GT) : vM l G (MX1_farNumber (gg G)) := ⟨fun i c j h => lookup_all (l := (MX1_farNumber (gg G)).fld) (P := fun i e => vFld RX1 i e.1 e.2) (all_n) i (c, j) h, fun i c fs h => lookup_all (l := (MX1_farNumber (gg G)).new) (P := fun i e => vNew RX1 i e.1 e.2) (all_n) i (c, fs) h, lookup_all (l := (MX1_farNumber (gg G)).anew) (P := fun i e => vANew RX1 i e) (all_n), lookup_all (l := (MX1_farNumber (gg G)).lng) (P := fun i e => Jvm.Cond.constantLong RX1 i e ∈ WS) (all_c (wk_199) (all_c (wk_204) (all_c (wk_462) (all_c (wk_463) (all_n))))), lookup_all (l := (MX1_farNumber (gg G)).thr) (P := fun i e => vThr RX1 cX1_farNumber i e) (all_n), fun h => absurd rfl h, lookup_all (l := (MX1_farNumber (gg G)).cal) (P := fun i e => vCal l G RX1 i e) (all_n), lookup_all (l := (MX1_farNumber (gg G)).stt) (P := fun i e => vStt G RX1 i e) (all_n), lookup_all (l := (MX1_farNumber (gg G)).cst) (P := fun i e => vCst RX1 i e) (all_n), fun h => absurd rfl h, rfl, all_n⟩
theorem okX1_farNumber {l : Launch} (hl : l.stackTraces = false) {G : GT} : ∀ (args : List Value) (w : Hw) (S : Ot → Hw → Prop), spOf (MX1_farNumber (gg G)) args w S → CX l G yX1_farNumber (.code yX1_farNumber cX1_farNumber 1 (some .long)) 1 0 0 args w S := CX_sp (M := MX1_farNumber (gg G)) (y := yX1_farNumber) hl (by decide) rfl (vMX1_farNumber hl G) (fun h => by cases h) rfl
/-! Rangecard.putNumber(IJ)I -/
theorem dX1_putNumber_0 : decode cX1_putNumber 0 = .ok (.aload_n 0, 1) := by decide +kernel
theorem dX1_putNumber_1 : decode cX1_putNumber 1 = .ok (.getfield 9, 3) := by decide +kernel
theorem dX1_putNumber_4 : decode cX1_putNumber 4 = .ok (.iload_n 1, 1) := by decide +kernel
theorem dX1_putNumber_5 : decode cX1_putNumber 5 = .ok (.lload_n 2, 1) := by decide +kernel
theorem dX1_putNumber_6 : decode cX1_putNumber 6 = .ok (.lastore, 1) := by decide +kernel
theorem dX1_putNumber_7 : decode cX1_putNumber 7 = .ok (.lload_n 2, 1) := by decide +kernel
theorem dX1_putNumber_8 : decode cX1_putNumber 8 = .ok (.invokestatic 45, 3) := by decide +kernel
theorem dX1_putNumber_11 : decode cX1_putNumber 11 = .ok (.ireturn, 1) := by decide +kernel
def MX1_putNumber (g : RO) : MT := ((RX1, cX1_putNumber, 4, 2, 0, 0, false, some .int), [(9, 5, 0)], [], [], [], [], 0, [(45, 0, 1, 0, 1, (fun _ _ => 0), (fun _ _ => 0), yX1_lowOf, spOf (MX1_lowOf g))], [], [], 0, [], [], g)
section
variable {g : RO} {Q : Ot → Hw → Prop} {st : List Value} {w : Hw} {k n p q : Nat} {a b : Int32} {x y : Int64} {u v : Value} {l0 l1 l2 l3 : Option Value}
theorem eX1_putNumber_0 : WP (MX1_putNumber g) Q (0, [some (.ref p), l1, l2, l3], st, w, k, n) = WP (MX1_putNumber g) Q (1, [some (.ref p), l1, l2, l3], .ref p :: st, w, k, n) := Eq.trans (WP_at (M := (MX1_putNumber g)) rfl dX1_putNumber_0 (Or.inr rfl)) rfl
theorem eX1_putNumber_0N : WP (MX1_putNumber g) Q (0, [some .null, l1, l2, l3], st, w, k, n) = WP (MX1_putNumber g) Q (1, [some .null, l1, l2, l3], .null :: st, w, k, n) := Eq.trans (WP_at (M := (MX1_putNumber g)) rfl dX1_putNumber_0 (Or.inr rfl)) rfl
theorem eX1_putNumber_1 : WP (MX1_putNumber g) Q (1, [l0, l1, l2, l3], .ref p :: st, w, k, n) = go (rd g w p) 5 fun fs => ∃ v, fs[0]? = some v ∧ WP (MX1_putNumber g) Q (4, [l0, l1, l2, l3], v :: st, w, k, n) := get_e rfl dX1_putNumber_1 rfl
theorem eX1_putNumber_4 : WP (MX1_putNumber g) Q (4, [l0, some (.int a), l2, l3], st, w, k, n) = WP (MX1_putNumber g) Q (5, [l0, some (.int a), l2, l3], .int a :: st, w, k, n) := Eq.trans (WP_at (M := (MX1_putNumber g)) rfl dX1_putNumber_4 (Or.inr rfl)) rfl
theorem eX1_putNumber_5 : WP (MX1_putNumber g) Q (5, [l0, l1, some (.long x), l3], st, w, k, n) = WP (MX1_putNumber g) Q (6, [l0, l1, some (.long x), l3], .long x :: st, w, k, n) := Eq.trans (WP_at (M := (MX1_putNumber g)) rfl dX1_putNumber_5 (Or.inr rfl)) rfl
theorem eX1_putNumber_6 : WP (MX1_putNumber g) Q (6, [l0, l1, l2, l3], .long x :: .int a :: .ref p :: st, w, k, n) = gl (w p) 0 fun N f => vp_in a N ∧ WP (MX1_putNumber g) Q (7, [l0, l1, l2, l3], st, upw w p (.inl (0, N, .inr (.inl (vp_updL f a.toNatClampNeg x)))), k, n) := Eq.trans (WP_at (M := (MX1_putNumber g)) rfl dX1_putNumber_6 (Or.inr rfl)) rfl
theorem eX1_putNumber_7 : WP (MX1_putNumber g) Q (7, [l0, l1, some (.long x), l3], st, w, k, n) = WP (MX1_putNumber g) Q (8, [l0, l1, some (.long x), l3], .long x :: st, w, k, n) := Eq.trans (WP_at (M := (MX1_putNumber g)) rfl dX1_putNumber_7 (Or.inr rfl)) rfl
theorem eX1_putNumber_8 {z0 : Int64} : WP (MX1_putNumber g) Q (8, [l0, l1, l2, l3], .long z0 :: st, w, k, n) = (wt st ≤ 8 ∧ k + 0 ≤ 0 ∧ n + 0 ≤ 0 ∧ WP (MX1_lowOf g) (kx (fun v w' => WP (MX1_putNumber g) Q (11, [l0, l1, l2, l3], v.toList ++ st, w', k + 0, n + 0)) (fun E w' => Q (.inr E) w')) (0, [some (.long z0), none], [], w, 0, 0)) := csS (M := (MX1_putNumber g)) (mc := (fun _ _ => 0)) (ms := (fun _ _ => 0)) (As := [.long z0]) (rest := st) (MX1_lowOf g) rfl rfl dX1_putNumber_8 (Nat.ne_of_beq_eq_false rfl) (by exact fun h => nomatch (show (none : Option Nat) = some 12 from h)) (by exact fun h => nomatch (show (none : Option Nat) = some 13 from h)) (by exact fun h => nomatch (show (none : Option Nat) = some 14 from h)) rfl rfl (by decide) (Nat.le_of_ble_eq_true rfl) (Nat.le_of_ble_eq_true rfl) rfl
theorem eX1_putNumber_11 : WP (MX1_putNumber g) Q (11, [l0, l1, l2, l3], [.int a], w, k, n) = (k ≤ 0 ∧ n ≤ 0 ∧ Q (.inl (some (.int a))) w) := iretI_e rfl dX1_putNumber_11 rfl
end
theorem wk_98 : (.fieldLink RX1 9 "Rangecard" "numbers" "[J" : Jvm.Cond) ∈ WS := WS_t1 40 rfl rfl
theorem vF_RX1_9 : vFld RX1 9 5 0 := ⟨RX1, TX1, 7, tyX1, "Rangecard", rfl, by decide, iW_5, tyX1_ok, nmX1, Or.inl rfl, Or.inl wk_98⟩
theorem vMX1_putNumber {l : Launch} (hl : l.stackTraces = false) (G : GT) : vM l G (MX1_putNumber (gg G)) := ⟨fun i c j h => lookup_all (l := (MX1_putNumber (gg G)).fld) (P := fun i e => vFld RX1 i e.1 e.2) (all_c (vF_RX1_9) (all_n)) i (c, j) h, fun i c fs h => lookup_all (l := (MX1_putNumber (gg G)).new) (P := fun i e => vNew RX1 i e.1 e.2) (all_n) i (c, fs) h, lookup_all (l := (MX1_putNumber (gg G)).anew) (P := fun i e => vANew RX1 i e) (all_n), lookup_all (l := (MX1_putNumber (gg G)).lng) (P := fun i e => Jvm.Cond.constantLong RX1 i e ∈ WS) (all_n), lookup_all (l := (MX1_putNumber (gg G)).thr) (P := fun i e => vThr RX1 cX1_putNumber i e) (all_n), fun h => absurd rfl h, lookup_all (l := (MX1_putNumber (gg G)).cal) (P := fun i e => vCal l G RX1 i e) (all_c (⟨cX1_lowOf, 2, some .int, fun y hy => by subst hy; exact ⟨by decide, ⟨_, wk_277, okX1_lowOf hl, Or.inl ⟨Nat.ne_of_beq_eq_false rfl, rfl⟩⟩, wk_59, ⟨(by decide : yX1_lowOf.cls ≠ "java/lang/invoke/MethodHandle"), (by decide : yX1_lowOf.cls ≠ "java/lang/invoke/VarHandle")⟩, ⟨(by decide +kernel : (parseMethodDescriptor yX1_lowOf.desc).map (fun d => d.parameters.length) = some 1), wk_275, wk_276⟩⟩⟩) (all_n)), lookup_all (l := (MX1_putNumber (gg G)).stt) (P := fun i e => vStt G RX1 i e) (all_n), lookup_all (l := (MX1_putNumber (gg G)).cst) (P := fun i e => vCst RX1 i e) (all_n), fun h => absurd rfl h, rfl, all_n⟩
theorem okX1_putNumber {l : Launch} (hl : l.stackTraces = false) {G : GT} : ∀ (args : List Value) (w : Hw) (S : Ot → Hw → Prop), spOf (MX1_putNumber (gg G)) args w S → CX l G yX1_putNumber (.code yX1_putNumber cX1_putNumber 4 (some .int)) 2 0 0 args w S := CX_sp (M := MX1_putNumber (gg G)) (y := yX1_putNumber) hl (by decide) rfl (vMX1_putNumber hl G) (fun h => by cases h) rfl
/-! Rangecard.copyOf(LRangecard$Range;)LRangecard$Range; -/
theorem dX1_copyOf_0 : decode cX1_copyOf 0 = .ok (.aload_n 0, 1) := by decide +kernel
theorem dX1_copyOf_1 : decode cX1_copyOf 1 = .ok (.getfield 124, 3) := by decide +kernel
theorem dX1_copyOf_4 : decode cX1_copyOf 4 = .ok (.aload_n 0, 1) := by decide +kernel
theorem dX1_copyOf_5 : decode cX1_copyOf 5 = .ok (.getfield 117, 3) := by decide +kernel
theorem dX1_copyOf_8 : decode cX1_copyOf 8 = .ok (.aload_n 0, 1) := by decide +kernel
theorem dX1_copyOf_9 : decode cX1_copyOf 9 = .ok (.getfield 121, 3) := by decide +kernel
theorem dX1_copyOf_12 : decode cX1_copyOf 12 = .ok (.aload_n 0, 1) := by decide +kernel
theorem dX1_copyOf_13 : decode cX1_copyOf 13 = .ok (.getfield 127, 3) := by decide +kernel
theorem dX1_copyOf_16 : decode cX1_copyOf 16 = .ok (.invokestatic 94, 3) := by decide +kernel
theorem dX1_copyOf_19 : decode cX1_copyOf 19 = .ok (.areturn, 1) := by decide +kernel
def MX1_copyOf (g : RO) : MT := ((RX1, cX1_copyOf, 1, 3, 1, 4, false, some (.object "Rangecard$Range")), [(124, 4, 0), (117, 4, 1), (121, 4, 2), (127, 4, 3)], [], [], [], [], 0, [(94, 1, 4, 0, 2, (fun _ _ => 1), (fun _ _ => 4), yX0_ofFour, spOf (MX0_ofFour g))], [], [], 0, [], [], g)
section
variable {g : RO} {Q : Ot → Hw → Prop} {st : List Value} {w : Hw} {k n p q : Nat} {a b : Int32} {x y : Int64} {u v : Value} {l0 : Option Value}
theorem eX1_copyOf_0 : WP (MX1_copyOf g) Q (0, [some (.ref p)], st, w, k, n) = WP (MX1_copyOf g) Q (1, [some (.ref p)], .ref p :: st, w, k, n) := Eq.trans (WP_at (M := (MX1_copyOf g)) rfl dX1_copyOf_0 (Or.inr rfl)) rfl
theorem eX1_copyOf_0N : WP (MX1_copyOf g) Q (0, [some .null], st, w, k, n) = WP (MX1_copyOf g) Q (1, [some .null], .null :: st, w, k, n) := Eq.trans (WP_at (M := (MX1_copyOf g)) rfl dX1_copyOf_0 (Or.inr rfl)) rfl
theorem eX1_copyOf_1 : WP (MX1_copyOf g) Q (1, [l0], .ref p :: st, w, k, n) = go (rd g w p) 4 fun fs => ∃ v, fs[0]? = some v ∧ WP (MX1_copyOf g) Q (4, [l0], v :: st, w, k, n) := get_e rfl dX1_copyOf_1 rfl
theorem eX1_copyOf_4 : WP (MX1_copyOf g) Q (4, [some (.ref p)], st, w, k, n) = WP (MX1_copyOf g) Q (5, [some (.ref p)], .ref p :: st, w, k, n) := Eq.trans (WP_at (M := (MX1_copyOf g)) rfl dX1_copyOf_4 (Or.inr rfl)) rfl
theorem eX1_copyOf_4N : WP (MX1_copyOf g) Q (4, [some .null], st, w, k, n) = WP (MX1_copyOf g) Q (5, [some .null], .null :: st, w, k, n) := Eq.trans (WP_at (M := (MX1_copyOf g)) rfl dX1_copyOf_4 (Or.inr rfl)) rfl
theorem eX1_copyOf_5 : WP (MX1_copyOf g) Q (5, [l0], .ref p :: st, w, k, n) = go (rd g w p) 4 fun fs => ∃ v, fs[1]? = some v ∧ WP (MX1_copyOf g) Q (8, [l0], v :: st, w, k, n) := get_e rfl dX1_copyOf_5 rfl
theorem eX1_copyOf_8 : WP (MX1_copyOf g) Q (8, [some (.ref p)], st, w, k, n) = WP (MX1_copyOf g) Q (9, [some (.ref p)], .ref p :: st, w, k, n) := Eq.trans (WP_at (M := (MX1_copyOf g)) rfl dX1_copyOf_8 (Or.inr rfl)) rfl
theorem eX1_copyOf_8N : WP (MX1_copyOf g) Q (8, [some .null], st, w, k, n) = WP (MX1_copyOf g) Q (9, [some .null], .null :: st, w, k, n) := Eq.trans (WP_at (M := (MX1_copyOf g)) rfl dX1_copyOf_8 (Or.inr rfl)) rfl
theorem eX1_copyOf_9 : WP (MX1_copyOf g) Q (9, [l0], .ref p :: st, w, k, n) = go (rd g w p) 4 fun fs => ∃ v, fs[2]? = some v ∧ WP (MX1_copyOf g) Q (12, [l0], v :: st, w, k, n) := get_e rfl dX1_copyOf_9 rfl
theorem eX1_copyOf_12 : WP (MX1_copyOf g) Q (12, [some (.ref p)], st, w, k, n) = WP (MX1_copyOf g) Q (13, [some (.ref p)], .ref p :: st, w, k, n) := Eq.trans (WP_at (M := (MX1_copyOf g)) rfl dX1_copyOf_12 (Or.inr rfl)) rfl
theorem eX1_copyOf_12N : WP (MX1_copyOf g) Q (12, [some .null], st, w, k, n) = WP (MX1_copyOf g) Q (13, [some .null], .null :: st, w, k, n) := Eq.trans (WP_at (M := (MX1_copyOf g)) rfl dX1_copyOf_12 (Or.inr rfl)) rfl
theorem eX1_copyOf_13 : WP (MX1_copyOf g) Q (13, [l0], .ref p :: st, w, k, n) = go (rd g w p) 4 fun fs => ∃ v, fs[3]? = some v ∧ WP (MX1_copyOf g) Q (16, [l0], v :: st, w, k, n) := get_e rfl dX1_copyOf_13 rfl
theorem eX1_copyOf_16 {z0 : Int64} {z1 : Int64} {z2 : Int64} {z3 : Int64} : WP (MX1_copyOf g) Q (16, [l0], .long z3 :: .long z2 :: .long z1 :: .long z0 :: st, w, k, n) = (wt st ≤ 8 ∧ k + 1 ≤ 1 ∧ n + 4 ≤ 4 ∧ WP (MX0_ofFour g) (kx (fun v w' => WP (MX1_copyOf g) Q (19, [l0], v.toList ++ st, w', k + 1, n + 4)) (fun E w' => Q (.inr E) w')) (0, [some (.long z0), none, some (.long z1), none, some (.long z2), none, some (.long z3), none], [], w, 0, 0)) := csS (M := (MX1_copyOf g)) (mc := (fun _ _ => 1)) (ms := (fun _ _ => 4)) (As := [.long z0, .long z1, .long z2, .long z3]) (rest := st) (MX0_ofFour g) rfl rfl dX1_copyOf_16 (Nat.ne_of_beq_eq_false rfl) (by exact fun h => nomatch (show (none : Option Nat) = some 12 from h)) (by exact fun h => nomatch (show (none : Option Nat) = some 13 from h)) (by exact fun h => nomatch (show (none : Option Nat) = some 14 from h)) rfl rfl (by decide) (Nat.le_of_ble_eq_true rfl) (Nat.le_of_ble_eq_true rfl) rfl
theorem eX1_copyOf_19 : WP (MX1_copyOf g) Q (19, [l0], [.ref p], w, k, n) = (k ≤ 1 ∧ n ≤ 4 ∧ Q (.inl (some (.ref p))) w) := aretR_e rfl dX1_copyOf_19 rfl
theorem eX1_copyOf_19N : WP (MX1_copyOf g) Q (19, [l0], [.null], w, k, n) = (k ≤ 1 ∧ n ≤ 4 ∧ Q (.inl (some .null)) w) := aretN_e rfl dX1_copyOf_19 rfl
end
theorem vF_RX1_124 : vFld RX1 124 4 0 := ⟨RX0, TX0, 4, tyX0, "Rangecard$Range", rfl, by decide, iW_4, tyX0_ok, nmX0, Or.inl rfl, Or.inr (Or.inr ⟨rfl, by decide, ⟨"Rangecard", List.mem_of_getElem? (i := 160) (by decide +kernel)⟩⟩)⟩
theorem vF_RX1_117 : vFld RX1 117 4 1 := ⟨RX0, TX0, 4, tyX0, "Rangecard$Range", rfl, by decide, iW_4, tyX0_ok, nmX0, Or.inl rfl, Or.inr (Or.inr ⟨rfl, by decide, ⟨"Rangecard", List.mem_of_getElem? (i := 162) (by decide +kernel)⟩⟩)⟩
theorem vF_RX1_121 : vFld RX1 121 4 2 := ⟨RX0, TX0, 4, tyX0, "Rangecard$Range", rfl, by decide, iW_4, tyX0_ok, nmX0, Or.inl rfl, Or.inr (Or.inr ⟨rfl, by decide, ⟨"Rangecard", List.mem_of_getElem? (i := 164) (by decide +kernel)⟩⟩)⟩
theorem vF_RX1_127 : vFld RX1 127 4 3 := ⟨RX0, TX0, 4, tyX0, "Rangecard$Range", rfl, by decide, iW_4, tyX0_ok, nmX0, Or.inl rfl, Or.inr (Or.inr ⟨rfl, by decide, ⟨"Rangecard", List.mem_of_getElem? (i := 166) (by decide +kernel)⟩⟩)⟩
theorem vMX1_copyOf {l : Launch} (hl : l.stackTraces = false) (G : GT) : vM l G (MX1_copyOf (gg G)) := ⟨fun i c j h => lookup_all (l := (MX1_copyOf (gg G)).fld) (P := fun i e => vFld RX1 i e.1 e.2) (all_c (vF_RX1_124) (all_c (vF_RX1_117) (all_c (vF_RX1_121) (all_c (vF_RX1_127) (all_n))))) i (c, j) h, fun i c fs h => lookup_all (l := (MX1_copyOf (gg G)).new) (P := fun i e => vNew RX1 i e.1 e.2) (all_n) i (c, fs) h, lookup_all (l := (MX1_copyOf (gg G)).anew) (P := fun i e => vANew RX1 i e) (all_n), lookup_all (l := (MX1_copyOf (gg G)).lng) (P := fun i e => Jvm.Cond.constantLong RX1 i e ∈ WS) (all_n), lookup_all (l := (MX1_copyOf (gg G)).thr) (P := fun i e => vThr RX1 cX1_copyOf i e) (all_n), fun h => absurd rfl h, lookup_all (l := (MX1_copyOf (gg G)).cal) (P := fun i e => vCal l G RX1 i e) (all_c (⟨cX0_ofFour, 8, some (.object "Rangecard$Range"), fun y hy => by subst hy; exact ⟨by decide, ⟨_, wk_149, okX0_ofFour hl, Or.inl ⟨Nat.ne_of_beq_eq_false rfl, rfl⟩⟩, wk_84, ⟨(by decide : yX0_ofFour.cls ≠ "java/lang/invoke/MethodHandle"), (by decide : yX0_ofFour.cls ≠ "java/lang/invoke/VarHandle")⟩, ⟨(by decide +kernel : (parseMethodDescriptor yX0_ofFour.desc).map (fun d => d.parameters.length) = some 4), ⟨"Rangecard", List.mem_of_getElem? (i := 147) (by decide +kernel : lw_tbl[147]? = some (.methodLinkNest RX1 94 yX0_ofFour "Rangecard"))⟩, wk_148⟩⟩⟩) (all_n)), lookup_all (l := (MX1_copyOf (gg G)).stt) (P := fun i e => vStt G RX1 i e) (all_n), lookup_all (l := (MX1_copyOf (gg G)).cst) (P := fun i e => vCst RX1 i e) (all_n), fun h => absurd rfl h, rfl, all_n⟩
theorem okX1_copyOf {l : Launch} (hl : l.stackTraces = false) {G : GT} : ∀ (args : List Value) (w : Hw) (S : Ot → Hw → Prop), spOf (MX1_copyOf (gg G)) args w S → CX l G yX1_copyOf (.code yX1_copyOf cX1_copyOf 1 (some (.object "Rangecard$Range"))) 3 1 4 args w S := CX_sp (M := MX1_copyOf (gg G)) (y := yX1_copyOf) hl (by decide) rfl (vMX1_copyOf hl G) (fun h => by cases h) rfl
end
/-! 66.class03.lean.txt -/
section
/-! Rangecard.outerOf(LRangecard$Range;)LRangecard$Range; -/
theorem dX1_outerOf_0 : decode cX1_outerOf 0 = .ok (.aload_n 0, 1) := by decide +kernel
theorem dX1_outerOf_1 : decode cX1_outerOf 1 = .ok (.getfield 124, 3) := by decide +kernel
theorem dX1_outerOf_4 : decode cX1_outerOf 4 = .ok (.aload_n 0, 1) := by decide +kernel
theorem dX1_outerOf_5 : decode cX1_outerOf 5 = .ok (.getfield 127, 3) := by decide +kernel
theorem dX1_outerOf_8 : decode cX1_outerOf 8 = .ok (.invokestatic 82, 3) := by decide +kernel
theorem dX1_outerOf_11 : decode cX1_outerOf 11 = .ok (.areturn, 1) := by decide +kernel
def MX1_outerOf (g : RO) : MT := ((RX1, cX1_outerOf, 1, 4, 1, 4, false, some (.object "Rangecard$Range")), [(124, 4, 0), (127, 4, 3)], [], [], [], [], 0, [(82, 1, 2, 0, 3, (fun _ _ => 1), (fun _ _ => 4), yX0_ofTwo, spOf (MX0_ofTwo g))], [], [], 0, [], [], g)
section
variable {g : RO} {Q : Ot → Hw → Prop} {st : List Value} {w : Hw} {k n p q : Nat} {a b : Int32} {x y : Int64} {u v : Value} {l0 : Option Value}
theorem eX1_outerOf_0 : WP (MX1_outerOf g) Q (0, [some (.ref p)], st, w, k, n) = WP (MX1_outerOf g) Q (1, [some (.ref p)], .ref p :: st, w, k, n) := Eq.trans (WP_at (M := (MX1_outerOf g)) rfl dX1_outerOf_0 (Or.inr rfl)) rfl
theorem eX1_outerOf_0N : WP (MX1_outerOf g) Q (0, [some .null], st, w, k, n) = WP (MX1_outerOf g) Q (1, [some .null], .null :: st, w, k, n) := Eq.trans (WP_at (M := (MX1_outerOf g)) rfl dX1_outerOf_0 (Or.inr rfl)) rfl
theorem eX1_outerOf_1 : WP (MX1_outerOf g) Q (1, [l0], .ref p :: st, w, k, n) = go (rd g w p) 4 fun fs => ∃ v, fs[0]? = some v ∧ WP (MX1_outerOf g) Q (4, [l0], v :: st, w, k, n) := get_e rfl dX1_outerOf_1 rfl
theorem eX1_outerOf_4 : WP (MX1_outerOf g) Q (4, [some (.ref p)], st, w, k, n) = WP (MX1_outerOf g) Q (5, [some (.ref p)], .ref p :: st, w, k, n) := Eq.trans (WP_at (M := (MX1_outerOf g)) rfl dX1_outerOf_4 (Or.inr rfl)) rfl
theorem eX1_outerOf_4N : WP (MX1_outerOf g) Q (4, [some .null], st, w, k, n) = WP (MX1_outerOf g) Q (5, [some .null], .null :: st, w, k, n) := Eq.trans (WP_at (M := (MX1_outerOf g)) rfl dX1_outerOf_4 (Or.inr rfl)) rfl
theorem eX1_outerOf_5 : WP (MX1_outerOf g) Q (5, [l0], .ref p :: st, w, k, n) = go (rd g w p) 4 fun fs => ∃ v, fs[3]? = some v ∧ WP (MX1_outerOf g) Q (8, [l0], v :: st, w, k, n) := get_e rfl dX1_outerOf_5 rfl
theorem eX1_outerOf_8 {z0 : Int64} {z1 : Int64} : WP (MX1_outerOf g) Q (8, [l0], .long z1 :: .long z0 :: st, w, k, n) = (wt st ≤ 8 ∧ k + 1 ≤ 1 ∧ n + 4 ≤ 4 ∧ WP (MX0_ofTwo g) (kx (fun v w' => WP (MX1_outerOf g) Q (11, [l0], v.toList ++ st, w', k + 1, n + 4)) (fun E w' => Q (.inr E) w')) (0, [some (.long z0), none, some (.long z1), none], [], w, 0, 0)) := csS (M := (MX1_outerOf g)) (mc := (fun _ _ => 1)) (ms := (fun _ _ => 4)) (As := [.long z0, .long z1]) (rest := st) (MX0_ofTwo g) rfl rfl dX1_outerOf_8 (Nat.ne_of_beq_eq_false rfl) (by exact fun h => nomatch (show (none : Option Nat) = some 12 from h)) (by exact fun h => nomatch (show (none : Option Nat) = some 13 from h)) (by exact fun h => nomatch (show (none : Option Nat) = some 14 from h)) rfl rfl (by decide) (Nat.le_of_ble_eq_true rfl) (Nat.le_of_ble_eq_true rfl) rfl
theorem eX1_outerOf_11 : WP (MX1_outerOf g) Q (11, [l0], [.ref p], w, k, n) = (k ≤ 1 ∧ n ≤ 4 ∧ Q (.inl (some (.ref p))) w) := aretR_e rfl dX1_outerOf_11 rfl
theorem eX1_outerOf_11N : WP (MX1_outerOf g) Q (11, [l0], [.null], w, k, n) = (k ≤ 1 ∧ n ≤ 4 ∧ Q (.inl (some .null)) w) := aretN_e rfl dX1_outerOf_11 rfl
end
theorem wk_194 : (.code yX0_ofTwo cX0_ofTwo 4 (some (.object "Rangecard$Range")) : Jvm.Cond) ∈ WS := WS_t1 136 rfl rfl
theorem wk_193 : (.static yX0_ofTwo : Jvm.Cond) ∈ WS := WS_t1 135 rfl rfl
theorem vMX1_outerOf {l : Launch} (hl : l.stackTraces = false) (G : GT) : vM l G (MX1_outerOf (gg G)) := ⟨fun i c j h => lookup_all (l := (MX1_outerOf (gg G)).fld) (P := fun i e => vFld RX1 i e.1 e.2) (all_c (vF_RX1_124) (all_c (vF_RX1_127) (all_n))) i (c, j) h, fun i c fs h => lookup_all (l := (MX1_outerOf (gg G)).new) (P := fun i e => vNew RX1 i e.1 e.2) (all_n) i (c, fs) h, lookup_all (l := (MX1_outerOf (gg G)).anew) (P := fun i e => vANew RX1 i e) (all_n), lookup_all (l := (MX1_outerOf (gg G)).lng) (P := fun i e => Jvm.Cond.constantLong RX1 i e ∈ WS) (all_n), lookup_all (l := (MX1_outerOf (gg G)).thr) (P := fun i e => vThr RX1 cX1_outerOf i e) (all_n), fun h => absurd rfl h, lookup_all (l := (MX1_outerOf (gg G)).cal) (P := fun i e => vCal l G RX1 i e) (all_c (⟨cX0_ofTwo, 4, some (.object "Rangecard$Range"), fun y hy => by subst hy; exact ⟨by decide, ⟨_, wk_194, okX0_ofTwo hl, Or.inl ⟨Nat.ne_of_beq_eq_false rfl, rfl⟩⟩, wk_84, ⟨(by decide : yX0_ofTwo.cls ≠ "java/lang/invoke/MethodHandle"), (by decide : yX0_ofTwo.cls ≠ "java/lang/invoke/VarHandle")⟩, ⟨(by decide +kernel : (parseMethodDescriptor yX0_ofTwo.desc).map (fun d => d.parameters.length) = some 2), ⟨"Rangecard", List.mem_of_getElem? (i := 192) (by decide +kernel : lw_tbl[192]? = some (.methodLinkNest RX1 82 yX0_ofTwo "Rangecard"))⟩, wk_193⟩⟩⟩) (all_n)), lookup_all (l := (MX1_outerOf (gg G)).stt) (P := fun i e => vStt G RX1 i e) (all_n), lookup_all (l := (MX1_outerOf (gg G)).cst) (P := fun i e => vCst RX1 i e) (all_n), fun h => absurd rfl h, rfl, all_n⟩
theorem okX1_outerOf {l : Launch} (hl : l.stackTraces = false) {G : GT} : ∀ (args : List Value) (w : Hw) (S : Ot → Hw → Prop), spOf (MX1_outerOf (gg G)) args w S → CX l G yX1_outerOf (.code yX1_outerOf cX1_outerOf 1 (some (.object "Rangecard$Range"))) 4 1 4 args w S := CX_sp (M := MX1_outerOf (gg G)) (y := yX1_outerOf) hl (by decide) rfl (vMX1_outerOf hl G) (fun h => by cases h) rfl
/-! Rangecard.smallEnds(LRangecard$Range;)I -/
theorem dX1_smallEnds_0 : decode cX1_smallEnds 0 = .ok (.iconst 0, 1) := by decide +kernel
theorem dX1_smallEnds_1 : decode cX1_smallEnds 1 = .ok (.istore_n 1, 1) := by decide +kernel
theorem dX1_smallEnds_2 : decode cX1_smallEnds 2 = .ok (.iconst 0, 1) := by decide +kernel
theorem dX1_smallEnds_3 : decode cX1_smallEnds 3 = .ok (.istore_n 2, 1) := by decide +kernel
theorem dX1_smallEnds_4 : decode cX1_smallEnds 4 = .ok (.iload_n 2, 1) := by decide +kernel
theorem dX1_smallEnds_5 : decode cX1_smallEnds 5 = .ok (.iconst 4, 1) := by decide +kernel
theorem dX1_smallEnds_6 : decode cX1_smallEnds 6 = .ok (.if_icmp .ge 23, 3) := by decide +kernel
theorem dX1_smallEnds_9 : decode cX1_smallEnds 9 = .ok (.iload_n 1, 1) := by decide +kernel
theorem dX1_smallEnds_10 : decode cX1_smallEnds 10 = .ok (.aload_n 0, 1) := by decide +kernel
theorem dX1_smallEnds_11 : decode cX1_smallEnds 11 = .ok (.iload_n 2, 1) := by decide +kernel
theorem dX1_smallEnds_12 : decode cX1_smallEnds 12 = .ok (.invokevirtual 141, 3) := by decide +kernel
theorem dX1_smallEnds_15 : decode cX1_smallEnds 15 = .ok (.invokestatic 274, 3) := by decide +kernel
theorem dX1_smallEnds_18 : decode cX1_smallEnds 18 = .ok (.invokestatic 130, 3) := by decide +kernel
theorem dX1_smallEnds_21 : decode cX1_smallEnds 21 = .ok (.iadd, 1) := by decide +kernel
theorem dX1_smallEnds_22 : decode cX1_smallEnds 22 = .ok (.istore_n 1, 1) := by decide +kernel
theorem dX1_smallEnds_23 : decode cX1_smallEnds 23 = .ok (.iinc 2 1, 3) := by decide +kernel
theorem dX1_smallEnds_26 : decode cX1_smallEnds 26 = .ok (.goto (-22), 3) := by decide +kernel
theorem dX1_smallEnds_29 : decode cX1_smallEnds 29 = .ok (.iload_n 1, 1) := by decide +kernel
theorem dX1_smallEnds_30 : decode cX1_smallEnds 30 = .ok (.ireturn, 1) := by decide +kernel
def MX1_smallEnds (g : RO) : MT := ((RX1, cX1_smallEnds, 3, 2, 0, 0, false, some .int), [], [], [], [], [], 0, [(141, 3, 2, 4, 1, (fun _ _ => 0), (fun _ _ => 0), yX0_endAt, spOf (MX0_endAt g)), (274, 0, 1, 0, 1, (fun _ _ => 0), (fun _ _ => 0), yX1_isSmallNumber, spOf (MX1_isSmallNumber g)), (130, 0, 1, 0, 1, (fun _ _ => 0), (fun _ _ => 0), yX1_asNumber, spOf (MX1_asNumber g))], [], [], 0, [], [], g)
section
variable {g : RO} {Q : Ot → Hw → Prop} {st : List Value} {w : Hw} {k n p q : Nat} {a b : Int32} {x y : Int64} {u v : Value} {l0 l1 l2 : Option Value}
theorem eX1_smallEnds_0 : WP (MX1_smallEnds g) Q (0, [l0, l1, l2], st, w, k, n) = WP (MX1_smallEnds g) Q (1, [l0, l1, l2], .int 0 :: st, w, k, n) := iconst_e rfl dX1_smallEnds_0 (by decide)
theorem eX1_smallEnds_1 : WP (MX1_smallEnds g) Q (1, [l0, l1, l2], .int a :: st, w, k, n) = WP (MX1_smallEnds g) Q (2, [nl l0, some (.int a), l2], st, w, k, n) := by rw [WP_at (M := (MX1_smallEnds g)) rfl dX1_smallEnds_1 (Or.inr rfl)]; exact and_t (Nat.le_of_ble_eq_true rfl)
theorem eX1_smallEnds_2 : WP (MX1_smallEnds g) Q (2, [l0, l1, l2], st, w, k, n) = WP (MX1_smallEnds g) Q (3, [l0, l1, l2], .int 0 :: st, w, k, n) := iconst_e rfl dX1_smallEnds_2 (by decide)
theorem eX1_smallEnds_3 : WP (MX1_smallEnds g) Q (3, [l0, l1, l2], .int a :: st, w, k, n) = WP (MX1_smallEnds g) Q (4, [l0, nl l1, some (.int a)], st, w, k, n) := by rw [WP_at (M := (MX1_smallEnds g)) rfl dX1_smallEnds_3 (Or.inr rfl)]; exact and_t (Nat.le_of_ble_eq_true rfl)
theorem eX1_smallEnds_4 : WP (MX1_smallEnds g) Q (4, [l0, l1, some (.int a)], st, w, k, n) = WP (MX1_smallEnds g) Q (5, [l0, l1, some (.int a)], .int a :: st, w, k, n) := Eq.trans (WP_at (M := (MX1_smallEnds g)) rfl dX1_smallEnds_4 (Or.inr rfl)) rfl
theorem eX1_smallEnds_5 : WP (MX1_smallEnds g) Q (5, [l0, l1, l2], st, w, k, n) = WP (MX1_smallEnds g) Q (6, [l0, l1, l2], .int 4 :: st, w, k, n) := iconst_e rfl dX1_smallEnds_5 (by decide)
theorem eX1_smallEnds_6 : WP (MX1_smallEnds g) Q (6, [l0, l1, l2], .int b :: .int a :: st, w, k, n) = if b ≤ a then WP (MX1_smallEnds g) Q (29, [l0, l1, l2], st, w, k, n) else WP (MX1_smallEnds g) Q (9, [l0, l1, l2], st, w, k, n) := icm_e (b ≤ a) rfl dX1_smallEnds_6 rfl (by decide)
theorem eX1_smallEnds_9 : WP (MX1_smallEnds g) Q (9, [l0, some (.int a), l2], st, w, k, n) = WP (MX1_smallEnds g) Q (10, [l0, some (.int a), l2], .int a :: st, w, k, n) := Eq.trans (WP_at (M := (MX1_smallEnds g)) rfl dX1_smallEnds_9 (Or.inr rfl)) rfl
theorem eX1_smallEnds_10 : WP (MX1_smallEnds g) Q (10, [some (.ref p), l1, l2], st, w, k, n) = WP (MX1_smallEnds g) Q (11, [some (.ref p), l1, l2], .ref p :: st, w, k, n) := Eq.trans (WP_at (M := (MX1_smallEnds g)) rfl dX1_smallEnds_10 (Or.inr rfl)) rfl
theorem eX1_smallEnds_10N : WP (MX1_smallEnds g) Q (10, [some .null, l1, l2], st, w, k, n) = WP (MX1_smallEnds g) Q (11, [some .null, l1, l2], .null :: st, w, k, n) := Eq.trans (WP_at (M := (MX1_smallEnds g)) rfl dX1_smallEnds_10 (Or.inr rfl)) rfl
theorem eX1_smallEnds_11 : WP (MX1_smallEnds g) Q (11, [l0, l1, some (.int a)], st, w, k, n) = WP (MX1_smallEnds g) Q (12, [l0, l1, some (.int a)], .int a :: st, w, k, n) := Eq.trans (WP_at (M := (MX1_smallEnds g)) rfl dX1_smallEnds_11 (Or.inr rfl)) rfl
theorem eX1_smallEnds_12 {z0 : Int32} : WP (MX1_smallEnds g) Q (12, [l0, l1, l2], .int z0 :: .ref p :: st, w, k, n) = (go (rd g w p) 4 (fun _ => True) ∧ wt st ≤ 8 ∧ k + 0 ≤ 0 ∧ n + 0 ≤ 0 ∧ WP (MX0_endAt g) (kx (fun v w' => WP (MX1_smallEnds g) Q (15, [l0, l1, l2], v.toList ++ st, w', k + 0, n + 0)) (fun E w' => Q (.inr E) w')) (0, [some (.ref p), some (.int z0)], [], w, 0, 0)) := csV (M := (MX1_smallEnds g)) (mc := (fun _ _ => 0)) (ms := (fun _ _ => 0)) (As := [.int z0]) (rest := st) (MX0_endAt g) rfl rfl dX1_smallEnds_12 (by exact fun h => nomatch (show (none : Option Nat) = some 11 from h)) (by exact fun h => nomatch (show (none : Option Nat) = some 15 from h)) rfl rfl (by decide) (Nat.le_of_ble_eq_true rfl) (Nat.le_of_ble_eq_true rfl) rfl
theorem eX1_smallEnds_15 {z0 : Int64} : WP (MX1_smallEnds g) Q (15, [l0, l1, l2], .long z0 :: st, w, k, n) = (wt st ≤ 8 ∧ k + 0 ≤ 0 ∧ n + 0 ≤ 0 ∧ WP (MX1_isSmallNumber g) (kx (fun v w' => WP (MX1_smallEnds g) Q (18, [l0, l1, l2], v.toList ++ st, w', k + 0, n + 0)) (fun E w' => Q (.inr E) w')) (0, [some (.long z0), none], [], w, 0, 0)) := csS (M := (MX1_smallEnds g)) (mc := (fun _ _ => 0)) (ms := (fun _ _ => 0)) (As := [.long z0]) (rest := st) (MX1_isSmallNumber g) rfl rfl dX1_smallEnds_15 (Nat.ne_of_beq_eq_false rfl) (by exact fun h => nomatch (show (none : Option Nat) = some 12 from h)) (by exact fun h => nomatch (show (none : Option Nat) = some 13 from h)) (by exact fun h => nomatch (show (none : Option Nat) = some 14 from h)) rfl rfl (by decide) (Nat.le_of_ble_eq_true rfl) (Nat.le_of_ble_eq_true rfl) rfl
theorem eX1_smallEnds_18 {z0 : Int32} : WP (MX1_smallEnds g) Q (18, [l0, l1, l2], .int z0 :: st, w, k, n) = (wt st ≤ 8 ∧ k + 0 ≤ 0 ∧ n + 0 ≤ 0 ∧ WP (MX1_asNumber g) (kx (fun v w' => WP (MX1_smallEnds g) Q (21, [l0, l1, l2], v.toList ++ st, w', k + 0, n + 0)) (fun E w' => Q (.inr E) w')) (0, [some (.int z0)], [], w, 0, 0)) := csS (M := (MX1_smallEnds g)) (mc := (fun _ _ => 0)) (ms := (fun _ _ => 0)) (As := [.int z0]) (rest := st) (MX1_asNumber g) rfl rfl dX1_smallEnds_18 (Nat.ne_of_beq_eq_false rfl) (by exact fun h => nomatch (show (none : Option Nat) = some 12 from h)) (by exact fun h => nomatch (show (none : Option Nat) = some 13 from h)) (by exact fun h => nomatch (show (none : Option Nat) = some 14 from h)) rfl rfl (by decide) (Nat.le_of_ble_eq_true rfl) (Nat.le_of_ble_eq_true rfl) rfl
theorem eX1_smallEnds_21 : WP (MX1_smallEnds g) Q (21, [l0, l1, l2], .int b :: .int a :: st, w, k, n) = WP (MX1_smallEnds g) Q (22, [l0, l1, l2], .int (a + b) :: st, w, k, n) := Eq.trans (WP_at (M := (MX1_smallEnds g)) rfl dX1_smallEnds_21 (Or.inr rfl)) rfl
theorem eX1_smallEnds_22 : WP (MX1_smallEnds g) Q (22, [l0, l1, l2], .int a :: st, w, k, n) = WP (MX1_smallEnds g) Q (23, [nl l0, some (.int a), l2], st, w, k, n) := by rw [WP_at (M := (MX1_smallEnds g)) rfl dX1_smallEnds_22 (Or.inr rfl)]; exact and_t (Nat.le_of_ble_eq_true rfl)
theorem eX1_smallEnds_23 : WP (MX1_smallEnds g) Q (23, [l0, l1, some (.int a)], st, w, k, n) = WP (MX1_smallEnds g) Q (26, [l0, nl l1, some (.int (a + 1))], st, w, k, n) := Eq.trans (iinc_e (M := (MX1_smallEnds g)) (L := [l0, l1, some (.int a)]) (d := 1) rfl dX1_smallEnds_23 (by decide) rfl) rfl
theorem eX1_smallEnds_26 : WP (MX1_smallEnds g) Q (26, [l0, l1, l2], st, w, k, n) = WP (MX1_smallEnds g) Q (4, [l0, l1, l2], st, w, k, n) := goto_e rfl dX1_smallEnds_26 (by decide)
theorem eX1_smallEnds_29 : WP (MX1_smallEnds g) Q (29, [l0, some (.int a), l2], st, w, k, n) = WP (MX1_smallEnds g) Q (30, [l0, some (.int a), l2], .int a :: st, w, k, n) := Eq.trans (WP_at (M := (MX1_smallEnds g)) rfl dX1_smallEnds_29 (Or.inr rfl)) rfl
theorem eX1_smallEnds_30 : WP (MX1_smallEnds g) Q (30, [l0, l1, l2], [.int a], w, k, n) = (k ≤ 0 ∧ n ≤ 0 ∧ Q (.inl (some (.int a))) w) := iretI_e rfl dX1_smallEnds_30 rfl
end
theorem wk_211 : (.code yX0_endAt cX0_endAt 2 (some .long) : Jvm.Cond) ∈ WS := WS_t1 153 rfl rfl
theorem wk_210 : (.instanceMethod yX0_endAt : Jvm.Cond) ∈ WS := WS_t1 152 rfl rfl
theorem wk_5 : (.selects RX0 yX0_endAt yX0_endAt : Jvm.Cond) ∈ WS := WS_at 5 (by decide +kernel) rfl
theorem wk_899 : (.code yX1_isSmallNumber cX1_isSmallNumber 2 (some .boolean) : Jvm.Cond) ∈ WS := WS_t4 121 rfl rfl
theorem wk_897 : (.methodLink RX1 274 yX1_isSmallNumber : Jvm.Cond) ∈ WS := WS_t4 119 rfl rfl
theorem wk_898 : (.static yX1_isSmallNumber : Jvm.Cond) ∈ WS := WS_t4 120 rfl rfl
theorem wk_263 : (.code yX1_asNumber cX1_asNumber 1 (some .int) : Jvm.Cond) ∈ WS := WS_t1 205 rfl rfl
theorem wk_261 : (.methodLink RX1 130 yX1_asNumber : Jvm.Cond) ∈ WS := WS_t1 203 rfl rfl
theorem wk_262 : (.static yX1_asNumber : Jvm.Cond) ∈ WS := WS_t1 204 rfl rfl
theorem vMX1_smallEnds {l : Launch} (hl : l.stackTraces = false) (G : GT) : vM l G (MX1_smallEnds (gg G)) := ⟨fun i c j h => lookup_all (l := (MX1_smallEnds (gg G)).fld) (P := fun i e => vFld RX1 i e.1 e.2) (all_n) i (c, j) h, fun i c fs h => lookup_all (l := (MX1_smallEnds (gg G)).new) (P := fun i e => vNew RX1 i e.1 e.2) (all_n) i (c, fs) h, lookup_all (l := (MX1_smallEnds (gg G)).anew) (P := fun i e => vANew RX1 i e) (all_n), lookup_all (l := (MX1_smallEnds (gg G)).lng) (P := fun i e => Jvm.Cond.constantLong RX1 i e ∈ WS) (all_n), lookup_all (l := (MX1_smallEnds (gg G)).thr) (P := fun i e => vThr RX1 cX1_smallEnds i e) (all_n), fun h => absurd rfl h, lookup_all (l := (MX1_smallEnds (gg G)).cal) (P := fun i e => vCal l G RX1 i e) (all_c (⟨cX0_endAt, 2, some .long, fun y hy => by subst hy; exact ⟨by decide, ⟨_, wk_211, okX0_endAt hl, Or.inl ⟨Nat.ne_of_beq_eq_false rfl, rfl⟩⟩, wk_84, ⟨(by decide : yX0_endAt.cls ≠ "java/lang/invoke/MethodHandle"), (by decide : yX0_endAt.cls ≠ "java/lang/invoke/VarHandle")⟩, ⟨(by decide +kernel : (parseMethodDescriptor yX0_endAt.desc).map (fun d => d.parameters.length + 1) = some 2), ⟨"Rangecard", List.mem_of_getElem? (i := 208) (by decide +kernel : lw_tbl[208]? = some (.methodLinkNest RX1 141 yX0_endAt "Rangecard"))⟩, wk_210, wk_5, (RX0, TX0, 4), rfl, rfl⟩⟩⟩) (all_c (⟨cX1_isSmallNumber, 2, some .boolean, fun y hy => by subst hy; exact ⟨by decide, ⟨_, wk_899, okX1_isSmallNumber hl, Or.inl ⟨Nat.ne_of_beq_eq_false rfl, rfl⟩⟩, wk_59, ⟨(by decide : yX1_isSmallNumber.cls ≠ "java/lang/invoke/MethodHandle"), (by decide : yX1_isSmallNumber.cls ≠ "java/lang/invoke/VarHandle")⟩, ⟨(by decide +kernel : (parseMethodDescriptor yX1_isSmallNumber.desc).map (fun d => d.parameters.length) = some 1), wk_897, wk_898⟩⟩⟩) (all_c (⟨cX1_asNumber, 1, some .int, fun y hy => by subst hy; exact ⟨by decide, ⟨_, wk_263, okX1_asNumber hl, Or.inl ⟨Nat.ne_of_beq_eq_false rfl, rfl⟩⟩, wk_59, ⟨(by decide : yX1_asNumber.cls ≠ "java/lang/invoke/MethodHandle"), (by decide : yX1_asNumber.cls ≠ "java/lang/invoke/VarHandle")⟩, ⟨(by decide +kernel : (parseMethodDescriptor yX1_asNumber.desc).map (fun d => d.parameters.length) = some 1), wk_261, wk_262⟩⟩⟩) (all_n)))), lookup_all (l := (MX1_smallEnds (gg G)).stt) (P := fun i e => vStt G RX1 i e) (all_n), lookup_all (l := (MX1_smallEnds (gg G)).cst) (P := fun i e => vCst RX1 i e) (all_n), fun h => absurd rfl h, rfl, all_n⟩
theorem okX1_smallEnds {l : Launch} (hl : l.stackTraces = false) {G : GT} : ∀ (args : List Value) (w : Hw) (S : Ot → Hw → Prop), spOf (MX1_smallEnds (gg G)) args w S → CX l G yX1_smallEnds (.code yX1_smallEnds cX1_smallEnds 3 (some .int)) 2 0 0 args w S := CX_sp (M := MX1_smallEnds (gg G)) (y := yX1_smallEnds) hl (by decide) rfl (vMX1_smallEnds hl G) (fun h => by cases h) rfl
/-! Rangecard.validityIn(LRangecard$Range;J)I -/
theorem dX1_validityIn_0 : decode cX1_validityIn 0 = .ok (.aload_n 0, 1) := by decide +kernel
theorem dX1_validityIn_1 : decode cX1_validityIn 1 = .ok (.lload_n 1, 1) := by decide +kernel
theorem dX1_validityIn_2 : decode cX1_validityIn 2 = .ok (.invokevirtual 150, 3) := by decide +kernel
theorem dX1_validityIn_5 : decode cX1_validityIn 5 = .ok (.invokestatic 130, 3) := by decide +kernel
theorem dX1_validityIn_8 : decode cX1_validityIn 8 = .ok (.aload_n 0, 1) := by decide +kernel
theorem dX1_validityIn_9 : decode cX1_validityIn 9 = .ok (.lload_n 1, 1) := by decide +kernel
theorem dX1_validityIn_10 : decode cX1_validityIn 10 = .ok (.invokevirtual 154, 3) := by decide +kernel
theorem dX1_validityIn_13 : decode cX1_validityIn 13 = .ok (.invokestatic 130, 3) := by decide +kernel
theorem dX1_validityIn_16 : decode cX1_validityIn 16 = .ok (.iadd, 1) := by decide +kernel
theorem dX1_validityIn_17 : decode cX1_validityIn 17 = .ok (.ireturn, 1) := by decide +kernel
def MX1_validityIn (g : RO) : MT := ((RX1, cX1_validityIn, 3, 3, 0, 0, false, some .int), [], [], [], [], [], 0, [(150, 3, 2, 4, 1, (fun _ _ => 0), (fun _ _ => 0), yX0_holds, spOf (MX0_holds g)), (130, 0, 1, 0, 1, (fun _ _ => 0), (fun _ _ => 0), yX1_asNumber, spOf (MX1_asNumber g)), (154, 3, 2, 4, 2, (fun _ _ => 0), (fun _ _ => 0), yX0_holdsAsSmall, spOf (MX0_holdsAsSmall g))], [], [], 0, [], [], g)
section
variable {g : RO} {Q : Ot → Hw → Prop} {st : List Value} {w : Hw} {k n p q : Nat} {a b : Int32} {x y : Int64} {u v : Value} {l0 l1 l2 : Option Value}
theorem eX1_validityIn_0 : WP (MX1_validityIn g) Q (0, [some (.ref p), l1, l2], st, w, k, n) = WP (MX1_validityIn g) Q (1, [some (.ref p), l1, l2], .ref p :: st, w, k, n) := Eq.trans (WP_at (M := (MX1_validityIn g)) rfl dX1_validityIn_0 (Or.inr rfl)) rfl
theorem eX1_validityIn_0N : WP (MX1_validityIn g) Q (0, [some .null, l1, l2], st, w, k, n) = WP (MX1_validityIn g) Q (1, [some .null, l1, l2], .null :: st, w, k, n) := Eq.trans (WP_at (M := (MX1_validityIn g)) rfl dX1_validityIn_0 (Or.inr rfl)) rfl
theorem eX1_validityIn_1 : WP (MX1_validityIn g) Q (1, [l0, some (.long x), l2], st, w, k, n) = WP (MX1_validityIn g) Q (2, [l0, some (.long x), l2], .long x :: st, w, k, n) := Eq.trans (WP_at (M := (MX1_validityIn g)) rfl dX1_validityIn_1 (Or.inr rfl)) rfl
theorem eX1_validityIn_2 {z0 : Int64} : WP (MX1_validityIn g) Q (2, [l0, l1, l2], .long z0 :: .ref p :: st, w, k, n) = (go (rd g w p) 4 (fun _ => True) ∧ wt st ≤ 8 ∧ k + 0 ≤ 0 ∧ n + 0 ≤ 0 ∧ WP (MX0_holds g) (kx (fun v w' => WP (MX1_validityIn g) Q (5, [l0, l1, l2], v.toList ++ st, w', k + 0, n + 0)) (fun E w' => Q (.inr E) w')) (0, [some (.ref p), some (.long z0), none], [], w, 0, 0)) := csV (M := (MX1_validityIn g)) (mc := (fun _ _ => 0)) (ms := (fun _ _ => 0)) (As := [.long z0]) (rest := st) (MX0_holds g) rfl rfl dX1_validityIn_2 (by exact fun h => nomatch (show (none : Option Nat) = some 11 from h)) (by exact fun h => nomatch (show (none : Option Nat) = some 15 from h)) rfl rfl (by decide) (Nat.le_of_ble_eq_true rfl) (Nat.le_of_ble_eq_true rfl) rfl
theorem eX1_validityIn_5 {z0 : Int32} : WP (MX1_validityIn g) Q (5, [l0, l1, l2], .int z0 :: st, w, k, n) = (wt st ≤ 8 ∧ k + 0 ≤ 0 ∧ n + 0 ≤ 0 ∧ WP (MX1_asNumber g) (kx (fun v w' => WP (MX1_validityIn g) Q (8, [l0, l1, l2], v.toList ++ st, w', k + 0, n + 0)) (fun E w' => Q (.inr E) w')) (0, [some (.int z0)], [], w, 0, 0)) := csS (M := (MX1_validityIn g)) (mc := (fun _ _ => 0)) (ms := (fun _ _ => 0)) (As := [.int z0]) (rest := st) (MX1_asNumber g) rfl rfl dX1_validityIn_5 (Nat.ne_of_beq_eq_false rfl) (by exact fun h => nomatch (show (none : Option Nat) = some 12 from h)) (by exact fun h => nomatch (show (none : Option Nat) = some 13 from h)) (by exact fun h => nomatch (show (none : Option Nat) = some 14 from h)) rfl rfl (by decide) (Nat.le_of_ble_eq_true rfl) (Nat.le_of_ble_eq_true rfl) rfl
theorem eX1_validityIn_8 : WP (MX1_validityIn g) Q (8, [some (.ref p), l1, l2], st, w, k, n) = WP (MX1_validityIn g) Q (9, [some (.ref p), l1, l2], .ref p :: st, w, k, n) := Eq.trans (WP_at (M := (MX1_validityIn g)) rfl dX1_validityIn_8 (Or.inr rfl)) rfl
theorem eX1_validityIn_8N : WP (MX1_validityIn g) Q (8, [some .null, l1, l2], st, w, k, n) = WP (MX1_validityIn g) Q (9, [some .null, l1, l2], .null :: st, w, k, n) := Eq.trans (WP_at (M := (MX1_validityIn g)) rfl dX1_validityIn_8 (Or.inr rfl)) rfl
theorem eX1_validityIn_9 : WP (MX1_validityIn g) Q (9, [l0, some (.long x), l2], st, w, k, n) = WP (MX1_validityIn g) Q (10, [l0, some (.long x), l2], .long x :: st, w, k, n) := Eq.trans (WP_at (M := (MX1_validityIn g)) rfl dX1_validityIn_9 (Or.inr rfl)) rfl
theorem eX1_validityIn_10 {z0 : Int64} : WP (MX1_validityIn g) Q (10, [l0, l1, l2], .long z0 :: .ref p :: st, w, k, n) = (go (rd g w p) 4 (fun _ => True) ∧ wt st ≤ 8 ∧ k + 0 ≤ 0 ∧ n + 0 ≤ 0 ∧ WP (MX0_holdsAsSmall g) (kx (fun v w' => WP (MX1_validityIn g) Q (13, [l0, l1, l2], v.toList ++ st, w', k + 0, n + 0)) (fun E w' => Q (.inr E) w')) (0, [some (.ref p), some (.long z0), none], [], w, 0, 0)) := csV (M := (MX1_validityIn g)) (mc := (fun _ _ => 0)) (ms := (fun _ _ => 0)) (As := [.long z0]) (rest := st) (MX0_holdsAsSmall g) rfl rfl dX1_validityIn_10 (by exact fun h => nomatch (show (none : Option Nat) = some 11 from h)) (by exact fun h => nomatch (show (none : Option Nat) = some 15 from h)) rfl rfl (by decide) (Nat.le_of_ble_eq_true rfl) (Nat.le_of_ble_eq_true rfl) rfl
theorem eX1_validityIn_13 {z0 : Int32} : WP (MX1_validityIn g) Q (13, [l0, l1, l2], .int z0 :: st, w, k, n) = (wt st ≤ 8 ∧ k + 0 ≤ 0 ∧ n + 0 ≤ 0 ∧ WP (MX1_asNumber g) (kx (fun v w' => WP (MX1_validityIn g) Q (16, [l0, l1, l2], v.toList ++ st, w', k + 0, n + 0)) (fun E w' => Q (.inr E) w')) (0, [some (.int z0)], [], w, 0, 0)) := csS (M := (MX1_validityIn g)) (mc := (fun _ _ => 0)) (ms := (fun _ _ => 0)) (As := [.int z0]) (rest := st) (MX1_asNumber g) rfl rfl dX1_validityIn_13 (Nat.ne_of_beq_eq_false rfl) (by exact fun h => nomatch (show (none : Option Nat) = some 12 from h)) (by exact fun h => nomatch (show (none : Option Nat) = some 13 from h)) (by exact fun h => nomatch (show (none : Option Nat) = some 14 from h)) rfl rfl (by decide) (Nat.le_of_ble_eq_true rfl) (Nat.le_of_ble_eq_true rfl) rfl
theorem eX1_validityIn_16 : WP (MX1_validityIn g) Q (16, [l0, l1, l2], .int b :: .int a :: st, w, k, n) = WP (MX1_validityIn g) Q (17, [l0, l1, l2], .int (a + b) :: st, w, k, n) := Eq.trans (WP_at (M := (MX1_validityIn g)) rfl dX1_validityIn_16 (Or.inr rfl)) rfl
theorem eX1_validityIn_17 : WP (MX1_validityIn g) Q (17, [l0, l1, l2], [.int a], w, k, n) = (k ≤ 0 ∧ n ≤ 0 ∧ Q (.inl (some (.int a))) w) := iretI_e rfl dX1_validityIn_17 rfl
end
theorem vMX1_validityIn {l : Launch} (hl : l.stackTraces = false) (G : GT) : vM l G (MX1_validityIn (gg G)) := ⟨fun i c j h => lookup_all (l := (MX1_validityIn (gg G)).fld) (P := fun i e => vFld RX1 i e.1 e.2) (all_n) i (c, j) h, fun i c fs h => lookup_all (l := (MX1_validityIn (gg G)).new) (P := fun i e => vNew RX1 i e.1 e.2) (all_n) i (c, fs) h, lookup_all (l := (MX1_validityIn (gg G)).anew) (P := fun i e => vANew RX1 i e) (all_n), lookup_all (l := (MX1_validityIn (gg G)).lng) (P := fun i e => Jvm.Cond.constantLong RX1 i e ∈ WS) (all_n), lookup_all (l := (MX1_validityIn (gg G)).thr) (P := fun i e => vThr RX1 cX1_validityIn i e) (all_n), fun h => absurd rfl h, lookup_all (l := (MX1_validityIn (gg G)).cal) (P := fun i e => vCal l G RX1 i e) (all_c (⟨cX0_holds, 3, some .boolean, fun y hy => by subst hy; exact ⟨by decide, ⟨_, wk_203, okX0_holds hl, Or.inl ⟨Nat.ne_of_beq_eq_false rfl, rfl⟩⟩, wk_84, ⟨(by decide : yX0_holds.cls ≠ "java/lang/invoke/MethodHandle"), (by decide : yX0_holds.cls ≠ "java/lang/invoke/VarHandle")⟩, ⟨(by decide +kernel : (parseMethodDescriptor yX0_holds.desc).map (fun d => d.parameters.length + 1) = some 2), ⟨"Rangecard", List.mem_of_getElem? (i := 200) (by decide +kernel : lw_tbl[200]? = some (.methodLinkNest RX1 150 yX0_holds "Rangecard"))⟩, wk_202, wk_4, (RX0, TX0, 4), rfl, rfl⟩⟩⟩) (all_c (⟨cX1_asNumber, 1, some .int, fun y hy => by subst hy; exact ⟨by decide, ⟨_, wk_263, okX1_asNumber hl, Or.inl ⟨Nat.ne_of_beq_eq_false rfl, rfl⟩⟩, wk_59, ⟨(by decide : yX1_asNumber.cls ≠ "java/lang/invoke/MethodHandle"), (by decide : yX1_asNumber.cls ≠ "java/lang/invoke/VarHandle")⟩, ⟨(by decide +kernel : (parseMethodDescriptor yX1_asNumber.desc).map (fun d => d.parameters.length) = some 1), wk_261, wk_262⟩⟩⟩) (all_c (⟨cX0_holdsAsSmall, 3, some .boolean, fun y hy => by subst hy; exact ⟨by decide, ⟨_, wk_215, okX0_holdsAsSmall hl, Or.inl ⟨Nat.ne_of_beq_eq_false rfl, rfl⟩⟩, wk_84, ⟨(by decide : yX0_holdsAsSmall.cls ≠ "java/lang/invoke/MethodHandle"), (by decide : yX0_holdsAsSmall.cls ≠ "java/lang/invoke/VarHandle")⟩, ⟨(by decide +kernel : (parseMethodDescriptor yX0_holdsAsSmall.desc).map (fun d => d.parameters.length + 1) = some 2), ⟨"Rangecard", List.mem_of_getElem? (i := 212) (by decide +kernel : lw_tbl[212]? = some (.methodLinkNest RX1 154 yX0_holdsAsSmall "Rangecard"))⟩, wk_214, wk_6, (RX0, TX0, 4), rfl, rfl⟩⟩⟩) (all_n)))), lookup_all (l := (MX1_validityIn (gg G)).stt) (P := fun i e => vStt G RX1 i e) (all_n), lookup_all (l := (MX1_validityIn (gg G)).cst) (P := fun i e => vCst RX1 i e) (all_n), fun h => absurd rfl h, rfl, all_n⟩
theorem okX1_validityIn {l : Launch} (hl : l.stackTraces = false) {G : GT} : ∀ (args : List Value) (w : Hw) (S : Ot → Hw → Prop), spOf (MX1_validityIn (gg G)) args w S → CX l G yX1_validityIn (.code yX1_validityIn cX1_validityIn 3 (some .int)) 3 0 0 args w S := CX_sp (M := MX1_validityIn (gg G)) (y := yX1_validityIn) hl (by decide) rfl (vMX1_validityIn hl G) (fun h => by cases h) rfl
/-! Rangecard.neighboursIn(LRangecard$Range;JZ)I -/
theorem dX1_neighboursIn_0 : decode cX1_neighboursIn 0 = .ok (.aload_n 0, 1) := by decide +kernel
theorem dX1_neighboursIn_1 : decode cX1_neighboursIn 1 = .ok (.lload_n 1, 1) := by decide +kernel
theorem dX1_neighboursIn_2 : decode cX1_neighboursIn 2 = .ok (.lconst 1, 1) := by decide +kernel
theorem dX1_neighboursIn_3 : decode cX1_neighboursIn 3 = .ok (.lsub, 1) := by decide +kernel
theorem dX1_neighboursIn_4 : decode cX1_neighboursIn 4 = .ok (.iload_n 3, 1) := by decide +kernel
theorem dX1_neighboursIn_5 : decode cX1_neighboursIn 5 = .ok (.invokevirtual 277, 3) := by decide +kernel
theorem dX1_neighboursIn_8 : decode cX1_neighboursIn 8 = .ok (.invokestatic 130, 3) := by decide +kernel
theorem dX1_neighboursIn_11 : decode cX1_neighboursIn 11 = .ok (.iconst 2, 1) := by decide +kernel
theorem dX1_neighboursIn_12 : decode cX1_neighboursIn 12 = .ok (.aload_n 0, 1) := by decide +kernel
theorem dX1_neighboursIn_13 : decode cX1_neighboursIn 13 = .ok (.lload_n 1, 1) := by decide +kernel
theorem dX1_neighboursIn_14 : decode cX1_neighboursIn 14 = .ok (.iload_n 3, 1) := by decide +kernel
theorem dX1_neighboursIn_15 : decode cX1_neighboursIn 15 = .ok (.invokevirtual 277, 3) := by decide +kernel
theorem dX1_neighboursIn_18 : decode cX1_neighboursIn 18 = .ok (.invokestatic 130, 3) := by decide +kernel
theorem dX1_neighboursIn_21 : decode cX1_neighboursIn 21 = .ok (.imul, 1) := by decide +kernel
theorem dX1_neighboursIn_22 : decode cX1_neighboursIn 22 = .ok (.iadd, 1) := by decide +kernel
theorem dX1_neighboursIn_23 : decode cX1_neighboursIn 23 = .ok (.iconst 4, 1) := by decide +kernel
theorem dX1_neighboursIn_24 : decode cX1_neighboursIn 24 = .ok (.aload_n 0, 1) := by decide +kernel
theorem dX1_neighboursIn_25 : decode cX1_neighboursIn 25 = .ok (.lload_n 1, 1) := by decide +kernel
theorem dX1_neighboursIn_26 : decode cX1_neighboursIn 26 = .ok (.lconst 1, 1) := by decide +kernel
theorem dX1_neighboursIn_27 : decode cX1_neighboursIn 27 = .ok (.ladd, 1) := by decide +kernel
theorem dX1_neighboursIn_28 : decode cX1_neighboursIn 28 = .ok (.iload_n 3, 1) := by decide +kernel
theorem dX1_neighboursIn_29 : decode cX1_neighboursIn 29 = .ok (.invokevirtual 277, 3) := by decide +kernel
theorem dX1_neighboursIn_32 : decode cX1_neighboursIn 32 = .ok (.invokestatic 130, 3) := by decide +kernel
theorem dX1_neighboursIn_35 : decode cX1_neighboursIn 35 = .ok (.imul, 1) := by decide +kernel
theorem dX1_neighboursIn_36 : decode cX1_neighboursIn 36 = .ok (.iadd, 1) := by decide +kernel
theorem dX1_neighboursIn_37 : decode cX1_neighboursIn 37 = .ok (.ireturn, 1) := by decide +kernel
def MX1_neighboursIn (g : RO) : MT := ((RX1, cX1_neighboursIn, 4, 4, 0, 0, false, some .int), [], [], [], [], [], 0, [(277, 3, 3, 4, 3, (fun _ _ => 0), (fun _ _ => 0), yX0_holdsAs, spOf (MX0_holdsAs g)), (130, 0, 1, 0, 1, (fun _ _ => 0), (fun _ _ => 0), yX1_asNumber, spOf (MX1_asNumber g))], [], [], 0, [], [], g)
section
variable {g : RO} {Q : Ot → Hw → Prop} {st : List Value} {w : Hw} {k n p q : Nat} {a b : Int32} {x y : Int64} {u v : Value} {l0 l1 l2 l3 : Option Value}
theorem eX1_neighboursIn_0 : WP (MX1_neighboursIn g) Q (0, [some (.ref p), l1, l2, l3], st, w, k, n) = WP (MX1_neighboursIn g) Q (1, [some (.ref p), l1, l2, l3], .ref p :: st, w, k, n) := Eq.trans (WP_at (M := (MX1_neighboursIn g)) rfl dX1_neighboursIn_0 (Or.inr rfl)) rfl
theorem eX1_neighboursIn_0N : WP (MX1_neighboursIn g) Q (0, [some .null, l1, l2, l3], st, w, k, n) = WP (MX1_neighboursIn g) Q (1, [some .null, l1, l2, l3], .null :: st, w, k, n) := Eq.trans (WP_at (M := (MX1_neighboursIn g)) rfl dX1_neighboursIn_0 (Or.inr rfl)) rfl
theorem eX1_neighboursIn_1 : WP (MX1_neighboursIn g) Q (1, [l0, some (.long x), l2, l3], st, w, k, n) = WP (MX1_neighboursIn g) Q (2, [l0, some (.long x), l2, l3], .long x :: st, w, k, n) := Eq.trans (WP_at (M := (MX1_neighboursIn g)) rfl dX1_neighboursIn_1 (Or.inr rfl)) rfl
theorem eX1_neighboursIn_2 : WP (MX1_neighboursIn g) Q (2, [l0, l1, l2, l3], st, w, k, n) = WP (MX1_neighboursIn g) Q (3, [l0, l1, l2, l3], .long 1 :: st, w, k, n) := lconst_e rfl dX1_neighboursIn_2 (by decide)
theorem eX1_neighboursIn_3 : WP (MX1_neighboursIn g) Q (3, [l0, l1, l2, l3], .long y :: .long x :: st, w, k, n) = WP (MX1_neighboursIn g) Q (4, [l0, l1, l2, l3], .long (x - y) :: st, w, k, n) := Eq.trans (WP_at (M := (MX1_neighboursIn g)) rfl dX1_neighboursIn_3 (Or.inr rfl)) rfl
theorem eX1_neighboursIn_4 : WP (MX1_neighboursIn g) Q (4, [l0, l1, l2, some (.int a)], st, w, k, n) = WP (MX1_neighboursIn g) Q (5, [l0, l1, l2, some (.int a)], .int a :: st, w, k, n) := Eq.trans (WP_at (M := (MX1_neighboursIn g)) rfl dX1_neighboursIn_4 (Or.inr rfl)) rfl
theorem eX1_neighboursIn_5 {z0 : Int64} {z1 : Int32} : WP (MX1_neighboursIn g) Q (5, [l0, l1, l2, l3], .int z1 :: .long z0 :: .ref p :: st, w, k, n) = (go (rd g w p) 4 (fun _ => True) ∧ wt st ≤ 8 ∧ k + 0 ≤ 0 ∧ n + 0 ≤ 0 ∧ WP (MX0_holdsAs g) (kx (fun v w' => WP (MX1_neighboursIn g) Q (8, [l0, l1, l2, l3], v.toList ++ st, w', k + 0, n + 0)) (fun E w' => Q (.inr E) w')) (0, [some (.ref p), some (.long z0), none, some (.int z1)], [], w, 0, 0)) := csV (M := (MX1_neighboursIn g)) (mc := (fun _ _ => 0)) (ms := (fun _ _ => 0)) (As := [.long z0, .int z1]) (rest := st) (MX0_holdsAs g) rfl rfl dX1_neighboursIn_5 (by exact fun h => nomatch (show (none : Option Nat) = some 11 from h)) (by exact fun h => nomatch (show (none : Option Nat) = some 15 from h)) rfl rfl (by decide) (Nat.le_of_ble_eq_true rfl) (Nat.le_of_ble_eq_true rfl) rfl
theorem eX1_neighboursIn_8 {z0 : Int32} : WP (MX1_neighboursIn g) Q (8, [l0, l1, l2, l3], .int z0 :: st, w, k, n) = (wt st ≤ 8 ∧ k + 0 ≤ 0 ∧ n + 0 ≤ 0 ∧ WP (MX1_asNumber g) (kx (fun v w' => WP (MX1_neighboursIn g) Q (11, [l0, l1, l2, l3], v.toList ++ st, w', k + 0, n + 0)) (fun E w' => Q (.inr E) w')) (0, [some (.int z0)], [], w, 0, 0)) := csS (M := (MX1_neighboursIn g)) (mc := (fun _ _ => 0)) (ms := (fun _ _ => 0)) (As := [.int z0]) (rest := st) (MX1_asNumber g) rfl rfl dX1_neighboursIn_8 (Nat.ne_of_beq_eq_false rfl) (by exact fun h => nomatch (show (none : Option Nat) = some 12 from h)) (by exact fun h => nomatch (show (none : Option Nat) = some 13 from h)) (by exact fun h => nomatch (show (none : Option Nat) = some 14 from h)) rfl rfl (by decide) (Nat.le_of_ble_eq_true rfl) (Nat.le_of_ble_eq_true rfl) rfl
theorem eX1_neighboursIn_11 : WP (MX1_neighboursIn g) Q (11, [l0, l1, l2, l3], st, w, k, n) = WP (MX1_neighboursIn g) Q (12, [l0, l1, l2, l3], .int 2 :: st, w, k, n) := iconst_e rfl dX1_neighboursIn_11 (by decide)
theorem eX1_neighboursIn_12 : WP (MX1_neighboursIn g) Q (12, [some (.ref p), l1, l2, l3], st, w, k, n) = WP (MX1_neighboursIn g) Q (13, [some (.ref p), l1, l2, l3], .ref p :: st, w, k, n) := Eq.trans (WP_at (M := (MX1_neighboursIn g)) rfl dX1_neighboursIn_12 (Or.inr rfl)) rfl
theorem eX1_neighboursIn_12N : WP (MX1_neighboursIn g) Q (12, [some .null, l1, l2, l3], st, w, k, n) = WP (MX1_neighboursIn g) Q (13, [some .null, l1, l2, l3], .null :: st, w, k, n) := Eq.trans (WP_at (M := (MX1_neighboursIn g)) rfl dX1_neighboursIn_12 (Or.inr rfl)) rfl
theorem eX1_neighboursIn_13 : WP (MX1_neighboursIn g) Q (13, [l0, some (.long x), l2, l3], st, w, k, n) = WP (MX1_neighboursIn g) Q (14, [l0, some (.long x), l2, l3], .long x :: st, w, k, n) := Eq.trans (WP_at (M := (MX1_neighboursIn g)) rfl dX1_neighboursIn_13 (Or.inr rfl)) rfl
theorem eX1_neighboursIn_14 : WP (MX1_neighboursIn g) Q (14, [l0, l1, l2, some (.int a)], st, w, k, n) = WP (MX1_neighboursIn g) Q (15, [l0, l1, l2, some (.int a)], .int a :: st, w, k, n) := Eq.trans (WP_at (M := (MX1_neighboursIn g)) rfl dX1_neighboursIn_14 (Or.inr rfl)) rfl
theorem eX1_neighboursIn_15 {z0 : Int64} {z1 : Int32} : WP (MX1_neighboursIn g) Q (15, [l0, l1, l2, l3], .int z1 :: .long z0 :: .ref p :: st, w, k, n) = (go (rd g w p) 4 (fun _ => True) ∧ wt st ≤ 8 ∧ k + 0 ≤ 0 ∧ n + 0 ≤ 0 ∧ WP (MX0_holdsAs g) (kx (fun v w' => WP (MX1_neighboursIn g) Q (18, [l0, l1, l2, l3], v.toList ++ st, w', k + 0, n + 0)) (fun E w' => Q (.inr E) w')) (0, [some (.ref p), some (.long z0), none, some (.int z1)], [], w, 0, 0)) := csV (M := (MX1_neighboursIn g)) (mc := (fun _ _ => 0)) (ms := (fun _ _ => 0)) (As := [.long z0, .int z1]) (rest := st) (MX0_holdsAs g) rfl rfl dX1_neighboursIn_15 (by exact fun h => nomatch (show (none : Option Nat) = some 11 from h)) (by exact fun h => nomatch (show (none : Option Nat) = some 15 from h)) rfl rfl (by decide) (Nat.le_of_ble_eq_true rfl) (Nat.le_of_ble_eq_true rfl) rfl
theorem eX1_neighboursIn_18 {z0 : Int32} : WP (MX1_neighboursIn g) Q (18, [l0, l1, l2, l3], .int z0 :: st, w, k, n) = (wt st ≤ 8 ∧ k + 0 ≤ 0 ∧ n + 0 ≤ 0 ∧ WP (MX1_asNumber g) (kx (fun v w' => WP (MX1_neighboursIn g) Q (21, [l0, l1, l2, l3], v.toList ++ st, w', k + 0, n + 0)) (fun E w' => Q (.inr E) w')) (0, [some (.int z0)], [], w, 0, 0)) := csS (M := (MX1_neighboursIn g)) (mc := (fun _ _ => 0)) (ms := (fun _ _ => 0)) (As := [.int z0]) (rest := st) (MX1_asNumber g) rfl rfl dX1_neighboursIn_18 (Nat.ne_of_beq_eq_false rfl) (by exact fun h => nomatch (show (none : Option Nat) = some 12 from h)) (by exact fun h => nomatch (show (none : Option Nat) = some 13 from h)) (by exact fun h => nomatch (show (none : Option Nat) = some 14 from h)) rfl rfl (by decide) (Nat.le_of_ble_eq_true rfl) (Nat.le_of_ble_eq_true rfl) rfl
theorem eX1_neighboursIn_21 : WP (MX1_neighboursIn g) Q (21, [l0, l1, l2, l3], .int b :: .int a :: st, w, k, n) = WP (MX1_neighboursIn g) Q (22, [l0, l1, l2, l3], .int (a * b) :: st, w, k, n) := Eq.trans (WP_at (M := (MX1_neighboursIn g)) rfl dX1_neighboursIn_21 (Or.inr rfl)) rfl
theorem eX1_neighboursIn_22 : WP (MX1_neighboursIn g) Q (22, [l0, l1, l2, l3], .int b :: .int a :: st, w, k, n) = WP (MX1_neighboursIn g) Q (23, [l0, l1, l2, l3], .int (a + b) :: st, w, k, n) := Eq.trans (WP_at (M := (MX1_neighboursIn g)) rfl dX1_neighboursIn_22 (Or.inr rfl)) rfl
theorem eX1_neighboursIn_23 : WP (MX1_neighboursIn g) Q (23, [l0, l1, l2, l3], st, w, k, n) = WP (MX1_neighboursIn g) Q (24, [l0, l1, l2, l3], .int 4 :: st, w, k, n) := iconst_e rfl dX1_neighboursIn_23 (by decide)
theorem eX1_neighboursIn_24 : WP (MX1_neighboursIn g) Q (24, [some (.ref p), l1, l2, l3], st, w, k, n) = WP (MX1_neighboursIn g) Q (25, [some (.ref p), l1, l2, l3], .ref p :: st, w, k, n) := Eq.trans (WP_at (M := (MX1_neighboursIn g)) rfl dX1_neighboursIn_24 (Or.inr rfl)) rfl
theorem eX1_neighboursIn_24N : WP (MX1_neighboursIn g) Q (24, [some .null, l1, l2, l3], st, w, k, n) = WP (MX1_neighboursIn g) Q (25, [some .null, l1, l2, l3], .null :: st, w, k, n) := Eq.trans (WP_at (M := (MX1_neighboursIn g)) rfl dX1_neighboursIn_24 (Or.inr rfl)) rfl
theorem eX1_neighboursIn_25 : WP (MX1_neighboursIn g) Q (25, [l0, some (.long x), l2, l3], st, w, k, n) = WP (MX1_neighboursIn g) Q (26, [l0, some (.long x), l2, l3], .long x :: st, w, k, n) := Eq.trans (WP_at (M := (MX1_neighboursIn g)) rfl dX1_neighboursIn_25 (Or.inr rfl)) rfl
theorem eX1_neighboursIn_26 : WP (MX1_neighboursIn g) Q (26, [l0, l1, l2, l3], st, w, k, n) = WP (MX1_neighboursIn g) Q (27, [l0, l1, l2, l3], .long 1 :: st, w, k, n) := lconst_e rfl dX1_neighboursIn_26 (by decide)
theorem eX1_neighboursIn_27 : WP (MX1_neighboursIn g) Q (27, [l0, l1, l2, l3], .long y :: .long x :: st, w, k, n) = WP (MX1_neighboursIn g) Q (28, [l0, l1, l2, l3], .long (x + y) :: st, w, k, n) := Eq.trans (WP_at (M := (MX1_neighboursIn g)) rfl dX1_neighboursIn_27 (Or.inr rfl)) rfl
theorem eX1_neighboursIn_28 : WP (MX1_neighboursIn g) Q (28, [l0, l1, l2, some (.int a)], st, w, k, n) = WP (MX1_neighboursIn g) Q (29, [l0, l1, l2, some (.int a)], .int a :: st, w, k, n) := Eq.trans (WP_at (M := (MX1_neighboursIn g)) rfl dX1_neighboursIn_28 (Or.inr rfl)) rfl
theorem eX1_neighboursIn_29 {z0 : Int64} {z1 : Int32} : WP (MX1_neighboursIn g) Q (29, [l0, l1, l2, l3], .int z1 :: .long z0 :: .ref p :: st, w, k, n) = (go (rd g w p) 4 (fun _ => True) ∧ wt st ≤ 8 ∧ k + 0 ≤ 0 ∧ n + 0 ≤ 0 ∧ WP (MX0_holdsAs g) (kx (fun v w' => WP (MX1_neighboursIn g) Q (32, [l0, l1, l2, l3], v.toList ++ st, w', k + 0, n + 0)) (fun E w' => Q (.inr E) w')) (0, [some (.ref p), some (.long z0), none, some (.int z1)], [], w, 0, 0)) := csV (M := (MX1_neighboursIn g)) (mc := (fun _ _ => 0)) (ms := (fun _ _ => 0)) (As := [.long z0, .int z1]) (rest := st) (MX0_holdsAs g) rfl rfl dX1_neighboursIn_29 (by exact fun h => nomatch (show (none : Option Nat) = some 11 from h)) (by exact fun h => nomatch (show (none : Option Nat) = some 15 from h)) rfl rfl (by decide) (Nat.le_of_ble_eq_true rfl) (Nat.le_of_ble_eq_true rfl) rfl
theorem eX1_neighboursIn_32 {z0 : Int32} : WP (MX1_neighboursIn g) Q (32, [l0, l1, l2, l3], .int z0 :: st, w, k, n) = (wt st ≤ 8 ∧ k + 0 ≤ 0 ∧ n + 0 ≤ 0 ∧ WP (MX1_asNumber g) (kx (fun v w' => WP (MX1_neighboursIn g) Q (35, [l0, l1, l2, l3], v.toList ++ st, w', k + 0, n + 0)) (fun E w' => Q (.inr E) w')) (0, [some (.int z0)], [], w, 0, 0)) := csS (M := (MX1_neighboursIn g)) (mc := (fun _ _ => 0)) (ms := (fun _ _ => 0)) (As := [.int z0]) (rest := st) (MX1_asNumber g) rfl rfl dX1_neighboursIn_32 (Nat.ne_of_beq_eq_false rfl) (by exact fun h => nomatch (show (none : Option Nat) = some 12 from h)) (by exact fun h => nomatch (show (none : Option Nat) = some 13 from h)) (by exact fun h => nomatch (show (none : Option Nat) = some 14 from h)) rfl rfl (by decide) (Nat.le_of_ble_eq_true rfl) (Nat.le_of_ble_eq_true rfl) rfl
theorem eX1_neighboursIn_35 : WP (MX1_neighboursIn g) Q (35, [l0, l1, l2, l3], .int b :: .int a :: st, w, k, n) = WP (MX1_neighboursIn g) Q (36, [l0, l1, l2, l3], .int (a * b) :: st, w, k, n) := Eq.trans (WP_at (M := (MX1_neighboursIn g)) rfl dX1_neighboursIn_35 (Or.inr rfl)) rfl
theorem eX1_neighboursIn_36 : WP (MX1_neighboursIn g) Q (36, [l0, l1, l2, l3], .int b :: .int a :: st, w, k, n) = WP (MX1_neighboursIn g) Q (37, [l0, l1, l2, l3], .int (a + b) :: st, w, k, n) := Eq.trans (WP_at (M := (MX1_neighboursIn g)) rfl dX1_neighboursIn_36 (Or.inr rfl)) rfl
theorem eX1_neighboursIn_37 : WP (MX1_neighboursIn g) Q (37, [l0, l1, l2, l3], [.int a], w, k, n) = (k ≤ 0 ∧ n ≤ 0 ∧ Q (.inl (some (.int a))) w) := iretI_e rfl dX1_neighboursIn_37 rfl
end
theorem wk_285 : (.code yX0_holdsAs cX0_holdsAs 4 (some .boolean) : Jvm.Cond) ∈ WS := WS_t1 227 rfl rfl
theorem wk_284 : (.instanceMethod yX0_holdsAs : Jvm.Cond) ∈ WS := WS_t1 226 rfl rfl
theorem wk_18 : (.selects RX0 yX0_holdsAs yX0_holdsAs : Jvm.Cond) ∈ WS := WS_at 18 (by decide +kernel) rfl
theorem vMX1_neighboursIn {l : Launch} (hl : l.stackTraces = false) (G : GT) : vM l G (MX1_neighboursIn (gg G)) := ⟨fun i c j h => lookup_all (l := (MX1_neighboursIn (gg G)).fld) (P := fun i e => vFld RX1 i e.1 e.2) (all_n) i (c, j) h, fun i c fs h => lookup_all (l := (MX1_neighboursIn (gg G)).new) (P := fun i e => vNew RX1 i e.1 e.2) (all_n) i (c, fs) h, lookup_all (l := (MX1_neighboursIn (gg G)).anew) (P := fun i e => vANew RX1 i e) (all_n), lookup_all (l := (MX1_neighboursIn (gg G)).lng) (P := fun i e => Jvm.Cond.constantLong RX1 i e ∈ WS) (all_n), lookup_all (l := (MX1_neighboursIn (gg G)).thr) (P := fun i e => vThr RX1 cX1_neighboursIn i e) (all_n), fun h => absurd rfl h, lookup_all (l := (MX1_neighboursIn (gg G)).cal) (P := fun i e => vCal l G RX1 i e) (all_c (⟨cX0_holdsAs, 4, some .boolean, fun y hy => by subst hy; exact ⟨by decide, ⟨_, wk_285, okX0_holdsAs hl, Or.inl ⟨Nat.ne_of_beq_eq_false rfl, rfl⟩⟩, wk_84, ⟨(by decide : yX0_holdsAs.cls ≠ "java/lang/invoke/MethodHandle"), (by decide : yX0_holdsAs.cls ≠ "java/lang/invoke/VarHandle")⟩, ⟨(by decide +kernel : (parseMethodDescriptor yX0_holdsAs.desc).map (fun d => d.parameters.length + 1) = some 3), ⟨"Rangecard", List.mem_of_getElem? (i := 282) (by decide +kernel : lw_tbl[282]? = some (.methodLinkNest RX1 277 yX0_holdsAs "Rangecard"))⟩, wk_284, wk_18, (RX0, TX0, 4), rfl, rfl⟩⟩⟩) (all_c (⟨cX1_asNumber, 1, some .int, fun y hy => by subst hy; exact ⟨by decide, ⟨_, wk_263, okX1_asNumber hl, Or.inl ⟨Nat.ne_of_beq_eq_false rfl, rfl⟩⟩, wk_59, ⟨(by decide : yX1_asNumber.cls ≠ "java/lang/invoke/MethodHandle"), (by decide : yX1_asNumber.cls ≠ "java/lang/invoke/VarHandle")⟩, ⟨(by decide +kernel : (parseMethodDescriptor yX1_asNumber.desc).map (fun d => d.parameters.length) = some 1), wk_261, wk_262⟩⟩⟩) (all_n))), lookup_all (l := (MX1_neighboursIn (gg G)).stt) (P := fun i e => vStt G RX1 i e) (all_n), lookup_all (l := (MX1_neighboursIn (gg G)).cst) (P := fun i e => vCst RX1 i e) (all_n), fun h => absurd rfl h, rfl, all_n⟩
theorem okX1_neighboursIn {l : Launch} (hl : l.stackTraces = false) {G : GT} : ∀ (args : List Value) (w : Hw) (S : Ot → Hw → Prop), spOf (MX1_neighboursIn (gg G)) args w S → CX l G yX1_neighboursIn (.code yX1_neighboursIn cX1_neighboursIn 4 (some .int)) 4 0 0 args w S := CX_sp (M := MX1_neighboursIn (gg G)) (y := yX1_neighboursIn) hl (by decide) rfl (vMX1_neighboursIn hl G) (fun h => by cases h) rfl
/-! Rangecard.holdersOf(JZ)I -/
theorem dX1_holdersOf_0 : decode cX1_holdersOf 0 = .ok (.iconst 0, 1) := by decide +kernel
theorem dX1_holdersOf_1 : decode cX1_holdersOf 1 = .ok (.istore 4, 2) := by decide +kernel
theorem dX1_holdersOf_3 : decode cX1_holdersOf 3 = .ok (.iconst 0, 1) := by decide +kernel
theorem dX1_holdersOf_4 : decode cX1_holdersOf 4 = .ok (.istore 5, 2) := by decide +kernel
theorem dX1_holdersOf_6 : decode cX1_holdersOf 6 = .ok (.iload 5, 2) := by decide +kernel
theorem dX1_holdersOf_8 : decode cX1_holdersOf 8 = .ok (.bipush 6, 2) := by decide +kernel
theorem dX1_holdersOf_10 : decode cX1_holdersOf 10 = .ok (.if_icmp .ge 42, 3) := by decide +kernel
theorem dX1_holdersOf_13 : decode cX1_holdersOf 13 = .ok (.aload_n 0, 1) := by decide +kernel
theorem dX1_holdersOf_14 : decode cX1_holdersOf 14 = .ok (.getfield 15, 3) := by decide +kernel
theorem dX1_holdersOf_17 : decode cX1_holdersOf 17 = .ok (.iload 5, 2) := by decide +kernel
theorem dX1_holdersOf_19 : decode cX1_holdersOf 19 = .ok (.aaload, 1) := by decide +kernel
theorem dX1_holdersOf_20 : decode cX1_holdersOf 20 = .ok (.astore 6, 2) := by decide +kernel
theorem dX1_holdersOf_22 : decode cX1_holdersOf 22 = .ok (.aload 6, 2) := by decide +kernel
theorem dX1_holdersOf_24 : decode cX1_holdersOf 24 = .ok (.ifnull 22, 3) := by decide +kernel
theorem dX1_holdersOf_27 : decode cX1_holdersOf 27 = .ok (.aload 6, 2) := by decide +kernel
theorem dX1_holdersOf_29 : decode cX1_holdersOf 29 = .ok (.lload_n 1, 1) := by decide +kernel
theorem dX1_holdersOf_30 : decode cX1_holdersOf 30 = .ok (.iload_n 3, 1) := by decide +kernel
theorem dX1_holdersOf_31 : decode cX1_holdersOf 31 = .ok (.invokevirtual 277, 3) := by decide +kernel
theorem dX1_holdersOf_34 : decode cX1_holdersOf 34 = .ok (.ifCond .eq 12, 3) := by decide +kernel
theorem dX1_holdersOf_37 : decode cX1_holdersOf 37 = .ok (.iload 4, 2) := by decide +kernel
theorem dX1_holdersOf_39 : decode cX1_holdersOf 39 = .ok (.iconst 1, 1) := by decide +kernel
theorem dX1_holdersOf_40 : decode cX1_holdersOf 40 = .ok (.iload 5, 2) := by decide +kernel
theorem dX1_holdersOf_42 : decode cX1_holdersOf 42 = .ok (.ishl, 1) := by decide +kernel
theorem dX1_holdersOf_43 : decode cX1_holdersOf 43 = .ok (.iadd, 1) := by decide +kernel
theorem dX1_holdersOf_44 : decode cX1_holdersOf 44 = .ok (.istore 4, 2) := by decide +kernel
theorem dX1_holdersOf_46 : decode cX1_holdersOf 46 = .ok (.iinc 5 1, 3) := by decide +kernel
theorem dX1_holdersOf_49 : decode cX1_holdersOf 49 = .ok (.goto (-43), 3) := by decide +kernel
theorem dX1_holdersOf_52 : decode cX1_holdersOf 52 = .ok (.iload 4, 2) := by decide +kernel
theorem dX1_holdersOf_54 : decode cX1_holdersOf 54 = .ok (.ireturn, 1) := by decide +kernel
def MX1_holdersOf (g : RO) : MT := ((RX1, cX1_holdersOf, 7, 4, 0, 0, false, some .int), [(15, 5, 1)], [], [], [], [], 0, [(277, 3, 3, 4, 3, (fun _ _ => 0), (fun _ _ => 0), yX0_holdsAs, spOf (MX0_holdsAs g))], [], [], 0, [], [], g)
section
variable {g : RO} {Q : Ot → Hw → Prop} {st : List Value} {w : Hw} {k n p q : Nat} {a b : Int32} {x y : Int64} {u v : Value} {l0 l1 l2 l3 l4 l5 l6 : Option Value}
theorem eX1_holdersOf_0 : WP (MX1_holdersOf g) Q (0, [l0, l1, l2, l3, l4, l5, l6], st, w, k, n) = WP (MX1_holdersOf g) Q (1, [l0, l1, l2, l3, l4, l5, l6], .int 0 :: st, w, k, n) := iconst_e rfl dX1_holdersOf_0 (by decide)
theorem eX1_holdersOf_1 : WP (MX1_holdersOf g) Q (1, [l0, l1, l2, l3, l4, l5, l6], .int a :: st, w, k, n) = WP (MX1_holdersOf g) Q (3, [l0, l1, l2, nl l3, some (.int a), l5, l6], st, w, k, n) := by rw [WP_at (M := (MX1_holdersOf g)) rfl dX1_holdersOf_1 (Or.inr rfl)]; exact and_t (Nat.le_of_ble_eq_true rfl)
theorem eX1_holdersOf_3 : WP (MX1_holdersOf g) Q (3, [l0, l1, l2, l3, l4, l5, l6], st, w, k, n) = WP (MX1_holdersOf g) Q (4, [l0, l1, l2, l3, l4, l5, l6], .int 0 :: st, w, k, n) := iconst_e rfl dX1_holdersOf_3 (by decide)
theorem eX1_holdersOf_4 : WP (MX1_holdersOf g) Q (4, [l0, l1, l2, l3, l4, l5, l6], .int a :: st, w, k, n) = WP (MX1_holdersOf g) Q (6, [l0, l1, l2, l3, nl l4, some (.int a), l6], st, w, k, n) := by rw [WP_at (M := (MX1_holdersOf g)) rfl dX1_holdersOf_4 (Or.inr rfl)]; exact and_t (Nat.le_of_ble_eq_true rfl)
theorem eX1_holdersOf_6 : WP (MX1_holdersOf g) Q (6, [l0, l1, l2, l3, l4, some (.int a), l6], st, w, k, n) = WP (MX1_holdersOf g) Q (8, [l0, l1, l2, l3, l4, some (.int a), l6], .int a :: st, w, k, n) := Eq.trans (WP_at (M := (MX1_holdersOf g)) rfl dX1_holdersOf_6 (Or.inr rfl)) rfl
theorem eX1_holdersOf_8 : WP (MX1_holdersOf g) Q (8, [l0, l1, l2, l3, l4, l5, l6], st, w, k, n) = WP (MX1_holdersOf g) Q (10, [l0, l1, l2, l3, l4, l5, l6], .int 6 :: st, w, k, n) := bipush_e rfl dX1_holdersOf_8 (by decide)
theorem eX1_holdersOf_10 : WP (MX1_holdersOf g) Q (10, [l0, l1, l2, l3, l4, l5, l6], .int b :: .int a :: st, w, k, n) = if b ≤ a then WP (MX1_holdersOf g) Q (52, [l0, l1, l2, l3, l4, l5, l6], st, w, k, n) else WP (MX1_holdersOf g) Q (13, [l0, l1, l2, l3, l4, l5, l6], st, w, k, n) := icm_e (b ≤ a) rfl dX1_holdersOf_10 rfl (by decide)
theorem eX1_holdersOf_13 : WP (MX1_holdersOf g) Q (13, [some (.ref p), l1, l2, l3, l4, l5, l6], st, w, k, n) = WP (MX1_holdersOf g) Q (14, [some (.ref p), l1, l2, l3, l4, l5, l6], .ref p :: st, w, k, n) := Eq.trans (WP_at (M := (MX1_holdersOf g)) rfl dX1_holdersOf_13 (Or.inr rfl)) rfl
theorem eX1_holdersOf_13N : WP (MX1_holdersOf g) Q (13, [some .null, l1, l2, l3, l4, l5, l6], st, w, k, n) = WP (MX1_holdersOf g) Q (14, [some .null, l1, l2, l3, l4, l5, l6], .null :: st, w, k, n) := Eq.trans (WP_at (M := (MX1_holdersOf g)) rfl dX1_holdersOf_13 (Or.inr rfl)) rfl
theorem eX1_holdersOf_14 : WP (MX1_holdersOf g) Q (14, [l0, l1, l2, l3, l4, l5, l6], .ref p :: st, w, k, n) = go (rd g w p) 5 fun fs => ∃ v, fs[1]? = some v ∧ WP (MX1_holdersOf g) Q (17, [l0, l1, l2, l3, l4, l5, l6], v :: st, w, k, n) := get_e rfl dX1_holdersOf_14 rfl
theorem eX1_holdersOf_17 : WP (MX1_holdersOf g) Q (17, [l0, l1, l2, l3, l4, some (.int a), l6], st, w, k, n) = WP (MX1_holdersOf g) Q (19, [l0, l1, l2, l3, l4, some (.int a), l6], .int a :: st, w, k, n) := Eq.trans (WP_at (M := (MX1_holdersOf g)) rfl dX1_holdersOf_17 (Or.inr rfl)) rfl
theorem eX1_holdersOf_19 : WP (MX1_holdersOf g) Q (19, [l0, l1, l2, l3, l4, l5, l6], .int a :: .ref p :: st, w, k, n) = gq (rd g w p) fun t N f => (t = 4 ∨ t = 5) ∧ vp_in a N ∧ WP (MX1_holdersOf g) Q (20, [l0, l1, l2, l3, l4, l5, l6], va_rf (f a.toNatClampNeg) :: st, w, k, n) := Eq.trans (WP_at (M := (MX1_holdersOf g)) rfl dX1_holdersOf_19 (Or.inr rfl)) rfl
theorem eX1_holdersOf_20 : WP (MX1_holdersOf g) Q (20, [l0, l1, l2, l3, l4, l5, l6], .ref p :: st, w, k, n) = WP (MX1_holdersOf g) Q (22, [l0, l1, l2, l3, l4, nl l5, some (.ref p)], st, w, k, n) := by rw [WP_at (M := (MX1_holdersOf g)) rfl dX1_holdersOf_20 (Or.inr rfl)]; exact and_t (Nat.le_of_ble_eq_true rfl)
theorem eX1_holdersOf_20N : WP (MX1_holdersOf g) Q (20, [l0, l1, l2, l3, l4, l5, l6], .null :: st, w, k, n) = WP (MX1_holdersOf g) Q (22, [l0, l1, l2, l3, l4, nl l5, some (.null)], st, w, k, n) := by rw [WP_at (M := (MX1_holdersOf g)) rfl dX1_holdersOf_20 (Or.inr rfl)]; exact and_t (Nat.le_of_ble_eq_true rfl)
theorem eX1_holdersOf_22 : WP (MX1_holdersOf g) Q (22, [l0, l1, l2, l3, l4, l5, some (.ref p)], st, w, k, n) = WP (MX1_holdersOf g) Q (24, [l0, l1, l2, l3, l4, l5, some (.ref p)], .ref p :: st, w, k, n) := Eq.trans (WP_at (M := (MX1_holdersOf g)) rfl dX1_holdersOf_22 (Or.inr rfl)) rfl
theorem eX1_holdersOf_22N : WP (MX1_holdersOf g) Q (22, [l0, l1, l2, l3, l4, l5, some .null], st, w, k, n) = WP (MX1_holdersOf g) Q (24, [l0, l1, l2, l3, l4, l5, some .null], .null :: st, w, k, n) := Eq.trans (WP_at (M := (MX1_holdersOf g)) rfl dX1_holdersOf_22 (Or.inr rfl)) rfl
theorem eX1_holdersOf_24R : WP (MX1_holdersOf g) Q (24, [l0, l1, l2, l3, l4, l5, l6], .ref p :: st, w, k, n) = WP (MX1_holdersOf g) Q (27, [l0, l1, l2, l3, l4, l5, l6], st, w, k, n) := ifnullR_e rfl dX1_holdersOf_24 (tgt := 46) (by decide)
theorem eX1_holdersOf_24N : WP (MX1_holdersOf g) Q (24, [l0, l1, l2, l3, l4, l5, l6], .null :: st, w, k, n) = WP (MX1_holdersOf g) Q (46, [l0, l1, l2, l3, l4, l5, l6], st, w, k, n) := ifnullN_e rfl dX1_holdersOf_24 (tgt := 46) (by decide)
theorem eX1_holdersOf_27 : WP (MX1_holdersOf g) Q (27, [l0, l1, l2, l3, l4, l5, some (.ref p)], st, w, k, n) = WP (MX1_holdersOf g) Q (29, [l0, l1, l2, l3, l4, l5, some (.ref p)], .ref p :: st, w, k, n) := Eq.trans (WP_at (M := (MX1_holdersOf g)) rfl dX1_holdersOf_27 (Or.inr rfl)) rfl
theorem eX1_holdersOf_27N : WP (MX1_holdersOf g) Q (27, [l0, l1, l2, l3, l4, l5, some .null], st, w, k, n) = WP (MX1_holdersOf g) Q (29, [l0, l1, l2, l3, l4, l5, some .null], .null :: st, w, k, n) := Eq.trans (WP_at (M := (MX1_holdersOf g)) rfl dX1_holdersOf_27 (Or.inr rfl)) rfl
theorem eX1_holdersOf_29 : WP (MX1_holdersOf g) Q (29, [l0, some (.long x), l2, l3, l4, l5, l6], st, w, k, n) = WP (MX1_holdersOf g) Q (30, [l0, some (.long x), l2, l3, l4, l5, l6], .long x :: st, w, k, n) := Eq.trans (WP_at (M := (MX1_holdersOf g)) rfl dX1_holdersOf_29 (Or.inr rfl)) rfl
theorem eX1_holdersOf_30 : WP (MX1_holdersOf g) Q (30, [l0, l1, l2, some (.int a), l4, l5, l6], st, w, k, n) = WP (MX1_holdersOf g) Q (31, [l0, l1, l2, some (.int a), l4, l5, l6], .int a :: st, w, k, n) := Eq.trans (WP_at (M := (MX1_holdersOf g)) rfl dX1_holdersOf_30 (Or.inr rfl)) rfl
theorem eX1_holdersOf_31 {z0 : Int64} {z1 : Int32} : WP (MX1_holdersOf g) Q (31, [l0, l1, l2, l3, l4, l5, l6], .int z1 :: .long z0 :: .ref p :: st, w, k, n) = (go (rd g w p) 4 (fun _ => True) ∧ wt st ≤ 8 ∧ k + 0 ≤ 0 ∧ n + 0 ≤ 0 ∧ WP (MX0_holdsAs g) (kx (fun v w' => WP (MX1_holdersOf g) Q (34, [l0, l1, l2, l3, l4, l5, l6], v.toList ++ st, w', k + 0, n + 0)) (fun E w' => Q (.inr E) w')) (0, [some (.ref p), some (.long z0), none, some (.int z1)], [], w, 0, 0)) := csV (M := (MX1_holdersOf g)) (mc := (fun _ _ => 0)) (ms := (fun _ _ => 0)) (As := [.long z0, .int z1]) (rest := st) (MX0_holdsAs g) rfl rfl dX1_holdersOf_31 (by exact fun h => nomatch (show (none : Option Nat) = some 11 from h)) (by exact fun h => nomatch (show (none : Option Nat) = some 15 from h)) rfl rfl (by decide) (Nat.le_of_ble_eq_true rfl) (Nat.le_of_ble_eq_true rfl) rfl
theorem eX1_holdersOf_34 : WP (MX1_holdersOf g) Q (34, [l0, l1, l2, l3, l4, l5, l6], .int a :: st, w, k, n) = if a = 0 then WP (MX1_holdersOf g) Q (46, [l0, l1, l2, l3, l4, l5, l6], st, w, k, n) else WP (MX1_holdersOf g) Q (37, [l0, l1, l2, l3, l4, l5, l6], st, w, k, n) := ifc_e (a = 0) rfl dX1_holdersOf_34 rfl (by decide)
theorem eX1_holdersOf_37 : WP (MX1_holdersOf g) Q (37, [l0, l1, l2, l3, some (.int a), l5, l6], st, w, k, n) = WP (MX1_holdersOf g) Q (39, [l0, l1, l2, l3, some (.int a), l5, l6], .int a :: st, w, k, n) := Eq.trans (WP_at (M := (MX1_holdersOf g)) rfl dX1_holdersOf_37 (Or.inr rfl)) rfl
theorem eX1_holdersOf_39 : WP (MX1_holdersOf g) Q (39, [l0, l1, l2, l3, l4, l5, l6], st, w, k, n) = WP (MX1_holdersOf g) Q (40, [l0, l1, l2, l3, l4, l5, l6], .int 1 :: st, w, k, n) := iconst_e rfl dX1_holdersOf_39 (by decide)
theorem eX1_holdersOf_40 : WP (MX1_holdersOf g) Q (40, [l0, l1, l2, l3, l4, some (.int a), l6], st, w, k, n) = WP (MX1_holdersOf g) Q (42, [l0, l1, l2, l3, l4, some (.int a), l6], .int a :: st, w, k, n) := Eq.trans (WP_at (M := (MX1_holdersOf g)) rfl dX1_holdersOf_40 (Or.inr rfl)) rfl
theorem eX1_holdersOf_42 : WP (MX1_holdersOf g) Q (42, [l0, l1, l2, l3, l4, l5, l6], .int b :: .int a :: st, w, k, n) = WP (MX1_holdersOf g) Q (43, [l0, l1, l2, l3, l4, l5, l6], .int (a <<< (b &&& 31)) :: st, w, k, n) := Eq.trans (WP_at (M := (MX1_holdersOf g)) rfl dX1_holdersOf_42 (Or.inr rfl)) rfl
theorem eX1_holdersOf_43 : WP (MX1_holdersOf g) Q (43, [l0, l1, l2, l3, l4, l5, l6], .int b :: .int a :: st, w, k, n) = WP (MX1_holdersOf g) Q (44, [l0, l1, l2, l3, l4, l5, l6], .int (a + b) :: st, w, k, n) := Eq.trans (WP_at (M := (MX1_holdersOf g)) rfl dX1_holdersOf_43 (Or.inr rfl)) rfl
theorem eX1_holdersOf_44 : WP (MX1_holdersOf g) Q (44, [l0, l1, l2, l3, l4, l5, l6], .int a :: st, w, k, n) = WP (MX1_holdersOf g) Q (46, [l0, l1, l2, nl l3, some (.int a), l5, l6], st, w, k, n) := by rw [WP_at (M := (MX1_holdersOf g)) rfl dX1_holdersOf_44 (Or.inr rfl)]; exact and_t (Nat.le_of_ble_eq_true rfl)
theorem eX1_holdersOf_46 : WP (MX1_holdersOf g) Q (46, [l0, l1, l2, l3, l4, some (.int a), l6], st, w, k, n) = WP (MX1_holdersOf g) Q (49, [l0, l1, l2, l3, nl l4, some (.int (a + 1)), l6], st, w, k, n) := Eq.trans (iinc_e (M := (MX1_holdersOf g)) (L := [l0, l1, l2, l3, l4, some (.int a), l6]) (d := 1) rfl dX1_holdersOf_46 (by decide) rfl) rfl
theorem eX1_holdersOf_49 : WP (MX1_holdersOf g) Q (49, [l0, l1, l2, l3, l4, l5, l6], st, w, k, n) = WP (MX1_holdersOf g) Q (6, [l0, l1, l2, l3, l4, l5, l6], st, w, k, n) := goto_e rfl dX1_holdersOf_49 (by decide)
theorem eX1_holdersOf_52 : WP (MX1_holdersOf g) Q (52, [l0, l1, l2, l3, some (.int a), l5, l6], st, w, k, n) = WP (MX1_holdersOf g) Q (54, [l0, l1, l2, l3, some (.int a), l5, l6], .int a :: st, w, k, n) := Eq.trans (WP_at (M := (MX1_holdersOf g)) rfl dX1_holdersOf_52 (Or.inr rfl)) rfl
theorem eX1_holdersOf_54 : WP (MX1_holdersOf g) Q (54, [l0, l1, l2, l3, l4, l5, l6], [.int a], w, k, n) = (k ≤ 0 ∧ n ≤ 0 ∧ Q (.inl (some (.int a))) w) := iretI_e rfl dX1_holdersOf_54 rfl
end
theorem vMX1_holdersOf {l : Launch} (hl : l.stackTraces = false) (G : GT) : vM l G (MX1_holdersOf (gg G)) := ⟨fun i c j h => lookup_all (l := (MX1_holdersOf (gg G)).fld) (P := fun i e => vFld RX1 i e.1 e.2) (all_c (vF_RX1_15) (all_n)) i (c, j) h, fun i c fs h => lookup_all (l := (MX1_holdersOf (gg G)).new) (P := fun i e => vNew RX1 i e.1 e.2) (all_n) i (c, fs) h, lookup_all (l := (MX1_holdersOf (gg G)).anew) (P := fun i e => vANew RX1 i e) (all_n), lookup_all (l := (MX1_holdersOf (gg G)).lng) (P := fun i e => Jvm.Cond.constantLong RX1 i e ∈ WS) (all_n), lookup_all (l := (MX1_holdersOf (gg G)).thr) (P := fun i e => vThr RX1 cX1_holdersOf i e) (all_n), fun h => absurd rfl h, lookup_all (l := (MX1_holdersOf (gg G)).cal) (P := fun i e => vCal l G RX1 i e) (all_c (⟨cX0_holdsAs, 4, some .boolean, fun y hy => by subst hy; exact ⟨by decide, ⟨_, wk_285, okX0_holdsAs hl, Or.inl ⟨Nat.ne_of_beq_eq_false rfl, rfl⟩⟩, wk_84, ⟨(by decide : yX0_holdsAs.cls ≠ "java/lang/invoke/MethodHandle"), (by decide : yX0_holdsAs.cls ≠ "java/lang/invoke/VarHandle")⟩, ⟨(by decide +kernel : (parseMethodDescriptor yX0_holdsAs.desc).map (fun d => d.parameters.length + 1) = some 3), ⟨"Rangecard", List.mem_of_getElem? (i := 282) (by decide +kernel : lw_tbl[282]? = some (.methodLinkNest RX1 277 yX0_holdsAs "Rangecard"))⟩, wk_284, wk_18, (RX0, TX0, 4), rfl, rfl⟩⟩⟩) (all_n)), lookup_all (l := (MX1_holdersOf (gg G)).stt) (P := fun i e => vStt G RX1 i e) (all_n), lookup_all (l := (MX1_holdersOf (gg G)).cst) (P := fun i e => vCst RX1 i e) (all_n), fun h => absurd rfl h, rfl, all_n⟩
theorem okX1_holdersOf {l : Launch} (hl : l.stackTraces = false) {G : GT} : ∀ (args : List Value) (w : Hw) (S : Ot → Hw → Prop), spOf (MX1_holdersOf (gg G)) args w S → CX l G yX1_holdersOf (.code yX1_holdersOf cX1_holdersOf 7 (some .int)) 4 0 0 args w S := CX_sp (M := MX1_holdersOf (gg G)) (y := yX1_holdersOf) hl (by decide) rfl (vMX1_holdersOf hl G) (fun h => by cases h) rfl
end
/-! 66.class04.lean.txt -/
section
/-! Rangecard.isSo(LRangecard$Range;I)Z -/
theorem dX1_isSo_0 : decode cX1_isSo 0 = .ok (.iload_n 1, 1) := by decide +kernel
theorem dX1_isSo_1 : decode cX1_isSo 1 = .ok (.lookupswitch 37 #[(1, 27), (2, 32)], 27) := by decide +kernel
theorem dX1_isSo_28 : decode cX1_isSo 28 = .ok (.aload_n 0, 1) := by decide +kernel
theorem dX1_isSo_29 : decode cX1_isSo 29 = .ok (.invokevirtual 134, 3) := by decide +kernel
theorem dX1_isSo_32 : decode cX1_isSo 32 = .ok (.ireturn, 1) := by decide +kernel
theorem dX1_isSo_33 : decode cX1_isSo 33 = .ok (.aload_n 0, 1) := by decide +kernel
theorem dX1_isSo_34 : decode cX1_isSo 34 = .ok (.invokevirtual 138, 3) := by decide +kernel
theorem dX1_isSo_37 : decode cX1_isSo 37 = .ok (.ireturn, 1) := by decide +kernel
theorem dX1_isSo_38 : decode cX1_isSo 38 = .ok (.iconst 1, 1) := by decide +kernel
theorem dX1_isSo_39 : decode cX1_isSo 39 = .ok (.ireturn, 1) := by decide +kernel
def MX1_isSo (g : RO) : MT := ((RX1, cX1_isSo, 2, 2, 0, 0, false, some .boolean), [], [], [], [], [], 0, [(134, 3, 1, 4, 1, (fun _ _ => 0), (fun _ _ => 0), yX0_isSettled, spOf (MX0_isSettled g)), (138, 3, 1, 4, 1, (fun _ _ => 0), (fun _ _ => 0), yX0_fitsSmall, spOf (MX0_fitsSmall g))], [], [], 0, [], [], g)
section
variable {g : RO} {Q : Ot → Hw → Prop} {st : List Value} {w : Hw} {k n p q : Nat} {a b : Int32} {x y : Int64} {u v : Value} {l0 l1 : Option Value}
theorem eX1_isSo_0 : WP (MX1_isSo g) Q (0, [l0, some (.int a)], st, w, k, n) = WP (MX1_isSo g) Q (1, [l0, some (.int a)], .int a :: st, w, k, n) := Eq.trans (WP_at (M := (MX1_isSo g)) rfl dX1_isSo_0 (Or.inr rfl)) rfl
theorem eX1_isSo_1_0 : WP (MX1_isSo g) Q (1, [l0, l1], .int 0 :: st, w, k, n) = WP (MX1_isSo g) Q (38, [l0, l1], st, w, k, n) := lsw_e (37) rfl dX1_isSo_1 (by decide) (by decide) (by decide)
theorem eX1_isSo_1_1 : WP (MX1_isSo g) Q (1, [l0, l1], .int 1 :: st, w, k, n) = WP (MX1_isSo g) Q (28, [l0, l1], st, w, k, n) := lsw_e (27) rfl dX1_isSo_1 (by decide) (by decide) (by decide)
theorem eX1_isSo_1_2 : WP (MX1_isSo g) Q (1, [l0, l1], .int 2 :: st, w, k, n) = WP (MX1_isSo g) Q (33, [l0, l1], st, w, k, n) := lsw_e (32) rfl dX1_isSo_1 (by decide) (by decide) (by decide)
theorem eX1_isSo_1_3 : WP (MX1_isSo g) Q (1, [l0, l1], .int 3 :: st, w, k, n) = WP (MX1_isSo g) Q (38, [l0, l1], st, w, k, n) := lsw_e (37) rfl dX1_isSo_1 (by decide) (by decide) (by decide)
theorem eX1_isSo_1_4 : WP (MX1_isSo g) Q (1, [l0, l1], .int 4 :: st, w, k, n) = WP (MX1_isSo g) Q (38, [l0, l1], st, w, k, n) := lsw_e (37) rfl dX1_isSo_1 (by decide) (by decide) (by decide)
theorem eX1_isSo_28 : WP (MX1_isSo g) Q (28, [some (.ref p), l1], st, w, k, n) = WP (MX1_isSo g) Q (29, [some (.ref p), l1], .ref p :: st, w, k, n) := Eq.trans (WP_at (M := (MX1_isSo g)) rfl dX1_isSo_28 (Or.inr rfl)) rfl
theorem eX1_isSo_28N : WP (MX1_isSo g) Q (28, [some .null, l1], st, w, k, n) = WP (MX1_isSo g) Q (29, [some .null, l1], .null :: st, w, k, n) := Eq.trans (WP_at (M := (MX1_isSo g)) rfl dX1_isSo_28 (Or.inr rfl)) rfl
theorem eX1_isSo_29  : WP (MX1_isSo g) Q (29, [l0, l1], .ref p :: st, w, k, n) = (go (rd g w p) 4 (fun _ => True) ∧ wt st ≤ 8 ∧ k + 0 ≤ 0 ∧ n + 0 ≤ 0 ∧ WP (MX0_isSettled g) (kx (fun v w' => WP (MX1_isSo g) Q (32, [l0, l1], v.toList ++ st, w', k + 0, n + 0)) (fun E w' => Q (.inr E) w')) (0, [some (.ref p)], [], w, 0, 0)) := csV (M := (MX1_isSo g)) (mc := (fun _ _ => 0)) (ms := (fun _ _ => 0)) (As := []) (rest := st) (MX0_isSettled g) rfl rfl dX1_isSo_29 (by exact fun h => nomatch (show (none : Option Nat) = some 11 from h)) (by exact fun h => nomatch (show (none : Option Nat) = some 15 from h)) rfl rfl (by decide) (Nat.le_of_ble_eq_true rfl) (Nat.le_of_ble_eq_true rfl) rfl
theorem eX1_isSo_32 : WP (MX1_isSo g) Q (32, [l0, l1], [.int a], w, k, n) = (narrow (.boolean) (.int a) = .int a ∧ k ≤ 0 ∧ n ≤ 0 ∧ Q (.inl (some (.int a))) w) := iret_e rfl dX1_isSo_32 rfl
theorem eX1_isSo_33 : WP (MX1_isSo g) Q (33, [some (.ref p), l1], st, w, k, n) = WP (MX1_isSo g) Q (34, [some (.ref p), l1], .ref p :: st, w, k, n) := Eq.trans (WP_at (M := (MX1_isSo g)) rfl dX1_isSo_33 (Or.inr rfl)) rfl
theorem eX1_isSo_33N : WP (MX1_isSo g) Q (33, [some .null, l1], st, w, k, n) = WP (MX1_isSo g) Q (34, [some .null, l1], .null :: st, w, k, n) := Eq.trans (WP_at (M := (MX1_isSo g)) rfl dX1_isSo_33 (Or.inr rfl)) rfl
theorem eX1_isSo_34  : WP (MX1_isSo g) Q (34, [l0, l1], .ref p :: st, w, k, n) = (go (rd g w p) 4 (fun _ => True) ∧ wt st ≤ 8 ∧ k + 0 ≤ 0 ∧ n + 0 ≤ 0 ∧ WP (MX0_fitsSmall g) (kx (fun v w' => WP (MX1_isSo g) Q (37, [l0, l1], v.toList ++ st, w', k + 0, n + 0)) (fun E w' => Q (.inr E) w')) (0, [some (.ref p)], [], w, 0, 0)) := csV (M := (MX1_isSo g)) (mc := (fun _ _ => 0)) (ms := (fun _ _ => 0)) (As := []) (rest := st) (MX0_fitsSmall g) rfl rfl dX1_isSo_34 (by exact fun h => nomatch (show (none : Option Nat) = some 11 from h)) (by exact fun h => nomatch (show (none : Option Nat) = some 15 from h)) rfl rfl (by decide) (Nat.le_of_ble_eq_true rfl) (Nat.le_of_ble_eq_true rfl) rfl
theorem eX1_isSo_37 : WP (MX1_isSo g) Q (37, [l0, l1], [.int a], w, k, n) = (narrow (.boolean) (.int a) = .int a ∧ k ≤ 0 ∧ n ≤ 0 ∧ Q (.inl (some (.int a))) w) := iret_e rfl dX1_isSo_37 rfl
theorem eX1_isSo_38 : WP (MX1_isSo g) Q (38, [l0, l1], st, w, k, n) = WP (MX1_isSo g) Q (39, [l0, l1], .int 1 :: st, w, k, n) := iconst_e rfl dX1_isSo_38 (by decide)
theorem eX1_isSo_39 : WP (MX1_isSo g) Q (39, [l0, l1], [.int a], w, k, n) = (narrow (.boolean) (.int a) = .int a ∧ k ≤ 0 ∧ n ≤ 0 ∧ Q (.inl (some (.int a))) w) := iret_e rfl dX1_isSo_39 rfl
end
theorem wk_188 : (.code yX0_isSettled cX0_isSettled 1 (some .boolean) : Jvm.Cond) ∈ WS := WS_t1 130 rfl rfl
theorem wk_187 : (.instanceMethod yX0_isSettled : Jvm.Cond) ∈ WS := WS_t1 129 rfl rfl
theorem wk_3 : (.selects RX0 yX0_isSettled yX0_isSettled : Jvm.Cond) ∈ WS := WS_at 3 (by decide +kernel) rfl
theorem vMX1_isSo {l : Launch} (hl : l.stackTraces = false) (G : GT) : vM l G (MX1_isSo (gg G)) := ⟨fun i c j h => lookup_all (l := (MX1_isSo (gg G)).fld) (P := fun i e => vFld RX1 i e.1 e.2) (all_n) i (c, j) h, fun i c fs h => lookup_all (l := (MX1_isSo (gg G)).new) (P := fun i e => vNew RX1 i e.1 e.2) (all_n) i (c, fs) h, lookup_all (l := (MX1_isSo (gg G)).anew) (P := fun i e => vANew RX1 i e) (all_n), lookup_all (l := (MX1_isSo (gg G)).lng) (P := fun i e => Jvm.Cond.constantLong RX1 i e ∈ WS) (all_n), lookup_all (l := (MX1_isSo (gg G)).thr) (P := fun i e => vThr RX1 cX1_isSo i e) (all_n), fun h => absurd rfl h, lookup_all (l := (MX1_isSo (gg G)).cal) (P := fun i e => vCal l G RX1 i e) (all_c (⟨cX0_isSettled, 1, some .boolean, fun y hy => by subst hy; exact ⟨by decide, ⟨_, wk_188, okX0_isSettled hl, Or.inl ⟨Nat.ne_of_beq_eq_false rfl, rfl⟩⟩, wk_84, ⟨(by decide : yX0_isSettled.cls ≠ "java/lang/invoke/MethodHandle"), (by decide : yX0_isSettled.cls ≠ "java/lang/invoke/VarHandle")⟩, ⟨(by decide +kernel : (parseMethodDescriptor yX0_isSettled.desc).map (fun d => d.parameters.length + 1) = some 1), ⟨"Rangecard", List.mem_of_getElem? (i := 185) (by decide +kernel : lw_tbl[185]? = some (.methodLinkNest RX1 134 yX0_isSettled "Rangecard"))⟩, wk_187, wk_3, (RX0, TX0, 4), rfl, rfl⟩⟩⟩) (all_c (⟨cX0_fitsSmall, 1, some .boolean, fun y hy => by subst hy; exact ⟨by decide, ⟨_, wk_219, okX0_fitsSmall hl, Or.inl ⟨Nat.ne_of_beq_eq_false rfl, rfl⟩⟩, wk_84, ⟨(by decide : yX0_fitsSmall.cls ≠ "java/lang/invoke/MethodHandle"), (by decide : yX0_fitsSmall.cls ≠ "java/lang/invoke/VarHandle")⟩, ⟨(by decide +kernel : (parseMethodDescriptor yX0_fitsSmall.desc).map (fun d => d.parameters.length + 1) = some 1), ⟨"Rangecard", List.mem_of_getElem? (i := 223) (by decide +kernel : lw_tbl[223]? = some (.methodLinkNest RX1 138 yX0_fitsSmall "Rangecard"))⟩, wk_218, wk_7, (RX0, TX0, 4), rfl, rfl⟩⟩⟩) (all_n))), lookup_all (l := (MX1_isSo (gg G)).stt) (P := fun i e => vStt G RX1 i e) (all_n), lookup_all (l := (MX1_isSo (gg G)).cst) (P := fun i e => vCst RX1 i e) (all_n), fun h => absurd rfl h, rfl, all_n⟩
theorem okX1_isSo {l : Launch} (hl : l.stackTraces = false) {G : GT} : ∀ (args : List Value) (w : Hw) (S : Ot → Hw → Prop), spOf (MX1_isSo (gg G)) args w S → CX l G yX1_isSo (.code yX1_isSo cX1_isSo 2 (some .boolean)) 2 0 0 args w S := CX_sp (M := MX1_isSo (gg G)) (y := yX1_isSo) hl (by decide) rfl (vMX1_isSo hl G) (fun h => by cases h) rfl
/-! Rangecard.cardsThatAre(I)I -/
theorem dX1_cardsThatAre_0 : decode cX1_cardsThatAre 0 = .ok (.iconst 0, 1) := by decide +kernel
theorem dX1_cardsThatAre_1 : decode cX1_cardsThatAre 1 = .ok (.istore_n 2, 1) := by decide +kernel
theorem dX1_cardsThatAre_2 : decode cX1_cardsThatAre 2 = .ok (.iconst 0, 1) := by decide +kernel
theorem dX1_cardsThatAre_3 : decode cX1_cardsThatAre 3 = .ok (.istore_n 3, 1) := by decide +kernel
theorem dX1_cardsThatAre_4 : decode cX1_cardsThatAre 4 = .ok (.iload_n 3, 1) := by decide +kernel
theorem dX1_cardsThatAre_5 : decode cX1_cardsThatAre 5 = .ok (.bipush 6, 2) := by decide +kernel
theorem dX1_cardsThatAre_7 : decode cX1_cardsThatAre 7 = .ok (.if_icmp .ge 37, 3) := by decide +kernel
theorem dX1_cardsThatAre_10 : decode cX1_cardsThatAre 10 = .ok (.aload_n 0, 1) := by decide +kernel
theorem dX1_cardsThatAre_11 : decode cX1_cardsThatAre 11 = .ok (.getfield 15, 3) := by decide +kernel
theorem dX1_cardsThatAre_14 : decode cX1_cardsThatAre 14 = .ok (.iload_n 3, 1) := by decide +kernel
theorem dX1_cardsThatAre_15 : decode cX1_cardsThatAre 15 = .ok (.aaload, 1) := by decide +kernel
theorem dX1_cardsThatAre_16 : decode cX1_cardsThatAre 16 = .ok (.astore 4, 2) := by decide +kernel
theorem dX1_cardsThatAre_18 : decode cX1_cardsThatAre 18 = .ok (.aload 4, 2) := by decide +kernel
theorem dX1_cardsThatAre_20 : decode cX1_cardsThatAre 20 = .ok (.ifnull 18, 3) := by decide +kernel
theorem dX1_cardsThatAre_23 : decode cX1_cardsThatAre 23 = .ok (.aload 4, 2) := by decide +kernel
theorem dX1_cardsThatAre_25 : decode cX1_cardsThatAre 25 = .ok (.iload_n 1, 1) := by decide +kernel
theorem dX1_cardsThatAre_26 : decode cX1_cardsThatAre 26 = .ok (.invokestatic 281, 3) := by decide +kernel
theorem dX1_cardsThatAre_29 : decode cX1_cardsThatAre 29 = .ok (.ifCond .eq 9, 3) := by decide +kernel
theorem dX1_cardsThatAre_32 : decode cX1_cardsThatAre 32 = .ok (.iload_n 2, 1) := by decide +kernel
theorem dX1_cardsThatAre_33 : decode cX1_cardsThatAre 33 = .ok (.iconst 1, 1) := by decide +kernel
theorem dX1_cardsThatAre_34 : decode cX1_cardsThatAre 34 = .ok (.iload_n 3, 1) := by decide +kernel
theorem dX1_cardsThatAre_35 : decode cX1_cardsThatAre 35 = .ok (.ishl, 1) := by decide +kernel
theorem dX1_cardsThatAre_36 : decode cX1_cardsThatAre 36 = .ok (.iadd, 1) := by decide +kernel
theorem dX1_cardsThatAre_37 : decode cX1_cardsThatAre 37 = .ok (.istore_n 2, 1) := by decide +kernel
theorem dX1_cardsThatAre_38 : decode cX1_cardsThatAre 38 = .ok (.iinc 3 1, 3) := by decide +kernel
theorem dX1_cardsThatAre_41 : decode cX1_cardsThatAre 41 = .ok (.goto (-37), 3) := by decide +kernel
theorem dX1_cardsThatAre_44 : decode cX1_cardsThatAre 44 = .ok (.iload_n 2, 1) := by decide +kernel
theorem dX1_cardsThatAre_45 : decode cX1_cardsThatAre 45 = .ok (.ireturn, 1) := by decide +kernel
def MX1_cardsThatAre (g : RO) : MT := ((RX1, cX1_cardsThatAre, 5, 3, 0, 0, false, some .int), [(15, 5, 1)], [], [], [], [], 0, [(281, 0, 2, 0, 2, (fun _ _ => 0), (fun _ _ => 0), yX1_isSo, spOf (MX1_isSo g))], [], [], 0, [], [], g)
section
variable {g : RO} {Q : Ot → Hw → Prop} {st : List Value} {w : Hw} {k n p q : Nat} {a b : Int32} {x y : Int64} {u v : Value} {l0 l1 l2 l3 l4 : Option Value}
theorem eX1_cardsThatAre_0 : WP (MX1_cardsThatAre g) Q (0, [l0, l1, l2, l3, l4], st, w, k, n) = WP (MX1_cardsThatAre g) Q (1, [l0, l1, l2, l3, l4], .int 0 :: st, w, k, n) := iconst_e rfl dX1_cardsThatAre_0 (by decide)
theorem eX1_cardsThatAre_1 : WP (MX1_cardsThatAre g) Q (1, [l0, l1, l2, l3, l4], .int a :: st, w, k, n) = WP (MX1_cardsThatAre g) Q (2, [l0, nl l1, some (.int a), l3, l4], st, w, k, n) := by rw [WP_at (M := (MX1_cardsThatAre g)) rfl dX1_cardsThatAre_1 (Or.inr rfl)]; exact and_t (Nat.le_of_ble_eq_true rfl)
theorem eX1_cardsThatAre_2 : WP (MX1_cardsThatAre g) Q (2, [l0, l1, l2, l3, l4], st, w, k, n) = WP (MX1_cardsThatAre g) Q (3, [l0, l1, l2, l3, l4], .int 0 :: st, w, k, n) := iconst_e rfl dX1_cardsThatAre_2 (by decide)
theorem eX1_cardsThatAre_3 : WP (MX1_cardsThatAre g) Q (3, [l0, l1, l2, l3, l4], .int a :: st, w, k, n) = WP (MX1_cardsThatAre g) Q (4, [l0, l1, nl l2, some (.int a), l4], st, w, k, n) := by rw [WP_at (M := (MX1_cardsThatAre g)) rfl dX1_cardsThatAre_3 (Or.inr rfl)]; exact and_t (Nat.le_of_ble_eq_true rfl)
theorem eX1_cardsThatAre_4 : WP (MX1_cardsThatAre g) Q (4, [l0, l1, l2, some (.int a), l4], st, w, k, n) = WP (MX1_cardsThatAre g) Q (5, [l0, l1, l2, some (.int a), l4], .int a :: st, w, k, n) := Eq.trans (WP_at (M := (MX1_cardsThatAre g)) rfl dX1_cardsThatAre_4 (Or.inr rfl)) rfl
theorem eX1_cardsThatAre_5 : WP (MX1_cardsThatAre g) Q (5, [l0, l1, l2, l3, l4], st, w, k, n) = WP (MX1_cardsThatAre g) Q (7, [l0, l1, l2, l3, l4], .int 6 :: st, w, k, n) := bipush_e rfl dX1_cardsThatAre_5 (by decide)
theorem eX1_cardsThatAre_7 : WP (MX1_cardsThatAre g) Q (7, [l0, l1, l2, l3, l4], .int b :: .int a :: st, w, k, n) = if b ≤ a then WP (MX1_cardsThatAre g) Q (44, [l0, l1, l2, l3, l4], st, w, k, n) else WP (MX1_cardsThatAre g) Q (10, [l0, l1, l2, l3, l4], st, w, k, n) := icm_e (b ≤ a) rfl dX1_cardsThatAre_7 rfl (by decide)
theorem eX1_cardsThatAre_10 : WP (MX1_cardsThatAre g) Q (10, [some (.ref p), l1, l2, l3, l4], st, w, k, n) = WP (MX1_cardsThatAre g) Q (11, [some (.ref p), l1, l2, l3, l4], .ref p :: st, w, k, n) := Eq.trans (WP_at (M := (MX1_cardsThatAre g)) rfl dX1_cardsThatAre_10 (Or.inr rfl)) rfl
theorem eX1_cardsThatAre_10N : WP (MX1_cardsThatAre g) Q (10, [some .null, l1, l2, l3, l4], st, w, k, n) = WP (MX1_cardsThatAre g) Q (11, [some .null, l1, l2, l3, l4], .null :: st, w, k, n) := Eq.trans (WP_at (M := (MX1_cardsThatAre g)) rfl dX1_cardsThatAre_10 (Or.inr rfl)) rfl
theorem eX1_cardsThatAre_11 : WP (MX1_cardsThatAre g) Q (11, [l0, l1, l2, l3, l4], .ref p :: st, w, k, n) = go (rd g w p) 5 fun fs => ∃ v, fs[1]? = some v ∧ WP (MX1_cardsThatAre g) Q (14, [l0, l1, l2, l3, l4], v :: st, w, k, n) := get_e rfl dX1_cardsThatAre_11 rfl
theorem eX1_cardsThatAre_14 : WP (MX1_cardsThatAre g) Q (14, [l0, l1, l2, some (.int a), l4], st, w, k, n) = WP (MX1_cardsThatAre g) Q (15, [l0, l1, l2, some (.int a), l4], .int a :: st, w, k, n) := Eq.trans (WP_at (M := (MX1_cardsThatAre g)) rfl dX1_cardsThatAre_14 (Or.inr rfl)) rfl
theorem eX1_cardsThatAre_15 : WP (MX1_cardsThatAre g) Q (15, [l0, l1, l2, l3, l4], .int a :: .ref p :: st, w, k, n) = gq (rd g w p) fun t N f => (t = 4 ∨ t = 5) ∧ vp_in a N ∧ WP (MX1_cardsThatAre g) Q (16, [l0, l1, l2, l3, l4], va_rf (f a.toNatClampNeg) :: st, w, k, n) := Eq.trans (WP_at (M := (MX1_cardsThatAre g)) rfl dX1_cardsThatAre_15 (Or.inr rfl)) rfl
theorem eX1_cardsThatAre_16 : WP (MX1_cardsThatAre g) Q (16, [l0, l1, l2, l3, l4], .ref p :: st, w, k, n) = WP (MX1_cardsThatAre g) Q (18, [l0, l1, l2, nl l3, some (.ref p)], st, w, k, n) := by rw [WP_at (M := (MX1_cardsThatAre g)) rfl dX1_cardsThatAre_16 (Or.inr rfl)]; exact and_t (Nat.le_of_ble_eq_true rfl)
theorem eX1_cardsThatAre_16N : WP (MX1_cardsThatAre g) Q (16, [l0, l1, l2, l3, l4], .null :: st, w, k, n) = WP (MX1_cardsThatAre g) Q (18, [l0, l1, l2, nl l3, some (.null)], st, w, k, n) := by rw [WP_at (M := (MX1_cardsThatAre g)) rfl dX1_cardsThatAre_16 (Or.inr rfl)]; exact and_t (Nat.le_of_ble_eq_true rfl)
theorem eX1_cardsThatAre_18 : WP (MX1_cardsThatAre g) Q (18, [l0, l1, l2, l3, some (.ref p)], st, w, k, n) = WP (MX1_cardsThatAre g) Q (20, [l0, l1, l2, l3, some (.ref p)], .ref p :: st, w, k, n) := Eq.trans (WP_at (M := (MX1_cardsThatAre g)) rfl dX1_cardsThatAre_18 (Or.inr rfl)) rfl
theorem eX1_cardsThatAre_18N : WP (MX1_cardsThatAre g) Q (18, [l0, l1, l2, l3, some .null], st, w, k, n) = WP (MX1_cardsThatAre g) Q (20, [l0, l1, l2, l3, some .null], .null :: st, w, k, n) := Eq.trans (WP_at (M := (MX1_cardsThatAre g)) rfl dX1_cardsThatAre_18 (Or.inr rfl)) rfl
theorem eX1_cardsThatAre_20R : WP (MX1_cardsThatAre g) Q (20, [l0, l1, l2, l3, l4], .ref p :: st, w, k, n) = WP (MX1_cardsThatAre g) Q (23, [l0, l1, l2, l3, l4], st, w, k, n) := ifnullR_e rfl dX1_cardsThatAre_20 (tgt := 38) (by decide)
theorem eX1_cardsThatAre_20N : WP (MX1_cardsThatAre g) Q (20, [l0, l1, l2, l3, l4], .null :: st, w, k, n) = WP (MX1_cardsThatAre g) Q (38, [l0, l1, l2, l3, l4], st, w, k, n) := ifnullN_e rfl dX1_cardsThatAre_20 (tgt := 38) (by decide)
theorem eX1_cardsThatAre_23 : WP (MX1_cardsThatAre g) Q (23, [l0, l1, l2, l3, some (.ref p)], st, w, k, n) = WP (MX1_cardsThatAre g) Q (25, [l0, l1, l2, l3, some (.ref p)], .ref p :: st, w, k, n) := Eq.trans (WP_at (M := (MX1_cardsThatAre g)) rfl dX1_cardsThatAre_23 (Or.inr rfl)) rfl
theorem eX1_cardsThatAre_23N : WP (MX1_cardsThatAre g) Q (23, [l0, l1, l2, l3, some .null], st, w, k, n) = WP (MX1_cardsThatAre g) Q (25, [l0, l1, l2, l3, some .null], .null :: st, w, k, n) := Eq.trans (WP_at (M := (MX1_cardsThatAre g)) rfl dX1_cardsThatAre_23 (Or.inr rfl)) rfl
theorem eX1_cardsThatAre_25 : WP (MX1_cardsThatAre g) Q (25, [l0, some (.int a), l2, l3, l4], st, w, k, n) = WP (MX1_cardsThatAre g) Q (26, [l0, some (.int a), l2, l3, l4], .int a :: st, w, k, n) := Eq.trans (WP_at (M := (MX1_cardsThatAre g)) rfl dX1_cardsThatAre_25 (Or.inr rfl)) rfl
theorem eX1_cardsThatAre_26R {z0 : Nat} {z1 : Int32} : WP (MX1_cardsThatAre g) Q (26, [l0, l1, l2, l3, l4], .int z1 :: .ref z0 :: st, w, k, n) = (wt st ≤ 8 ∧ k + 0 ≤ 0 ∧ n + 0 ≤ 0 ∧ WP (MX1_isSo g) (kx (fun v w' => WP (MX1_cardsThatAre g) Q (29, [l0, l1, l2, l3, l4], v.toList ++ st, w', k + 0, n + 0)) (fun E w' => Q (.inr E) w')) (0, [some (.ref z0), some (.int z1)], [], w, 0, 0)) := csS (M := (MX1_cardsThatAre g)) (mc := (fun _ _ => 0)) (ms := (fun _ _ => 0)) (As := [.ref z0, .int z1]) (rest := st) (MX1_isSo g) rfl rfl dX1_cardsThatAre_26 (Nat.ne_of_beq_eq_false rfl) (by exact fun h => nomatch (show (none : Option Nat) = some 12 from h)) (by exact fun h => nomatch (show (none : Option Nat) = some 13 from h)) (by exact fun h => nomatch (show (none : Option Nat) = some 14 from h)) rfl rfl (by decide) (Nat.le_of_ble_eq_true rfl) (Nat.le_of_ble_eq_true rfl) rfl
theorem eX1_cardsThatAre_26N {z1 : Int32} : WP (MX1_cardsThatAre g) Q (26, [l0, l1, l2, l3, l4], .int z1 :: .null :: st, w, k, n) = (wt st ≤ 8 ∧ k + 0 ≤ 0 ∧ n + 0 ≤ 0 ∧ WP (MX1_isSo g) (kx (fun v w' => WP (MX1_cardsThatAre g) Q (29, [l0, l1, l2, l3, l4], v.toList ++ st, w', k + 0, n + 0)) (fun E w' => Q (.inr E) w')) (0, [some .null, some (.int z1)], [], w, 0, 0)) := csS (M := (MX1_cardsThatAre g)) (mc := (fun _ _ => 0)) (ms := (fun _ _ => 0)) (As := [.null, .int z1]) (rest := st) (MX1_isSo g) rfl rfl dX1_cardsThatAre_26 (Nat.ne_of_beq_eq_false rfl) (by exact fun h => nomatch (show (none : Option Nat) = some 12 from h)) (by exact fun h => nomatch (show (none : Option Nat) = some 13 from h)) (by exact fun h => nomatch (show (none : Option Nat) = some 14 from h)) rfl rfl (by decide) (Nat.le_of_ble_eq_true rfl) (Nat.le_of_ble_eq_true rfl) rfl
theorem eX1_cardsThatAre_29 : WP (MX1_cardsThatAre g) Q (29, [l0, l1, l2, l3, l4], .int a :: st, w, k, n) = if a = 0 then WP (MX1_cardsThatAre g) Q (38, [l0, l1, l2, l3, l4], st, w, k, n) else WP (MX1_cardsThatAre g) Q (32, [l0, l1, l2, l3, l4], st, w, k, n) := ifc_e (a = 0) rfl dX1_cardsThatAre_29 rfl (by decide)
theorem eX1_cardsThatAre_32 : WP (MX1_cardsThatAre g) Q (32, [l0, l1, some (.int a), l3, l4], st, w, k, n) = WP (MX1_cardsThatAre g) Q (33, [l0, l1, some (.int a), l3, l4], .int a :: st, w, k, n) := Eq.trans (WP_at (M := (MX1_cardsThatAre g)) rfl dX1_cardsThatAre_32 (Or.inr rfl)) rfl
theorem eX1_cardsThatAre_33 : WP (MX1_cardsThatAre g) Q (33, [l0, l1, l2, l3, l4], st, w, k, n) = WP (MX1_cardsThatAre g) Q (34, [l0, l1, l2, l3, l4], .int 1 :: st, w, k, n) := iconst_e rfl dX1_cardsThatAre_33 (by decide)
theorem eX1_cardsThatAre_34 : WP (MX1_cardsThatAre g) Q (34, [l0, l1, l2, some (.int a), l4], st, w, k, n) = WP (MX1_cardsThatAre g) Q (35, [l0, l1, l2, some (.int a), l4], .int a :: st, w, k, n) := Eq.trans (WP_at (M := (MX1_cardsThatAre g)) rfl dX1_cardsThatAre_34 (Or.inr rfl)) rfl
theorem eX1_cardsThatAre_35 : WP (MX1_cardsThatAre g) Q (35, [l0, l1, l2, l3, l4], .int b :: .int a :: st, w, k, n) = WP (MX1_cardsThatAre g) Q (36, [l0, l1, l2, l3, l4], .int (a <<< (b &&& 31)) :: st, w, k, n) := Eq.trans (WP_at (M := (MX1_cardsThatAre g)) rfl dX1_cardsThatAre_35 (Or.inr rfl)) rfl
theorem eX1_cardsThatAre_36 : WP (MX1_cardsThatAre g) Q (36, [l0, l1, l2, l3, l4], .int b :: .int a :: st, w, k, n) = WP (MX1_cardsThatAre g) Q (37, [l0, l1, l2, l3, l4], .int (a + b) :: st, w, k, n) := Eq.trans (WP_at (M := (MX1_cardsThatAre g)) rfl dX1_cardsThatAre_36 (Or.inr rfl)) rfl
theorem eX1_cardsThatAre_37 : WP (MX1_cardsThatAre g) Q (37, [l0, l1, l2, l3, l4], .int a :: st, w, k, n) = WP (MX1_cardsThatAre g) Q (38, [l0, nl l1, some (.int a), l3, l4], st, w, k, n) := by rw [WP_at (M := (MX1_cardsThatAre g)) rfl dX1_cardsThatAre_37 (Or.inr rfl)]; exact and_t (Nat.le_of_ble_eq_true rfl)
theorem eX1_cardsThatAre_38 : WP (MX1_cardsThatAre g) Q (38, [l0, l1, l2, some (.int a), l4], st, w, k, n) = WP (MX1_cardsThatAre g) Q (41, [l0, l1, nl l2, some (.int (a + 1)), l4], st, w, k, n) := Eq.trans (iinc_e (M := (MX1_cardsThatAre g)) (L := [l0, l1, l2, some (.int a), l4]) (d := 1) rfl dX1_cardsThatAre_38 (by decide) rfl) rfl
theorem eX1_cardsThatAre_41 : WP (MX1_cardsThatAre g) Q (41, [l0, l1, l2, l3, l4], st, w, k, n) = WP (MX1_cardsThatAre g) Q (4, [l0, l1, l2, l3, l4], st, w, k, n) := goto_e rfl dX1_cardsThatAre_41 (by decide)
theorem eX1_cardsThatAre_44 : WP (MX1_cardsThatAre g) Q (44, [l0, l1, some (.int a), l3, l4], st, w, k, n) = WP (MX1_cardsThatAre g) Q (45, [l0, l1, some (.int a), l3, l4], .int a :: st, w, k, n) := Eq.trans (WP_at (M := (MX1_cardsThatAre g)) rfl dX1_cardsThatAre_44 (Or.inr rfl)) rfl
theorem eX1_cardsThatAre_45 : WP (MX1_cardsThatAre g) Q (45, [l0, l1, l2, l3, l4], [.int a], w, k, n) = (k ≤ 0 ∧ n ≤ 0 ∧ Q (.inl (some (.int a))) w) := iretI_e rfl dX1_cardsThatAre_45 rfl
end
theorem wk_322 : (.code yX1_isSo cX1_isSo 2 (some .boolean) : Jvm.Cond) ∈ WS := WS_t2 24 rfl rfl
theorem wk_320 : (.methodLink RX1 281 yX1_isSo : Jvm.Cond) ∈ WS := WS_t2 22 rfl rfl
theorem wk_321 : (.static yX1_isSo : Jvm.Cond) ∈ WS := WS_t2 23 rfl rfl
theorem vMX1_cardsThatAre {l : Launch} (hl : l.stackTraces = false) (G : GT) : vM l G (MX1_cardsThatAre (gg G)) := ⟨fun i c j h => lookup_all (l := (MX1_cardsThatAre (gg G)).fld) (P := fun i e => vFld RX1 i e.1 e.2) (all_c (vF_RX1_15) (all_n)) i (c, j) h, fun i c fs h => lookup_all (l := (MX1_cardsThatAre (gg G)).new) (P := fun i e => vNew RX1 i e.1 e.2) (all_n) i (c, fs) h, lookup_all (l := (MX1_cardsThatAre (gg G)).anew) (P := fun i e => vANew RX1 i e) (all_n), lookup_all (l := (MX1_cardsThatAre (gg G)).lng) (P := fun i e => Jvm.Cond.constantLong RX1 i e ∈ WS) (all_n), lookup_all (l := (MX1_cardsThatAre (gg G)).thr) (P := fun i e => vThr RX1 cX1_cardsThatAre i e) (all_n), fun h => absurd rfl h, lookup_all (l := (MX1_cardsThatAre (gg G)).cal) (P := fun i e => vCal l G RX1 i e) (all_c (⟨cX1_isSo, 2, some .boolean, fun y hy => by subst hy; exact ⟨by decide, ⟨_, wk_322, okX1_isSo hl, Or.inl ⟨Nat.ne_of_beq_eq_false rfl, rfl⟩⟩, wk_59, ⟨(by decide : yX1_isSo.cls ≠ "java/lang/invoke/MethodHandle"), (by decide : yX1_isSo.cls ≠ "java/lang/invoke/VarHandle")⟩, ⟨(by decide +kernel : (parseMethodDescriptor yX1_isSo.desc).map (fun d => d.parameters.length) = some 2), wk_320, wk_321⟩⟩⟩) (all_n)), lookup_all (l := (MX1_cardsThatAre (gg G)).stt) (P := fun i e => vStt G RX1 i e) (all_n), lookup_all (l := (MX1_cardsThatAre (gg G)).cst) (P := fun i e => vCst RX1 i e) (all_n), fun h => absurd rfl h, rfl, all_n⟩
theorem okX1_cardsThatAre {l : Launch} (hl : l.stackTraces = false) {G : GT} : ∀ (args : List Value) (w : Hw) (S : Ot → Hw → Prop), spOf (MX1_cardsThatAre (gg G)) args w S → CX l G yX1_cardsThatAre (.code yX1_cardsThatAre cX1_cardsThatAre 5 (some .int)) 3 0 0 args w S := CX_sp (M := MX1_cardsThatAre (gg G)) (y := yX1_cardsThatAre) hl (by decide) rfl (vMX1_cardsThatAre hl G) (fun h => by cases h) rfl
/-! Rangecard.cardsLike(LRangecard$Range;)I -/
theorem dX1_cardsLike_0 : decode cX1_cardsLike 0 = .ok (.iconst 0, 1) := by decide +kernel
theorem dX1_cardsLike_1 : decode cX1_cardsLike 1 = .ok (.istore_n 2, 1) := by decide +kernel
theorem dX1_cardsLike_2 : decode cX1_cardsLike 2 = .ok (.iconst 0, 1) := by decide +kernel
theorem dX1_cardsLike_3 : decode cX1_cardsLike 3 = .ok (.istore_n 3, 1) := by decide +kernel
theorem dX1_cardsLike_4 : decode cX1_cardsLike 4 = .ok (.iload_n 3, 1) := by decide +kernel
theorem dX1_cardsLike_5 : decode cX1_cardsLike 5 = .ok (.bipush 6, 2) := by decide +kernel
theorem dX1_cardsLike_7 : decode cX1_cardsLike 7 = .ok (.if_icmp .ge 50, 3) := by decide +kernel
theorem dX1_cardsLike_10 : decode cX1_cardsLike 10 = .ok (.aload_n 0, 1) := by decide +kernel
theorem dX1_cardsLike_11 : decode cX1_cardsLike 11 = .ok (.getfield 15, 3) := by decide +kernel
theorem dX1_cardsLike_14 : decode cX1_cardsLike 14 = .ok (.iload_n 3, 1) := by decide +kernel
theorem dX1_cardsLike_15 : decode cX1_cardsLike 15 = .ok (.aaload, 1) := by decide +kernel
theorem dX1_cardsLike_16 : decode cX1_cardsLike 16 = .ok (.astore 4, 2) := by decide +kernel
theorem dX1_cardsLike_18 : decode cX1_cardsLike 18 = .ok (.aload 4, 2) := by decide +kernel
theorem dX1_cardsLike_20 : decode cX1_cardsLike 20 = .ok (.ifnull 31, 3) := by decide +kernel
theorem dX1_cardsLike_23 : decode cX1_cardsLike 23 = .ok (.aload_n 1, 1) := by decide +kernel
theorem dX1_cardsLike_24 : decode cX1_cardsLike 24 = .ok (.aload 4, 2) := by decide +kernel
theorem dX1_cardsLike_26 : decode cX1_cardsLike 26 = .ok (.invokevirtual 110, 3) := by decide +kernel
theorem dX1_cardsLike_29 : decode cX1_cardsLike 29 = .ok (.ifCond .eq 22, 3) := by decide +kernel
theorem dX1_cardsLike_32 : decode cX1_cardsLike 32 = .ok (.aload_n 1, 1) := by decide +kernel
theorem dX1_cardsLike_33 : decode cX1_cardsLike 33 = .ok (.invokevirtual 285, 3) := by decide +kernel
theorem dX1_cardsLike_36 : decode cX1_cardsLike 36 = .ok (.aload 4, 2) := by decide +kernel
theorem dX1_cardsLike_38 : decode cX1_cardsLike 38 = .ok (.invokevirtual 285, 3) := by decide +kernel
theorem dX1_cardsLike_41 : decode cX1_cardsLike 41 = .ok (.lcmp, 1) := by decide +kernel
theorem dX1_cardsLike_42 : decode cX1_cardsLike 42 = .ok (.ifCond .ne 9, 3) := by decide +kernel
theorem dX1_cardsLike_45 : decode cX1_cardsLike 45 = .ok (.iload_n 2, 1) := by decide +kernel
theorem dX1_cardsLike_46 : decode cX1_cardsLike 46 = .ok (.iconst 1, 1) := by decide +kernel
theorem dX1_cardsLike_47 : decode cX1_cardsLike 47 = .ok (.iload_n 3, 1) := by decide +kernel
theorem dX1_cardsLike_48 : decode cX1_cardsLike 48 = .ok (.ishl, 1) := by decide +kernel
theorem dX1_cardsLike_49 : decode cX1_cardsLike 49 = .ok (.iadd, 1) := by decide +kernel
theorem dX1_cardsLike_50 : decode cX1_cardsLike 50 = .ok (.istore_n 2, 1) := by decide +kernel
theorem dX1_cardsLike_51 : decode cX1_cardsLike 51 = .ok (.iinc 3 1, 3) := by decide +kernel
theorem dX1_cardsLike_54 : decode cX1_cardsLike 54 = .ok (.goto (-50), 3) := by decide +kernel
theorem dX1_cardsLike_57 : decode cX1_cardsLike 57 = .ok (.iload_n 2, 1) := by decide +kernel
theorem dX1_cardsLike_58 : decode cX1_cardsLike 58 = .ok (.ireturn, 1) := by decide +kernel
def MX1_cardsLike (g : RO) : MT := ((RX1, cX1_cardsLike, 5, 2, 0, 0, false, some .int), [(15, 5, 1)], [], [], [], [], 0, [(110, 3, 2, 4, 1, (fun _ _ => 0), (fun _ _ => 0), yX0_matches, spOf (MX0_matches g)), (285, 3, 1, 4, 1, (fun _ _ => 0), (fun _ _ => 0), yX0_hash, spOf (MX0_hash g))], [], [], 0, [], [], g)
section
variable {g : RO} {Q : Ot → Hw → Prop} {st : List Value} {w : Hw} {k n p q : Nat} {a b : Int32} {x y : Int64} {u v : Value} {l0 l1 l2 l3 l4 : Option Value}
theorem eX1_cardsLike_0 : WP (MX1_cardsLike g) Q (0, [l0, l1, l2, l3, l4], st, w, k, n) = WP (MX1_cardsLike g) Q (1, [l0, l1, l2, l3, l4], .int 0 :: st, w, k, n) := iconst_e rfl dX1_cardsLike_0 (by decide)
theorem eX1_cardsLike_1 : WP (MX1_cardsLike g) Q (1, [l0, l1, l2, l3, l4], .int a :: st, w, k, n) = WP (MX1_cardsLike g) Q (2, [l0, nl l1, some (.int a), l3, l4], st, w, k, n) := by rw [WP_at (M := (MX1_cardsLike g)) rfl dX1_cardsLike_1 (Or.inr rfl)]; exact and_t (Nat.le_of_ble_eq_true rfl)
theorem eX1_cardsLike_2 : WP (MX1_cardsLike g) Q (2, [l0, l1, l2, l3, l4], st, w, k, n) = WP (MX1_cardsLike g) Q (3, [l0, l1, l2, l3, l4], .int 0 :: st, w, k, n) := iconst_e rfl dX1_cardsLike_2 (by decide)
theorem eX1_cardsLike_3 : WP (MX1_cardsLike g) Q (3, [l0, l1, l2, l3, l4], .int a :: st, w, k, n) = WP (MX1_cardsLike g) Q (4, [l0, l1, nl l2, some (.int a), l4], st, w, k, n) := by rw [WP_at (M := (MX1_cardsLike g)) rfl dX1_cardsLike_3 (Or.inr rfl)]; exact and_t (Nat.le_of_ble_eq_true rfl)
theorem eX1_cardsLike_4 : WP (MX1_cardsLike g) Q (4, [l0, l1, l2, some (.int a), l4], st, w, k, n) = WP (MX1_cardsLike g) Q (5, [l0, l1, l2, some (.int a), l4], .int a :: st, w, k, n) := Eq.trans (WP_at (M := (MX1_cardsLike g)) rfl dX1_cardsLike_4 (Or.inr rfl)) rfl
theorem eX1_cardsLike_5 : WP (MX1_cardsLike g) Q (5, [l0, l1, l2, l3, l4], st, w, k, n) = WP (MX1_cardsLike g) Q (7, [l0, l1, l2, l3, l4], .int 6 :: st, w, k, n) := bipush_e rfl dX1_cardsLike_5 (by decide)
theorem eX1_cardsLike_7 : WP (MX1_cardsLike g) Q (7, [l0, l1, l2, l3, l4], .int b :: .int a :: st, w, k, n) = if b ≤ a then WP (MX1_cardsLike g) Q (57, [l0, l1, l2, l3, l4], st, w, k, n) else WP (MX1_cardsLike g) Q (10, [l0, l1, l2, l3, l4], st, w, k, n) := icm_e (b ≤ a) rfl dX1_cardsLike_7 rfl (by decide)
theorem eX1_cardsLike_10 : WP (MX1_cardsLike g) Q (10, [some (.ref p), l1, l2, l3, l4], st, w, k, n) = WP (MX1_cardsLike g) Q (11, [some (.ref p), l1, l2, l3, l4], .ref p :: st, w, k, n) := Eq.trans (WP_at (M := (MX1_cardsLike g)) rfl dX1_cardsLike_10 (Or.inr rfl)) rfl
theorem eX1_cardsLike_10N : WP (MX1_cardsLike g) Q (10, [some .null, l1, l2, l3, l4], st, w, k, n) = WP (MX1_cardsLike g) Q (11, [some .null, l1, l2, l3, l4], .null :: st, w, k, n) := Eq.trans (WP_at (M := (MX1_cardsLike g)) rfl dX1_cardsLike_10 (Or.inr rfl)) rfl
theorem eX1_cardsLike_11 : WP (MX1_cardsLike g) Q (11, [l0, l1, l2, l3, l4], .ref p :: st, w, k, n) = go (rd g w p) 5 fun fs => ∃ v, fs[1]? = some v ∧ WP (MX1_cardsLike g) Q (14, [l0, l1, l2, l3, l4], v :: st, w, k, n) := get_e rfl dX1_cardsLike_11 rfl
theorem eX1_cardsLike_14 : WP (MX1_cardsLike g) Q (14, [l0, l1, l2, some (.int a), l4], st, w, k, n) = WP (MX1_cardsLike g) Q (15, [l0, l1, l2, some (.int a), l4], .int a :: st, w, k, n) := Eq.trans (WP_at (M := (MX1_cardsLike g)) rfl dX1_cardsLike_14 (Or.inr rfl)) rfl
theorem eX1_cardsLike_15 : WP (MX1_cardsLike g) Q (15, [l0, l1, l2, l3, l4], .int a :: .ref p :: st, w, k, n) = gq (rd g w p) fun t N f => (t = 4 ∨ t = 5) ∧ vp_in a N ∧ WP (MX1_cardsLike g) Q (16, [l0, l1, l2, l3, l4], va_rf (f a.toNatClampNeg) :: st, w, k, n) := Eq.trans (WP_at (M := (MX1_cardsLike g)) rfl dX1_cardsLike_15 (Or.inr rfl)) rfl
theorem eX1_cardsLike_16 : WP (MX1_cardsLike g) Q (16, [l0, l1, l2, l3, l4], .ref p :: st, w, k, n) = WP (MX1_cardsLike g) Q (18, [l0, l1, l2, nl l3, some (.ref p)], st, w, k, n) := by rw [WP_at (M := (MX1_cardsLike g)) rfl dX1_cardsLike_16 (Or.inr rfl)]; exact and_t (Nat.le_of_ble_eq_true rfl)
theorem eX1_cardsLike_16N : WP (MX1_cardsLike g) Q (16, [l0, l1, l2, l3, l4], .null :: st, w, k, n) = WP (MX1_cardsLike g) Q (18, [l0, l1, l2, nl l3, some (.null)], st, w, k, n) := by rw [WP_at (M := (MX1_cardsLike g)) rfl dX1_cardsLike_16 (Or.inr rfl)]; exact and_t (Nat.le_of_ble_eq_true rfl)
theorem eX1_cardsLike_18 : WP (MX1_cardsLike g) Q (18, [l0, l1, l2, l3, some (.ref p)], st, w, k, n) = WP (MX1_cardsLike g) Q (20, [l0, l1, l2, l3, some (.ref p)], .ref p :: st, w, k, n) := Eq.trans (WP_at (M := (MX1_cardsLike g)) rfl dX1_cardsLike_18 (Or.inr rfl)) rfl
theorem eX1_cardsLike_18N : WP (MX1_cardsLike g) Q (18, [l0, l1, l2, l3, some .null], st, w, k, n) = WP (MX1_cardsLike g) Q (20, [l0, l1, l2, l3, some .null], .null :: st, w, k, n) := Eq.trans (WP_at (M := (MX1_cardsLike g)) rfl dX1_cardsLike_18 (Or.inr rfl)) rfl
theorem eX1_cardsLike_20R : WP (MX1_cardsLike g) Q (20, [l0, l1, l2, l3, l4], .ref p :: st, w, k, n) = WP (MX1_cardsLike g) Q (23, [l0, l1, l2, l3, l4], st, w, k, n) := ifnullR_e rfl dX1_cardsLike_20 (tgt := 51) (by decide)
theorem eX1_cardsLike_20N : WP (MX1_cardsLike g) Q (20, [l0, l1, l2, l3, l4], .null :: st, w, k, n) = WP (MX1_cardsLike g) Q (51, [l0, l1, l2, l3, l4], st, w, k, n) := ifnullN_e rfl dX1_cardsLike_20 (tgt := 51) (by decide)
theorem eX1_cardsLike_23 : WP (MX1_cardsLike g) Q (23, [l0, some (.ref p), l2, l3, l4], st, w, k, n) = WP (MX1_cardsLike g) Q (24, [l0, some (.ref p), l2, l3, l4], .ref p :: st, w, k, n) := Eq.trans (WP_at (M := (MX1_cardsLike g)) rfl dX1_cardsLike_23 (Or.inr rfl)) rfl
theorem eX1_cardsLike_23N : WP (MX1_cardsLike g) Q (23, [l0, some .null, l2, l3, l4], st, w, k, n) = WP (MX1_cardsLike g) Q (24, [l0, some .null, l2, l3, l4], .null :: st, w, k, n) := Eq.trans (WP_at (M := (MX1_cardsLike g)) rfl dX1_cardsLike_23 (Or.inr rfl)) rfl
theorem eX1_cardsLike_24 : WP (MX1_cardsLike g) Q (24, [l0, l1, l2, l3, some (.ref p)], st, w, k, n) = WP (MX1_cardsLike g) Q (26, [l0, l1, l2, l3, some (.ref p)], .ref p :: st, w, k, n) := Eq.trans (WP_at (M := (MX1_cardsLike g)) rfl dX1_cardsLike_24 (Or.inr rfl)) rfl
theorem eX1_cardsLike_24N : WP (MX1_cardsLike g) Q (24, [l0, l1, l2, l3, some .null], st, w, k, n) = WP (MX1_cardsLike g) Q (26, [l0, l1, l2, l3, some .null], .null :: st, w, k, n) := Eq.trans (WP_at (M := (MX1_cardsLike g)) rfl dX1_cardsLike_24 (Or.inr rfl)) rfl
theorem eX1_cardsLike_26R {z0 : Nat} : WP (MX1_cardsLike g) Q (26, [l0, l1, l2, l3, l4], .ref z0 :: .ref p :: st, w, k, n) = (go (rd g w p) 4 (fun _ => True) ∧ wt st ≤ 8 ∧ k + 0 ≤ 0 ∧ n + 0 ≤ 0 ∧ WP (MX0_matches g) (kx (fun v w' => WP (MX1_cardsLike g) Q (29, [l0, l1, l2, l3, l4], v.toList ++ st, w', k + 0, n + 0)) (fun E w' => Q (.inr E) w')) (0, [some (.ref p), some (.ref z0)], [], w, 0, 0)) := csV (M := (MX1_cardsLike g)) (mc := (fun _ _ => 0)) (ms := (fun _ _ => 0)) (As := [.ref z0]) (rest := st) (MX0_matches g) rfl rfl dX1_cardsLike_26 (by exact fun h => nomatch (show (none : Option Nat) = some 11 from h)) (by exact fun h => nomatch (show (none : Option Nat) = some 15 from h)) rfl rfl (by decide) (Nat.le_of_ble_eq_true rfl) (Nat.le_of_ble_eq_true rfl) rfl
theorem eX1_cardsLike_26N  : WP (MX1_cardsLike g) Q (26, [l0, l1, l2, l3, l4], .null :: .ref p :: st, w, k, n) = (go (rd g w p) 4 (fun _ => True) ∧ wt st ≤ 8 ∧ k + 0 ≤ 0 ∧ n + 0 ≤ 0 ∧ WP (MX0_matches g) (kx (fun v w' => WP (MX1_cardsLike g) Q (29, [l0, l1, l2, l3, l4], v.toList ++ st, w', k + 0, n + 0)) (fun E w' => Q (.inr E) w')) (0, [some (.ref p), some .null], [], w, 0, 0)) := csV (M := (MX1_cardsLike g)) (mc := (fun _ _ => 0)) (ms := (fun _ _ => 0)) (As := [.null]) (rest := st) (MX0_matches g) rfl rfl dX1_cardsLike_26 (by exact fun h => nomatch (show (none : Option Nat) = some 11 from h)) (by exact fun h => nomatch (show (none : Option Nat) = some 15 from h)) rfl rfl (by decide) (Nat.le_of_ble_eq_true rfl) (Nat.le_of_ble_eq_true rfl) rfl
theorem eX1_cardsLike_29 : WP (MX1_cardsLike g) Q (29, [l0, l1, l2, l3, l4], .int a :: st, w, k, n) = if a = 0 then WP (MX1_cardsLike g) Q (51, [l0, l1, l2, l3, l4], st, w, k, n) else WP (MX1_cardsLike g) Q (32, [l0, l1, l2, l3, l4], st, w, k, n) := ifc_e (a = 0) rfl dX1_cardsLike_29 rfl (by decide)
theorem eX1_cardsLike_32 : WP (MX1_cardsLike g) Q (32, [l0, some (.ref p), l2, l3, l4], st, w, k, n) = WP (MX1_cardsLike g) Q (33, [l0, some (.ref p), l2, l3, l4], .ref p :: st, w, k, n) := Eq.trans (WP_at (M := (MX1_cardsLike g)) rfl dX1_cardsLike_32 (Or.inr rfl)) rfl
theorem eX1_cardsLike_32N : WP (MX1_cardsLike g) Q (32, [l0, some .null, l2, l3, l4], st, w, k, n) = WP (MX1_cardsLike g) Q (33, [l0, some .null, l2, l3, l4], .null :: st, w, k, n) := Eq.trans (WP_at (M := (MX1_cardsLike g)) rfl dX1_cardsLike_32 (Or.inr rfl)) rfl
theorem eX1_cardsLike_33  : WP (MX1_cardsLike g) Q (33, [l0, l1, l2, l3, l4], .ref p :: st, w, k, n) = (go (rd g w p) 4 (fun _ => True) ∧ wt st ≤ 8 ∧ k + 0 ≤ 0 ∧ n + 0 ≤ 0 ∧ WP (MX0_hash g) (kx (fun v w' => WP (MX1_cardsLike g) Q (36, [l0, l1, l2, l3, l4], v.toList ++ st, w', k + 0, n + 0)) (fun E w' => Q (.inr E) w')) (0, [some (.ref p), none, none], [], w, 0, 0)) := csV (M := (MX1_cardsLike g)) (mc := (fun _ _ => 0)) (ms := (fun _ _ => 0)) (As := []) (rest := st) (MX0_hash g) rfl rfl dX1_cardsLike_33 (by exact fun h => nomatch (show (none : Option Nat) = some 11 from h)) (by exact fun h => nomatch (show (none : Option Nat) = some 15 from h)) rfl rfl (by decide) (Nat.le_of_ble_eq_true rfl) (Nat.le_of_ble_eq_true rfl) rfl
theorem eX1_cardsLike_36 : WP (MX1_cardsLike g) Q (36, [l0, l1, l2, l3, some (.ref p)], st, w, k, n) = WP (MX1_cardsLike g) Q (38, [l0, l1, l2, l3, some (.ref p)], .ref p :: st, w, k, n) := Eq.trans (WP_at (M := (MX1_cardsLike g)) rfl dX1_cardsLike_36 (Or.inr rfl)) rfl
theorem eX1_cardsLike_36N : WP (MX1_cardsLike g) Q (36, [l0, l1, l2, l3, some .null], st, w, k, n) = WP (MX1_cardsLike g) Q (38, [l0, l1, l2, l3, some .null], .null :: st, w, k, n) := Eq.trans (WP_at (M := (MX1_cardsLike g)) rfl dX1_cardsLike_36 (Or.inr rfl)) rfl
theorem eX1_cardsLike_38  : WP (MX1_cardsLike g) Q (38, [l0, l1, l2, l3, l4], .ref p :: st, w, k, n) = (go (rd g w p) 4 (fun _ => True) ∧ wt st ≤ 8 ∧ k + 0 ≤ 0 ∧ n + 0 ≤ 0 ∧ WP (MX0_hash g) (kx (fun v w' => WP (MX1_cardsLike g) Q (41, [l0, l1, l2, l3, l4], v.toList ++ st, w', k + 0, n + 0)) (fun E w' => Q (.inr E) w')) (0, [some (.ref p), none, none], [], w, 0, 0)) := csV (M := (MX1_cardsLike g)) (mc := (fun _ _ => 0)) (ms := (fun _ _ => 0)) (As := []) (rest := st) (MX0_hash g) rfl rfl dX1_cardsLike_38 (by exact fun h => nomatch (show (none : Option Nat) = some 11 from h)) (by exact fun h => nomatch (show (none : Option Nat) = some 15 from h)) rfl rfl (by decide) (Nat.le_of_ble_eq_true rfl) (Nat.le_of_ble_eq_true rfl) rfl
theorem eX1_cardsLike_41 : WP (MX1_cardsLike g) Q (41, [l0, l1, l2, l3, l4], .long y :: .long x :: st, w, k, n) = WP (MX1_cardsLike g) Q (42, [l0, l1, l2, l3, l4], .int (lg_cmp x y) :: st, w, k, n) := Eq.trans (WP_at (M := (MX1_cardsLike g)) rfl dX1_cardsLike_41 (Or.inr rfl)) rfl
theorem eX1_cardsLike_42 : WP (MX1_cardsLike g) Q (42, [l0, l1, l2, l3, l4], .int a :: st, w, k, n) = if a = 0 then WP (MX1_cardsLike g) Q (45, [l0, l1, l2, l3, l4], st, w, k, n) else WP (MX1_cardsLike g) Q (51, [l0, l1, l2, l3, l4], st, w, k, n) := ifcn_e (a = 0) rfl dX1_cardsLike_42 rfl (by decide)
theorem eX1_cardsLike_45 : WP (MX1_cardsLike g) Q (45, [l0, l1, some (.int a), l3, l4], st, w, k, n) = WP (MX1_cardsLike g) Q (46, [l0, l1, some (.int a), l3, l4], .int a :: st, w, k, n) := Eq.trans (WP_at (M := (MX1_cardsLike g)) rfl dX1_cardsLike_45 (Or.inr rfl)) rfl
theorem eX1_cardsLike_46 : WP (MX1_cardsLike g) Q (46, [l0, l1, l2, l3, l4], st, w, k, n) = WP (MX1_cardsLike g) Q (47, [l0, l1, l2, l3, l4], .int 1 :: st, w, k, n) := iconst_e rfl dX1_cardsLike_46 (by decide)
theorem eX1_cardsLike_47 : WP (MX1_cardsLike g) Q (47, [l0, l1, l2, some (.int a), l4], st, w, k, n) = WP (MX1_cardsLike g) Q (48, [l0, l1, l2, some (.int a), l4], .int a :: st, w, k, n) := Eq.trans (WP_at (M := (MX1_cardsLike g)) rfl dX1_cardsLike_47 (Or.inr rfl)) rfl
theorem eX1_cardsLike_48 : WP (MX1_cardsLike g) Q (48, [l0, l1, l2, l3, l4], .int b :: .int a :: st, w, k, n) = WP (MX1_cardsLike g) Q (49, [l0, l1, l2, l3, l4], .int (a <<< (b &&& 31)) :: st, w, k, n) := Eq.trans (WP_at (M := (MX1_cardsLike g)) rfl dX1_cardsLike_48 (Or.inr rfl)) rfl
theorem eX1_cardsLike_49 : WP (MX1_cardsLike g) Q (49, [l0, l1, l2, l3, l4], .int b :: .int a :: st, w, k, n) = WP (MX1_cardsLike g) Q (50, [l0, l1, l2, l3, l4], .int (a + b) :: st, w, k, n) := Eq.trans (WP_at (M := (MX1_cardsLike g)) rfl dX1_cardsLike_49 (Or.inr rfl)) rfl
theorem eX1_cardsLike_50 : WP (MX1_cardsLike g) Q (50, [l0, l1, l2, l3, l4], .int a :: st, w, k, n) = WP (MX1_cardsLike g) Q (51, [l0, nl l1, some (.int a), l3, l4], st, w, k, n) := by rw [WP_at (M := (MX1_cardsLike g)) rfl dX1_cardsLike_50 (Or.inr rfl)]; exact and_t (Nat.le_of_ble_eq_true rfl)
theorem eX1_cardsLike_51 : WP (MX1_cardsLike g) Q (51, [l0, l1, l2, some (.int a), l4], st, w, k, n) = WP (MX1_cardsLike g) Q (54, [l0, l1, nl l2, some (.int (a + 1)), l4], st, w, k, n) := Eq.trans (iinc_e (M := (MX1_cardsLike g)) (L := [l0, l1, l2, some (.int a), l4]) (d := 1) rfl dX1_cardsLike_51 (by decide) rfl) rfl
theorem eX1_cardsLike_54 : WP (MX1_cardsLike g) Q (54, [l0, l1, l2, l3, l4], st, w, k, n) = WP (MX1_cardsLike g) Q (4, [l0, l1, l2, l3, l4], st, w, k, n) := goto_e rfl dX1_cardsLike_54 (by decide)
theorem eX1_cardsLike_57 : WP (MX1_cardsLike g) Q (57, [l0, l1, some (.int a), l3, l4], st, w, k, n) = WP (MX1_cardsLike g) Q (58, [l0, l1, some (.int a), l3, l4], .int a :: st, w, k, n) := Eq.trans (WP_at (M := (MX1_cardsLike g)) rfl dX1_cardsLike_57 (Or.inr rfl)) rfl
theorem eX1_cardsLike_58 : WP (MX1_cardsLike g) Q (58, [l0, l1, l2, l3, l4], [.int a], w, k, n) = (k ≤ 0 ∧ n ≤ 0 ∧ Q (.inl (some (.int a))) w) := iretI_e rfl dX1_cardsLike_58 rfl
end
theorem wk_179 : (.code yX0_matches cX0_matches 2 (some .boolean) : Jvm.Cond) ∈ WS := WS_t1 121 rfl rfl
theorem wk_178 : (.instanceMethod yX0_matches : Jvm.Cond) ∈ WS := WS_t1 120 rfl rfl
theorem wk_1 : (.selects RX0 yX0_matches yX0_matches : Jvm.Cond) ∈ WS := WS_at 1 (by decide +kernel) rfl
theorem wk_183 : (.code yX0_hash cX0_hash 3 (some .long) : Jvm.Cond) ∈ WS := WS_t1 125 rfl rfl
theorem wk_182 : (.instanceMethod yX0_hash : Jvm.Cond) ∈ WS := WS_t1 124 rfl rfl
theorem wk_2 : (.selects RX0 yX0_hash yX0_hash : Jvm.Cond) ∈ WS := WS_at 2 (by decide +kernel) rfl
theorem vMX1_cardsLike {l : Launch} (hl : l.stackTraces = false) (G : GT) : vM l G (MX1_cardsLike (gg G)) := ⟨fun i c j h => lookup_all (l := (MX1_cardsLike (gg G)).fld) (P := fun i e => vFld RX1 i e.1 e.2) (all_c (vF_RX1_15) (all_n)) i (c, j) h, fun i c fs h => lookup_all (l := (MX1_cardsLike (gg G)).new) (P := fun i e => vNew RX1 i e.1 e.2) (all_n) i (c, fs) h, lookup_all (l := (MX1_cardsLike (gg G)).anew) (P := fun i e => vANew RX1 i e) (all_n), lookup_all (l := (MX1_cardsLike (gg G)).lng) (P := fun i e => Jvm.Cond.constantLong RX1 i e ∈ WS) (all_n), lookup_all (l := (MX1_cardsLike (gg G)).thr) (P := fun i e => vThr RX1 cX1_cardsLike i e) (all_n), fun h => absurd rfl h, lookup_all (l := (MX1_cardsLike (gg G)).cal) (P := fun i e => vCal l G RX1 i e) (all_c (⟨cX0_matches, 2, some .boolean, fun y hy => by subst hy; exact ⟨by decide, ⟨_, wk_179, okX0_matches hl, Or.inl ⟨Nat.ne_of_beq_eq_false rfl, rfl⟩⟩, wk_84, ⟨(by decide : yX0_matches.cls ≠ "java/lang/invoke/MethodHandle"), (by decide : yX0_matches.cls ≠ "java/lang/invoke/VarHandle")⟩, ⟨(by decide +kernel : (parseMethodDescriptor yX0_matches.desc).map (fun d => d.parameters.length + 1) = some 2), ⟨"Rangecard", List.mem_of_getElem? (i := 176) (by decide +kernel : lw_tbl[176]? = some (.methodLinkNest RX1 110 yX0_matches "Rangecard"))⟩, wk_178, wk_1, (RX0, TX0, 4), rfl, rfl⟩⟩⟩) (all_c (⟨cX0_hash, 3, some .long, fun y hy => by subst hy; exact ⟨by decide, ⟨_, wk_183, okX0_hash hl, Or.inl ⟨Nat.ne_of_beq_eq_false rfl, rfl⟩⟩, wk_84, ⟨(by decide : yX0_hash.cls ≠ "java/lang/invoke/MethodHandle"), (by decide : yX0_hash.cls ≠ "java/lang/invoke/VarHandle")⟩, ⟨(by decide +kernel : (parseMethodDescriptor yX0_hash.desc).map (fun d => d.parameters.length + 1) = some 1), ⟨"Rangecard", List.mem_of_getElem? (i := 180) (by decide +kernel : lw_tbl[180]? = some (.methodLinkNest RX1 285 yX0_hash "Rangecard"))⟩, wk_182, wk_2, (RX0, TX0, 4), rfl, rfl⟩⟩⟩) (all_n))), lookup_all (l := (MX1_cardsLike (gg G)).stt) (P := fun i e => vStt G RX1 i e) (all_n), lookup_all (l := (MX1_cardsLike (gg G)).cst) (P := fun i e => vCst RX1 i e) (all_n), fun h => absurd rfl h, rfl, all_n⟩
theorem okX1_cardsLike {l : Launch} (hl : l.stackTraces = false) {G : GT} : ∀ (args : List Value) (w : Hw) (S : Ot → Hw → Prop), spOf (MX1_cardsLike (gg G)) args w S → CX l G yX1_cardsLike (.code yX1_cardsLike cX1_cardsLike 5 (some .int)) 2 0 0 args w S := CX_sp (M := MX1_cardsLike (gg G)) (y := yX1_cardsLike) hl (by decide) rfl (vMX1_cardsLike hl G) (fun h => by cases h) rfl
/-! Rangecard.cardsWithRange()I -/
theorem dX1_cardsWithRange_0 : decode cX1_cardsWithRange 0 = .ok (.iconst 0, 1) := by decide +kernel
theorem dX1_cardsWithRange_1 : decode cX1_cardsWithRange 1 = .ok (.istore_n 1, 1) := by decide +kernel
theorem dX1_cardsWithRange_2 : decode cX1_cardsWithRange 2 = .ok (.iconst 0, 1) := by decide +kernel
theorem dX1_cardsWithRange_3 : decode cX1_cardsWithRange 3 = .ok (.istore_n 2, 1) := by decide +kernel
theorem dX1_cardsWithRange_4 : decode cX1_cardsWithRange 4 = .ok (.iload_n 2, 1) := by decide +kernel
theorem dX1_cardsWithRange_5 : decode cX1_cardsWithRange 5 = .ok (.bipush 6, 2) := by decide +kernel
theorem dX1_cardsWithRange_7 : decode cX1_cardsWithRange 7 = .ok (.if_icmp .ge 29, 3) := by decide +kernel
theorem dX1_cardsWithRange_10 : decode cX1_cardsWithRange 10 = .ok (.iload_n 1, 1) := by decide +kernel
theorem dX1_cardsWithRange_11 : decode cX1_cardsWithRange 11 = .ok (.aload_n 0, 1) := by decide +kernel
theorem dX1_cardsWithRange_12 : decode cX1_cardsWithRange 12 = .ok (.getfield 15, 3) := by decide +kernel
theorem dX1_cardsWithRange_15 : decode cX1_cardsWithRange 15 = .ok (.iload_n 2, 1) := by decide +kernel
theorem dX1_cardsWithRange_16 : decode cX1_cardsWithRange 16 = .ok (.aaload, 1) := by decide +kernel
theorem dX1_cardsWithRange_17 : decode cX1_cardsWithRange 17 = .ok (.ifnull 7, 3) := by decide +kernel
theorem dX1_cardsWithRange_20 : decode cX1_cardsWithRange 20 = .ok (.iconst 1, 1) := by decide +kernel
theorem dX1_cardsWithRange_21 : decode cX1_cardsWithRange 21 = .ok (.goto 4, 3) := by decide +kernel
theorem dX1_cardsWithRange_24 : decode cX1_cardsWithRange 24 = .ok (.iconst 0, 1) := by decide +kernel
theorem dX1_cardsWithRange_25 : decode cX1_cardsWithRange 25 = .ok (.invokestatic 130, 3) := by decide +kernel
theorem dX1_cardsWithRange_28 : decode cX1_cardsWithRange 28 = .ok (.iadd, 1) := by decide +kernel
theorem dX1_cardsWithRange_29 : decode cX1_cardsWithRange 29 = .ok (.istore_n 1, 1) := by decide +kernel
theorem dX1_cardsWithRange_30 : decode cX1_cardsWithRange 30 = .ok (.iinc 2 1, 3) := by decide +kernel
theorem dX1_cardsWithRange_33 : decode cX1_cardsWithRange 33 = .ok (.goto (-29), 3) := by decide +kernel
theorem dX1_cardsWithRange_36 : decode cX1_cardsWithRange 36 = .ok (.iload_n 1, 1) := by decide +kernel
theorem dX1_cardsWithRange_37 : decode cX1_cardsWithRange 37 = .ok (.ireturn, 1) := by decide +kernel
def MX1_cardsWithRange (g : RO) : MT := ((RX1, cX1_cardsWithRange, 3, 2, 0, 0, false, some .int), [(15, 5, 1)], [], [], [], [], 0, [(130, 0, 1, 0, 1, (fun _ _ => 0), (fun _ _ => 0), yX1_asNumber, spOf (MX1_asNumber g))], [], [], 0, [], [], g)
section
variable {g : RO} {Q : Ot → Hw → Prop} {st : List Value} {w : Hw} {k n p q : Nat} {a b : Int32} {x y : Int64} {u v : Value} {l0 l1 l2 : Option Value}
theorem eX1_cardsWithRange_0 : WP (MX1_cardsWithRange g) Q (0, [l0, l1, l2], st, w, k, n) = WP (MX1_cardsWithRange g) Q (1, [l0, l1, l2], .int 0 :: st, w, k, n) := iconst_e rfl dX1_cardsWithRange_0 (by decide)
theorem eX1_cardsWithRange_1 : WP (MX1_cardsWithRange g) Q (1, [l0, l1, l2], .int a :: st, w, k, n) = WP (MX1_cardsWithRange g) Q (2, [nl l0, some (.int a), l2], st, w, k, n) := by rw [WP_at (M := (MX1_cardsWithRange g)) rfl dX1_cardsWithRange_1 (Or.inr rfl)]; exact and_t (Nat.le_of_ble_eq_true rfl)
theorem eX1_cardsWithRange_2 : WP (MX1_cardsWithRange g) Q (2, [l0, l1, l2], st, w, k, n) = WP (MX1_cardsWithRange g) Q (3, [l0, l1, l2], .int 0 :: st, w, k, n) := iconst_e rfl dX1_cardsWithRange_2 (by decide)
theorem eX1_cardsWithRange_3 : WP (MX1_cardsWithRange g) Q (3, [l0, l1, l2], .int a :: st, w, k, n) = WP (MX1_cardsWithRange g) Q (4, [l0, nl l1, some (.int a)], st, w, k, n) := by rw [WP_at (M := (MX1_cardsWithRange g)) rfl dX1_cardsWithRange_3 (Or.inr rfl)]; exact and_t (Nat.le_of_ble_eq_true rfl)
theorem eX1_cardsWithRange_4 : WP (MX1_cardsWithRange g) Q (4, [l0, l1, some (.int a)], st, w, k, n) = WP (MX1_cardsWithRange g) Q (5, [l0, l1, some (.int a)], .int a :: st, w, k, n) := Eq.trans (WP_at (M := (MX1_cardsWithRange g)) rfl dX1_cardsWithRange_4 (Or.inr rfl)) rfl
theorem eX1_cardsWithRange_5 : WP (MX1_cardsWithRange g) Q (5, [l0, l1, l2], st, w, k, n) = WP (MX1_cardsWithRange g) Q (7, [l0, l1, l2], .int 6 :: st, w, k, n) := bipush_e rfl dX1_cardsWithRange_5 (by decide)
theorem eX1_cardsWithRange_7 : WP (MX1_cardsWithRange g) Q (7, [l0, l1, l2], .int b :: .int a :: st, w, k, n) = if b ≤ a then WP (MX1_cardsWithRange g) Q (36, [l0, l1, l2], st, w, k, n) else WP (MX1_cardsWithRange g) Q (10, [l0, l1, l2], st, w, k, n) := icm_e (b ≤ a) rfl dX1_cardsWithRange_7 rfl (by decide)
theorem eX1_cardsWithRange_10 : WP (MX1_cardsWithRange g) Q (10, [l0, some (.int a), l2], st, w, k, n) = WP (MX1_cardsWithRange g) Q (11, [l0, some (.int a), l2], .int a :: st, w, k, n) := Eq.trans (WP_at (M := (MX1_cardsWithRange g)) rfl dX1_cardsWithRange_10 (Or.inr rfl)) rfl
theorem eX1_cardsWithRange_11 : WP (MX1_cardsWithRange g) Q (11, [some (.ref p), l1, l2], st, w, k, n) = WP (MX1_cardsWithRange g) Q (12, [some (.ref p), l1, l2], .ref p :: st, w, k, n) := Eq.trans (WP_at (M := (MX1_cardsWithRange g)) rfl dX1_cardsWithRange_11 (Or.inr rfl)) rfl
theorem eX1_cardsWithRange_11N : WP (MX1_cardsWithRange g) Q (11, [some .null, l1, l2], st, w, k, n) = WP (MX1_cardsWithRange g) Q (12, [some .null, l1, l2], .null :: st, w, k, n) := Eq.trans (WP_at (M := (MX1_cardsWithRange g)) rfl dX1_cardsWithRange_11 (Or.inr rfl)) rfl
theorem eX1_cardsWithRange_12 : WP (MX1_cardsWithRange g) Q (12, [l0, l1, l2], .ref p :: st, w, k, n) = go (rd g w p) 5 fun fs => ∃ v, fs[1]? = some v ∧ WP (MX1_cardsWithRange g) Q (15, [l0, l1, l2], v :: st, w, k, n) := get_e rfl dX1_cardsWithRange_12 rfl
theorem eX1_cardsWithRange_15 : WP (MX1_cardsWithRange g) Q (15, [l0, l1, some (.int a)], st, w, k, n) = WP (MX1_cardsWithRange g) Q (16, [l0, l1, some (.int a)], .int a :: st, w, k, n) := Eq.trans (WP_at (M := (MX1_cardsWithRange g)) rfl dX1_cardsWithRange_15 (Or.inr rfl)) rfl
theorem eX1_cardsWithRange_16 : WP (MX1_cardsWithRange g) Q (16, [l0, l1, l2], .int a :: .ref p :: st, w, k, n) = gq (rd g w p) fun t N f => (t = 4 ∨ t = 5) ∧ vp_in a N ∧ WP (MX1_cardsWithRange g) Q (17, [l0, l1, l2], va_rf (f a.toNatClampNeg) :: st, w, k, n) := Eq.trans (WP_at (M := (MX1_cardsWithRange g)) rfl dX1_cardsWithRange_16 (Or.inr rfl)) rfl
theorem eX1_cardsWithRange_17R : WP (MX1_cardsWithRange g) Q (17, [l0, l1, l2], .ref p :: st, w, k, n) = WP (MX1_cardsWithRange g) Q (20, [l0, l1, l2], st, w, k, n) := ifnullR_e rfl dX1_cardsWithRange_17 (tgt := 24) (by decide)
theorem eX1_cardsWithRange_17N : WP (MX1_cardsWithRange g) Q (17, [l0, l1, l2], .null :: st, w, k, n) = WP (MX1_cardsWithRange g) Q (24, [l0, l1, l2], st, w, k, n) := ifnullN_e rfl dX1_cardsWithRange_17 (tgt := 24) (by decide)
theorem eX1_cardsWithRange_20 : WP (MX1_cardsWithRange g) Q (20, [l0, l1, l2], st, w, k, n) = WP (MX1_cardsWithRange g) Q (21, [l0, l1, l2], .int 1 :: st, w, k, n) := iconst_e rfl dX1_cardsWithRange_20 (by decide)
theorem eX1_cardsWithRange_21 : WP (MX1_cardsWithRange g) Q (21, [l0, l1, l2], st, w, k, n) = WP (MX1_cardsWithRange g) Q (25, [l0, l1, l2], st, w, k, n) := goto_e rfl dX1_cardsWithRange_21 (by decide)
theorem eX1_cardsWithRange_24 : WP (MX1_cardsWithRange g) Q (24, [l0, l1, l2], st, w, k, n) = WP (MX1_cardsWithRange g) Q (25, [l0, l1, l2], .int 0 :: st, w, k, n) := iconst_e rfl dX1_cardsWithRange_24 (by decide)
theorem eX1_cardsWithRange_25 {z0 : Int32} : WP (MX1_cardsWithRange g) Q (25, [l0, l1, l2], .int z0 :: st, w, k, n) = (wt st ≤ 8 ∧ k + 0 ≤ 0 ∧ n + 0 ≤ 0 ∧ WP (MX1_asNumber g) (kx (fun v w' => WP (MX1_cardsWithRange g) Q (28, [l0, l1, l2], v.toList ++ st, w', k + 0, n + 0)) (fun E w' => Q (.inr E) w')) (0, [some (.int z0)], [], w, 0, 0)) := csS (M := (MX1_cardsWithRange g)) (mc := (fun _ _ => 0)) (ms := (fun _ _ => 0)) (As := [.int z0]) (rest := st) (MX1_asNumber g) rfl rfl dX1_cardsWithRange_25 (Nat.ne_of_beq_eq_false rfl) (by exact fun h => nomatch (show (none : Option Nat) = some 12 from h)) (by exact fun h => nomatch (show (none : Option Nat) = some 13 from h)) (by exact fun h => nomatch (show (none : Option Nat) = some 14 from h)) rfl rfl (by decide) (Nat.le_of_ble_eq_true rfl) (Nat.le_of_ble_eq_true rfl) rfl
theorem eX1_cardsWithRange_28 : WP (MX1_cardsWithRange g) Q (28, [l0, l1, l2], .int b :: .int a :: st, w, k, n) = WP (MX1_cardsWithRange g) Q (29, [l0, l1, l2], .int (a + b) :: st, w, k, n) := Eq.trans (WP_at (M := (MX1_cardsWithRange g)) rfl dX1_cardsWithRange_28 (Or.inr rfl)) rfl
theorem eX1_cardsWithRange_29 : WP (MX1_cardsWithRange g) Q (29, [l0, l1, l2], .int a :: st, w, k, n) = WP (MX1_cardsWithRange g) Q (30, [nl l0, some (.int a), l2], st, w, k, n) := by rw [WP_at (M := (MX1_cardsWithRange g)) rfl dX1_cardsWithRange_29 (Or.inr rfl)]; exact and_t (Nat.le_of_ble_eq_true rfl)
theorem eX1_cardsWithRange_30 : WP (MX1_cardsWithRange g) Q (30, [l0, l1, some (.int a)], st, w, k, n) = WP (MX1_cardsWithRange g) Q (33, [l0, nl l1, some (.int (a + 1))], st, w, k, n) := Eq.trans (iinc_e (M := (MX1_cardsWithRange g)) (L := [l0, l1, some (.int a)]) (d := 1) rfl dX1_cardsWithRange_30 (by decide) rfl) rfl
theorem eX1_cardsWithRange_33 : WP (MX1_cardsWithRange g) Q (33, [l0, l1, l2], st, w, k, n) = WP (MX1_cardsWithRange g) Q (4, [l0, l1, l2], st, w, k, n) := goto_e rfl dX1_cardsWithRange_33 (by decide)
theorem eX1_cardsWithRange_36 : WP (MX1_cardsWithRange g) Q (36, [l0, some (.int a), l2], st, w, k, n) = WP (MX1_cardsWithRange g) Q (37, [l0, some (.int a), l2], .int a :: st, w, k, n) := Eq.trans (WP_at (M := (MX1_cardsWithRange g)) rfl dX1_cardsWithRange_36 (Or.inr rfl)) rfl
theorem eX1_cardsWithRange_37 : WP (MX1_cardsWithRange g) Q (37, [l0, l1, l2], [.int a], w, k, n) = (k ≤ 0 ∧ n ≤ 0 ∧ Q (.inl (some (.int a))) w) := iretI_e rfl dX1_cardsWithRange_37 rfl
end
theorem vMX1_cardsWithRange {l : Launch} (hl : l.stackTraces = false) (G : GT) : vM l G (MX1_cardsWithRange (gg G)) := ⟨fun i c j h => lookup_all (l := (MX1_cardsWithRange (gg G)).fld) (P := fun i e => vFld RX1 i e.1 e.2) (all_c (vF_RX1_15) (all_n)) i (c, j) h, fun i c fs h => lookup_all (l := (MX1_cardsWithRange (gg G)).new) (P := fun i e => vNew RX1 i e.1 e.2) (all_n) i (c, fs) h, lookup_all (l := (MX1_cardsWithRange (gg G)).anew) (P := fun i e => vANew RX1 i e) (all_n), lookup_all (l := (MX1_cardsWithRange (gg G)).lng) (P := fun i e => Jvm.Cond.constantLong RX1 i e ∈ WS) (all_n), lookup_all (l := (MX1_cardsWithRange (gg G)).thr) (P := fun i e => vThr RX1 cX1_cardsWithRange i e) (all_n), fun h => absurd rfl h, lookup_all (l := (MX1_cardsWithRange (gg G)).cal) (P := fun i e => vCal l G RX1 i e) (all_c (⟨cX1_asNumber, 1, some .int, fun y hy => by subst hy; exact ⟨by decide, ⟨_, wk_263, okX1_asNumber hl, Or.inl ⟨Nat.ne_of_beq_eq_false rfl, rfl⟩⟩, wk_59, ⟨(by decide : yX1_asNumber.cls ≠ "java/lang/invoke/MethodHandle"), (by decide : yX1_asNumber.cls ≠ "java/lang/invoke/VarHandle")⟩, ⟨(by decide +kernel : (parseMethodDescriptor yX1_asNumber.desc).map (fun d => d.parameters.length) = some 1), wk_261, wk_262⟩⟩⟩) (all_n)), lookup_all (l := (MX1_cardsWithRange (gg G)).stt) (P := fun i e => vStt G RX1 i e) (all_n), lookup_all (l := (MX1_cardsWithRange (gg G)).cst) (P := fun i e => vCst RX1 i e) (all_n), fun h => absurd rfl h, rfl, all_n⟩
theorem okX1_cardsWithRange {l : Launch} (hl : l.stackTraces = false) {G : GT} : ∀ (args : List Value) (w : Hw) (S : Ot → Hw → Prop), spOf (MX1_cardsWithRange (gg G)) args w S → CX l G yX1_cardsWithRange (.code yX1_cardsWithRange cX1_cardsWithRange 3 (some .int)) 2 0 0 args w S := CX_sp (M := MX1_cardsWithRange (gg G)) (y := yX1_cardsWithRange) hl (by decide) rfl (vMX1_cardsWithRange hl G) (fun h => by cases h) rfl
/-! Rangecard.firstPlaceOf(LRangecard$Range;)I -/
theorem dX1_firstPlaceOf_0 : decode cX1_firstPlaceOf 0 = .ok (.iconst 0, 1) := by decide +kernel
theorem dX1_firstPlaceOf_1 : decode cX1_firstPlaceOf 1 = .ok (.istore_n 2, 1) := by decide +kernel
theorem dX1_firstPlaceOf_2 : decode cX1_firstPlaceOf 2 = .ok (.iload_n 2, 1) := by decide +kernel
theorem dX1_firstPlaceOf_3 : decode cX1_firstPlaceOf 3 = .ok (.aload_n 0, 1) := by decide +kernel
theorem dX1_firstPlaceOf_4 : decode cX1_firstPlaceOf 4 = .ok (.getfield 22, 3) := by decide +kernel
theorem dX1_firstPlaceOf_7 : decode cX1_firstPlaceOf 7 = .ok (.if_icmp .ge 24, 3) := by decide +kernel
theorem dX1_firstPlaceOf_10 : decode cX1_firstPlaceOf 10 = .ok (.aload_n 1, 1) := by decide +kernel
theorem dX1_firstPlaceOf_11 : decode cX1_firstPlaceOf 11 = .ok (.aload_n 0, 1) := by decide +kernel
theorem dX1_firstPlaceOf_12 : decode cX1_firstPlaceOf 12 = .ok (.getfield 19, 3) := by decide +kernel
theorem dX1_firstPlaceOf_15 : decode cX1_firstPlaceOf 15 = .ok (.iload_n 2, 1) := by decide +kernel
theorem dX1_firstPlaceOf_16 : decode cX1_firstPlaceOf 16 = .ok (.aaload, 1) := by decide +kernel
theorem dX1_firstPlaceOf_17 : decode cX1_firstPlaceOf 17 = .ok (.invokevirtual 110, 3) := by decide +kernel
theorem dX1_firstPlaceOf_20 : decode cX1_firstPlaceOf 20 = .ok (.ifCond .eq 5, 3) := by decide +kernel
theorem dX1_firstPlaceOf_23 : decode cX1_firstPlaceOf 23 = .ok (.iload_n 2, 1) := by decide +kernel
theorem dX1_firstPlaceOf_24 : decode cX1_firstPlaceOf 24 = .ok (.ireturn, 1) := by decide +kernel
theorem dX1_firstPlaceOf_25 : decode cX1_firstPlaceOf 25 = .ok (.iinc 2 1, 3) := by decide +kernel
theorem dX1_firstPlaceOf_28 : decode cX1_firstPlaceOf 28 = .ok (.goto (-26), 3) := by decide +kernel
theorem dX1_firstPlaceOf_31 : decode cX1_firstPlaceOf 31 = .ok (.iconst (-1), 1) := by decide +kernel
theorem dX1_firstPlaceOf_32 : decode cX1_firstPlaceOf 32 = .ok (.ireturn, 1) := by decide +kernel
def MX1_firstPlaceOf (g : RO) : MT := ((RX1, cX1_firstPlaceOf, 3, 2, 0, 0, false, some .int), [(22, 5, 3), (19, 5, 2)], [], [], [], [], 0, [(110, 3, 2, 4, 1, (fun _ _ => 0), (fun _ _ => 0), yX0_matches, spOf (MX0_matches g))], [], [], 0, [], [], g)
section
variable {g : RO} {Q : Ot → Hw → Prop} {st : List Value} {w : Hw} {k n p q : Nat} {a b : Int32} {x y : Int64} {u v : Value} {l0 l1 l2 : Option Value}
theorem eX1_firstPlaceOf_0 : WP (MX1_firstPlaceOf g) Q (0, [l0, l1, l2], st, w, k, n) = WP (MX1_firstPlaceOf g) Q (1, [l0, l1, l2], .int 0 :: st, w, k, n) := iconst_e rfl dX1_firstPlaceOf_0 (by decide)
theorem eX1_firstPlaceOf_1 : WP (MX1_firstPlaceOf g) Q (1, [l0, l1, l2], .int a :: st, w, k, n) = WP (MX1_firstPlaceOf g) Q (2, [l0, nl l1, some (.int a)], st, w, k, n) := by rw [WP_at (M := (MX1_firstPlaceOf g)) rfl dX1_firstPlaceOf_1 (Or.inr rfl)]; exact and_t (Nat.le_of_ble_eq_true rfl)
theorem eX1_firstPlaceOf_2 : WP (MX1_firstPlaceOf g) Q (2, [l0, l1, some (.int a)], st, w, k, n) = WP (MX1_firstPlaceOf g) Q (3, [l0, l1, some (.int a)], .int a :: st, w, k, n) := Eq.trans (WP_at (M := (MX1_firstPlaceOf g)) rfl dX1_firstPlaceOf_2 (Or.inr rfl)) rfl
theorem eX1_firstPlaceOf_3 : WP (MX1_firstPlaceOf g) Q (3, [some (.ref p), l1, l2], st, w, k, n) = WP (MX1_firstPlaceOf g) Q (4, [some (.ref p), l1, l2], .ref p :: st, w, k, n) := Eq.trans (WP_at (M := (MX1_firstPlaceOf g)) rfl dX1_firstPlaceOf_3 (Or.inr rfl)) rfl
theorem eX1_firstPlaceOf_3N : WP (MX1_firstPlaceOf g) Q (3, [some .null, l1, l2], st, w, k, n) = WP (MX1_firstPlaceOf g) Q (4, [some .null, l1, l2], .null :: st, w, k, n) := Eq.trans (WP_at (M := (MX1_firstPlaceOf g)) rfl dX1_firstPlaceOf_3 (Or.inr rfl)) rfl
theorem eX1_firstPlaceOf_4 : WP (MX1_firstPlaceOf g) Q (4, [l0, l1, l2], .ref p :: st, w, k, n) = go (rd g w p) 5 fun fs => ∃ v, fs[3]? = some v ∧ WP (MX1_firstPlaceOf g) Q (7, [l0, l1, l2], v :: st, w, k, n) := get_e rfl dX1_firstPlaceOf_4 rfl
theorem eX1_firstPlaceOf_7 : WP (MX1_firstPlaceOf g) Q (7, [l0, l1, l2], .int b :: .int a :: st, w, k, n) = if b ≤ a then WP (MX1_firstPlaceOf g) Q (31, [l0, l1, l2], st, w, k, n) else WP (MX1_firstPlaceOf g) Q (10, [l0, l1, l2], st, w, k, n) := icm_e (b ≤ a) rfl dX1_firstPlaceOf_7 rfl (by decide)
theorem eX1_firstPlaceOf_10 : WP (MX1_firstPlaceOf g) Q (10, [l0, some (.ref p), l2], st, w, k, n) = WP (MX1_firstPlaceOf g) Q (11, [l0, some (.ref p), l2], .ref p :: st, w, k, n) := Eq.trans (WP_at (M := (MX1_firstPlaceOf g)) rfl dX1_firstPlaceOf_10 (Or.inr rfl)) rfl
theorem eX1_firstPlaceOf_10N : WP (MX1_firstPlaceOf g) Q (10, [l0, some .null, l2], st, w, k, n) = WP (MX1_firstPlaceOf g) Q (11, [l0, some .null, l2], .null :: st, w, k, n) := Eq.trans (WP_at (M := (MX1_firstPlaceOf g)) rfl dX1_firstPlaceOf_10 (Or.inr rfl)) rfl
theorem eX1_firstPlaceOf_11 : WP (MX1_firstPlaceOf g) Q (11, [some (.ref p), l1, l2], st, w, k, n) = WP (MX1_firstPlaceOf g) Q (12, [some (.ref p), l1, l2], .ref p :: st, w, k, n) := Eq.trans (WP_at (M := (MX1_firstPlaceOf g)) rfl dX1_firstPlaceOf_11 (Or.inr rfl)) rfl
theorem eX1_firstPlaceOf_11N : WP (MX1_firstPlaceOf g) Q (11, [some .null, l1, l2], st, w, k, n) = WP (MX1_firstPlaceOf g) Q (12, [some .null, l1, l2], .null :: st, w, k, n) := Eq.trans (WP_at (M := (MX1_firstPlaceOf g)) rfl dX1_firstPlaceOf_11 (Or.inr rfl)) rfl
theorem eX1_firstPlaceOf_12 : WP (MX1_firstPlaceOf g) Q (12, [l0, l1, l2], .ref p :: st, w, k, n) = go (rd g w p) 5 fun fs => ∃ v, fs[2]? = some v ∧ WP (MX1_firstPlaceOf g) Q (15, [l0, l1, l2], v :: st, w, k, n) := get_e rfl dX1_firstPlaceOf_12 rfl
theorem eX1_firstPlaceOf_15 : WP (MX1_firstPlaceOf g) Q (15, [l0, l1, some (.int a)], st, w, k, n) = WP (MX1_firstPlaceOf g) Q (16, [l0, l1, some (.int a)], .int a :: st, w, k, n) := Eq.trans (WP_at (M := (MX1_firstPlaceOf g)) rfl dX1_firstPlaceOf_15 (Or.inr rfl)) rfl
theorem eX1_firstPlaceOf_16 : WP (MX1_firstPlaceOf g) Q (16, [l0, l1, l2], .int a :: .ref p :: st, w, k, n) = gq (rd g w p) fun t N f => (t = 4 ∨ t = 5) ∧ vp_in a N ∧ WP (MX1_firstPlaceOf g) Q (17, [l0, l1, l2], va_rf (f a.toNatClampNeg) :: st, w, k, n) := Eq.trans (WP_at (M := (MX1_firstPlaceOf g)) rfl dX1_firstPlaceOf_16 (Or.inr rfl)) rfl
theorem eX1_firstPlaceOf_17R {z0 : Nat} : WP (MX1_firstPlaceOf g) Q (17, [l0, l1, l2], .ref z0 :: .ref p :: st, w, k, n) = (go (rd g w p) 4 (fun _ => True) ∧ wt st ≤ 8 ∧ k + 0 ≤ 0 ∧ n + 0 ≤ 0 ∧ WP (MX0_matches g) (kx (fun v w' => WP (MX1_firstPlaceOf g) Q (20, [l0, l1, l2], v.toList ++ st, w', k + 0, n + 0)) (fun E w' => Q (.inr E) w')) (0, [some (.ref p), some (.ref z0)], [], w, 0, 0)) := csV (M := (MX1_firstPlaceOf g)) (mc := (fun _ _ => 0)) (ms := (fun _ _ => 0)) (As := [.ref z0]) (rest := st) (MX0_matches g) rfl rfl dX1_firstPlaceOf_17 (by exact fun h => nomatch (show (none : Option Nat) = some 11 from h)) (by exact fun h => nomatch (show (none : Option Nat) = some 15 from h)) rfl rfl (by decide) (Nat.le_of_ble_eq_true rfl) (Nat.le_of_ble_eq_true rfl) rfl
theorem eX1_firstPlaceOf_17N  : WP (MX1_firstPlaceOf g) Q (17, [l0, l1, l2], .null :: .ref p :: st, w, k, n) = (go (rd g w p) 4 (fun _ => True) ∧ wt st ≤ 8 ∧ k + 0 ≤ 0 ∧ n + 0 ≤ 0 ∧ WP (MX0_matches g) (kx (fun v w' => WP (MX1_firstPlaceOf g) Q (20, [l0, l1, l2], v.toList ++ st, w', k + 0, n + 0)) (fun E w' => Q (.inr E) w')) (0, [some (.ref p), some .null], [], w, 0, 0)) := csV (M := (MX1_firstPlaceOf g)) (mc := (fun _ _ => 0)) (ms := (fun _ _ => 0)) (As := [.null]) (rest := st) (MX0_matches g) rfl rfl dX1_firstPlaceOf_17 (by exact fun h => nomatch (show (none : Option Nat) = some 11 from h)) (by exact fun h => nomatch (show (none : Option Nat) = some 15 from h)) rfl rfl (by decide) (Nat.le_of_ble_eq_true rfl) (Nat.le_of_ble_eq_true rfl) rfl
theorem eX1_firstPlaceOf_20 : WP (MX1_firstPlaceOf g) Q (20, [l0, l1, l2], .int a :: st, w, k, n) = if a = 0 then WP (MX1_firstPlaceOf g) Q (25, [l0, l1, l2], st, w, k, n) else WP (MX1_firstPlaceOf g) Q (23, [l0, l1, l2], st, w, k, n) := ifc_e (a = 0) rfl dX1_firstPlaceOf_20 rfl (by decide)
theorem eX1_firstPlaceOf_23 : WP (MX1_firstPlaceOf g) Q (23, [l0, l1, some (.int a)], st, w, k, n) = WP (MX1_firstPlaceOf g) Q (24, [l0, l1, some (.int a)], .int a :: st, w, k, n) := Eq.trans (WP_at (M := (MX1_firstPlaceOf g)) rfl dX1_firstPlaceOf_23 (Or.inr rfl)) rfl
theorem eX1_firstPlaceOf_24 : WP (MX1_firstPlaceOf g) Q (24, [l0, l1, l2], [.int a], w, k, n) = (k ≤ 0 ∧ n ≤ 0 ∧ Q (.inl (some (.int a))) w) := iretI_e rfl dX1_firstPlaceOf_24 rfl
theorem eX1_firstPlaceOf_25 : WP (MX1_firstPlaceOf g) Q (25, [l0, l1, some (.int a)], st, w, k, n) = WP (MX1_firstPlaceOf g) Q (28, [l0, nl l1, some (.int (a + 1))], st, w, k, n) := Eq.trans (iinc_e (M := (MX1_firstPlaceOf g)) (L := [l0, l1, some (.int a)]) (d := 1) rfl dX1_firstPlaceOf_25 (by decide) rfl) rfl
theorem eX1_firstPlaceOf_28 : WP (MX1_firstPlaceOf g) Q (28, [l0, l1, l2], st, w, k, n) = WP (MX1_firstPlaceOf g) Q (2, [l0, l1, l2], st, w, k, n) := goto_e rfl dX1_firstPlaceOf_28 (by decide)
theorem eX1_firstPlaceOf_31 : WP (MX1_firstPlaceOf g) Q (31, [l0, l1, l2], st, w, k, n) = WP (MX1_firstPlaceOf g) Q (32, [l0, l1, l2], .int (-1) :: st, w, k, n) := iconst_e rfl dX1_firstPlaceOf_31 (by decide)
theorem eX1_firstPlaceOf_32 : WP (MX1_firstPlaceOf g) Q (32, [l0, l1, l2], [.int a], w, k, n) = (k ≤ 0 ∧ n ≤ 0 ∧ Q (.inl (some (.int a))) w) := iretI_e rfl dX1_firstPlaceOf_32 rfl
end
theorem wk_100 : (.fieldLink RX1 19 "Rangecard" "laid" "[LRangecard$Range;" : Jvm.Cond) ∈ WS := WS_t1 42 rfl rfl
theorem vF_RX1_19 : vFld RX1 19 5 2 := ⟨RX1, TX1, 7, tyX1, "Rangecard", rfl, by decide, iW_5, tyX1_ok, nmX1, Or.inl rfl, Or.inl wk_100⟩
theorem vMX1_firstPlaceOf {l : Launch} (hl : l.stackTraces = false) (G : GT) : vM l G (MX1_firstPlaceOf (gg G)) := ⟨fun i c j h => lookup_all (l := (MX1_firstPlaceOf (gg G)).fld) (P := fun i e => vFld RX1 i e.1 e.2) (all_c (vF_RX1_22) (all_c (vF_RX1_19) (all_n))) i (c, j) h, fun i c fs h => lookup_all (l := (MX1_firstPlaceOf (gg G)).new) (P := fun i e => vNew RX1 i e.1 e.2) (all_n) i (c, fs) h, lookup_all (l := (MX1_firstPlaceOf (gg G)).anew) (P := fun i e => vANew RX1 i e) (all_n), lookup_all (l := (MX1_firstPlaceOf (gg G)).lng) (P := fun i e => Jvm.Cond.constantLong RX1 i e ∈ WS) (all_n), lookup_all (l := (MX1_firstPlaceOf (gg G)).thr) (P := fun i e => vThr RX1 cX1_firstPlaceOf i e) (all_n), fun h => absurd rfl h, lookup_all (l := (MX1_firstPlaceOf (gg G)).cal) (P := fun i e => vCal l G RX1 i e) (all_c (⟨cX0_matches, 2, some .boolean, fun y hy => by subst hy; exact ⟨by decide, ⟨_, wk_179, okX0_matches hl, Or.inl ⟨Nat.ne_of_beq_eq_false rfl, rfl⟩⟩, wk_84, ⟨(by decide : yX0_matches.cls ≠ "java/lang/invoke/MethodHandle"), (by decide : yX0_matches.cls ≠ "java/lang/invoke/VarHandle")⟩, ⟨(by decide +kernel : (parseMethodDescriptor yX0_matches.desc).map (fun d => d.parameters.length + 1) = some 2), ⟨"Rangecard", List.mem_of_getElem? (i := 176) (by decide +kernel : lw_tbl[176]? = some (.methodLinkNest RX1 110 yX0_matches "Rangecard"))⟩, wk_178, wk_1, (RX0, TX0, 4), rfl, rfl⟩⟩⟩) (all_n)), lookup_all (l := (MX1_firstPlaceOf (gg G)).stt) (P := fun i e => vStt G RX1 i e) (all_n), lookup_all (l := (MX1_firstPlaceOf (gg G)).cst) (P := fun i e => vCst RX1 i e) (all_n), fun h => absurd rfl h, rfl, all_n⟩
theorem okX1_firstPlaceOf {l : Launch} (hl : l.stackTraces = false) {G : GT} : ∀ (args : List Value) (w : Hw) (S : Ot → Hw → Prop), spOf (MX1_firstPlaceOf (gg G)) args w S → CX l G yX1_firstPlaceOf (.code yX1_firstPlaceOf cX1_firstPlaceOf 3 (some .int)) 2 0 0 args w S := CX_sp (M := MX1_firstPlaceOf (gg G)) (y := yX1_firstPlaceOf) hl (by decide) rfl (vMX1_firstPlaceOf hl G) (fun h => by cases h) rfl
end
