section
variable {g : RO} {Q : Ot → Hw → Prop} {w0 w : Hw}
variable {y nM : Nat} {kd : Int32}
theorem sGetC {L D cap b : Nat} {i : Int32} {h : Nat → Option Nat} (hl : LL g w L D cap 6 h) (hv : h i.toNatClampNeg = some b) (k0 : ¬ i < 0) (k1 : ¬ 5 < i) (hQ : Q (.inl (some (.ref b))) w) : WP (MJx4a65c_get_915e3 g) Q (0, [some (.ref L), some (.int i)], [], w, 0, 0) := sJx4a65c_get hl (i32_0 k0) (lt6 k1) (fun e => by
  rw [hv] at e
  cases e) (fun c e => by
  rw [hv] at e
  cases e
  exact hQ)
theorem LL.gt {L D cap : Nat} {n : Int32} {h : Nat → Option Nat} (hl : LL g w L D cap n h) : go (rd g w L) 3 fun _ => True := by
  obtain ⟨mc, hL, rL, -⟩ := hl.opn
  rw [rL, go_s]
  trivial
theorem isRow.ca {b : Nat} (h : isRow w b) : ∃ x, w b = some (.inl (0, x)) := by
  obtain ⟨f, h⟩ := h
  exact ⟨_, h⟩
set_option maxHeartbeats 4000000 in
theorem sX3_isFixed {a : Int32} (hM : MM g w0 y nM kd w) (hQ : ∀ (v : Int32) w', MM g w0 y nM kd w' → Q (.inl (some (.int v))) w') : WP (MX3_isFixed g) Q (0, [some (.ref y), some (.int a)], [], w, 0, 0) := by
  repeat' first
    | with_reducible assumption
    | with_reducible refine And.intro ?_ ?_
    | with_reducible refine sX3_isNone (by first | assumption | exact MMz.m (by assumption) | exact (by assumption : ∀ f', MM g w0 y nM kd (upw _ nM (.inl (0, 8, .inr (.inl f'))))) _) (fun _ _ => ?_) (fun _ _ _ _ _ _ => ?_)
    | with_reducible refine sGetC (by assumption) (by assumption) (by assumption) (by assumption) ?_
    | with_reducible exact LL.gt (by assumption)
    | with_reducible exact isRow.ca (CAt.row (by assumption))
    | with_reducible refine CAt.go (by assumption) (fun _ _ _ _ _ _ _ _ _ _ _ _ => ?_)
    | with_reducible exact absurd (by assumption) n10'
    | with_reducible refine sX3_isNoNumber ?_ (fun _ _ => ?_)
    | with_reducible refine sX3_isNoEnd ?_ (fun _ _ => ?_)
    | with_reducible refine sX3_isIn (fun _ _ => ?_) ?_
    | with_reducible refine sX3_start (by first | assumption | exact MMz.m (by assumption) | exact (by assumption : ∀ f', MM g w0 y nM kd (upw _ nM (.inl (0, 8, .inr (.inl f'))))) _) (by decide) (fun _ _ _ => ?_) (fun _ _ => ?_)
    | with_reducible refine sX3_refuse (by assumption) (by decide) (fun _ => ?_) (fun _ _ => ?_)
    | with_reducible exact vpi8n (by assumption) (by assumption)
    | with_reducible refine go_M (by first | assumption | exact MMz.m (by assumption) | exact (by assumption : ∀ f', MM g w0 y nM kd (upw _ nM (.inl (0, 8, .inr (.inl f'))))) _) ?_
    | with_reducible refine gl_M (by first | assumption | exact MMz.m (by assumption) | exact (by assumption : ∀ f', MM g w0 y nM kd (upw _ nM (.inl (0, 8, .inr (.inl f'))))) _) ?_
    | with_reducible refine gl_Mw (by first | assumption | exact MMz.m (by assumption) | exact (by assumption : ∀ f', MM g w0 y nM kd (upw _ nM (.inl (0, 8, .inr (.inl f'))))) _) ?_
    | with_reducible exact hQ _ _ (by first | assumption | exact MMz.m (by assumption) | exact (by assumption : ∀ f', MM g w0 y nM kd (upw _ nM (.inl (0, 8, .inr (.inl f'))))) _)
    | with_reducible exact hQ _
    | with_reducible exact n4g
    | with_reducible exact n4a
    | with_reducible exact n4b
    | with_reducible exact n4c
    | with_reducible refine sX3_high (fun _ => ?_)
    | with_reducible refine sX3_low (fun _ => ?_)
    | with_reducible refine sX3_one (fun _ => ?_)
    | with_reducible refine sX3_become (by first | assumption | exact MMz.m (by assumption) | exact (by assumption : ∀ f', MM g w0 y nM kd (upw _ nM (.inl (0, 8, .inr (.inl f'))))) _) (by assumption) (by assumption) (fun _ _ _ => ?_)
    | with_reducible refine sX3_fixed (CAt.row (by assumption)) ?_ ?_
    | simp only [eX3_isFixed_0, eX3_isFixed_0N, eX3_isFixed_1, eX3_isFixed_2, eX3_isFixed_5, eX3_isFixed_8, eX3_isFixed_8N, eX3_isFixed_9, eX3_isFixed_12, eX3_isFixed_13, eX3_isFixed_16N, eX3_isFixed_16R, eX3_isFixed_19R, eX3_isFixed_19N, eX3_isFixed_22, eX3_isFixed_25, eX3_isFixed_26, eX3_isFixed_29, eX3_isFixed_30, ite_le, n45, n54, true_or, or_true, false_or, or_false, false_and, and_false, kx_l, kx_r, go_s, gl_s, gi_s, gb_s2, gb_s3, gq_s, wt_nil, wt_int, wt_long, wt_ref, wt_null, nl_int, nl_long, nl_ref, nl_null, nl_none, rf_n, rf_s, rf_st, tl_s, tl_n, g0, gS, ex1, nb_b, nb_0, nb_1, nf_i, nf_l, nf_ra, nf_ro, nf_na, nf_no, nf_b0, nf_z0, t45_4, t45_5, true_and, and_true, List.set_cons_zero, List.set_cons_succ, List.length_cons, List.length_nil, rd_s, upw_s, ne_eq, not_false_eq_true, Nat.zero_add, Nat.add_zero, if_true, if_false, eq_self]
    | split
    | with_reducible intro _
    | omega
set_option maxHeartbeats 4000000 in
theorem sX3_isSmall {a : Int32} (hM : MM g w0 y nM kd w) (hQ : ∀ (v : Int32) w', MM g w0 y nM kd w' → Q (.inl (some (.int v))) w') : WP (MX3_isSmall g) Q (0, [some (.ref y), some (.int a)], [], w, 0, 0) := by
  repeat' first
    | with_reducible assumption
    | with_reducible refine And.intro ?_ ?_
    | with_reducible refine sX3_isNone (by first | assumption | exact MMz.m (by assumption) | exact (by assumption : ∀ f', MM g w0 y nM kd (upw _ nM (.inl (0, 8, .inr (.inl f'))))) _) (fun _ _ => ?_) (fun _ _ _ _ _ _ => ?_)
    | with_reducible refine sGetC (by assumption) (by assumption) (by assumption) (by assumption) ?_
    | with_reducible exact LL.gt (by assumption)
    | with_reducible exact isRow.ca (CAt.row (by assumption))
    | with_reducible refine CAt.go (by assumption) (fun _ _ _ _ _ _ _ _ _ _ _ _ => ?_)
    | with_reducible exact absurd (by assumption) n10'
    | with_reducible refine sX3_isNoNumber ?_ (fun _ _ => ?_)
    | with_reducible refine sX3_isNoEnd ?_ (fun _ _ => ?_)
    | with_reducible refine sX3_isIn (fun _ _ => ?_) ?_
    | with_reducible refine sX3_start (by first | assumption | exact MMz.m (by assumption) | exact (by assumption : ∀ f', MM g w0 y nM kd (upw _ nM (.inl (0, 8, .inr (.inl f'))))) _) (by decide) (fun _ _ _ => ?_) (fun _ _ => ?_)
    | with_reducible refine sX3_refuse (by assumption) (by decide) (fun _ => ?_) (fun _ _ => ?_)
    | with_reducible exact vpi8n (by assumption) (by assumption)
    | with_reducible refine go_M (by first | assumption | exact MMz.m (by assumption) | exact (by assumption : ∀ f', MM g w0 y nM kd (upw _ nM (.inl (0, 8, .inr (.inl f'))))) _) ?_
    | with_reducible refine gl_M (by first | assumption | exact MMz.m (by assumption) | exact (by assumption : ∀ f', MM g w0 y nM kd (upw _ nM (.inl (0, 8, .inr (.inl f'))))) _) ?_
    | with_reducible refine gl_Mw (by first | assumption | exact MMz.m (by assumption) | exact (by assumption : ∀ f', MM g w0 y nM kd (upw _ nM (.inl (0, 8, .inr (.inl f'))))) _) ?_
    | with_reducible exact hQ _ _ (by first | assumption | exact MMz.m (by assumption) | exact (by assumption : ∀ f', MM g w0 y nM kd (upw _ nM (.inl (0, 8, .inr (.inl f'))))) _)
    | with_reducible exact hQ _
    | with_reducible exact n4g
    | with_reducible exact n4a
    | with_reducible exact n4b
    | with_reducible exact n4c
    | with_reducible refine sX3_high (fun _ => ?_)
    | with_reducible refine sX3_low (fun _ => ?_)
    | with_reducible refine sX3_one (fun _ => ?_)
    | with_reducible refine sX3_become (by first | assumption | exact MMz.m (by assumption) | exact (by assumption : ∀ f', MM g w0 y nM kd (upw _ nM (.inl (0, 8, .inr (.inl f'))))) _) (by assumption) (by assumption) (fun _ _ _ => ?_)
    | with_reducible refine sX3_small (CAt.row (by assumption)) ?_ ?_
    | simp only [eX3_isSmall_0, eX3_isSmall_0N, eX3_isSmall_1, eX3_isSmall_2, eX3_isSmall_5, eX3_isSmall_8, eX3_isSmall_8N, eX3_isSmall_9, eX3_isSmall_12, eX3_isSmall_13, eX3_isSmall_16N, eX3_isSmall_16R, eX3_isSmall_19R, eX3_isSmall_19N, eX3_isSmall_22, eX3_isSmall_25, eX3_isSmall_26, eX3_isSmall_29, eX3_isSmall_30, ite_le, n45, n54, true_or, or_true, false_or, or_false, false_and, and_false, kx_l, kx_r, go_s, gl_s, gi_s, gb_s2, gb_s3, gq_s, wt_nil, wt_int, wt_long, wt_ref, wt_null, nl_int, nl_long, nl_ref, nl_null, nl_none, rf_n, rf_s, rf_st, tl_s, tl_n, g0, gS, ex1, nb_b, nb_0, nb_1, nf_i, nf_l, nf_ra, nf_ro, nf_na, nf_no, nf_b0, nf_z0, t45_4, t45_5, true_and, and_true, List.set_cons_zero, List.set_cons_succ, List.length_cons, List.length_nil, rd_s, upw_s, ne_eq, not_false_eq_true, Nat.zero_add, Nat.add_zero, if_true, if_false, eq_self]
    | split
    | with_reducible intro _
    | omega
end
