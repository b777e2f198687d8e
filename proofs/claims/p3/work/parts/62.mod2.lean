section
variable {g : RO} {Q : Ot → Hw → Prop} {w0 w : Hw}
variable {y nM : Nat} {kd : Int32}
theorem MMz.m (h : MMz g w0 y nM kd w) : MM g w0 y nM kd w := h.1
theorem go_M {K : List Value → Prop} (h : MM g w0 y nM kd w) (k : ∀ (cL pL : Nat) (th rf md : Int32), K [.int th, .ref nM, .ref cL, .ref pL, .int rf, .int kd, .int md]) : go (rd g w y) 7 K := by
  obtain ⟨cL, pL, D1, D2, c1, c2, th, rf, md, n, f, h1, h2, hy, hn, ry, rn, -⟩ := h.1.opn g
  rw [ry, go_s]
  exact k _ _ _ _ _
theorem gl_M {K : Nat → (Nat → Int64) → Prop} (h : MM g w0 y nM kd w) (k : ∀ f, K 8 f) : gl (rd g w nM) 0 K := by
  obtain ⟨cL, pL, D1, D2, c1, c2, th, rf, md, n, f, h1, h2, hy, hn, ry, rn, -⟩ := h.1.opn g
  rw [rn, gl_s]
  exact k _
theorem gl_Mw {K : Nat → (Nat → Int64) → Prop} (h : MM g w0 y nM kd w) (k : ∀ f, (∀ f', MM g w0 y nM kd (upw w nM (.inl (0, 8, .inr (.inl f'))))) → K 8 f) : gl (w nM) 0 K := by
  obtain ⟨cL, pL, D1, D2, c1, c2, th, rf, md, n, f, h1, h2, hy, hn, ry, rn, -⟩ := h.1.opn g
  rw [hn, gl_s]
  exact k _ (fun _ => h.num hn)
theorem vpi8n {a : Int32} (h0 : ¬ a < 0) (h1 : ¬ 7 < a) : vp_in a 8 := vpiM (i32_0 h0) (by
  have h := i32_nlt h1
  have e : (7 : Int32).toInt = 7 := rfl
  omega)
theorem vpi6n {a : Int32} (h0 : ¬ a < 0) (h1 : ¬ 5 < a) : vp_in a 6 := vpiM (i32_0 h0) (by
  have h := i32_nlt h1
  have e : (5 : Int32).toInt = 5 := rfl
  omega)
theorem ite_cs {c : Prop} [Decidable c] {A B : Prop} (h1 : A) (h2 : B) : if c then A else B := by split <;> assumption
theorem n4g : (¬ (4294967296 : Int64) = 0) := by decide
theorem n4a : ¬ (4 : Int32) < 0 := by decide
theorem n4b : (4 : Int32).toNatClampNeg ≤ 40000 := by decide
theorem n4c : (4 : Int32).toNatClampNeg ≤ 4 := by decide
theorem n10' : ¬ (1 : Int32) = 0 := by decide
set_option maxHeartbeats 4000000 in
theorem sX3_high {a : Int64} (hQ : ∀ v : Int32, Q (.inl (some (.int v))) w) : WP (MX3_high g) Q (0, [some (.long a), none], [], w, 0, 0) := by
  repeat' first
    | with_reducible assumption
    | with_reducible refine And.intro ?_ ?_
    | with_reducible exact hQ _
    | with_reducible exact n4g
    | with_reducible refine ite_cs ?_ ?_
    | simp only [eX3_high_0, eX3_high_1, eX3_high_2, eX3_high_5, eX3_high_6, eX3_high_9, eX3_high_10, eX3_high_13, eX3_high_14, eX3_high_15, eX3_high_18, eX3_high_19, eX3_high_20, ite_le, n45, n54, true_or, or_true, false_or, or_false, false_and, and_false, kx_l, kx_r, go_s, gl_s, gi_s, gb_s2, gb_s3, gq_s, wt_nil, wt_int, wt_long, wt_ref, wt_null, nl_int, nl_long, nl_ref, nl_null, nl_none, rf_n, rf_s, rf_st, tl_s, tl_n, g0, gS, ex1, nb_b, nb_0, nb_1, nf_i, nf_l, nf_ra, nf_ro, nf_na, nf_no, nf_b0, nf_z0, t45_4, t45_5, true_and, and_true, List.set_cons_zero, List.set_cons_succ, List.length_cons, List.length_nil, rd_s, upw_s, ne_eq, not_false_eq_true, Nat.zero_add, Nat.add_zero, if_true, if_false, eq_self]
    | split
    | with_reducible intro _
    | omega
set_option maxHeartbeats 4000000 in
theorem sX3_low {a : Int64} (hQ : ∀ v : Int32, Q (.inl (some (.int v))) w) : WP (MX3_low g) Q (0, [some (.long a), none, none, none], [], w, 0, 0) := by
  repeat' first
    | with_reducible assumption
    | with_reducible refine And.intro ?_ ?_
    | with_reducible exact hQ _
    | with_reducible exact n4g
    | with_reducible refine ite_cs ?_ ?_
    | simp only [eX3_low_0, eX3_low_1, eX3_low_4, eX3_low_5, eX3_low_8, eX3_low_9, eX3_low_12, eX3_low_13, eX3_low_14, eX3_low_15, eX3_low_18, eX3_low_19, eX3_low_22, eX3_low_23, eX3_low_26, eX3_low_27, eX3_low_30, eX3_low_31, eX3_low_32, ite_le, n45, n54, true_or, or_true, false_or, or_false, false_and, and_false, kx_l, kx_r, go_s, gl_s, gi_s, gb_s2, gb_s3, gq_s, wt_nil, wt_int, wt_long, wt_ref, wt_null, nl_int, nl_long, nl_ref, nl_null, nl_none, rf_n, rf_s, rf_st, tl_s, tl_n, g0, gS, ex1, nb_b, nb_0, nb_1, nf_i, nf_l, nf_ra, nf_ro, nf_na, nf_no, nf_b0, nf_z0, t45_4, t45_5, true_and, and_true, List.set_cons_zero, List.set_cons_succ, List.length_cons, List.length_nil, rd_s, upw_s, ne_eq, not_false_eq_true, Nat.zero_add, Nat.add_zero, if_true, if_false, eq_self]
    | split
    | with_reducible intro _
    | omega
set_option maxHeartbeats 4000000 in
theorem sX3_one {a : Int32} (hQ : ∀ v : Int32, Q (.inl (some (.int v))) w) : WP (MX3_one g) Q (0, [some (.int a)], [], w, 0, 0) := by
  repeat' first
    | with_reducible assumption
    | with_reducible refine And.intro ?_ ?_
    | with_reducible exact hQ _
    | with_reducible exact n4g
    | with_reducible refine ite_cs ?_ ?_
    | simp only [eX3_one_0, eX3_one_1, eX3_one_4, eX3_one_5, eX3_one_8, eX3_one_9, ite_le, n45, n54, true_or, or_true, false_or, or_false, false_and, and_false, kx_l, kx_r, go_s, gl_s, gi_s, gb_s2, gb_s3, gq_s, wt_nil, wt_int, wt_long, wt_ref, wt_null, nl_int, nl_long, nl_ref, nl_null, nl_none, rf_n, rf_s, rf_st, tl_s, tl_n, g0, gS, ex1, nb_b, nb_0, nb_1, nf_i, nf_l, nf_ra, nf_ro, nf_na, nf_no, nf_b0, nf_z0, t45_4, t45_5, true_and, and_true, List.set_cons_zero, List.set_cons_succ, List.length_cons, List.length_nil, rd_s, upw_s, ne_eq, not_false_eq_true, Nat.zero_add, Nat.add_zero, if_true, if_false, eq_self]
    | split
    | with_reducible intro _
    | omega
set_option maxHeartbeats 4000000 in
theorem sX3_become {a : Int32} {b : Int64} (hM : MM g w0 y nM kd w) (k0 : ¬ a < 0) (k1 : ¬ 7 < a) (hQ : ∀ (v : Int32) w', MM g w0 y nM kd w' → Q (.inl (some (.int v))) w') : WP (MX3_become g) Q (0, [some (.ref y), some (.int a), some (.long b), none], [], w, 0, 0) := by
  repeat' first
    | with_reducible assumption
    | with_reducible refine And.intro ?_ ?_
    | with_reducible exact absurd (by assumption) n10'
    | with_reducible refine sX3_isNoNumber ?_ (fun _ _ => ?_)
    | with_reducible refine sX3_isNoEnd ?_ (fun _ _ => ?_)
    | with_reducible refine sX3_isIn (fun _ _ => ?_) ?_
    | with_reducible refine sX3_start (by first | assumption | exact MMz.m (by assumption) | exact (by assumption : ∀ f', MM g w0 y nM kd (upw _ nM (.inl (0, 8, .inr (.inl f'))))) _) (by decide) (fun _ _ _ => ?_) (fun _ _ => ?_)
    | with_reducible refine sX3_refuse (by assumption) (by decide) (fun _ => ?_) (fun _ _ => ?_)
    | with_reducible exact vpi8n (by assumption) (by assumption)
    | with_reducible refine go_M (by first | assumption | exact MMz.m (by assumption) | exact (by assumption : ∀ f', MM g w0 y nM kd (upw _ nM (.inl (0, 8, .inr (.inl f'))))) _) ?_
    | with_reducible refine gl_M (by first | assumption | exact MMz.m (by assumption) | exact (by assumption : ∀ f', MM g w0 y nM kd (upw _ nM (.inl (0, 8, .inr (.inl f'))))) _) ?_
    | with_reducible refine gl_Mw (by first | assumption | exact MMz.m (by assumption) | exact (by assumption : ∀ f', MM g w0 y nM kd (upw _ nM (.inl (0, 8, .inr (.inl f'))))) _) ?_
    | with_reducible exact hQ _ _ (by first | assumption | exact MMz.m (by assumption) | exact (by assumption : ∀ f', MM g w0 y nM kd (upw _ nM (.inl (0, 8, .inr (.inl f'))))) _)
    | with_reducible exact hQ _
    | with_reducible exact n4g
    | with_reducible exact n4a
    | with_reducible exact n4b
    | with_reducible exact n4c
    | with_reducible refine sX3_high (fun _ => ?_)
    | with_reducible refine sX3_low (fun _ => ?_)
    | with_reducible refine sX3_one (fun _ => ?_)
    | simp only [eX3_become_0, eX3_become_0N, eX3_become_1, eX3_become_4, eX3_become_5, eX3_become_6, eX3_become_7, eX3_become_8, eX3_become_11, ite_le, n45, n54, true_or, or_true, false_or, or_false, false_and, and_false, kx_l, kx_r, go_s, gl_s, gi_s, gb_s2, gb_s3, gq_s, wt_nil, wt_int, wt_long, wt_ref, wt_null, nl_int, nl_long, nl_ref, nl_null, nl_none, rf_n, rf_s, rf_st, tl_s, tl_n, g0, gS, ex1, nb_b, nb_0, nb_1, nf_i, nf_l, nf_ra, nf_ro, nf_na, nf_no, nf_b0, nf_z0, t45_4, t45_5, true_and, and_true, List.set_cons_zero, List.set_cons_succ, List.length_cons, List.length_nil, rd_s, upw_s, ne_eq, not_false_eq_true, Nat.zero_add, Nat.add_zero, if_true, if_false, eq_self]
    | split
    | with_reducible intro _
    | omega
set_option maxHeartbeats 4000000 in
theorem sX3_set {a0 a1 a2 : Int32} (hM : MM g w0 y nM kd w) (hQ : ∀ (v : Int32) w', MM g w0 y nM kd w' → Q (.inl (some (.int v))) w') : WP (MX3_set g) Q (0, [some (.ref y), some (.int a0), some (.int a1), some (.int a2), none], [], w, 0, 0) := by
  repeat' first
    | with_reducible assumption
    | with_reducible refine And.intro ?_ ?_
    | with_reducible exact absurd (by assumption) n10'
    | with_reducible refine sX3_isNoNumber ?_ (fun _ _ => ?_)
    | with_reducible refine sX3_isNoEnd ?_ (fun _ _ => ?_)
    | with_reducible refine sX3_isIn (fun _ _ => ?_) ?_
    | with_reducible refine sX3_start (by first | assumption | exact MMz.m (by assumption) | exact (by assumption : ∀ f', MM g w0 y nM kd (upw _ nM (.inl (0, 8, .inr (.inl f'))))) _) (by decide) (fun _ _ _ => ?_) (fun _ _ => ?_)
    | with_reducible refine sX3_refuse (by assumption) (by decide) (fun _ => ?_) (fun _ _ => ?_)
    | with_reducible exact vpi8n (by assumption) (by assumption)
    | with_reducible refine go_M (by first | assumption | exact MMz.m (by assumption) | exact (by assumption : ∀ f', MM g w0 y nM kd (upw _ nM (.inl (0, 8, .inr (.inl f'))))) _) ?_
    | with_reducible refine gl_M (by first | assumption | exact MMz.m (by assumption) | exact (by assumption : ∀ f', MM g w0 y nM kd (upw _ nM (.inl (0, 8, .inr (.inl f'))))) _) ?_
    | with_reducible refine gl_Mw (by first | assumption | exact MMz.m (by assumption) | exact (by assumption : ∀ f', MM g w0 y nM kd (upw _ nM (.inl (0, 8, .inr (.inl f'))))) _) ?_
    | with_reducible exact hQ _ _ (by first | assumption | exact MMz.m (by assumption) | exact (by assumption : ∀ f', MM g w0 y nM kd (upw _ nM (.inl (0, 8, .inr (.inl f'))))) _)
    | with_reducible exact hQ _
    | with_reducible exact n4g
    | with_reducible exact n4a
    | with_reducible exact n4b
    | with_reducible exact n4c
    | with_reducible refine sX3_high (fun _ => ?_)
    | with_reducible refine sX3_low (fun _ => ?_)
    | with_reducible refine sX3_one (fun _ => ?_)
    | with_reducible refine sX3_become (by first | assumption | exact MMz.m (by assumption) | exact (by assumption : ∀ f', MM g w0 y nM kd (upw _ nM (.inl (0, 8, .inr (.inl f'))))) _) (by assumption) (by assumption) (fun _ _ _ => ?_)
    | simp only [eX3_set_0, eX3_set_0N, eX3_set_1, eX3_set_2, eX3_set_5, eX3_set_6, eX3_set_9, eX3_set_12, eX3_set_13, eX3_set_14, eX3_set_14N, eX3_set_15, eX3_set_18, eX3_set_19, eX3_set_20, eX3_set_23, eX3_set_25, eX3_set_25N, eX3_set_26, eX3_set_29, eX3_set_30, eX3_set_31, eX3_set_32, eX3_set_35, eX3_set_36, eX3_set_37, eX3_set_40, eX3_set_41, eX3_set_42, eX3_set_45, eX3_set_46, eX3_set_49, eX3_set_50, eX3_set_51, eX3_set_52, eX3_set_53, eX3_set_55, ite_le, n45, n54, true_or, or_true, false_or, or_false, false_and, and_false, kx_l, kx_r, go_s, gl_s, gi_s, gb_s2, gb_s3, gq_s, wt_nil, wt_int, wt_long, wt_ref, wt_null, nl_int, nl_long, nl_ref, nl_null, nl_none, rf_n, rf_s, rf_st, tl_s, tl_n, g0, gS, ex1, nb_b, nb_0, nb_1, nf_i, nf_l, nf_ra, nf_ro, nf_na, nf_no, nf_b0, nf_z0, t45_4, t45_5, true_and, and_true, List.set_cons_zero, List.set_cons_succ, List.length_cons, List.length_nil, rd_s, upw_s, ne_eq, not_false_eq_true, Nat.zero_add, Nat.add_zero, if_true, if_false, eq_self]
    | split
    | with_reducible intro _
    | omega
set_option maxHeartbeats 4000000 in
theorem sX3_setSmall {a0 a1 : Int32} (hM : MM g w0 y nM kd w) (hQ : ∀ (v : Int32) w', MM g w0 y nM kd w' → Q (.inl (some (.int v))) w') : WP (MX3_setSmall g) Q (0, [some (.ref y), some (.int a0), some (.int a1), none], [], w, 0, 0) := by
  repeat' first
    | with_reducible assumption
    | with_reducible refine And.intro ?_ ?_
    | with_reducible exact absurd (by assumption) n10'
    | with_reducible refine sX3_isNoNumber ?_ (fun _ _ => ?_)
    | with_reducible refine sX3_isNoEnd ?_ (fun _ _ => ?_)
    | with_reducible refine sX3_isIn (fun _ _ => ?_) ?_
    | with_reducible refine sX3_start (by first | assumption | exact MMz.m (by assumption) | exact (by assumption : ∀ f', MM g w0 y nM kd (upw _ nM (.inl (0, 8, .inr (.inl f'))))) _) (by decide) (fun _ _ _ => ?_) (fun _ _ => ?_)
    | with_reducible refine sX3_refuse (by assumption) (by decide) (fun _ => ?_) (fun _ _ => ?_)
    | with_reducible exact vpi8n (by assumption) (by assumption)
    | with_reducible refine go_M (by first | assumption | exact MMz.m (by assumption) | exact (by assumption : ∀ f', MM g w0 y nM kd (upw _ nM (.inl (0, 8, .inr (.inl f'))))) _) ?_
    | with_reducible refine gl_M (by first | assumption | exact MMz.m (by assumption) | exact (by assumption : ∀ f', MM g w0 y nM kd (upw _ nM (.inl (0, 8, .inr (.inl f'))))) _) ?_
    | with_reducible refine gl_Mw (by first | assumption | exact MMz.m (by assumption) | exact (by assumption : ∀ f', MM g w0 y nM kd (upw _ nM (.inl (0, 8, .inr (.inl f'))))) _) ?_
    | with_reducible exact hQ _ _ (by first | assumption | exact MMz.m (by assumption) | exact (by assumption : ∀ f', MM g w0 y nM kd (upw _ nM (.inl (0, 8, .inr (.inl f'))))) _)
    | with_reducible exact hQ _
    | with_reducible exact n4g
    | with_reducible exact n4a
    | with_reducible exact n4b
    | with_reducible exact n4c
    | with_reducible refine sX3_high (fun _ => ?_)
    | with_reducible refine sX3_low (fun _ => ?_)
    | with_reducible refine sX3_one (fun _ => ?_)
    | with_reducible refine sX3_become (by first | assumption | exact MMz.m (by assumption) | exact (by assumption : ∀ f', MM g w0 y nM kd (upw _ nM (.inl (0, 8, .inr (.inl f'))))) _) (by assumption) (by assumption) (fun _ _ _ => ?_)
    | simp only [eX3_setSmall_0, eX3_setSmall_0N, eX3_setSmall_1, eX3_setSmall_2, eX3_setSmall_5, eX3_setSmall_6, eX3_setSmall_9, eX3_setSmall_12, eX3_setSmall_13, eX3_setSmall_14, eX3_setSmall_14N, eX3_setSmall_15, eX3_setSmall_18, eX3_setSmall_19, eX3_setSmall_20, eX3_setSmall_23, eX3_setSmall_24, eX3_setSmall_24N, eX3_setSmall_25, eX3_setSmall_28, eX3_setSmall_29, eX3_setSmall_30, eX3_setSmall_31, eX3_setSmall_32, eX3_setSmall_33, ite_le, n45, n54, true_or, or_true, false_or, or_false, false_and, and_false, kx_l, kx_r, go_s, gl_s, gi_s, gb_s2, gb_s3, gq_s, wt_nil, wt_int, wt_long, wt_ref, wt_null, nl_int, nl_long, nl_ref, nl_null, nl_none, rf_n, rf_s, rf_st, tl_s, tl_n, g0, gS, ex1, nb_b, nb_0, nb_1, nf_i, nf_l, nf_ra, nf_ro, nf_na, nf_no, nf_b0, nf_z0, t45_4, t45_5, true_and, and_true, List.set_cons_zero, List.set_cons_succ, List.length_cons, List.length_nil, rd_s, upw_s, ne_eq, not_false_eq_true, Nat.zero_add, Nat.add_zero, if_true, if_false, eq_self]
    | split
    | with_reducible intro _
    | omega
set_option maxHeartbeats 4000000 in
theorem sX3_move {a0 a1 : Int32} (hM : MM g w0 y nM kd w) (hQ : ∀ (v : Int32) w', MM g w0 y nM kd w' → Q (.inl (some (.int v))) w') : WP (MX3_move g) Q (0, [some (.ref y), some (.int a0), some (.int a1)], [], w, 0, 0) := by
  repeat' first
    | with_reducible assumption
    | with_reducible refine And.intro ?_ ?_
    | with_reducible exact absurd (by assumption) n10'
    | with_reducible refine sX3_isNoNumber ?_ (fun _ _ => ?_)
    | with_reducible refine sX3_isNoEnd ?_ (fun _ _ => ?_)
    | with_reducible refine sX3_isIn (fun _ _ => ?_) ?_
    | with_reducible refine sX3_start (by first | assumption | exact MMz.m (by assumption) | exact (by assumption : ∀ f', MM g w0 y nM kd (upw _ nM (.inl (0, 8, .inr (.inl f'))))) _) (by decide) (fun _ _ _ => ?_) (fun _ _ => ?_)
    | with_reducible refine sX3_refuse (by assumption) (by decide) (fun _ => ?_) (fun _ _ => ?_)
    | with_reducible exact vpi8n (by assumption) (by assumption)
    | with_reducible refine go_M (by first | assumption | exact MMz.m (by assumption) | exact (by assumption : ∀ f', MM g w0 y nM kd (upw _ nM (.inl (0, 8, .inr (.inl f'))))) _) ?_
    | with_reducible refine gl_M (by first | assumption | exact MMz.m (by assumption) | exact (by assumption : ∀ f', MM g w0 y nM kd (upw _ nM (.inl (0, 8, .inr (.inl f'))))) _) ?_
    | with_reducible refine gl_Mw (by first | assumption | exact MMz.m (by assumption) | exact (by assumption : ∀ f', MM g w0 y nM kd (upw _ nM (.inl (0, 8, .inr (.inl f'))))) _) ?_
    | with_reducible exact hQ _ _ (by first | assumption | exact MMz.m (by assumption) | exact (by assumption : ∀ f', MM g w0 y nM kd (upw _ nM (.inl (0, 8, .inr (.inl f'))))) _)
    | with_reducible exact hQ _
    | with_reducible exact n4g
    | with_reducible exact n4a
    | with_reducible exact n4b
    | with_reducible exact n4c
    | with_reducible refine sX3_high (fun _ => ?_)
    | with_reducible refine sX3_low (fun _ => ?_)
    | with_reducible refine sX3_one (fun _ => ?_)
    | with_reducible refine sX3_become (by first | assumption | exact MMz.m (by assumption) | exact (by assumption : ∀ f', MM g w0 y nM kd (upw _ nM (.inl (0, 8, .inr (.inl f'))))) _) (by assumption) (by assumption) (fun _ _ _ => ?_)
    | simp only [eX3_move_0, eX3_move_0N, eX3_move_1, eX3_move_2, eX3_move_5, eX3_move_6, eX3_move_9, eX3_move_12, eX3_move_13, eX3_move_16, eX3_move_16N, eX3_move_17, eX3_move_18, eX3_move_18N, eX3_move_19, eX3_move_22, eX3_move_23, eX3_move_24, eX3_move_25, eX3_move_26, eX3_move_27, eX3_move_30, ite_le, n45, n54, true_or, or_true, false_or, or_false, false_and, and_false, kx_l, kx_r, go_s, gl_s, gi_s, gb_s2, gb_s3, gq_s, wt_nil, wt_int, wt_long, wt_ref, wt_null, nl_int, nl_long, nl_ref, nl_null, nl_none, rf_n, rf_s, rf_st, tl_s, tl_n, g0, gS, ex1, nb_b, nb_0, nb_1, nf_i, nf_l, nf_ra, nf_ro, nf_na, nf_no, nf_b0, nf_z0, t45_4, t45_5, true_and, and_true, List.set_cons_zero, List.set_cons_succ, List.length_cons, List.length_nil, rd_s, upw_s, ne_eq, not_false_eq_true, Nat.zero_add, Nat.add_zero, if_true, if_false, eq_self]
    | split
    | with_reducible intro _
    | omega
set_option maxHeartbeats 4000000 in
theorem sX3_copy {a0 a1 : Int32} (hM : MM g w0 y nM kd w) (hQ : ∀ (v : Int32) w', MM g w0 y nM kd w' → Q (.inl (some (.int v))) w') : WP (MX3_copy g) Q (0, [some (.ref y), some (.int a0), some (.int a1)], [], w, 0, 0) := by
  repeat' first
    | with_reducible assumption
    | with_reducible refine And.intro ?_ ?_
    | with_reducible exact absurd (by assumption) n10'
    | with_reducible refine sX3_isNoNumber ?_ (fun _ _ => ?_)
    | with_reducible refine sX3_isNoEnd ?_ (fun _ _ => ?_)
    | with_reducible refine sX3_isIn (fun _ _ => ?_) ?_
    | with_reducible refine sX3_start (by first | assumption | exact MMz.m (by assumption) | exact (by assumption : ∀ f', MM g w0 y nM kd (upw _ nM (.inl (0, 8, .inr (.inl f'))))) _) (by decide) (fun _ _ _ => ?_) (fun _ _ => ?_)
    | with_reducible refine sX3_refuse (by assumption) (by decide) (fun _ => ?_) (fun _ _ => ?_)
    | with_reducible exact vpi8n (by assumption) (by assumption)
    | with_reducible refine go_M (by first | assumption | exact MMz.m (by assumption) | exact (by assumption : ∀ f', MM g w0 y nM kd (upw _ nM (.inl (0, 8, .inr (.inl f'))))) _) ?_
    | with_reducible refine gl_M (by first | assumption | exact MMz.m (by assumption) | exact (by assumption : ∀ f', MM g w0 y nM kd (upw _ nM (.inl (0, 8, .inr (.inl f'))))) _) ?_
    | with_reducible refine gl_Mw (by first | assumption | exact MMz.m (by assumption) | exact (by assumption : ∀ f', MM g w0 y nM kd (upw _ nM (.inl (0, 8, .inr (.inl f'))))) _) ?_
    | with_reducible exact hQ _ _ (by first | assumption | exact MMz.m (by assumption) | exact (by assumption : ∀ f', MM g w0 y nM kd (upw _ nM (.inl (0, 8, .inr (.inl f'))))) _)
    | with_reducible exact hQ _
    | with_reducible exact n4g
    | with_reducible exact n4a
    | with_reducible exact n4b
    | with_reducible exact n4c
    | with_reducible refine sX3_high (fun _ => ?_)
    | with_reducible refine sX3_low (fun _ => ?_)
    | with_reducible refine sX3_one (fun _ => ?_)
    | with_reducible refine sX3_become (by first | assumption | exact MMz.m (by assumption) | exact (by assumption : ∀ f', MM g w0 y nM kd (upw _ nM (.inl (0, 8, .inr (.inl f'))))) _) (by assumption) (by assumption) (fun _ _ _ => ?_)
    | simp only [eX3_copy_0, eX3_copy_0N, eX3_copy_1, eX3_copy_2, eX3_copy_5, eX3_copy_8, eX3_copy_9, eX3_copy_12, eX3_copy_15, eX3_copy_16, eX3_copy_19, eX3_copy_20, eX3_copy_21, eX3_copy_24, eX3_copy_27, eX3_copy_28, eX3_copy_31, eX3_copy_31N, eX3_copy_32, eX3_copy_33, eX3_copy_33N, eX3_copy_34, eX3_copy_37, eX3_copy_38, eX3_copy_39, eX3_copy_42, ite_le, n45, n54, true_or, or_true, false_or, or_false, false_and, and_false, kx_l, kx_r, go_s, gl_s, gi_s, gb_s2, gb_s3, gq_s, wt_nil, wt_int, wt_long, wt_ref, wt_null, nl_int, nl_long, nl_ref, nl_null, nl_none, rf_n, rf_s, rf_st, tl_s, tl_n, g0, gS, ex1, nb_b, nb_0, nb_1, nf_i, nf_l, nf_ra, nf_ro, nf_na, nf_no, nf_b0, nf_z0, t45_4, t45_5, true_and, and_true, List.set_cons_zero, List.set_cons_succ, List.length_cons, List.length_nil, rd_s, upw_s, ne_eq, not_false_eq_true, Nat.zero_add, Nat.add_zero, if_true, if_false, eq_self]
    | split
    | with_reducible intro _
    | omega
set_option maxHeartbeats 4000000 in
theorem sX3_ofNumber {a0 a1 : Int32} (hM : MM g w0 y nM kd w) (hQ : ∀ (v : Int32) w', MM g w0 y nM kd w' → Q (.inl (some (.int v))) w') : WP (MX3_ofNumber g) Q (0, [some (.ref y), some (.int a0), some (.int a1)], [], w, 0, 0) := by
  repeat' first
    | with_reducible assumption
    | with_reducible refine And.intro ?_ ?_
    | with_reducible exact absurd (by assumption) n10'
    | with_reducible refine sX3_isNoNumber ?_ (fun _ _ => ?_)
    | with_reducible refine sX3_isNoEnd ?_ (fun _ _ => ?_)
    | with_reducible refine sX3_isIn (fun _ _ => ?_) ?_
    | with_reducible refine sX3_start (by first | assumption | exact MMz.m (by assumption) | exact (by assumption : ∀ f', MM g w0 y nM kd (upw _ nM (.inl (0, 8, .inr (.inl f'))))) _) (by decide) (fun _ _ _ => ?_) (fun _ _ => ?_)
    | with_reducible refine sX3_refuse (by assumption) (by decide) (fun _ => ?_) (fun _ _ => ?_)
    | with_reducible exact vpi8n (by assumption) (by assumption)
    | with_reducible refine go_M (by first | assumption | exact MMz.m (by assumption) | exact (by assumption : ∀ f', MM g w0 y nM kd (upw _ nM (.inl (0, 8, .inr (.inl f'))))) _) ?_
    | with_reducible refine gl_M (by first | assumption | exact MMz.m (by assumption) | exact (by assumption : ∀ f', MM g w0 y nM kd (upw _ nM (.inl (0, 8, .inr (.inl f'))))) _) ?_
    | with_reducible refine gl_Mw (by first | assumption | exact MMz.m (by assumption) | exact (by assumption : ∀ f', MM g w0 y nM kd (upw _ nM (.inl (0, 8, .inr (.inl f'))))) _) ?_
    | with_reducible exact hQ _ _ (by first | assumption | exact MMz.m (by assumption) | exact (by assumption : ∀ f', MM g w0 y nM kd (upw _ nM (.inl (0, 8, .inr (.inl f'))))) _)
    | with_reducible exact hQ _
    | with_reducible exact n4g
    | with_reducible exact n4a
    | with_reducible exact n4b
    | with_reducible exact n4c
    | with_reducible refine sX3_high (fun _ => ?_)
    | with_reducible refine sX3_low (fun _ => ?_)
    | with_reducible refine sX3_one (fun _ => ?_)
    | with_reducible refine sX3_become (by first | assumption | exact MMz.m (by assumption) | exact (by assumption : ∀ f', MM g w0 y nM kd (upw _ nM (.inl (0, 8, .inr (.inl f'))))) _) (by assumption) (by assumption) (fun _ _ _ => ?_)
    | simp only [eX3_ofNumber_0, eX3_ofNumber_0N, eX3_ofNumber_1, eX3_ofNumber_2, eX3_ofNumber_5, eX3_ofNumber_6, eX3_ofNumber_9, eX3_ofNumber_12, eX3_ofNumber_13, eX3_ofNumber_14, eX3_ofNumber_15, eX3_ofNumber_18, eX3_ofNumber_18N, eX3_ofNumber_19, eX3_ofNumber_22, eX3_ofNumber_23, eX3_ofNumber_24, eX3_ofNumber_27, eX3_ofNumber_30, eX3_ofNumber_30N, eX3_ofNumber_31, eX3_ofNumber_34, eX3_ofNumber_35, eX3_ofNumber_36, eX3_ofNumber_39, ite_le, n45, n54, true_or, or_true, false_or, or_false, false_and, and_false, kx_l, kx_r, go_s, gl_s, gi_s, gb_s2, gb_s3, gq_s, wt_nil, wt_int, wt_long, wt_ref, wt_null, nl_int, nl_long, nl_ref, nl_null, nl_none, rf_n, rf_s, rf_st, tl_s, tl_n, g0, gS, ex1, nb_b, nb_0, nb_1, nf_i, nf_l, nf_ra, nf_ro, nf_na, nf_no, nf_b0, nf_z0, t45_4, t45_5, true_and, and_true, List.set_cons_zero, List.set_cons_succ, List.length_cons, List.length_nil, rd_s, upw_s, ne_eq, not_false_eq_true, Nat.zero_add, Nat.add_zero, if_true, if_false, eq_self]
    | split
    | with_reducible intro _
    | omega
set_option maxHeartbeats 4000000 in
theorem sX3_order {a0 a1 : Int32} (hM : MM g w0 y nM kd w) (hQ : ∀ (v : Int32) w', MM g w0 y nM kd w' → Q (.inl (some (.int v))) w') : WP (MX3_order g) Q (0, [some (.ref y), some (.int a0), some (.int a1)], [], w, 0, 0) := by
  repeat' first
    | with_reducible assumption
    | with_reducible refine And.intro ?_ ?_
    | with_reducible exact absurd (by assumption) n10'
    | with_reducible refine sX3_isNoNumber ?_ (fun _ _ => ?_)
    | with_reducible refine sX3_isNoEnd ?_ (fun _ _ => ?_)
    | with_reducible refine sX3_isIn (fun _ _ => ?_) ?_
    | with_reducible refine sX3_start (by first | assumption | exact MMz.m (by assumption) | exact (by assumption : ∀ f', MM g w0 y nM kd (upw _ nM (.inl (0, 8, .inr (.inl f'))))) _) (by decide) (fun _ _ _ => ?_) (fun _ _ => ?_)
    | with_reducible refine sX3_refuse (by assumption) (by decide) (fun _ => ?_) (fun _ _ => ?_)
    | with_reducible exact vpi8n (by assumption) (by assumption)
    | with_reducible refine go_M (by first | assumption | exact MMz.m (by assumption) | exact (by assumption : ∀ f', MM g w0 y nM kd (upw _ nM (.inl (0, 8, .inr (.inl f'))))) _) ?_
    | with_reducible refine gl_M (by first | assumption | exact MMz.m (by assumption) | exact (by assumption : ∀ f', MM g w0 y nM kd (upw _ nM (.inl (0, 8, .inr (.inl f'))))) _) ?_
    | with_reducible refine gl_Mw (by first | assumption | exact MMz.m (by assumption) | exact (by assumption : ∀ f', MM g w0 y nM kd (upw _ nM (.inl (0, 8, .inr (.inl f'))))) _) ?_
    | with_reducible exact hQ _ _ (by first | assumption | exact MMz.m (by assumption) | exact (by assumption : ∀ f', MM g w0 y nM kd (upw _ nM (.inl (0, 8, .inr (.inl f'))))) _)
    | with_reducible exact hQ _
    | with_reducible exact n4g
    | with_reducible exact n4a
    | with_reducible exact n4b
    | with_reducible exact n4c
    | with_reducible refine sX3_high (fun _ => ?_)
    | with_reducible refine sX3_low (fun _ => ?_)
    | with_reducible refine sX3_one (fun _ => ?_)
    | with_reducible refine sX3_become (by first | assumption | exact MMz.m (by assumption) | exact (by assumption : ∀ f', MM g w0 y nM kd (upw _ nM (.inl (0, 8, .inr (.inl f'))))) _) (by assumption) (by assumption) (fun _ _ _ => ?_)
    | simp only [eX3_order_0, eX3_order_0N, eX3_order_1, eX3_order_2, eX3_order_5, eX3_order_8, eX3_order_9, eX3_order_12, eX3_order_15, eX3_order_16, eX3_order_19, eX3_order_20, eX3_order_21, eX3_order_24, eX3_order_27, eX3_order_28, eX3_order_29, eX3_order_29N, eX3_order_30, eX3_order_33, eX3_order_34, eX3_order_35, eX3_order_35N, eX3_order_36, eX3_order_39, eX3_order_40, eX3_order_41, eX3_order_42, eX3_order_45, eX3_order_46, eX3_order_49, eX3_order_49N, eX3_order_50, eX3_order_53, eX3_order_54, eX3_order_55, eX3_order_55N, eX3_order_56, eX3_order_59, eX3_order_60, eX3_order_61, eX3_order_62, eX3_order_65, eX3_order_66, eX3_order_69, eX3_order_70, eX3_order_73, ite_le, n45, n54, true_or, or_true, false_or, or_false, false_and, and_false, kx_l, kx_r, go_s, gl_s, gi_s, gb_s2, gb_s3, gq_s, wt_nil, wt_int, wt_long, wt_ref, wt_null, nl_int, nl_long, nl_ref, nl_null, nl_none, rf_n, rf_s, rf_st, tl_s, tl_n, g0, gS, ex1, nb_b, nb_0, nb_1, nf_i, nf_l, nf_ra, nf_ro, nf_na, nf_no, nf_b0, nf_z0, t45_4, t45_5, true_and, and_true, List.set_cons_zero, List.set_cons_succ, List.length_cons, List.length_nil, rd_s, upw_s, ne_eq, not_false_eq_true, Nat.zero_add, Nat.add_zero, if_true, if_false, eq_self]
    | split
    | with_reducible intro _
    | omega
end
