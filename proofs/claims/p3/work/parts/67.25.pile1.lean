section
variable {g : RO} {Q : Ot → Hw → Prop} {w0 w : Hw} {x nA cA lA : Nat} {kn : Int32}
set_option maxHeartbeats 4000000 in
theorem lX1_sweep_7 {i1 : Int32} (hQ : ∀ (v : Int32) (w' : Hw), CC g w0 x nA cA lA kn w' → Q (.inl (some (.int v))) w') : ∀ (d : Nat) (i2 : Int32) (w1 : Hw) (k m : Nat), CC g w0 x nA cA lA kn w1 → ¬ i2 < 0 → (12 : Int32).toInt - i2.toInt ≤ (d : Int) → k ≤ 0 → m ≤ 0 → WP (MX1_sweep g) Q (7, [some (.ref x), some (.int i1), some (.int i2)], [], w1, k, m) := by
  intro d
  induction d with
  | zero =>
    intro i2 w1 k m hC z0 hm hk hs
    obtain ⟨n, rf, md, f, gc, gl, hx, hn, hc, hl, hgc, hgl, hn0, hn1, rx, rn, rc, rl, ⟨d1, d2, d3, d4, d5, d6⟩, ⟨d7, d8, d9, d10, d11, d12⟩⟩ := hC.1.opn g
    rw [eX1_sweep_7]
    repeat' first
      | with_reducible assumption
      | with_reducible refine And.intro ?_ ?_
      | with_reducible exact vpi6 (by assumption) (by assumption)
      | with_reducible exact vpi8 (by assumption) (by assumption)
      | with_reducible exact (ic_z (by assumption) (by assumption)).elim
      | with_reducible exact vpi12l (by assumption) (by assumption)
      | with_reducible exact hQ _ _ (hC.obj _ _ _ _ (by decide) (by decide))
      | simp only [eX1_sweep_0, eX1_sweep_0N, eX1_sweep_1, eX1_sweep_4, eX1_sweep_5, eX1_sweep_6, eX1_sweep_8, eX1_sweep_8N, eX1_sweep_9, eX1_sweep_12, eX1_sweep_13, eX1_sweep_16, eX1_sweep_16N, eX1_sweep_17, eX1_sweep_20, eX1_sweep_21, eX1_sweep_22N, eX1_sweep_22R, eX1_sweep_23, eX1_sweep_26, eX1_sweep_29, eX1_sweep_29N, eX1_sweep_30, eX1_sweep_31, eX1_sweep_34, eX1_sweep_35, rx, rn, rc, rl, hx, hn, hc, hl, d1, d2, d3, d4, d5, d6, d7, d8, d9, d10, d11, d12, rd_n, upw_n, exal, of12, ite_le, n45, n54, true_or, or_true, false_or, or_false, false_and, and_false, kx_l, kx_r, go_s, gl_s, gi_s, gb_s2, gb_s3, gq_s, wt_nil, wt_int, wt_long, wt_ref, wt_null, nl_int, nl_long, nl_ref, nl_null, nl_none, rf_n, rf_s, rf_st, tl_s, tl_n, g0, gS, ex1, nb_b, nb_0, nb_1, nf_i, nf_l, nf_ra, nf_ro, nf_na, nf_no, nf_b0, nf_z0, t45_4, t45_5, true_and, and_true, List.set_cons_zero, List.set_cons_succ, List.length_cons, List.length_nil, rd_s, upw_s, ne_eq, not_false_eq_true, Nat.zero_add, Nat.add_zero]
      | split
      | with_reducible intro _
      | omega
  | succ d ih =>
    intro i2 w1 k m hC z0 hm hk hs
    obtain ⟨n, rf, md, f, gc, gl, hx, hn, hc, hl, hgc, hgl, hn0, hn1, rx, rn, rc, rl, ⟨d1, d2, d3, d4, d5, d6⟩, ⟨d7, d8, d9, d10, d11, d12⟩⟩ := hC.1.opn g
    rw [eX1_sweep_7]
    repeat' first
      | with_reducible assumption
      | with_reducible refine And.intro ?_ ?_
      | with_reducible exact vpi6 (by assumption) (by assumption)
      | with_reducible exact vpi8 (by assumption) (by assumption)
      | with_reducible exact ih _ _ _ _ (hC.laid _ (up_ok hgl fun b z => by first | (cases z; done) | (cases z; exact hgl _ _ (by assumption)))) (ic_p (by assumption) (by assumption)) (ic_s (by assumption) (by assumption)) (by assumption) (by assumption)
      | with_reducible exact vpi12l (by assumption) (by assumption)
      | with_reducible exact hQ _ _ (hC.obj _ _ _ _ (by decide) (by decide))
      | simp only [eX1_sweep_0, eX1_sweep_0N, eX1_sweep_1, eX1_sweep_4, eX1_sweep_5, eX1_sweep_6, eX1_sweep_8, eX1_sweep_8N, eX1_sweep_9, eX1_sweep_12, eX1_sweep_13, eX1_sweep_16, eX1_sweep_16N, eX1_sweep_17, eX1_sweep_20, eX1_sweep_21, eX1_sweep_22N, eX1_sweep_22R, eX1_sweep_23, eX1_sweep_26, eX1_sweep_29, eX1_sweep_29N, eX1_sweep_30, eX1_sweep_31, eX1_sweep_34, eX1_sweep_35, rx, rn, rc, rl, hx, hn, hc, hl, d1, d2, d3, d4, d5, d6, d7, d8, d9, d10, d11, d12, rd_n, upw_n, exal, of12, ite_le, n45, n54, true_or, or_true, false_or, or_false, false_and, and_false, kx_l, kx_r, go_s, gl_s, gi_s, gb_s2, gb_s3, gq_s, wt_nil, wt_int, wt_long, wt_ref, wt_null, nl_int, nl_long, nl_ref, nl_null, nl_none, rf_n, rf_s, rf_st, tl_s, tl_n, g0, gS, ex1, nb_b, nb_0, nb_1, nf_i, nf_l, nf_ra, nf_ro, nf_na, nf_no, nf_b0, nf_z0, t45_4, t45_5, true_and, and_true, List.set_cons_zero, List.set_cons_succ, List.length_cons, List.length_nil, rd_s, upw_s, ne_eq, not_false_eq_true, Nat.zero_add, Nat.add_zero]
      | split
      | with_reducible intro _
      | omega
set_option maxHeartbeats 4000000 in
theorem sX1_sweep  (hC : CC g w0 x nA cA lA kn w) (hQ : ∀ (v : Int32) (w' : Hw), CC g w0 x nA cA lA kn w' → Q (.inl (some (.int v))) w') : WP (MX1_sweep g) Q (0, [some (.ref x), none, none], [], w, 0, 0) := by
  obtain ⟨n, rf, md, f, gc, gl, hx, hn, hc, hl, hgc, hgl, hn0, hn1, rx, rn, rc, rl, ⟨d1, d2, d3, d4, d5, d6⟩, ⟨d7, d8, d9, d10, d11, d12⟩⟩ := hC.1.opn g
  repeat' first
    | with_reducible assumption
    | with_reducible refine And.intro ?_ ?_
    | with_reducible exact vpi6 (by assumption) (by assumption)
    | with_reducible exact vpi8 (by assumption) (by assumption)
    | with_reducible exact lX1_sweep_7 hQ 70 _ _ _ _ hC (by decide) (by decide) (by decide) (by decide)
    | with_reducible refine go_R (by first | assumption | exact hgc _ _ (by assumption) | exact hgl _ _ (by assumption) | exact isR.ext (by assumption) (by repeat' first | assumption | exact ext.rf | refine ext.tr (by assumption) ?_) | exact isR.ext (hgc _ _ (by assumption)) (by repeat' first | assumption | exact ext.rf | refine ext.tr (by assumption) ?_)) ?_
    | with_reducible exact hQ _ _ (by first | assumption | exact CC.ext hC (by repeat' first | assumption | exact ext.rf | refine ext.tr (by assumption) ?_))
    | simp only [eX1_sweep_0, eX1_sweep_0N, eX1_sweep_1, eX1_sweep_4, eX1_sweep_5, eX1_sweep_6, eX1_sweep_8, eX1_sweep_8N, eX1_sweep_9, eX1_sweep_12, eX1_sweep_13, eX1_sweep_16, eX1_sweep_16N, eX1_sweep_17, eX1_sweep_20, eX1_sweep_21, eX1_sweep_22N, eX1_sweep_22R, eX1_sweep_23, eX1_sweep_26, eX1_sweep_29, eX1_sweep_29N, eX1_sweep_30, eX1_sweep_31, eX1_sweep_34, eX1_sweep_35, rx, rn, rc, rl, hx, hn, hc, hl, d1, d2, d3, d4, d5, d6, d7, d8, d9, d10, d11, d12, rd_n, upw_n, ite_le, n45, n54, true_or, or_true, false_or, or_false, false_and, and_false, kx_l, kx_r, go_s, gl_s, gi_s, gb_s2, gb_s3, gq_s, wt_nil, wt_int, wt_long, wt_ref, wt_null, nl_int, nl_long, nl_ref, nl_null, nl_none, rf_n, rf_s, rf_st, tl_s, tl_n, g0, gS, ex1, nb_b, nb_0, nb_1, nf_i, nf_l, nf_ra, nf_ro, nf_na, nf_no, nf_b0, nf_z0, t45_4, t45_5, true_and, and_true, List.set_cons_zero, List.set_cons_succ, List.length_cons, List.length_nil, rd_s, upw_s, ne_eq, not_false_eq_true, Nat.zero_add, Nat.add_zero]
    | split
    | with_reducible intro _
    | omega
theorem tn_half {n : Int32} (h0 : ¬ n < 0) (h1 : ¬ 12 < n) : (n / 2).toInt * 2 ≤ n.toInt := by
  have e12 : (12 : Int32).toInt = 12 := rfl
  rcases sw_0 n 12 (by decide) with ⟨k, h, rfl⟩ | h
  · match k, h with
    | 0, _ => decide
    | 1, _ => decide
    | 2, _ => decide
    | 3, _ => decide
    | 4, _ => decide
    | 5, _ => decide
    | 6, _ => decide
    | 7, _ => decide
    | 8, _ => decide
    | 9, _ => decide
    | 10, _ => decide
    | 11, _ => decide
    | 12, _ => decide
  · have a := i32_0 h0
    have b := i32_nlt h1
    omega
theorem tn_lt {i n : Int32} (h0 : ¬ n < 0) (h1 : ¬ 12 < n) (z : ¬ i < 0) (h : i < n / 2) : i < n := by
  have a := tn_half h0 h1
  have b := i32_lt h
  have c := i32_0 z
  exact i32_of_lt (by omega)
theorem tn_ac {i n : Int32} (h0 : ¬ n < 0) (h1 : ¬ 12 < n) (z : ¬ i < 0) (h : i < n / 2) : vp_in (n - 1 - i) 12 := by
  have a := tn_half h0 h1
  have b := i32_lt h
  have c := i32_0 z
  have e1 : (1 : Int32).toInt = 1 := rfl
  have e0 : (0 : Int32).toInt = 0 := rfl
  have bn := i32_bd n
  have s1 : (n - 1).toInt = n.toInt - 1 := by
    rw [i32_sub (by omega) (by omega), e1]
  have s2 : (n - 1 - i).toInt = n.toInt - 1 - i.toInt := by
    rw [i32_sub (by omega) (by omega), s1]
  exact vpi12 (n := n) (i32_of_nlt (by rw [s2, e0]; omega)) (i32_of_lt (by omega)) h1
theorem tn_2 : (¬ (2 : Int32) = 0) = True := eq_true (by decide)
theorem tn_m {n : Int32} (h0 : ¬ n < 0) (h1 : ¬ 12 < n) : (n / 2).toInt - (0 : Int32).toInt ≤ ((70 : Nat) : Int) := by
  have a := tn_half h0 h1
  have b : n.toInt ≤ 12 := i32_nlt h1
  have e0 : (0 : Int32).toInt = 0 := rfl
  omega
set_option maxHeartbeats 4000000 in
theorem lX1_turn_2 {n rf md : Int32} (hQ : ∀ (v : Int32) (w' : Hw), CC g w0 x nA cA lA kn w' → Q (.inl (some (.int v))) w') : ∀ (d : Nat) (i1 : Int32) (i2 i3 : Option Value) (w1 : Hw) (k m : Nat), CC g w0 x nA cA lA kn w1 → w1 x = some (.inr (5, [.ref nA, .ref cA, .ref lA, .int n, .int rf, .int kn, .int md])) → ¬ i1 < 0 → (n / 2).toInt - i1.toInt ≤ (d : Int) → k ≤ 0 → m ≤ 0 → WP (MX1_turn g) Q (2, [some (.ref x), some (.int i1), i2, i3], [], w1, k, m) := by
  intro d
  induction d with
  | zero =>
    intro i1 i2 i3 w1 k m hC hx z0 hm hk hs
    obtain ⟨f, gc, gl, hx, hn, hc, hl, hgc, hgl, hn0, hn1, rx, rn, rc, rl, ⟨d1, d2, d3, d4, d5, d6⟩, ⟨d7, d8, d9, d10, d11, d12⟩⟩ := hC.1.opn2 (g := g) hx
    rw [eX1_turn_2]
    repeat' first
      | with_reducible assumption
      | with_reducible refine And.intro ?_ ?_
      | with_reducible exact vpi6 (by assumption) (by assumption)
      | with_reducible exact vpi8 (by assumption) (by assumption)
      | with_reducible exact (ic_z (by assumption) (by assumption)).elim
      | with_reducible refine Or.inl ?_
      | with_reducible refine go_Rw (by first | assumption | exact hgl _ _ (by assumption) | exact isR_up2 (hgl _ _ (by assumption)) hl (by simp)) ?_
      | with_reducible exact vpi12 (by assumption) (tn_lt (by assumption) (by assumption) (by assumption) (by assumption)) (by assumption)
      | with_reducible exact tn_ac (by assumption) (by assumption) (by assumption) (by assumption)
      | with_reducible exact hQ _ _ hC
      | simp only [eX1_turn_0, eX1_turn_1, eX1_turn_3, eX1_turn_3N, eX1_turn_4, eX1_turn_7, eX1_turn_8, eX1_turn_9, eX1_turn_12, eX1_turn_12N, eX1_turn_13, eX1_turn_16, eX1_turn_17, eX1_turn_18, eX1_turn_19, eX1_turn_20, eX1_turn_21, eX1_turn_21N, eX1_turn_22, eX1_turn_25, eX1_turn_26, eX1_turn_27, eX1_turn_27N, eX1_turn_28, eX1_turn_28N, eX1_turn_29, eX1_turn_32, eX1_turn_33, eX1_turn_33N, eX1_turn_34, eX1_turn_37, eX1_turn_38, eX1_turn_39N, eX1_turn_39R, eX1_turn_40, eX1_turn_40N, eX1_turn_41, eX1_turn_44, eX1_turn_45, eX1_turn_45N, eX1_turn_46N, eX1_turn_46R, eX1_turn_47, eX1_turn_50, eX1_turn_53, eX1_turn_53N, eX1_turn_54, eX1_turn_57, rx, rn, rc, rl, hx, hn, hc, hl, d1, d2, d3, d4, d5, d6, d7, d8, d9, d10, d11, d12, rd_n, upw_n, tn_2, ite_le, n45, n54, true_or, or_true, false_or, or_false, false_and, and_false, kx_l, kx_r, go_s, gl_s, gi_s, gb_s2, gb_s3, gq_s, wt_nil, wt_int, wt_long, wt_ref, wt_null, nl_int, nl_long, nl_ref, nl_null, nl_none, rf_n, rf_s, rf_st, tl_s, tl_n, g0, gS, ex1, nb_b, nb_0, nb_1, nf_i, nf_l, nf_ra, nf_ro, nf_na, nf_no, nf_b0, nf_z0, t45_4, t45_5, true_and, and_true, List.set_cons_zero, List.set_cons_succ, List.length_cons, List.length_nil, rd_s, upw_s, ne_eq, not_false_eq_true, Nat.zero_add, Nat.add_zero]
      | split
      | with_reducible intro _
      | omega
  | succ d ih =>
    intro i1 i2 i3 w1 k m hC hx z0 hm hk hs
    obtain ⟨f, gc, gl, hx, hn, hc, hl, hgc, hgl, hn0, hn1, rx, rn, rc, rl, ⟨d1, d2, d3, d4, d5, d6⟩, ⟨d7, d8, d9, d10, d11, d12⟩⟩ := hC.1.opn2 (g := g) hx
    rw [eX1_turn_2]
    repeat' first
      | with_reducible assumption
      | with_reducible refine And.intro ?_ ?_
      | with_reducible exact vpi6 (by assumption) (by assumption)
      | with_reducible exact vpi8 (by assumption) (by assumption)
      | with_reducible exact ih _ _ _ _ _ _ (hC.laid2 hl _ _ (up_ok hgl fun b z => by first | (cases z; done) | (cases z; exact hgl _ _ (by assumption))) (up_ok (up_ok hgl fun b z => by first | (cases z; done) | (cases z; exact hgl _ _ (by assumption))) fun b z => by first | (cases z; done) | (cases z; exact hgl _ _ (by assumption)))) (by rw [upw_n d3, upw_n d3]; exact hx) (ic_p (by assumption) (by assumption)) (ic_s (by assumption) (by assumption)) (by assumption) (by assumption)
      | with_reducible refine Or.inl ?_
      | with_reducible refine go_Rw (by first | assumption | exact hgl _ _ (by assumption) | exact isR_up2 (hgl _ _ (by assumption)) hl (by simp)) ?_
      | with_reducible exact vpi12 (by assumption) (tn_lt (by assumption) (by assumption) (by assumption) (by assumption)) (by assumption)
      | with_reducible exact tn_ac (by assumption) (by assumption) (by assumption) (by assumption)
      | with_reducible exact hQ _ _ hC
      | simp only [eX1_turn_0, eX1_turn_1, eX1_turn_3, eX1_turn_3N, eX1_turn_4, eX1_turn_7, eX1_turn_8, eX1_turn_9, eX1_turn_12, eX1_turn_12N, eX1_turn_13, eX1_turn_16, eX1_turn_17, eX1_turn_18, eX1_turn_19, eX1_turn_20, eX1_turn_21, eX1_turn_21N, eX1_turn_22, eX1_turn_25, eX1_turn_26, eX1_turn_27, eX1_turn_27N, eX1_turn_28, eX1_turn_28N, eX1_turn_29, eX1_turn_32, eX1_turn_33, eX1_turn_33N, eX1_turn_34, eX1_turn_37, eX1_turn_38, eX1_turn_39N, eX1_turn_39R, eX1_turn_40, eX1_turn_40N, eX1_turn_41, eX1_turn_44, eX1_turn_45, eX1_turn_45N, eX1_turn_46N, eX1_turn_46R, eX1_turn_47, eX1_turn_50, eX1_turn_53, eX1_turn_53N, eX1_turn_54, eX1_turn_57, rx, rn, rc, rl, hx, hn, hc, hl, d1, d2, d3, d4, d5, d6, d7, d8, d9, d10, d11, d12, rd_n, upw_n, tn_2, ite_le, n45, n54, true_or, or_true, false_or, or_false, false_and, and_false, kx_l, kx_r, go_s, gl_s, gi_s, gb_s2, gb_s3, gq_s, wt_nil, wt_int, wt_long, wt_ref, wt_null, nl_int, nl_long, nl_ref, nl_null, nl_none, rf_n, rf_s, rf_st, tl_s, tl_n, g0, gS, ex1, nb_b, nb_0, nb_1, nf_i, nf_l, nf_ra, nf_ro, nf_na, nf_no, nf_b0, nf_z0, t45_4, t45_5, true_and, and_true, List.set_cons_zero, List.set_cons_succ, List.length_cons, List.length_nil, rd_s, upw_s, ne_eq, not_false_eq_true, Nat.zero_add, Nat.add_zero]
      | split
      | with_reducible intro _
      | omega
set_option maxHeartbeats 4000000 in
theorem sX1_turn  (hC : CC g w0 x nA cA lA kn w) (hQ : ∀ (v : Int32) (w' : Hw), CC g w0 x nA cA lA kn w' → Q (.inl (some (.int v))) w') : WP (MX1_turn g) Q (0, [some (.ref x), none, none, none], [], w, 0, 0) := by
  obtain ⟨n, rf, md, f, gc, gl, hx, hn, hc, hl, hgc, hgl, hn0, hn1, rx, rn, rc, rl, ⟨d1, d2, d3, d4, d5, d6⟩, ⟨d7, d8, d9, d10, d11, d12⟩⟩ := hC.1.opn g
  repeat' first
    | with_reducible assumption
    | with_reducible refine And.intro ?_ ?_
    | with_reducible exact vpi6 (by assumption) (by assumption)
    | with_reducible exact vpi8 (by assumption) (by assumption)
    | with_reducible exact lX1_turn_2 hQ 70 _ _ _ _ _ _ hC hx (by decide) (tn_m hn0 hn1) (by decide) (by decide)
    | with_reducible refine go_R (by first | assumption | exact hgc _ _ (by assumption) | exact hgl _ _ (by assumption) | exact isR.ext (by assumption) (by repeat' first | assumption | exact ext.rf | refine ext.tr (by assumption) ?_) | exact isR.ext (hgc _ _ (by assumption)) (by repeat' first | assumption | exact ext.rf | refine ext.tr (by assumption) ?_)) ?_
    | with_reducible exact hQ _ _ (by first | assumption | exact CC.ext hC (by repeat' first | assumption | exact ext.rf | refine ext.tr (by assumption) ?_))
    | simp only [eX1_turn_0, eX1_turn_1, eX1_turn_3, eX1_turn_3N, eX1_turn_4, eX1_turn_7, eX1_turn_8, eX1_turn_9, eX1_turn_12, eX1_turn_12N, eX1_turn_13, eX1_turn_16, eX1_turn_17, eX1_turn_18, eX1_turn_19, eX1_turn_20, eX1_turn_21, eX1_turn_21N, eX1_turn_22, eX1_turn_25, eX1_turn_26, eX1_turn_27, eX1_turn_27N, eX1_turn_28, eX1_turn_28N, eX1_turn_29, eX1_turn_32, eX1_turn_33, eX1_turn_33N, eX1_turn_34, eX1_turn_37, eX1_turn_38, eX1_turn_39N, eX1_turn_39R, eX1_turn_40, eX1_turn_40N, eX1_turn_41, eX1_turn_44, eX1_turn_45, eX1_turn_45N, eX1_turn_46N, eX1_turn_46R, eX1_turn_47, eX1_turn_50, eX1_turn_53, eX1_turn_53N, eX1_turn_54, eX1_turn_57, rx, rn, rc, rl, hx, hn, hc, hl, d1, d2, d3, d4, d5, d6, d7, d8, d9, d10, d11, d12, rd_n, upw_n, ite_le, n45, n54, true_or, or_true, false_or, or_false, false_and, and_false, kx_l, kx_r, go_s, gl_s, gi_s, gb_s2, gb_s3, gq_s, wt_nil, wt_int, wt_long, wt_ref, wt_null, nl_int, nl_long, nl_ref, nl_null, nl_none, rf_n, rf_s, rf_st, tl_s, tl_n, g0, gS, ex1, nb_b, nb_0, nb_1, nf_i, nf_l, nf_ra, nf_ro, nf_na, nf_no, nf_b0, nf_z0, t45_4, t45_5, true_and, and_true, List.set_cons_zero, List.set_cons_succ, List.length_cons, List.length_nil, rd_s, upw_s, ne_eq, not_false_eq_true, Nat.zero_add, Nat.add_zero]
    | split
    | with_reducible intro _
    | omega
end
