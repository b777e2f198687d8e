section
variable {g : RO} {Q : Ot → Hw → Prop} {w0 w : Hw} {x nA cA lA : Nat} {kn : Int32}
theorem RC.opn2 {g : RO} {w : Hw} {x nA cA lA : Nat} {kn n rf md : Int32} (h : RC w x nA cA lA kn) (k : w x = some (.inr (5, [.ref nA, .ref cA, .ref lA, .int n, .int rf, .int kn, .int md]))) : ∃ (f : Nat → Int64) (gc gl : Nat → Option Nat), RO5 g w x nA cA lA n rf kn md f gc gl := by
  obtain ⟨n', rf', md', f, gc, gl, h1, z⟩ := h.opn g
  have e := h1.symm.trans k
  simp only [Option.some.injEq, Sum.inr.injEq, Prod.mk.injEq, List.cons.injEq, Value.int.injEq, true_and, and_true] at e
  obtain ⟨rfl, rfl, rfl⟩ := e
  exact ⟨f, gc, gl, h1, z⟩
theorem CC.laid2 {g : RO} {w0 w : Hw} {x nA cA lA : Nat} {kn : Int32} {g0 : Nat → Option Nat} (h : CC g w0 x nA cA lA kn w) (hl : w lA = some (.inl (4, 12, qc g0))) (g1 g2 : Nat → Option Nat) (h1 : ∀ i b, g1 i = some b → isR w b) (h2 : ∀ i b, g2 i = some b → isR w b) : CC g w0 x nA cA lA kn (upw (upw w lA (.inl (4, 12, qc g1))) lA (.inl (4, 12, qc g2))) :=
  (h.laid g1 h1).laid g2 fun i b z => isR_up2 (h2 i b z) hl (by simp)
theorem CC.objlaid {g : RO} {w0 w : Hw} {x nA cA lA : Nat} {kn n rf md : Int32} (h : CC g w0 x nA cA lA kn w) (hx : w x = some (.inr (5, [.ref nA, .ref cA, .ref lA, .int n, .int rf, .int kn, .int md]))) (n' : Int32) (g1 : Nat → Option Nat) (h1 : ∀ i b, g1 i = some b → isR w b) (k1 : ¬ n' < 0) (k2 : ¬ 12 < n') : CC g w0 x nA cA lA kn (upw (upw w x (.inr (5, [.ref nA, .ref cA, .ref lA, .int n', .int rf, .int kn, .int md]))) lA (.inl (4, 12, qc g1))) :=
  (h.obj n' rf kn md k1 k2).laid g1 fun i b z => isR_up2 (h1 i b z) hx (by simp)
theorem cg_nn {i : Int32} (h : 0 < i) : ¬ i < 0 := by
  have := i32_lt h
  exact i32_of_nlt (by show (0 : Int) ≤ i.toInt; have e : (0 : Int32).toInt = 0 := rfl; omega)
theorem cg_sub {i : Int32} (h : 0 < i) : (i - 1).toInt = i.toInt - 1 := by
  have h1 := i32_lt h
  have h2 := i32_bd i
  have e : (0 : Int32).toInt = 0 := rfl
  have e1 : (1 : Int32).toInt = 1 := rfl
  rw [i32_sub (by omega) (by omega), e1]
theorem cg1 {i n : Int32} (h : 0 < i) (h2 : i < n) (h3 : ¬ 12 < n) : vp_in (i - 1) 12 := by
  have h1 := i32_lt h
  have e : (0 : Int32).toInt = 0 := rfl
  have k := cg_sub h
  refine vpi12 (n := n) (i32_of_nlt (by rw [k, e]; omega)) (i32_of_lt ?_) h3
  have := i32_lt h2
  omega
theorem cg2 {n : Int32} (h : 0 < n) (h3 : ¬ 12 < n) : vp_in (n - 1) 12 := by
  have h1 := i32_lt h
  have e : (0 : Int32).toInt = 0 := rfl
  have k := cg_sub h
  exact vpi12 (n := n) (i32_of_nlt (by rw [k, e]; omega)) (i32_of_lt (by omega)) h3
theorem cg3 {n : Int32} (h : 0 < n) : ¬ n - 1 < 0 := by
  have h1 := i32_lt h
  have e : (0 : Int32).toInt = 0 := rfl
  exact i32_of_nlt (by rw [cg_sub h, e]; omega)
theorem cg4 {n : Int32} (h : 0 < n) (h3 : ¬ 12 < n) : ¬ 12 < n - 1 := by
  have h1 := i32_nlt h3
  exact i32_of_nlt (by rw [cg_sub h]; omega)
theorem cg5 {i n : Int32} (h : 0 < i) (h2 : i < n) : 0 < i + 1 := by
  have h1 := i32_lt h
  have e : (0 : Int32).toInt = 0 := rfl
  exact i32_of_lt (by rw [i32_s h2, e]; omega)
theorem cg6 {i n : Int32} (h : ¬ i < 0) (h2 : i < n) : 0 < i + 1 := by
  have h1 := i32_0 h
  have e : (0 : Int32).toInt = 0 := rfl
  exact i32_of_lt (by rw [i32_s h2, e]; omega)
theorem cg7 {i n : Int32} (h : ¬ i < 0) (h2 : i < n) : 0 < n := by
  have h1 := i32_0 h
  have h3 := i32_lt h2
  have e : (0 : Int32).toInt = 0 := rfl
  exact i32_of_lt (by rw [e]; omega)
theorem cg8 {i n : Int32} (h : ¬ i < 0) (h2 : i < n) (h3 : ¬ 12 < n) : n.toInt - (i + 1).toInt ≤ ((70 : Nat) : Int) := by
  have h1 := i32_0 h
  have h4 : n.toInt ≤ 12 := i32_nlt h3
  rw [i32_s h2]
  omega
set_option maxHeartbeats 4000000 in
theorem lX1_closeGap_4 {a0 n rf md : Int32} (k0 : 0 < n) (hQ : ∀ w', CC g w0 x nA cA lA kn w' → Q (.inl none) w') : ∀ (d : Nat) (i2 : Int32) (w1 : Hw) (k m : Nat), CC g w0 x nA cA lA kn w1 → w1 x = some (.inr (5, [.ref nA, .ref cA, .ref lA, .int n, .int rf, .int kn, .int md])) → 0 < i2 → n.toInt - i2.toInt ≤ (d : Int) → k ≤ 0 → m ≤ 0 → WP (MX1_closeGap g) Q (4, [some (.ref x), some (.int a0), some (.int i2)], [], w1, k, m) := by
  intro d
  induction d with
  | zero =>
    intro i2 w1 k m hC hx z0 hm hk hs
    obtain ⟨f, gc, gl, hx, hn, hc, hl, hgc, hgl, hn0, hn1, rx, rn, rc, rl, ⟨d1, d2, d3, d4, d5, d6⟩, ⟨d7, d8, d9, d10, d11, d12⟩⟩ := hC.1.opn2 (g := g) hx
    rw [eX1_closeGap_4]
    repeat' first
      | with_reducible assumption
      | with_reducible refine And.intro ?_ ?_
      | with_reducible exact vpi6 (by assumption) (by assumption)
      | with_reducible exact vpi8 (by assumption) (by assumption)
      | with_reducible exact (ic_z (by assumption) (by assumption)).elim
      | with_reducible refine Or.inl ?_
      | with_reducible refine go_Rw (by first | assumption | exact hgl _ _ (by assumption) | exact isR_up2 (hgl _ _ (by assumption)) hl (by simp)) ?_
      | with_reducible exact cg1 (by assumption) (by assumption) (by assumption)
      | with_reducible exact vpi12 (cg_nn (by assumption)) (by assumption) (by assumption)
      | with_reducible exact cg2 (by assumption) (by assumption)
      | with_reducible exact hQ _ (hC.objlaid hx _ _ (up_ok hgl fun b z => by first | (cases z; done) | (cases z; exact hgl _ _ (by assumption))) (cg3 (by assumption)) (cg4 (by assumption) (by assumption)))
      | simp only [eX1_closeGap_0, eX1_closeGap_1, eX1_closeGap_2, eX1_closeGap_3, eX1_closeGap_5, eX1_closeGap_5N, eX1_closeGap_6, eX1_closeGap_9, eX1_closeGap_12, eX1_closeGap_12N, eX1_closeGap_13, eX1_closeGap_16, eX1_closeGap_17, eX1_closeGap_18, eX1_closeGap_19, eX1_closeGap_19N, eX1_closeGap_20, eX1_closeGap_23, eX1_closeGap_24, eX1_closeGap_25N, eX1_closeGap_25R, eX1_closeGap_26, eX1_closeGap_29, eX1_closeGap_32, eX1_closeGap_32N, eX1_closeGap_33, eX1_closeGap_33R, eX1_closeGap_34, eX1_closeGap_37, eX1_closeGap_38, eX1_closeGap_39, eX1_closeGap_42, eX1_closeGap_42N, eX1_closeGap_43, eX1_closeGap_46, eX1_closeGap_46N, eX1_closeGap_47, eX1_closeGap_50, eX1_closeGap_51N, eX1_closeGap_51R, eX1_closeGap_52, rx, rn, rc, rl, hx, hn, hc, hl, d1, d2, d3, d4, d5, d6, d7, d8, d9, d10, d11, d12, rd_n, upw_n, ite_le, n45, n54, true_or, or_true, false_or, or_false, false_and, and_false, kx_l, kx_r, go_s, gl_s, gi_s, gb_s2, gb_s3, gq_s, wt_nil, wt_int, wt_long, wt_ref, wt_null, nl_int, nl_long, nl_ref, nl_null, nl_none, rf_n, rf_s, rf_st, tl_s, tl_n, g0, gS, ex1, nb_b, nb_0, nb_1, nf_i, nf_l, nf_ra, nf_ro, nf_na, nf_no, nf_b0, nf_z0, t45_4, t45_5, true_and, and_true, List.set_cons_zero, List.set_cons_succ, List.length_cons, List.length_nil, rd_s, upw_s, ne_eq, not_false_eq_true, Nat.zero_add, Nat.add_zero]
      | split
      | with_reducible intro _
      | omega
  | succ d ih =>
    intro i2 w1 k m hC hx z0 hm hk hs
    obtain ⟨f, gc, gl, hx, hn, hc, hl, hgc, hgl, hn0, hn1, rx, rn, rc, rl, ⟨d1, d2, d3, d4, d5, d6⟩, ⟨d7, d8, d9, d10, d11, d12⟩⟩ := hC.1.opn2 (g := g) hx
    rw [eX1_closeGap_4]
    repeat' first
      | with_reducible assumption
      | with_reducible refine And.intro ?_ ?_
      | with_reducible exact vpi6 (by assumption) (by assumption)
      | with_reducible exact vpi8 (by assumption) (by assumption)
      | with_reducible exact ih _ _ _ _ (hC.laid _ (up_ok hgl fun b z => by first | (cases z; done) | (cases z; exact hgl _ _ (by assumption)))) (by rw [upw_n d3]; exact hx) (cg5 (by assumption) (by assumption)) (ic_s (by assumption) (by assumption)) (by assumption) (by assumption)
      | with_reducible refine Or.inl ?_
      | with_reducible refine go_Rw (by first | assumption | exact hgl _ _ (by assumption) | exact isR_up2 (hgl _ _ (by assumption)) hl (by simp)) ?_
      | with_reducible exact cg1 (by assumption) (by assumption) (by assumption)
      | with_reducible exact vpi12 (cg_nn (by assumption)) (by assumption) (by assumption)
      | with_reducible exact cg2 (by assumption) (by assumption)
      | with_reducible exact hQ _ (hC.objlaid hx _ _ (up_ok hgl fun b z => by first | (cases z; done) | (cases z; exact hgl _ _ (by assumption))) (cg3 (by assumption)) (cg4 (by assumption) (by assumption)))
      | simp only [eX1_closeGap_0, eX1_closeGap_1, eX1_closeGap_2, eX1_closeGap_3, eX1_closeGap_5, eX1_closeGap_5N, eX1_closeGap_6, eX1_closeGap_9, eX1_closeGap_12, eX1_closeGap_12N, eX1_closeGap_13, eX1_closeGap_16, eX1_closeGap_17, eX1_closeGap_18, eX1_closeGap_19, eX1_closeGap_19N, eX1_closeGap_20, eX1_closeGap_23, eX1_closeGap_24, eX1_closeGap_25N, eX1_closeGap_25R, eX1_closeGap_26, eX1_closeGap_29, eX1_closeGap_32, eX1_closeGap_32N, eX1_closeGap_33, eX1_closeGap_33R, eX1_closeGap_34, eX1_closeGap_37, eX1_closeGap_38, eX1_closeGap_39, eX1_closeGap_42, eX1_closeGap_42N, eX1_closeGap_43, eX1_closeGap_46, eX1_closeGap_46N, eX1_closeGap_47, eX1_closeGap_50, eX1_closeGap_51N, eX1_closeGap_51R, eX1_closeGap_52, rx, rn, rc, rl, hx, hn, hc, hl, d1, d2, d3, d4, d5, d6, d7, d8, d9, d10, d11, d12, rd_n, upw_n, ite_le, n45, n54, true_or, or_true, false_or, or_false, false_and, and_false, kx_l, kx_r, go_s, gl_s, gi_s, gb_s2, gb_s3, gq_s, wt_nil, wt_int, wt_long, wt_ref, wt_null, nl_int, nl_long, nl_ref, nl_null, nl_none, rf_n, rf_s, rf_st, tl_s, tl_n, g0, gS, ex1, nb_b, nb_0, nb_1, nf_i, nf_l, nf_ra, nf_ro, nf_na, nf_no, nf_b0, nf_z0, t45_4, t45_5, true_and, and_true, List.set_cons_zero, List.set_cons_succ, List.length_cons, List.length_nil, rd_s, upw_s, ne_eq, not_false_eq_true, Nat.zero_add, Nat.add_zero]
      | split
      | with_reducible intro _
      | omega
theorem sX1_closeGap {a0 n rf md : Int32} (hC : CC g w0 x nA cA lA kn w) (hx : w x = some (.inr (5, [.ref nA, .ref cA, .ref lA, .int n, .int rf, .int kn, .int md]))) (k0 : ¬ a0 < 0) (k1 : a0 < n) (hQ : ∀ w', CC g w0 x nA cA lA kn w' → Q (.inl none) w') : WP (MX1_closeGap g) Q (0, [some (.ref x), some (.int a0), none], [], w, 0, 0) := by
  obtain ⟨f, gc, gl, hx, hn, hc, hl, hgc, hgl, hn0, hn1, rx, rn, rc, rl, ⟨d1, d2, d3, d4, d5, d6⟩, ⟨d7, d8, d9, d10, d11, d12⟩⟩ := hC.1.opn2 (g := g) hx
  repeat' first
    | with_reducible assumption
    | with_reducible refine And.intro ?_ ?_
    | with_reducible exact vpi6 (by assumption) (by assumption)
    | with_reducible exact vpi8 (by assumption) (by assumption)
    | with_reducible exact lX1_closeGap_4 (cg7 k0 k1) hQ 70 _ _ _ _ hC hx (cg6 k0 k1) (cg8 k0 k1 hn1) (by decide) (by decide)
    | simp only [eX1_closeGap_0, eX1_closeGap_1, eX1_closeGap_2, eX1_closeGap_3, eX1_closeGap_5, eX1_closeGap_5N, eX1_closeGap_6, eX1_closeGap_9, eX1_closeGap_12, eX1_closeGap_12N, eX1_closeGap_13, eX1_closeGap_16, eX1_closeGap_17, eX1_closeGap_18, eX1_closeGap_19, eX1_closeGap_19N, eX1_closeGap_20, eX1_closeGap_23, eX1_closeGap_24, eX1_closeGap_25N, eX1_closeGap_25R, eX1_closeGap_26, eX1_closeGap_29, eX1_closeGap_32, eX1_closeGap_32N, eX1_closeGap_33, eX1_closeGap_33R, eX1_closeGap_34, eX1_closeGap_37, eX1_closeGap_38, eX1_closeGap_39, eX1_closeGap_42, eX1_closeGap_42N, eX1_closeGap_43, eX1_closeGap_46, eX1_closeGap_46N, eX1_closeGap_47, eX1_closeGap_50, eX1_closeGap_51N, eX1_closeGap_51R, eX1_closeGap_52, rx, rn, rc, rl, hx, hn, hc, hl, d1, d2, d3, d4, d5, d6, d7, d8, d9, d10, d11, d12, rd_n, upw_n, ite_le, n45, n54, true_or, or_true, false_or, or_false, false_and, and_false, kx_l, kx_r, go_s, gl_s, gi_s, gb_s2, gb_s3, gq_s, wt_nil, wt_int, wt_long, wt_ref, wt_null, nl_int, nl_long, nl_ref, nl_null, nl_none, rf_n, rf_s, rf_st, tl_s, tl_n, g0, gS, ex1, nb_b, nb_0, nb_1, nf_i, nf_l, nf_ra, nf_ro, nf_na, nf_no, nf_b0, nf_z0, t45_4, t45_5, true_and, and_true, List.set_cons_zero, List.set_cons_succ, List.length_cons, List.length_nil, rd_s, upw_s, ne_eq, not_false_eq_true, Nat.zero_add, Nat.add_zero]
    | split
    | with_reducible intro _
    | omega
set_option maxHeartbeats 4000000 in
theorem lX1_firstPlaceOf_2b {a0 : Nat} {n rf md : Int32} (hC : CC g w0 x nA cA lA kn w) (hx : w x = some (.inr (5, [.ref nA, .ref cA, .ref lA, .int n, .int rf, .int kn, .int md]))) (h0 : isR w a0) (hQ1 : Q (.inl (some (.int (-1)))) w) (hQ2 : ∀ v : Int32, ¬ v < 0 → v < n → Q (.inl (some (.int v))) w) : ∀ (d : Nat) (i2 : Int32) (k m : Nat), ¬ i2 < 0 → n.toInt - i2.toInt ≤ (d : Int) → k ≤ 0 → m ≤ 0 → WP (MX1_firstPlaceOf g) Q (2, [some (.ref x), some (.ref a0), some (.int i2)], [], w, k, m) := by
  obtain ⟨f, gc, gl, hx, hn, hc, hl, hgc, hgl, hn0, hn1, rx, rn, rc, rl, ⟨d1, d2, d3, d4, d5, d6⟩, ⟨d7, d8, d9, d10, d11, d12⟩⟩ := hC.1.opn2 (g := g) hx
  intro d
  induction d with
  | zero =>
    intro i2 k m z0 hm hk hs
    rw [eX1_firstPlaceOf_2]
    repeat' first
      | with_reducible assumption
      | with_reducible refine And.intro ?_ ?_
      | with_reducible exact vpi6 (by assumption) (by assumption)
      | with_reducible exact vpi8 (by assumption) (by assumption)
      | with_reducible exact (ic_z (by assumption) (by assumption)).elim
      | with_reducible exact vpi12 (by assumption) (by assumption) (by assumption)
      | with_reducible exact hQ2 _ (by assumption) (by assumption)
      | with_reducible refine sX0_matchesR (by first | assumption | exact hgc _ _ (by assumption) | exact hgl _ _ (by assumption) | exact isR.ext (by assumption) (by repeat' first | assumption | exact ext.rf | refine ext.tr (by assumption) ?_) | exact isR.ext (hgc _ _ (by assumption)) (by repeat' first | assumption | exact ext.rf | refine ext.tr (by assumption) ?_)) (by first | assumption | exact hgc _ _ (by assumption) | exact hgl _ _ (by assumption) | exact isR.ext (by assumption) (by repeat' first | assumption | exact ext.rf | refine ext.tr (by assumption) ?_) | exact isR.ext (hgc _ _ (by assumption)) (by repeat' first | assumption | exact ext.rf | refine ext.tr (by assumption) ?_)) ?_
      | with_reducible refine sX0_matchesN (by first | assumption | exact hgc _ _ (by assumption) | exact hgl _ _ (by assumption) | exact isR.ext (by assumption) (by repeat' first | assumption | exact ext.rf | refine ext.tr (by assumption) ?_) | exact isR.ext (hgc _ _ (by assumption)) (by repeat' first | assumption | exact ext.rf | refine ext.tr (by assumption) ?_)) ?_
      | with_reducible refine go_R (by first | assumption | exact hgc _ _ (by assumption) | exact hgl _ _ (by assumption) | exact isR.ext (by assumption) (by repeat' first | assumption | exact ext.rf | refine ext.tr (by assumption) ?_) | exact isR.ext (hgc _ _ (by assumption)) (by repeat' first | assumption | exact ext.rf | refine ext.tr (by assumption) ?_)) ?_
      | simp only [eX1_firstPlaceOf_0, eX1_firstPlaceOf_1, eX1_firstPlaceOf_3, eX1_firstPlaceOf_3N, eX1_firstPlaceOf_4, eX1_firstPlaceOf_7, eX1_firstPlaceOf_10, eX1_firstPlaceOf_10N, eX1_firstPlaceOf_11, eX1_firstPlaceOf_11N, eX1_firstPlaceOf_12, eX1_firstPlaceOf_15, eX1_firstPlaceOf_16, eX1_firstPlaceOf_17R, eX1_firstPlaceOf_17N, eX1_firstPlaceOf_20, eX1_firstPlaceOf_23, eX1_firstPlaceOf_24, eX1_firstPlaceOf_25, eX1_firstPlaceOf_28, eX1_firstPlaceOf_31, eX1_firstPlaceOf_32, rx, rn, rc, rl, hx, hn, hc, hl, d1, d2, d3, d4, d5, d6, d7, d8, d9, d10, d11, d12, rd_n, upw_n, ite_le, n45, n54, true_or, or_true, false_or, or_false, false_and, and_false, kx_l, kx_r, go_s, gl_s, gi_s, gb_s2, gb_s3, gq_s, wt_nil, wt_int, wt_long, wt_ref, wt_null, nl_int, nl_long, nl_ref, nl_null, nl_none, rf_n, rf_s, rf_st, tl_s, tl_n, g0, gS, ex1, nb_b, nb_0, nb_1, nf_i, nf_l, nf_ra, nf_ro, nf_na, nf_no, nf_b0, nf_z0, t45_4, t45_5, true_and, and_true, List.set_cons_zero, List.set_cons_succ, List.length_cons, List.length_nil, rd_s, upw_s, ne_eq, not_false_eq_true, Nat.zero_add, Nat.add_zero]
      | split
      | with_reducible intro _
      | omega
  | succ d ih =>
    intro i2 k m z0 hm hk hs
    rw [eX1_firstPlaceOf_2]
    repeat' first
      | with_reducible assumption
      | with_reducible refine And.intro ?_ ?_
      | with_reducible exact vpi6 (by assumption) (by assumption)
      | with_reducible exact vpi8 (by assumption) (by assumption)
      | with_reducible exact ih _ _ _ (ic_p (by assumption) (by assumption)) (ic_s (by assumption) (by assumption)) (by first | assumption | omega) (by first | assumption | omega)
      | with_reducible exact vpi12 (by assumption) (by assumption) (by assumption)
      | with_reducible exact hQ2 _ (by assumption) (by assumption)
      | with_reducible refine sX0_matchesR (by first | assumption | exact hgc _ _ (by assumption) | exact hgl _ _ (by assumption) | exact isR.ext (by assumption) (by repeat' first | assumption | exact ext.rf | refine ext.tr (by assumption) ?_) | exact isR.ext (hgc _ _ (by assumption)) (by repeat' first | assumption | exact ext.rf | refine ext.tr (by assumption) ?_)) (by first | assumption | exact hgc _ _ (by assumption) | exact hgl _ _ (by assumption) | exact isR.ext (by assumption) (by repeat' first | assumption | exact ext.rf | refine ext.tr (by assumption) ?_) | exact isR.ext (hgc _ _ (by assumption)) (by repeat' first | assumption | exact ext.rf | refine ext.tr (by assumption) ?_)) ?_
      | with_reducible refine sX0_matchesN (by first | assumption | exact hgc _ _ (by assumption) | exact hgl _ _ (by assumption) | exact isR.ext (by assumption) (by repeat' first | assumption | exact ext.rf | refine ext.tr (by assumption) ?_) | exact isR.ext (hgc _ _ (by assumption)) (by repeat' first | assumption | exact ext.rf | refine ext.tr (by assumption) ?_)) ?_
      | with_reducible refine go_R (by first | assumption | exact hgc _ _ (by assumption) | exact hgl _ _ (by assumption) | exact isR.ext (by assumption) (by repeat' first | assumption | exact ext.rf | refine ext.tr (by assumption) ?_) | exact isR.ext (hgc _ _ (by assumption)) (by repeat' first | assumption | exact ext.rf | refine ext.tr (by assumption) ?_)) ?_
      | simp only [eX1_firstPlaceOf_0, eX1_firstPlaceOf_1, eX1_firstPlaceOf_3, eX1_firstPlaceOf_3N, eX1_firstPlaceOf_4, eX1_firstPlaceOf_7, eX1_firstPlaceOf_10, eX1_firstPlaceOf_10N, eX1_firstPlaceOf_11, eX1_firstPlaceOf_11N, eX1_firstPlaceOf_12, eX1_firstPlaceOf_15, eX1_firstPlaceOf_16, eX1_firstPlaceOf_17R, eX1_firstPlaceOf_17N, eX1_firstPlaceOf_20, eX1_firstPlaceOf_23, eX1_firstPlaceOf_24, eX1_firstPlaceOf_25, eX1_firstPlaceOf_28, eX1_firstPlaceOf_31, eX1_firstPlaceOf_32, rx, rn, rc, rl, hx, hn, hc, hl, d1, d2, d3, d4, d5, d6, d7, d8, d9, d10, d11, d12, rd_n, upw_n, ite_le, n45, n54, true_or, or_true, false_or, or_false, false_and, and_false, kx_l, kx_r, go_s, gl_s, gi_s, gb_s2, gb_s3, gq_s, wt_nil, wt_int, wt_long, wt_ref, wt_null, nl_int, nl_long, nl_ref, nl_null, nl_none, rf_n, rf_s, rf_st, tl_s, tl_n, g0, gS, ex1, nb_b, nb_0, nb_1, nf_i, nf_l, nf_ra, nf_ro, nf_na, nf_no, nf_b0, nf_z0, t45_4, t45_5, true_and, and_true, List.set_cons_zero, List.set_cons_succ, List.length_cons, List.length_nil, rd_s, upw_s, ne_eq, not_false_eq_true, Nat.zero_add, Nat.add_zero]
      | split
      | with_reducible intro _
      | omega
theorem sX1_firstPlaceOf2 {a0 : Nat} {n rf md : Int32} (hC : CC g w0 x nA cA lA kn w) (hx : w x = some (.inr (5, [.ref nA, .ref cA, .ref lA, .int n, .int rf, .int kn, .int md]))) (h0 : isR w a0) (hQ1 : Q (.inl (some (.int (-1)))) w) (hQ2 : ∀ v : Int32, ¬ v < 0 → v < n → Q (.inl (some (.int v))) w) : WP (MX1_firstPlaceOf g) Q (0, [some (.ref x), some (.ref a0), none], [], w, 0, 0) := by
  obtain ⟨f, gc, gl, hx, hn, hc, hl, hgc, hgl, hn0, hn1, rx, rn, rc, rl, ⟨d1, d2, d3, d4, d5, d6⟩, ⟨d7, d8, d9, d10, d11, d12⟩⟩ := hC.1.opn2 (g := g) hx
  repeat' first
    | with_reducible assumption
    | with_reducible refine And.intro ?_ ?_
    | with_reducible exact vpi6 (by assumption) (by assumption)
    | with_reducible exact vpi8 (by assumption) (by assumption)
    | with_reducible exact lX1_firstPlaceOf_2b hC hx h0 hQ1 hQ2 70 _ _ _ (by decide) (n12 hn1) (by decide) (by decide)
    | simp only [eX1_firstPlaceOf_0, eX1_firstPlaceOf_1, eX1_firstPlaceOf_3, eX1_firstPlaceOf_3N, eX1_firstPlaceOf_4, eX1_firstPlaceOf_7, eX1_firstPlaceOf_10, eX1_firstPlaceOf_10N, eX1_firstPlaceOf_11, eX1_firstPlaceOf_11N, eX1_firstPlaceOf_12, eX1_firstPlaceOf_15, eX1_firstPlaceOf_16, eX1_firstPlaceOf_17R, eX1_firstPlaceOf_17N, eX1_firstPlaceOf_20, eX1_firstPlaceOf_23, eX1_firstPlaceOf_24, eX1_firstPlaceOf_25, eX1_firstPlaceOf_28, eX1_firstPlaceOf_31, eX1_firstPlaceOf_32, rx, rn, rc, rl, hx, hn, hc, hl, d1, d2, d3, d4, d5, d6, d7, d8, d9, d10, d11, d12, rd_n, upw_n, ite_le, n45, n54, true_or, or_true, false_or, or_false, false_and, and_false, kx_l, kx_r, go_s, gl_s, gi_s, gb_s2, gb_s3, gq_s, wt_nil, wt_int, wt_long, wt_ref, wt_null, nl_int, nl_long, nl_ref, nl_null, nl_none, rf_n, rf_s, rf_st, tl_s, tl_n, g0, gS, ex1, nb_b, nb_0, nb_1, nf_i, nf_l, nf_ra, nf_ro, nf_na, nf_no, nf_b0, nf_z0, t45_4, t45_5, true_and, and_true, List.set_cons_zero, List.set_cons_succ, List.length_cons, List.length_nil, rd_s, upw_s, ne_eq, not_false_eq_true, Nat.zero_add, Nat.add_zero]
    | split
    | with_reducible intro _
    | omega
set_option maxHeartbeats 4000000 in
theorem sX1_lift {a0 : Int32} (hC : CC g w0 x nA cA lA kn w) (hXo : Q (.inr "java/lang/IndexOutOfBoundsException") w) (hXs : Q (.inr "java/lang/IllegalStateException") w) (hQ : ∀ (v : Int32) (w' : Hw), CC g w0 x nA cA lA kn w' → Q (.inl (some (.int v))) w') : WP (MX1_lift g) Q (0, [some (.ref x), some (.int a0), none], [], w, 0, 0) := by
  obtain ⟨n, rf, md, f, gc, gl, hx, hn, hc, hl, hgc, hgl, hn0, hn1, rx, rn, rc, rl, ⟨d1, d2, d3, d4, d5, d6⟩, ⟨d7, d8, d9, d10, d11, d12⟩⟩ := hC.1.opn g
  repeat' first
    | with_reducible assumption
    | with_reducible refine And.intro ?_ ?_
    | with_reducible exact vpi6 (by assumption) (by assumption)
    | with_reducible exact vpi8 (by assumption) (by assumption)
    | with_reducible exact go_C (by first | assumption | exact CC.ext hC (by repeat' first | assumption | exact ext.rf | refine ext.tr (by assumption) ?_))
    | with_reducible refine sX1_rangeOf2 (by first | assumption | exact CC.ext (by assumption) (by assumption)) ?_ ?_ ?_
    | with_reducible refine sX1_firstPlaceOf2 hC hx (by first | assumption | exact hgc _ _ (by assumption) | exact hgl _ _ (by assumption) | exact isR.ext (by assumption) (by repeat' first | assumption | exact ext.rf | refine ext.tr (by assumption) ?_) | exact isR.ext (hgc _ _ (by assumption)) (by repeat' first | assumption | exact ext.rf | refine ext.tr (by assumption) ?_)) ?_ ?_
    | with_reducible refine sX1_closeGap hC hx (by assumption) (by assumption) ?_
    | with_reducible refine go_R (by first | assumption | exact hgc _ _ (by assumption) | exact hgl _ _ (by assumption) | exact isR.ext (by assumption) (by repeat' first | assumption | exact ext.rf | refine ext.tr (by assumption) ?_) | exact isR.ext (hgc _ _ (by assumption)) (by repeat' first | assumption | exact ext.rf | refine ext.tr (by assumption) ?_)) ?_
    | with_reducible exact hQ _ _ (by first | assumption | exact CC.ext hC (by repeat' first | assumption | exact ext.rf | refine ext.tr (by assumption) ?_))
    | simp only [eX1_lift_0, eX1_lift_0N, eX1_lift_1, eX1_lift_1N, eX1_lift_2, eX1_lift_3, eX1_lift_6R, eX1_lift_6N, eX1_lift_9, eX1_lift_10, eX1_lift_11, eX1_lift_12, eX1_lift_15, eX1_lift_16, eX1_lift_17, eX1_lift_17N, eX1_lift_18, eX1_lift_19, eX1_lift_22, eX1_lift_23, rx, rn, rc, rl, hx, hn, hc, hl, d1, d2, d3, d4, d5, d6, d7, d8, d9, d10, d11, d12, rd_n, upw_n, if_true, if_false, ite_le, n45, n54, true_or, or_true, false_or, or_false, false_and, and_false, kx_l, kx_r, go_s, gl_s, gi_s, gb_s2, gb_s3, gq_s, wt_nil, wt_int, wt_long, wt_ref, wt_null, nl_int, nl_long, nl_ref, nl_null, nl_none, rf_n, rf_s, rf_st, tl_s, tl_n, g0, gS, ex1, nb_b, nb_0, nb_1, nf_i, nf_l, nf_ra, nf_ro, nf_na, nf_no, nf_b0, nf_z0, t45_4, t45_5, true_and, and_true, List.set_cons_zero, List.set_cons_succ, List.length_cons, List.length_nil, rd_s, upw_s, ne_eq, not_false_eq_true, Nat.zero_add, Nat.add_zero]
    | split
    | with_reducible intro _
    | omega
end
