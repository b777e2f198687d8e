section
section
variable {g : RO} {Q : Ot → Hw → Prop} {w0 w : Hw}
theorem t10l : (¬ (10 : Int64) = 0) = True := eq_true (by decide)
theorem h45 : ((255 : Int32) < 45) = False := eq_false (by decide)
theorem h32 : ((255 : Int32) < 32) = False := eq_false (by decide)
set_option maxHeartbeats 4000000 in
theorem lX1_appendBackwards_47 {b d N k n p0 : Nat} {x y : Int64} {c i : Int32} {c0 : Int} (hS : SG g) (hD : DG g w0) (hT : TS g w0 b d N c w) (hN : CP N) (hp0 : pC N ≤ p0) (h0 : c0 ≤ c.toInt) (h1 : c.toInt < 142) (h2 : c.toInt < c0 + 20) (hk : k + pC N ≤ 3) (hn : n + pS N ≤ 246) (hQ : ∀ (d' N' : Nat) (c' : Int32) (w' : Hw), CP N' → pC N' ≤ p0 → c0 ≤ c'.toInt → c'.toInt ≤ c0 + 20 → TS g w0 b d' N' c' w' → Q (.inl none) w') : WP (MX1_appendBackwards g) Q (47, [some (.ref b), some (.long x), none, some (.long y), none, some (.int i)], [], w, k, n) := by
  obtain ⟨ml, f, hb, hd, hf, hc0, hc1, rb, rdd, n1, n2⟩ := hT.opn g
  obtain ⟨k1, k2, k3, k4⟩ := kI (i := 45) hN hb hd hc0 hc1 (by omega)
  have ek : k + kfI [.ref b, .int 45] w ≤ 3 := by omega
  have es : n + sfI [.ref b, .int 45] w ≤ 246 := by omega
  have e1 := i32_p1 hc0 (by omega)
  simp only [eX1_appendBackwards_47, eX1_appendBackwards_53, eX1_appendBackwards_53N, eX1_appendBackwards_54, ite_le, n45, n54, true_or, or_true, false_or, or_false, false_and, and_false, kx_l, kx_r, go_s, gl_s, gi_s, gb_s2, gb_s3, gq_s, wt_nil, wt_int, wt_long, wt_ref, wt_null, nl_int, nl_long, nl_ref, nl_null, nl_none, rf_n, rf_s, rf_st, tl_s, tl_n, g0, gS, ex1, nb_b, nb_0, nb_1, nf_i, nf_l, nf_ra, nf_ro, nf_na, nf_no, nf_b0, nf_z0, t45_4, t45_5, true_and, and_true, List.set_cons_zero, List.set_cons_succ, List.length_cons, List.length_nil, rd_s, upw_s, ne_eq, not_false_eq_true, Nat.zero_add, Nat.add_zero, if_true, if_false, eq_self, rb, ek, es]
  split
  · repeat' first | with_reducible refine And.intro ?_ ?_ | omega
    refine sapC hS hT hN (by omega) h45 (fun d' N' w' q1 q2 q3 q4 => ?_)
    simp only [eX1_appendBackwards_59, eX1_appendBackwards_59R, eX1_appendBackwards_59N, eX1_appendBackwards_60, ite_le, n45, n54, true_or, or_true, false_or, or_false, false_and, and_false, kx_l, kx_r, go_s, gl_s, gi_s, gb_s2, gb_s3, gq_s, wt_nil, wt_int, wt_long, wt_ref, wt_null, nl_int, nl_long, nl_ref, nl_null, nl_none, rf_n, rf_s, rf_st, tl_s, tl_n, g0, gS, ex1, nb_b, nb_0, nb_1, nf_i, nf_l, nf_ra, nf_ro, nf_na, nf_no, nf_b0, nf_z0, t45_4, t45_5, true_and, and_true, List.set_cons_zero, List.set_cons_succ, List.length_cons, List.length_nil, rd_s, upw_s, ne_eq, not_false_eq_true, Nat.zero_add, Nat.add_zero, if_true, if_false, eq_self]
    repeat' first | with_reducible refine And.intro ?_ ?_ | omega
    exact hQ _ _ _ _ q1 (by omega) (by omega) (by omega) q4
  · simp only [eX1_appendBackwards_60, ite_le, n45, n54, true_or, or_true, false_or, or_false, false_and, and_false, kx_l, kx_r, go_s, gl_s, gi_s, gb_s2, gb_s3, gq_s, wt_nil, wt_int, wt_long, wt_ref, wt_null, nl_int, nl_long, nl_ref, nl_null, nl_none, rf_n, rf_s, rf_st, tl_s, tl_n, g0, gS, ex1, nb_b, nb_0, nb_1, nf_i, nf_l, nf_ra, nf_ro, nf_na, nf_no, nf_b0, nf_z0, t45_4, t45_5, true_and, and_true, List.set_cons_zero, List.set_cons_succ, List.length_cons, List.length_nil, rd_s, upw_s, ne_eq, not_false_eq_true, Nat.zero_add, Nat.add_zero, if_true, if_false, eq_self]
    repeat' first | with_reducible refine And.intro ?_ ?_ | omega
    exact hQ _ _ _ _ hN hp0 (by omega) (by omega) hT
set_option maxHeartbeats 4000000 in
theorem lX1_appendBackwards_5 {b p0 : Nat} {x : Int64} {c0 : Int} (hS : SG g) (hD : DG g w0) (hc0 : c0 ≤ 100) (hQ : ∀ (d' N' : Nat) (c' : Int32) (w' : Hw), CP N' → pC N' ≤ p0 → c0 ≤ c'.toInt → c'.toInt ≤ c0 + 20 → TS g w0 b d' N' c' w' → Q (.inl none) w') : ∀ (e : Nat) (d N k n : Nat) (y : Int64) (c i : Int32) (w : Hw), i.toInt + e = 19 → 0 ≤ i.toInt → CP N → pC N ≤ p0 → c0 ≤ c.toInt → c.toInt ≤ c0 + i.toInt → k + pC N ≤ 3 → n + pS N ≤ 246 → TS g w0 b d N c w →
    WP (MX1_appendBackwards g) Q (5, [some (.ref b), some (.long x), none, some (.long y), none, some (.int i)], [], w, k, n) := by
  intro e
  induction e with
  | zero =>
    intro d N k n y c i w h1 h2 hN hp0 h3 h4 hk hn hT
    have e19 : (19 : Int32).toInt = 19 := rfl
    have le : ((19 : Int32) ≤ i) = True := eq_true (Int32.le_iff_toInt_le.mpr (by omega))
    rw [eX1_appendBackwards_5]
    simp only [eX1_appendBackwards_7, ite_le, n45, n54, true_or, or_true, false_or, or_false, false_and, and_false, kx_l, kx_r, go_s, gl_s, gi_s, gb_s2, gb_s3, gq_s, wt_nil, wt_int, wt_long, wt_ref, wt_null, nl_int, nl_long, nl_ref, nl_null, nl_none, rf_n, rf_s, rf_st, tl_s, tl_n, g0, gS, ex1, nb_b, nb_0, nb_1, nf_i, nf_l, nf_ra, nf_ro, nf_na, nf_no, nf_b0, nf_z0, t45_4, t45_5, true_and, and_true, List.set_cons_zero, List.set_cons_succ, List.length_cons, List.length_nil, rd_s, upw_s, ne_eq, not_false_eq_true, Nat.zero_add, Nat.add_zero, if_true, if_false, eq_self, le]
    exact lX1_appendBackwards_47 hS hD hT hN hp0 h3 (by omega) (by omega) hk hn hQ
  | succ e ih =>
    intro d N k n y c i w h1 h2 hN hp0 h3 h4 hk hn hT
    obtain ⟨ml, f, hb, hd, hf, hc0', hc1, rb, rdd, n1, n2⟩ := hT.opn g
    have le : ((19 : Int32) ≤ i) = False := eq_false (fun h => by
      have := Int32.le_iff_toInt_le.mp h
      have e19 : (19 : Int32).toInt = 19 := rfl
      omega)
    have e1 := i32_p1 hc0' (by omega)
    have ei := i32_p1 h2 (by omega)
    obtain ⟨a, ha⟩ : ∃ a, (y - y / 10 * 10).toInt32 = a := ⟨_, rfl⟩
    obtain ⟨v, hv⟩ : ∃ v, (if 0 ≤ a then a else 0 - a) = v := ⟨_, rfl⟩
    obtain ⟨v0, v1⟩ := dig10 ha
    rw [hv] at v0 v1
    obtain ⟨k1, k2, k3, k4⟩ := kI (i := v) hN hb hd hc0' hc1 (by omega)
    have ek : k + kfI [.ref b, .int v] w ≤ 3 := by omega
    have es : n + sfI [.ref b, .int v] w ≤ 246 := by omega
    have ek2 : k ≤ 3 := by omega
    have es2 : n ≤ 246 := by omega
    rw [eX1_appendBackwards_5]
    simp only [eX1_appendBackwards_7, eX1_appendBackwards_12, eX1_appendBackwards_12N, eX1_appendBackwards_13, eX1_appendBackwards_18, eX1_appendBackwards_22, ite_le, n45, n54, true_or, or_true, false_or, or_false, false_and, and_false, kx_l, kx_r, go_s, gl_s, gi_s, gb_s2, gb_s3, gq_s, wt_nil, wt_int, wt_long, wt_ref, wt_null, nl_int, nl_long, nl_ref, nl_null, nl_none, rf_n, rf_s, rf_st, tl_s, tl_n, g0, gS, ex1, nb_b, nb_0, nb_1, nf_i, nf_l, nf_ra, nf_ro, nf_na, nf_no, nf_b0, nf_z0, t45_4, t45_5, true_and, and_true, List.set_cons_zero, List.set_cons_succ, List.length_cons, List.length_nil, rd_s, upw_s, ne_eq, not_false_eq_true, Nat.zero_add, Nat.add_zero, if_true, if_false, eq_self, le, t10l, ha, hv, rb, ek, es, ek2, es2]
    repeat' first | with_reducible refine And.intro ?_ ?_ | omega
    refine sapI hS hT hN (by omega) hD v0 v1 (fun d' N' w' q1 q2 q3 q4 => ?_)
    simp only [eX1_appendBackwards_25, eX1_appendBackwards_25R, eX1_appendBackwards_25N, eX1_appendBackwards_26, eX1_appendBackwards_31, eX1_appendBackwards_38, eX1_appendBackwards_41, ite_le, n45, n54, true_or, or_true, false_or, or_false, false_and, and_false, kx_l, kx_r, go_s, gl_s, gi_s, gb_s2, gb_s3, gq_s, wt_nil, wt_int, wt_long, wt_ref, wt_null, nl_int, nl_long, nl_ref, nl_null, nl_none, rf_n, rf_s, rf_st, tl_s, tl_n, g0, gS, ex1, nb_b, nb_0, nb_1, nf_i, nf_l, nf_ra, nf_ro, nf_na, nf_no, nf_b0, nf_z0, t45_4, t45_5, true_and, and_true, List.set_cons_zero, List.set_cons_succ, List.length_cons, List.length_nil, rd_s, upw_s, ne_eq, not_false_eq_true, Nat.zero_add, Nat.add_zero, if_true, if_false, eq_self, t10l]
    split
    · exact lX1_appendBackwards_47 hS hD q4 q1 (by omega) (by omega) (by omega) (by omega) (by omega) (by omega) hQ
    · exact ih _ _ _ _ _ _ _ _ (by omega) (by omega) q1 (by omega) (by omega) (by omega) (by omega) (by omega) q4
set_option maxHeartbeats 4000000 in
theorem sX1_appendBackwards {b d N p0 : Nat} {x : Int64} {c : Int32} {c0 : Int} (hS : SG g) (hD : DG g w0) (hT : TS g w0 b d N c w) (hN : CP N) (hp0 : pC N ≤ p0) (h0 : c0 = c.toInt) (h1 : c0 ≤ 100) (hQ : ∀ (d' N' : Nat) (c' : Int32) (w' : Hw), CP N' → pC N' ≤ p0 → c0 ≤ c'.toInt → c'.toInt ≤ c0 + 20 → TS g w0 b d' N' c' w' → Q (.inl none) w') : WP (MX1_appendBackwards g) Q (0, [some (.ref b), some (.long x), none, none, none, none], [], w, 0, 0) := by
  obtain ⟨ml, f, hb, hd, hf, hc0, hc1, rb, rdd, n1, n2⟩ := hT.opn g
  have z0 : (0 : Int32).toInt = 0 := rfl
  have pk : pC N ≤ 3 := by rcases hN with rfl | rfl | rfl | rfl <;> decide
  have ps : pS N ≤ 246 := by rcases hN with rfl | rfl | rfl | rfl <;> decide
  simp only [eX1_appendBackwards_0, ite_le, n45, n54, true_or, or_true, false_or, or_false, false_and, and_false, kx_l, kx_r, go_s, gl_s, gi_s, gb_s2, gb_s3, gq_s, wt_nil, wt_int, wt_long, wt_ref, wt_null, nl_int, nl_long, nl_ref, nl_null, nl_none, rf_n, rf_s, rf_st, tl_s, tl_n, g0, gS, ex1, nb_b, nb_0, nb_1, nf_i, nf_l, nf_ra, nf_ro, nf_na, nf_no, nf_b0, nf_z0, t45_4, t45_5, true_and, and_true, List.set_cons_zero, List.set_cons_succ, List.length_cons, List.length_nil, rd_s, upw_s, ne_eq, not_false_eq_true, Nat.zero_add, Nat.add_zero, if_true, if_false, eq_self]
  exact lX1_appendBackwards_5 hS hD h1 hQ 19 _ _ _ _ _ _ _ _ (by decide) (by decide) hN hp0 (by omega) (by omega) (by omega) (by omega) hT
end
end
