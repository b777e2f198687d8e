section
section
variable {g : RO} {Q : Ot → Hw → Prop} {w0 w : Hw}
set_option maxHeartbeats 4000000 in
theorem lJ5_append_66267_19 {k n : Nat} {b d N kk : Nat} {c s : Int32} {x : Int64} (hS : SG g) (hD : DG g w) (hT : TS g w0 b d N c w) (hN : N ≤ 1000) (k1 : 1 ≤ kk) (hs : s.toInt = c.toInt + (kk + (if x.toInt < 0 then 1 else 0))) (ha : -((10 : Int) ^ kk) < x.toInt) (hb' : x.toInt < (10 : Int) ^ kk) (hsN : s.toInt ≤ (N : Int)) (hk : k ≤ 1) (hn : n ≤ 170) (hQ : ∀ w', TS g w0 b d N s w' → Q (.inl (some (.ref b))) w') : WP (MJ5_append_66267 g) Q (19, [some (.ref b), some (.long x), none, some (.int c), some (.int s)], [], w, k, n) := by
  obtain ⟨ml, f, hb, hd, hf, hc0, hc1, rb, rdd, n1, n2⟩ := hT.opn g
  simp only [eJ5_append_66267_19, eJ5_append_66267_19N, eJ5_append_66267_20, eJ5_append_66267_23, eJ5_append_66267_26, eJ5_append_66267_29, eJ5_append_66267_29N, eJ5_append_66267_30, eJ5_append_66267_33R, eJ5_append_66267_33N, eJ5_isLatin1_aae02_0, eJ5_isLatin1_aae02_3, eJ5_isLatin1_aae02_6, eJ5_isLatin1_aae02_6N, eJ5_isLatin1_aae02_7, eJ5_isLatin1_aae02_10, eJ5_isLatin1_aae02_13, eJ5_isLatin1_aae02_17, eJ5_isLatin1_aae02_18, ite_le, n45, n54, true_or, or_true, false_or, or_false, false_and, and_false, kx_l, kx_r, go_s, gl_s, gi_s, gb_s2, gb_s3, gq_s, wt_nil, wt_int, wt_long, wt_ref, wt_null, nl_int, nl_long, nl_ref, nl_null, nl_none, rf_n, rf_s, rf_st, tl_s, tl_n, g0, gS, ex1, nb_b, nb_0, nb_1, nf_i, nf_l, nf_ra, nf_ro, nf_na, nf_no, nf_b0, nf_z0, t45_4, t45_5, true_and, and_true, List.set_cons_zero, List.set_cons_succ, List.length_cons, List.length_nil, rd_s, upw_s, ne_eq, not_false_eq_true, Nat.zero_add, Nat.add_zero, if_true, if_false, eq_self, hS.1, zz1, rb, hb, rdd, hd, n1, n2, exal, al26]
  repeat' first | with_reducible refine And.intro ?_ ?_ | omega
  refine sJ13_getChars_11360 (kk := kk) (by omega) k1 ha hb' (by omega) hsN hd hf hD (fun f' v hf' => ?_)
  simp only [eJ5_append_66267_36, eJ5_append_66267_36R, eJ5_append_66267_36N, eJ5_append_66267_37, eJ5_append_66267_40, eJ5_append_66267_44, eJ5_append_66267_44N, eJ5_append_66267_45, eJ5_append_66267_51, eJ5_append_66267_51R, eJ5_append_66267_51N, eJ5_append_66267_52, eJ5_append_66267_52N, eJ5_append_66267_53, eJ5_append_66267_58, eJ5_append_66267_58N, eJ5_append_66267_59, eJ5_append_66267_59N, ite_le, n45, n54, true_or, or_true, false_or, or_false, false_and, and_false, kx_l, kx_r, go_s, gl_s, gi_s, gb_s2, gb_s3, gq_s, wt_nil, wt_int, wt_long, wt_ref, wt_null, nl_int, nl_long, nl_ref, nl_null, nl_none, rf_n, rf_s, rf_st, tl_s, tl_n, g0, gS, ex1, nb_b, nb_0, nb_1, nf_i, nf_l, nf_ra, nf_ro, nf_na, nf_no, nf_b0, nf_z0, t45_4, t45_5, true_and, and_true, List.set_cons_zero, List.set_cons_succ, List.length_cons, List.length_nil, rd_s, upw_s, ne_eq, not_false_eq_true, Nat.zero_add, Nat.add_zero, if_true, if_false, eq_self, hb, n1, n2, upw_n]
  repeat' first | with_reducible refine And.intro ?_ ?_ | omega
  exact hQ _ (hT.fin hf' (by split at hs <;> omega) hsN)
set_option maxHeartbeats 4000000 in
theorem sJ5_append_66267 {b d N : Nat} {c : Int32} {x : Int64} (hS : SG g) (hT : TS g w0 b d N c w) (hN : N ≤ 170) (hc : c.toInt ≤ 63) (hD : DG g w0) (hQ : ∀ (d' N' : Nat) (c' : Int32) (w' : Hw), N' ≤ 170 → c.toInt ≤ c'.toInt → c'.toInt ≤ c.toInt + 20 → TS g w0 b d' N' c' w' → Q (.inl (some (.ref b))) w') : WP (MJ5_append_66267 g) Q (0, [some (.ref b), some (.long x), none, none, none], [], w, 0, 0) := by
  obtain ⟨ml, f, hb, hd, hf, hc0, hc1, rb, rdd, n1, n2⟩ := hT.opn g
  simp only [eJ5_append_66267_0, eJ5_append_66267_0N, eJ5_append_66267_1, eJ5_append_66267_4, ite_le, n45, n54, true_or, or_true, false_or, or_false, false_and, and_false, kx_l, kx_r, go_s, gl_s, gi_s, gb_s2, gb_s3, gq_s, wt_nil, wt_int, wt_long, wt_ref, wt_null, nl_int, nl_long, nl_ref, nl_null, nl_none, rf_n, rf_s, rf_st, tl_s, tl_n, g0, gS, ex1, nb_b, nb_0, nb_1, nf_i, nf_l, nf_ra, nf_ro, nf_na, nf_no, nf_b0, nf_z0, t45_4, t45_5, true_and, and_true, List.set_cons_zero, List.set_cons_succ, List.length_cons, List.length_nil, rd_s, upw_s, ne_eq, not_false_eq_true, Nat.zero_add, Nat.add_zero, if_true, if_false, eq_self, rb, hb]
  repeat' first | with_reducible refine And.intro ?_ ?_ | omega
  refine sJ13_stringSize_95d88 (fun v kk k1 k2 k3 k4 k5 => ?_)
  have hv : 1 ≤ v.toInt ∧ v.toInt ≤ 20 := by split at k3 <;> omega
  obtain ⟨s, hs0⟩ : ∃ s, c + v = s := ⟨_, rfl⟩
  have e1 : s.toInt = c.toInt + v.toInt := by
    rw [← hs0]
    exact i32_add (by omega) (by omega)
  obtain ⟨eK, eS⟩ := kE (m := s) hb hd (by omega)
  have hk : kfE [.ref b, .int s] w ≤ 1 := by
    rw [eK]
    split <;> omega
  have hs : sfE [.ref b, .int s] w ≤ 170 := by
    split at eS <;> omega
  simp only [eJ5_append_66267_10, eJ5_append_66267_13, eJ5_append_66267_13N, eJ5_append_66267_14, ite_le, n45, n54, true_or, or_true, false_or, or_false, false_and, and_false, kx_l, kx_r, go_s, gl_s, gi_s, gb_s2, gb_s3, gq_s, wt_nil, wt_int, wt_long, wt_ref, wt_null, nl_int, nl_long, nl_ref, nl_null, nl_none, rf_n, rf_s, rf_st, tl_s, tl_n, g0, gS, ex1, nb_b, nb_0, nb_1, nf_i, nf_l, nf_ra, nf_ro, nf_na, nf_no, nf_b0, nf_z0, t45_4, t45_5, true_and, and_true, List.set_cons_zero, List.set_cons_succ, List.length_cons, List.length_nil, rd_s, upw_s, ne_eq, not_false_eq_true, Nat.zero_add, Nat.add_zero, if_true, if_false, eq_self, rb, hb, hs0, hk, hs]
  repeat' first | with_reducible refine And.intro ?_ ?_ | omega
  refine sJ5_ensureCapacityInternal_d00df hS hT (by omega) (by omega) (by omega) (fun h => ⟨by rw [eK, if_pos h]; exact Nat.le_refl _, by rw [eS, if_pos h]; exact Int.le_refl _⟩) (fun h => ?_) (fun d' N' w' h1 h2 hT' => ?_)
  · simp only [eJ5_append_66267_10, eJ5_append_66267_13, eJ5_append_66267_13N, eJ5_append_66267_14, ite_le, n45, n54, true_or, or_true, false_or, or_false, false_and, and_false, kx_l, kx_r, go_s, gl_s, gi_s, gb_s2, gb_s3, gq_s, wt_nil, wt_int, wt_long, wt_ref, wt_null, nl_int, nl_long, nl_ref, nl_null, nl_none, rf_n, rf_s, rf_st, tl_s, tl_n, g0, gS, ex1, nb_b, nb_0, nb_1, nf_i, nf_l, nf_ra, nf_ro, nf_na, nf_no, nf_b0, nf_z0, t45_4, t45_5, true_and, and_true, List.set_cons_zero, List.set_cons_succ, List.length_cons, List.length_nil, rd_s, upw_s, ne_eq, not_false_eq_true, Nat.zero_add, Nat.add_zero, if_true, if_false, eq_self]
    exact lJ5_append_66267_19 hS (hD.ext hT.1) hT (by omega) k1 (by rw [e1, k3]) k4 k5 h (by omega) (by omega) (fun w' z => hQ _ _ _ _ hN (by omega) (by omega) z)
  · simp only [eJ5_append_66267_10, eJ5_append_66267_13, eJ5_append_66267_13N, eJ5_append_66267_14, ite_le, n45, n54, true_or, or_true, false_or, or_false, false_and, and_false, kx_l, kx_r, go_s, gl_s, gi_s, gb_s2, gb_s3, gq_s, wt_nil, wt_int, wt_long, wt_ref, wt_null, nl_int, nl_long, nl_ref, nl_null, nl_none, rf_n, rf_s, rf_st, tl_s, tl_n, g0, gS, ex1, nb_b, nb_0, nb_1, nf_i, nf_l, nf_ra, nf_ro, nf_na, nf_no, nf_b0, nf_z0, t45_4, t45_5, true_and, and_true, List.set_cons_zero, List.set_cons_succ, List.length_cons, List.length_nil, rd_s, upw_s, ne_eq, not_false_eq_true, Nat.zero_add, Nat.add_zero, if_true, if_false, eq_self]
    exact lJ5_append_66267_19 hS (hD.ext hT'.1) hT' (by omega) k1 (by rw [e1, k3]) k4 k5 (by omega) (by omega) (by omega) (fun w' z => hQ _ _ _ _ (by omega) (by omega) (by omega) z)
set_option maxHeartbeats 4000000 in
theorem sJ4_append_f7089 {b d N : Nat} {c : Int32} {x : Int64} (hS : SG g) (hT : TS g w0 b d N c w) (hN : N ≤ 170) (hc : c.toInt ≤ 63) (hD : DG g w0) (hQ : ∀ (d' N' : Nat) (c' : Int32) (w' : Hw), N' ≤ 170 → c.toInt ≤ c'.toInt → c'.toInt ≤ c.toInt + 20 → TS g w0 b d' N' c' w' → Q (.inl (some (.ref b))) w') : WP (MJ4_append_f7089 g) Q (0, [some (.ref b), some (.long x), none], [], w, 0, 0) := by
  obtain ⟨ml, f, hb, hd, hf, hc0, hc1, rb, rdd, n1, n2⟩ := hT.opn g
  simp only [eJ4_append_f7089_0, eJ4_append_f7089_0N, eJ4_append_f7089_1, ite_le, n45, n54, true_or, or_true, false_or, or_false, false_and, and_false, kx_l, kx_r, go_s, gl_s, gi_s, gb_s2, gb_s3, gq_s, wt_nil, wt_int, wt_long, wt_ref, wt_null, nl_int, nl_long, nl_ref, nl_null, nl_none, rf_n, rf_s, rf_st, tl_s, tl_n, g0, gS, ex1, nb_b, nb_0, nb_1, nf_i, nf_l, nf_ra, nf_ro, nf_na, nf_no, nf_b0, nf_z0, t45_4, t45_5, true_and, and_true, List.set_cons_zero, List.set_cons_succ, List.length_cons, List.length_nil, rd_s, upw_s, ne_eq, not_false_eq_true, Nat.zero_add, Nat.add_zero, if_true, if_false, eq_self, rb]
  repeat' first | with_reducible refine And.intro ?_ ?_ | omega
  refine sJ5_append_66267 hS hT hN hc hD (fun d' N' c' w' h1 h2 h3 z => ?_)
  simp only [eJ4_append_f7089_5, eJ4_append_f7089_5R, eJ4_append_f7089_5N, eJ4_append_f7089_6, eJ4_append_f7089_6N, eJ4_append_f7089_7, eJ4_append_f7089_7N, ite_le, n45, n54, true_or, or_true, false_or, or_false, false_and, and_false, kx_l, kx_r, go_s, gl_s, gi_s, gb_s2, gb_s3, gq_s, wt_nil, wt_int, wt_long, wt_ref, wt_null, nl_int, nl_long, nl_ref, nl_null, nl_none, rf_n, rf_s, rf_st, tl_s, tl_n, g0, gS, ex1, nb_b, nb_0, nb_1, nf_i, nf_l, nf_ra, nf_ro, nf_na, nf_no, nf_b0, nf_z0, t45_4, t45_5, true_and, and_true, List.set_cons_zero, List.set_cons_succ, List.length_cons, List.length_nil, rd_s, upw_s, ne_eq, not_false_eq_true, Nat.zero_add, Nat.add_zero, if_true, if_false, eq_self]
  repeat' first | with_reducible refine And.intro ?_ ?_ | omega
  exact hQ _ _ _ _ h1 h2 h3 z
end
end
