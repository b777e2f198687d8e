section
section
variable {g : RO} {Q : Ot → Hw → Prop} {w0 w : Hw}
theorem zz1 : ((1 : Int32) = 0) = False := eq_false (by decide)
theorem i32_p1 {c : Int32} (h0 : 0 ≤ c.toInt) (h : c.toInt ≤ 2000) : (c + 1).toInt = c.toInt + 1 := i32_add (by show -2147483648 ≤ c.toInt + 1; omega) (by show c.toInt + 1 ≤ 2147483647; omega)
theorem kE {w : Hw} {b d N : Nat} {c m ml : Int32} {f : Nat → Int32} (h1 : w b = some (.inr (1, [.ref d, .int 0, .int ml, .int c]))) (h2 : w d = some (.inl (2, N, .inl f))) (h0 : 0 ≤ m.toInt) : (kfE [.ref b, .int m] w = if (N : Int) < m.toInt then 1 else 0) ∧ ((sfE [.ref b, .int m] w : Nat) : Int) = if (N : Int) < m.toInt then max m.toInt (2 * (N : Int) + 2) else 0 := by
  have em : m.toNatClampNeg = m.toInt.toNat := rfl
  rw [kfE_v, sfE_v, sbCap_v h1 h2, em]
  by_cases h : (N : Int) < m.toInt
  · rw [if_pos h, if_pos h, if_pos (by omega), if_pos (by omega)]
    exact ⟨rfl, by omega⟩
  · rw [if_neg h, if_neg h, if_neg (by omega), if_neg (by omega)]
    exact ⟨rfl, rfl⟩
set_option maxHeartbeats 4000000 in
theorem lJ5_append_3fe6f_10 {mc ms k n : Nat} {b d N : Nat} {c ch : Int32} (hS : SG g) (hT : TS g w0 b d N c w) (hN : N ≤ 1000) (hch : (255 < ch) = False) (hlt : c.toInt + 1 ≤ (N : Int)) (hk : k ≤ mc) (hn : n ≤ ms) (hQ : ∀ w', TS g w0 b d N (c + 1) w' → Q (.inl (some (.ref b))) w') : WP (MJ5_append_3fe6f g mc ms) Q (10, [some (.ref b), some (.int ch)], [], w, k, n) := by
  obtain ⟨ml, f, hb, hd, hf, hc0, hc1, rb, rdd, n1, n2⟩ := hT.opn g
  have cv : vp_in c N := vpiN hc0 (by omega)
  have e1 := i32_p1 hc0 (by omega)
  simp only [eJ5_append_3fe6f_10, eJ5_append_3fe6f_10N, eJ5_append_3fe6f_11, eJ5_append_3fe6f_14, eJ5_append_3fe6f_17, eJ5_append_3fe6f_18, eJ5_append_3fe6f_21, eJ5_append_3fe6f_24, eJ5_append_3fe6f_24N, eJ5_append_3fe6f_25, eJ5_append_3fe6f_28, eJ5_append_3fe6f_28N, eJ5_append_3fe6f_29, eJ5_append_3fe6f_29R, eJ5_append_3fe6f_30, eJ5_append_3fe6f_33IR, eJ5_append_3fe6f_33RR, eJ5_append_3fe6f_34, eJ5_append_3fe6f_35, eJ5_append_3fe6f_36, eJ5_append_3fe6f_39, eJ5_append_3fe6f_40, eJ5_append_3fe6f_41, eJ5_append_3fe6f_42, eJ5_append_3fe6f_45, eJ5_append_3fe6f_45N, eJ5_append_3fe6f_46, eJ5_append_3fe6f_49, eJ5_append_3fe6f_52, eJ5_append_3fe6f_52N, eJ5_append_3fe6f_56, eJ5_append_3fe6f_56N, eJ5_append_3fe6f_57, eJ5_append_3fe6f_60, eJ5_append_3fe6f_60N, eJ5_append_3fe6f_61, eJ5_append_3fe6f_61R, eJ5_append_3fe6f_62, eJ5_append_3fe6f_65IR, eJ5_append_3fe6f_65RR, eJ5_append_3fe6f_66, eJ5_append_3fe6f_67, eJ5_append_3fe6f_68, eJ5_append_3fe6f_71, eJ5_append_3fe6f_75, eJ5_append_3fe6f_75N, eJ5_append_3fe6f_76, eJ5_append_3fe6f_76N, eJ5_isLatin1_aae02_0, eJ5_isLatin1_aae02_3, eJ5_isLatin1_aae02_6, eJ5_isLatin1_aae02_6N, eJ5_isLatin1_aae02_7, eJ5_isLatin1_aae02_10, eJ5_isLatin1_aae02_13, eJ5_isLatin1_aae02_17, eJ5_isLatin1_aae02_18, eJ1_canEncode_fc78d_0, eJ1_canEncode_fc78d_7, eJ1_canEncode_fc78d_11, eJ1_canEncode_fc78d_12, ite_le, n45, n54, true_or, or_true, false_or, or_false, false_and, and_false, kx_l, kx_r, go_s, gl_s, gi_s, gb_s2, gb_s3, gq_s, wt_nil, wt_int, wt_long, wt_ref, wt_null, nl_int, nl_long, nl_ref, nl_null, nl_none, rf_n, rf_s, rf_st, tl_s, tl_n, g0, gS, ex1, nb_b, nb_0, nb_1, nf_i, nf_l, nf_ra, nf_ro, nf_na, nf_no, nf_b0, nf_z0, t45_4, t45_5, true_and, and_true, List.set_cons_zero, List.set_cons_succ, List.length_cons, List.length_nil, rd_s, upw_s, ne_eq, not_false_eq_true, Nat.zero_add, Nat.add_zero, if_true, if_false, eq_self, hS.1, zz1, hch, rb, hb, rdd, hd, n1, n2, upw_n, rd_n, bty_2, cv, exal, al26]
  repeat' first | with_reducible refine And.intro ?_ ?_ | omega
  exact hQ _ (hT.fin2 (bOK_up hf _ _) (by omega) (by omega))
set_option maxHeartbeats 4000000 in
theorem sJ5_append_3fe6f {mc ms : Nat} {b d N : Nat} {c ch : Int32} (hS : SG g) (hT : TS g w0 b d N c w) (hN : N ≤ 400) (hch : (255 < ch) = False) (hmc : (N : Int) < c.toInt + 1 → 1 ≤ mc ∧ max (c.toInt + 1) (2 * (N : Int) + 2) ≤ (ms : Int)) (hQ1 : ∀ w', c.toInt + 1 ≤ (N : Int) → TS g w0 b d N (c + 1) w' → Q (.inl (some (.ref b))) w') (hQ2 : ∀ (d' N' : Nat) (w' : Hw), (N : Int) < c.toInt + 1 → (N' : Int) = max (c.toInt + 1) (2 * (N : Int) + 2) → TS g w0 b d' N' (c + 1) w' → Q (.inl (some (.ref b))) w') : WP (MJ5_append_3fe6f g mc ms) Q (0, [some (.ref b), some (.int ch)], [], w, 0, 0) := by
  obtain ⟨ml, f, hb, hd, hf, hc0, hc1, rb, rdd, n1, n2⟩ := hT.opn g
  have e1 := i32_p1 hc0 (by omega)
  obtain ⟨eK, eS⟩ := kE (m := c + 1) hb hd (by omega)
  have hk : kfE [.ref b, .int (c + 1)] w ≤ mc := by
    rw [eK]
    split
    · exact (hmc (by omega)).1
    · exact Nat.zero_le _
  have hs : sfE [.ref b, .int (c + 1)] w ≤ ms := by
    split at eS
    · have := (hmc (by omega)).2
      omega
    · omega
  simp only [eJ5_append_3fe6f_0, eJ5_append_3fe6f_0N, eJ5_append_3fe6f_1, eJ5_append_3fe6f_1N, eJ5_append_3fe6f_2, eJ5_append_3fe6f_5, eJ5_append_3fe6f_6, eJ5_append_3fe6f_7, ite_le, n45, n54, true_or, or_true, false_or, or_false, false_and, and_false, kx_l, kx_r, go_s, gl_s, gi_s, gb_s2, gb_s3, gq_s, wt_nil, wt_int, wt_long, wt_ref, wt_null, nl_int, nl_long, nl_ref, nl_null, nl_none, rf_n, rf_s, rf_st, tl_s, tl_n, g0, gS, ex1, nb_b, nb_0, nb_1, nf_i, nf_l, nf_ra, nf_ro, nf_na, nf_no, nf_b0, nf_z0, t45_4, t45_5, true_and, and_true, List.set_cons_zero, List.set_cons_succ, List.length_cons, List.length_nil, rd_s, upw_s, ne_eq, not_false_eq_true, Nat.zero_add, Nat.add_zero, if_true, if_false, eq_self, rb, hb, hk, hs]
  repeat' first | with_reducible refine And.intro ?_ ?_ | omega
  refine sJ5_ensureCapacityInternal_d00df hS hT (by omega) (by omega) (by omega) (fun h => ⟨by rw [eK, if_pos h]; exact Nat.le_refl _, by rw [eS, if_pos h]; exact Int.le_refl _⟩) (fun h => ?_) (fun d' N' w' h1 h2 hT' => ?_)
  · simp only [eJ5_append_3fe6f_0, eJ5_append_3fe6f_0N, eJ5_append_3fe6f_1, eJ5_append_3fe6f_1N, eJ5_append_3fe6f_2, eJ5_append_3fe6f_5, eJ5_append_3fe6f_6, eJ5_append_3fe6f_7, ite_le, n45, n54, true_or, or_true, false_or, or_false, false_and, and_false, kx_l, kx_r, go_s, gl_s, gi_s, gb_s2, gb_s3, gq_s, wt_nil, wt_int, wt_long, wt_ref, wt_null, nl_int, nl_long, nl_ref, nl_null, nl_none, rf_n, rf_s, rf_st, tl_s, tl_n, g0, gS, ex1, nb_b, nb_0, nb_1, nf_i, nf_l, nf_ra, nf_ro, nf_na, nf_no, nf_b0, nf_z0, t45_4, t45_5, true_and, and_true, List.set_cons_zero, List.set_cons_succ, List.length_cons, List.length_nil, rd_s, upw_s, ne_eq, not_false_eq_true, Nat.zero_add, Nat.add_zero, if_true, if_false, eq_self]
    exact lJ5_append_3fe6f_10 hS hT (by omega) hch (by omega) (by omega) (by omega) (fun w' z => hQ1 w' (by omega) z)
  · simp only [eJ5_append_3fe6f_0, eJ5_append_3fe6f_0N, eJ5_append_3fe6f_1, eJ5_append_3fe6f_1N, eJ5_append_3fe6f_2, eJ5_append_3fe6f_5, eJ5_append_3fe6f_6, eJ5_append_3fe6f_7, ite_le, n45, n54, true_or, or_true, false_or, or_false, false_and, and_false, kx_l, kx_r, go_s, gl_s, gi_s, gb_s2, gb_s3, gq_s, wt_nil, wt_int, wt_long, wt_ref, wt_null, nl_int, nl_long, nl_ref, nl_null, nl_none, rf_n, rf_s, rf_st, tl_s, tl_n, g0, gS, ex1, nb_b, nb_0, nb_1, nf_i, nf_l, nf_ra, nf_ro, nf_na, nf_no, nf_b0, nf_z0, t45_4, t45_5, true_and, and_true, List.set_cons_zero, List.set_cons_succ, List.length_cons, List.length_nil, rd_s, upw_s, ne_eq, not_false_eq_true, Nat.zero_add, Nat.add_zero, if_true, if_false, eq_self]
    exact lJ5_append_3fe6f_10 hS hT' (by omega) hch (by omega) (by omega) (by omega) (fun w' z => hQ2 d' N' w' (by omega) (by omega) z)
set_option maxHeartbeats 4000000 in
theorem lJ5_append_c97b9_17 {mc ms k n : Nat} {b d N : Nat} {c i : Int32} (hS : SG g) (hT : TS g w0 b d N c w) (hD : DG g w) (hN : N ≤ 1000) (hi0 : ¬ i < 0) (hi1 : i < 10) (hlt : c.toInt + 1 ≤ (N : Int)) (hk : k ≤ mc) (hn : n ≤ ms) (hQ : ∀ w', TS g w0 b d N (c + 1) w' → Q (.inl (some (.ref b))) w') : WP (MJ5_append_c97b9 g mc ms) Q (17, [some (.ref b), some (.int i), some (.int c), some (.int (c + 1))], [], w, k, n) := by
  obtain ⟨ml, f, hb, hd, hf, hc0, hc1, rb, rdd, n1, n2⟩ := hT.opn g
  have e1 := i32_p1 hc0 (by omega)
  simp only [eJ5_append_c97b9_17, eJ5_append_c97b9_17N, eJ5_append_c97b9_18, eJ5_append_c97b9_21, eJ5_append_c97b9_24, eJ5_append_c97b9_25, eJ5_append_c97b9_26, eJ5_append_c97b9_26N, eJ5_append_c97b9_27, eJ5_append_c97b9_30R, eJ5_append_c97b9_30N, eJ5_isLatin1_aae02_0, eJ5_isLatin1_aae02_3, eJ5_isLatin1_aae02_6, eJ5_isLatin1_aae02_6N, eJ5_isLatin1_aae02_7, eJ5_isLatin1_aae02_10, eJ5_isLatin1_aae02_13, eJ5_isLatin1_aae02_17, eJ5_isLatin1_aae02_18, ite_le, n45, n54, true_or, or_true, false_or, or_false, false_and, and_false, kx_l, kx_r, go_s, gl_s, gi_s, gb_s2, gb_s3, gq_s, wt_nil, wt_int, wt_long, wt_ref, wt_null, nl_int, nl_long, nl_ref, nl_null, nl_none, rf_n, rf_s, rf_st, tl_s, tl_n, g0, gS, ex1, nb_b, nb_0, nb_1, nf_i, nf_l, nf_ra, nf_ro, nf_na, nf_no, nf_b0, nf_z0, t45_4, t45_5, true_and, and_true, List.set_cons_zero, List.set_cons_succ, List.length_cons, List.length_nil, rd_s, upw_s, ne_eq, not_false_eq_true, Nat.zero_add, Nat.add_zero, if_true, if_false, eq_self, hS.1, zz1, rb, hb, rdd, hd, n1, n2, exal, al26]
  repeat' first | with_reducible refine And.intro ?_ ?_ | omega
  refine sJ6_getChars_ba4f3 hd hf hD hi0 hi1 (by omega) (by omega) (fun f' v hf' => ?_)
  simp only [eJ5_append_c97b9_33, eJ5_append_c97b9_33R, eJ5_append_c97b9_33N, eJ5_append_c97b9_34, eJ5_append_c97b9_37, eJ5_append_c97b9_38, eJ5_append_c97b9_39, eJ5_append_c97b9_40, eJ5_append_c97b9_40N, eJ5_append_c97b9_41, eJ5_append_c97b9_47, eJ5_append_c97b9_47R, eJ5_append_c97b9_47N, eJ5_append_c97b9_48, eJ5_append_c97b9_48N, eJ5_append_c97b9_49, eJ5_append_c97b9_50, eJ5_append_c97b9_53, eJ5_append_c97b9_53N, eJ5_append_c97b9_54, eJ5_append_c97b9_54N, ite_le, n45, n54, true_or, or_true, false_or, or_false, false_and, and_false, kx_l, kx_r, go_s, gl_s, gi_s, gb_s2, gb_s3, gq_s, wt_nil, wt_int, wt_long, wt_ref, wt_null, nl_int, nl_long, nl_ref, nl_null, nl_none, rf_n, rf_s, rf_st, tl_s, tl_n, g0, gS, ex1, nb_b, nb_0, nb_1, nf_i, nf_l, nf_ra, nf_ro, nf_na, nf_no, nf_b0, nf_z0, t45_4, t45_5, true_and, and_true, List.set_cons_zero, List.set_cons_succ, List.length_cons, List.length_nil, rd_s, upw_s, ne_eq, not_false_eq_true, Nat.zero_add, Nat.add_zero, if_true, if_false, eq_self, hb, n1, n2, upw_n]
  repeat' first | with_reducible refine And.intro ?_ ?_ | omega
  exact hQ _ (hT.fin hf' (by omega) (by omega))
set_option maxHeartbeats 4000000 in
theorem sJ5_append_c97b9 {mc ms : Nat} {b d N : Nat} {c i : Int32} (hS : SG g) (hT : TS g w0 b d N c w) (hD : DG g w0) (hN : N ≤ 400) (hi0 : ¬ i < 0) (hi1 : i < 10) (hmc : (N : Int) < c.toInt + 1 → 1 ≤ mc ∧ max (c.toInt + 1) (2 * (N : Int) + 2) ≤ (ms : Int)) (hQ1 : ∀ w', c.toInt + 1 ≤ (N : Int) → TS g w0 b d N (c + 1) w' → Q (.inl (some (.ref b))) w') (hQ2 : ∀ (d' N' : Nat) (w' : Hw), (N : Int) < c.toInt + 1 → (N' : Int) = max (c.toInt + 1) (2 * (N : Int) + 2) → TS g w0 b d' N' (c + 1) w' → Q (.inl (some (.ref b))) w') : WP (MJ5_append_c97b9 g mc ms) Q (0, [some (.ref b), some (.int i), none, none], [], w, 0, 0) := by
  obtain ⟨ml, f, hb, hd, hf, hc0, hc1, rb, rdd, n1, n2⟩ := hT.opn g
  have e1 := i32_p1 hc0 (by omega)
  obtain ⟨eK, eS⟩ := kE (m := c + 1) hb hd (by omega)
  have hk : kfE [.ref b, .int (c + 1)] w ≤ mc := by
    rw [eK]
    split
    · exact (hmc (by omega)).1
    · exact Nat.zero_le _
  have hs : sfE [.ref b, .int (c + 1)] w ≤ ms := by
    split at eS
    · have := (hmc (by omega)).2
      omega
    · omega
  simp only [eJ5_append_c97b9_0, eJ5_append_c97b9_0N, eJ5_append_c97b9_1, eJ5_append_c97b9_4, eJ5_append_c97b9_5, eJ5_append_c97b9_6, eJ5_append_c97b9_7, ite_le, n45, n54, true_or, or_true, false_or, or_false, false_and, and_false, kx_l, kx_r, go_s, gl_s, gi_s, gb_s2, gb_s3, gq_s, wt_nil, wt_int, wt_long, wt_ref, wt_null, nl_int, nl_long, nl_ref, nl_null, nl_none, rf_n, rf_s, rf_st, tl_s, tl_n, g0, gS, ex1, nb_b, nb_0, nb_1, nf_i, nf_l, nf_ra, nf_ro, nf_na, nf_no, nf_b0, nf_z0, t45_4, t45_5, true_and, and_true, List.set_cons_zero, List.set_cons_succ, List.length_cons, List.length_nil, rd_s, upw_s, ne_eq, not_false_eq_true, Nat.zero_add, Nat.add_zero, if_true, if_false, eq_self, rb, hb]
  repeat' first | with_reducible refine And.intro ?_ ?_ | omega
  refine sJ6_stringSize_0f7a4 hi0 hi1 ?_
  simp only [eJ5_append_c97b9_10, eJ5_append_c97b9_11, eJ5_append_c97b9_12, eJ5_append_c97b9_12N, eJ5_append_c97b9_13, eJ5_append_c97b9_14, ite_le, n45, n54, true_or, or_true, false_or, or_false, false_and, and_false, kx_l, kx_r, go_s, gl_s, gi_s, gb_s2, gb_s3, gq_s, wt_nil, wt_int, wt_long, wt_ref, wt_null, nl_int, nl_long, nl_ref, nl_null, nl_none, rf_n, rf_s, rf_st, tl_s, tl_n, g0, gS, ex1, nb_b, nb_0, nb_1, nf_i, nf_l, nf_ra, nf_ro, nf_na, nf_no, nf_b0, nf_z0, t45_4, t45_5, true_and, and_true, List.set_cons_zero, List.set_cons_succ, List.length_cons, List.length_nil, rd_s, upw_s, ne_eq, not_false_eq_true, Nat.zero_add, Nat.add_zero, if_true, if_false, eq_self, rb, hb, hk, hs]
  repeat' first | with_reducible refine And.intro ?_ ?_ | omega
  refine sJ5_ensureCapacityInternal_d00df hS hT (by omega) (by omega) (by omega) (fun h => ⟨by rw [eK, if_pos h]; exact Nat.le_refl _, by rw [eS, if_pos h]; exact Int.le_refl _⟩) (fun h => ?_) (fun d' N' w' h1 h2 hT' => ?_)
  · simp only [eJ5_append_c97b9_10, eJ5_append_c97b9_11, eJ5_append_c97b9_12, eJ5_append_c97b9_12N, eJ5_append_c97b9_13, eJ5_append_c97b9_14, ite_le, n45, n54, true_or, or_true, false_or, or_false, false_and, and_false, kx_l, kx_r, go_s, gl_s, gi_s, gb_s2, gb_s3, gq_s, wt_nil, wt_int, wt_long, wt_ref, wt_null, nl_int, nl_long, nl_ref, nl_null, nl_none, rf_n, rf_s, rf_st, tl_s, tl_n, g0, gS, ex1, nb_b, nb_0, nb_1, nf_i, nf_l, nf_ra, nf_ro, nf_na, nf_no, nf_b0, nf_z0, t45_4, t45_5, true_and, and_true, List.set_cons_zero, List.set_cons_succ, List.length_cons, List.length_nil, rd_s, upw_s, ne_eq, not_false_eq_true, Nat.zero_add, Nat.add_zero, if_true, if_false, eq_self]
    exact lJ5_append_c97b9_17 hS hT (hD.ext hT.1) (by omega) hi0 hi1 (by omega) (by omega) (by omega) (fun w' z => hQ1 w' (by omega) z)
  · simp only [eJ5_append_c97b9_10, eJ5_append_c97b9_11, eJ5_append_c97b9_12, eJ5_append_c97b9_12N, eJ5_append_c97b9_13, eJ5_append_c97b9_14, ite_le, n45, n54, true_or, or_true, false_or, or_false, false_and, and_false, kx_l, kx_r, go_s, gl_s, gi_s, gb_s2, gb_s3, gq_s, wt_nil, wt_int, wt_long, wt_ref, wt_null, nl_int, nl_long, nl_ref, nl_null, nl_none, rf_n, rf_s, rf_st, tl_s, tl_n, g0, gS, ex1, nb_b, nb_0, nb_1, nf_i, nf_l, nf_ra, nf_ro, nf_na, nf_no, nf_b0, nf_z0, t45_4, t45_5, true_and, and_true, List.set_cons_zero, List.set_cons_succ, List.length_cons, List.length_nil, rd_s, upw_s, ne_eq, not_false_eq_true, Nat.zero_add, Nat.add_zero, if_true, if_false, eq_self]
    exact lJ5_append_c97b9_17 hS hT' (hD.ext hT'.1) (by omega) hi0 hi1 (by omega) (by omega) (by omega) (fun w' z => hQ2 d' N' w' (by omega) (by omega) z)
set_option maxHeartbeats 4000000 in
theorem sJ4_append_cf468 {mc ms : Nat} {b d N : Nat} {c i : Int32} (hS : SG g) (hT : TS g w0 b d N c w) (hN : N ≤ 400) (hch : (255 < i) = False) (hmc : (N : Int) < c.toInt + 1 → 1 ≤ mc ∧ max (c.toInt + 1) (2 * (N : Int) + 2) ≤ (ms : Int)) (hQ1 : ∀ w', c.toInt + 1 ≤ (N : Int) → TS g w0 b d N (c + 1) w' → Q (.inl (some (.ref b))) w') (hQ2 : ∀ (d' N' : Nat) (w' : Hw), (N : Int) < c.toInt + 1 → (N' : Int) = max (c.toInt + 1) (2 * (N : Int) + 2) → TS g w0 b d' N' (c + 1) w' → Q (.inl (some (.ref b))) w') : WP (MJ4_append_cf468 g mc ms) Q (0, [some (.ref b), some (.int i)], [], w, 0, 0) := by
  obtain ⟨ml, f, hb, hd, hf, hc0, hc1, rb, rdd, n1, n2⟩ := hT.opn g
  have e1 := i32_p1 hc0 (by omega)
  obtain ⟨eK, eS⟩ := kE (m := c + 1) hb hd (by omega)
  rw [← sbCnt_v hb, ← kfI_v (m := i)] at eK
  rw [← sbCnt_v hb, ← sfI_v (m := i)] at eS
  rw [sbCnt_v hb] at eK eS
  have hk : kfI [.ref b, .int i] w ≤ mc := by
    rw [eK]
    split
    · exact (hmc (by omega)).1
    · exact Nat.zero_le _
  have hs : sfI [.ref b, .int i] w ≤ ms := by
    split at eS
    · have := (hmc (by omega)).2
      omega
    · omega
  simp only [eJ4_append_cf468_0, eJ4_append_cf468_0N, eJ4_append_cf468_1, eJ4_append_cf468_2, ite_le, n45, n54, true_or, or_true, false_or, or_false, false_and, and_false, kx_l, kx_r, go_s, gl_s, gi_s, gb_s2, gb_s3, gq_s, wt_nil, wt_int, wt_long, wt_ref, wt_null, nl_int, nl_long, nl_ref, nl_null, nl_none, rf_n, rf_s, rf_st, tl_s, tl_n, g0, gS, ex1, nb_b, nb_0, nb_1, nf_i, nf_l, nf_ra, nf_ro, nf_na, nf_no, nf_b0, nf_z0, t45_4, t45_5, true_and, and_true, List.set_cons_zero, List.set_cons_succ, List.length_cons, List.length_nil, rd_s, upw_s, ne_eq, not_false_eq_true, Nat.zero_add, Nat.add_zero, if_true, if_false, eq_self, rb, hb, hk, hs]
  repeat' first | with_reducible refine And.intro ?_ ?_ | omega
  refine sJ5_append_3fe6f hS hT  (by omega) hch (fun h => ⟨by rw [eK, if_pos (by omega)]; exact Nat.le_refl _, by rw [eS, if_pos (by omega), e1]; exact Int.le_refl _⟩) (fun w' h z => ?_) (fun d' N' w' h h2 z => ?_)
  · simp only [eJ4_append_cf468_0, eJ4_append_cf468_0N, eJ4_append_cf468_1, eJ4_append_cf468_2, eJ4_append_cf468_5, eJ4_append_cf468_5R, eJ4_append_cf468_5N, eJ4_append_cf468_6, eJ4_append_cf468_6N, eJ4_append_cf468_7, eJ4_append_cf468_7N, ite_le, n45, n54, true_or, or_true, false_or, or_false, false_and, and_false, kx_l, kx_r, go_s, gl_s, gi_s, gb_s2, gb_s3, gq_s, wt_nil, wt_int, wt_long, wt_ref, wt_null, nl_int, nl_long, nl_ref, nl_null, nl_none, rf_n, rf_s, rf_st, tl_s, tl_n, g0, gS, ex1, nb_b, nb_0, nb_1, nf_i, nf_l, nf_ra, nf_ro, nf_na, nf_no, nf_b0, nf_z0, t45_4, t45_5, true_and, and_true, List.set_cons_zero, List.set_cons_succ, List.length_cons, List.length_nil, rd_s, upw_s, ne_eq, not_false_eq_true, Nat.zero_add, Nat.add_zero, if_true, if_false, eq_self]
    exact ⟨by omega, by omega, hQ1 w' h z⟩
  · simp only [eJ4_append_cf468_0, eJ4_append_cf468_0N, eJ4_append_cf468_1, eJ4_append_cf468_2, eJ4_append_cf468_5, eJ4_append_cf468_5R, eJ4_append_cf468_5N, eJ4_append_cf468_6, eJ4_append_cf468_6N, eJ4_append_cf468_7, eJ4_append_cf468_7N, ite_le, n45, n54, true_or, or_true, false_or, or_false, false_and, and_false, kx_l, kx_r, go_s, gl_s, gi_s, gb_s2, gb_s3, gq_s, wt_nil, wt_int, wt_long, wt_ref, wt_null, nl_int, nl_long, nl_ref, nl_null, nl_none, rf_n, rf_s, rf_st, tl_s, tl_n, g0, gS, ex1, nb_b, nb_0, nb_1, nf_i, nf_l, nf_ra, nf_ro, nf_na, nf_no, nf_b0, nf_z0, t45_4, t45_5, true_and, and_true, List.set_cons_zero, List.set_cons_succ, List.length_cons, List.length_nil, rd_s, upw_s, ne_eq, not_false_eq_true, Nat.zero_add, Nat.add_zero, if_true, if_false, eq_self]
    exact ⟨by omega, by omega, hQ2 d' N' w' h h2 z⟩
set_option maxHeartbeats 4000000 in
theorem sJ4_append_bf812 {mc ms : Nat} {b d N : Nat} {c i : Int32} (hS : SG g) (hT : TS g w0 b d N c w) (hD : DG g w0) (hN : N ≤ 400) (hi0 : ¬ i < 0) (hi1 : i < 10) (hmc : (N : Int) < c.toInt + 1 → 1 ≤ mc ∧ max (c.toInt + 1) (2 * (N : Int) + 2) ≤ (ms : Int)) (hQ1 : ∀ w', c.toInt + 1 ≤ (N : Int) → TS g w0 b d N (c + 1) w' → Q (.inl (some (.ref b))) w') (hQ2 : ∀ (d' N' : Nat) (w' : Hw), (N : Int) < c.toInt + 1 → (N' : Int) = max (c.toInt + 1) (2 * (N : Int) + 2) → TS g w0 b d' N' (c + 1) w' → Q (.inl (some (.ref b))) w') : WP (MJ4_append_bf812 g mc ms) Q (0, [some (.ref b), some (.int i)], [], w, 0, 0) := by
  obtain ⟨ml, f, hb, hd, hf, hc0, hc1, rb, rdd, n1, n2⟩ := hT.opn g
  have e1 := i32_p1 hc0 (by omega)
  obtain ⟨eK, eS⟩ := kE (m := c + 1) hb hd (by omega)
  rw [← sbCnt_v hb, ← kfI_v (m := i)] at eK
  rw [← sbCnt_v hb, ← sfI_v (m := i)] at eS
  rw [sbCnt_v hb] at eK eS
  have hk : kfI [.ref b, .int i] w ≤ mc := by
    rw [eK]
    split
    · exact (hmc (by omega)).1
    · exact Nat.zero_le _
  have hs : sfI [.ref b, .int i] w ≤ ms := by
    split at eS
    · have := (hmc (by omega)).2
      omega
    · omega
  simp only [eJ4_append_bf812_0, eJ4_append_bf812_0N, eJ4_append_bf812_1, eJ4_append_bf812_2, ite_le, n45, n54, true_or, or_true, false_or, or_false, false_and, and_false, kx_l, kx_r, go_s, gl_s, gi_s, gb_s2, gb_s3, gq_s, wt_nil, wt_int, wt_long, wt_ref, wt_null, nl_int, nl_long, nl_ref, nl_null, nl_none, rf_n, rf_s, rf_st, tl_s, tl_n, g0, gS, ex1, nb_b, nb_0, nb_1, nf_i, nf_l, nf_ra, nf_ro, nf_na, nf_no, nf_b0, nf_z0, t45_4, t45_5, true_and, and_true, List.set_cons_zero, List.set_cons_succ, List.length_cons, List.length_nil, rd_s, upw_s, ne_eq, not_false_eq_true, Nat.zero_add, Nat.add_zero, if_true, if_false, eq_self, rb, hb, hk, hs]
  repeat' first | with_reducible refine And.intro ?_ ?_ | omega
  refine sJ5_append_c97b9 hS hT hD (by omega) hi0 hi1 (fun h => ⟨by rw [eK, if_pos (by omega)]; exact Nat.le_refl _, by rw [eS, if_pos (by omega), e1]; exact Int.le_refl _⟩) (fun w' h z => ?_) (fun d' N' w' h h2 z => ?_)
  · simp only [eJ4_append_bf812_0, eJ4_append_bf812_0N, eJ4_append_bf812_1, eJ4_append_bf812_2, eJ4_append_bf812_5, eJ4_append_bf812_5R, eJ4_append_bf812_5N, eJ4_append_bf812_6, eJ4_append_bf812_6N, eJ4_append_bf812_7, eJ4_append_bf812_7N, ite_le, n45, n54, true_or, or_true, false_or, or_false, false_and, and_false, kx_l, kx_r, go_s, gl_s, gi_s, gb_s2, gb_s3, gq_s, wt_nil, wt_int, wt_long, wt_ref, wt_null, nl_int, nl_long, nl_ref, nl_null, nl_none, rf_n, rf_s, rf_st, tl_s, tl_n, g0, gS, ex1, nb_b, nb_0, nb_1, nf_i, nf_l, nf_ra, nf_ro, nf_na, nf_no, nf_b0, nf_z0, t45_4, t45_5, true_and, and_true, List.set_cons_zero, List.set_cons_succ, List.length_cons, List.length_nil, rd_s, upw_s, ne_eq, not_false_eq_true, Nat.zero_add, Nat.add_zero, if_true, if_false, eq_self]
    exact ⟨by omega, by omega, hQ1 w' h z⟩
  · simp only [eJ4_append_bf812_0, eJ4_append_bf812_0N, eJ4_append_bf812_1, eJ4_append_bf812_2, eJ4_append_bf812_5, eJ4_append_bf812_5R, eJ4_append_bf812_5N, eJ4_append_bf812_6, eJ4_append_bf812_6N, eJ4_append_bf812_7, eJ4_append_bf812_7N, ite_le, n45, n54, true_or, or_true, false_or, or_false, false_and, and_false, kx_l, kx_r, go_s, gl_s, gi_s, gb_s2, gb_s3, gq_s, wt_nil, wt_int, wt_long, wt_ref, wt_null, nl_int, nl_long, nl_ref, nl_null, nl_none, rf_n, rf_s, rf_st, tl_s, tl_n, g0, gS, ex1, nb_b, nb_0, nb_1, nf_i, nf_l, nf_ra, nf_ro, nf_na, nf_no, nf_b0, nf_z0, t45_4, t45_5, true_and, and_true, List.set_cons_zero, List.set_cons_succ, List.length_cons, List.length_nil, rd_s, upw_s, ne_eq, not_false_eq_true, Nat.zero_add, Nat.add_zero, if_true, if_false, eq_self]
    exact ⟨by omega, by omega, hQ2 d' N' w' h h2 z⟩
end
end
