section
section
variable {g : RO} {Q : Ot → Hw → Prop} {w0 w : Hw}
theorem TS.byt {w0 w : Hw} {b d N : Nat} {c : Int32} {f' : Nat → Int32} (h : TS g w0 b d N c w) (hf : bOK N f') : TS g w0 b d N c (upw w d (.inl (2, N, .inl f'))) := by
  obtain ⟨ml, f, hb, hd, -, h0, h1, -, -, n1, n2⟩ := h.opn g
  exact ⟨h.1.own h.2.1.2.1 h.2.1.2.2.2, h.2.1, ml, f', by rw [upw_n n1]; exact hb, upw_s _ _ _, hf, h0, h1⟩
theorem sub0 (a : Int32) : a - 0 = a := by simp
theorem i32_t0 {a : Int32} (h : a.toInt < 0) : (a < 0) = True := eq_true (i32_of_lt (by have e : (0 : Int32).toInt = 0 := rfl; omega))
set_option maxHeartbeats 4000000 in
theorem lJ5_reverse_278bc_28 {b d N : Nat} {c n : Int32} (hN : N ≤ 1000) (hn : n.toInt < (N : Int)) (hn1 : -1 ≤ n.toInt) (hQ : ∀ w', TS g w0 b d N c w' → Q (.inl (some (.ref b))) w') : ∀ (e : Nat) (j : Int32) (l5 l6 : Option Value) (w : Hw), j.toInt + 1 ≤ e → -1 ≤ j.toInt → j.toInt ≤ n.toInt → TS g w0 b d N c w →
    WP (MJ5_reverse_278bc g) Q (28, [some (.ref b), some (.ref d), some (.int c), some (.int n), some (.int j), l5, l6], [], w, 0, 0) := by
  intro e
  induction e with
  | zero =>
    intro j l5 l6 w h1 h2 h3 hT
    have t : (j < 0) = True := i32_t0 (by omega)
    rw [eJ5_reverse_278bc_28]
    simp only [eJ5_reverse_278bc_30, eJ5_reverse_278bc_33, eJ5_reverse_278bc_39, eJ5_reverse_278bc_39N, eJ5_reverse_278bc_40, eJ5_reverse_278bc_43, eJ5_reverse_278bc_45, eJ5_reverse_278bc_45N, eJ5_reverse_278bc_46, eJ5_reverse_278bc_48, eJ5_reverse_278bc_48N, eJ5_reverse_278bc_49, eJ5_reverse_278bc_52, eJ5_reverse_278bc_53, eJ5_reverse_278bc_53N, eJ5_reverse_278bc_54, eJ5_reverse_278bc_59, eJ5_reverse_278bc_65, eJ5_reverse_278bc_68, eJ5_reverse_278bc_68N, eJ5_reverse_278bc_69, eJ5_reverse_278bc_73, eJ5_reverse_278bc_73N, eJ5_reverse_278bc_74, eJ5_reverse_278bc_74N, ite_le, n45, n54, true_or, or_true, false_or, or_false, false_and, and_false, kx_l, kx_r, go_s, gl_s, gi_s, gb_s2, gb_s3, gq_s, wt_nil, wt_int, wt_long, wt_ref, wt_null, nl_int, nl_long, nl_ref, nl_null, nl_none, rf_n, rf_s, rf_st, tl_s, tl_n, g0, gS, ex1, nb_b, nb_0, nb_1, nf_i, nf_l, nf_ra, nf_ro, nf_na, nf_no, nf_b0, nf_z0, t45_4, t45_5, true_and, and_true, List.set_cons_zero, List.set_cons_succ, List.length_cons, List.length_nil, rd_s, upw_s, ne_eq, not_false_eq_true, Nat.zero_add, Nat.add_zero, if_true, if_false, eq_self, t]
    repeat' first | with_reducible refine And.intro ?_ ?_ | omega
    exact hQ _ hT
  | succ e ih =>
    intro j l5 l6 w h1 h2 h3 hT
    obtain ⟨ml, f, hb, hd, hf, hc0, hc1, rb, rdd, n1, n2⟩ := hT.opn g
    rw [eJ5_reverse_278bc_28]
    simp only [eJ5_reverse_278bc_30, ite_le, n45, n54, true_or, or_true, false_or, or_false, false_and, and_false, kx_l, kx_r, go_s, gl_s, gi_s, gb_s2, gb_s3, gq_s, wt_nil, wt_int, wt_long, wt_ref, wt_null, nl_int, nl_long, nl_ref, nl_null, nl_none, rf_n, rf_s, rf_st, tl_s, tl_n, g0, gS, ex1, nb_b, nb_0, nb_1, nf_i, nf_l, nf_ra, nf_ro, nf_na, nf_no, nf_b0, nf_z0, t45_4, t45_5, true_and, and_true, List.set_cons_zero, List.set_cons_succ, List.length_cons, List.length_nil, rd_s, upw_s, ne_eq, not_false_eq_true, Nat.zero_add, Nat.add_zero, if_true, if_false, eq_self]
    split
    · simp only [eJ5_reverse_278bc_65, eJ5_reverse_278bc_68, eJ5_reverse_278bc_68N, eJ5_reverse_278bc_69, eJ5_reverse_278bc_73, eJ5_reverse_278bc_73N, eJ5_reverse_278bc_74, eJ5_reverse_278bc_74N, ite_le, n45, n54, true_or, or_true, false_or, or_false, false_and, and_false, kx_l, kx_r, go_s, gl_s, gi_s, gb_s2, gb_s3, gq_s, wt_nil, wt_int, wt_long, wt_ref, wt_null, nl_int, nl_long, nl_ref, nl_null, nl_none, rf_n, rf_s, rf_st, tl_s, tl_n, g0, gS, ex1, nb_b, nb_0, nb_1, nf_i, nf_l, nf_ra, nf_ro, nf_na, nf_no, nf_b0, nf_z0, t45_4, t45_5, true_and, and_true, List.set_cons_zero, List.set_cons_succ, List.length_cons, List.length_nil, rd_s, upw_s, ne_eq, not_false_eq_true, Nat.zero_add, Nat.add_zero, if_true, if_false, eq_self]
      repeat' first | with_reducible refine And.intro ?_ ?_ | omega
      exact hQ _ hT
    · next hj =>
      have hj := i32_0 hj
      obtain ⟨q, hq⟩ : ∃ q, n - j = q := ⟨_, rfl⟩
      have eq : q.toInt = n.toInt - j.toInt := by
        rw [← hq]
        exact i32_sub (by omega) (by omega)
      have jv : vp_in j N := vpiN (by omega) (by omega)
      have qv : vp_in q N := vpiN (by omega) (by omega)
      have ej : (j + -1).toInt = j.toInt - 1 := i32_m1 (by omega)
      simp only [eJ5_reverse_278bc_33, eJ5_reverse_278bc_39, eJ5_reverse_278bc_39N, eJ5_reverse_278bc_40, eJ5_reverse_278bc_43, eJ5_reverse_278bc_45, eJ5_reverse_278bc_45N, eJ5_reverse_278bc_46, eJ5_reverse_278bc_48, eJ5_reverse_278bc_48N, eJ5_reverse_278bc_49, eJ5_reverse_278bc_52, eJ5_reverse_278bc_53, eJ5_reverse_278bc_53N, eJ5_reverse_278bc_54, eJ5_reverse_278bc_59, ite_le, n45, n54, true_or, or_true, false_or, or_false, false_and, and_false, kx_l, kx_r, go_s, gl_s, gi_s, gb_s2, gb_s3, gq_s, wt_nil, wt_int, wt_long, wt_ref, wt_null, nl_int, nl_long, nl_ref, nl_null, nl_none, rf_n, rf_s, rf_st, tl_s, tl_n, g0, gS, ex1, nb_b, nb_0, nb_1, nf_i, nf_l, nf_ra, nf_ro, nf_na, nf_no, nf_b0, nf_z0, t45_4, t45_5, true_and, and_true, List.set_cons_zero, List.set_cons_succ, List.length_cons, List.length_nil, rd_s, upw_s, ne_eq, not_false_eq_true, Nat.zero_add, Nat.add_zero, if_true, if_false, eq_self, hq, rb, hb, rdd, hd, n1, n2, bty_2, upw2, jv, qv]
      repeat' first | with_reducible refine And.intro ?_ ?_ | omega
      exact ih _ _ _ _ (by omega) (by omega) (by omega) (hT.byt (bOK_up (bOK_up hf _ _) _ _))
set_option maxHeartbeats 4000000 in
theorem sJ5_reverse_278bc {b d N : Nat} {c : Int32} (hS : SG g) (hT : TS g w0 b d N c w) (hN : N ≤ 1000) (hQ : ∀ w', TS g w0 b d N c w' → Q (.inl (some (.ref b))) w') : WP (MJ5_reverse_278bc g) Q (0, [some (.ref b), none, none, none, none, none, none], [], w, 0, 0) := by
  obtain ⟨ml, f, hb, hd, hf, hc0, hc1, rb, rdd, n1, n2⟩ := hT.opn g
  have z1 : (1 : Int32).toInt = 1 := rfl
  obtain ⟨m, hm⟩ : ∃ m, c - 1 = m := ⟨_, rfl⟩
  obtain ⟨m2, hm2⟩ : ∃ m2, m - 1 = m2 := ⟨_, rfl⟩
  obtain ⟨j, hj⟩ : ∃ j, m2 >>> ((1 : Int32) &&& 31) = j := ⟨_, rfl⟩
  have e1 : m.toInt = c.toInt - 1 := by
    rw [← hm, i32_sub (by omega) (by omega), z1]
  have e2 : m2.toInt = m.toInt - 1 := by
    rw [← hm2, i32_sub (by omega) (by omega), z1]
  have e3 : j.toInt = m2.toInt / 2 := by rw [← hj, i32_sr1]
  simp only [eJ5_reverse_278bc_0, eJ5_reverse_278bc_0N, eJ5_reverse_278bc_1, eJ5_reverse_278bc_4, eJ5_reverse_278bc_4N, eJ5_reverse_278bc_5, eJ5_reverse_278bc_5N, eJ5_reverse_278bc_6, eJ5_reverse_278bc_9, eJ5_reverse_278bc_14, eJ5_reverse_278bc_14N, eJ5_reverse_278bc_15, eJ5_reverse_278bc_18, eJ5_reverse_278bc_21, eJ5_isLatin1_aae02_0, eJ5_isLatin1_aae02_3, eJ5_isLatin1_aae02_6, eJ5_isLatin1_aae02_6N, eJ5_isLatin1_aae02_7, eJ5_isLatin1_aae02_10, eJ5_isLatin1_aae02_13, eJ5_isLatin1_aae02_17, eJ5_isLatin1_aae02_18, ite_le, n45, n54, true_or, or_true, false_or, or_false, false_and, and_false, kx_l, kx_r, go_s, gl_s, gi_s, gb_s2, gb_s3, gq_s, wt_nil, wt_int, wt_long, wt_ref, wt_null, nl_int, nl_long, nl_ref, nl_null, nl_none, rf_n, rf_s, rf_st, tl_s, tl_n, g0, gS, ex1, nb_b, nb_0, nb_1, nf_i, nf_l, nf_ra, nf_ro, nf_na, nf_no, nf_b0, nf_z0, t45_4, t45_5, true_and, and_true, List.set_cons_zero, List.set_cons_succ, List.length_cons, List.length_nil, rd_s, upw_s, ne_eq, not_false_eq_true, Nat.zero_add, Nat.add_zero, if_true, if_false, eq_self, hS.1, zz1, hm, hm2, hj, rb]
  repeat' first | with_reducible refine And.intro ?_ ?_ | omega
  exact lJ5_reverse_278bc_28 hN (by omega) (by omega) hQ 2000 _ _ _ _ (by omega) (by omega) (by omega) hT
theorem i16n : (16 : Int32).toNatClampNeg = 16 := rfl
theorem n160 : ((16 : Int32) < 0) = False := eq_false (by decide)
set_option maxHeartbeats 4000000 in
theorem sJ4_init_da8c8 {b : Nat} (hS : SG g) (hX : ext g w0 w) (hb : w b = some (.inr (1, [.null, .int 0, .int 0, .int 0]))) (hb0 : w0 b = none) (hg : g.2 b = none) (hQ : ∀ q w', TS g w0 b q 16 0 w' → Q (.inl none) w') : WP (MJ4_init_da8c8 g) Q (0, [some (.ref b)], [], w, 0, 0) := by
  simp only [eJ4_init_da8c8_0, eJ4_init_da8c8_0N, eJ4_init_da8c8_1, eJ5_init_d00df_0, eJ5_init_d00df_0N, eJ5_init_d00df_1, eJ5_init_d00df_4, eJ5_init_d00df_7, eJ5_init_d00df_10, eJ5_init_d00df_10N, eJ5_init_d00df_11, eJ5_init_d00df_14, eJ5_init_d00df_17, eJ5_init_d00df_17N, eJ5_init_d00df_18, eJ5_init_d00df_22, eJ5_init_d00df_25, eJ5_init_d00df_25N, eJ5_init_d00df_26, eJ5_init_d00df_30, eJ5_init_d00df_33, eJ5_init_d00df_33N, eJ5_init_d00df_34, eJ5_init_d00df_38, ite_le, n45, n54, true_or, or_true, false_or, or_false, false_and, and_false, kx_l, kx_r, go_s, gl_s, gi_s, gb_s2, gb_s3, gq_s, wt_nil, wt_int, wt_long, wt_ref, wt_null, nl_int, nl_long, nl_ref, nl_null, nl_none, rf_n, rf_s, rf_st, tl_s, tl_n, g0, gS, ex1, nb_b, nb_0, nb_1, nf_i, nf_l, nf_ra, nf_ro, nf_na, nf_no, nf_b0, nf_z0, t45_4, t45_5, true_and, and_true, List.set_cons_zero, List.set_cons_succ, List.length_cons, List.length_nil, rd_s, upw_s, ne_eq, not_false_eq_true, Nat.zero_add, Nat.add_zero, if_true, if_false, eq_self, hS.1, zz1, i16n, n160]
  repeat' first | with_reducible refine And.intro ?_ ?_ | omega
  intro q hq
  have hqn := rd_none hq
  have hqb : b ≠ q := fun e => by
    rw [← e, hb] at hqn
    cases hqn
  have hw0 : w0 q = none := by
    cases hz : w0 q with
    | none => rfl
    | some o =>
      have := hX.1 q o hz
      rw [hqn] at this
      cases this
  simp only [eJ5_init_d00df_0, eJ5_init_d00df_0N, eJ5_init_d00df_1, eJ5_init_d00df_4, eJ5_init_d00df_7, eJ5_init_d00df_10, eJ5_init_d00df_10N, eJ5_init_d00df_11, eJ5_init_d00df_14, eJ5_init_d00df_17, eJ5_init_d00df_17N, eJ5_init_d00df_18, eJ5_init_d00df_22, eJ5_init_d00df_25, eJ5_init_d00df_25N, eJ5_init_d00df_26, eJ5_init_d00df_30, eJ5_init_d00df_33, eJ5_init_d00df_33N, eJ5_init_d00df_34, eJ5_init_d00df_38, eJ4_init_da8c8_0, eJ4_init_da8c8_0N, eJ4_init_da8c8_1, eJ4_init_da8c8_6, ite_le, n45, n54, true_or, or_true, false_or, or_false, false_and, and_false, kx_l, kx_r, go_s, gl_s, gi_s, gb_s2, gb_s3, gq_s, wt_nil, wt_int, wt_long, wt_ref, wt_null, nl_int, nl_long, nl_ref, nl_null, nl_none, rf_n, rf_s, rf_st, tl_s, tl_n, g0, gS, ex1, nb_b, nb_0, nb_1, nf_i, nf_l, nf_ra, nf_ro, nf_na, nf_no, nf_b0, nf_z0, t45_4, t45_5, true_and, and_true, List.set_cons_zero, List.set_cons_succ, List.length_cons, List.length_nil, rd_s, upw_s, ne_eq, not_false_eq_true, Nat.zero_add, Nat.add_zero, if_true, if_false, eq_self, hb, hqb, upw_n, upw2, tyJ4, i16n]
  repeat' first | with_reducible refine And.intro ?_ ?_ | omega
  all_goals first | exact trivial | exact hQ q _ ⟨(hX.own hw0 (rd_ro hq)).own hb0 hg, ⟨hb0, hw0, hg, rd_ro hq⟩, 0, fun _ => 0, upw_s _ _ _, by rw [upw_n hqb.symm]; exact upw_s _ _ _, bOK_0 _, by decide, by decide⟩
set_option maxHeartbeats 4000000 in
theorem sJ4_reverse_43fcb {b d N : Nat} {c : Int32} (hS : SG g) (hT : TS g w0 b d N c w) (hN : N ≤ 1000) (hQ : ∀ w', TS g w0 b d N c w' → Q (.inl (some (.ref b))) w') : WP (MJ4_reverse_43fcb g) Q (0, [some (.ref b)], [], w, 0, 0) := by
  obtain ⟨ml, f, hb, hd, hf, hc0, hc1, rb, rdd, n1, n2⟩ := hT.opn g
  simp only [eJ4_reverse_43fcb_0, eJ4_reverse_43fcb_0N, eJ4_reverse_43fcb_1, ite_le, n45, n54, true_or, or_true, false_or, or_false, false_and, and_false, kx_l, kx_r, go_s, gl_s, gi_s, gb_s2, gb_s3, gq_s, wt_nil, wt_int, wt_long, wt_ref, wt_null, nl_int, nl_long, nl_ref, nl_null, nl_none, rf_n, rf_s, rf_st, tl_s, tl_n, g0, gS, ex1, nb_b, nb_0, nb_1, nf_i, nf_l, nf_ra, nf_ro, nf_na, nf_no, nf_b0, nf_z0, t45_4, t45_5, true_and, and_true, List.set_cons_zero, List.set_cons_succ, List.length_cons, List.length_nil, rd_s, upw_s, ne_eq, not_false_eq_true, Nat.zero_add, Nat.add_zero, if_true, if_false, eq_self, rb]
  repeat' first | with_reducible refine And.intro ?_ ?_ | omega
  refine sJ5_reverse_278bc hS hT hN (fun w' z => ?_)
  simp only [eJ4_reverse_43fcb_4, eJ4_reverse_43fcb_4R, eJ4_reverse_43fcb_4N, eJ4_reverse_43fcb_5, eJ4_reverse_43fcb_5N, eJ4_reverse_43fcb_6, eJ4_reverse_43fcb_6N, ite_le, n45, n54, true_or, or_true, false_or, or_false, false_and, and_false, kx_l, kx_r, go_s, gl_s, gi_s, gb_s2, gb_s3, gq_s, wt_nil, wt_int, wt_long, wt_ref, wt_null, nl_int, nl_long, nl_ref, nl_null, nl_none, rf_n, rf_s, rf_st, tl_s, tl_n, g0, gS, ex1, nb_b, nb_0, nb_1, nf_i, nf_l, nf_ra, nf_ro, nf_na, nf_no, nf_b0, nf_z0, t45_4, t45_5, true_and, and_true, List.set_cons_zero, List.set_cons_succ, List.length_cons, List.length_nil, rd_s, upw_s, ne_eq, not_false_eq_true, Nat.zero_add, Nat.add_zero, if_true, if_false, eq_self]
  repeat' first | with_reducible refine And.intro ?_ ?_ | omega
  exact hQ _ z
end
end
