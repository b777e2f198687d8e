/-! 60.text7.lean.txt -/
section
section
variable {g : RO} {Q : Ot → Hw → Prop} {w0 w : Hw}
theorem TS.byt {w0 w : Hw} {b d N : Nat} {c : Int32} {f' : Nat → Int32} (h : TS g w0 b d N c w) (hf : bOK N f') : TS g w0 b d N c (upw w d (.inl (2, N, .inl f'))) := by
  obtain ⟨ml, f, hb, hd, -, h0, h1, -, -, n1, n2⟩ := h.opn g
  exact ⟨h.1.own h.2.1.2.1 h.2.1.2.2.2, h.2.1, ml, f', by rw [upw_n n1]; exact hb, upw_s _ _ _, hf, h0, h1⟩
theorem sub0 (a : Int32) : a - 0 = a := by simp
theorem i32_t0 {a : Int32} (h : a.toInt < 0) : (a < 0) = True := eq_true (i32_of_lt (by have e : (0 : Int32).toInt = 0 := rfl; omega))
set_option maxHeartbeats 4000000 in
theorem lJ5_reverse_278bc_28 {b d N : Nat} {c n : Int32} (hN : N ≤ 1000) (hn : n.toInt < (N : Int)) (hn1 : -1 ≤ n.toInt) (hQ : ∀ w', TS g w0 b d N c w' → Q (.inl (some (.ref b))) w') : ∀ (e : Nat) (j : Int32) (l5 l6 : Option Value) (w : Hw), j.toInt + 1 ≤ e → -1 ≤ j.toInt → j.toInt ≤ n.toInt → TS g w0 b d N c w →
    WP (MJ5_reverse_278bc g) Q (28, [some (.ref b), some (.ref d), some (.int c), some (.int n), some (.int j), l5, l6], [], w, 0, 0) := by
  intro e
  induction e with
  | zero =>
    intro j l5 l6 w h1 h2 h3 hT
    have t : (j < 0) = True := i32_t0 (by omega)
    rw [eJ5_reverse_278bc_28]
    simp only [eJ5_reverse_278bc_30, eJ5_reverse_278bc_33, eJ5_reverse_278bc_34, eJ5_reverse_278bc_36, eJ5_reverse_278bc_37, eJ5_reverse_278bc_39, eJ5_reverse_278bc_39N, eJ5_reverse_278bc_40, eJ5_reverse_278bc_42, eJ5_reverse_278bc_43, eJ5_reverse_278bc_45, eJ5_reverse_278bc_45N, eJ5_reverse_278bc_46, eJ5_reverse_278bc_48, eJ5_reverse_278bc_48N, eJ5_reverse_278bc_49, eJ5_reverse_278bc_51, eJ5_reverse_278bc_52, eJ5_reverse_278bc_53, eJ5_reverse_278bc_53N, eJ5_reverse_278bc_54, eJ5_reverse_278bc_56, eJ5_reverse_278bc_58, eJ5_reverse_278bc_59, eJ5_reverse_278bc_62, eJ5_reverse_278bc_65, eJ5_reverse_278bc_68, eJ5_reverse_278bc_68N, eJ5_reverse_278bc_69, eJ5_reverse_278bc_73, eJ5_reverse_278bc_73N, eJ5_reverse_278bc_74, eJ5_reverse_278bc_74N, ite_le, n45, n54, true_or, or_true, false_or, or_false, false_and, and_false, kx_l, kx_r, go_s, gl_s, gi_s, gb_s2, gb_s3, gq_s, wt_nil, wt_int, wt_long, wt_ref, wt_null, nl_int, nl_long, nl_ref, nl_null, nl_none, rf_n, rf_s, rf_st, tl_s, tl_n, g0, gS, ex1, nb_b, nb_0, nb_1, nf_i, nf_l, nf_ra, nf_ro, nf_na, nf_no, nf_b0, nf_z0, t45_4, t45_5, true_and, and_true, List.set_cons_zero, List.set_cons_succ, List.length_cons, List.length_nil, rd_s, upw_s, ne_eq, not_false_eq_true, Nat.zero_add, Nat.add_zero, if_true, if_false, eq_self, t]
    repeat' first | with_reducible refine And.intro ?_ ?_ | omega
    exact hQ _ hT
  | succ e ih =>
    intro j l5 l6 w h1 h2 h3 hT
    obtain ⟨ml, f, hb, hd, hf, hc0, hc1, rb, rdd, n1, n2⟩ := hT.opn g
    rw [eJ5_reverse_278bc_28]
    simp only [eJ5_reverse_278bc_30, ite_le, n45, n54, true_or, or_true, false_or, or_false, false_and, and_false, kx_l, kx_r, go_s, gl_s, gi_s, gb_s2, gb_s3, gq_s, wt_nil, wt_int, wt_long, wt_ref, wt_null, nl_int, nl_long, nl_ref, nl_null, nl_none, rf_n, rf_s, rf_st, tl_s, tl_n, g0, gS, ex1, nb_b, nb_0, nb_1, nf_i, nf_l, nf_ra, nf_ro, nf_na, nf_no, nf_b0, nf_z0, t45_4, t45_5, true_and, and_true, List.set_cons_zero, List.set_cons_succ, List.length_cons, List.length_nil, rd_s, upw_s, ne_eq, not_false_eq_true, Nat.zero_add, Nat.add_zero, if_true, if_false, eq_self]
    split
    · simp only [eJ5_reverse_278bc_65, eJ5_reverse_278bc_68, eJ5_reverse_278bc_68N, eJ5_reverse_278bc_69, eJ5_reverse_278bc_73, eJ5_reverse_278bc_73N, eJ5_reverse_278bc_74, eJ5_reverse_278bc_74N, ite_le, n45, n54, true_or, or_true, false_or, or_false, false_and, and_false, kx_l, kx_r, go_s, gl_s, gi_s, gb_s2, gb_s3, gq_s, wt_nil, wt_int, wt_long, wt_ref, wt_null, nl_int, nl_long, nl_ref, nl_null, nl_none, rf_n, rf_s, rf_st, tl_s, tl_n, g0, gS, ex1, nb_b, nb_0, nb_1, nf_i, nf_l, nf_ra, nf_ro, nf_na, nf_no, nf_b0, nf_z0, t45_4, t45_5, true_and, and_true, List.set_cons_zero, List.set_cons_succ, List.length_cons, List.length_nil, rd_s, upw_s, ne_eq, not_false_eq_true, Nat.zero_add, Nat.add_zero, if_true, if_false, eq_self]
      repeat' first | with_reducible refine And.intro ?_ ?_ | omega
      exact hQ _ hT
    · next hj =>
      have hj := i32_0 hj
      obtain ⟨q, hq⟩ : ∃ q, n - j = q := ⟨_, rfl⟩
      have eq : q.toInt = n.toInt - j.toInt := by
        rw [← hq]
        exact i32_sub (by omega) (by omega)
      have jv : vp_in j N := vpiN (by omega) (by omega)
      have qv : vp_in q N := vpiN (by omega) (by omega)
      have ej : (j + -1).toInt = j.toInt - 1 := i32_m1 (by omega)
      simp only [eJ5_reverse_278bc_33, eJ5_reverse_278bc_34, eJ5_reverse_278bc_36, eJ5_reverse_278bc_37, eJ5_reverse_278bc_39, eJ5_reverse_278bc_39N, eJ5_reverse_278bc_40, eJ5_reverse_278bc_42, eJ5_reverse_278bc_43, eJ5_reverse_278bc_45, eJ5_reverse_278bc_45N, eJ5_reverse_278bc_46, eJ5_reverse_278bc_48, eJ5_reverse_278bc_48N, eJ5_reverse_278bc_49, eJ5_reverse_278bc_51, eJ5_reverse_278bc_52, eJ5_reverse_278bc_53, eJ5_reverse_278bc_53N, eJ5_reverse_278bc_54, eJ5_reverse_278bc_56, eJ5_reverse_278bc_58, eJ5_reverse_278bc_59, eJ5_reverse_278bc_62, ite_le, n45, n54, true_or, or_true, false_or, or_false, false_and, and_false, kx_l, kx_r, go_s, gl_s, gi_s, gb_s2, gb_s3, gq_s, wt_nil, wt_int, wt_long, wt_ref, wt_null, nl_int, nl_long, nl_ref, nl_null, nl_none, rf_n, rf_s, rf_st, tl_s, tl_n, g0, gS, ex1, nb_b, nb_0, nb_1, nf_i, nf_l, nf_ra, nf_ro, nf_na, nf_no, nf_b0, nf_z0, t45_4, t45_5, true_and, and_true, List.set_cons_zero, List.set_cons_succ, List.length_cons, List.length_nil, rd_s, upw_s, ne_eq, not_false_eq_true, Nat.zero_add, Nat.add_zero, if_true, if_false, eq_self, hq, rb, hb, rdd, hd, n1, n2, bty_2, upw2, jv, qv]
      repeat' first | with_reducible refine And.intro ?_ ?_ | omega
      exact ih _ _ _ _ (by omega) (by omega) (by omega) (hT.byt (bOK_up (bOK_up hf _ _) _ _))
set_option maxHeartbeats 4000000 in
theorem sJ5_reverse_278bc {b d N : Nat} {c : Int32} (hS : SG g) (hT : TS g w0 b d N c w) (hN : N ≤ 1000) (hQ : ∀ w', TS g w0 b d N c w' → Q (.inl (some (.ref b))) w') : WP (MJ5_reverse_278bc g) Q (0, [some (.ref b), none, none, none, none, none, none], [], w, 0, 0) := by
  obtain ⟨ml, f, hb, hd, hf, hc0, hc1, rb, rdd, n1, n2⟩ := hT.opn g
  have z1 : (1 : Int32).toInt = 1 := rfl
  obtain ⟨m, hm⟩ : ∃ m, c - 1 = m := ⟨_, rfl⟩
  obtain ⟨m2, hm2⟩ : ∃ m2, m - 1 = m2 := ⟨_, rfl⟩
  obtain ⟨j, hj⟩ : ∃ j, m2 >>> ((1 : Int32) &&& 31) = j := ⟨_, rfl⟩
  have e1 : m.toInt = c.toInt - 1 := by
    rw [← hm, i32_sub (by omega) (by omega), z1]
  have e2 : m2.toInt = m.toInt - 1 := by
    rw [← hm2, i32_sub (by omega) (by omega), z1]
  have e3 : j.toInt = m2.toInt / 2 := by rw [← hj, i32_sr1]
  simp only [eJ5_reverse_278bc_0, eJ5_reverse_278bc_0N, eJ5_reverse_278bc_1, eJ5_reverse_278bc_4, eJ5_reverse_278bc_4N, eJ5_reverse_278bc_5, eJ5_reverse_278bc_5N, eJ5_reverse_278bc_6, eJ5_reverse_278bc_9, eJ5_reverse_278bc_10, eJ5_reverse_278bc_11, eJ5_reverse_278bc_12, eJ5_reverse_278bc_13, eJ5_reverse_278bc_14, eJ5_reverse_278bc_14N, eJ5_reverse_278bc_15, eJ5_reverse_278bc_18, eJ5_reverse_278bc_21, eJ5_reverse_278bc_22, eJ5_reverse_278bc_23, eJ5_reverse_278bc_24, eJ5_reverse_278bc_25, eJ5_reverse_278bc_26, eJ5_isLatin1_aae02_0, eJ5_isLatin1_aae02_3, eJ5_isLatin1_aae02_6, eJ5_isLatin1_aae02_6N, eJ5_isLatin1_aae02_7, eJ5_isLatin1_aae02_10, eJ5_isLatin1_aae02_13, eJ5_isLatin1_aae02_14, eJ5_isLatin1_aae02_17, eJ5_isLatin1_aae02_18, ite_le, n45, n54, true_or, or_true, false_or, or_false, false_and, and_false, kx_l, kx_r, go_s, gl_s, gi_s, gb_s2, gb_s3, gq_s, wt_nil, wt_int, wt_long, wt_ref, wt_null, nl_int, nl_long, nl_ref, nl_null, nl_none, rf_n, rf_s, rf_st, tl_s, tl_n, g0, gS, ex1, nb_b, nb_0, nb_1, nf_i, nf_l, nf_ra, nf_ro, nf_na, nf_no, nf_b0, nf_z0, t45_4, t45_5, true_and, and_true, List.set_cons_zero, List.set_cons_succ, List.length_cons, List.length_nil, rd_s, upw_s, ne_eq, not_false_eq_true, Nat.zero_add, Nat.add_zero, if_true, if_false, eq_self, hS.1, zz1, hm, hm2, hj, rb]
  repeat' first | with_reducible refine And.intro ?_ ?_ | omega
  exact lJ5_reverse_278bc_28 hN (by omega) (by omega) hQ 2000 _ _ _ _ (by omega) (by omega) (by omega) hT
theorem i16n : (16 : Int32).toNatClampNeg = 16 := rfl
theorem n160 : ((16 : Int32) < 0) = False := eq_false (by decide)
set_option maxHeartbeats 4000000 in
theorem sJ4_init_da8c8 {b : Nat} (hS : SG g) (hX : ext g w0 w) (hb : w b = some (.inr (1, [.null, .int 0, .int 0, .int 0]))) (hb0 : w0 b = none) (hg : g.2 b = none) (hQ : ∀ q w', TS g w0 b q 16 0 w' → Q (.inl none) w') : WP (MJ4_init_da8c8 g) Q (0, [some (.ref b)], [], w, 0, 0) := by
  simp only [eJ4_init_da8c8_0, eJ4_init_da8c8_0N, eJ4_init_da8c8_1, eJ4_init_da8c8_3, eJ5_init_d00df_0, eJ5_init_d00df_0N, eJ5_init_d00df_1, eJ5_init_d00df_4, eJ5_init_d00df_7, eJ5_init_d00df_10, eJ5_init_d00df_10N, eJ5_init_d00df_11, eJ5_init_d00df_12, eJ5_init_d00df_14, eJ5_init_d00df_17, eJ5_init_d00df_17N, eJ5_init_d00df_18, eJ5_init_d00df_19, eJ5_init_d00df_22, eJ5_init_d00df_25, eJ5_init_d00df_25N, eJ5_init_d00df_26, eJ5_init_d00df_30, eJ5_init_d00df_33, eJ5_init_d00df_33N, eJ5_init_d00df_34, eJ5_init_d00df_35, eJ5_init_d00df_38, ite_le, n45, n54, true_or, or_true, false_or, or_false, false_and, and_false, kx_l, kx_r, go_s, gl_s, gi_s, gb_s2, gb_s3, gq_s, wt_nil, wt_int, wt_long, wt_ref, wt_null, nl_int, nl_long, nl_ref, nl_null, nl_none, rf_n, rf_s, rf_st, tl_s, tl_n, g0, gS, ex1, nb_b, nb_0, nb_1, nf_i, nf_l, nf_ra, nf_ro, nf_na, nf_no, nf_b0, nf_z0, t45_4, t45_5, true_and, and_true, List.set_cons_zero, List.set_cons_succ, List.length_cons, List.length_nil, rd_s, upw_s, ne_eq, not_false_eq_true, Nat.zero_add, Nat.add_zero, if_true, if_false, eq_self, hS.1, zz1, i16n, n160]
  repeat' first | with_reducible refine And.intro ?_ ?_ | omega
  intro q hq
  have hqn := rd_none hq
  have hqb : b ≠ q := fun e => by
    rw [← e, hb] at hqn
    cases hqn
  have hw0 : w0 q = none := by
    cases hz : w0 q with
    | none => rfl
    | some o =>
      have := hX.1 q o hz
      rw [hqn] at this
      cases this
  simp only [eJ5_init_d00df_0, eJ5_init_d00df_0N, eJ5_init_d00df_1, eJ5_init_d00df_4, eJ5_init_d00df_7, eJ5_init_d00df_10, eJ5_init_d00df_10N, eJ5_init_d00df_11, eJ5_init_d00df_12, eJ5_init_d00df_14, eJ5_init_d00df_17, eJ5_init_d00df_17N, eJ5_init_d00df_18, eJ5_init_d00df_19, eJ5_init_d00df_22, eJ5_init_d00df_25, eJ5_init_d00df_25N, eJ5_init_d00df_26, eJ5_init_d00df_30, eJ5_init_d00df_33, eJ5_init_d00df_33N, eJ5_init_d00df_34, eJ5_init_d00df_35, eJ5_init_d00df_38, eJ4_init_da8c8_0, eJ4_init_da8c8_0N, eJ4_init_da8c8_1, eJ4_init_da8c8_3, eJ4_init_da8c8_6, ite_le, n45, n54, true_or, or_true, false_or, or_false, false_and, and_false, kx_l, kx_r, go_s, gl_s, gi_s, gb_s2, gb_s3, gq_s, wt_nil, wt_int, wt_long, wt_ref, wt_null, nl_int, nl_long, nl_ref, nl_null, nl_none, rf_n, rf_s, rf_st, tl_s, tl_n, g0, gS, ex1, nb_b, nb_0, nb_1, nf_i, nf_l, nf_ra, nf_ro, nf_na, nf_no, nf_b0, nf_z0, t45_4, t45_5, true_and, and_true, List.set_cons_zero, List.set_cons_succ, List.length_cons, List.length_nil, rd_s, upw_s, ne_eq, not_false_eq_true, Nat.zero_add, Nat.add_zero, if_true, if_false, eq_self, hb, hqb, upw_n, upw2, tyJ4, i16n]
  repeat' first | with_reducible refine And.intro ?_ ?_ | omega
  all_goals first | exact trivial | exact hQ q _ ⟨(hX.own hw0 (rd_ro hq)).own hb0 hg, ⟨hb0, hw0, hg, rd_ro hq⟩, 0, fun _ => 0, upw_s _ _ _, by rw [upw_n hqb.symm]; exact upw_s _ _ _, bOK_0 _, by decide, by decide⟩
set_option maxHeartbeats 4000000 in
theorem sJ4_reverse_43fcb {b d N : Nat} {c : Int32} (hS : SG g) (hT : TS g w0 b d N c w) (hN : N ≤ 1000) (hQ : ∀ w', TS g w0 b d N c w' → Q (.inl (some (.ref b))) w') : WP (MJ4_reverse_43fcb g) Q (0, [some (.ref b)], [], w, 0, 0) := by
  obtain ⟨ml, f, hb, hd, hf, hc0, hc1, rb, rdd, n1, n2⟩ := hT.opn g
  simp only [eJ4_reverse_43fcb_0, eJ4_reverse_43fcb_0N, eJ4_reverse_43fcb_1, ite_le, n45, n54, true_or, or_true, false_or, or_false, false_and, and_false, kx_l, kx_r, go_s, gl_s, gi_s, gb_s2, gb_s3, gq_s, wt_nil, wt_int, wt_long, wt_ref, wt_null, nl_int, nl_long, nl_ref, nl_null, nl_none, rf_n, rf_s, rf_st, tl_s, tl_n, g0, gS, ex1, nb_b, nb_0, nb_1, nf_i, nf_l, nf_ra, nf_ro, nf_na, nf_no, nf_b0, nf_z0, t45_4, t45_5, true_and, and_true, List.set_cons_zero, List.set_cons_succ, List.length_cons, List.length_nil, rd_s, upw_s, ne_eq, not_false_eq_true, Nat.zero_add, Nat.add_zero, if_true, if_false, eq_self, rb]
  repeat' first | with_reducible refine And.intro ?_ ?_ | omega
  refine sJ5_reverse_278bc hS hT hN (fun w' z => ?_)
  simp only [eJ4_reverse_43fcb_4, eJ4_reverse_43fcb_4R, eJ4_reverse_43fcb_4N, eJ4_reverse_43fcb_5, eJ4_reverse_43fcb_5N, eJ4_reverse_43fcb_6, eJ4_reverse_43fcb_6N, ite_le, n45, n54, true_or, or_true, false_or, or_false, false_and, and_false, kx_l, kx_r, go_s, gl_s, gi_s, gb_s2, gb_s3, gq_s, wt_nil, wt_int, wt_long, wt_ref, wt_null, nl_int, nl_long, nl_ref, nl_null, nl_none, rf_n, rf_s, rf_st, tl_s, tl_n, g0, gS, ex1, nb_b, nb_0, nb_1, nf_i, nf_l, nf_ra, nf_ro, nf_na, nf_no, nf_b0, nf_z0, t45_4, t45_5, true_and, and_true, List.set_cons_zero, List.set_cons_succ, List.length_cons, List.length_nil, rd_s, upw_s, ne_eq, not_false_eq_true, Nat.zero_add, Nat.add_zero, if_true, if_false, eq_self]
  repeat' first | with_reducible refine And.intro ?_ ?_ | omega
  exact hQ _ z
end
end
/-! 60.text8.lean.txt -/
section
section
variable {g : RO} {Q : Ot → Hw → Prop} {w0 w : Hw}
theorem mn {c : Int32} {N : Nat} (hN : N ≤ 1000) (h0 : 0 ≤ c.toInt) (h1 : c.toInt ≤ (N : Int)) : (if c < Int32.ofNat N then c else Int32.ofNat N) = c := by
  split
  · rfl
  · next h =>
    have h := i32_nlt h
    have e := ofN (N := N) (by omega)
    exact Int32.toInt_inj.mp (by omega)
set_option maxHeartbeats 4000000 in
theorem sJ7_copyOfRange_39247 {a N : Nat} {c : Int32} {f : Nat → Int32} (hd : w a = some (.inl (2, N, .inl f))) (hf : bOK N f) (hN : N ≤ 1000) (h0 : 0 ≤ c.toInt) (h1 : c.toInt ≤ (N : Int)) (h2 : c.toInt ≤ 90) (hQ : ∀ (q M : Nat) (f' : Nat → Int32), rd g w q = none → Q (.inl (some (.ref q))) (upw w q (.inl (2, M, .inl f')))) : WP (MJ7_copyOfRange_39247 g) Q (0, [some (.ref a), some (.int 0), some (.int c)], [], w, 0, 0) := by
  have rdd := rd_e (g := g) hd
  have e := ofN (N := N) (by omega)
  have z0 : (0 : Int32).toInt = 0 := rfl
  have c0 : (c < 0) = False := eq_false (i32_of_nlt (by omega))
  have cc : ((0 : Int32) ≤ c) = True := eq_true (Int32.le_iff_toInt_le.mpr (by omega))
  have ev : c.toNatClampNeg = c.toInt.toNat := rfl
  have c4 : c.toNatClampNeg ≤ 40000 := by omega
  have c9 : c.toNatClampNeg ≤ 90 := by omega
  have zn : (0 : Int32).toNatClampNeg = 0 := rfl
  have z00 : ((0 : Int32) < 0) = False := eq_false (by decide)
  have m := mn hN h0 h1
  simp only [eJ7_copyOfRange_39247_0, eJ7_copyOfRange_39247_1, eJ7_copyOfRange_39247_4, eJ7_copyOfRange_39247_5, eJ7_copyOfRange_39247_5N, eJ7_copyOfRange_39247_6, eJ7_copyOfRange_39247_7, ite_le, n45, n54, true_or, or_true, false_or, or_false, false_and, and_false, kx_l, kx_r, go_s, gl_s, gi_s, gb_s2, gb_s3, gq_s, wt_nil, wt_int, wt_long, wt_ref, wt_null, nl_int, nl_long, nl_ref, nl_null, nl_none, rf_n, rf_s, rf_st, tl_s, tl_n, g0, gS, ex1, nb_b, nb_0, nb_1, nf_i, nf_l, nf_ra, nf_ro, nf_na, nf_no, nf_b0, nf_z0, t45_4, t45_5, true_and, and_true, List.set_cons_zero, List.set_cons_succ, List.length_cons, List.length_nil, rd_s, upw_s, ne_eq, not_false_eq_true, Nat.zero_add, Nat.add_zero, if_true, if_false, eq_self, rdd, exal, al26, zr0]
  split
  · next h =>
    have hNN : N ≤ 90 := by
      rw [h, e] at h2
      omega
    simp only [eJ7_copyOfRange_39247_17, eJ7_copyOfRange_39247_17N, eJ7_copyOfRange_39247_18, ite_le, n45, n54, true_or, or_true, false_or, or_false, false_and, and_false, kx_l, kx_r, go_s, gl_s, gi_s, gb_s2, gb_s3, gq_s, wt_nil, wt_int, wt_long, wt_ref, wt_null, nl_int, nl_long, nl_ref, nl_null, nl_none, rf_n, rf_s, rf_st, tl_s, tl_n, g0, gS, ex1, nb_b, nb_0, nb_1, nf_i, nf_l, nf_ra, nf_ro, nf_na, nf_no, nf_b0, nf_z0, t45_4, t45_5, true_and, and_true, List.set_cons_zero, List.set_cons_succ, List.length_cons, List.length_nil, rd_s, upw_s, ne_eq, not_false_eq_true, Nat.zero_add, Nat.add_zero, if_true, if_false, eq_self, eJ7_copyOfRange_39247_18 hd]
    repeat' first | with_reducible refine And.intro ?_ ?_ | omega
    · exact hf
    · intro q hq
      simp only [eJ7_copyOfRange_39247_21N, eJ7_copyOfRange_39247_21R, eJ7_copyOfRange_39247_24, ite_le, n45, n54, true_or, or_true, false_or, or_false, false_and, and_false, kx_l, kx_r, go_s, gl_s, gi_s, gb_s2, gb_s3, gq_s, wt_nil, wt_int, wt_long, wt_ref, wt_null, nl_int, nl_long, nl_ref, nl_null, nl_none, rf_n, rf_s, rf_st, tl_s, tl_n, g0, gS, ex1, nb_b, nb_0, nb_1, nf_i, nf_l, nf_ra, nf_ro, nf_na, nf_no, nf_b0, nf_z0, t45_4, t45_5, true_and, and_true, List.set_cons_zero, List.set_cons_succ, List.length_cons, List.length_nil, rd_s, upw_s, ne_eq, not_false_eq_true, Nat.zero_add, Nat.add_zero, if_true, if_false, eq_self]
      repeat' first | with_reducible refine And.intro ?_ ?_ | omega
      all_goals first | exact ⟨_, rfl⟩ | exact hQ _ _ _ hq
  · simp only [eJ7_copyOfRange_39247_5N, eJ7_copyOfRange_39247_10, eJ7_copyOfRange_39247_10N, eJ7_copyOfRange_39247_11, eJ7_copyOfRange_39247_12, eJ7_copyOfRange_39247_13R, eJ7_copyOfRange_39247_13N, eJ7_copyOfRange_39247_16, eJ7_copyOfRange_39247_17N, eJ7_copyOfRange_39247_21N, eJ7_copyOfRange_39247_21R, eJ7_copyOfRangeByte_39247_0, eJ7_copyOfRangeByte_39247_1, eJ7_copyOfRangeByte_39247_2, eJ7_copyOfRangeByte_39247_5, eJ7_copyOfRangeByte_39247_6, eJ7_copyOfRangeByte_39247_7, eJ7_copyOfRangeByte_39247_8, eJ7_copyOfRangeByte_39247_9, eJ7_copyOfRangeByte_39247_10, eJ7_copyOfRangeByte_39247_12, eJ7_copyOfRangeByte_39247_12N, eJ7_copyOfRangeByte_39247_14, eJ7_copyOfRangeByte_39247_14N, eJ7_copyOfRangeByte_39247_15, eJ7_copyOfRangeByte_39247_16, eJ7_copyOfRangeByte_39247_16N, eJ7_copyOfRangeByte_39247_18, eJ7_copyOfRangeByte_39247_19, eJ7_copyOfRangeByte_39247_19N, eJ7_copyOfRangeByte_39247_20, eJ7_copyOfRangeByte_39247_21, eJ7_copyOfRangeByte_39247_22, eJ7_copyOfRangeByte_39247_23, eJ7_copyOfRangeByte_39247_24, eJ7_copyOfRangeByte_39247_27O, eJ7_copyOfRangeByte_39247_27B, eJ7_copyOfRangeByte_39247_30, eJ7_copyOfRangeByte_39247_30N, eJ7_copyOfRangeByte_39247_32, eJ7_checkLength_df160_0, eJ7_checkLength_df160_1, eJ7_checkLength_df160_2, eJ7_checkLength_df160_8, eJ7_checkLength_df160_8R, eJ7_checkLength_df160_9, eJ7_checkLength_df160_12, eJ7_checkLength_df160_12R, eJ7_checkLength_df160_16, eJ7_checkLength_df160_26, eJ7_checkLength_df160_37, ite_le, n45, n54, true_or, or_true, false_or, or_false, false_and, and_false, kx_l, kx_r, go_s, gl_s, gi_s, gb_s2, gb_s3, gq_s, wt_nil, wt_int, wt_long, wt_ref, wt_null, nl_int, nl_long, nl_ref, nl_null, nl_none, rf_n, rf_s, rf_st, tl_s, tl_n, g0, gS, ex1, nb_b, nb_0, nb_1, nf_i, nf_l, nf_ra, nf_ro, nf_na, nf_no, nf_b0, nf_z0, t45_4, t45_5, true_and, and_true, List.set_cons_zero, List.set_cons_succ, List.length_cons, List.length_nil, rd_s, upw_s, ne_eq, not_false_eq_true, Nat.zero_add, Nat.add_zero, if_true, if_false, eq_self, sub0, cc, c0, c4, c9]
    repeat' first | with_reducible refine And.intro ?_ ?_ | omega
    intro q hq
    have hne : a ≠ q := fun h => by
      subst h
      rw [rdd] at hq
      cases hq
    have ra : rd g (upw w q (.inl (2, c.toNatClampNeg, .inl fun _ => 0))) a = some (.inl (2, N, .inl f)) := by rw [rd_n hne]; exact rdd
    simp only [eJ7_copyOfRange_39247_5N, eJ7_copyOfRange_39247_10, eJ7_copyOfRange_39247_10N, eJ7_copyOfRange_39247_11, eJ7_copyOfRange_39247_12, eJ7_copyOfRange_39247_13R, eJ7_copyOfRange_39247_13N, eJ7_copyOfRange_39247_16, eJ7_copyOfRange_39247_17N, eJ7_copyOfRange_39247_21N, eJ7_copyOfRange_39247_21R, eJ7_copyOfRangeByte_39247_0, eJ7_copyOfRangeByte_39247_1, eJ7_copyOfRangeByte_39247_2, eJ7_copyOfRangeByte_39247_5, eJ7_copyOfRangeByte_39247_6, eJ7_copyOfRangeByte_39247_7, eJ7_copyOfRangeByte_39247_8, eJ7_copyOfRangeByte_39247_9, eJ7_copyOfRangeByte_39247_10, eJ7_copyOfRangeByte_39247_12, eJ7_copyOfRangeByte_39247_12N, eJ7_copyOfRangeByte_39247_14, eJ7_copyOfRangeByte_39247_14N, eJ7_copyOfRangeByte_39247_15, eJ7_copyOfRangeByte_39247_16, eJ7_copyOfRangeByte_39247_16N, eJ7_copyOfRangeByte_39247_18, eJ7_copyOfRangeByte_39247_19, eJ7_copyOfRangeByte_39247_19N, eJ7_copyOfRangeByte_39247_20, eJ7_copyOfRangeByte_39247_21, eJ7_copyOfRangeByte_39247_22, eJ7_copyOfRangeByte_39247_23, eJ7_copyOfRangeByte_39247_24, eJ7_copyOfRangeByte_39247_27O, eJ7_copyOfRangeByte_39247_27B, eJ7_copyOfRangeByte_39247_30, eJ7_copyOfRangeByte_39247_30N, eJ7_copyOfRangeByte_39247_32, ite_le, n45, n54, true_or, or_true, false_or, or_false, false_and, and_false, kx_l, kx_r, go_s, gl_s, gi_s, gb_s2, gb_s3, gq_s, wt_nil, wt_int, wt_long, wt_ref, wt_null, nl_int, nl_long, nl_ref, nl_null, nl_none, rf_n, rf_s, rf_st, tl_s, tl_n, g0, gS, ex1, nb_b, nb_0, nb_1, nf_i, nf_l, nf_ra, nf_ro, nf_na, nf_no, nf_b0, nf_z0, t45_4, t45_5, true_and, and_true, List.set_cons_zero, List.set_cons_succ, List.length_cons, List.length_nil, rd_s, upw_s, ne_eq, not_false_eq_true, Nat.zero_add, Nat.add_zero, if_true, if_false, eq_self, sub0, exal, al26, ra, m, c0, z00, zn, upw2, eJ7_copyOfRangeByte_39247_27B ra (upw_s _ _ _)]
    repeat' first | with_reducible refine And.intro ?_ ?_ | omega
    · intro j hj
      exact hf j (by omega)
    · exact hQ _ _ _ hq
set_option maxHeartbeats 4000000 in
theorem sJ4_toString_0e30d {b d N : Nat} {c : Int32} (hS : SG g) (hT : TS g w0 b d N c w) (hN : N ≤ 1000) (hc : c.toInt ≤ 90) (hQ : ∀ q w', ext g w0 w' → Q (.inl (some (.ref q))) w') : WP (MJ4_toString_0e30d g) Q (0, [some (.ref b)], [], w, 0, 0) := by
  obtain ⟨ml, f, hb, hd, hf, hc0, hc1, rb, rdd, n1, n2⟩ := hT.opn g
  simp only [eJ4_toString_0e30d_0, ite_le, n45, n54, true_or, or_true, false_or, or_false, false_and, and_false, kx_l, kx_r, go_s, gl_s, gi_s, gb_s2, gb_s3, gq_s, wt_nil, wt_int, wt_long, wt_ref, wt_null, nl_int, nl_long, nl_ref, nl_null, nl_none, rf_n, rf_s, rf_st, tl_s, tl_n, g0, gS, ex1, nb_b, nb_0, nb_1, nf_i, nf_l, nf_ra, nf_ro, nf_na, nf_no, nf_b0, nf_z0, t45_4, t45_5, true_and, and_true, List.set_cons_zero, List.set_cons_succ, List.length_cons, List.length_nil, rd_s, upw_s, ne_eq, not_false_eq_true, Nat.zero_add, Nat.add_zero, if_true, if_false, eq_self]
  repeat' first | with_reducible refine And.intro ?_ ?_ | omega
  intro q hq
  have hqn := rd_none hq
  have hqb : b ≠ q := fun e => by
    rw [← e, hb] at hqn
    cases hqn
  have hqd : d ≠ q := fun e => by
    rw [← e, hd] at hqn
    cases hqn
  have hw0 : w0 q = none := by
    cases hz : w0 q with
    | none => rfl
    | some o =>
      have := hT.1.1 q o hz
      rw [hqn] at this
      cases this
  simp only [eJ4_toString_0e30d_0, eJ4_toString_0e30d_3, eJ4_toString_0e30d_3R, eJ4_toString_0e30d_4, eJ4_toString_0e30d_4N, eJ4_toString_0e30d_5R, eJ4_toString_0e30d_5N, eJ4_toString_0e30d_8, eJ4_toString_0e30d_8N, eJ0_init_81219_0, eJ0_init_81219_0N, eJ0_init_81219_1, eJ0_init_81219_1N, eJ0_init_81219_2, eJ0_init_81219_3RR, eJ0_init_81219_3NR, eJ0_init_81219_3RN, eJ0_init_81219_3NN, eJ0_init_81219_6, eJ0_init_db425_0, eJ0_init_db425_0N, eJ0_init_db425_1, eJ0_init_db425_4, eJ0_init_db425_4N, eJ0_init_db425_5, eJ0_init_db425_8, eJ0_init_db425_8N, eJ0_init_db425_9, eJ0_init_db425_9N, eJ0_init_db425_10, eJ0_init_db425_13, eJ0_init_db425_15, eJ0_init_db425_15N, eJ0_init_db425_16, eJ0_init_db425_19, eJ0_init_db425_22, eJ0_init_db425_22N, eJ0_init_db425_23, eJ0_init_db425_24, eJ0_init_db425_27, eJ0_init_db425_27N, eJ0_init_db425_28, eJ0_init_db425_28N, eJ0_init_db425_29, eJ0_init_db425_30, eJ0_init_db425_32R, eJ0_init_db425_32N, eJ0_init_db425_35, eJ0_init_db425_38, eJ0_init_db425_41, eJ0_init_db425_44, eJ0_init_db425_47, eJ0_init_db425_47N, eJ0_init_db425_48, eJ0_init_db425_51, eJ0_init_db425_54, eJ0_init_db425_54N, eJ0_init_db425_55, eJ0_init_db425_55N, eJ0_init_db425_56, eJ0_init_db425_57, eJ0_init_db425_62, eJ0_init_db425_65, eJ0_init_db425_65N, eJ0_init_db425_66, eJ0_init_db425_66N, eJ0_init_db425_67, eJ0_init_db425_70, eJ0_init_db425_75, eJ0_init_db425_78, eJ0_init_db425_79, eJ0_init_db425_79N, eJ0_init_db425_80, eJ0_init_db425_81, eJ0_init_db425_84, eJ0_init_db425_84N, eJ0_init_db425_85, eJ0_init_db425_85N, eJ0_init_db425_86, eJ0_init_db425_87, eJ0_init_db425_89, eJ0_init_db425_90, eJ0_init_db425_91R, eJ0_init_db425_91N, eJ0_init_db425_94, eJ0_init_db425_97, eJ5_getValue_6d5f1_0, eJ5_getValue_6d5f1_0N, eJ5_getValue_6d5f1_1, eJ5_getValue_6d5f1_4, eJ5_length_8abf5_0, eJ5_length_8abf5_0N, eJ5_length_8abf5_1, eJ5_length_8abf5_4, eJ4_length_8abf5_0, eJ4_length_8abf5_0N, eJ4_length_8abf5_1, eJ4_length_8abf5_4, eJ5_isLatin1_aae02_0, eJ5_isLatin1_aae02_3, eJ5_isLatin1_aae02_6, eJ5_isLatin1_aae02_6N, eJ5_isLatin1_aae02_7, eJ5_isLatin1_aae02_10, eJ5_isLatin1_aae02_13, eJ5_isLatin1_aae02_14, eJ5_isLatin1_aae02_17, eJ5_isLatin1_aae02_18, ite_le, n45, n54, true_or, or_true, false_or, or_false, false_and, and_false, kx_l, kx_r, go_s, gl_s, gi_s, gb_s2, gb_s3, gq_s, wt_nil, wt_int, wt_long, wt_ref, wt_null, nl_int, nl_long, nl_ref, nl_null, nl_none, rf_n, rf_s, rf_st, tl_s, tl_n, g0, gS, ex1, nb_b, nb_0, nb_1, nf_i, nf_l, nf_ra, nf_ro, nf_na, nf_no, nf_b0, nf_z0, t45_4, t45_5, true_and, and_true, List.set_cons_zero, List.set_cons_succ, List.length_cons, List.length_nil, rd_s, upw_s, ne_eq, not_false_eq_true, Nat.zero_add, Nat.add_zero, if_true, if_false, eq_self, hS.1, zz1, rb, hb, hqb, upw_n, rd_n, upw2, rdd]
  repeat' first | with_reducible refine And.intro ?_ ?_ | omega
  refine sJ7_copyOfRange_39247 (a := d) (N := N) (f := f) (by rw [upw_n hqd]; exact hd) hf hN hc0 hc1 hc (fun q2 M f' hq2 => ?_)
  have hq2n := rd_none hq2
  have hqq : q ≠ q2 := fun e => by
    rw [← e, upw_s] at hq2n
    cases hq2n
  have hw2 : w0 q2 = none := by
    cases hz : w0 q2 with
    | none => rfl
    | some o =>
      have := hT.1.1 q2 o hz
      rw [upw_n hqq.symm, this] at hq2n
      cases hq2n
  simp only [eJ4_toString_0e30d_0, eJ4_toString_0e30d_3, eJ4_toString_0e30d_3R, eJ4_toString_0e30d_4, eJ4_toString_0e30d_4N, eJ4_toString_0e30d_5R, eJ4_toString_0e30d_5N, eJ4_toString_0e30d_8, eJ4_toString_0e30d_8N, eJ0_init_81219_0, eJ0_init_81219_0N, eJ0_init_81219_1, eJ0_init_81219_1N, eJ0_init_81219_2, eJ0_init_81219_3RR, eJ0_init_81219_3NR, eJ0_init_81219_3RN, eJ0_init_81219_3NN, eJ0_init_81219_6, eJ0_init_db425_0, eJ0_init_db425_0N, eJ0_init_db425_1, eJ0_init_db425_4, eJ0_init_db425_4N, eJ0_init_db425_5, eJ0_init_db425_8, eJ0_init_db425_8N, eJ0_init_db425_9, eJ0_init_db425_9N, eJ0_init_db425_10, eJ0_init_db425_13, eJ0_init_db425_15, eJ0_init_db425_15N, eJ0_init_db425_16, eJ0_init_db425_19, eJ0_init_db425_22, eJ0_init_db425_22N, eJ0_init_db425_23, eJ0_init_db425_24, eJ0_init_db425_27, eJ0_init_db425_27N, eJ0_init_db425_28, eJ0_init_db425_28N, eJ0_init_db425_29, eJ0_init_db425_30, eJ0_init_db425_32R, eJ0_init_db425_32N, eJ0_init_db425_35, eJ0_init_db425_38, eJ0_init_db425_41, eJ0_init_db425_44, eJ0_init_db425_47, eJ0_init_db425_47N, eJ0_init_db425_48, eJ0_init_db425_51, eJ0_init_db425_54, eJ0_init_db425_54N, eJ0_init_db425_55, eJ0_init_db425_55N, eJ0_init_db425_56, eJ0_init_db425_57, eJ0_init_db425_62, eJ0_init_db425_65, eJ0_init_db425_65N, eJ0_init_db425_66, eJ0_init_db425_66N, eJ0_init_db425_67, eJ0_init_db425_70, eJ0_init_db425_75, eJ0_init_db425_78, eJ0_init_db425_79, eJ0_init_db425_79N, eJ0_init_db425_80, eJ0_init_db425_81, eJ0_init_db425_84, eJ0_init_db425_84N, eJ0_init_db425_85, eJ0_init_db425_85N, eJ0_init_db425_86, eJ0_init_db425_87, eJ0_init_db425_89, eJ0_init_db425_90, eJ0_init_db425_91R, eJ0_init_db425_91N, eJ0_init_db425_94, eJ0_init_db425_97, ite_le, n45, n54, true_or, or_true, false_or, or_false, false_and, and_false, kx_l, kx_r, go_s, gl_s, gi_s, gb_s2, gb_s3, gq_s, wt_nil, wt_int, wt_long, wt_ref, wt_null, nl_int, nl_long, nl_ref, nl_null, nl_none, rf_n, rf_s, rf_st, tl_s, tl_n, g0, gS, ex1, nb_b, nb_0, nb_1, nf_i, nf_l, nf_ra, nf_ro, nf_na, nf_no, nf_b0, nf_z0, t45_4, t45_5, true_and, and_true, List.set_cons_zero, List.set_cons_succ, List.length_cons, List.length_nil, rd_s, upw_s, ne_eq, not_false_eq_true, Nat.zero_add, Nat.add_zero, if_true, if_false, eq_self, hqq, upw_n, upw2, tyJ0]
  repeat' first | with_reducible refine And.intro ?_ ?_ | omega
  all_goals first | exact trivial | exact hQ q _ (((hT.1.own hw0 (rd_ro hq)).own hw2 (rd_ro hq2)).own hw0 (rd_ro hq))
end
end
/-! 60.texu0.lean.txt -/
section
section
variable {g : RO} {Q : Ot → Hw → Prop} {w0 w : Hw}
set_option maxHeartbeats 4000000 in
theorem lJ5_append_66267_19 {k n : Nat} {b d N kk : Nat} {c s : Int32} {x : Int64} (hS : SG g) (hD : DG g w) (hT : TS g w0 b d N c w) (hN : N ≤ 1000) (k1 : 1 ≤ kk) (hs : s.toInt = c.toInt + (kk + (if x.toInt < 0 then 1 else 0))) (ha : -((10 : Int) ^ kk) < x.toInt) (hb' : x.toInt < (10 : Int) ^ kk) (hsN : s.toInt ≤ (N : Int)) (hk : k ≤ 1) (hn : n ≤ 170) (hQ : ∀ w', TS g w0 b d N s w' → Q (.inl (some (.ref b))) w') : WP (MJ5_append_66267 g) Q (19, [some (.ref b), some (.long x), none, some (.int c), some (.int s)], [], w, k, n) := by
  obtain ⟨ml, f, hb, hd, hf, hc0, hc1, rb, rdd, n1, n2⟩ := hT.opn g
  simp only [eJ5_append_66267_19, eJ5_append_66267_19N, eJ5_append_66267_20, eJ5_append_66267_23, eJ5_append_66267_26, eJ5_append_66267_27, eJ5_append_66267_29, eJ5_append_66267_29N, eJ5_append_66267_30, eJ5_append_66267_33R, eJ5_append_66267_33N, eJ5_isLatin1_aae02_0, eJ5_isLatin1_aae02_3, eJ5_isLatin1_aae02_6, eJ5_isLatin1_aae02_6N, eJ5_isLatin1_aae02_7, eJ5_isLatin1_aae02_10, eJ5_isLatin1_aae02_13, eJ5_isLatin1_aae02_14, eJ5_isLatin1_aae02_17, eJ5_isLatin1_aae02_18, ite_le, n45, n54, true_or, or_true, false_or, or_false, false_and, and_false, kx_l, kx_r, go_s, gl_s, gi_s, gb_s2, gb_s3, gq_s, wt_nil, wt_int, wt_long, wt_ref, wt_null, nl_int, nl_long, nl_ref, nl_null, nl_none, rf_n, rf_s, rf_st, tl_s, tl_n, g0, gS, ex1, nb_b, nb_0, nb_1, nf_i, nf_l, nf_ra, nf_ro, nf_na, nf_no, nf_b0, nf_z0, t45_4, t45_5, true_and, and_true, List.set_cons_zero, List.set_cons_succ, List.length_cons, List.length_nil, rd_s, upw_s, ne_eq, not_false_eq_true, Nat.zero_add, Nat.add_zero, if_true, if_false, eq_self, hS.1, zz1, rb, hb, rdd, hd, n1, n2, exal, al26]
  repeat' first | with_reducible refine And.intro ?_ ?_ | omega
  refine sJ13_getChars_11360 (kk := kk) (by omega) k1 ha hb' (by omega) hsN hd hf hD (fun f' v hf' => ?_)
  simp only [eJ5_append_66267_36, eJ5_append_66267_36R, eJ5_append_66267_36N, eJ5_append_66267_37, eJ5_append_66267_40, eJ5_append_66267_41, eJ5_append_66267_42, eJ5_append_66267_44, eJ5_append_66267_44N, eJ5_append_66267_45, eJ5_append_66267_51, eJ5_append_66267_51R, eJ5_append_66267_51N, eJ5_append_66267_52, eJ5_append_66267_52N, eJ5_append_66267_53, eJ5_append_66267_55, eJ5_append_66267_58, eJ5_append_66267_58N, eJ5_append_66267_59, eJ5_append_66267_59N, ite_le, n45, n54, true_or, or_true, false_or, or_false, false_and, and_false, kx_l, kx_r, go_s, gl_s, gi_s, gb_s2, gb_s3, gq_s, wt_nil, wt_int, wt_long, wt_ref, wt_null, nl_int, nl_long, nl_ref, nl_null, nl_none, rf_n, rf_s, rf_st, tl_s, tl_n, g0, gS, ex1, nb_b, nb_0, nb_1, nf_i, nf_l, nf_ra, nf_ro, nf_na, nf_no, nf_b0, nf_z0, t45_4, t45_5, true_and, and_true, List.set_cons_zero, List.set_cons_succ, List.length_cons, List.length_nil, rd_s, upw_s, ne_eq, not_false_eq_true, Nat.zero_add, Nat.add_zero, if_true, if_false, eq_self, hb, n1, n2, upw_n]
  repeat' first | with_reducible refine And.intro ?_ ?_ | omega
  exact hQ _ (hT.fin hf' (by split at hs <;> omega) hsN)
set_option maxHeartbeats 4000000 in
theorem sJ5_append_66267 {b d N : Nat} {c : Int32} {x : Int64} (hS : SG g) (hT : TS g w0 b d N c w) (hN : N ≤ 170) (hc : c.toInt ≤ 63) (hD : DG g w0) (hQ : ∀ (d' N' : Nat) (c' : Int32) (w' : Hw), N' ≤ 170 → c.toInt ≤ c'.toInt → c'.toInt ≤ c.toInt + 20 → TS g w0 b d' N' c' w' → Q (.inl (some (.ref b))) w') : WP (MJ5_append_66267 g) Q (0, [some (.ref b), some (.long x), none, none, none], [], w, 0, 0) := by
  obtain ⟨ml, f, hb, hd, hf, hc0, hc1, rb, rdd, n1, n2⟩ := hT.opn g
  simp only [eJ5_append_66267_0, eJ5_append_66267_0N, eJ5_append_66267_1, eJ5_append_66267_4, eJ5_append_66267_5, eJ5_append_66267_6, eJ5_append_66267_7, ite_le, n45, n54, true_or, or_true, false_or, or_false, false_and, and_false, kx_l, kx_r, go_s, gl_s, gi_s, gb_s2, gb_s3, gq_s, wt_nil, wt_int, wt_long, wt_ref, wt_null, nl_int, nl_long, nl_ref, nl_null, nl_none, rf_n, rf_s, rf_st, tl_s, tl_n, g0, gS, ex1, nb_b, nb_0, nb_1, nf_i, nf_l, nf_ra, nf_ro, nf_na, nf_no, nf_b0, nf_z0, t45_4, t45_5, true_and, and_true, List.set_cons_zero, List.set_cons_succ, List.length_cons, List.length_nil, rd_s, upw_s, ne_eq, not_false_eq_true, Nat.zero_add, Nat.add_zero, if_true, if_false, eq_self, rb, hb]
  repeat' first | with_reducible refine And.intro ?_ ?_ | omega
  refine sJ13_stringSize_95d88 (fun v kk k1 k2 k3 k4 k5 => ?_)
  have hv : 1 ≤ v.toInt ∧ v.toInt ≤ 20 := by split at k3 <;> omega
  obtain ⟨s, hs0⟩ : ∃ s, c + v = s := ⟨_, rfl⟩
  have e1 : s.toInt = c.toInt + v.toInt := by
    rw [← hs0]
    exact i32_add (by omega) (by omega)
  obtain ⟨eK, eS⟩ := kE (m := s) hb hd (by omega)
  have hk : kfE [.ref b, .int s] w ≤ 1 := by
    rw [eK]
    split <;> omega
  have hs : sfE [.ref b, .int s] w ≤ 170 := by
    split at eS <;> omega
  simp only [eJ5_append_66267_10, eJ5_append_66267_11, eJ5_append_66267_13, eJ5_append_66267_13N, eJ5_append_66267_14, eJ5_append_66267_16, ite_le, n45, n54, true_or, or_true, false_or, or_false, false_and, and_false, kx_l, kx_r, go_s, gl_s, gi_s, gb_s2, gb_s3, gq_s, wt_nil, wt_int, wt_long, wt_ref, wt_null, nl_int, nl_long, nl_ref, nl_null, nl_none, rf_n, rf_s, rf_st, tl_s, tl_n, g0, gS, ex1, nb_b, nb_0, nb_1, nf_i, nf_l, nf_ra, nf_ro, nf_na, nf_no, nf_b0, nf_z0, t45_4, t45_5, true_and, and_true, List.set_cons_zero, List.set_cons_succ, List.length_cons, List.length_nil, rd_s, upw_s, ne_eq, not_false_eq_true, Nat.zero_add, Nat.add_zero, if_true, if_false, eq_self, rb, hb, hs0, hk, hs]
  repeat' first | with_reducible refine And.intro ?_ ?_ | omega
  refine sJ5_ensureCapacityInternal_d00df hS hT (by omega) (by omega) (by omega) (fun h => ⟨by rw [eK, if_pos h]; exact Nat.le_refl _, by rw [eS, if_pos h]; exact Int.le_refl _⟩) (fun h => ?_) (fun d' N' w' h1 h2 hT' => ?_)
  · simp only [eJ5_append_66267_10, eJ5_append_66267_11, eJ5_append_66267_13, eJ5_append_66267_13N, eJ5_append_66267_14, eJ5_append_66267_16, ite_le, n45, n54, true_or, or_true, false_or, or_false, false_and, and_false, kx_l, kx_r, go_s, gl_s, gi_s, gb_s2, gb_s3, gq_s, wt_nil, wt_int, wt_long, wt_ref, wt_null, nl_int, nl_long, nl_ref, nl_null, nl_none, rf_n, rf_s, rf_st, tl_s, tl_n, g0, gS, ex1, nb_b, nb_0, nb_1, nf_i, nf_l, nf_ra, nf_ro, nf_na, nf_no, nf_b0, nf_z0, t45_4, t45_5, true_and, and_true, List.set_cons_zero, List.set_cons_succ, List.length_cons, List.length_nil, rd_s, upw_s, ne_eq, not_false_eq_true, Nat.zero_add, Nat.add_zero, if_true, if_false, eq_self]
    exact lJ5_append_66267_19 hS (hD.ext hT.1) hT (by omega) k1 (by rw [e1, k3]) k4 k5 h (by omega) (by omega) (fun w' z => hQ _ _ _ _ hN (by omega) (by omega) z)
  · simp only [eJ5_append_66267_10, eJ5_append_66267_11, eJ5_append_66267_13, eJ5_append_66267_13N, eJ5_append_66267_14, eJ5_append_66267_16, ite_le, n45, n54, true_or, or_true, false_or, or_false, false_and, and_false, kx_l, kx_r, go_s, gl_s, gi_s, gb_s2, gb_s3, gq_s, wt_nil, wt_int, wt_long, wt_ref, wt_null, nl_int, nl_long, nl_ref, nl_null, nl_none, rf_n, rf_s, rf_st, tl_s, tl_n, g0, gS, ex1, nb_b, nb_0, nb_1, nf_i, nf_l, nf_ra, nf_ro, nf_na, nf_no, nf_b0, nf_z0, t45_4, t45_5, true_and, and_true, List.set_cons_zero, List.set_cons_succ, List.length_cons, List.length_nil, rd_s, upw_s, ne_eq, not_false_eq_true, Nat.zero_add, Nat.add_zero, if_true, if_false, eq_self]
    exact lJ5_append_66267_19 hS (hD.ext hT'.1) hT' (by omega) k1 (by rw [e1, k3]) k4 k5 (by omega) (by omega) (by omega) (fun w' z => hQ _ _ _ _ (by omega) (by omega) (by omega) z)
set_option maxHeartbeats 4000000 in
theorem sJ4_append_f7089 {b d N : Nat} {c : Int32} {x : Int64} (hS : SG g) (hT : TS g w0 b d N c w) (hN : N ≤ 170) (hc : c.toInt ≤ 63) (hD : DG g w0) (hQ : ∀ (d' N' : Nat) (c' : Int32) (w' : Hw), N' ≤ 170 → c.toInt ≤ c'.toInt → c'.toInt ≤ c.toInt + 20 → TS g w0 b d' N' c' w' → Q (.inl (some (.ref b))) w') : WP (MJ4_append_f7089 g) Q (0, [some (.ref b), some (.long x), none], [], w, 0, 0) := by
  obtain ⟨ml, f, hb, hd, hf, hc0, hc1, rb, rdd, n1, n2⟩ := hT.opn g
  simp only [eJ4_append_f7089_0, eJ4_append_f7089_0N, eJ4_append_f7089_1, eJ4_append_f7089_2, ite_le, n45, n54, true_or, or_true, false_or, or_false, false_and, and_false, kx_l, kx_r, go_s, gl_s, gi_s, gb_s2, gb_s3, gq_s, wt_nil, wt_int, wt_long, wt_ref, wt_null, nl_int, nl_long, nl_ref, nl_null, nl_none, rf_n, rf_s, rf_st, tl_s, tl_n, g0, gS, ex1, nb_b, nb_0, nb_1, nf_i, nf_l, nf_ra, nf_ro, nf_na, nf_no, nf_b0, nf_z0, t45_4, t45_5, true_and, and_true, List.set_cons_zero, List.set_cons_succ, List.length_cons, List.length_nil, rd_s, upw_s, ne_eq, not_false_eq_true, Nat.zero_add, Nat.add_zero, if_true, if_false, eq_self, rb]
  repeat' first | with_reducible refine And.intro ?_ ?_ | omega
  refine sJ5_append_66267 hS hT hN hc hD (fun d' N' c' w' h1 h2 h3 z => ?_)
  simp only [eJ4_append_f7089_5, eJ4_append_f7089_5R, eJ4_append_f7089_5N, eJ4_append_f7089_6, eJ4_append_f7089_6N, eJ4_append_f7089_7, eJ4_append_f7089_7N, ite_le, n45, n54, true_or, or_true, false_or, or_false, false_and, and_false, kx_l, kx_r, go_s, gl_s, gi_s, gb_s2, gb_s3, gq_s, wt_nil, wt_int, wt_long, wt_ref, wt_null, nl_int, nl_long, nl_ref, nl_null, nl_none, rf_n, rf_s, rf_st, tl_s, tl_n, g0, gS, ex1, nb_b, nb_0, nb_1, nf_i, nf_l, nf_ra, nf_ro, nf_na, nf_no, nf_b0, nf_z0, t45_4, t45_5, true_and, and_true, List.set_cons_zero, List.set_cons_succ, List.length_cons, List.length_nil, rd_s, upw_s, ne_eq, not_false_eq_true, Nat.zero_add, Nat.add_zero, if_true, if_false, eq_self]
  repeat' first | with_reducible refine And.intro ?_ ?_ | omega
  exact hQ _ _ _ _ h1 h2 h3 z
end
end
/-! 60.texu1.lean.txt -/
section
section
variable {g : RO} {Q : Ot → Hw → Prop} {w0 w : Hw}
/-- a text of the program's own -/
def STO (g : RO) (w : Hw) (s : Nat) : Prop := ∃ (v M : Nat) (f : Nat → Int32) (h z : Value), g.2 s = some (.inr (0, [.ref v, .int 0, h, z])) ∧ w s = none ∧ g.2 v = some (.inl (2, M, .inl f)) ∧ w v = none ∧ bOK M f ∧ M ≤ 8
/-- its length is at most Ml -/
def STB (g : RO) (s Ml : Nat) : Prop := ∀ (v M0 : Nat) (f : Nat → Int32) (h z : Value), g.2 s = some (.inr (0, [.ref v, .int 0, h, z])) → g.2 v = some (.inl (2, M0, .inl f)) → M0 ≤ Ml
theorem STO.ext {g : RO} {w w' : Hw} {s : Nat} (h : STO g w s) (k : ext g w w') : STO g w' s := by
  obtain ⟨v, M, f, h1, z, a, b, c, d, e⟩ := h
  exact ⟨v, M, f, h1, z, a, k.2 _ _ a b, c, k.2 _ _ c d, e⟩
set_option maxHeartbeats 4000000 in
theorem lJ5_append_cf1ce_24 {k n : Nat} {b d N s M : Nat} {c : Int32} (hS : SG g) (hs : STO g w s) (hM : ∀ v M0 f h z, g.2 s = some (.inr (0, [.ref v, .int 0, h, z])) → g.2 v = some (.inl (2, M0, .inl f)) → M0 = M) (hT : TS g w0 b d N c w) (hN : N ≤ 1000) (hsN : c.toInt + M ≤ (N : Int)) (hk : k ≤ 1) (hn : n ≤ 170) (hQ : ∀ w', TS g w0 b d N (c + Int32.ofNat M) w' → Q (.inl (some (.ref b))) w') : WP (MJ5_append_cf1ce g) Q (24, [some (.ref b), some (.ref s), some (.int (Int32.ofNat M))], [], w, k, n) := by
  obtain ⟨ml, f, hb, hd, hf, hc0, hc1, rb, rdd, n1, n2⟩ := hT.opn g
  obtain ⟨v, M', fs, h1, z, s1, s2, s3, s4, s5, s6⟩ := hs
  obtain rfl := hM _ _ _ _ _ s1 s3
  have rs := rd_r s1 s2
  have rv := rd_r s3 s4
  have eM := ofN (N := M') (by omega)
  have nM : (Int32.ofNat M').toNatClampNeg = M' := by
    show (Int32.ofNat M').toInt.toNat = M'
    omega
  have nc : c.toNatClampNeg = c.toInt.toNat := rfl
  have c0 : (c < 0) = False := eq_false (i32_of_nlt (by have z0 : (0 : Int32).toInt = 0 := rfl; omega))
  have M0 : (Int32.ofNat M' < 0) = False := eq_false (i32_of_nlt (by have z0 : (0 : Int32).toInt = 0 := rfl; omega))
  have zn : (0 : Int32).toNatClampNeg = 0 := rfl
  have z00 : ((0 : Int32) < 0) = False := eq_false (by decide)
  have es : (c + Int32.ofNat M').toInt = c.toInt + M' := by
    rw [i32_add (by omega) (by omega), eM]
  have nb : v ≠ b := fun e => by
    rw [e, hb] at s4
    cases s4
  have nd : v ≠ d := fun e => by
    rw [e, hd] at s4
    cases s4
  simp only [eJ5_append_cf1ce_24, eJ5_append_cf1ce_24N, eJ5_append_cf1ce_25, eJ5_append_cf1ce_25N, eJ5_append_cf1ce_26, eJ5_append_cf1ce_29, eJ5_append_cf1ce_29N, eJ5_append_cf1ce_30R, eJ5_append_cf1ce_30N, eJ5_append_cf1ce_33, eJ5_append_cf1ce_33N, eJ5_append_cf1ce_34, eJ5_append_cf1ce_34R, eJ5_append_cf1ce_35, eJ5_append_cf1ce_38, eJ5_append_cf1ce_39, eJ5_append_cf1ce_40, eJ5_append_cf1ce_43, eJ5_append_cf1ce_43N, eJ5_append_cf1ce_44, eJ5_append_cf1ce_44N, eJ5_putStringAt_47b60_0, eJ5_putStringAt_47b60_0N, eJ5_putStringAt_47b60_1, eJ5_putStringAt_47b60_1N, eJ5_putStringAt_47b60_2R, eJ5_putStringAt_47b60_2N, eJ5_putStringAt_47b60_5, eJ5_putStringAt_47b60_5N, eJ5_putStringAt_47b60_6, eJ5_putStringAt_47b60_6N, eJ5_putStringAt_47b60_7, eJ5_putStringAt_47b60_10, eJ5_putStringAt_47b60_11, eJ5_putStringAt_47b60_11N, eJ5_putStringAt_47b60_12, eJ5_putStringAt_47b60_15R, eJ5_putStringAt_47b60_15N, eJ5_putStringAt_47b60_18, eJ5_inflateIfNeededFor_a7421_0, eJ5_inflateIfNeededFor_a7421_3, eJ5_inflateIfNeededFor_a7421_6, eJ5_inflateIfNeededFor_a7421_6N, eJ5_inflateIfNeededFor_a7421_7, eJ5_inflateIfNeededFor_a7421_10, eJ5_inflateIfNeededFor_a7421_10N, eJ5_inflateIfNeededFor_a7421_11, eJ5_inflateIfNeededFor_a7421_14, eJ5_inflateIfNeededFor_a7421_17, eJ5_inflateIfNeededFor_a7421_17N, eJ5_inflateIfNeededFor_a7421_21, eJ0_getBytes_840e7_0, eJ0_getBytes_840e7_0N, eJ0_getBytes_840e7_1, eJ0_getBytes_840e7_4, eJ0_getBytes_840e7_5, eJ0_getBytes_840e7_8, eJ0_getBytes_840e7_8N, eJ0_getBytes_840e7_9, eJ0_getBytes_840e7_12, eJ0_getBytes_840e7_13, eJ0_getBytes_840e7_13N, eJ0_getBytes_840e7_14, eJ0_getBytes_840e7_15, eJ0_getBytes_840e7_16, eJ0_getBytes_840e7_17, eJ0_getBytes_840e7_17N, eJ0_getBytes_840e7_18, eJ0_getBytes_840e7_21, eJ0_getBytes_840e7_22O, eJ0_getBytes_840e7_22B, eJ0_getBytes_840e7_25, eJ0_getBytes_840e7_28, eJ0_getBytes_840e7_28N, eJ0_getBytes_840e7_29, eJ0_getBytes_840e7_32, eJ0_getBytes_840e7_33, eJ0_getBytes_840e7_33N, eJ0_getBytes_840e7_34, eJ0_getBytes_840e7_35, eJ0_getBytes_840e7_35N, eJ0_getBytes_840e7_36, eJ0_getBytes_840e7_39, eJ0_getBytes_840e7_43, eJ0_coder_7d493_0, eJ0_coder_7d493_3, eJ0_coder_7d493_6, eJ0_coder_7d493_6N, eJ0_coder_7d493_7, eJ0_coder_7d493_10, eJ0_coder_7d493_13, eJ0_coder_7d493_14, ite_le, n45, n54, true_or, or_true, false_or, or_false, false_and, and_false, kx_l, kx_r, go_s, gl_s, gi_s, gb_s2, gb_s3, gq_s, wt_nil, wt_int, wt_long, wt_ref, wt_null, nl_int, nl_long, nl_ref, nl_null, nl_none, rf_n, rf_s, rf_st, tl_s, tl_n, g0, gS, ex1, nb_b, nb_0, nb_1, nf_i, nf_l, nf_ra, nf_ro, nf_na, nf_no, nf_b0, nf_z0, t45_4, t45_5, true_and, and_true, List.set_cons_zero, List.set_cons_succ, List.length_cons, List.length_nil, rd_s, upw_s, ne_eq, not_false_eq_true, Nat.zero_add, Nat.add_zero, if_true, if_false, eq_self, hS.1, zz1, rb, hb, rdd, hd, rs, rv, n1, n2, nb, nd, upw_n, rd_n, upw2, exal, al26, shl0, c0, M0, zn, z00, nM, nc, eJ0_getBytes_840e7_22B rv hd]
  repeat' first | with_reducible refine And.intro ?_ ?_ | omega
  all_goals first
    | rfl
    | exact fun j hj => s5 j (by omega)
    | exact hQ _ (hT.fin (bOK_cpy (N0 := M') s5 hf (by omega)) (by omega) (by omega))
set_option maxHeartbeats 4000000 in
theorem sJ5_append_cf1ce {b d N s Ml : Nat} {c : Int32} (hS : SG g) (hT : TS g w0 b d N c w) (hN : N ≤ 170) (hc : c.toInt ≤ 63) (hs : STO g w0 s) (hB : STB g s Ml) (hQ : ∀ (d' N' : Nat) (c' : Int32) (w' : Hw), N' ≤ 170 → c.toInt ≤ c'.toInt → c'.toInt ≤ c.toInt + (Ml : Int) → TS g w0 b d' N' c' w' → Q (.inl (some (.ref b))) w') : WP (MJ5_append_cf1ce g) Q (0, [some (.ref b), some (.ref s), none], [], w, 0, 0) := by
  obtain ⟨ml, f, hb, hd, hf, hc0, hc1, rb, rdd, n1, n2⟩ := hT.opn g
  have hs1 := hs.ext hT.1
  obtain ⟨v, M, fs, h1, z, s1, s2, s3, s4, s5, s6⟩ := id hs1
  have rs := rd_r s1 s2
  have rv := rd_r s3 s4
  have eM := ofN (N := M) (by omega)
  have hM : ∀ v M0 f h z, g.2 s = some (.inr (0, [.ref v, .int 0, h, z])) → g.2 v = some (.inl (2, M0, .inl f)) → M0 = M := fun v' M0 f' h' z' q1 q2 => by
    rw [s1] at q1
    cases q1
    rw [s3] at q2
    cases q2
    rfl
  have hBM := hB _ _ _ _ _ s1 s3
  obtain ⟨m, hm⟩ : ∃ m, c + Int32.ofNat M = m := ⟨_, rfl⟩
  have e1 : m.toInt = c.toInt + M := by
    rw [← hm, i32_add (by omega) (by omega), eM]
  obtain ⟨eK, eS⟩ := kE (m := m) hb hd (by omega)
  have hk : kfE [.ref b, .int m] w ≤ 1 := by
    rw [eK]
    split <;> omega
  have hsE : sfE [.ref b, .int m] w ≤ 170 := by
    split at eS <;> omega
  simp only [eJ5_append_cf1ce_0, eJ5_append_cf1ce_0N, eJ5_append_cf1ce_1R, eJ5_append_cf1ce_1N, eJ5_append_cf1ce_4, eJ5_append_cf1ce_4N, eJ5_append_cf1ce_8, eJ5_append_cf1ce_8N, eJ5_append_cf1ce_9, eJ5_append_cf1ce_9N, eJ5_append_cf1ce_10, eJ5_append_cf1ce_13, eJ5_append_cf1ce_14, eJ5_append_cf1ce_14N, eJ5_append_cf1ce_15, eJ5_append_cf1ce_15N, eJ5_append_cf1ce_16, eJ5_append_cf1ce_19, eJ5_append_cf1ce_20, eJ5_append_cf1ce_21, eJ0_length_8abf5_0, eJ0_length_8abf5_0N, eJ0_length_8abf5_1, eJ0_length_8abf5_4, eJ0_length_8abf5_5, eJ0_length_8abf5_5N, eJ0_length_8abf5_6, eJ0_length_8abf5_9, eJ0_length_8abf5_10, eJ0_coder_7d493_0, eJ0_coder_7d493_3, eJ0_coder_7d493_6, eJ0_coder_7d493_6N, eJ0_coder_7d493_7, eJ0_coder_7d493_10, eJ0_coder_7d493_13, eJ0_coder_7d493_14, ite_le, n45, n54, true_or, or_true, false_or, or_false, false_and, and_false, kx_l, kx_r, go_s, gl_s, gi_s, gb_s2, gb_s3, gq_s, wt_nil, wt_int, wt_long, wt_ref, wt_null, nl_int, nl_long, nl_ref, nl_null, nl_none, rf_n, rf_s, rf_st, tl_s, tl_n, g0, gS, ex1, nb_b, nb_0, nb_1, nf_i, nf_l, nf_ra, nf_ro, nf_na, nf_no, nf_b0, nf_z0, t45_4, t45_5, true_and, and_true, List.set_cons_zero, List.set_cons_succ, List.length_cons, List.length_nil, rd_s, upw_s, ne_eq, not_false_eq_true, Nat.zero_add, Nat.add_zero, if_true, if_false, eq_self, hS.1, zz1, rb, hb, rs, rv, exal, al26, shr0, hm, hk, hsE]
  repeat' first | with_reducible refine And.intro ?_ ?_ | omega
  all_goals try rfl
  refine sJ5_ensureCapacityInternal_d00df hS hT (by omega) (by omega) (by omega) (fun h => ⟨by rw [eK, if_pos h]; exact Nat.le_refl _, by rw [eS, if_pos h]; exact Int.le_refl _⟩) (fun h => ?_) (fun d' N' w' h1 h2 hT' => ?_)
  · simp only [kx_l]
    exact lJ5_append_cf1ce_24 hS hs1 hM hT (by omega) (by omega) (by omega) (by omega) (fun w' z => hQ _ _ _ _ hN (by rw [hm]; omega) (by rw [hm]; omega) z)
  · simp only [kx_l]
    exact lJ5_append_cf1ce_24 hS (hs.ext hT'.1) hM hT' (by omega) (by omega) (by omega) (by omega) (fun w' z => hQ _ _ _ _ (by omega) (by rw [hm]; omega) (by rw [hm]; omega) z)
set_option maxHeartbeats 4000000 in
theorem sJ4_append_15ec4 {b d N s Ml : Nat} {c : Int32} (hS : SG g) (hT : TS g w0 b d N c w) (hN : N ≤ 170) (hc : c.toInt ≤ 63) (hs : STO g w0 s) (hB : STB g s Ml) (hQ : ∀ (d' N' : Nat) (c' : Int32) (w' : Hw), N' ≤ 170 → c.toInt ≤ c'.toInt → c'.toInt ≤ c.toInt + (Ml : Int) → TS g w0 b d' N' c' w' → Q (.inl (some (.ref b))) w') : WP (MJ4_append_15ec4 g) Q (0, [some (.ref b), some (.ref s)], [], w, 0, 0) := by
  obtain ⟨ml, f, hb, hd, hf, hc0, hc1, rb, rdd, n1, n2⟩ := hT.opn g
  simp only [eJ4_append_15ec4_0, eJ4_append_15ec4_0N, eJ4_append_15ec4_1, eJ4_append_15ec4_1N, eJ4_append_15ec4_2R, eJ4_append_15ec4_2N, ite_le, n45, n54, true_or, or_true, false_or, or_false, false_and, and_false, kx_l, kx_r, go_s, gl_s, gi_s, gb_s2, gb_s3, gq_s, wt_nil, wt_int, wt_long, wt_ref, wt_null, nl_int, nl_long, nl_ref, nl_null, nl_none, rf_n, rf_s, rf_st, tl_s, tl_n, g0, gS, ex1, nb_b, nb_0, nb_1, nf_i, nf_l, nf_ra, nf_ro, nf_na, nf_no, nf_b0, nf_z0, t45_4, t45_5, true_and, and_true, List.set_cons_zero, List.set_cons_succ, List.length_cons, List.length_nil, rd_s, upw_s, ne_eq, not_false_eq_true, Nat.zero_add, Nat.add_zero, if_true, if_false, eq_self, rb]
  repeat' first | with_reducible refine And.intro ?_ ?_ | omega
  refine sJ5_append_cf1ce hS hT hN hc hs hB (fun d' N' c' w' h1 h2 h3 z => ?_)
  simp only [eJ4_append_15ec4_5, eJ4_append_15ec4_5R, eJ4_append_15ec4_5N, eJ4_append_15ec4_6, eJ4_append_15ec4_6N, eJ4_append_15ec4_7, eJ4_append_15ec4_7N, ite_le, n45, n54, true_or, or_true, false_or, or_false, false_and, and_false, kx_l, kx_r, go_s, gl_s, gi_s, gb_s2, gb_s3, gq_s, wt_nil, wt_int, wt_long, wt_ref, wt_null, nl_int, nl_long, nl_ref, nl_null, nl_none, rf_n, rf_s, rf_st, tl_s, tl_n, g0, gS, ex1, nb_b, nb_0, nb_1, nf_i, nf_l, nf_ra, nf_ro, nf_na, nf_no, nf_b0, nf_z0, t45_4, t45_5, true_and, and_true, List.set_cons_zero, List.set_cons_succ, List.length_cons, List.length_nil, rd_s, upw_s, ne_eq, not_false_eq_true, Nat.zero_add, Nat.add_zero, if_true, if_false, eq_self]
  repeat' first | with_reducible refine And.intro ?_ ?_ | omega
  exact hQ _ _ _ _ h1 h2 h3 z
end
end
/-! 61.list0.lean.txt -/
section
section
variable {g : RO} {Q : Ot → Hw → Prop} {w0 w : Hw}
/-! LISTS -/
/-- a row of the model: four longs -/
def isRow (w : Hw) (b : Nat) : Prop := ∃ f : Nat → Int64, w b = some (.inl (0, 4, .inr (.inl f)))
theorem isRow.ext {g : RO} {w w' : Hw} {b : Nat} (h : isRow w b) (k : ext g w w') : isRow w' b := h.imp fun _ z => k.1 b _ z
theorem isRow_up {w : Hw} {a b : Nat} {o1 o2 : Ob} (h : isRow w b) (ha : w a = some o1) (ho : ∀ z, o1 ≠ .inl (0, 4, z)) : isRow (upw w a o2) b := by
  obtain ⟨f, h⟩ := h
  refine ⟨f, ?_⟩
  rw [upw_n]
  · exact h
  · rintro rfl
    rw [ha] at h
    cases h
    exact ho _ rfl
theorem gl_Row {g : RO} {w : Hw} {b : Nat} {K : Nat → (Nat → Int64) → Prop} (h : isRow w b) (k : ∀ f, K 4 f) : gl (rd g w b) 0 K := by
  obtain ⟨f, h⟩ := h
  rw [rd_e h, gl_s]
  exact k f
theorem gl_Roww {w : Hw} {b : Nat} {K : Nat → (Nat → Int64) → Prop} (h : isRow w b) (k : ∀ f, K 4 f) : gl (w b) 0 K := by
  obtain ⟨f, h⟩ := h
  rw [h, gl_s]
  exact k f
/-- the empty row of an empty list, the class object -/
def EG (g : RO) (w : Hw) : Prop := (∃ e : Nat, g.1 0 = .ref e ∧ g.2 e = some (.inl (5, 0, qc fun _ => none)) ∧ w e = none) ∧ ∃ mi : Nat, g.1 10 = .ref mi
theorem EG.ext {g : RO} {w w' : Hw} (h : EG g w) (k : ext g w w') : EG g w' := ⟨h.1.imp fun e z => ⟨z.1, z.2.1, k.2 e _ z.2.1 z.2.2⟩, h.2⟩
/-- a list: its row of references has cap places, the first n are taken -/
def LL (g : RO) (w : Hw) (L D cap : Nat) (n : Int32) (h : Nat → Option Nat) : Prop := (∃ mc : Int32, w L = some (.inr (3, [.int mc, .ref D, .int n]))) ∧ ((w D = some (.inl (5, cap, qc h)) ∧ (cap = 10 ∨ cap = 15)) ∨ (cap = 0 ∧ g.1 0 = .ref D ∧ w D = none ∧ g.2 D = some (.inl (5, 0, qc h)))) ∧ 0 ≤ n.toInt ∧ n.toInt ≤ (cap : Int)
theorem LL.opn {g : RO} {w : Hw} {L D cap : Nat} {n : Int32} {h : Nat → Option Nat} (k : LL g w L D cap n h) : ∃ mc : Int32, w L = some (.inr (3, [.int mc, .ref D, .int n])) ∧ rd g w L = some (.inr (3, [.int mc, .ref D, .int n])) ∧ rd g w D = some (.inl (5, cap, qc h)) ∧ 0 ≤ n.toInt ∧ n.toInt ≤ (cap : Int) ∧ L ≠ D ∧ D ≠ L := by
  obtain ⟨⟨mc, h1⟩, h2, h3, h4⟩ := k
  have r : rd g w D = some (.inl (5, cap, qc h)) := by
    rcases h2 with ⟨h2, -⟩ | ⟨rfl, -, h5, h6⟩
    · exact rd_e h2
    · exact (by unfold rd; rw [h5]; exact h6)
  have ne : L ≠ D := fun e => by
    subst e
    rw [rd_e h1] at r
    cases r
  exact ⟨mc, h1, rd_e h1, r, h3, h4, ne, ne.symm⟩
theorem i32_f {a b : Int32} (h : b.toInt ≤ a.toInt) : (a < b) = False := eq_false (i32_of_nlt h)
theorem i32_t {a b : Int32} (h : a.toInt < b.toInt) : (a < b) = True := eq_true (i32_of_lt h)
theorem i32_z {a : Int32} (h : 0 ≤ a.toInt) : (a < 0) = False := i32_f (by have e : (0 : Int32).toInt = 0 := rfl; omega)
theorem al56 : ((5 : Nat) < 6) = True := eq_true (by decide)
theorem exal2 {a : Nat} {b : vp_A} {P : vp_A → Prop} : (∃ (t : Nat) (z : vp_A), (some (.inl (a, b)) : Option Ob) = some (.inl (t, z)) ∧ t < 6 ∧ P z) = (a < 6 ∧ P b) := propext ⟨fun ⟨t, z, e, h, k⟩ => by cases e; exact ⟨h, k⟩, fun h => ⟨a, b, rfl, h⟩⟩
theorem vpiM {a : Int32} {N : Nat} (h0 : (0 : Int) ≤ a.toInt) (h1 : a.toInt < (N : Int)) : vp_in a N := by
  rintro (h | h)
  · have := i32_lt h
    have e : (0 : Int32).toInt = 0 := rfl
    omega
  · have e1 : a.toNatClampNeg = a.toInt.toNat := rfl
    omega
set_option maxHeartbeats 4000000 in
theorem sJx4a65c_size {L D cap : Nat} {n : Int32} {h : Nat → Option Nat} (hl : LL g w L D cap n h) (hQ : Q (.inl (some (.int n))) w) : WP (MJx4a65c_size_8abf5 g) Q (0, [some (.ref L)], [], w, 0, 0) := by
  obtain ⟨mc, hL, rL, rD, hn0, hn1, n1, n2⟩ := hl.opn
  simp only [eJx4a65c_size_8abf5_0, eJx4a65c_size_8abf5_0N, eJx4a65c_size_8abf5_1, eJx4a65c_size_8abf5_4, ite_le, n45, n54, true_or, or_true, false_or, or_false, false_and, and_false, kx_l, kx_r, go_s, gl_s, gi_s, gb_s2, gb_s3, gq_s, wt_nil, wt_int, wt_long, wt_ref, wt_null, nl_int, nl_long, nl_ref, nl_null, nl_none, rf_n, rf_s, rf_st, tl_s, tl_n, g0, gS, ex1, nb_b, nb_0, nb_1, nf_i, nf_l, nf_ra, nf_ro, nf_na, nf_no, nf_b0, nf_z0, t45_4, t45_5, true_and, and_true, List.set_cons_zero, List.set_cons_succ, List.length_cons, List.length_nil, rd_s, upw_s, ne_eq, not_false_eq_true, Nat.zero_add, Nat.add_zero, if_true, if_false, rL]
  repeat' first | with_reducible refine And.intro ?_ ?_ | omega
  all_goals try exact hQ
set_option maxHeartbeats 4000000 in
theorem sJx4a65c_get {L D cap : Nat} {n i : Int32} {h : Nat → Option Nat} (hl : LL g w L D cap n h) (k0 : 0 ≤ i.toInt) (k1 : i.toInt < n.toInt) (hN : h i.toNatClampNeg = none → Q (.inl (some .null)) w) (hR : ∀ b, h i.toNatClampNeg = some b → Q (.inl (some (.ref b))) w) : WP (MJx4a65c_get_915e3 g) Q (0, [some (.ref L), some (.int i)], [], w, 0, 0) := by
  obtain ⟨mc, hL, rL, rD, hn0, hn1, n1, n2⟩ := hl.opn
  have iv : vp_in i cap := vpiM k0 (by omega)
  repeat' first
    | with_reducible assumption
    | with_reducible refine And.intro ?_ ?_
    | with_reducible exact hN (by assumption)
    | with_reducible exact hR _ (by assumption)
    | simp only [eJx4a65c_get_915e3_0, eJx4a65c_get_915e3_1, eJx4a65c_get_915e3_1N, eJx4a65c_get_915e3_2, eJx4a65c_get_915e3_5, eJx4a65c_get_915e3_8, eJx4a65c_get_915e3_8R, eJx4a65c_get_915e3_8N, eJx4a65c_get_915e3_9, eJx4a65c_get_915e3_9N, eJx4a65c_get_915e3_10, eJx4a65c_get_915e3_11, eJx4a65c_get_915e3_14, eJx4a65c_get_915e3_14N, eJx4a65c_elementData_915e3_0, eJx4a65c_elementData_915e3_0N, eJx4a65c_elementData_915e3_1, eJx4a65c_elementData_915e3_4, eJx4a65c_elementData_915e3_5, eJx4a65c_elementData_915e3_6, eJx4a65c_elementData_915e3_6N, eJ15_checkIndex_7cf53_0, eJ15_checkIndex_7cf53_1, eJ15_checkIndex_7cf53_2, eJ15_checkIndex_7cf53_3R, eJ15_checkIndex_7cf53_3N, eJ15_checkIndex_7cf53_6, eJ3_checkIndex_8e157_0, eJ3_checkIndex_8e157_1, eJ3_checkIndex_8e157_4, eJ3_checkIndex_8e157_5, eJ3_checkIndex_8e157_6, eJ3_checkIndex_8e157_9, eJ3_checkIndex_8e157_9N, eJ3_checkIndex_8e157_10, eJ3_checkIndex_8e157_11, eJ3_checkIndex_8e157_16, eJ3_checkIndex_8e157_17, ite_le, n45, n54, true_or, or_true, false_or, or_false, false_and, and_false, kx_l, kx_r, go_s, gl_s, gi_s, gb_s2, gb_s3, gq_s, wt_nil, wt_int, wt_long, wt_ref, wt_null, nl_int, nl_long, nl_ref, nl_null, nl_none, rf_n, rf_s, rf_st, tl_s, tl_n, g0, gS, ex1, nb_b, nb_0, nb_1, nf_i, nf_l, nf_ra, nf_ro, nf_na, nf_no, nf_b0, nf_z0, t45_4, t45_5, true_and, and_true, List.set_cons_zero, List.set_cons_succ, List.length_cons, List.length_nil, rd_s, upw_s, ne_eq, not_false_eq_true, Nat.zero_add, Nat.add_zero, if_true, if_false, rL, rD, i32_z k0, i32_t k1, exal2, al56]
    | with_reducible intro _
    | omega
set_option maxHeartbeats 4000000 in
theorem sJx4a65c_setN {L D cap : Nat} {n i : Int32} {h : Nat → Option Nat} (hl : LL g w L D cap n h) (hD : w D = some (.inl (5, cap, qc h))) (k0 : 0 ≤ i.toInt) (k1 : i.toInt < n.toInt) (hN : h i.toNatClampNeg = none → Q (.inl (some .null)) (upw w D (.inl (5, cap, qc (va_up h i.toNatClampNeg none))))) (hR : ∀ b0, h i.toNatClampNeg = some b0 → Q (.inl (some (.ref b0))) (upw w D (.inl (5, cap, qc (va_up h i.toNatClampNeg none))))) : WP (MJx4a65c_set_bcc79 g) Q (0, [some (.ref L), some (.int i), some .null, none], [], w, 0, 0) := by
  obtain ⟨mc, hL, rL, rD, hn0, hn1, n1, n2⟩ := hl.opn
  have iv : vp_in i cap := vpiM k0 (by omega)
  repeat' first
    | with_reducible assumption
    | with_reducible refine And.intro ?_ ?_
    | with_reducible exact hN (by assumption)
    | with_reducible exact hR _ (by assumption)
    | with_reducible refine Or.inr ?_
    | with_reducible refine gl_Roww (by assumption) ?_
    | simp only [eJx4a65c_set_bcc79_0, eJx4a65c_set_bcc79_1, eJx4a65c_set_bcc79_1N, eJx4a65c_set_bcc79_2, eJx4a65c_set_bcc79_5, eJx4a65c_set_bcc79_8, eJx4a65c_set_bcc79_8R, eJx4a65c_set_bcc79_8N, eJx4a65c_set_bcc79_9, eJx4a65c_set_bcc79_9N, eJx4a65c_set_bcc79_10, eJx4a65c_set_bcc79_11, eJx4a65c_set_bcc79_14, eJx4a65c_set_bcc79_14N, eJx4a65c_set_bcc79_15, eJx4a65c_set_bcc79_15N, eJx4a65c_set_bcc79_16, eJx4a65c_set_bcc79_19, eJx4a65c_set_bcc79_20, eJx4a65c_set_bcc79_20N, eJx4a65c_set_bcc79_21N, eJx4a65c_set_bcc79_21R, eJx4a65c_set_bcc79_22, eJx4a65c_set_bcc79_22N, eJx4a65c_set_bcc79_23, eJx4a65c_set_bcc79_23N, eJx4a65c_elementData_915e3_0, eJx4a65c_elementData_915e3_0N, eJx4a65c_elementData_915e3_1, eJx4a65c_elementData_915e3_4, eJx4a65c_elementData_915e3_5, eJx4a65c_elementData_915e3_6, eJx4a65c_elementData_915e3_6N, eJ15_checkIndex_7cf53_0, eJ15_checkIndex_7cf53_1, eJ15_checkIndex_7cf53_2, eJ15_checkIndex_7cf53_3R, eJ15_checkIndex_7cf53_3N, eJ15_checkIndex_7cf53_6, eJ3_checkIndex_8e157_0, eJ3_checkIndex_8e157_1, eJ3_checkIndex_8e157_4, eJ3_checkIndex_8e157_5, eJ3_checkIndex_8e157_6, eJ3_checkIndex_8e157_9, eJ3_checkIndex_8e157_9N, eJ3_checkIndex_8e157_10, eJ3_checkIndex_8e157_11, eJ3_checkIndex_8e157_16, eJ3_checkIndex_8e157_17, ite_le, n45, n54, true_or, or_true, false_or, or_false, false_and, and_false, kx_l, kx_r, go_s, gl_s, gi_s, gb_s2, gb_s3, gq_s, wt_nil, wt_int, wt_long, wt_ref, wt_null, nl_int, nl_long, nl_ref, nl_null, nl_none, rf_n, rf_s, rf_st, tl_s, tl_n, g0, gS, ex1, nb_b, nb_0, nb_1, nf_i, nf_l, nf_ra, nf_ro, nf_na, nf_no, nf_b0, nf_z0, t45_4, t45_5, true_and, and_true, List.set_cons_zero, List.set_cons_succ, List.length_cons, List.length_nil, rd_s, upw_s, ne_eq, not_false_eq_true, Nat.zero_add, Nat.add_zero, if_true, if_false, rL, rD, hD, i32_z k0, i32_t k1, exal2, al56]
    | with_reducible intro _
    | omega
set_option maxHeartbeats 4000000 in
theorem sJx4a65c_setR {L D cap b : Nat} {n i : Int32} {h : Nat → Option Nat} (hb : isRow w b) (hl : LL g w L D cap n h) (hD : w D = some (.inl (5, cap, qc h))) (k0 : 0 ≤ i.toInt) (k1 : i.toInt < n.toInt) (hN : h i.toNatClampNeg = none → Q (.inl (some .null)) (upw w D (.inl (5, cap, qc (va_up h i.toNatClampNeg (some b)))))) (hR : ∀ b0, h i.toNatClampNeg = some b0 → Q (.inl (some (.ref b0))) (upw w D (.inl (5, cap, qc (va_up h i.toNatClampNeg (some b)))))) : WP (MJx4a65c_set_bcc79 g) Q (0, [some (.ref L), some (.int i), some (.ref b), none], [], w, 0, 0) := by
  obtain ⟨mc, hL, rL, rD, hn0, hn1, n1, n2⟩ := hl.opn
  have iv : vp_in i cap := vpiM k0 (by omega)
  repeat' first
    | with_reducible assumption
    | with_reducible refine And.intro ?_ ?_
    | with_reducible exact hN (by assumption)
    | with_reducible exact hR _ (by assumption)
    | with_reducible refine Or.inr ?_
    | with_reducible refine gl_Roww (by assumption) ?_
    | simp only [eJx4a65c_set_bcc79_0, eJx4a65c_set_bcc79_1, eJx4a65c_set_bcc79_1N, eJx4a65c_set_bcc79_2, eJx4a65c_set_bcc79_5, eJx4a65c_set_bcc79_8, eJx4a65c_set_bcc79_8R, eJx4a65c_set_bcc79_8N, eJx4a65c_set_bcc79_9, eJx4a65c_set_bcc79_9N, eJx4a65c_set_bcc79_10, eJx4a65c_set_bcc79_11, eJx4a65c_set_bcc79_14, eJx4a65c_set_bcc79_14N, eJx4a65c_set_bcc79_15, eJx4a65c_set_bcc79_15N, eJx4a65c_set_bcc79_16, eJx4a65c_set_bcc79_19, eJx4a65c_set_bcc79_20, eJx4a65c_set_bcc79_20N, eJx4a65c_set_bcc79_21N, eJx4a65c_set_bcc79_21R, eJx4a65c_set_bcc79_22, eJx4a65c_set_bcc79_22N, eJx4a65c_set_bcc79_23, eJx4a65c_set_bcc79_23N, eJx4a65c_elementData_915e3_0, eJx4a65c_elementData_915e3_0N, eJx4a65c_elementData_915e3_1, eJx4a65c_elementData_915e3_4, eJx4a65c_elementData_915e3_5, eJx4a65c_elementData_915e3_6, eJx4a65c_elementData_915e3_6N, eJ15_checkIndex_7cf53_0, eJ15_checkIndex_7cf53_1, eJ15_checkIndex_7cf53_2, eJ15_checkIndex_7cf53_3R, eJ15_checkIndex_7cf53_3N, eJ15_checkIndex_7cf53_6, eJ3_checkIndex_8e157_0, eJ3_checkIndex_8e157_1, eJ3_checkIndex_8e157_4, eJ3_checkIndex_8e157_5, eJ3_checkIndex_8e157_6, eJ3_checkIndex_8e157_9, eJ3_checkIndex_8e157_9N, eJ3_checkIndex_8e157_10, eJ3_checkIndex_8e157_11, eJ3_checkIndex_8e157_16, eJ3_checkIndex_8e157_17, ite_le, n45, n54, true_or, or_true, false_or, or_false, false_and, and_false, kx_l, kx_r, go_s, gl_s, gi_s, gb_s2, gb_s3, gq_s, wt_nil, wt_int, wt_long, wt_ref, wt_null, nl_int, nl_long, nl_ref, nl_null, nl_none, rf_n, rf_s, rf_st, tl_s, tl_n, g0, gS, ex1, nb_b, nb_0, nb_1, nf_i, nf_l, nf_ra, nf_ro, nf_na, nf_no, nf_b0, nf_z0, t45_4, t45_5, true_and, and_true, List.set_cons_zero, List.set_cons_succ, List.length_cons, List.length_nil, rd_s, upw_s, ne_eq, not_false_eq_true, Nat.zero_add, Nat.add_zero, if_true, if_false, rL, rD, hD, i32_z k0, i32_t k1, exal2, al56]
    | with_reducible intro _
    | omega
set_option maxHeartbeats 4000000 in
theorem sJx4a65c_init {L : Nat} (hE : EG g w) (hL : w L = some (.inr (3, [.int 0, .null, .int 0]))) (hQ : ∀ D w', (∀ (a : Nat) (o : Ob), w a = some o → a ≠ L → w' a = some o) → (∀ (a : Nat) (o : Ob), g.2 a = some o → w a = none → w' a = none) → LL g w' L D 0 0 (fun _ => none) → Q (.inl none) w') : WP (MJx4a65c_init_da8c8 g) Q (0, [some (.ref L)], [], w, 0, 0) := by
  obtain ⟨⟨e, e1, e2, e3⟩, -⟩ := hE
  have hne : e ≠ L := fun z => by
    rw [z, hL] at e3
    cases e3
  have rL : rd g w L = some (.inr (3, [.int 0, .null, .int 0])) := rd_e hL
  simp only [eJx4a65c_init_da8c8_0, eJx4a65c_init_da8c8_0N, eJx4a65c_init_da8c8_1, eJx4a65c_init_da8c8_4, eJx4a65c_init_da8c8_4N, eJx4a65c_init_da8c8_5, eJx4a65c_init_da8c8_8, eJx4a65c_init_da8c8_11, eJxc12de_init_da8c8_0, eJxc12de_init_da8c8_0N, eJxc12de_init_da8c8_1, eJxc12de_init_da8c8_4, eJxc12de_init_da8c8_4N, eJxc12de_init_da8c8_5, eJxc12de_init_da8c8_6, eJxc12de_init_da8c8_9, eJxa1e45_init_da8c8_0, eJxa1e45_init_da8c8_0N, eJxa1e45_init_da8c8_1, eJxa1e45_init_da8c8_4, ite_le, n45, n54, true_or, or_true, false_or, or_false, false_and, and_false, kx_l, kx_r, go_s, gl_s, gi_s, gb_s2, gb_s3, gq_s, wt_nil, wt_int, wt_long, wt_ref, wt_null, nl_int, nl_long, nl_ref, nl_null, nl_none, rf_n, rf_s, rf_st, tl_s, tl_n, g0, gS, ex1, nb_b, nb_0, nb_1, nf_i, nf_l, nf_ra, nf_ro, nf_na, nf_no, nf_b0, nf_z0, t45_4, t45_5, true_and, and_true, List.set_cons_zero, List.set_cons_succ, List.length_cons, List.length_nil, rd_s, upw_s, ne_eq, not_false_eq_true, Nat.zero_add, Nat.add_zero, if_true, if_false, hL, rL, e1, tyJx4a65c, nf_ra, upw2]
  repeat' first | with_reducible refine And.intro ?_ ?_ | omega
  all_goals try exact trivial
  refine hQ e _ (fun a o h1 h2 => by rw [upw_n h2]; exact h1) (fun a o h1 h2 => ?_) ⟨⟨0, upw_s _ _ _⟩, Or.inr ⟨rfl, e1, by rw [upw_n hne]; exact e3, e2⟩, by decide, by decide⟩
  rw [upw_n]
  · exact h2
  · rintro rfl
    rw [hL] at h2
    cases h2
end
end
/-! 61.list1.lean.txt -/
section
section
variable {g : RO} {Q : Ot → Hw → Prop} {w0 w : Hw}
theorem upw2q {w : Hw} {a : Nat} {o o' : Ob} : upw (upw w a o) a o' = upw w a o' := by
  funext q
  unfold upw
  split <;> rfl
theorem cap0 : (Int32.ofNat 0 : Int32) = 0 := rfl
theorem cap10 : (Int32.ofNat 10 : Int32) = 10 := rfl
theorem cap15 : (Int32.ofNat 15 : Int32) = 15 := rfl
theorem z00 : ((0 : Int32) < 0) = False := eq_false (by decide)
theorem z101 : ((10 : Int32) < 0 + 1) = False := eq_false (by decide)
theorem n100 : ((10 : Int32) < 0) = False := eq_false (by decide)
theorem n150 : ((15 : Int32) < 0) = False := eq_false (by decide)
theorem z010 : ((0 : Int32) < 10) = True := eq_true (by decide)
theorem z015 : ((0 : Int32) < 15) = True := eq_true (by decide)
theorem c1110 : (10 : Int32) + 1 - 10 = 1 := by decide
theorem z15 : ((1 : Int32) < 5) = True := eq_true (by decide)
theorem c105 : (10 : Int32) + 5 = 15 := by decide
theorem zbig : ((2147483639 : Int32) < 15) = False := eq_false (by decide)
theorem z1510 : ((15 : Int32) < 10) = False := eq_false (by decide)
theorem i10n : (10 : Int32).toNatClampNeg = 10 := rfl
theorem i15n : (15 : Int32).toNatClampNeg = 15 := rfl
theorem i0n : (0 : Int32).toNatClampNeg = 0 := rfl
theorem sh10 : (10 : Int32) >>> ((1 : Int32) &&& 31) = 5 := by decide
theorem ac_t {p : Nat} : (ACond.eq = ACond.eq ↔ p = p) = True := eq_true ⟨fun _ => rfl, fun _ => rfl⟩
theorem ac_n {p : Nat} : (ACond.ne = ACond.eq ↔ p = p) = False := eq_false fun h => by have := h.mpr rfl; cases this
theorem acT : (ACond.eq = ACond.eq ↔ True) = True := eq_true ⟨fun _ => trivial, fun _ => rfl⟩
theorem acF : (ACond.ne = ACond.eq ↔ True) = False := eq_false fun h => by have := h.mpr trivial; cases this
theorem i32_eq {a b : Int32} (h : a.toInt = b.toInt) : a = b := Int32.toInt_inj.mp h
set_option maxHeartbeats 4000000 in
theorem sJx4a65c_grow0 {L D : Nat} {mc n : Int32} {h : Nat → Option Nat} (hE : EG g w) (hS : SG g) (hL : w L = some (.inr (3, [.int mc, .ref D, .int n]))) (hD : g.1 0 = .ref D ∧ w D = none ∧ g.2 D = some (.inl (5, 0, qc h))) (hn : n = 0) (hQ : ∀ q, rd g w q = none → Q (.inl (some (.ref q))) (upw (upw w q (.inl (5, 10, qc fun _ => none))) L (.inr (3, [.int mc, .ref q, .int n])))) : WP (MJx4a65c_grow_d5877 g) Q (0, [some (.ref L)], [], w, 0, 0) := by
  subst hn
  obtain ⟨d1, d2, d3⟩ := hD
  have rL : rd g w L = some (.inr (3, [.int mc, .ref D, .int 0])) := rd_e hL
  have rD : rd g w D = some (.inl (5, 0, qc h)) := by unfold rd; rw [d2]; exact d3
  simp only [eJx4a65c_grow_d5877_0, eJx4a65c_grow_d5877_0N, eJx4a65c_grow_d5877_1, eJx4a65c_grow_d5877_1N, eJx4a65c_grow_d5877_2, eJx4a65c_grow_d5877_5, eJx4a65c_grow_d5877_6, eJx4a65c_grow_d5877_7, eJx4a65c_grow_d5877_10, eJx4a65c_grow_92f84_0, eJx4a65c_grow_92f84_0N, eJx4a65c_grow_92f84_1, eJx4a65c_grow_92f84_4, eJx4a65c_grow_92f84_5, eJx4a65c_grow_92f84_6, eJx4a65c_grow_92f84_7, eJx4a65c_grow_92f84_10, eJx4a65c_grow_92f84_10N, eJx4a65c_grow_92f84_11, eJx4a65c_grow_92f84_14, eJx4a65c_grow_92f84_17, eJx4a65c_grow_92f84_20, eJx4a65c_grow_92f84_21, eJx4a65c_grow_92f84_22, eJx4a65c_grow_92f84_23, eJx4a65c_grow_92f84_24, eJx4a65c_grow_92f84_25, eJx4a65c_grow_92f84_26, eJx4a65c_grow_92f84_27, eJx4a65c_grow_92f84_30, eJx4a65c_grow_92f84_31, eJx4a65c_grow_92f84_31N, eJx4a65c_grow_92f84_32, eJx4a65c_grow_92f84_32N, eJx4a65c_grow_92f84_33, eJx4a65c_grow_92f84_36, eJx4a65c_grow_92f84_37R, eJx4a65c_grow_92f84_37N, eJx4a65c_grow_92f84_40IR, eJx4a65c_grow_92f84_40RR, eJx4a65c_grow_92f84_41, eJx4a65c_grow_92f84_44, eJx4a65c_grow_92f84_45, eJx4a65c_grow_92f84_45N, eJx4a65c_grow_92f84_46, eJx4a65c_grow_92f84_48, eJx4a65c_grow_92f84_49, eJx4a65c_grow_92f84_52, eJx4a65c_grow_92f84_55IR, eJx4a65c_grow_92f84_55RR, eJx4a65c_grow_92f84_56, eJx4a65c_grow_92f84_59, ite_le, n45, n54, true_or, or_true, false_or, or_false, false_and, and_false, kx_l, kx_r, go_s, gl_s, gi_s, gb_s2, gb_s3, gq_s, wt_nil, wt_int, wt_long, wt_ref, wt_null, nl_int, nl_long, nl_ref, nl_null, nl_none, rf_n, rf_s, rf_st, tl_s, tl_n, g0, gS, ex1, nb_b, nb_0, nb_1, nf_i, nf_l, nf_ra, nf_ro, nf_na, nf_no, nf_b0, nf_z0, t45_4, t45_5, true_and, and_true, List.set_cons_zero, List.set_cons_succ, List.length_cons, List.length_nil, rd_s, upw_s, ne_eq, not_false_eq_true, Nat.zero_add, Nat.add_zero, if_true, if_false, hL, rL, rD, d1, exal2, al56, cap0, ac_t, i10n, i0n, z00, z101, n100]
  repeat' first | with_reducible refine And.intro ?_ ?_ | omega
  intro q hq
  have hqL : L ≠ q := fun e => by
    have h2 := rd_none hq
    rw [← e, hL] at h2
    cases h2
  simp only [eJx4a65c_grow_d5877_0, eJx4a65c_grow_d5877_0N, eJx4a65c_grow_d5877_1, eJx4a65c_grow_d5877_1N, eJx4a65c_grow_d5877_2, eJx4a65c_grow_d5877_5, eJx4a65c_grow_d5877_6, eJx4a65c_grow_d5877_7, eJx4a65c_grow_d5877_10, eJx4a65c_grow_92f84_0, eJx4a65c_grow_92f84_0N, eJx4a65c_grow_92f84_1, eJx4a65c_grow_92f84_4, eJx4a65c_grow_92f84_5, eJx4a65c_grow_92f84_6, eJx4a65c_grow_92f84_7, eJx4a65c_grow_92f84_10, eJx4a65c_grow_92f84_10N, eJx4a65c_grow_92f84_11, eJx4a65c_grow_92f84_14, eJx4a65c_grow_92f84_17, eJx4a65c_grow_92f84_20, eJx4a65c_grow_92f84_21, eJx4a65c_grow_92f84_22, eJx4a65c_grow_92f84_23, eJx4a65c_grow_92f84_24, eJx4a65c_grow_92f84_25, eJx4a65c_grow_92f84_26, eJx4a65c_grow_92f84_27, eJx4a65c_grow_92f84_30, eJx4a65c_grow_92f84_31, eJx4a65c_grow_92f84_31N, eJx4a65c_grow_92f84_32, eJx4a65c_grow_92f84_32N, eJx4a65c_grow_92f84_33, eJx4a65c_grow_92f84_36, eJx4a65c_grow_92f84_37R, eJx4a65c_grow_92f84_37N, eJx4a65c_grow_92f84_40IR, eJx4a65c_grow_92f84_40RR, eJx4a65c_grow_92f84_41, eJx4a65c_grow_92f84_44, eJx4a65c_grow_92f84_45, eJx4a65c_grow_92f84_45N, eJx4a65c_grow_92f84_46, eJx4a65c_grow_92f84_48, eJx4a65c_grow_92f84_49, eJx4a65c_grow_92f84_52, eJx4a65c_grow_92f84_55IR, eJx4a65c_grow_92f84_55RR, eJx4a65c_grow_92f84_56, eJx4a65c_grow_92f84_59, ite_le, n45, n54, true_or, or_true, false_or, or_false, false_and, and_false, kx_l, kx_r, go_s, gl_s, gi_s, gb_s2, gb_s3, gq_s, wt_nil, wt_int, wt_long, wt_ref, wt_null, nl_int, nl_long, nl_ref, nl_null, nl_none, rf_n, rf_s, rf_st, tl_s, tl_n, g0, gS, ex1, nb_b, nb_0, nb_1, nf_i, nf_l, nf_ra, nf_ro, nf_na, nf_no, nf_b0, nf_z0, t45_4, t45_5, true_and, and_true, List.set_cons_zero, List.set_cons_succ, List.length_cons, List.length_nil, rd_s, upw_s, ne_eq, not_false_eq_true, Nat.zero_add, Nat.add_zero, if_true, if_false, hL, rL, hqL, upw_n, tyJx4a65c, nf_ra, rd_n]
  repeat' first | with_reducible refine And.intro ?_ ?_ | omega
  all_goals first | exact trivial | exact hQ q hq
set_option maxHeartbeats 4000000 in
theorem sJx4a65c_grow10 {L D : Nat} {mc n : Int32} {h : Nat → Option Nat} (hE : EG g w) (hS : SG g) (hL : w L = some (.inr (3, [.int mc, .ref D, .int n]))) (hD : w D = some (.inl (5, 10, qc h))) (hh : ∀ i b, h i = some b → isRow w b) (hn : n = 10) (hQ : ∀ q, rd g w q = none → Q (.inl (some (.ref q))) (upw (upw w q (.inl (5, 15, qc (va_cpy h (fun _ => none) 0 0 10)))) L (.inr (3, [.int mc, .ref q, .int n])))) : WP (MJx4a65c_grow_d5877 g) Q (0, [some (.ref L)], [], w, 0, 0) := by
  subst hn
  obtain ⟨⟨e, e1, e2, e3⟩, mi, hmi⟩ := hE
  obtain ⟨hs1, hs2, hs3⟩ := hS
  have rL : rd g w L = some (.inr (3, [.int mc, .ref D, .int 10])) := rd_e hL
  have rD : rd g w D = some (.inl (5, 10, qc h)) := rd_e hD
  simp only [eJx4a65c_grow_d5877_0, eJx4a65c_grow_d5877_0N, eJx4a65c_grow_d5877_1, eJx4a65c_grow_d5877_1N, eJx4a65c_grow_d5877_2, eJx4a65c_grow_d5877_5, eJx4a65c_grow_d5877_6, eJx4a65c_grow_d5877_7, eJx4a65c_grow_d5877_10, eJx4a65c_grow_92f84_0, eJx4a65c_grow_92f84_0N, eJx4a65c_grow_92f84_1, eJx4a65c_grow_92f84_4, eJx4a65c_grow_92f84_5, eJx4a65c_grow_92f84_6, eJx4a65c_grow_92f84_7, eJx4a65c_grow_92f84_10, eJx4a65c_grow_92f84_10N, eJx4a65c_grow_92f84_11, eJx4a65c_grow_92f84_14, eJx4a65c_grow_92f84_17, eJx4a65c_grow_92f84_20, eJx4a65c_grow_92f84_21, eJx4a65c_grow_92f84_22, eJx4a65c_grow_92f84_23, eJx4a65c_grow_92f84_24, eJx4a65c_grow_92f84_25, eJx4a65c_grow_92f84_26, eJx4a65c_grow_92f84_27, eJx4a65c_grow_92f84_30, eJx4a65c_grow_92f84_31, eJx4a65c_grow_92f84_31N, eJx4a65c_grow_92f84_32, eJx4a65c_grow_92f84_32N, eJx4a65c_grow_92f84_33, eJx4a65c_grow_92f84_36, eJx4a65c_grow_92f84_37R, eJx4a65c_grow_92f84_37N, eJx4a65c_grow_92f84_40IR, eJx4a65c_grow_92f84_40RR, eJx4a65c_grow_92f84_41, eJx4a65c_grow_92f84_44, eJx4a65c_grow_92f84_45, eJx4a65c_grow_92f84_45N, eJx4a65c_grow_92f84_46, eJx4a65c_grow_92f84_48, eJx4a65c_grow_92f84_49, eJx4a65c_grow_92f84_52, eJx4a65c_grow_92f84_55IR, eJx4a65c_grow_92f84_55RR, eJx4a65c_grow_92f84_56, eJx4a65c_grow_92f84_59, eJ8_newLength_cabcc_0, eJ8_newLength_cabcc_1, eJ8_newLength_cabcc_2, eJ8_newLength_cabcc_3, eJ8_newLength_cabcc_6, eJ8_newLength_cabcc_7, eJ8_newLength_cabcc_8, eJ8_newLength_cabcc_9, eJ8_newLength_cabcc_10, eJ8_newLength_cabcc_13, eJ8_newLength_cabcc_14, eJ8_newLength_cabcc_16, eJ8_newLength_cabcc_19, eJ8_newLength_cabcc_20, eJ8_newLength_cabcc_21, eJ8_newLength_cabcc_22, eJ8_newLength_cabcc_26, eJ7_copyOf_1904c_0, eJ7_copyOf_1904c_0N, eJ7_copyOf_1904c_1, eJ7_copyOf_1904c_2, eJ7_copyOf_1904c_2N, eJ7_copyOf_1904c_3, eJ7_copyOf_1904c_6RR, eJ7_copyOf_1904c_6NR, eJ7_copyOf_1904c_6RN, eJ7_copyOf_1904c_6NN, eJ7_copyOf_1904c_9, eJ7_copyOf_6403c_0, eJ7_copyOf_6403c_0N, eJ7_copyOf_6403c_1, eJ7_copyOf_6403c_3, eJ7_copyOf_6403c_6, eJ7_copyOf_6403c_7, eJ7_copyOf_6403c_10, eJ7_copyOf_6403c_13, eJ7_copyOf_6403c_13N, eJ7_copyOf_6403c_17, eJ7_copyOf_6403c_24, eJ7_copyOf_6403c_24N, eJ7_copyOf_6403c_25, eJ7_copyOf_6403c_25N, eJ7_copyOf_6403c_26, eJ7_copyOf_6403c_27, eJ7_copyOf_6403c_27N, eJ7_copyOf_6403c_28, eJ7_copyOf_6403c_29, eJ7_copyOf_6403c_29N, eJ7_copyOf_6403c_30, eJ7_copyOf_6403c_31, eJ7_copyOf_6403c_32, eJ7_copyOf_6403c_35O, eJ7_copyOf_6403c_35B, eJ7_copyOf_6403c_38, eJ7_copyOf_6403c_38N, eJ7_copyOf_6403c_39, ite_le, n45, n54, true_or, or_true, false_or, or_false, false_and, and_false, kx_l, kx_r, go_s, gl_s, gi_s, gb_s2, gb_s3, gq_s, wt_nil, wt_int, wt_long, wt_ref, wt_null, nl_int, nl_long, nl_ref, nl_null, nl_none, rf_n, rf_s, rf_st, tl_s, tl_n, g0, gS, ex1, nb_b, nb_0, nb_1, nf_i, nf_l, nf_ra, nf_ro, nf_na, nf_no, nf_b0, nf_z0, t45_4, t45_5, true_and, and_true, List.set_cons_zero, List.set_cons_succ, List.length_cons, List.length_nil, rd_s, upw_s, ne_eq, not_false_eq_true, Nat.zero_add, Nat.add_zero, if_true, if_false, hL, rL, rD, exal2, al56, cap10, sh10, hs2, hmi, ac_t, ac_n, acT, acF, i15n, i10n, i0n, z010, z015, c1110, z15, c105, zbig, n150, n100, eJ7_copyOf_1904c_3 hD]
  repeat' first | with_reducible refine And.intro ?_ ?_ | omega
  intro q hq
  have hqn := rd_none hq
  have hqL : L ≠ q := fun e => by
    rw [← e, hL] at hqn
    cases hqn
  have hqD : D ≠ q := fun e => by
    rw [← e, hD] at hqn
    cases hqn
  have hD2 : upw w q (.inl (5, 15, qc fun _ => none)) D = some (.inl (5, 10, qc h)) := by rw [upw_n hqD]; exact hD
  simp only [eJx4a65c_grow_d5877_0, eJx4a65c_grow_d5877_0N, eJx4a65c_grow_d5877_1, eJx4a65c_grow_d5877_1N, eJx4a65c_grow_d5877_2, eJx4a65c_grow_d5877_5, eJx4a65c_grow_d5877_6, eJx4a65c_grow_d5877_7, eJx4a65c_grow_d5877_10, eJx4a65c_grow_92f84_0, eJx4a65c_grow_92f84_0N, eJx4a65c_grow_92f84_1, eJx4a65c_grow_92f84_4, eJx4a65c_grow_92f84_5, eJx4a65c_grow_92f84_6, eJx4a65c_grow_92f84_7, eJx4a65c_grow_92f84_10, eJx4a65c_grow_92f84_10N, eJx4a65c_grow_92f84_11, eJx4a65c_grow_92f84_14, eJx4a65c_grow_92f84_17, eJx4a65c_grow_92f84_20, eJx4a65c_grow_92f84_21, eJx4a65c_grow_92f84_22, eJx4a65c_grow_92f84_23, eJx4a65c_grow_92f84_24, eJx4a65c_grow_92f84_25, eJx4a65c_grow_92f84_26, eJx4a65c_grow_92f84_27, eJx4a65c_grow_92f84_30, eJx4a65c_grow_92f84_31, eJx4a65c_grow_92f84_31N, eJx4a65c_grow_92f84_32, eJx4a65c_grow_92f84_32N, eJx4a65c_grow_92f84_33, eJx4a65c_grow_92f84_36, eJx4a65c_grow_92f84_37R, eJx4a65c_grow_92f84_37N, eJx4a65c_grow_92f84_40IR, eJx4a65c_grow_92f84_40RR, eJx4a65c_grow_92f84_41, eJx4a65c_grow_92f84_44, eJx4a65c_grow_92f84_45, eJx4a65c_grow_92f84_45N, eJx4a65c_grow_92f84_46, eJx4a65c_grow_92f84_48, eJx4a65c_grow_92f84_49, eJx4a65c_grow_92f84_52, eJx4a65c_grow_92f84_55IR, eJx4a65c_grow_92f84_55RR, eJx4a65c_grow_92f84_56, eJx4a65c_grow_92f84_59, eJ8_newLength_cabcc_0, eJ8_newLength_cabcc_1, eJ8_newLength_cabcc_2, eJ8_newLength_cabcc_3, eJ8_newLength_cabcc_6, eJ8_newLength_cabcc_7, eJ8_newLength_cabcc_8, eJ8_newLength_cabcc_9, eJ8_newLength_cabcc_10, eJ8_newLength_cabcc_13, eJ8_newLength_cabcc_14, eJ8_newLength_cabcc_16, eJ8_newLength_cabcc_19, eJ8_newLength_cabcc_20, eJ8_newLength_cabcc_21, eJ8_newLength_cabcc_22, eJ8_newLength_cabcc_26, eJ7_copyOf_1904c_0, eJ7_copyOf_1904c_0N, eJ7_copyOf_1904c_1, eJ7_copyOf_1904c_2, eJ7_copyOf_1904c_2N, eJ7_copyOf_1904c_3, eJ7_copyOf_1904c_6RR, eJ7_copyOf_1904c_6NR, eJ7_copyOf_1904c_6RN, eJ7_copyOf_1904c_6NN, eJ7_copyOf_1904c_9, eJ7_copyOf_6403c_0, eJ7_copyOf_6403c_0N, eJ7_copyOf_6403c_1, eJ7_copyOf_6403c_3, eJ7_copyOf_6403c_6, eJ7_copyOf_6403c_7, eJ7_copyOf_6403c_10, eJ7_copyOf_6403c_13, eJ7_copyOf_6403c_13N, eJ7_copyOf_6403c_17, eJ7_copyOf_6403c_24, eJ7_copyOf_6403c_24N, eJ7_copyOf_6403c_25, eJ7_copyOf_6403c_25N, eJ7_copyOf_6403c_26, eJ7_copyOf_6403c_27, eJ7_copyOf_6403c_27N, eJ7_copyOf_6403c_28, eJ7_copyOf_6403c_29, eJ7_copyOf_6403c_29N, eJ7_copyOf_6403c_30, eJ7_copyOf_6403c_31, eJ7_copyOf_6403c_32, eJ7_copyOf_6403c_35O, eJ7_copyOf_6403c_35B, eJ7_copyOf_6403c_38, eJ7_copyOf_6403c_38N, eJ7_copyOf_6403c_39, ite_le, n45, n54, true_or, or_true, false_or, or_false, false_and, and_false, kx_l, kx_r, go_s, gl_s, gi_s, gb_s2, gb_s3, gq_s, wt_nil, wt_int, wt_long, wt_ref, wt_null, nl_int, nl_long, nl_ref, nl_null, nl_none, rf_n, rf_s, rf_st, tl_s, tl_n, g0, gS, ex1, nb_b, nb_0, nb_1, nf_i, nf_l, nf_ra, nf_ro, nf_na, nf_no, nf_b0, nf_z0, t45_4, t45_5, true_and, and_true, List.set_cons_zero, List.set_cons_succ, List.length_cons, List.length_nil, rd_s, upw_s, ne_eq, not_false_eq_true, Nat.zero_add, Nat.add_zero, if_true, if_false, hL, rL, rD, hqL, hqD, upw_n, rd_n, exal2, al56, cap10, cap15, i15n, i10n, i0n, z1510, n100, n150, z00, tyJx4a65c, nf_ra, upw2q, eJ7_copyOf_6403c_35O hD2 (upw_s _ _ _)]
  repeat' first | with_reducible refine And.intro ?_ ?_ | omega
  · intro j y hj hy
    exact gl_Roww ((hh _ _ hy).ext (g := g) (ext_up2 ext.rf hq)) fun _ => trivial
  · repeat' first | exact trivial | exact hQ q hq | with_reducible refine And.intro ?_ ?_ | omega
end
end
/-! 61.list2.lean.txt -/
section
section
variable {g : RO} {Q : Ot → Hw → Prop} {w0 w : Hw}
/-- what an adding or a removing leaves -/
def LPo (g : RO) (w0 w' : Hw) (L D : Nat) (n' : Int32) (H : (Nat → Option Nat) → Prop) : Prop := ∃ (D' cap' : Nat) (h' : Nat → Option Nat), LL g w' L D' cap' n' h' ∧ (∀ i b, h' i = some b → isRow w' b) ∧ (∀ a o, w0 a = some o → a ≠ L → a ≠ D → w' a = some o) ∧ (∀ a o, g.2 a = some o → w0 a = none → w' a = none) ∧ (D' = D ∨ (w0 D' = none ∧ g.2 D' = none)) ∧ H h'
/-- a row with one more at its end; in its midst; with one less -/
def HAd (h : Nat → Option Nat) (n : Nat) (v : Option Nat) (h' : Nat → Option Nat) : Prop := (∀ j, j < n → h' j = h j) ∧ h' n = v
def HIn (h : Nat → Option Nat) (n i : Nat) (v : Option Nat) (h' : Nat → Option Nat) : Prop := (∀ j, j < i → h' j = h j) ∧ h' i = v ∧ ∀ j, i ≤ j → j < n → h' (j + 1) = h j
def HRm (h : Nat → Option Nat) (n i : Nat) (h' : Nat → Option Nat) : Prop := (∀ j, j < i → h' j = h j) ∧ ∀ j, i ≤ j → j + 1 < n → h' j = h (j + 1)
theorem va_up_s {h : Nat → Option Nat} {k : Nat} {v : Option Nat} : va_up h k v k = v := by
  unfold va_up
  split
  · rfl
  · next e => exact absurd rfl e
theorem va_up_o {h : Nat → Option Nat} {k j : Nat} {v : Option Nat} (e : j ≠ k) : va_up h k v j = h j := by
  unfold va_up
  split
  · omega
  · rfl
theorem cpy0 {h f : Nat → Option Nat} {z j : Nat} (hj : j < z) : va_cpy h f 0 0 z j = h j := by
  rw [pk_cpy_in (Nat.zero_le _) (by omega), Nat.sub_zero, Nat.zero_add]
theorem HAd.mk {h h2 : Nat → Option Nat} {n : Nat} {v : Option Nat} (k : ∀ j, j < n → h2 j = h j) : HAd h n v (va_up h2 n v) := ⟨fun j hj => by rw [va_up_o (by omega)]; exact k j hj, va_up_s⟩
theorem HIn.mk {h h2 : Nat → Option Nat} {n i i1 d : Nat} {v : Option Nat} (k : ∀ j, j < n → h2 j = h j) (hi : i ≤ n) (e1 : i1 = i + 1) (e2 : d = n - i) : HIn h n i v (va_up (va_cpy h2 h2 i i1 d) i v) := by
  refine ⟨fun j hj => ?_, va_up_s, fun j h1 h2 => ?_⟩
  · rw [va_up_o (by omega), pk_cpy_out (Or.inl (by omega))]
    exact k j (by omega)
  · rw [va_up_o (by omega), pk_cpy_in (by omega) (by omega), ← k j h2]
    congr 1
    omega
theorem HRm.mk1 {h : Nat → Option Nat} {n i i1 d m : Nat} (e1 : m + 1 = n) (hi : i < m) (e2 : i1 = i + 1) (e3 : d = m - i) : HRm h n i (va_up (va_cpy h h i1 i d) m none) := by
  refine ⟨fun j hj => ?_, fun j h1 h2 => ?_⟩
  · rw [va_up_o (by omega), pk_cpy_out (Or.inl (by omega))]
  · rw [va_up_o (by omega), pk_cpy_in (by omega) (by omega)]
    congr 1
    omega
theorem HRm.mk2 {h : Nat → Option Nat} {n i m : Nat} (e1 : m + 1 = n) (hi : m ≤ i) (hn : i < n) : HRm h n i (va_up h m none) := by
  refine ⟨fun j hj => ?_, fun j h1 h2 => ?_⟩
  · rw [va_up_o (by omega)]
  · omega
theorem LPom {w' : Hw} {L D D' cap' : Nat} {fs : List Value} {mc' n' : Int32} {h' : Nat → Option Nat} (h0 : w0 L = some (.inr (3, fs))) (hL' : w' L = some (.inr (3, [.int mc', .ref D', .int n']))) (hD' : w' D' = some (.inl (5, cap', qc h'))) (hc : cap' = 10 ∨ cap' = 15) (b0 : 0 ≤ n'.toInt) (b1 : n'.toInt ≤ (cap' : Int)) (hf : ∀ a, a ≠ L → a ≠ D' → w' a = w0 a) (hfr : (D' = D ∧ ∃ c z, w0 D = some (.inl (5, c, z))) ∨ (w0 D' = none ∧ g.2 D' = none)) (hr : ∀ i b, h' i = some b → isRow w0 b) {H : (Nat → Option Nat) → Prop} (hH : H h') : LPo g w0 w' L D n' H := by
  refine ⟨D', cap', h', ⟨⟨mc', hL'⟩, Or.inl ⟨hD', hc⟩, b0, b1⟩, ?_, ?_, ?_, ?_, hH⟩
  · intro i b hb
    obtain ⟨f, hrow⟩ := hr i b hb
    refine ⟨f, ?_⟩
    rw [hf]
    · exact hrow
    · rintro rfl
      rw [h0] at hrow
      cases hrow
    · rintro rfl
      rcases hfr with ⟨rfl, c, z, e⟩ | ⟨e, -⟩
      · rw [e] at hrow
        cases hrow
      · rw [e] at hrow
        cases hrow
  · intro a o ha n1 n2
    rw [hf a n1]
    · exact ha
    · rintro rfl
      rcases hfr with ⟨rfl, -⟩ | ⟨e, -⟩
      · exact n2 rfl
      · rw [e] at ha
        cases ha
  · intro a o ha hn
    rw [hf]
    · exact hn
    · rintro rfl
      rw [h0] at hn
      cases hn
    · rintro rfl
      rcases hfr with ⟨rfl, c, z, e⟩ | ⟨-, e⟩
      · rw [e] at hn
        cases hn
      · rw [e] at ha
        cases ha
  · rcases hfr with ⟨e, -⟩ | e
    · exact Or.inl e
    · exact Or.inr e
theorem va_up_row {h : Nat → Option Nat} {k : Nat} {v : Option Nat} (hr : ∀ i b, h i = some b → isRow w b) (hv : ∀ b, v = some b → isRow w b) : ∀ i b, va_up h k v i = some b → isRow w b := fun i b => by
  unfold va_up
  split
  · exact hv b
  · exact hr i b
theorem cpy_row {h h2 : Nat → Option Nat} {x y z : Nat} (hr : ∀ i b, h i = some b → isRow w b) (hv : ∀ i b, h2 i = some b → isRow w b) : ∀ i b, va_cpy h h2 x y z i = some b → isRow w b := fun i b => by
  unfold va_cpy
  split
  · exact hr _ b
  · exact hv i b
theorem i32p1 {c : Int32} (h0 : 0 ≤ c.toInt) (h : c.toInt ≤ 2000) : (c + 1).toInt = c.toInt + 1 := i32_add (by show -2147483648 ≤ c.toInt + 1; omega) (by show c.toInt + 1 ≤ 2147483647; omega)
theorem ofNc {N : Nat} (h : N ≤ 5000) : (Int32.ofNat N).toInt = (N : Int) := Int32.toInt_ofNat_of_lt (by omega)
set_option maxHeartbeats 4000000 in
theorem lJx4a65c_add_72be8_11R {L D D' cap b k m : Nat} {mc n : Int32} {fs0 : List Value} {h : Nat → Option Nat} {w1 : Hw} (hb : isRow w0 b) (h0 : w0 L = some (.inr (3, fs0))) (hL : w1 L = some (.inr (3, [.int mc, .ref D', .int n]))) (hD : w1 D' = some (.inl (5, cap, qc h))) (hc : cap = 10 ∨ cap = 15) (hf1 : ∀ a, a ≠ L → a ≠ D' → w1 a = w0 a) (hfr : (D' = D ∧ ∃ c z, w0 D = some (.inl (5, c, z))) ∨ (w0 D' = none ∧ g.2 D' = none)) (hr : ∀ i b, h i = some b → isRow w0 b) (hn0 : 0 ≤ n.toInt) (hn1 : n.toInt < (cap : Int)) (hk : k ≤ 1) (hm : m ≤ 15) {H : (Nat → Option Nat) → Prop} (hH : H (va_up h n.toNatClampNeg (some b))) (hQ : ∀ w', LPo g w0 w' L D (n + 1) H → Q (.inl none) w') : WP (MJx4a65c_add_72be8 g) Q (11, [some (.ref L), some (.ref b), some (.ref D'), some (.int n)], [], w1, k, m) := by
  have iv : vp_in n cap := vpiM hn0 hn1
  have hLD : L ≠ D' := fun e => by
    rw [e, hD] at hL
    cases hL
  have e1 := i32p1 hn0 (by omega)
  have hbD : ∀ f0, w0 b = some (.inl (0, 4, .inr (.inl f0))) → b ≠ D' := fun f0 hrow e => by
    subst e
    rcases hfr with ⟨rfl, c, z, e⟩ | ⟨e, -⟩
    · rw [e] at hrow
      cases hrow
    · rw [e] at hrow
      cases hrow
  have hbw : isRow w1 b := by
    obtain ⟨f0, hrow⟩ := hb
    refine ⟨f0, ?_⟩
    rw [hf1]
    · exact hrow
    · rintro rfl
      rw [h0] at hrow
      cases hrow
    · exact hbD f0 hrow
  simp only [eJx4a65c_add_72be8_11, eJx4a65c_add_72be8_11N, eJx4a65c_add_72be8_12, eJx4a65c_add_72be8_13, eJx4a65c_add_72be8_13N, eJx4a65c_add_72be8_14N, eJx4a65c_add_72be8_14R, eJx4a65c_add_72be8_15, eJx4a65c_add_72be8_15N, eJx4a65c_add_72be8_16, eJx4a65c_add_72be8_17, eJx4a65c_add_72be8_18, eJx4a65c_add_72be8_19, eJx4a65c_add_72be8_22, ite_le, n45, n54, true_or, or_true, false_or, or_false, false_and, and_false, kx_l, kx_r, go_s, gl_s, gi_s, gb_s2, gb_s3, gq_s, wt_nil, wt_int, wt_long, wt_ref, wt_null, nl_int, nl_long, nl_ref, nl_null, nl_none, rf_n, rf_s, rf_st, tl_s, tl_n, g0, gS, ex1, nb_b, nb_0, nb_1, nf_i, nf_l, nf_ra, nf_ro, nf_na, nf_no, nf_b0, nf_z0, t45_4, t45_5, true_and, and_true, List.set_cons_zero, List.set_cons_succ, List.length_cons, List.length_nil, rd_s, upw_s, ne_eq, not_false_eq_true, Nat.zero_add, Nat.add_zero, if_true, if_false, eq_self, hL, hD, hLD, hLD.symm, upw_n, al56]
  repeat' first
    | with_reducible assumption
    | with_reducible refine And.intro ?_ ?_
    | with_reducible refine Or.inr ?_
    | with_reducible exact gl_Roww hbw (fun _ => trivial)
    | with_reducible exact trivial
    | omega
  refine hQ _ (LPom (D' := D') (cap' := cap) (mc' := mc) h0 (upw_s _ _ _) (by rw [upw_n hLD.symm]; exact upw_s _ _ _) hc (by omega) (by omega) (fun a n1 n2 => by rw [upw_n n1, upw_n n2]; exact hf1 a n1 n2) hfr (va_up_row hr (fun b0 e => by
    cases e
    exact hb)) hH)
set_option maxHeartbeats 4000000 in
theorem sJx4a65c_add_72be8R {L D cap b : Nat} {n : Int32} {fs0 : List Value} {h : Nat → Option Nat} (hb : isRow w0 b) (hE : EG g w) (hS : SG g) (hl : LL g w L D cap n h) (hr : ∀ i b, h i = some b → isRow w0 b) (hrw : ∀ i b, h i = some b → isRow w b) (h0 : w0 L = some (.inr (3, fs0))) (hf0 : ∀ a, a ≠ L → w a = w0 a) (hn : n.toInt < 15) (hQ : ∀ w', LPo g w0 w' L D (n + 1) (HAd h n.toNatClampNeg (some b)) → Q (.inl none) w') : WP (MJx4a65c_add_72be8 g) Q (0, [some (.ref L), some (.ref b), some (.ref D), some (.int n)], [], w, 0, 0) := by
  obtain ⟨mc, hL, rL, rD, hn0, hn1, n1, n2⟩ := hl.opn
  have eN := ofNc (N := cap) (by
    rcases hl.2.1 with ⟨-, e | e⟩ | ⟨e, -⟩ <;> omega)
  simp only [eJx4a65c_add_72be8_0, eJx4a65c_add_72be8_1, eJx4a65c_add_72be8_1N, eJx4a65c_add_72be8_2, eJx4a65c_add_72be8_3, ite_le, n45, n54, true_or, or_true, false_or, or_false, false_and, and_false, kx_l, kx_r, go_s, gl_s, gi_s, gb_s2, gb_s3, gq_s, wt_nil, wt_int, wt_long, wt_ref, wt_null, nl_int, nl_long, nl_ref, nl_null, nl_none, rf_n, rf_s, rf_st, tl_s, tl_n, g0, gS, ex1, nb_b, nb_0, nb_1, nf_i, nf_l, nf_ra, nf_ro, nf_na, nf_no, nf_b0, nf_z0, t45_4, t45_5, true_and, and_true, List.set_cons_zero, List.set_cons_succ, List.length_cons, List.length_nil, rd_s, upw_s, ne_eq, not_false_eq_true, Nat.zero_add, Nat.add_zero, if_true, if_false, eq_self, rL, rD, exal2, al56]
  split
  · next he =>
    have he : n.toInt = (cap : Int) := by rw [he, eN]
    simp only [eJx4a65c_add_72be8_6, eJx4a65c_add_72be8_6N, eJx4a65c_add_72be8_7, ite_le, n45, n54, true_or, or_true, false_or, or_false, false_and, and_false, kx_l, kx_r, go_s, gl_s, gi_s, gb_s2, gb_s3, gq_s, wt_nil, wt_int, wt_long, wt_ref, wt_null, nl_int, nl_long, nl_ref, nl_null, nl_none, rf_n, rf_s, rf_st, tl_s, tl_n, g0, gS, ex1, nb_b, nb_0, nb_1, nf_i, nf_l, nf_ra, nf_ro, nf_na, nf_no, nf_b0, nf_z0, t45_4, t45_5, true_and, and_true, List.set_cons_zero, List.set_cons_succ, List.length_cons, List.length_nil, rd_s, upw_s, ne_eq, not_false_eq_true, Nat.zero_add, Nat.add_zero, if_true, if_false, eq_self, rL]
    repeat' first | with_reducible refine And.intro ?_ ?_ | omega
    obtain ⟨-, h2, -, -⟩ := hl
    rcases h2 with ⟨h2, rfl | rfl⟩ | ⟨rfl, d1, d2, d3⟩
    · have n10 : n = 10 := Int32.toInt_inj.mp (by rw [he]; rfl)
      refine sJx4a65c_grow10 hE hS hL h2 hrw n10 (fun q hq => ?_)
      have hqn := rd_none hq
      have hqL : q ≠ L := fun e => by
        rw [e, hL] at hqn
        cases hqn
      simp only [eJx4a65c_add_72be8_10, eJx4a65c_add_72be8_10N, ite_le, n45, n54, true_or, or_true, false_or, or_false, false_and, and_false, kx_l, kx_r, go_s, gl_s, gi_s, gb_s2, gb_s3, gq_s, wt_nil, wt_int, wt_long, wt_ref, wt_null, nl_int, nl_long, nl_ref, nl_null, nl_none, rf_n, rf_s, rf_st, tl_s, tl_n, g0, gS, ex1, nb_b, nb_0, nb_1, nf_i, nf_l, nf_ra, nf_ro, nf_na, nf_no, nf_b0, nf_z0, t45_4, t45_5, true_and, and_true, List.set_cons_zero, List.set_cons_succ, List.length_cons, List.length_nil, rd_s, upw_s, ne_eq, not_false_eq_true, Nat.zero_add, Nat.add_zero, if_true, if_false, eq_self]
      exact lJx4a65c_add_72be8_11R (D' := q) (cap := 15) hb h0 (upw_s _ _ _) (by rw [upw_n hqL]; exact upw_s _ _ _) (Or.inr rfl) (fun a a1 a2 => by rw [upw_n a1, upw_n a2]; exact hf0 a a1) (Or.inr ⟨by rw [← hf0 q hqL]; exact hqn, rd_ro hq⟩) (cpy_row hr (fun _ _ e => by cases e)) hn0 (by omega) (by decide) (by decide) (HAd.mk (fun j hj => cpy0 (by have t : n.toNatClampNeg = n.toInt.toNat := rfl; omega))) hQ
    · omega
    · have n00 : n = 0 := Int32.toInt_inj.mp (by rw [he]; rfl)
      refine sJx4a65c_grow0 hE hS hL ⟨d1, d2, d3⟩ n00 (fun q hq => ?_)
      have hqn := rd_none hq
      have hqL : q ≠ L := fun e => by
        rw [e, hL] at hqn
        cases hqn
      simp only [eJx4a65c_add_72be8_10, eJx4a65c_add_72be8_10N, ite_le, n45, n54, true_or, or_true, false_or, or_false, false_and, and_false, kx_l, kx_r, go_s, gl_s, gi_s, gb_s2, gb_s3, gq_s, wt_nil, wt_int, wt_long, wt_ref, wt_null, nl_int, nl_long, nl_ref, nl_null, nl_none, rf_n, rf_s, rf_st, tl_s, tl_n, g0, gS, ex1, nb_b, nb_0, nb_1, nf_i, nf_l, nf_ra, nf_ro, nf_na, nf_no, nf_b0, nf_z0, t45_4, t45_5, true_and, and_true, List.set_cons_zero, List.set_cons_succ, List.length_cons, List.length_nil, rd_s, upw_s, ne_eq, not_false_eq_true, Nat.zero_add, Nat.add_zero, if_true, if_false, eq_self]
      exact lJx4a65c_add_72be8_11R (D' := q) (cap := 10) hb h0 (upw_s _ _ _) (by rw [upw_n hqL]; exact upw_s _ _ _) (Or.inl rfl) (fun a a1 a2 => by rw [upw_n a1, upw_n a2]; exact hf0 a a1) (Or.inr ⟨by rw [← hf0 q hqL]; exact hqn, rd_ro hq⟩) (fun _ _ e => by cases e) hn0 (by omega) (by decide) (by decide) (HAd.mk (fun j hj => by have t : n.toNatClampNeg = n.toInt.toNat := rfl; exfalso; omega)) hQ
  · next he =>
    have he : n.toInt ≠ (cap : Int) := fun e => he (Int32.toInt_inj.mp (by rw [e, eN]))
    obtain ⟨-, h2, -, -⟩ := hl
    rcases h2 with ⟨h2, h3⟩ | ⟨rfl, -⟩
    · exact lJx4a65c_add_72be8_11R (D' := D) hb h0 hL h2 h3 (fun a a1 _ => hf0 a a1) (Or.inl ⟨rfl, cap, _, by rw [← hf0 D n2]; exact h2⟩) hr hn0 (by omega) (by decide) (by decide) (HAd.mk (fun _ _ => rfl)) hQ
    · omega
set_option maxHeartbeats 4000000 in
theorem sJx4a65c_add_9ea2dR {L D cap b : Nat} {n : Int32} {h : Nat → Option Nat} (hb : isRow w b) (hE : EG g w) (hS : SG g) (hl : LL g w L D cap n h) (hr : ∀ i b, h i = some b → isRow w b) (hn : n.toInt < 15) (hQ : ∀ w', LPo g w w' L D (n + 1) (HAd h n.toNatClampNeg (some b)) → Q (.inl (some (.int 1))) w') : WP (MJx4a65c_add_9ea2d g) Q (0, [some (.ref L), some (.ref b)], [], w, 0, 0) := by
  obtain ⟨mc, hL, rL, rD, hn0, hn1, n1, n2⟩ := hl.opn
  have hE1 : EG g (upw w L (.inr (3, [.int (mc + 1), .ref D, .int n]))) := by
    obtain ⟨⟨e, e1, e2, e3⟩, m⟩ := hE
    refine ⟨⟨e, e1, e2, ?_⟩, m⟩
    rw [upw_n]
    · exact e3
    · rintro rfl
      rw [hL] at e3
      cases e3
  have hl1 : LL g (upw w L (.inr (3, [.int (mc + 1), .ref D, .int n]))) L D cap n h := by
    obtain ⟨-, h2, h3, h4⟩ := hl
    refine ⟨⟨mc + 1, upw_s _ _ _⟩, ?_, h3, h4⟩
    rw [upw_n n2]
    exact h2
  simp only [eJx4a65c_add_9ea2d_0, eJx4a65c_add_9ea2d_0N, eJx4a65c_add_9ea2d_1, eJx4a65c_add_9ea2d_1R, eJx4a65c_add_9ea2d_2, eJx4a65c_add_9ea2d_5, eJx4a65c_add_9ea2d_6, eJx4a65c_add_9ea2d_7, eJx4a65c_add_9ea2d_10, eJx4a65c_add_9ea2d_10N, eJx4a65c_add_9ea2d_11, eJx4a65c_add_9ea2d_11N, eJx4a65c_add_9ea2d_12, eJx4a65c_add_9ea2d_12N, eJx4a65c_add_9ea2d_13, eJx4a65c_add_9ea2d_16, eJx4a65c_add_9ea2d_16N, eJx4a65c_add_9ea2d_17, eJx4a65c_add_9ea2d_20RR, eJx4a65c_add_9ea2d_20NR, eJx4a65c_add_9ea2d_20RN, eJx4a65c_add_9ea2d_20NN, ite_le, n45, n54, true_or, or_true, false_or, or_false, false_and, and_false, kx_l, kx_r, go_s, gl_s, gi_s, gb_s2, gb_s3, gq_s, wt_nil, wt_int, wt_long, wt_ref, wt_null, nl_int, nl_long, nl_ref, nl_null, nl_none, rf_n, rf_s, rf_st, tl_s, tl_n, g0, gS, ex1, nb_b, nb_0, nb_1, nf_i, nf_l, nf_ra, nf_ro, nf_na, nf_no, nf_b0, nf_z0, t45_4, t45_5, true_and, and_true, List.set_cons_zero, List.set_cons_succ, List.length_cons, List.length_nil, rd_s, upw_s, ne_eq, not_false_eq_true, Nat.zero_add, Nat.add_zero, if_true, if_false, eq_self, rL, hL]
  repeat' first | with_reducible refine And.intro ?_ ?_ | omega
  refine sJx4a65c_add_72be8R (w0 := w) hb hE1 hS hl1 hr (fun i b hb => isRow_up (hr i b hb) hL (fun z e => by cases e)) hL (fun a ha => upw_n ha) hn (fun w' z => ?_)
  simp only [eJx4a65c_add_9ea2d_23, eJx4a65c_add_9ea2d_24, ite_le, n45, n54, true_or, or_true, false_or, or_false, false_and, and_false, kx_l, kx_r, go_s, gl_s, gi_s, gb_s2, gb_s3, gq_s, wt_nil, wt_int, wt_long, wt_ref, wt_null, nl_int, nl_long, nl_ref, nl_null, nl_none, rf_n, rf_s, rf_st, tl_s, tl_n, g0, gS, ex1, nb_b, nb_0, nb_1, nf_i, nf_l, nf_ra, nf_ro, nf_na, nf_no, nf_b0, nf_z0, t45_4, t45_5, true_and, and_true, List.set_cons_zero, List.set_cons_succ, List.length_cons, List.length_nil, rd_s, upw_s, ne_eq, not_false_eq_true, Nat.zero_add, Nat.add_zero, if_true, if_false, eq_self]
  repeat' first | with_reducible refine And.intro ?_ ?_ | omega
  all_goals exact hQ _ z
set_option maxHeartbeats 4000000 in
theorem lJx4a65c_add_72be8_11N {L D D' cap k m : Nat} {mc n : Int32} {fs0 : List Value} {h : Nat → Option Nat} {w1 : Hw} (h0 : w0 L = some (.inr (3, fs0))) (hL : w1 L = some (.inr (3, [.int mc, .ref D', .int n]))) (hD : w1 D' = some (.inl (5, cap, qc h))) (hc : cap = 10 ∨ cap = 15) (hf1 : ∀ a, a ≠ L → a ≠ D' → w1 a = w0 a) (hfr : (D' = D ∧ ∃ c z, w0 D = some (.inl (5, c, z))) ∨ (w0 D' = none ∧ g.2 D' = none)) (hr : ∀ i b, h i = some b → isRow w0 b) (hn0 : 0 ≤ n.toInt) (hn1 : n.toInt < (cap : Int)) (hk : k ≤ 1) (hm : m ≤ 15) {H : (Nat → Option Nat) → Prop} (hH : H (va_up h n.toNatClampNeg none)) (hQ : ∀ w', LPo g w0 w' L D (n + 1) H → Q (.inl none) w') : WP (MJx4a65c_add_72be8 g) Q (11, [some (.ref L), some .null, some (.ref D'), some (.int n)], [], w1, k, m) := by
  have iv : vp_in n cap := vpiM hn0 hn1
  have hLD : L ≠ D' := fun e => by
    rw [e, hD] at hL
    cases hL
  have e1 := i32p1 hn0 (by omega)
  simp only [eJx4a65c_add_72be8_11, eJx4a65c_add_72be8_11N, eJx4a65c_add_72be8_12, eJx4a65c_add_72be8_13, eJx4a65c_add_72be8_13N, eJx4a65c_add_72be8_14N, eJx4a65c_add_72be8_14R, eJx4a65c_add_72be8_15, eJx4a65c_add_72be8_15N, eJx4a65c_add_72be8_16, eJx4a65c_add_72be8_17, eJx4a65c_add_72be8_18, eJx4a65c_add_72be8_19, eJx4a65c_add_72be8_22, ite_le, n45, n54, true_or, or_true, false_or, or_false, false_and, and_false, kx_l, kx_r, go_s, gl_s, gi_s, gb_s2, gb_s3, gq_s, wt_nil, wt_int, wt_long, wt_ref, wt_null, nl_int, nl_long, nl_ref, nl_null, nl_none, rf_n, rf_s, rf_st, tl_s, tl_n, g0, gS, ex1, nb_b, nb_0, nb_1, nf_i, nf_l, nf_ra, nf_ro, nf_na, nf_no, nf_b0, nf_z0, t45_4, t45_5, true_and, and_true, List.set_cons_zero, List.set_cons_succ, List.length_cons, List.length_nil, rd_s, upw_s, ne_eq, not_false_eq_true, Nat.zero_add, Nat.add_zero, if_true, if_false, eq_self, hL, hD, hLD, hLD.symm, upw_n, al56]
  repeat' first
    | with_reducible assumption
    | with_reducible refine And.intro ?_ ?_
    | with_reducible exact trivial
    | omega
  refine hQ _ (LPom (D' := D') (cap' := cap) (mc' := mc) h0 (upw_s _ _ _) (by rw [upw_n hLD.symm]; exact upw_s _ _ _) hc (by omega) (by omega) (fun a n1 n2 => by rw [upw_n n1, upw_n n2]; exact hf1 a n1 n2) hfr (va_up_row hr (fun b0 e => by cases e)) hH)
set_option maxHeartbeats 4000000 in
theorem sJx4a65c_add_72be8N {L D cap : Nat} {n : Int32} {fs0 : List Value} {h : Nat → Option Nat} (hE : EG g w) (hS : SG g) (hl : LL g w L D cap n h) (hr : ∀ i b, h i = some b → isRow w0 b) (hrw : ∀ i b, h i = some b → isRow w b) (h0 : w0 L = some (.inr (3, fs0))) (hf0 : ∀ a, a ≠ L → w a = w0 a) (hn : n.toInt < 15) (hQ : ∀ w', LPo g w0 w' L D (n + 1) (HAd h n.toNatClampNeg none) → Q (.inl none) w') : WP (MJx4a65c_add_72be8 g) Q (0, [some (.ref L), some .null, some (.ref D), some (.int n)], [], w, 0, 0) := by
  obtain ⟨mc, hL, rL, rD, hn0, hn1, n1, n2⟩ := hl.opn
  have eN := ofNc (N := cap) (by
    rcases hl.2.1 with ⟨-, e | e⟩ | ⟨e, -⟩ <;> omega)
  simp only [eJx4a65c_add_72be8_0, eJx4a65c_add_72be8_1, eJx4a65c_add_72be8_1N, eJx4a65c_add_72be8_2, eJx4a65c_add_72be8_3, ite_le, n45, n54, true_or, or_true, false_or, or_false, false_and, and_false, kx_l, kx_r, go_s, gl_s, gi_s, gb_s2, gb_s3, gq_s, wt_nil, wt_int, wt_long, wt_ref, wt_null, nl_int, nl_long, nl_ref, nl_null, nl_none, rf_n, rf_s, rf_st, tl_s, tl_n, g0, gS, ex1, nb_b, nb_0, nb_1, nf_i, nf_l, nf_ra, nf_ro, nf_na, nf_no, nf_b0, nf_z0, t45_4, t45_5, true_and, and_true, List.set_cons_zero, List.set_cons_succ, List.length_cons, List.length_nil, rd_s, upw_s, ne_eq, not_false_eq_true, Nat.zero_add, Nat.add_zero, if_true, if_false, eq_self, rL, rD, exal2, al56]
  split
  · next he =>
    have he : n.toInt = (cap : Int) := by rw [he, eN]
    simp only [eJx4a65c_add_72be8_6, eJx4a65c_add_72be8_6N, eJx4a65c_add_72be8_7, ite_le, n45, n54, true_or, or_true, false_or, or_false, false_and, and_false, kx_l, kx_r, go_s, gl_s, gi_s, gb_s2, gb_s3, gq_s, wt_nil, wt_int, wt_long, wt_ref, wt_null, nl_int, nl_long, nl_ref, nl_null, nl_none, rf_n, rf_s, rf_st, tl_s, tl_n, g0, gS, ex1, nb_b, nb_0, nb_1, nf_i, nf_l, nf_ra, nf_ro, nf_na, nf_no, nf_b0, nf_z0, t45_4, t45_5, true_and, and_true, List.set_cons_zero, List.set_cons_succ, List.length_cons, List.length_nil, rd_s, upw_s, ne_eq, not_false_eq_true, Nat.zero_add, Nat.add_zero, if_true, if_false, eq_self, rL]
    repeat' first | with_reducible refine And.intro ?_ ?_ | omega
    obtain ⟨-, h2, -, -⟩ := hl
    rcases h2 with ⟨h2, rfl | rfl⟩ | ⟨rfl, d1, d2, d3⟩
    · have n10 : n = 10 := Int32.toInt_inj.mp (by rw [he]; rfl)
      refine sJx4a65c_grow10 hE hS hL h2 hrw n10 (fun q hq => ?_)
      have hqn := rd_none hq
      have hqL : q ≠ L := fun e => by
        rw [e, hL] at hqn
        cases hqn
      simp only [eJx4a65c_add_72be8_10, eJx4a65c_add_72be8_10N, ite_le, n45, n54, true_or, or_true, false_or, or_false, false_and, and_false, kx_l, kx_r, go_s, gl_s, gi_s, gb_s2, gb_s3, gq_s, wt_nil, wt_int, wt_long, wt_ref, wt_null, nl_int, nl_long, nl_ref, nl_null, nl_none, rf_n, rf_s, rf_st, tl_s, tl_n, g0, gS, ex1, nb_b, nb_0, nb_1, nf_i, nf_l, nf_ra, nf_ro, nf_na, nf_no, nf_b0, nf_z0, t45_4, t45_5, true_and, and_true, List.set_cons_zero, List.set_cons_succ, List.length_cons, List.length_nil, rd_s, upw_s, ne_eq, not_false_eq_true, Nat.zero_add, Nat.add_zero, if_true, if_false, eq_self]
      exact lJx4a65c_add_72be8_11N (D' := q) (cap := 15) h0 (upw_s _ _ _) (by rw [upw_n hqL]; exact upw_s _ _ _) (Or.inr rfl) (fun a a1 a2 => by rw [upw_n a1, upw_n a2]; exact hf0 a a1) (Or.inr ⟨by rw [← hf0 q hqL]; exact hqn, rd_ro hq⟩) (cpy_row hr (fun _ _ e => by cases e)) hn0 (by omega) (by decide) (by decide) (HAd.mk (fun j hj => cpy0 (by have t : n.toNatClampNeg = n.toInt.toNat := rfl; omega))) hQ
    · omega
    · have n00 : n = 0 := Int32.toInt_inj.mp (by rw [he]; rfl)
      refine sJx4a65c_grow0 hE hS hL ⟨d1, d2, d3⟩ n00 (fun q hq => ?_)
      have hqn := rd_none hq
      have hqL : q ≠ L := fun e => by
        rw [e, hL] at hqn
        cases hqn
      simp only [eJx4a65c_add_72be8_10, eJx4a65c_add_72be8_10N, ite_le, n45, n54, true_or, or_true, false_or, or_false, false_and, and_false, kx_l, kx_r, go_s, gl_s, gi_s, gb_s2, gb_s3, gq_s, wt_nil, wt_int, wt_long, wt_ref, wt_null, nl_int, nl_long, nl_ref, nl_null, nl_none, rf_n, rf_s, rf_st, tl_s, tl_n, g0, gS, ex1, nb_b, nb_0, nb_1, nf_i, nf_l, nf_ra, nf_ro, nf_na, nf_no, nf_b0, nf_z0, t45_4, t45_5, true_and, and_true, List.set_cons_zero, List.set_cons_succ, List.length_cons, List.length_nil, rd_s, upw_s, ne_eq, not_false_eq_true, Nat.zero_add, Nat.add_zero, if_true, if_false, eq_self]
      exact lJx4a65c_add_72be8_11N (D' := q) (cap := 10) h0 (upw_s _ _ _) (by rw [upw_n hqL]; exact upw_s _ _ _) (Or.inl rfl) (fun a a1 a2 => by rw [upw_n a1, upw_n a2]; exact hf0 a a1) (Or.inr ⟨by rw [← hf0 q hqL]; exact hqn, rd_ro hq⟩) (fun _ _ e => by cases e) hn0 (by omega) (by decide) (by decide) (HAd.mk (fun j hj => by have t : n.toNatClampNeg = n.toInt.toNat := rfl; exfalso; omega)) hQ
  · next he =>
    have he : n.toInt ≠ (cap : Int) := fun e => he (Int32.toInt_inj.mp (by rw [e, eN]))
    obtain ⟨-, h2, -, -⟩ := hl
    rcases h2 with ⟨h2, h3⟩ | ⟨rfl, -⟩
    · exact lJx4a65c_add_72be8_11N (D' := D) h0 hL h2 h3 (fun a a1 _ => hf0 a a1) (Or.inl ⟨rfl, cap, _, by rw [← hf0 D n2]; exact h2⟩) hr hn0 (by omega) (by decide) (by decide) (HAd.mk (fun _ _ => rfl)) hQ
    · omega
set_option maxHeartbeats 4000000 in
theorem sJx4a65c_add_9ea2dN {L D cap : Nat} {n : Int32} {h : Nat → Option Nat} (hE : EG g w) (hS : SG g) (hl : LL g w L D cap n h) (hr : ∀ i b, h i = some b → isRow w b) (hn : n.toInt < 15) (hQ : ∀ w', LPo g w w' L D (n + 1) (HAd h n.toNatClampNeg none) → Q (.inl (some (.int 1))) w') : WP (MJx4a65c_add_9ea2d g) Q (0, [some (.ref L), some .null], [], w, 0, 0) := by
  obtain ⟨mc, hL, rL, rD, hn0, hn1, n1, n2⟩ := hl.opn
  have hE1 : EG g (upw w L (.inr (3, [.int (mc + 1), .ref D, .int n]))) := by
    obtain ⟨⟨e, e1, e2, e3⟩, m⟩ := hE
    refine ⟨⟨e, e1, e2, ?_⟩, m⟩
    rw [upw_n]
    · exact e3
    · rintro rfl
      rw [hL] at e3
      cases e3
  have hl1 : LL g (upw w L (.inr (3, [.int (mc + 1), .ref D, .int n]))) L D cap n h := by
    obtain ⟨-, h2, h3, h4⟩ := hl
    refine ⟨⟨mc + 1, upw_s _ _ _⟩, ?_, h3, h4⟩
    rw [upw_n n2]
    exact h2
  simp only [eJx4a65c_add_9ea2d_0, eJx4a65c_add_9ea2d_0N, eJx4a65c_add_9ea2d_1, eJx4a65c_add_9ea2d_1R, eJx4a65c_add_9ea2d_2, eJx4a65c_add_9ea2d_5, eJx4a65c_add_9ea2d_6, eJx4a65c_add_9ea2d_7, eJx4a65c_add_9ea2d_10, eJx4a65c_add_9ea2d_10N, eJx4a65c_add_9ea2d_11, eJx4a65c_add_9ea2d_11N, eJx4a65c_add_9ea2d_12, eJx4a65c_add_9ea2d_12N, eJx4a65c_add_9ea2d_13, eJx4a65c_add_9ea2d_16, eJx4a65c_add_9ea2d_16N, eJx4a65c_add_9ea2d_17, eJx4a65c_add_9ea2d_20RR, eJx4a65c_add_9ea2d_20NR, eJx4a65c_add_9ea2d_20RN, eJx4a65c_add_9ea2d_20NN, ite_le, n45, n54, true_or, or_true, false_or, or_false, false_and, and_false, kx_l, kx_r, go_s, gl_s, gi_s, gb_s2, gb_s3, gq_s, wt_nil, wt_int, wt_long, wt_ref, wt_null, nl_int, nl_long, nl_ref, nl_null, nl_none, rf_n, rf_s, rf_st, tl_s, tl_n, g0, gS, ex1, nb_b, nb_0, nb_1, nf_i, nf_l, nf_ra, nf_ro, nf_na, nf_no, nf_b0, nf_z0, t45_4, t45_5, true_and, and_true, List.set_cons_zero, List.set_cons_succ, List.length_cons, List.length_nil, rd_s, upw_s, ne_eq, not_false_eq_true, Nat.zero_add, Nat.add_zero, if_true, if_false, eq_self, rL, hL]
  repeat' first | with_reducible refine And.intro ?_ ?_ | omega
  refine sJx4a65c_add_72be8N (w0 := w) hE1 hS hl1 hr (fun i b hb => isRow_up (hr i b hb) hL (fun z e => by cases e)) hL (fun a ha => upw_n ha) hn (fun w' z => ?_)
  simp only [eJx4a65c_add_9ea2d_23, eJx4a65c_add_9ea2d_24, ite_le, n45, n54, true_or, or_true, false_or, or_false, false_and, and_false, kx_l, kx_r, go_s, gl_s, gi_s, gb_s2, gb_s3, gq_s, wt_nil, wt_int, wt_long, wt_ref, wt_null, nl_int, nl_long, nl_ref, nl_null, nl_none, rf_n, rf_s, rf_st, tl_s, tl_n, g0, gS, ex1, nb_b, nb_0, nb_1, nf_i, nf_l, nf_ra, nf_ro, nf_na, nf_no, nf_b0, nf_z0, t45_4, t45_5, true_and, and_true, List.set_cons_zero, List.set_cons_succ, List.length_cons, List.length_nil, rd_s, upw_s, ne_eq, not_false_eq_true, Nat.zero_add, Nat.add_zero, if_true, if_false, eq_self]
  repeat' first | with_reducible refine And.intro ?_ ?_ | omega
  all_goals exact hQ _ z
end
end
/-! 61.list3.lean.txt -/
section
section
variable {g : RO} {Q : Ot → Hw → Prop} {w0 w : Hw}
set_option maxHeartbeats 4000000 in
theorem lJx4a65c_add_7a177_38R {L D D' cap b k m : Nat} {mc n i : Int32} {fs0 : List Value} {h : Nat → Option Nat} {w1 : Hw} (hb : isRow w0 b) (hbw : isRow w1 b) (h0 : w0 L = some (.inr (3, fs0))) (hL : w1 L = some (.inr (3, [.int mc, .ref D', .int n]))) (hD : w1 D' = some (.inl (5, cap, qc h))) (hc : cap = 10 ∨ cap = 15) (hf1 : ∀ a, a ≠ L → a ≠ D' → w1 a = w0 a) (hfr : (D' = D ∧ ∃ c z, w0 D = some (.inl (5, c, z))) ∨ (w0 D' = none ∧ g.2 D' = none)) (hr : ∀ i b, h i = some b → isRow w0 b) (hrw : ∀ i b, h i = some b → isRow w1 b) (k0 : 0 ≤ i.toInt) (k1 : i.toInt ≤ n.toInt) (hn1 : n.toInt < (cap : Int)) (hk : k ≤ 1) (hm : m ≤ 15) {H : (Nat → Option Nat) → Prop} (hH : H (va_up (va_cpy h h i.toNatClampNeg (i + 1).toNatClampNeg (n - i).toNatClampNeg) i.toNatClampNeg (some b))) (hQ : ∀ w', LPo g w0 w' L D (n + 1) H → Q (.inl none) w') : WP (MJx4a65c_add_7a177 g) Q (38, [some (.ref L), some (.int i), some (.ref b), some (.int n), some (.ref D')], [], w1, k, m) := by
  have iv : vp_in i cap := vpiM k0 (by omega)
  have hLD : L ≠ D' := fun e => by
    rw [e, hD] at hL
    cases hL
  obtain ⟨i1, hi1⟩ : ∃ i1, i + 1 = i1 := ⟨_, rfl⟩
  obtain ⟨d, hd⟩ : ∃ d, n - i = d := ⟨_, rfl⟩
  obtain ⟨n9, hn9⟩ : ∃ n9, n + 1 = n9 := ⟨_, rfl⟩
  have e1 : n9.toInt = n.toInt + 1 := by rw [← hn9]; exact i32p1 (by omega) (by omega)
  have e2 : i1.toInt = i.toInt + 1 := by rw [← hi1]; exact i32p1 (by omega) (by omega)
  have e3 : d.toInt = n.toInt - i.toInt := by rw [← hd]; exact i32_sub (by omega) (by omega)
  have t1 : i.toNatClampNeg = i.toInt.toNat := rfl
  have t2 : i1.toNatClampNeg = i1.toInt.toNat := rfl
  have t3 : d.toNatClampNeg = d.toInt.toNat := rfl
  have g1 : i.toNatClampNeg + d.toNatClampNeg ≤ cap := by omega
  have g2 : i1.toNatClampNeg + d.toNatClampNeg ≤ cap := by omega
  have hbw2 : isRow (upw w1 D' (.inl (5, cap, qc (va_cpy h h i.toNatClampNeg i1.toNatClampNeg d.toNatClampNeg)))) b := isRow_up hbw hD (fun z e => by cases e)
  simp only [eJx4a65c_add_7a177_38, eJx4a65c_add_7a177_38N, eJx4a65c_add_7a177_40, eJx4a65c_add_7a177_41, eJx4a65c_add_7a177_41N, eJx4a65c_add_7a177_43, eJx4a65c_add_7a177_44, eJx4a65c_add_7a177_45, eJx4a65c_add_7a177_46, eJx4a65c_add_7a177_47, eJx4a65c_add_7a177_48, eJx4a65c_add_7a177_49O, eJx4a65c_add_7a177_49B, eJx4a65c_add_7a177_52, eJx4a65c_add_7a177_52N, eJx4a65c_add_7a177_54, eJx4a65c_add_7a177_55, eJx4a65c_add_7a177_55N, eJx4a65c_add_7a177_56N, eJx4a65c_add_7a177_56R, eJx4a65c_add_7a177_57, eJx4a65c_add_7a177_57N, eJx4a65c_add_7a177_58, eJx4a65c_add_7a177_59, eJx4a65c_add_7a177_60, eJx4a65c_add_7a177_61, eJx4a65c_add_7a177_64, ite_le, n45, n54, true_or, or_true, false_or, or_false, false_and, and_false, kx_l, kx_r, go_s, gl_s, gi_s, gb_s2, gb_s3, gq_s, wt_nil, wt_int, wt_long, wt_ref, wt_null, nl_int, nl_long, nl_ref, nl_null, nl_none, rf_n, rf_s, rf_st, tl_s, tl_n, g0, gS, ex1, nb_b, nb_0, nb_1, nf_i, nf_l, nf_ra, nf_ro, nf_na, nf_no, nf_b0, nf_z0, t45_4, t45_5, true_and, and_true, List.set_cons_zero, List.set_cons_succ, List.length_cons, List.length_nil, rd_s, upw_s, ne_eq, not_false_eq_true, Nat.zero_add, Nat.add_zero, if_true, if_false, eq_self, hL, hD, hLD, hLD.symm, upw_n, al56, hi1, hd, hn9, i32_z k0, i32_z (show 0 ≤ i1.toInt by omega), i32_z (show 0 ≤ d.toInt by omega), upw2q, eJx4a65c_add_7a177_49O hD hD]
  repeat' first
    | with_reducible assumption
    | with_reducible refine And.intro ?_ ?_
    | with_reducible refine Or.inr ?_
    | with_reducible exact gl_Roww hbw2 (fun _ => trivial)
    | with_reducible exact fun j y _ hy => gl_Roww (hrw _ _ hy) (fun _ => trivial)
    | with_reducible exact trivial
    | omega
  rw [hn9] at hQ
  rw [hi1, hd] at hH
  refine hQ _ (LPom (D' := D') (cap' := cap) (mc' := mc) h0 (upw_s _ _ _) (by rw [upw_n hLD.symm]; exact upw_s _ _ _) hc (by omega) (by omega) (fun a n1 n2 => by rw [upw_n n1, upw_n n2]; first | exact hf1 a n1 n2 | (rw [upw_n n2]; exact hf1 a n1 n2)) hfr (va_up_row (cpy_row hr hr) (fun b0 e => by
    cases e
    exact hb)) hH)
set_option maxHeartbeats 4000000 in
theorem sJx4a65c_add_7a177R {L D cap b : Nat} {n i : Int32} {h : Nat → Option Nat} (hb : isRow w b) (hE : EG g w) (hS : SG g) (hl : LL g w L D cap n h) (hr : ∀ i b, h i = some b → isRow w b) (k0 : 0 ≤ i.toInt) (k1 : i.toInt ≤ n.toInt) (hn : n.toInt < 15) (hQ : ∀ w', LPo g w w' L D (n + 1) (HIn h n.toNatClampNeg i.toNatClampNeg (some b)) → Q (.inl none) w') : WP (MJx4a65c_add_7a177 g) Q (0, [some (.ref L), some (.int i), some (.ref b), none, none], [], w, 0, 0) := by
  obtain ⟨mc, hL, rL, rD, hn0, hn1, n1, n2⟩ := hl.opn
  have ti : (i + 1).toNatClampNeg = i.toNatClampNeg + 1 := by
    have e := i32p1 (c := i) k0 (by omega)
    show (i + 1).toInt.toNat = i.toInt.toNat + 1
    rw [e]
    omega
  have td : (n - i).toNatClampNeg = n.toNatClampNeg - i.toNatClampNeg := by
    have e : (n - i).toInt = n.toInt - i.toInt := i32_sub (by omega) (by omega)
    show (n - i).toInt.toNat = n.toInt.toNat - i.toInt.toNat
    rw [e]
    omega
  have kin : i.toNatClampNeg ≤ n.toNatClampNeg := by
    show i.toInt.toNat ≤ n.toInt.toNat
    omega
  obtain ⟨w1, hw1⟩ : ∃ w1, upw w L (.inr (3, [.int (mc + 1), .ref D, .int n])) = w1 := ⟨_, rfl⟩
  have hE1 : EG g w1 := by
    rw [← hw1]
    obtain ⟨⟨e, e1, e2, e3⟩, m⟩ := hE
    refine ⟨⟨e, e1, e2, ?_⟩, m⟩
    rw [upw_n]
    · exact e3
    · rintro rfl
      rw [hL] at e3
      cases e3
  have hL1 : w1 L = some (.inr (3, [.int (mc + 1), .ref D, .int n])) := by rw [← hw1]; exact upw_s _ _ _
  have rL1 := rd_e (g := g) hL1
  have rD1 : rd g w1 D = some (.inl (5, cap, qc h)) := by
    rw [← hw1, rd_n n2]
    exact rD
  have hf : ∀ a, a ≠ L → w1 a = w a := fun a ha => by rw [← hw1]; exact upw_n ha
  have tr : ∀ b, isRow w b → isRow w1 b := fun b hb => by
    rw [← hw1]
    exact isRow_up hb hL (fun z e => by cases e)
  have hrw : ∀ i b, h i = some b → isRow w1 b := fun i b hb => tr b (hr i b hb)
  have eN := ofNc (N := cap) (by
    rcases hl.2.1 with ⟨-, e | e⟩ | ⟨e, -⟩ <;> omega)
  have q1 : (n < i) = False := i32_f k1
  have q2 : ((0 : Int32) ≤ i) = True := eq_true (Int32.le_iff_toInt_le.mpr (by have z0 : (0 : Int32).toInt = 0 := rfl; omega))
  simp only [eJx4a65c_add_7a177_0, eJx4a65c_add_7a177_0N, eJx4a65c_add_7a177_1, eJx4a65c_add_7a177_2, eJx4a65c_add_7a177_5, eJx4a65c_add_7a177_5N, eJx4a65c_add_7a177_6, eJx4a65c_add_7a177_6R, eJx4a65c_add_7a177_7, eJx4a65c_add_7a177_10, eJx4a65c_add_7a177_11, eJx4a65c_add_7a177_12, eJx4a65c_rangeCheckForAdd_d00df_0, eJx4a65c_rangeCheckForAdd_d00df_1, eJx4a65c_rangeCheckForAdd_d00df_1N, eJx4a65c_rangeCheckForAdd_d00df_2, eJx4a65c_rangeCheckForAdd_d00df_5, eJx4a65c_rangeCheckForAdd_d00df_8, eJx4a65c_rangeCheckForAdd_d00df_9, eJx4a65c_rangeCheckForAdd_d00df_15, eJx4a65c_rangeCheckForAdd_d00df_15R, eJx4a65c_rangeCheckForAdd_d00df_16, eJx4a65c_rangeCheckForAdd_d00df_16N, eJx4a65c_rangeCheckForAdd_d00df_17, eJx4a65c_rangeCheckForAdd_d00df_25, ite_le, n45, n54, true_or, or_true, false_or, or_false, false_and, and_false, kx_l, kx_r, go_s, gl_s, gi_s, gb_s2, gb_s3, gq_s, wt_nil, wt_int, wt_long, wt_ref, wt_null, nl_int, nl_long, nl_ref, nl_null, nl_none, rf_n, rf_s, rf_st, tl_s, tl_n, g0, gS, ex1, nb_b, nb_0, nb_1, nf_i, nf_l, nf_ra, nf_ro, nf_na, nf_no, nf_b0, nf_z0, t45_4, t45_5, true_and, and_true, List.set_cons_zero, List.set_cons_succ, List.length_cons, List.length_nil, rd_s, upw_s, ne_eq, not_false_eq_true, Nat.zero_add, Nat.add_zero, if_true, if_false, eq_self, rL, hL, q1, q2, hw1]
  repeat' first | with_reducible refine And.intro ?_ ?_ | omega
  simp only [eJx4a65c_add_7a177_12, eJx4a65c_add_7a177_15, eJx4a65c_add_7a177_15N, eJx4a65c_add_7a177_16, eJx4a65c_add_7a177_19, eJx4a65c_add_7a177_19R, eJx4a65c_add_7a177_20, eJx4a65c_add_7a177_21, eJx4a65c_add_7a177_21N, eJx4a65c_add_7a177_22, eJx4a65c_add_7a177_25, eJx4a65c_add_7a177_25R, eJx4a65c_add_7a177_26, eJx4a65c_add_7a177_26N, eJx4a65c_add_7a177_28, eJx4a65c_add_7a177_29, ite_le, n45, n54, true_or, or_true, false_or, or_false, false_and, and_false, kx_l, kx_r, go_s, gl_s, gi_s, gb_s2, gb_s3, gq_s, wt_nil, wt_int, wt_long, wt_ref, wt_null, nl_int, nl_long, nl_ref, nl_null, nl_none, rf_n, rf_s, rf_st, tl_s, tl_n, g0, gS, ex1, nb_b, nb_0, nb_1, nf_i, nf_l, nf_ra, nf_ro, nf_na, nf_no, nf_b0, nf_z0, t45_4, t45_5, true_and, and_true, List.set_cons_zero, List.set_cons_succ, List.length_cons, List.length_nil, rd_s, upw_s, ne_eq, not_false_eq_true, Nat.zero_add, Nat.add_zero, if_true, if_false, eq_self, rL1, rD1, exal2, al56]
  split
  · next he =>
    have he : n.toInt = (cap : Int) := by rw [he, eN]
    simp only [eJx4a65c_add_7a177_32, eJx4a65c_add_7a177_32N, eJx4a65c_add_7a177_33, ite_le, n45, n54, true_or, or_true, false_or, or_false, false_and, and_false, kx_l, kx_r, go_s, gl_s, gi_s, gb_s2, gb_s3, gq_s, wt_nil, wt_int, wt_long, wt_ref, wt_null, nl_int, nl_long, nl_ref, nl_null, nl_none, rf_n, rf_s, rf_st, tl_s, tl_n, g0, gS, ex1, nb_b, nb_0, nb_1, nf_i, nf_l, nf_ra, nf_ro, nf_na, nf_no, nf_b0, nf_z0, t45_4, t45_5, true_and, and_true, List.set_cons_zero, List.set_cons_succ, List.length_cons, List.length_nil, rd_s, upw_s, ne_eq, not_false_eq_true, Nat.zero_add, Nat.add_zero, if_true, if_false, eq_self, rL1]
    repeat' first | with_reducible refine And.intro ?_ ?_ | omega
    obtain ⟨-, h2, -, -⟩ := hl
    have grown : ∀ (q c9 : Nat) (h9 : Nat → Option Nat), rd g w1 q = none → (c9 = 10 ∨ c9 = 15) → n.toInt < (c9 : Int) → (∀ i b, h9 i = some b → isRow w b) → (∀ j, j < n.toNatClampNeg → h9 j = h j) → ∀ (k m : Nat), k ≤ 1 → m ≤ 15 → WP (MJx4a65c_add_7a177 g) Q (38, [some (.ref L), some (.int i), some (.ref b), some (.int n), some (.ref q)], [], upw (upw w1 q (.inl (5, c9, qc h9))) L (.inr (3, [.int (mc + 1), .ref q, .int n])), k, m) := by
      intro q c9 h9 hq hc hlt hr9 hk9 k m hk hm
      have hqn := rd_none hq
      have hqL : q ≠ L := fun e => by
        rw [e, hL1] at hqn
        cases hqn
      have tr2 : ∀ b, isRow w b → isRow (upw (upw w1 q (.inl (5, c9, qc h9))) L (.inr (3, [.int (mc + 1), .ref q, .int n]))) b := fun b hb => by
        obtain ⟨f0, hrow⟩ := tr b hb
        have b1 : b ≠ L := fun e => by
          rw [e, hL1] at hrow
          cases hrow
        have b2 : b ≠ q := fun e => by
          rw [e, hqn] at hrow
          cases hrow
        exact ⟨f0, by rw [upw_n b1, upw_n b2]; exact hrow⟩
      exact lJx4a65c_add_7a177_38R (w0 := w) (D' := q) (cap := c9) hb (tr2 b hb) hL (upw_s _ _ _) (by rw [upw_n hqL]; exact upw_s _ _ _) hc (fun a a1 a2 => by rw [upw_n a1, upw_n a2]; exact hf a a1) (Or.inr ⟨by rw [← hf q hqL]; exact hqn, rd_ro hq⟩) hr9 (fun i b hb => tr2 b (hr9 i b hb)) k0 k1 hlt hk hm (HIn.mk hk9 kin ti td) hQ
    rcases h2 with ⟨h2, rfl | rfl⟩ | ⟨rfl, d1, d2, d3⟩
    · have n10 : n = 10 := Int32.toInt_inj.mp (by rw [he]; rfl)
      refine sJx4a65c_grow10 hE1 hS hL1 (by rw [hf D n2]; exact h2) hrw n10 (fun q hq => ?_)
      simp only [eJx4a65c_add_7a177_36, eJx4a65c_add_7a177_36N, ite_le, n45, n54, true_or, or_true, false_or, or_false, false_and, and_false, kx_l, kx_r, go_s, gl_s, gi_s, gb_s2, gb_s3, gq_s, wt_nil, wt_int, wt_long, wt_ref, wt_null, nl_int, nl_long, nl_ref, nl_null, nl_none, rf_n, rf_s, rf_st, tl_s, tl_n, g0, gS, ex1, nb_b, nb_0, nb_1, nf_i, nf_l, nf_ra, nf_ro, nf_na, nf_no, nf_b0, nf_z0, t45_4, t45_5, true_and, and_true, List.set_cons_zero, List.set_cons_succ, List.length_cons, List.length_nil, rd_s, upw_s, ne_eq, not_false_eq_true, Nat.zero_add, Nat.add_zero, if_true, if_false, eq_self]
      exact grown q 15 _ hq (Or.inr rfl) (by omega) (cpy_row hr (fun _ _ e => by cases e)) (fun j hj => cpy0 (by have t : n.toNatClampNeg = n.toInt.toNat := rfl; omega)) _ _ (by decide) (by decide)
    · omega
    · have n00 : n = 0 := Int32.toInt_inj.mp (by rw [he]; rfl)
      refine sJx4a65c_grow0 hE1 hS hL1 ⟨d1, by rw [hf D n2]; exact d2, d3⟩ n00 (fun q hq => ?_)
      simp only [eJx4a65c_add_7a177_36, eJx4a65c_add_7a177_36N, ite_le, n45, n54, true_or, or_true, false_or, or_false, false_and, and_false, kx_l, kx_r, go_s, gl_s, gi_s, gb_s2, gb_s3, gq_s, wt_nil, wt_int, wt_long, wt_ref, wt_null, nl_int, nl_long, nl_ref, nl_null, nl_none, rf_n, rf_s, rf_st, tl_s, tl_n, g0, gS, ex1, nb_b, nb_0, nb_1, nf_i, nf_l, nf_ra, nf_ro, nf_na, nf_no, nf_b0, nf_z0, t45_4, t45_5, true_and, and_true, List.set_cons_zero, List.set_cons_succ, List.length_cons, List.length_nil, rd_s, upw_s, ne_eq, not_false_eq_true, Nat.zero_add, Nat.add_zero, if_true, if_false, eq_self]
      exact grown q 10 _ hq (Or.inl rfl) (by omega) (fun _ _ e => by cases e) (fun j hj => by have t : n.toNatClampNeg = n.toInt.toNat := rfl; exfalso; omega) _ _ (by decide) (by decide)
  · next he =>
    have he : n.toInt ≠ (cap : Int) := fun e => he (Int32.toInt_inj.mp (by rw [e, eN]))
    obtain ⟨-, h2, -, -⟩ := hl
    rcases h2 with ⟨h2, h3⟩ | ⟨rfl, -⟩
    · exact lJx4a65c_add_7a177_38R (w0 := w) (D' := D) hb (tr b hb) hL hL1 (by rw [hf D n2]; exact h2) h3 (fun a a1 _ => hf a a1) (Or.inl ⟨rfl, cap, _, h2⟩) hr hrw k0 k1 (by omega) (by decide) (by decide) (HIn.mk (fun _ _ => rfl) kin ti td) hQ
    · omega
end
end
/-! 61.list4.lean.txt -/
section
section
variable {g : RO} {Q : Ot → Hw → Prop} {w0 w : Hw}
set_option maxHeartbeats 4000000 in
theorem sJx4a65c_fastRemove_b59b0 {L D cap : Nat} {mc n i : Int32} {h : Nat → Option Nat} (hL : w L = some (.inr (3, [.int mc, .ref D, .int n]))) (hD : w D = some (.inl (5, cap, qc h))) (hc : cap = 10 ∨ cap = 15) (hr : ∀ i b, h i = some b → isRow w b) (k0 : 0 ≤ i.toInt) (k1 : i.toInt < n.toInt) (hn : n.toInt ≤ (cap : Int)) (hQ : ∀ w', LPo g w w' L D (n - 1) (HRm h n.toNatClampNeg i.toNatClampNeg) → Q (.inl none) w') : WP (MJx4a65c_fastRemove_b59b0 g) Q (0, [some (.ref L), some (.ref D), some (.int i), none], [], w, 0, 0) := by
  have rL := rd_e (g := g) hL
  have rD := rd_e (g := g) hD
  have n1 : L ≠ D := fun e => by
    rw [e, hD] at hL
    cases hL
  have n2 := n1.symm
  obtain ⟨m, hm⟩ : ∃ m, n - 1 = m := ⟨_, rfl⟩
  obtain ⟨i1, hi1⟩ : ∃ i1, i + 1 = i1 := ⟨_, rfl⟩
  obtain ⟨d, hd⟩ : ∃ d, m - i = d := ⟨_, rfl⟩
  have z1 : (1 : Int32).toInt = 1 := rfl
  have e1 : m.toInt = n.toInt - 1 := by
    rw [← hm, i32_sub (by omega) (by omega), z1]
  have e2 : i1.toInt = i.toInt + 1 := by rw [← hi1]; exact i32p1 (by omega) (by omega)
  have e3 : d.toInt = m.toInt - i.toInt := by rw [← hd]; exact i32_sub (by omega) (by omega)
  have t1 : i.toNatClampNeg = i.toInt.toNat := rfl
  have t2 : i1.toNatClampNeg = i1.toInt.toNat := rfl
  have t3 : d.toNatClampNeg = d.toInt.toNat := rfl
  have t4 : m.toNatClampNeg = m.toInt.toNat := rfl
  have t5 : n.toNatClampNeg = n.toInt.toNat := rfl
  have mv : vp_in m cap := vpiM (by omega) (by omega)
  have q1 : upw w L (.inr (3, [.int (mc + 1), .ref D, .int n])) D = some (.inl (5, cap, qc h)) := by rw [upw_n n2]; exact hD
  have tr : ∀ b, isRow w b → isRow (upw w L (.inr (3, [.int (mc + 1), .ref D, .int n]))) b := fun b hb => isRow_up hb hL (fun z e => by cases e)
  rw [hm] at hQ
  simp only [eJx4a65c_fastRemove_b59b0_0, eJx4a65c_fastRemove_b59b0_0N, eJx4a65c_fastRemove_b59b0_1, eJx4a65c_fastRemove_b59b0_1R, eJx4a65c_fastRemove_b59b0_2, eJx4a65c_fastRemove_b59b0_5, eJx4a65c_fastRemove_b59b0_6, eJx4a65c_fastRemove_b59b0_7, eJx4a65c_fastRemove_b59b0_10, eJx4a65c_fastRemove_b59b0_10N, eJx4a65c_fastRemove_b59b0_11, eJx4a65c_fastRemove_b59b0_14, eJx4a65c_fastRemove_b59b0_15, eJx4a65c_fastRemove_b59b0_16, eJx4a65c_fastRemove_b59b0_16R, eJx4a65c_fastRemove_b59b0_17, eJx4a65c_fastRemove_b59b0_18, eJx4a65c_fastRemove_b59b0_19, ite_le, n45, n54, true_or, or_true, false_or, or_false, false_and, and_false, kx_l, kx_r, go_s, gl_s, gi_s, gb_s2, gb_s3, gq_s, wt_nil, wt_int, wt_long, wt_ref, wt_null, nl_int, nl_long, nl_ref, nl_null, nl_none, rf_n, rf_s, rf_st, tl_s, tl_n, g0, gS, ex1, nb_b, nb_0, nb_1, nf_i, nf_l, nf_ra, nf_ro, nf_na, nf_no, nf_b0, nf_z0, t45_4, t45_5, true_and, and_true, List.set_cons_zero, List.set_cons_succ, List.length_cons, List.length_nil, rd_s, upw_s, ne_eq, not_false_eq_true, Nat.zero_add, Nat.add_zero, if_true, if_false, eq_self, rL, hL, hm]
  repeat' first | with_reducible refine And.intro ?_ ?_ | omega
  split
  · next hle =>
    have hle := i32_lt hle
    have g1 : i1.toNatClampNeg + d.toNatClampNeg ≤ cap := by omega
    have g2 : i.toNatClampNeg + d.toNatClampNeg ≤ cap := by omega
    simp only [eJx4a65c_fastRemove_b59b0_22, eJx4a65c_fastRemove_b59b0_22N, eJx4a65c_fastRemove_b59b0_23, eJx4a65c_fastRemove_b59b0_24, eJx4a65c_fastRemove_b59b0_25, eJx4a65c_fastRemove_b59b0_26, eJx4a65c_fastRemove_b59b0_26N, eJx4a65c_fastRemove_b59b0_27, eJx4a65c_fastRemove_b59b0_28, eJx4a65c_fastRemove_b59b0_29, eJx4a65c_fastRemove_b59b0_30, eJx4a65c_fastRemove_b59b0_31O, eJx4a65c_fastRemove_b59b0_31B, eJx4a65c_fastRemove_b59b0_34, eJx4a65c_fastRemove_b59b0_34N, eJx4a65c_fastRemove_b59b0_35, eJx4a65c_fastRemove_b59b0_35N, eJx4a65c_fastRemove_b59b0_36, eJx4a65c_fastRemove_b59b0_37IR, eJx4a65c_fastRemove_b59b0_37RR, eJx4a65c_fastRemove_b59b0_38, eJx4a65c_fastRemove_b59b0_41, eJx4a65c_fastRemove_b59b0_42N, eJx4a65c_fastRemove_b59b0_42R, eJx4a65c_fastRemove_b59b0_43, ite_le, n45, n54, true_or, or_true, false_or, or_false, false_and, and_false, kx_l, kx_r, go_s, gl_s, gi_s, gb_s2, gb_s3, gq_s, wt_nil, wt_int, wt_long, wt_ref, wt_null, nl_int, nl_long, nl_ref, nl_null, nl_none, rf_n, rf_s, rf_st, tl_s, tl_n, g0, gS, ex1, nb_b, nb_0, nb_1, nf_i, nf_l, nf_ra, nf_ro, nf_na, nf_no, nf_b0, nf_z0, t45_4, t45_5, true_and, and_true, List.set_cons_zero, List.set_cons_succ, List.length_cons, List.length_nil, rd_s, upw_s, ne_eq, not_false_eq_true, Nat.zero_add, Nat.add_zero, if_true, if_false, eq_self, hi1, hd, hL, n1, n2, upw_n, rd_n, hD, upw2q, i32_z k0, i32_z (show 0 ≤ i1.toInt by omega), i32_z (show 0 ≤ d.toInt by omega), eJx4a65c_fastRemove_b59b0_31O q1 q1]
    repeat' first
      | with_reducible assumption
      | with_reducible refine And.intro ?_ ?_
      | with_reducible exact fun j y _ hy => gl_Roww (tr _ (hr _ _ hy)) (fun _ => trivial)
      | omega
    all_goals refine hQ _ (LPom (D' := D) (cap' := cap) (mc' := mc + 1) hL (by rw [upw_n n1]; exact upw_s _ _ _) (upw_s _ _ _) hc (by omega) (by omega) (fun a a1 a2 => by simp only [upw_n a1, upw_n a2]) (Or.inl ⟨rfl, cap, _, hD⟩) (va_up_row (cpy_row hr hr) (fun _ e => by cases e)) (HRm.mk1 (by omega) (by omega) (by omega) (by omega)))
  · next hle =>
    have hle := i32_nlt hle
    simp only [eJx4a65c_fastRemove_b59b0_34, eJx4a65c_fastRemove_b59b0_34N, eJx4a65c_fastRemove_b59b0_35, eJx4a65c_fastRemove_b59b0_35N, eJx4a65c_fastRemove_b59b0_36, eJx4a65c_fastRemove_b59b0_37IR, eJx4a65c_fastRemove_b59b0_37RR, eJx4a65c_fastRemove_b59b0_38, eJx4a65c_fastRemove_b59b0_41, eJx4a65c_fastRemove_b59b0_42N, eJx4a65c_fastRemove_b59b0_42R, eJx4a65c_fastRemove_b59b0_43, ite_le, n45, n54, true_or, or_true, false_or, or_false, false_and, and_false, kx_l, kx_r, go_s, gl_s, gi_s, gb_s2, gb_s3, gq_s, wt_nil, wt_int, wt_long, wt_ref, wt_null, nl_int, nl_long, nl_ref, nl_null, nl_none, rf_n, rf_s, rf_st, tl_s, tl_n, g0, gS, ex1, nb_b, nb_0, nb_1, nf_i, nf_l, nf_ra, nf_ro, nf_na, nf_no, nf_b0, nf_z0, t45_4, t45_5, true_and, and_true, List.set_cons_zero, List.set_cons_succ, List.length_cons, List.length_nil, rd_s, upw_s, ne_eq, not_false_eq_true, Nat.zero_add, Nat.add_zero, if_true, if_false, eq_self, rL, hL, hm, n1, n2, upw_n, rd_n, hD, upw2q]
    repeat' first | with_reducible assumption | with_reducible refine And.intro ?_ ?_ | omega
    all_goals refine hQ _ (LPom (D' := D) (cap' := cap) (mc' := mc + 1) hL (by rw [upw_n n1]; exact upw_s _ _ _) (upw_s _ _ _) hc (by omega) (by omega) (fun a a1 a2 => by rw [upw_n a2, upw_n a1]; first | done | (rw [upw_n a1])) (Or.inl ⟨rfl, cap, _, hD⟩) (va_up_row hr (fun _ e => by cases e)) (HRm.mk2 (by omega) (by omega) (by omega)))
set_option maxHeartbeats 4000000 in
theorem sJx4a65c_remove_915e3 {L D cap : Nat} {n i : Int32} {h : Nat → Option Nat} (hl : LL g w L D cap n h) (hr : ∀ i b, h i = some b → isRow w b) (k0 : 0 ≤ i.toInt) (k1 : i.toInt < n.toInt) (hN : h i.toNatClampNeg = none → ∀ w', LPo g w w' L D (n - 1) (HRm h n.toNatClampNeg i.toNatClampNeg) → Q (.inl (some .null)) w') (hR : ∀ b, h i.toNatClampNeg = some b → ∀ w', LPo g w w' L D (n - 1) (HRm h n.toNatClampNeg i.toNatClampNeg) → Q (.inl (some (.ref b))) w') : WP (MJx4a65c_remove_915e3 g) Q (0, [some (.ref L), some (.int i), none, none], [], w, 0, 0) := by
  obtain ⟨mc, hL, rL, rD, hn0, hn1, n1, n2⟩ := hl.opn
  have iv : vp_in i cap := vpiM k0 (by omega)
  have hD : w D = some (.inl (5, cap, qc h)) ∧ (cap = 10 ∨ cap = 15) := by
    rcases hl.2.1 with h2 | ⟨rfl, -⟩
    · exact h2
    · omega
  simp only [eJx4a65c_remove_915e3_0, eJx4a65c_remove_915e3_1, eJx4a65c_remove_915e3_1N, eJx4a65c_remove_915e3_2, eJx4a65c_remove_915e3_5, eJx4a65c_remove_915e3_8, eJx4a65c_remove_915e3_8R, eJx4a65c_remove_915e3_8N, eJx4a65c_remove_915e3_9, eJx4a65c_remove_915e3_9N, eJx4a65c_remove_915e3_10, eJx4a65c_remove_915e3_13, eJx4a65c_remove_915e3_13N, eJx4a65c_remove_915e3_14, eJx4a65c_remove_915e3_14N, eJx4a65c_remove_915e3_15, eJx4a65c_remove_915e3_16, eJ15_checkIndex_7cf53_0, eJ15_checkIndex_7cf53_1, eJ15_checkIndex_7cf53_2, eJ15_checkIndex_7cf53_3R, eJ15_checkIndex_7cf53_3N, eJ15_checkIndex_7cf53_6, eJ3_checkIndex_8e157_0, eJ3_checkIndex_8e157_1, eJ3_checkIndex_8e157_4, eJ3_checkIndex_8e157_5, eJ3_checkIndex_8e157_6, eJ3_checkIndex_8e157_9, eJ3_checkIndex_8e157_9N, eJ3_checkIndex_8e157_10, eJ3_checkIndex_8e157_11, eJ3_checkIndex_8e157_16, eJ3_checkIndex_8e157_17, ite_le, n45, n54, true_or, or_true, false_or, or_false, false_and, and_false, kx_l, kx_r, go_s, gl_s, gi_s, gb_s2, gb_s3, gq_s, wt_nil, wt_int, wt_long, wt_ref, wt_null, nl_int, nl_long, nl_ref, nl_null, nl_none, rf_n, rf_s, rf_st, tl_s, tl_n, g0, gS, ex1, nb_b, nb_0, nb_1, nf_i, nf_l, nf_ra, nf_ro, nf_na, nf_no, nf_b0, nf_z0, t45_4, t45_5, true_and, and_true, List.set_cons_zero, List.set_cons_succ, List.length_cons, List.length_nil, rd_s, upw_s, ne_eq, not_false_eq_true, Nat.zero_add, Nat.add_zero, if_true, if_false, eq_self, rL, rD, i32_z k0, i32_t k1]
  repeat' first | with_reducible assumption | with_reducible refine And.intro ?_ ?_ | omega
  · intro hh
    simp only [eJx4a65c_remove_915e3_17, eJx4a65c_remove_915e3_17N, eJx4a65c_remove_915e3_18, eJx4a65c_remove_915e3_18N, eJx4a65c_remove_915e3_19, eJx4a65c_remove_915e3_19N, eJx4a65c_remove_915e3_20, eJx4a65c_remove_915e3_21R, eJx4a65c_remove_915e3_21N, ite_le, n45, n54, true_or, or_true, false_or, or_false, false_and, and_false, kx_l, kx_r, go_s, gl_s, gi_s, gb_s2, gb_s3, gq_s, wt_nil, wt_int, wt_long, wt_ref, wt_null, nl_int, nl_long, nl_ref, nl_null, nl_none, rf_n, rf_s, rf_st, tl_s, tl_n, g0, gS, ex1, nb_b, nb_0, nb_1, nf_i, nf_l, nf_ra, nf_ro, nf_na, nf_no, nf_b0, nf_z0, t45_4, t45_5, true_and, and_true, List.set_cons_zero, List.set_cons_succ, List.length_cons, List.length_nil, rd_s, upw_s, ne_eq, not_false_eq_true, Nat.zero_add, Nat.add_zero, if_true, if_false, eq_self, rL]
    repeat' first | with_reducible refine And.intro ?_ ?_ | omega
    refine sJx4a65c_fastRemove_b59b0 hL hD.1 hD.2 hr k0 k1 hn1 (fun w' z => ?_)
    simp only [eJx4a65c_remove_915e3_24, eJx4a65c_remove_915e3_24N, eJx4a65c_remove_915e3_25, eJx4a65c_remove_915e3_25N, ite_le, n45, n54, true_or, or_true, false_or, or_false, false_and, and_false, kx_l, kx_r, go_s, gl_s, gi_s, gb_s2, gb_s3, gq_s, wt_nil, wt_int, wt_long, wt_ref, wt_null, nl_int, nl_long, nl_ref, nl_null, nl_none, rf_n, rf_s, rf_st, tl_s, tl_n, g0, gS, ex1, nb_b, nb_0, nb_1, nf_i, nf_l, nf_ra, nf_ro, nf_na, nf_no, nf_b0, nf_z0, t45_4, t45_5, true_and, and_true, List.set_cons_zero, List.set_cons_succ, List.length_cons, List.length_nil, rd_s, upw_s, ne_eq, not_false_eq_true, Nat.zero_add, Nat.add_zero, if_true, if_false]
    repeat' first | with_reducible refine And.intro ?_ ?_ | omega
    exact hN hh _ z
  · intro b hh
    simp only [eJx4a65c_remove_915e3_17, eJx4a65c_remove_915e3_17N, eJx4a65c_remove_915e3_18, eJx4a65c_remove_915e3_18N, eJx4a65c_remove_915e3_19, eJx4a65c_remove_915e3_19N, eJx4a65c_remove_915e3_20, eJx4a65c_remove_915e3_21R, eJx4a65c_remove_915e3_21N, ite_le, n45, n54, true_or, or_true, false_or, or_false, false_and, and_false, kx_l, kx_r, go_s, gl_s, gi_s, gb_s2, gb_s3, gq_s, wt_nil, wt_int, wt_long, wt_ref, wt_null, nl_int, nl_long, nl_ref, nl_null, nl_none, rf_n, rf_s, rf_st, tl_s, tl_n, g0, gS, ex1, nb_b, nb_0, nb_1, nf_i, nf_l, nf_ra, nf_ro, nf_na, nf_no, nf_b0, nf_z0, t45_4, t45_5, true_and, and_true, List.set_cons_zero, List.set_cons_succ, List.length_cons, List.length_nil, rd_s, upw_s, ne_eq, not_false_eq_true, Nat.zero_add, Nat.add_zero, if_true, if_false, eq_self, rL]
    repeat' first | with_reducible refine And.intro ?_ ?_ | omega
    refine sJx4a65c_fastRemove_b59b0 hL hD.1 hD.2 hr k0 k1 hn1 (fun w' z => ?_)
    simp only [eJx4a65c_remove_915e3_24, eJx4a65c_remove_915e3_24N, eJx4a65c_remove_915e3_25, eJx4a65c_remove_915e3_25N, ite_le, n45, n54, true_or, or_true, false_or, or_false, false_and, and_false, kx_l, kx_r, go_s, gl_s, gi_s, gb_s2, gb_s3, gq_s, wt_nil, wt_int, wt_long, wt_ref, wt_null, nl_int, nl_long, nl_ref, nl_null, nl_none, rf_n, rf_s, rf_st, tl_s, tl_n, g0, gS, ex1, nb_b, nb_0, nb_1, nf_i, nf_l, nf_ra, nf_ro, nf_na, nf_no, nf_b0, nf_z0, t45_4, t45_5, true_and, and_true, List.set_cons_zero, List.set_cons_succ, List.length_cons, List.length_nil, rd_s, upw_s, ne_eq, not_false_eq_true, Nat.zero_add, Nat.add_zero, if_true, if_false]
    repeat' first | with_reducible refine And.intro ?_ ?_ | omega
    exact hR b hh _ z
end
end
/-! 61.list5.lean.txt -/
section
section
variable {g : RO} {Q : Ot → Hw → Prop} {w0 w : Hw}
set_option maxHeartbeats 4000000 in
theorem sJx4a65c_iterator_32c93 {L D cap : Nat} {n : Int32} {h : Nat → Option Nat} (hl : LL g w L D cap n h) (hQ : ∀ q mc, w L = some (.inr (3, [.int mc, .ref D, .int n])) → rd g w q = none → Q (.inl (some (.ref q))) (upw w q (.inr (2, [.int 0, .int (-1), .int mc, .ref L])))) : WP (MJx4a65c_iterator_32c93 g) Q (0, [some (.ref L)], [], w, 0, 0) := by
  obtain ⟨mc, hL, rL, rD, hn0, hn1, n1, n2⟩ := hl.opn
  simp only [eJx4a65c_iterator_32c93_0, ite_le, n45, n54, true_or, or_true, false_or, or_false, false_and, and_false, kx_l, kx_r, go_s, gl_s, gi_s, gb_s2, gb_s3, gq_s, wt_nil, wt_int, wt_long, wt_ref, wt_null, nl_int, nl_long, nl_ref, nl_null, nl_none, rf_n, rf_s, rf_st, tl_s, tl_n, g0, gS, ex1, nb_b, nb_0, nb_1, nf_i, nf_l, nf_ra, nf_ro, nf_na, nf_no, nf_b0, nf_z0, t45_4, t45_5, true_and, and_true, List.set_cons_zero, List.set_cons_succ, List.length_cons, List.length_nil, rd_s, upw_s, ne_eq, not_false_eq_true, Nat.zero_add, Nat.add_zero, if_true, if_false, eq_self]
  repeat' first | with_reducible refine And.intro ?_ ?_ | omega
  intro q hq
  have hqn := rd_none hq
  have hqL : L ≠ q := fun e => by
    rw [← e, hL] at hqn
    cases hqn
  simp only [eJx4a65c_iterator_32c93_0, eJx4a65c_iterator_32c93_3, eJx4a65c_iterator_32c93_3R, eJx4a65c_iterator_32c93_4, eJx4a65c_iterator_32c93_4N, eJx4a65c_iterator_32c93_5R, eJx4a65c_iterator_32c93_5N, eJx4a65c_iterator_32c93_8, eJx4a65c_iterator_32c93_8N, eJx35411_init_45d68_0, eJx35411_init_45d68_0N, eJx35411_init_45d68_1, eJx35411_init_45d68_1N, eJx35411_init_45d68_2, eJx35411_init_45d68_5, eJx35411_init_45d68_5N, eJx35411_init_45d68_6, eJx35411_init_45d68_9, eJx35411_init_45d68_9N, eJx35411_init_45d68_10, eJx35411_init_45d68_11, eJx35411_init_45d68_14, eJx35411_init_45d68_14N, eJx35411_init_45d68_15, eJx35411_init_45d68_15N, eJx35411_init_45d68_16, eJx35411_init_45d68_19, eJx35411_init_45d68_22, eJx35411_init_45d68_25, ite_le, n45, n54, true_or, or_true, false_or, or_false, false_and, and_false, kx_l, kx_r, go_s, gl_s, gi_s, gb_s2, gb_s3, gq_s, wt_nil, wt_int, wt_long, wt_ref, wt_null, nl_int, nl_long, nl_ref, nl_null, nl_none, rf_n, rf_s, rf_st, tl_s, tl_n, g0, gS, ex1, nb_b, nb_0, nb_1, nf_i, nf_l, nf_ra, nf_ro, nf_na, nf_no, nf_b0, nf_z0, t45_4, t45_5, true_and, and_true, List.set_cons_zero, List.set_cons_succ, List.length_cons, List.length_nil, rd_s, upw_s, ne_eq, not_false_eq_true, Nat.zero_add, Nat.add_zero, if_true, if_false, eq_self, hqL, rd_n, upw_n, upw2q, rL, tyJx35411, nf_ro]
  repeat' first | with_reducible refine And.intro ?_ ?_ | omega
  all_goals first | exact trivial | exact hQ q mc hL hq
set_option maxHeartbeats 4000000 in
theorem sJx35411_hasNext_aae02 {q L D cap : Nat} {c lr mx n mc : Int32} (hq : w q = some (.inr (2, [.int c, .int lr, .int mx, .ref L]))) (hL : w L = some (.inr (3, [.int mc, .ref D, .int n]))) (h0 : c = n → Q (.inl (some (.int 0))) w) (h1 : ¬ c = n → Q (.inl (some (.int 1))) w) : WP (MJx35411_hasNext_aae02 g) Q (0, [some (.ref q)], [], w, 0, 0) := by
  have rq := rd_e (g := g) hq
  have rL := rd_e (g := g) hL
  simp only [eJx35411_hasNext_aae02_0, eJx35411_hasNext_aae02_0N, eJx35411_hasNext_aae02_1, eJx35411_hasNext_aae02_4, eJx35411_hasNext_aae02_4N, eJx35411_hasNext_aae02_5, eJx35411_hasNext_aae02_8, eJx35411_hasNext_aae02_11, ite_le, n45, n54, true_or, or_true, false_or, or_false, false_and, and_false, kx_l, kx_r, go_s, gl_s, gi_s, gb_s2, gb_s3, gq_s, wt_nil, wt_int, wt_long, wt_ref, wt_null, nl_int, nl_long, nl_ref, nl_null, nl_none, rf_n, rf_s, rf_st, tl_s, tl_n, g0, gS, ex1, nb_b, nb_0, nb_1, nf_i, nf_l, nf_ra, nf_ro, nf_na, nf_no, nf_b0, nf_z0, t45_4, t45_5, true_and, and_true, List.set_cons_zero, List.set_cons_succ, List.length_cons, List.length_nil, rd_s, upw_s, ne_eq, not_false_eq_true, Nat.zero_add, Nat.add_zero, rq, rL]
  split
  · simp only [eJx35411_hasNext_aae02_14, eJx35411_hasNext_aae02_15, eJx35411_hasNext_aae02_18, eJx35411_hasNext_aae02_19, ite_le, n45, n54, true_or, or_true, false_or, or_false, false_and, and_false, kx_l, kx_r, go_s, gl_s, gi_s, gb_s2, gb_s3, gq_s, wt_nil, wt_int, wt_long, wt_ref, wt_null, nl_int, nl_long, nl_ref, nl_null, nl_none, rf_n, rf_s, rf_st, tl_s, tl_n, g0, gS, ex1, nb_b, nb_0, nb_1, nf_i, nf_l, nf_ra, nf_ro, nf_na, nf_no, nf_b0, nf_z0, t45_4, t45_5, true_and, and_true, List.set_cons_zero, List.set_cons_succ, List.length_cons, List.length_nil, rd_s, upw_s, ne_eq, not_false_eq_true, Nat.zero_add, Nat.add_zero]
    repeat' first | with_reducible refine And.intro ?_ ?_ | omega
    exact h0 (by assumption)
  · simp only [eJx35411_hasNext_aae02_14, eJx35411_hasNext_aae02_15, eJx35411_hasNext_aae02_18, eJx35411_hasNext_aae02_19, ite_le, n45, n54, true_or, or_true, false_or, or_false, false_and, and_false, kx_l, kx_r, go_s, gl_s, gi_s, gb_s2, gb_s3, gq_s, wt_nil, wt_int, wt_long, wt_ref, wt_null, nl_int, nl_long, nl_ref, nl_null, nl_none, rf_n, rf_s, rf_st, tl_s, tl_n, g0, gS, ex1, nb_b, nb_0, nb_1, nf_i, nf_l, nf_ra, nf_ro, nf_na, nf_no, nf_b0, nf_z0, t45_4, t45_5, true_and, and_true, List.set_cons_zero, List.set_cons_succ, List.length_cons, List.length_nil, rd_s, upw_s, ne_eq, not_false_eq_true, Nat.zero_add, Nat.add_zero]
    repeat' first | with_reducible refine And.intro ?_ ?_ | omega
    exact h1 (by assumption)
set_option maxHeartbeats 4000000 in
theorem sJx35411_next_0502b {q L D cap : Nat} {c lr n mc : Int32} {h : Nat → Option Nat} (hq : w q = some (.inr (2, [.int c, .int lr, .int mc, .ref L]))) (hL : w L = some (.inr (3, [.int mc, .ref D, .int n]))) (rD : rd g w D = some (.inl (5, cap, qc h))) (k0 : 0 ≤ c.toInt) (k1 : c.toInt < n.toInt) (hn : n.toInt ≤ (cap : Int)) (hc : cap ≤ 15) (hN : h c.toNatClampNeg = none → Q (.inl (some .null)) (upw w q (.inr (2, [.int (c + 1), .int c, .int mc, .ref L])))) (hR : ∀ b, h c.toNatClampNeg = some b → Q (.inl (some (.ref b))) (upw w q (.inr (2, [.int (c + 1), .int c, .int mc, .ref L])))) : WP (MJx35411_next_0502b g) Q (0, [some (.ref q), none, none], [], w, 0, 0) := by
  have rq := rd_e (g := g) hq
  have rL := rd_e (g := g) hL
  have nL : L ≠ q := fun e => by
    rw [e, hq] at hL
    cases hL
  have nD : D ≠ q := fun e => by
    rw [e, rq] at rD
    cases rD
  have iv : vp_in c cap := vpiM k0 (by omega)
  have eN := ofNc (N := cap) (by omega)
  simp only [eJx35411_next_0502b_0, eJx35411_next_0502b_0N, eJx35411_next_0502b_1, eJx35411_next_0502b_4, eJx35411_next_0502b_4N, eJx35411_next_0502b_5, eJx35411_next_0502b_8, eJx35411_next_0502b_9, eJx35411_next_0502b_10, eJx35411_next_0502b_10N, eJx35411_next_0502b_11, eJx35411_next_0502b_14, eJx35411_next_0502b_17, eJx35411_next_0502b_23, eJx35411_next_0502b_23R, eJx35411_next_0502b_28, eJx35411_next_0502b_28N, eJx35411_next_0502b_29, eJx35411_next_0502b_32, eJx35411_next_0502b_35, eJx35411_next_0502b_35N, eJx35411_next_0502b_36, eJx35411_next_0502b_37, eJx35411_next_0502b_37N, eJx35411_next_0502b_38, eJx35411_next_0502b_39, eJx35411_next_0502b_45, eJx35411_next_0502b_45R, eJx35411_next_0502b_50, eJx35411_next_0502b_50N, eJx35411_next_0502b_51, eJx35411_next_0502b_52, eJx35411_next_0502b_53, eJx35411_next_0502b_54, eJx35411_next_0502b_57, eJx35411_next_0502b_57N, eJx35411_next_0502b_58, eJx35411_next_0502b_58N, eJx35411_next_0502b_59, eJx35411_next_0502b_60IR, eJx35411_next_0502b_60RR, eJx35411_next_0502b_61, eJx35411_next_0502b_64, eJx35411_next_0502b_65, eJx35411_next_0502b_65N, eJx35411_checkForComodification_da8c8_0, eJx35411_checkForComodification_da8c8_0N, eJx35411_checkForComodification_da8c8_1, eJx35411_checkForComodification_da8c8_4, eJx35411_checkForComodification_da8c8_7, eJx35411_checkForComodification_da8c8_7N, eJx35411_checkForComodification_da8c8_8, eJx35411_checkForComodification_da8c8_11, eJx35411_checkForComodification_da8c8_17, eJx35411_checkForComodification_da8c8_17R, eJx35411_checkForComodification_da8c8_22, ite_le, n45, n54, true_or, or_true, false_or, or_false, false_and, and_false, kx_l, kx_r, go_s, gl_s, gi_s, gb_s2, gb_s3, gq_s, wt_nil, wt_int, wt_long, wt_ref, wt_null, nl_int, nl_long, nl_ref, nl_null, nl_none, rf_n, rf_s, rf_st, tl_s, tl_n, g0, gS, ex1, nb_b, nb_0, nb_1, nf_i, nf_l, nf_ra, nf_ro, nf_na, nf_no, nf_b0, nf_z0, t45_4, t45_5, true_and, and_true, List.set_cons_zero, List.set_cons_succ, List.length_cons, List.length_nil, rd_s, upw_s, ne_eq, not_false_eq_true, Nat.zero_add, Nat.add_zero, if_true, if_false, eq_self, rq, hq, rL, rD, nL, nD, upw_n, rd_n, upw2q, exal2, al56, i32_t k1, i32_t (show c.toInt < (Int32.ofNat cap).toInt by omega)]
  repeat' first
    | with_reducible assumption
    | with_reducible refine And.intro ?_ ?_
    | with_reducible exact hN (by assumption)
    | with_reducible exact hR _ (by assumption)
    | simp only [eJx35411_next_0502b_65, eJx35411_next_0502b_65N, ite_le, n45, n54, true_or, or_true, false_or, or_false, false_and, and_false, kx_l, kx_r, go_s, gl_s, gi_s, gb_s2, gb_s3, gq_s, wt_nil, wt_int, wt_long, wt_ref, wt_null, nl_int, nl_long, nl_ref, nl_null, nl_none, rf_n, rf_s, rf_st, tl_s, tl_n, g0, gS, ex1, nb_b, nb_0, nb_1, nf_i, nf_l, nf_ra, nf_ro, nf_na, nf_no, nf_b0, nf_z0, t45_4, t45_5, true_and, and_true, List.set_cons_zero, List.set_cons_succ, List.length_cons, List.length_nil, rd_s, upw_s, ne_eq, not_false_eq_true, Nat.zero_add, Nat.add_zero, if_true, if_false, eq_self]
    | with_reducible intro _
    | omega
end
end
