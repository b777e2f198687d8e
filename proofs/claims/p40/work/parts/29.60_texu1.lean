section
section
variable {g : RO} {Q : Ot → Hw → Prop} {w0 w : Hw}
/-- a text of the program's own -/
def STO (g : RO) (w : Hw) (s : Nat) : Prop := ∃ (v M : Nat) (f : Nat → Int32) (h z : Value), g.2 s = some (.inr (0, [.ref v, .int 0, h, z])) ∧ w s = none ∧ g.2 v = some (.inl (2, M, .inl f)) ∧ w v = none ∧ bOK M f ∧ M ≤ 8
/-- its length is at most Ml -/
def STB (g : RO) (s Ml : Nat) : Prop := ∀ (v M0 : Nat) (f : Nat → Int32) (h z : Value), g.2 s = some (.inr (0, [.ref v, .int 0, h, z])) → g.2 v = some (.inl (2, M0, .inl f)) → M0 ≤ Ml
theorem STO.ext {g : RO} {w w' : Hw} {s : Nat} (h : STO g w s) (k : ext g w w') : STO g w' s := by
  obtain ⟨v, M, f, h1, z, a, b, c, d, e⟩ := h
  exact ⟨v, M, f, h1, z, a, k.2 _ _ a b, c, k.2 _ _ c d, e⟩
set_option maxHeartbeats 4000000 in
theorem lJ5_append_cf1ce_24 {k n : Nat} {b d N s M : Nat} {c : Int32} (hS : SG g) (hs : STO g w s) (hM : ∀ v M0 f h z, g.2 s = some (.inr (0, [.ref v, .int 0, h, z])) → g.2 v = some (.inl (2, M0, .inl f)) → M0 = M) (hT : TS g w0 b d N c w) (hN : N ≤ 1000) (hsN : c.toInt + M ≤ (N : Int)) (hk : k ≤ 1) (hn : n ≤ 170) (hQ : ∀ w', TS g w0 b d N (c + Int32.ofNat M) w' → Q (.inl (some (.ref b))) w') : WP (MJ5_append_cf1ce g) Q (24, [some (.ref b), some (.ref s), some (.int (Int32.ofNat M))], [], w, k, n) := by
  obtain ⟨ml, f, hb, hd, hf, hc0, hc1, rb, rdd, n1, n2⟩ := hT.opn g
  obtain ⟨v, M', fs, h1, z, s1, s2, s3, s4, s5, s6⟩ := hs
  obtain rfl := hM _ _ _ _ _ s1 s3
  have rs := rd_r s1 s2
  have rv := rd_r s3 s4
  have eM := ofN (N := M') (by omega)
  have nM : (Int32.ofNat M').toNatClampNeg = M' := by
    show (Int32.ofNat M').toInt.toNat = M'
    omega
  have nc : c.toNatClampNeg = c.toInt.toNat := rfl
  have c0 : (c < 0) = False := eq_false (i32_of_nlt (by have z0 : (0 : Int32).toInt = 0 := rfl; omega))
  have M0 : (Int32.ofNat M' < 0) = False := eq_false (i32_of_nlt (by have z0 : (0 : Int32).toInt = 0 := rfl; omega))
  have zn : (0 : Int32).toNatClampNeg = 0 := rfl
  have z00 : ((0 : Int32) < 0) = False := eq_false (by decide)
  have es : (c + Int32.ofNat M').toInt = c.toInt + M' := by
    rw [i32_add (by omega) (by omega), eM]
  have nb : v ≠ b := fun e => by
    rw [e, hb] at s4
    cases s4
  have nd : v ≠ d := fun e => by
    rw [e, hd] at s4
    cases s4
  simp only [eJ5_append_cf1ce_24, eJ5_append_cf1ce_24N, eJ5_append_cf1ce_25, eJ5_append_cf1ce_25N, eJ5_append_cf1ce_26, eJ5_append_cf1ce_29, eJ5_append_cf1ce_29N, eJ5_append_cf1ce_30R, eJ5_append_cf1ce_30N, eJ5_append_cf1ce_33, eJ5_append_cf1ce_33N, eJ5_append_cf1ce_34, eJ5_append_cf1ce_34R, eJ5_append_cf1ce_35, eJ5_append_cf1ce_38, eJ5_append_cf1ce_43, eJ5_append_cf1ce_43N, eJ5_append_cf1ce_44, eJ5_append_cf1ce_44N, eJ5_putStringAt_47b60_0, eJ5_putStringAt_47b60_0N, eJ5_putStringAt_47b60_1, eJ5_putStringAt_47b60_1N, eJ5_putStringAt_47b60_2R, eJ5_putStringAt_47b60_2N, eJ5_putStringAt_47b60_5, eJ5_putStringAt_47b60_5N, eJ5_putStringAt_47b60_6, eJ5_putStringAt_47b60_6N, eJ5_putStringAt_47b60_7, eJ5_putStringAt_47b60_10, eJ5_putStringAt_47b60_11, eJ5_putStringAt_47b60_11N, eJ5_putStringAt_47b60_12, eJ5_putStringAt_47b60_15R, eJ5_putStringAt_47b60_15N, eJ5_putStringAt_47b60_18, eJ5_inflateIfNeededFor_a7421_0, eJ5_inflateIfNeededFor_a7421_3, eJ5_inflateIfNeededFor_a7421_6, eJ5_inflateIfNeededFor_a7421_6N, eJ5_inflateIfNeededFor_a7421_7, eJ5_inflateIfNeededFor_a7421_10, eJ5_inflateIfNeededFor_a7421_10N, eJ5_inflateIfNeededFor_a7421_11, eJ5_inflateIfNeededFor_a7421_14, eJ5_inflateIfNeededFor_a7421_17, eJ5_inflateIfNeededFor_a7421_17N, eJ5_inflateIfNeededFor_a7421_21, eJ0_getBytes_840e7_0, eJ0_getBytes_840e7_0N, eJ0_getBytes_840e7_1, eJ0_getBytes_840e7_4, eJ0_getBytes_840e7_8, eJ0_getBytes_840e7_8N, eJ0_getBytes_840e7_9, eJ0_getBytes_840e7_12, eJ0_getBytes_840e7_13, eJ0_getBytes_840e7_13N, eJ0_getBytes_840e7_14, eJ0_getBytes_840e7_17, eJ0_getBytes_840e7_17N, eJ0_getBytes_840e7_18, eJ0_getBytes_840e7_21, eJ0_getBytes_840e7_22O, eJ0_getBytes_840e7_22B, eJ0_getBytes_840e7_25, eJ0_getBytes_840e7_28, eJ0_getBytes_840e7_28N, eJ0_getBytes_840e7_29, eJ0_getBytes_840e7_32, eJ0_getBytes_840e7_33, eJ0_getBytes_840e7_33N, eJ0_getBytes_840e7_34, eJ0_getBytes_840e7_35, eJ0_getBytes_840e7_35N, eJ0_getBytes_840e7_36, eJ0_getBytes_840e7_39, eJ0_coder_7d493_0, eJ0_coder_7d493_3, eJ0_coder_7d493_6, eJ0_coder_7d493_6N, eJ0_coder_7d493_7, eJ0_coder_7d493_10, eJ0_coder_7d493_13, eJ0_coder_7d493_14, ite_le, n45, n54, true_or, or_true, false_or, or_false, false_and, and_false, kx_l, kx_r, go_s, gl_s, gi_s, gb_s2, gb_s3, gq_s, wt_nil, wt_int, wt_long, wt_ref, wt_null, nl_int, nl_long, nl_ref, nl_null, nl_none, rf_n, rf_s, rf_st, tl_s, tl_n, g0, gS, ex1, nb_b, nb_0, nb_1, nf_i, nf_l, nf_ra, nf_ro, nf_na, nf_no, nf_b0, nf_z0, t45_4, t45_5, true_and, and_true, List.set_cons_zero, List.set_cons_succ, List.length_cons, List.length_nil, rd_s, upw_s, ne_eq, not_false_eq_true, Nat.zero_add, Nat.add_zero, if_true, if_false, eq_self, hS.1, zz1, rb, hb, rdd, hd, rs, rv, n1, n2, nb, nd, upw_n, rd_n, upw2, exal, al26, shl0, c0, M0, zn, z00, nM, nc, eJ0_getBytes_840e7_22B rv hd]
  repeat' first | with_reducible refine And.intro ?_ ?_ | omega
  all_goals first
    | rfl
    | exact fun j hj => s5 j (by omega)
    | exact hQ _ (hT.fin (bOK_cpy (N0 := M') s5 hf (by omega)) (by omega) (by omega))
set_option maxHeartbeats 4000000 in
theorem sJ5_append_cf1ce {b d N s Ml : Nat} {c : Int32} (hS : SG g) (hT : TS g w0 b d N c w) (hN : N ≤ 170) (hc : c.toInt ≤ 63) (hs : STO g w0 s) (hB : STB g s Ml) (hQ : ∀ (d' N' : Nat) (c' : Int32) (w' : Hw), N' ≤ 170 → c.toInt ≤ c'.toInt → c'.toInt ≤ c.toInt + (Ml : Int) → TS g w0 b d' N' c' w' → Q (.inl (some (.ref b))) w') : WP (MJ5_append_cf1ce g) Q (0, [some (.ref b), some (.ref s), none], [], w, 0, 0) := by
  obtain ⟨ml, f, hb, hd, hf, hc0, hc1, rb, rdd, n1, n2⟩ := hT.opn g
  have hs1 := hs.ext hT.1
  obtain ⟨v, M, fs, h1, z, s1, s2, s3, s4, s5, s6⟩ := id hs1
  have rs := rd_r s1 s2
  have rv := rd_r s3 s4
  have eM := ofN (N := M) (by omega)
  have hM : ∀ v M0 f h z, g.2 s = some (.inr (0, [.ref v, .int 0, h, z])) → g.2 v = some (.inl (2, M0, .inl f)) → M0 = M := fun v' M0 f' h' z' q1 q2 => by
    rw [s1] at q1
    cases q1
    rw [s3] at q2
    cases q2
    rfl
  have hBM := hB _ _ _ _ _ s1 s3
  obtain ⟨m, hm⟩ : ∃ m, c + Int32.ofNat M = m := ⟨_, rfl⟩
  have e1 : m.toInt = c.toInt + M := by
    rw [← hm, i32_add (by omega) (by omega), eM]
  obtain ⟨eK, eS⟩ := kE (m := m) hb hd (by omega)
  have hk : kfE [.ref b, .int m] w ≤ 1 := by
    rw [eK]
    split <;> omega
  have hsE : sfE [.ref b, .int m] w ≤ 170 := by
    split at eS <;> omega
  simp only [eJ5_append_cf1ce_0, eJ5_append_cf1ce_0N, eJ5_append_cf1ce_1R, eJ5_append_cf1ce_1N, eJ5_append_cf1ce_4, eJ5_append_cf1ce_4N, eJ5_append_cf1ce_8, eJ5_append_cf1ce_8N, eJ5_append_cf1ce_9, eJ5_append_cf1ce_9N, eJ5_append_cf1ce_10, eJ5_append_cf1ce_13, eJ5_append_cf1ce_14, eJ5_append_cf1ce_14N, eJ5_append_cf1ce_15, eJ5_append_cf1ce_15N, eJ5_append_cf1ce_16, eJ5_append_cf1ce_19, eJ0_length_8abf5_0, eJ0_length_8abf5_0N, eJ0_length_8abf5_1, eJ0_length_8abf5_4, eJ0_length_8abf5_5, eJ0_length_8abf5_5N, eJ0_length_8abf5_6, eJ0_length_8abf5_9, eJ0_coder_7d493_0, eJ0_coder_7d493_3, eJ0_coder_7d493_6, eJ0_coder_7d493_6N, eJ0_coder_7d493_7, eJ0_coder_7d493_10, eJ0_coder_7d493_13, eJ0_coder_7d493_14, ite_le, n45, n54, true_or, or_true, false_or, or_false, false_and, and_false, kx_l, kx_r, go_s, gl_s, gi_s, gb_s2, gb_s3, gq_s, wt_nil, wt_int, wt_long, wt_ref, wt_null, nl_int, nl_long, nl_ref, nl_null, nl_none, rf_n, rf_s, rf_st, tl_s, tl_n, g0, gS, ex1, nb_b, nb_0, nb_1, nf_i, nf_l, nf_ra, nf_ro, nf_na, nf_no, nf_b0, nf_z0, t45_4, t45_5, true_and, and_true, List.set_cons_zero, List.set_cons_succ, List.length_cons, List.length_nil, rd_s, upw_s, ne_eq, not_false_eq_true, Nat.zero_add, Nat.add_zero, if_true, if_false, eq_self, hS.1, zz1, rb, hb, rs, rv, exal, al26, shr0, hm, hk, hsE]
  repeat' first | with_reducible refine And.intro ?_ ?_ | omega
  all_goals try rfl
  refine sJ5_ensureCapacityInternal_d00df hS hT (by omega) (by omega) (by omega) (fun h => ⟨by rw [eK, if_pos h]; exact Nat.le_refl _, by rw [eS, if_pos h]; exact Int.le_refl _⟩) (fun h => ?_) (fun d' N' w' h1 h2 hT' => ?_)
  · simp only [kx_l]
    exact lJ5_append_cf1ce_24 hS hs1 hM hT (by omega) (by omega) (by omega) (by omega) (fun w' z => hQ _ _ _ _ hN (by rw [hm]; omega) (by rw [hm]; omega) z)
  · simp only [kx_l]
    exact lJ5_append_cf1ce_24 hS (hs.ext hT'.1) hM hT' (by omega) (by omega) (by omega) (by omega) (fun w' z => hQ _ _ _ _ (by omega) (by rw [hm]; omega) (by rw [hm]; omega) z)
set_option maxHeartbeats 4000000 in
theorem sJ4_append_15ec4 {b d N s Ml : Nat} {c : Int32} (hS : SG g) (hT : TS g w0 b d N c w) (hN : N ≤ 170) (hc : c.toInt ≤ 63) (hs : STO g w0 s) (hB : STB g s Ml) (hQ : ∀ (d' N' : Nat) (c' : Int32) (w' : Hw), N' ≤ 170 → c.toInt ≤ c'.toInt → c'.toInt ≤ c.toInt + (Ml : Int) → TS g w0 b d' N' c' w' → Q (.inl (some (.ref b))) w') : WP (MJ4_append_15ec4 g) Q (0, [some (.ref b), some (.ref s)], [], w, 0, 0) := by
  obtain ⟨ml, f, hb, hd, hf, hc0, hc1, rb, rdd, n1, n2⟩ := hT.opn g
  simp only [eJ4_append_15ec4_0, eJ4_append_15ec4_0N, eJ4_append_15ec4_1, eJ4_append_15ec4_1N, eJ4_append_15ec4_2R, eJ4_append_15ec4_2N, ite_le, n45, n54, true_or, or_true, false_or, or_false, false_and, and_false, kx_l, kx_r, go_s, gl_s, gi_s, gb_s2, gb_s3, gq_s, wt_nil, wt_int, wt_long, wt_ref, wt_null, nl_int, nl_long, nl_ref, nl_null, nl_none, rf_n, rf_s, rf_st, tl_s, tl_n, g0, gS, ex1, nb_b, nb_0, nb_1, nf_i, nf_l, nf_ra, nf_ro, nf_na, nf_no, nf_b0, nf_z0, t45_4, t45_5, true_and, and_true, List.set_cons_zero, List.set_cons_succ, List.length_cons, List.length_nil, rd_s, upw_s, ne_eq, not_false_eq_true, Nat.zero_add, Nat.add_zero, if_true, if_false, eq_self, rb]
  repeat' first | with_reducible refine And.intro ?_ ?_ | omega
  refine sJ5_append_cf1ce hS hT hN hc hs hB (fun d' N' c' w' h1 h2 h3 z => ?_)
  simp only [eJ4_append_15ec4_5, eJ4_append_15ec4_5R, eJ4_append_15ec4_5N, eJ4_append_15ec4_6, eJ4_append_15ec4_6N, eJ4_append_15ec4_7, eJ4_append_15ec4_7N, ite_le, n45, n54, true_or, or_true, false_or, or_false, false_and, and_false, kx_l, kx_r, go_s, gl_s, gi_s, gb_s2, gb_s3, gq_s, wt_nil, wt_int, wt_long, wt_ref, wt_null, nl_int, nl_long, nl_ref, nl_null, nl_none, rf_n, rf_s, rf_st, tl_s, tl_n, g0, gS, ex1, nb_b, nb_0, nb_1, nf_i, nf_l, nf_ra, nf_ro, nf_na, nf_no, nf_b0, nf_z0, t45_4, t45_5, true_and, and_true, List.set_cons_zero, List.set_cons_succ, List.length_cons, List.length_nil, rd_s, upw_s, ne_eq, not_false_eq_true, Nat.zero_add, Nat.add_zero, if_true, if_false, eq_self]
  repeat' first | with_reducible refine And.intro ?_ ?_ | omega
  exact hQ _ _ _ _ h1 h2 h3 z
end
end
