section
section
variable {g : RO} {Q : Ot → Hw → Prop} {w0 w : Hw}
theorem al26 : ((2 : Nat) < 6) = True := eq_true (by decide)
/-- numbers of the JDK's own -/
def SG (g : RO) : Prop := g.1 1 = .int 1 ∧ g.1 30 = .int 2147483639 ∧ g.1 32 = .int 2147483647
theorem shl0 {a : Int32} : a <<< ((0 : Int32) &&& 31) = a := by
  have e : ((0 : Int32) &&& 31) = 0 := rfl
  rw [e]
  simp
theorem shr0 {a : Int32} : a >>> ((0 : Int32) &&& 31) = a := by
  have e : ((0 : Int32) &&& 31) = 0 := rfl
  rw [e]
  simp
theorem ofN {N : Nat} (h : N ≤ 5000) : (Int32.ofNat N).toInt = (N : Int) := Int32.toInt_ofNat_of_lt (by omega)
theorem nl_val {N : Nat} {m : Int32} (hN : N ≤ 1000) (h1 : (N : Int) < m.toInt) (h2 : m.toInt ≤ 2000) : (Int32.ofNat N + (if m - Int32.ofNat N < Int32.ofNat N + 2 then Int32.ofNat N + 2 else m - Int32.ofNat N)).toInt = max m.toInt (2 * (N : Int) + 2) := by
  have e := ofN (N := N) (by omega)
  have e2 : (2 : Int32).toInt = 2 := rfl
  have s1 : (m - Int32.ofNat N).toInt = m.toInt - N := by rw [i32_sub (by omega) (by omega), e]
  have s2 : (Int32.ofNat N + 2).toInt = (N : Int) + 2 := by rw [i32_add (by omega) (by omega), e, e2]
  split
  · next h =>
    have h3 := i32_lt h
    rw [i32_add (by omega) (by omega)]
    omega
  · next h =>
    have h3 := i32_nlt h
    rw [i32_add (by omega) (by omega)]
    omega
set_option maxHeartbeats 4000000 in
theorem sJ8_newLength_cabcc {a0 a1 a2 : Int32} (hS : SG g) (h1 : 0 < (a0 + (if a1 < a2 then a2 else a1)).toInt) (h2 : (a0 + (if a1 < a2 then a2 else a1)).toInt ≤ 2147483639) (hQ : Q (.inl (some (.int (a0 + (if a1 < a2 then a2 else a1))))) w) : WP (MJ8_newLength_cabcc g) Q (0, [some (.int a0), some (.int a1), some (.int a2), none], [], w, 0, 0) := by
  obtain ⟨s1, s2, s3⟩ := hS
  generalize hv : a0 + (if a1 < a2 then a2 else a1) = v at h1 h2 hQ
  have t1 : (0 < v) = True := lt_t h1
  have t2 : (2147483639 < v) = False := lt_f h2
  simp only [eJ8_newLength_cabcc_0, eJ8_newLength_cabcc_6, eJ8_newLength_cabcc_13, eJ8_newLength_cabcc_16, eJ8_newLength_cabcc_19, eJ8_newLength_cabcc_21, eJ8_newLength_cabcc_26, ite_le, n45, n54, true_or, or_true, false_or, or_false, false_and, and_false, kx_l, kx_r, go_s, gl_s, gi_s, gb_s2, gb_s3, gq_s, wt_nil, wt_int, wt_long, wt_ref, wt_null, nl_int, nl_long, nl_ref, nl_null, nl_none, rf_n, rf_s, rf_st, tl_s, tl_n, g0, gS, ex1, nb_b, nb_0, nb_1, nf_i, nf_l, nf_ra, nf_ro, nf_na, nf_no, nf_b0, nf_z0, t45_4, t45_5, true_and, and_true, List.set_cons_zero, List.set_cons_succ, List.length_cons, List.length_nil, rd_s, upw_s, ne_eq, not_false_eq_true, Nat.zero_add, Nat.add_zero, if_true, if_false, s2, hv, t1, t2]
  repeat' first | with_reducible refine And.intro ?_ ?_ | omega
  all_goals assumption
set_option maxHeartbeats 4000000 in
theorem sJ5_newCapacity_0f7a4 {b d N : Nat} {c ml m : Int32} {f : Nat → Int32} (hS : SG g) (rb : rd g w b = some (.inr (1, [.ref d, .int 0, .int ml, .int c]))) (rdd : rd g w d = some (.inl (2, N, .inl f))) (hN : N ≤ 1000) (h1 : (N : Int) < m.toInt) (h2 : m.toInt ≤ 2000) (hQ : ∀ v : Int32, v.toInt = max m.toInt (2 * (N : Int) + 2) → Q (.inl (some (.int v))) w) : WP (MJ5_newCapacity_0f7a4 g) Q (0, [some (.ref b), some (.int m), none, none, none, none], [], w, 0, 0) := by
  have e := nl_val hN h1 h2
  have e2 : (2 : Int32) <<< ((0 : Int32) &&& 31) = 2 := shl0
  simp only [eJ5_newCapacity_0f7a4_0, eJ5_newCapacity_0f7a4_0N, eJ5_newCapacity_0f7a4_1, eJ5_newCapacity_0f7a4_4, eJ5_newCapacity_0f7a4_5, eJ5_newCapacity_0f7a4_6, eJ5_newCapacity_0f7a4_7, eJ5_newCapacity_0f7a4_7N, eJ5_newCapacity_0f7a4_8, eJ5_newCapacity_0f7a4_11, eJ5_newCapacity_0f7a4_14, eJ5_newCapacity_0f7a4_23, eJ5_newCapacity_0f7a4_23N, eJ5_newCapacity_0f7a4_24, eJ5_newCapacity_0f7a4_27, eJ5_newCapacity_0f7a4_32, eJ5_newCapacity_0f7a4_38, eJ5_newCapacity_0f7a4_51, eJ5_newCapacity_0f7a4_53, eJ5_newCapacity_0f7a4_53N, eJ5_newCapacity_0f7a4_54, eJ5_newCapacity_0f7a4_57, ite_le, n45, n54, true_or, or_true, false_or, or_false, false_and, and_false, kx_l, kx_r, go_s, gl_s, gi_s, gb_s2, gb_s3, gq_s, wt_nil, wt_int, wt_long, wt_ref, wt_null, nl_int, nl_long, nl_ref, nl_null, nl_none, rf_n, rf_s, rf_st, tl_s, tl_n, g0, gS, ex1, nb_b, nb_0, nb_1, nf_i, nf_l, nf_ra, nf_ro, nf_na, nf_no, nf_b0, nf_z0, t45_4, t45_5, true_and, and_true, List.set_cons_zero, List.set_cons_succ, List.length_cons, List.length_nil, rd_s, upw_s, ne_eq, not_false_eq_true, Nat.zero_add, Nat.add_zero, if_true, if_false, rb, rdd, exal, al26, shl0, shr0]
  repeat' first | with_reducible refine And.intro ?_ ?_ | omega
  refine sJ8_newLength_cabcc hS (by rw [e]; omega) (by rw [e]; omega) ?_
  generalize (Int32.ofNat N + (if m - Int32.ofNat N < Int32.ofNat N + 2 then Int32.ofNat N + 2 else m - Int32.ofNat N)) = v at e ⊢
  have t1 : (v = 2147483647) = False := eq_false (fun h => by
    have h3 : v.toInt = 2147483647 := by rw [h]; rfl
    omega)
  simp only [eJ5_newCapacity_0f7a4_0, eJ5_newCapacity_0f7a4_0N, eJ5_newCapacity_0f7a4_1, eJ5_newCapacity_0f7a4_4, eJ5_newCapacity_0f7a4_5, eJ5_newCapacity_0f7a4_6, eJ5_newCapacity_0f7a4_7, eJ5_newCapacity_0f7a4_7N, eJ5_newCapacity_0f7a4_8, eJ5_newCapacity_0f7a4_11, eJ5_newCapacity_0f7a4_14, eJ5_newCapacity_0f7a4_23, eJ5_newCapacity_0f7a4_23N, eJ5_newCapacity_0f7a4_24, eJ5_newCapacity_0f7a4_27, eJ5_newCapacity_0f7a4_32, eJ5_newCapacity_0f7a4_38, eJ5_newCapacity_0f7a4_51, eJ5_newCapacity_0f7a4_53, eJ5_newCapacity_0f7a4_53N, eJ5_newCapacity_0f7a4_54, eJ5_newCapacity_0f7a4_57, ite_le, n45, n54, true_or, or_true, false_or, or_false, false_and, and_false, kx_l, kx_r, go_s, gl_s, gi_s, gb_s2, gb_s3, gq_s, wt_nil, wt_int, wt_long, wt_ref, wt_null, nl_int, nl_long, nl_ref, nl_null, nl_none, rf_n, rf_s, rf_st, tl_s, tl_n, g0, gS, ex1, nb_b, nb_0, nb_1, nf_i, nf_l, nf_ra, nf_ro, nf_na, nf_no, nf_b0, nf_z0, t45_4, t45_5, true_and, and_true, List.set_cons_zero, List.set_cons_succ, List.length_cons, List.length_nil, rd_s, upw_s, ne_eq, not_false_eq_true, Nat.zero_add, Nat.add_zero, if_true, if_false, rb, rdd, hS.2.2, t1, exal, al26, shl0, shr0]
  repeat' first | with_reducible refine And.intro ?_ ?_ | omega
  exact hQ v e
set_option maxHeartbeats 4000000 in
theorem sJ7_copyOf_9075b {mc ms : Nat} {a N : Nat} {v : Int32} {f : Nat → Int32} (rdd : rd g w a = some (.inl (2, N, .inl f))) (hf : bOK N f) (hN : N ≤ 1000) (h1 : (N : Int) < v.toInt) (h2 : v.toInt ≤ 3000) (hmc : 1 ≤ mc) (hms : v.toInt ≤ (ms : Int)) (hQ : ∀ (q : Nat) (f' : Nat → Int32), rd g w q = none → bOK v.toNatClampNeg f' → Q (.inl (some (.ref q))) (upw w q (.inl (2, v.toNatClampNeg, .inl f')))) : WP (MJ7_copyOf_9075b g mc ms) Q (0, [some (.ref a), some (.int v), none], [], w, 0, 0) := by
  have e := ofN (N := N) (by omega)
  have ev : v.toNatClampNeg = v.toInt.toNat := rfl
  have t1 : (v = Int32.ofNat N) = False := eq_false (fun h => by
    have h3 : v.toInt = (Int32.ofNat N).toInt := by rw [h]
    omega)
  have t2 : (v < 0) = False := lt_f (by show (0 : Int) ≤ v.toInt; omega)
  have t3 : (v < Int32.ofNat N) = False := lt_f (by omega)
  have t4 : (Int32.ofNat N < 0) = False := lt_f (by show (0 : Int) ≤ _; omega)
  have en : (Int32.ofNat N).toNatClampNeg = N := by
    show (Int32.ofNat N).toInt.toNat = N
    omega
  have z0 : ((0 : Int32) < 0) = False := eq_false (by decide)
  have zn : (0 : Int32).toNatClampNeg = 0 := rfl
  simp only [eJ7_copyOf_9075b_0, eJ7_copyOf_9075b_1, eJ7_copyOf_9075b_1N, eJ7_copyOf_9075b_2, eJ7_copyOf_9075b_3, eJ7_copyOf_9075b_6, eJ7_copyOf_9075b_6N, eJ7_copyOf_9075b_7, eJ7_copyOf_9075b_10N, eJ7_copyOf_9075b_10R, eJ7_copyOf_9075b_13, eJ7_copyOf_9075b_14, eJ7_copyOf_9075b_15, eJ7_copyOf_9075b_17, eJ7_copyOf_9075b_17N, eJ7_copyOf_9075b_18, eJ7_copyOf_9075b_18N, eJ7_copyOf_9075b_19, eJ7_copyOf_9075b_20, eJ7_copyOf_9075b_20N, eJ7_copyOf_9075b_21, eJ7_copyOf_9075b_22, eJ7_copyOf_9075b_22N, eJ7_copyOf_9075b_23, eJ7_copyOf_9075b_24, eJ7_copyOf_9075b_25, eJ7_copyOf_9075b_28O, eJ7_copyOf_9075b_28B, eJ7_copyOf_9075b_31, eJ7_copyOf_9075b_31N, eJ7_copyOf_9075b_32, ite_le, n45, n54, true_or, or_true, false_or, or_false, false_and, and_false, kx_l, kx_r, go_s, gl_s, gi_s, gb_s2, gb_s3, gq_s, wt_nil, wt_int, wt_long, wt_ref, wt_null, nl_int, nl_long, nl_ref, nl_null, nl_none, rf_n, rf_s, rf_st, tl_s, tl_n, g0, gS, ex1, nb_b, nb_0, nb_1, nf_i, nf_l, nf_ra, nf_ro, nf_na, nf_no, nf_b0, nf_z0, t45_4, t45_5, true_and, and_true, List.set_cons_zero, List.set_cons_succ, List.length_cons, List.length_nil, rd_s, upw_s, ne_eq, not_false_eq_true, Nat.zero_add, Nat.add_zero, if_true, if_false, rdd, exal, al26, t1, t2]
  repeat' first | with_reducible refine And.intro ?_ ?_ | omega
  intro q hq
  have hne : a ≠ q := fun h => by
    subst h
    rw [rdd] at hq
    cases hq
  have ra : rd g (upw w q (.inl (2, v.toNatClampNeg, .inl fun _ => 0))) a = some (.inl (2, N, .inl f)) := by rw [rd_n hne]; exact rdd
  simp only [eJ7_copyOf_9075b_0, eJ7_copyOf_9075b_1, eJ7_copyOf_9075b_1N, eJ7_copyOf_9075b_2, eJ7_copyOf_9075b_3, eJ7_copyOf_9075b_6, eJ7_copyOf_9075b_6N, eJ7_copyOf_9075b_7, eJ7_copyOf_9075b_10N, eJ7_copyOf_9075b_10R, eJ7_copyOf_9075b_13, eJ7_copyOf_9075b_14, eJ7_copyOf_9075b_15, eJ7_copyOf_9075b_17, eJ7_copyOf_9075b_17N, eJ7_copyOf_9075b_18, eJ7_copyOf_9075b_18N, eJ7_copyOf_9075b_19, eJ7_copyOf_9075b_20, eJ7_copyOf_9075b_20N, eJ7_copyOf_9075b_21, eJ7_copyOf_9075b_22, eJ7_copyOf_9075b_22N, eJ7_copyOf_9075b_23, eJ7_copyOf_9075b_24, eJ7_copyOf_9075b_25, eJ7_copyOf_9075b_28O, eJ7_copyOf_9075b_28B, eJ7_copyOf_9075b_31, eJ7_copyOf_9075b_31N, eJ7_copyOf_9075b_32, ite_le, n45, n54, true_or, or_true, false_or, or_false, false_and, and_false, kx_l, kx_r, go_s, gl_s, gi_s, gb_s2, gb_s3, gq_s, wt_nil, wt_int, wt_long, wt_ref, wt_null, nl_int, nl_long, nl_ref, nl_null, nl_none, rf_n, rf_s, rf_st, tl_s, tl_n, g0, gS, ex1, nb_b, nb_0, nb_1, nf_i, nf_l, nf_ra, nf_ro, nf_na, nf_no, nf_b0, nf_z0, t45_4, t45_5, true_and, and_true, List.set_cons_zero, List.set_cons_succ, List.length_cons, List.length_nil, rd_s, upw_s, ne_eq, not_false_eq_true, Nat.zero_add, Nat.add_zero, if_true, if_false, ra, exal, al26, t1, t2, t3, t4, z0, en, zn, upw2, eJ7_copyOf_9075b_28B ra (upw_s _ _ _)]
  repeat' first | with_reducible refine And.intro ?_ ?_ | omega
  · intro j hj
    exact hf j (by omega)
  · exact hQ q _ hq (bOK_cpy (N0 := N) hf (bOK_0 _) (by omega))
end
end
