section
section
variable {g : RO} {Q : Ot → Hw → Prop} {w0 w : Hw}
theorem p10 (n : Nat) (h : n ≤ 18) : (1 : Int) ≤ (10 : Int) ^ n ∧ (10 : Int) ^ n ≤ 1000000000000000000 := by
  match n, h with
  | 0, _ => exact ⟨by decide, by decide⟩
  | 1, _ => exact ⟨by decide, by decide⟩
  | 2, _ => exact ⟨by decide, by decide⟩
  | 3, _ => exact ⟨by decide, by decide⟩
  | 4, _ => exact ⟨by decide, by decide⟩
  | 5, _ => exact ⟨by decide, by decide⟩
  | 6, _ => exact ⟨by decide, by decide⟩
  | 7, _ => exact ⟨by decide, by decide⟩
  | 8, _ => exact ⟨by decide, by decide⟩
  | 9, _ => exact ⟨by decide, by decide⟩
  | 10, _ => exact ⟨by decide, by decide⟩
  | 11, _ => exact ⟨by decide, by decide⟩
  | 12, _ => exact ⟨by decide, by decide⟩
  | 13, _ => exact ⟨by decide, by decide⟩
  | 14, _ => exact ⟨by decide, by decide⟩
  | 15, _ => exact ⟨by decide, by decide⟩
  | 16, _ => exact ⟨by decide, by decide⟩
  | 17, _ => exact ⟨by decide, by decide⟩
  | 18, _ => exact ⟨by decide, by decide⟩
  | n + 19, h => omega
theorem p10s (n : Nat) : (10 : Int) ^ (n + 1) = 10 * (10 : Int) ^ n := by rw [Int.pow_succ]; omega
theorem p10p (n : Nat) : (0 : Int) < (10 : Int) ^ n := by
  induction n with
  | zero => decide
  | succ n ih => rw [p10s]; omega
theorem i64_bd (a : Int64) : -9223372036854775808 ≤ a.toInt ∧ a.toInt ≤ 9223372036854775807 := by
  have h1 := Int64.le_toInt a
  have h2 := Int64.toInt_lt a
  omega
theorem i64_mul10 {p : Int64} {n : Nat} (h : p.toInt = -((10 : Int) ^ n)) (hn : n + 1 ≤ 18) : (10 * p).toInt = -((10 : Int) ^ (n + 1)) := by
  have h1 := p10 (n + 1) hn
  have e : (10 : Int64).toInt = 10 := rfl
  rw [Int64.toInt_mul, e, h]
  rw [p10s] at h1 ⊢
  rw [Int.bmod_eq_of_le (by omega) (by omega)]
  omega
theorem i64_neg {a : Int64} (h : ¬ a.toInt = -9223372036854775808) : (-a).toInt = -a.toInt := by
  have h2 := i64_bd a
  rw [Int64.toInt_neg]
  exact Int.bmod_eq_of_le (by omega) (by omega)
theorem i64_lt {a b : Int64} (h : a < b) : a.toInt < b.toInt := Int64.lt_iff_toInt_lt.mp h
theorem i64_nlt {a b : Int64} (h : ¬ a < b) : b.toInt ≤ a.toInt := Int64.le_iff_toInt_le.mp (Int64.not_lt.mp h)
theorem lt_f {a b : Int32} (h : b.toInt ≤ a.toInt) : (a < b) = False := eq_false (i32_of_nlt h)
theorem lt_t {a b : Int32} (h : a.toInt < b.toInt) : (a < b) = True := eq_true (i32_of_lt h)
set_option maxHeartbeats 4000000 in
theorem lJ13_ss {x : Int64} {dd : Int32} (hd0 : 0 ≤ dd.toInt) (hd1 : dd.toInt ≤ 1) (hQ : ∀ (v : Int32) (kk : Nat), 1 ≤ kk → kk ≤ 19 → v.toInt = kk + dd.toInt → -((10 : Int) ^ kk) < x.toInt → Q (.inl (some (.int v))) w) :
    ∀ (e : Nat) (p : Int64) (i : Int32), i.toInt + e = 19 → 1 ≤ i.toInt → (i.toInt < 19 → p.toInt = -((10 : Int) ^ i.toInt.toNat)) → WP (MJ13_stringSize_95d88 g) Q (20, [some (.long x), none, some (.int dd), some (.long p), none, some (.int i)], [], w, 0, 0) := by
  intro e
  induction e with
  | zero =>
    intro p i hi h1 hp
    have e19 : (19 : Int32).toInt = 19 := rfl
    rw [eJ13_stringSize_95d88_20]
    simp only [eJ13_stringSize_95d88_0, eJ13_stringSize_95d88_8, eJ13_stringSize_95d88_13, eJ13_stringSize_95d88_22, eJ13_stringSize_95d88_27, eJ13_stringSize_95d88_33, eJ13_stringSize_95d88_38, eJ13_stringSize_95d88_50, ite_le, n45, n54, true_or, or_true, false_or, or_false, false_and, and_false, kx_l, kx_r, go_s, gl_s, gi_s, gb_s2, gb_s3, gq_s, wt_nil, wt_int, wt_long, wt_ref, wt_null, nl_int, nl_long, nl_ref, nl_null, nl_none, rf_n, rf_s, rf_st, tl_s, tl_n, g0, gS, ex1, nb_b, nb_0, nb_1, nf_i, nf_l, nf_ra, nf_ro, nf_na, nf_no, nf_b0, nf_z0, t45_4, t45_5, true_and, and_true, List.set_cons_zero, List.set_cons_succ, List.length_cons, List.length_nil, rd_s, upw_s, ne_eq, not_false_eq_true, Nat.zero_add, Nat.add_zero, if_true, if_false, lt_f (show (19 : Int32).toInt ≤ i.toInt by omega)]
    repeat' first | with_reducible refine And.intro ?_ ?_ | omega
    refine hQ _ 19 (by decide) (by decide) ?_ ?_
    · rw [i32_add (by omega) (by omega), e19]; rfl
    · have h3 := (i64_bd x).1
      have h4 : (10 : Int) ^ 19 = 10000000000000000000 := by decide
      omega
  | succ e ih =>
    intro p i hi h1 hp
    have e19 : (19 : Int32).toInt = 19 := rfl
    have hp := hp (by omega)
    rw [eJ13_stringSize_95d88_20]
    simp only [eJ13_stringSize_95d88_0, eJ13_stringSize_95d88_8, eJ13_stringSize_95d88_13, eJ13_stringSize_95d88_22, eJ13_stringSize_95d88_27, eJ13_stringSize_95d88_33, eJ13_stringSize_95d88_38, eJ13_stringSize_95d88_50, ite_le, n45, n54, true_or, or_true, false_or, or_false, false_and, and_false, kx_l, kx_r, go_s, gl_s, gi_s, gb_s2, gb_s3, gq_s, wt_nil, wt_int, wt_long, wt_ref, wt_null, nl_int, nl_long, nl_ref, nl_null, nl_none, rf_n, rf_s, rf_st, tl_s, tl_n, g0, gS, ex1, nb_b, nb_0, nb_1, nf_i, nf_l, nf_ra, nf_ro, nf_na, nf_no, nf_b0, nf_z0, t45_4, t45_5, true_and, and_true, List.set_cons_zero, List.set_cons_succ, List.length_cons, List.length_nil, rd_s, upw_s, ne_eq, not_false_eq_true, Nat.zero_add, Nat.add_zero, if_true, if_false, lt_t (show i.toInt < (19 : Int32).toInt by omega), lg_cmp_gt]
    split
    · next hlt =>
      have h5 := i64_lt hlt
      repeat' first | with_reducible refine And.intro ?_ ?_ | omega
      refine hQ _ i.toInt.toNat (by omega) (by omega) ?_ (by omega)
      rw [i32_add (by omega) (by omega)]
      omega
    · have e1 : (i + 1).toInt = i.toInt + 1 := i32_add (by show -2147483648 ≤ i.toInt + 1; omega) (by show i.toInt + 1 ≤ 2147483647; omega)
      refine ih _ _ (by omega) (by omega) (fun h => ?_)
      rw [i64_mul10 hp (by omega), e1]
      congr 2
      omega
set_option maxHeartbeats 4000000 in
theorem sJ13_stringSize_95d88 {a : Int64} (hQ : ∀ (v : Int32) (kk : Nat), 1 ≤ kk → kk ≤ 19 → (v.toInt = kk + (if a.toInt < 0 then 1 else 0)) → -((10 : Int) ^ kk) < a.toInt → a.toInt < (10 : Int) ^ kk → Q (.inl (some (.int v))) w) : WP (MJ13_stringSize_95d88 g) Q (0, [some (.long a), none, none, none, none, none], [], w, 0, 0) := by
  have e1 : (1 : Int32).toInt = 1 := rfl
  have e0 : (0 : Int32).toInt = 0 := rfl
  have z0 : (0 : Int64).toInt = 0 := rfl
  have m10 : (-10 : Int64).toInt = -10 := by decide
  simp only [eJ13_stringSize_95d88_0, eJ13_stringSize_95d88_8, eJ13_stringSize_95d88_13, eJ13_stringSize_95d88_22, eJ13_stringSize_95d88_27, eJ13_stringSize_95d88_33, eJ13_stringSize_95d88_38, eJ13_stringSize_95d88_50, ite_le, n45, n54, true_or, or_true, false_or, or_false, false_and, and_false, kx_l, kx_r, go_s, gl_s, gi_s, gb_s2, gb_s3, gq_s, wt_nil, wt_int, wt_long, wt_ref, wt_null, nl_int, nl_long, nl_ref, nl_null, nl_none, rf_n, rf_s, rf_st, tl_s, tl_n, g0, gS, ex1, nb_b, nb_0, nb_1, nf_i, nf_l, nf_ra, nf_ro, nf_na, nf_no, nf_b0, nf_z0, t45_4, t45_5, true_and, and_true, List.set_cons_zero, List.set_cons_succ, List.length_cons, List.length_nil, rd_s, upw_s, ne_eq, not_false_eq_true, Nat.zero_add, Nat.add_zero, if_true, if_false, lg_cmp_lt]
  split
  · next h =>
    have h1 := i64_lt h
    refine lJ13_ss (by decide) (by decide) (fun v kk k1 k2 k3 k4 => hQ v kk k1 k2 (by rw [if_pos (by omega)]; omega) k4 (by have := p10p kk; omega)) 18 _ _ (by decide) (by decide) (fun _ => by rw [m10]; rfl)
  · next h =>
    have h1 := i64_nlt h
    have hn : (-a).toInt = -a.toInt := i64_neg (by omega)
    refine lJ13_ss (by decide) (by decide) (fun v kk k1 k2 k3 k4 => hQ v kk k1 k2 (by rw [if_neg (by omega)]; omega) (by have := p10p kk; omega) (by omega)) 18 _ _ (by decide) (by decide) (fun _ => by rw [m10]; rfl)
end
end
