section
variable {g : RO} {Q : Ot → Hw → Prop} {w0 w : Hw} {x nA cA lA : Nat} {kn : Int32}
/-! FUNCTIONAL SPECS, 5: loops -/
def fsum (f : Nat → Int32) : Nat → Int32
  | 0 => 0
  | n + 1 => fsum f n + f n
theorem fsum_s {f : Nat → Int32} {n : Nat} : fsum f n + f n = fsum f (n + 1) := rfl
def fopt (f : Nat → Option Int32) : Nat → Int32
  | 0 => 0
  | n + 1 => match f n with
    | none => fopt f n
    | some v => fopt f n + v
theorem fopt_n {f : Nat → Option Int32} {n : Nat} (h : f n = none) : fopt f (n + 1) = fopt f n := by
  show (match f n with | none => fopt f n | some v => fopt f n + v) = _
  rw [h]
theorem fopt_s {f : Nat → Option Int32} {n : Nat} {v : Int32} (h : f n = some v) : fopt f (n + 1) = fopt f n + v := by
  show (match f n with | none => fopt f n | some v => fopt f n + v) = _
  rw [h]
theorem bI01 (b : Bool) : bI b = 0 ∨ bI b = 1 := by cases b <;> first | exact Or.inl rfl | exact Or.inr rfl
theorem oN1 {j : Nat} : Int32.ofNat j + 1 = Int32.ofNat (j + 1) := (nI_succ j).symm
theorem oNt {j : Nat} (h : j < 1000) : (Int32.ofNat j).toInt = (j : Int) := nI_toInt (by omega)
theorem oNc {j : Nat} (h : j < 1000) : (Int32.ofNat j).toNatClampNeg = j := nI_clamp (by omega)
theorem oN0 {j : Nat} (h : j < 1000) : ¬ Int32.ofNat j < 0 := i32_of_nlt (by
  rw [oNt h]
  show (0 : Int) ≤ (j : Int)
  omega)
theorem oNl {j : Nat} {b : Int32} {B : Nat} (h : j < 1000) (e : b.toInt = (B : Int)) (k : j < B) : Int32.ofNat j < b := i32_of_lt (by rw [oNt h, e]; omega)
theorem oNg {j : Nat} {b : Int32} {B : Nat} (h : j < 1000) (e : b.toInt = (B : Int)) (k : B ≤ j) : ¬ Int32.ofNat j < b := i32_of_nlt (by rw [oNt h, e]; omega)
theorem vX0_holds {p : Nat} {r : R4} {a0 : Int64} (hp : rAt w p r) (hQ : Q (.inl (some (.int (bI (decide (hP r a0)))))) w) : WP (MX0_holds g) Q (0, [some (.ref p), some (.long a0), none], [], w, 0, 0) := fX0_holds hp (fun h => by rw [decide_eq_true h] at hQ; exact hQ) (fun h => by rw [decide_eq_false h] at hQ; exact hQ)
theorem vX0_holdsAsSmall {p : Nat} {r : R4} {a0 : Int64} (hp : rAt w p r) (hQ : Q (.inl (some (.int (bI (decide (sP r ∧ hP r a0)))))) w) : WP (MX0_holdsAsSmall g) Q (0, [some (.ref p), some (.long a0), none], [], w, 0, 0) := fX0_holdsAsSmall hp (fun h => by rw [decide_eq_true h] at hQ; exact hQ) (fun h => by rw [decide_eq_false h] at hQ; exact hQ)
theorem vX0_holdsAs {p : Nat} {r : R4} {a0 : Int64} {a1 : Int32} (hp : rAt w p r) (hQ : Q (.inl (some (.int (bI (decide ((a1 = 0 ∨ sP r) ∧ hP r a0)))))) w) : WP (MX0_holdsAs g) Q (0, [some (.ref p), some (.long a0), none, some (.int a1)], [], w, 0, 0) := fX0_holdsAs hp (fun h => by rw [decide_eq_true h] at hQ; exact hQ) (fun h => by rw [decide_eq_false h] at hQ; exact hQ)
theorem vX1_isSmallNumber {a0 : Int64} (hQ : Q (.inl (some (.int (bI (decide (-2147483648 ≤ a0.toInt ∧ a0.toInt ≤ 2147483647)))))) w) : WP (MX1_isSmallNumber g) Q (0, [some (.long a0), none], [], w, 0, 0) := fX1_isSmallNumber (fun h => by rw [decide_eq_true h] at hQ; exact hQ) (fun h => by rw [decide_eq_false h] at hQ; exact hQ)
/-- how many ends are small numbers -/
def seV (r : R4) : Int32 := fsum (fun j => bI (decide (-2147483648 ≤ (eV r (Int32.ofNat j)).toInt ∧ (eV r (Int32.ofNat j)).toInt ≤ 2147483647))) 4
set_option maxHeartbeats 4000000 in
theorem flX1_smallEnds_4 {p : Nat} {r : R4} (hp : rAt w p r) (hQ : Q (.inl (some (.int (seV r)))) w) : ∀ (d j : Nat)  (k m : Nat), j + d = 4 → k ≤ 0 → m ≤ 0 → WP (MX1_smallEnds g) Q (4, [some (.ref p), some (.int (fsum (fun j => bI (decide (-2147483648 ≤ (eV r (Int32.ofNat j)).toInt ∧ (eV r (Int32.ofNat j)).toInt ≤ 2147483647))) j)), some (.int (Int32.ofNat j))], [], w, k, m) := by
  intro d
  induction d with
  | zero =>
    intro j  k m hjd hk hm
    have h9 : j < 1000 := (by omega)
    have hlt : ¬ Int32.ofNat j < 4 := oNg (B := 4) h9 rfl (by omega)
    have hnn := oN0 h9
    have hcl := oNc h9
    obtain rfl : j = 4 := by omega
    rw [eX1_smallEnds_4]
    repeat' first
      | with_reducible assumption
      | with_reducible refine And.intro ?_ ?_
      | with_reducible exact vpi6 (by assumption) (by assumption)
      | with_reducible exact vpi8 (by assumption) (by assumption)
      | with_reducible exact trivial
      | with_reducible exact go_F hp trivial
      | with_reducible refine fX0_endAt hp ?_
      | with_reducible refine vX1_isSmallNumber ?_
      | with_reducible refine fX1_asNumber (bI01 _) ?_
      | ((with_reducible refine isQ (Q := Q) ?_); exact hQ)
      | simp only [eX1_smallEnds_0, eX1_smallEnds_1, eX1_smallEnds_2, eX1_smallEnds_3, eX1_smallEnds_5, eX1_smallEnds_6, eX1_smallEnds_9, eX1_smallEnds_10, eX1_smallEnds_10N, eX1_smallEnds_11, eX1_smallEnds_12, eX1_smallEnds_15, eX1_smallEnds_18, eX1_smallEnds_21, eX1_smallEnds_22, eX1_smallEnds_23, eX1_smallEnds_26, eX1_smallEnds_29, eX1_smallEnds_30, lgp, lgn, lgz, i10, i00, if_true, if_false, eq_self, not_true, not_false_eq_true, hlt, hcl, ite_le, n45, n54, true_or, or_true, false_or, or_false, false_and, and_false, kx_l, kx_r, go_s, gl_s, gi_s, gb_s2, gb_s3, gq_s, wt_nil, wt_int, wt_long, wt_ref, wt_null, nl_int, nl_long, nl_ref, nl_null, nl_none, rf_n, rf_s, rf_st, tl_s, tl_n, g0, gS, ex1, nb_b, nb_0, nb_1, nf_i, nf_l, nf_ra, nf_ro, nf_na, nf_no, nf_b0, nf_z0, t45_4, t45_5, true_and, and_true, List.set_cons_zero, List.set_cons_succ, List.length_cons, List.length_nil, rd_s, upw_s, ne_eq, not_false_eq_true, Nat.zero_add, Nat.add_zero]
      | split
      | with_reducible intro _
      | omega
  | succ d ih =>
    intro j  k m hjd hk hm
    have h9 : j < 1000 := (by omega)
    have hlt : Int32.ofNat j < 4 := oNl (B := 4) h9 rfl (by omega)
    have hnn := oN0 h9
    have hcl := oNc h9
    rw [eX1_smallEnds_4]
    repeat' first
      | with_reducible assumption
      | with_reducible refine And.intro ?_ ?_
      | with_reducible exact vpi6 (by assumption) (by assumption)
      | with_reducible exact vpi8 (by assumption) (by assumption)
      | with_reducible exact trivial
      | (rw [oN1]; exact ih (j + 1)  _ _ (by omega) (by first | assumption | omega) (by first | assumption | omega))
      | with_reducible exact go_F hp trivial
      | with_reducible refine fX0_endAt hp ?_
      | with_reducible refine vX1_isSmallNumber ?_
      | with_reducible refine fX1_asNumber (bI01 _) ?_
      | ((with_reducible refine isQ (Q := Q) ?_); exact hQ)
      | simp only [eX1_smallEnds_0, eX1_smallEnds_1, eX1_smallEnds_2, eX1_smallEnds_3, eX1_smallEnds_5, eX1_smallEnds_6, eX1_smallEnds_9, eX1_smallEnds_10, eX1_smallEnds_10N, eX1_smallEnds_11, eX1_smallEnds_12, eX1_smallEnds_15, eX1_smallEnds_18, eX1_smallEnds_21, eX1_smallEnds_22, eX1_smallEnds_23, eX1_smallEnds_26, eX1_smallEnds_29, eX1_smallEnds_30, lgp, lgn, lgz, i10, i00, if_true, if_false, eq_self, not_true, not_false_eq_true, hlt, hcl, ite_le, n45, n54, true_or, or_true, false_or, or_false, false_and, and_false, kx_l, kx_r, go_s, gl_s, gi_s, gb_s2, gb_s3, gq_s, wt_nil, wt_int, wt_long, wt_ref, wt_null, nl_int, nl_long, nl_ref, nl_null, nl_none, rf_n, rf_s, rf_st, tl_s, tl_n, g0, gS, ex1, nb_b, nb_0, nb_1, nf_i, nf_l, nf_ra, nf_ro, nf_na, nf_no, nf_b0, nf_z0, t45_4, t45_5, true_and, and_true, List.set_cons_zero, List.set_cons_succ, List.length_cons, List.length_nil, rd_s, upw_s, ne_eq, not_false_eq_true, Nat.zero_add, Nat.add_zero]
      | split
      | with_reducible intro _
      | omega
set_option maxHeartbeats 4000000 in
theorem fX1_smallEnds {p : Nat} {r : R4} (hp : rAt w p r) (hQ : Q (.inl (some (.int (seV r)))) w) : WP (MX1_smallEnds g) Q (0, [some (.ref p), none, none], [], w, 0, 0) := by
  repeat' first
    | with_reducible assumption
    | with_reducible refine And.intro ?_ ?_
    | with_reducible exact vpi6 (by assumption) (by assumption)
    | with_reducible exact vpi8 (by assumption) (by assumption)
    | with_reducible exact trivial
    | ((with_reducible refine isWP (pc := 4) ?_); exact flX1_smallEnds_4 hp hQ 4 0 _ _ rfl (by decide) (by decide))
    | simp only [eX1_smallEnds_0, eX1_smallEnds_1, eX1_smallEnds_2, eX1_smallEnds_3, eX1_smallEnds_5, eX1_smallEnds_6, eX1_smallEnds_9, eX1_smallEnds_10, eX1_smallEnds_10N, eX1_smallEnds_11, eX1_smallEnds_12, eX1_smallEnds_15, eX1_smallEnds_18, eX1_smallEnds_21, eX1_smallEnds_22, eX1_smallEnds_23, eX1_smallEnds_26, eX1_smallEnds_29, eX1_smallEnds_30, lgp, lgn, lgz, i10, i00, if_true, if_false, eq_self, not_true, not_false_eq_true, ite_le, n45, n54, true_or, or_true, false_or, or_false, false_and, and_false, kx_l, kx_r, go_s, gl_s, gi_s, gb_s2, gb_s3, gq_s, wt_nil, wt_int, wt_long, wt_ref, wt_null, nl_int, nl_long, nl_ref, nl_null, nl_none, rf_n, rf_s, rf_st, tl_s, tl_n, g0, gS, ex1, nb_b, nb_0, nb_1, nf_i, nf_l, nf_ra, nf_ro, nf_na, nf_no, nf_b0, nf_z0, t45_4, t45_5, true_and, and_true, List.set_cons_zero, List.set_cons_succ, List.length_cons, List.length_nil, rd_s, upw_s, ne_eq, not_false_eq_true, Nat.zero_add, Nat.add_zero]
    | split
    | with_reducible intro _
    | omega
end
