section
section
variable {g : RO} {Q : Ot → Hw → Prop} {w0 w : Hw} {y nM : Nat} {kd th : Int32} {s : AS}
theorem rowA_nw {q : Nat} {a b c d : Int64} : rowA (upw w q (.inl (0, 4, .inr (.inl (vp_updL (vp_updL (vp_updL (vp_updL (fun _ => 0) (0 : Int32).toNatClampNeg a) (1 : Int32).toNatClampNeg b) (2 : Int32).toNatClampNeg c) (3 : Int32).toNatClampNeg d))))) q (a, b, c, d) := upw_s _ _ _
/-- two rows compared: each place so far -/
def eqF (r t : R4) : Nat → Int32
  | 0 => 1
  | j + 1 => eqF r t j &&& (if (rV r j).toInt = (rV t j).toInt then 1 else 0)
theorem eqF_t {r t : R4} {j : Nat} (h : (rV r j).toInt = (rV t j).toInt) : eqF r t j &&& 1 = eqF r t (j + 1) := by
  show _ = eqF r t j &&& (if (rV r j).toInt = (rV t j).toInt then 1 else 0)
  rw [if_pos h]
theorem eqF_f {r t : R4} {j : Nat} (h : ¬ (rV r j).toInt = (rV t j).toInt) : eqF r t j &&& 0 = eqF r t (j + 1) := by
  show _ = eqF r t j &&& (if (rV r j).toInt = (rV t j).toInt then 1 else 0)
  rw [if_neg h]
theorem eqF_4 {r t : R4} : eqF r t 4 = (((1 &&& (if r.1.toInt = t.1.toInt then 1 else 0)) &&& (if r.2.1.toInt = t.2.1.toInt then 1 else 0)) &&& (if r.2.2.1.toInt = t.2.2.1.toInt then 1 else 0)) &&& (if r.2.2.2.toInt = t.2.2.2.toInt then 1 else 0) := rfl
theorem eqF_T {r t : R4} (h : mP r t) : eqF r t 4 = 1 := by
  rw [eqF_4, if_pos h.1, if_pos h.2.1, if_pos h.2.2.1, if_pos h.2.2.2]
  decide
theorem eqF_F {r t : R4} (h : ¬ mP r t) : eqF r t 4 = 0 := by
  rw [eqF_4]
  by_cases h1 : r.1.toInt = t.1.toInt
  · by_cases h2 : r.2.1.toInt = t.2.1.toInt
    · by_cases h3 : r.2.2.1.toInt = t.2.2.1.toInt
      · by_cases h4 : r.2.2.2.toInt = t.2.2.2.toInt
        · exact absurd ⟨h1, h2, h3, h4⟩ h
        · rw [if_pos h1, if_pos h2, if_pos h3, if_neg h4]
          decide
      · rw [if_pos h1, if_pos h2, if_neg h3]
        split <;> decide
    · rw [if_pos h1, if_neg h2]
      split <;> split <;> decide
  · rw [if_neg h1]
    split <;> split <;> split <;> decide
theorem eqF_b {r t : R4} {v : Int32} (h : v = 1 ∨ v = 0) : narrow .boolean (.int v) = .int v := by rcases h with rfl | rfl <;> rfl
theorem eqF_z {r t : R4} : eqF r t 4 = 1 ∨ eqF r t 4 = 0 := by
  by_cases h : mP r t
  · exact Or.inl (eqF_T h)
  · exact Or.inr (eqF_F h)
theorem nbF {r t : R4} : narrow .boolean (.int (eqF r t 4)) = .int (eqF r t 4) := eqF_b (r := r) (t := t) eqF_z
theorem vpi4j {j : Nat} (h : j < 4) : vp_in (Int32.ofNat j) 4 := by
  have h9 : j < 1000 := by omega
  refine vpi (oN0 h9) (i32_of_lt (b := 4) ?_) (by decide)
  rw [oNt h9]
  show (j : Int) < 4
  omega
set_option maxHeartbeats 4000000 in
theorem flX3_same_4 {p q : Nat} {r t : R4} (hp : rowA w p r) (hq : rowA w q t) (hQ : Q (.inl (some (.int (eqF r t 4)))) w) : ∀ (d j : Nat)  (kz mz : Nat), j + d = 4 → kz ≤ 0 → mz ≤ 0 → WP (MX3_same g) Q (4, [some (.ref p), some (.ref q), some (.int (eqF r t j)), some (.int (Int32.ofNat j))], [], w, kz, mz) := by
  intro d
  induction d with
  | zero =>
    intro j  kz mz hjd hkz hmz
    have h9 : j < 1000 := (by omega)
    have hlt : ¬ Int32.ofNat j < 4 := oNg (B := 4) h9 rfl (by omega)
    have hnn := oN0 h9
    have hcl := oNc h9
    obtain rfl : j = 4 := by omega
    rw [eX3_same_4]
    simp only [eX3_same_5, eX3_same_9, eX3_same_13, eX3_same_16, eX3_same_20, eX3_same_24, eX3_same_25, eX3_same_33, lgz, if_false, hlt, hcl, ite_le, nl_int, nl_ref]
    with_reducible refine And.intro ?_ ?_
    with_reducible exact nbF
    with_reducible refine And.intro ?_ ?_
    with_reducible assumption
    with_reducible refine And.intro ?_ ?_
    with_reducible assumption
    with_reducible assumption
  | succ d ih =>
    intro j  kz mz hjd hkz hmz
    have h9 : j < 1000 := (by omega)
    have hlt : Int32.ofNat j < 4 := oNl (B := 4) h9 rfl (by omega)
    have hjN : j < 4 := by omega
    have hnn := oN0 h9
    have hcl := oNc h9
    rw [eX3_same_4]
    simp only [eX3_same_5, eX3_same_9, eX3_same_13, eX3_same_16, eX3_same_20, eX3_same_24, eX3_same_25, eX3_same_33, lgz, if_true, hlt, hcl, ite_le, nl_int, nl_ref]
    with_reducible refine gl_A hp ?_
    with_reducible refine And.intro ?_ ?_
    with_reducible exact vpi4j (by omega)
    with_reducible refine gl_A hq ?_
    with_reducible refine And.intro ?_ ?_
    with_reducible exact vpi4j (by omega)
    with_reducible refine itx (fun _ => ?_) (fun _ => ?_)
    (rw [oN1, eqF_t (by assumption)]; exact ih (j + 1)  _ _ (by omega) (by first | assumption | omega) (by first | assumption | omega))
    (rw [oN1, eqF_f (by assumption)]; exact ih (j + 1)  _ _ (by omega) (by first | assumption | omega) (by first | assumption | omega))
set_option maxHeartbeats 4000000 in
theorem fX3_same {p q : Nat} {r t : R4} (hp : rowA w p r) (hq : rowA w q t) (hT : mP r t → Q (.inl (some (.int 1))) w) (hF : ¬ mP r t → Q (.inl (some (.int 0))) w) : WP (MX3_same g) Q (0, [some (.ref p), some (.ref q), none, none], [], w, 0, 0) := by
  have hQ : Q (.inl (some (.int (eqF r t 4)))) w := by
    by_cases h : mP r t
    · rw [eqF_T h]
      exact hT h
    · rw [eqF_F h]
      exact hF h
  simp only [eX3_same_0, nl_int, nl_ref]
  ((with_reducible refine isWP (pc := 4) ?_); exact flX3_same_4 hp hq hQ 4 0 _ _ rfl (by decide) (by decide))
set_option maxHeartbeats 4000000 in
theorem fX3_areInOrder {a0 a1 a2 a3 : Int64}  (hT : oP a0 a1 a2 a3 → Q (.inl (some (.int 1))) w) (hF : ¬ (oP a0 a1 a2 a3) → Q (.inl (some (.int 0))) w) : WP (MX3_areInOrder g) Q (0, [some (.long a0), none, some (.long a1), none, some (.long a2), none, some (.long a3), none], [], w, 0, 0) := by
  simp only [eX3_areInOrder_0, eX3_areInOrder_6, eX3_areInOrder_14, eX3_areInOrder_21, eX3_areInOrder_28, eX3_areInOrder_32, eX3_areInOrder_33, lgp, nb_0, nb_1, true_and]
  with_reducible refine itx (fun _ => ?_) (fun _ => ?_)
  with_reducible refine And.intro ?_ ?_
  omega
  with_reducible refine And.intro ?_ ?_
  omega
  with_reducible exact hF (by omega)
  with_reducible refine itx (fun _ => ?_) (fun _ => ?_)
  with_reducible refine And.intro ?_ ?_
  omega
  with_reducible refine And.intro ?_ ?_
  omega
  with_reducible exact hF (by omega)
  with_reducible refine itx (fun _ => ?_) (fun _ => ?_)
  with_reducible refine And.intro ?_ ?_
  omega
  with_reducible refine And.intro ?_ ?_
  omega
  with_reducible exact hF (by omega)
  with_reducible refine itx (fun _ => ?_) (fun _ => ?_)
  with_reducible refine And.intro ?_ ?_
  omega
  with_reducible refine And.intro ?_ ?_
  omega
  with_reducible exact hF (by omega)
  with_reducible refine And.intro ?_ ?_
  omega
  with_reducible refine And.intro ?_ ?_
  omega
  with_reducible exact hT (by omega)
set_option maxHeartbeats 4000000 in
theorem fX3_fixed {p : Nat} {r : R4} (hp : rowA w p r) (hT : fP r → Q (.inl (some (.int 1))) w) (hF : ¬ (fP r) → Q (.inl (some (.int 0))) w) : WP (MX3_fixed g) Q (0, [some (.ref p)], [], w, 0, 0) := by
  simp only [eX3_fixed_0, eX3_fixed_3, eX3_fixed_6, eX3_fixed_10, eX3_fixed_13, eX3_fixed_16, eX3_fixed_20, eX3_fixed_24, eX3_fixed_25, lgz, nb_0, nb_1, true_and]
  with_reducible refine gl_A (by assumption) ?_
  with_reducible refine And.intro ?_ ?_
  with_reducible exact vpi4.1
  with_reducible refine gl_A (by assumption) ?_
  with_reducible refine And.intro ?_ ?_
  with_reducible exact vpi4.2.1
  simp only [rv0, rv1]
  with_reducible refine itx (fun _ => ?_) (fun _ => ?_)
  with_reducible refine gl_A (by assumption) ?_
  with_reducible refine And.intro ?_ ?_
  with_reducible exact vpi4.2.2.1
  with_reducible refine gl_A (by assumption) ?_
  with_reducible refine And.intro ?_ ?_
  with_reducible exact vpi4.2.2.2
  simp only [rv2, rv3]
  with_reducible refine itx (fun _ => ?_) (fun _ => ?_)
  with_reducible refine And.intro ?_ ?_
  omega
  with_reducible refine And.intro ?_ ?_
  omega
  with_reducible exact hT (by omega)
  with_reducible refine And.intro ?_ ?_
  omega
  with_reducible refine And.intro ?_ ?_
  omega
  with_reducible exact hF (by omega)
  with_reducible refine And.intro ?_ ?_
  omega
  with_reducible refine And.intro ?_ ?_
  omega
  with_reducible exact hF (by omega)
set_option maxHeartbeats 4000000 in
theorem fX3_small {p : Nat} {r : R4} (hp : rowA w p r) (hT : sP r → Q (.inl (some (.int 1))) w) (hF : ¬ (sP r) → Q (.inl (some (.int 0))) w) : WP (MX3_small g) Q (0, [some (.ref p)], [], w, 0, 0) := by
  simp only [eX3_small_0, eX3_small_3, eX3_small_10, eX3_small_13, eX3_small_20, eX3_small_24, eX3_small_25, lgp, lgn, lmi, lmx, nb_0, nb_1, true_and]
  with_reducible refine gl_A (by assumption) ?_
  with_reducible refine And.intro ?_ ?_
  with_reducible exact vpi4.1
  simp only [rv0]
  with_reducible refine itx (fun _ => ?_) (fun _ => ?_)
  with_reducible refine And.intro ?_ ?_
  omega
  with_reducible refine And.intro ?_ ?_
  omega
  with_reducible exact hF (by omega)
  with_reducible refine gl_A (by assumption) ?_
  with_reducible refine And.intro ?_ ?_
  with_reducible exact vpi4.2.2.2
  simp only [rv3]
  with_reducible refine itx (fun _ => ?_) (fun _ => ?_)
  with_reducible refine And.intro ?_ ?_
  omega
  with_reducible refine And.intro ?_ ?_
  omega
  with_reducible exact hF (by omega)
  with_reducible refine And.intro ?_ ?_
  omega
  with_reducible refine And.intro ?_ ?_
  omega
  with_reducible exact hT (by omega)
set_option maxHeartbeats 4000000 in
theorem fX3_valid {p : Nat} {r : R4} {a : Int64} {b : Int32} (hp : rowA w p r) (hT : ((b = 0 ∨ sP r) ∧ hP r a) → Q (.inl (some (.int 1))) w) (hF : ¬ ((b = 0 ∨ sP r) ∧ hP r a) → Q (.inl (some (.int 0))) w) : WP (MX3_valid g) Q (0, [some (.ref p), some (.long a), none, some (.int b)], [], w, 0, 0) := by
  simp only [eX3_valid_0, eX3_valid_4, eX3_valid_8, eX3_valid_12, eX3_valid_16, eX3_valid_20, eX3_valid_27, eX3_valid_31, eX3_valid_32, lgp, lgn, wt_nil, nb_0, nb_1, true_and, Nat.add_zero]
  with_reducible refine gl_A (by assumption) ?_
  with_reducible refine And.intro ?_ ?_
  with_reducible exact vpi4.1
  simp only [rv0]
  with_reducible refine itx (fun _ => ?_) (fun _ => ?_)
  with_reducible refine And.intro ?_ ?_
  omega
  with_reducible refine And.intro ?_ ?_
  omega
  with_reducible exact hF (fun h => absurd h.2 (by omega))
  with_reducible refine gl_A (by assumption) ?_
  with_reducible refine And.intro ?_ ?_
  with_reducible exact vpi4.2.2.2
  simp only [rv3]
  with_reducible refine itx (fun _ => ?_) (fun _ => ?_)
  with_reducible refine And.intro ?_ ?_
  omega
  with_reducible refine And.intro ?_ ?_
  omega
  with_reducible exact hF (fun h => absurd h.2 (by omega))
  with_reducible refine itx (fun _ => ?_) (fun _ => ?_)
  with_reducible refine And.intro ?_ ?_
  omega
  with_reducible refine And.intro ?_ ?_
  omega
  with_reducible exact hT ⟨Or.inl (by assumption), by omega⟩
  with_reducible refine And.intro ?_ ?_
  omega
  with_reducible refine And.intro ?_ ?_
  omega
  with_reducible refine And.intro ?_ ?_
  omega
  with_reducible refine fX3_small hp (fun _ => ?_) (fun _ => ?_)
  simp only [eX3_valid_24, eX3_valid_27, eX3_valid_31, eX3_valid_32, i10, if_false, kx_l, tl_s, nb_0, nb_1, true_and]
  with_reducible refine And.intro ?_ ?_
  omega
  with_reducible refine And.intro ?_ ?_
  omega
  with_reducible exact hT ⟨Or.inr (by assumption), by omega⟩
  simp only [eX3_valid_24, eX3_valid_27, eX3_valid_31, eX3_valid_32, if_true, kx_l, tl_s, nb_0, nb_1, true_and]
  with_reducible refine And.intro ?_ ?_
  omega
  with_reducible refine And.intro ?_ ?_
  omega
  with_reducible exact hF (fun h => h.1.elim (fun e => absurd e (by assumption)) (fun e => absurd e (by assumption)))
set_option maxHeartbeats 4000000 in
theorem fX3_isBare {a : Int32} (hM : MS g w0 y nM kd th s w) (k : okC a) (h1 : s.2.1 a.toNatClampNeg = none → Q (.inl (some (.int 1))) w) (h0 : ∀ r, s.2.1 a.toNatClampNeg = some r → Q (.inl (some (.int 0))) w) : WP (MX3_isBare g) Q (0, [some (.ref y), some (.int a)], [], w, 0, 0) := by
  simp only [eX3_isBare_0, eX3_isBare_1, eX3_isBare_4]
  with_reducible refine go_S (by assumption) (fun _ _ hY => ?_)
  simp only [eX3_isBare_5, wt_nil, g0, gS, ex1, Nat.add_zero]
  with_reducible refine And.intro ?_ ?_
  with_reducible exact MS.gC (by assumption) (by assumption)
  with_reducible refine And.intro ?_ ?_
  omega
  with_reducible refine And.intro ?_ ?_
  omega
  with_reducible refine And.intro ?_ ?_
  omega
  with_reducible refine sGetF (by assumption) (by assumption) k (fun _ => ?_) (fun _ _ _ hb => ?_)
  simp only [eX3_isBare_8N, eX3_isBare_11, eX3_isBare_16, kx_l, tl_s, nb_1, true_and]
  with_reducible refine And.intro ?_ ?_
  omega
  with_reducible refine And.intro ?_ ?_
  omega
  with_reducible exact h1 (by assumption)
  simp only [eX3_isBare_8R, eX3_isBare_15, eX3_isBare_16, kx_l, tl_s, nb_0, true_and]
  with_reducible refine And.intro ?_ ?_
  omega
  with_reducible refine And.intro ?_ ?_
  omega
  with_reducible exact h0 _ (by assumption)
set_option maxHeartbeats 4000000 in
theorem fX3_make {a : Int32} {p q r t : Int64} (hM : MS g w0 y nM kd th s w) (k : okC a) (hT : oP p q r t → ∀ w', MS g w0 y nM kd th (sMk s a.toNatClampNeg (p, q, r, t)) w' → Q (.inl (some (.int 1))) w') (hF : ¬ oP p q r t → ∀ w', MS g w0 y nM kd th (sRf s) w' → Q (.inl (some (.int (-9)))) w') : WP (MX3_make g) Q (0, [some (.ref y), some (.int a), some (.long p), none, some (.long q), none, some (.long r), none, some (.long t), none], [], w, 0, 0) := by
  simp only [eX3_make_0, wt_nil, Nat.add_zero]
  with_reducible refine And.intro ?_ ?_
  omega
  with_reducible refine And.intro ?_ ?_
  omega
  with_reducible refine And.intro ?_ ?_
  omega
  with_reducible refine fX3_areInOrder (fun hyes => ?_) (fun hno => ?_)
  simp only [eX3_make_10, eX3_make_13, eX3_make_18, eX3_make_22, eX3_make_26R, eX3_make_30R, eX3_make_35R, eX3_make_40R, i10, if_false, n4e, upw2q, kx_l, gl_s, wt_nil, tl_s, upw_s, Nat.zero_add, Nat.add_zero]
  with_reducible refine go_S hM (fun _ _ hY => ?_)
  simp only [eX3_make_45R, wt_nil, g0, gS, ex1, Nat.add_zero]
  with_reducible refine And.intro ?_ ?_
  with_reducible exact n4a
  with_reducible refine And.intro ?_ ?_
  omega
  with_reducible refine And.intro ?_ ?_
  omega
  with_reducible refine And.intro ?_ ?_
  omega
  with_reducible intro _
  with_reducible intro _
  with_reducible refine And.intro ?_ ?_
  with_reducible exact vpi4.1
  with_reducible refine And.intro ?_ ?_
  with_reducible exact vpi4.2.1
  with_reducible refine And.intro ?_ ?_
  with_reducible exact vpi4.2.2.1
  with_reducible refine And.intro ?_ ?_
  with_reducible exact vpi4.2.2.2
  with_reducible refine And.intro ?_ ?_
  with_reducible exact MS.gC (MS.fr hM (by assumption)) (isY.fr hY (by assumption))
  with_reducible refine And.intro ?_ ?_
  omega
  with_reducible refine And.intro ?_ ?_
  omega
  with_reducible refine And.intro ?_ ?_
  omega
  (with_reducible refine sSetFR (MS.fr hM (by assumption)) (isY.fr hY (by assumption)) rowA_nw k (fun w1 h1 => ?_) (fun _ w1 h1 => ?_))
  simp only [eX3_make_48N, eX3_make_49, eX3_make_54, kx_l, tl_s]
  with_reducible refine go_S h1 (fun _ _ hY1 => ?_)
  simp only [eX3_make_55, eX3_make_59, g0, gS, ex1, nf_i, true_and]
  with_reducible refine go_Sw h1 (fun _ _ _ hw => ?_)
  with_reducible refine And.intro ?_ ?_
  simp only [List.length_cons, List.length_nil, Nat.zero_add]
  omega
  with_reducible refine And.intro ?_ ?_
  omega
  with_reducible refine And.intro ?_ ?_
  omega
  ((with_reducible refine isQ (Q := Q) ?_); exact hT hyes _ (hw _ _ _ _))
  simp only [eX3_make_48R, eX3_make_49, eX3_make_54, kx_l, tl_s]
  with_reducible refine go_S h1 (fun _ _ hY1 => ?_)
  simp only [eX3_make_55, eX3_make_59, g0, gS, ex1, nf_i, true_and]
  with_reducible refine go_Sw h1 (fun _ _ _ hw => ?_)
  with_reducible refine And.intro ?_ ?_
  simp only [List.length_cons, List.length_nil, Nat.zero_add]
  omega
  with_reducible refine And.intro ?_ ?_
  omega
  with_reducible refine And.intro ?_ ?_
  omega
  ((with_reducible refine isQ (Q := Q) ?_); exact hT hyes _ (hw _ _ _ _))
  simp only [eX3_make_10, eX3_make_13, eX3_make_18, eX3_make_22, eX3_make_26R, eX3_make_30R, eX3_make_35R, eX3_make_40R, if_true, n4e, upw2q, kx_l, gl_s, wt_nil, tl_s, upw_s, Nat.zero_add, Nat.add_zero]
  with_reducible refine And.intro ?_ ?_
  with_reducible refine go_S hM (fun _ _ hY => ?_)
  with_reducible exact trivial
  with_reducible refine And.intro ?_ ?_
  omega
  with_reducible refine And.intro ?_ ?_
  omega
  with_reducible refine And.intro ?_ ?_
  omega
  with_reducible refine fX3_no hM (fun w1 h1 => ?_)
  simp only [eX3_make_17, kx_l, tl_s]
  with_reducible refine And.intro ?_ ?_
  omega
  with_reducible refine And.intro ?_ ?_
  omega
  with_reducible exact hF hno _ h1
theorem fX3_makeR {a : Int32} {p q r t : Int64} (hM : MS g w0 y nM kd th s w) (k : okC a) (hT : oP p q r t → ∀ w', MS g w0 y nM kd th (sMk s a.toNatClampNeg (p, q, r, t)) w' → MS g w y nM kd th (sMk s a.toNatClampNeg (p, q, r, t)) w' → Q (.inl (some (.int 1))) w') (hF : ¬ oP p q r t → ∀ w', MS g w0 y nM kd th (sRf s) w' → Q (.inl (some (.int (-9)))) w') : WP (MX3_make g) Q (0, [some (.ref y), some (.int a), some (.long p), none, some (.long q), none, some (.long r), none, some (.long t), none], [], w, 0, 0) := fX3_make hM.st k (fun e w' h => hT e w' (hM.cat h) h) (fun e w' h => hF e w' (hM.cat h))
set_option maxHeartbeats 4000000 in
theorem fX3_isNoPair {a c : Int32} (hM : MS g w0 y nM kd th s w) (hX : ¬ (okC a ∧ okC c) → ∀ w', MS g w0 y nM kd 1 s w' → Q (.inl (some (.int 1))) w') (hS : okC a → okC c → s.2.1 c.toNatClampNeg = none → ∀ w', MS g w0 y nM kd 2 s w' → Q (.inl (some (.int 1))) w') (hQ : okC a → okC c → ∀ r, s.2.1 c.toNatClampNeg = some r → ∀ w', MS g w0 y nM kd 0 s w' → Q (.inl (some (.int 0))) w') : WP (MX3_isNoPair g) Q (0, [some (.ref y), some (.int a), some (.int c)], [], w, 0, 0) := by
  simp only [eX3_isNoPair_0, wt_nil, wt_ref, Nat.add_zero]
  with_reducible refine And.intro ?_ ?_
  omega
  with_reducible refine And.intro ?_ ?_
  omega
  with_reducible refine And.intro ?_ ?_
  omega
  with_reducible refine fX3_isNoCard (fun _ => ?_) (fun _ => ?_)
  simp only [eX3_isNoPair_5, eX3_isNoPair_8, eX3_isNoPair_15, eX3_isNoPair_20, i10, if_false, kx_l, wt_nil, wt_ref, tl_s, Nat.add_zero]
  with_reducible refine And.intro ?_ ?_
  with_reducible refine go_S (by assumption) (fun _ _ hY => ?_)
  with_reducible exact trivial
  with_reducible refine And.intro ?_ ?_
  omega
  with_reducible refine And.intro ?_ ?_
  omega
  with_reducible refine And.intro ?_ ?_
  omega
  with_reducible refine fX3_start (by assumption) (by decide) (fun _ w1 h1 => ?_) (fun _ w1 h1 => ?_)
  with_reducible exact absurd (by assumption) n10'
  simp only [eX3_isNoPair_24, eX3_isNoPair_27, eX3_isNoPair_33, eX3_isNoPair_40, eX3_isNoPair_45, i10, if_false, kx_l, wt_nil, wt_ref, tl_s, nb_1, true_and, Nat.add_zero]
  with_reducible refine And.intro ?_ ?_
  omega
  with_reducible refine And.intro ?_ ?_
  omega
  with_reducible exact hX (fun h => absurd h.1 (by assumption)) _ (by assumption)
  simp only [eX3_isNoPair_5, eX3_isNoPair_8, eX3_isNoPair_15, eX3_isNoPair_20, if_true, kx_l, wt_nil, wt_ref, tl_s, Nat.add_zero]
  with_reducible refine And.intro ?_ ?_
  omega
  with_reducible refine And.intro ?_ ?_
  omega
  with_reducible refine And.intro ?_ ?_
  omega
  with_reducible refine fX3_isNoCard (fun _ => ?_) (fun _ => ?_)
  simp only [eX3_isNoPair_12, eX3_isNoPair_15, eX3_isNoPair_19, eX3_isNoPair_20, i10, if_false, kx_l, wt_nil, tl_s, Nat.add_zero]
  with_reducible refine And.intro ?_ ?_
  with_reducible refine go_S (by assumption) (fun _ _ hY => ?_)
  with_reducible exact trivial
  with_reducible refine And.intro ?_ ?_
  omega
  with_reducible refine And.intro ?_ ?_
  omega
  with_reducible refine And.intro ?_ ?_
  omega
  with_reducible refine fX3_start (by assumption) (by decide) (fun _ w1 h1 => ?_) (fun _ w1 h1 => ?_)
  with_reducible exact absurd (by assumption) n10'
  simp only [eX3_isNoPair_24, eX3_isNoPair_27, eX3_isNoPair_33, eX3_isNoPair_40, eX3_isNoPair_45, i10, if_false, kx_l, wt_nil, wt_ref, tl_s, nb_1, true_and, Nat.add_zero]
  with_reducible refine And.intro ?_ ?_
  omega
  with_reducible refine And.intro ?_ ?_
  omega
  with_reducible exact hX (fun h => absurd h.2 (by assumption)) _ (by assumption)
  simp only [eX3_isNoPair_12, eX3_isNoPair_15, eX3_isNoPair_19, eX3_isNoPair_20, if_true, kx_l, wt_nil, tl_s, Nat.add_zero]
  with_reducible refine And.intro ?_ ?_
  with_reducible refine go_S (by assumption) (fun _ _ hY => ?_)
  with_reducible exact trivial
  with_reducible refine And.intro ?_ ?_
  omega
  with_reducible refine And.intro ?_ ?_
  omega
  with_reducible refine And.intro ?_ ?_
  omega
  with_reducible refine fX3_start (by assumption) (by decide) (fun _ w1 h1 => ?_) (fun _ w1 h1 => ?_)
  simp only [eX3_isNoPair_24, eX3_isNoPair_27, eX3_isNoPair_33, eX3_isNoPair_40, eX3_isNoPair_45, if_true, kx_l, wt_nil, wt_ref, tl_s, nb_1, true_and, Nat.add_zero]
  with_reducible refine And.intro ?_ ?_
  with_reducible refine go_S (by assumption) (fun _ _ hY => ?_)
  with_reducible exact trivial
  with_reducible refine And.intro ?_ ?_
  omega
  with_reducible refine And.intro ?_ ?_
  omega
  with_reducible refine And.intro ?_ ?_
  omega
  with_reducible refine fX3_isBare (by assumption) (by assumption) (fun _ => ?_) (fun _ _ => ?_)
  simp only [eX3_isNoPair_34, kx_l, wt_nil, tl_s, Nat.add_zero]
  with_reducible refine And.intro ?_ ?_
  with_reducible refine go_S (by assumption) (fun _ _ hY => ?_)
  with_reducible exact trivial
  with_reducible refine And.intro ?_ ?_
  omega
  with_reducible refine And.intro ?_ ?_
  omega
  with_reducible refine And.intro ?_ ?_
  omega
  with_reducible refine fX3_refuse (by assumption) (by decide) (fun _ => ?_) (fun _ w2 h2 => ?_)
  with_reducible exact absurd (by assumption) n10'
  simp only [eX3_isNoPair_37, eX3_isNoPair_40, eX3_isNoPair_44, eX3_isNoPair_45, i10, if_false, kx_l, tl_s, nb_0, nb_1, true_and]
  with_reducible refine And.intro ?_ ?_
  omega
  with_reducible refine And.intro ?_ ?_
  omega
  with_reducible exact hS (by assumption) (by assumption) (by assumption) _ (by assumption)
  simp only [eX3_isNoPair_34, kx_l, wt_nil, tl_s, Nat.add_zero]
  with_reducible refine And.intro ?_ ?_
  with_reducible refine go_S (by assumption) (fun _ _ hY => ?_)
  with_reducible exact trivial
  with_reducible refine And.intro ?_ ?_
  omega
  with_reducible refine And.intro ?_ ?_
  omega
  with_reducible refine And.intro ?_ ?_
  omega
  with_reducible refine fX3_refuse (by assumption) (by decide) (fun _ => ?_) (fun _ w2 h2 => ?_)
  simp only [eX3_isNoPair_37, eX3_isNoPair_40, eX3_isNoPair_44, eX3_isNoPair_45, if_true, kx_l, tl_s, nb_0, nb_1, true_and]
  with_reducible refine And.intro ?_ ?_
  omega
  with_reducible refine And.intro ?_ ?_
  omega
  with_reducible exact hQ (by assumption) (by assumption) _ (by assumption) _ (by assumption)
  with_reducible exact n00x (by assumption)
  with_reducible exact n00x (by assumption)
set_option maxHeartbeats 4000000 in
theorem fX3_isNone {a : Int32} (hM : MS g w0 y nM kd th s w) (hX : ¬ (okC a) → ∀ w', MS g w0 y nM kd 1 s w' → Q (.inl (some (.int 1))) w') (hS : okC a → s.2.1 a.toNatClampNeg = none → ∀ w', MS g w0 y nM kd 2 s w' → Q (.inl (some (.int 1))) w') (hQ : okC a → ∀ r, s.2.1 a.toNatClampNeg = some r → ∀ w', MS g w0 y nM kd 0 s w' → Q (.inl (some (.int 0))) w') : WP (MX3_isNone g) Q (0, [some (.ref y), some (.int a)], [], w, 0, 0) := by
  simp only [eX3_isNone_0, eX3_isNone_5, wt_nil, wt_ref, Nat.add_zero]
  with_reducible refine And.intro ?_ ?_
  omega
  with_reducible refine And.intro ?_ ?_
  omega
  with_reducible refine And.intro ?_ ?_
  omega
  with_reducible refine fX3_isNoCard (fun _ => ?_) (fun _ => ?_)
  simp only [eX3_isNone_6, kx_l, wt_nil, tl_s, Nat.add_zero]
  with_reducible refine And.intro ?_ ?_
  with_reducible refine go_S (by assumption) (fun _ _ hY => ?_)
  with_reducible exact trivial
  with_reducible refine And.intro ?_ ?_
  omega
  with_reducible refine And.intro ?_ ?_
  omega
  with_reducible refine And.intro ?_ ?_
  omega
  with_reducible refine fX3_start (by assumption) (by decide) (fun _ w1 h1 => ?_) (fun _ w1 h1 => ?_)
  with_reducible exact absurd (by assumption) n10'
  simp only [eX3_isNone_9, eX3_isNone_12, eX3_isNone_18, eX3_isNone_25, eX3_isNone_30, i10, if_false, kx_l, wt_nil, wt_ref, tl_s, nb_1, true_and, Nat.add_zero]
  with_reducible refine And.intro ?_ ?_
  omega
  with_reducible refine And.intro ?_ ?_
  omega
  with_reducible exact hX (fun h => absurd h (by assumption)) _ (by assumption)
  simp only [eX3_isNone_6, kx_l, wt_nil, tl_s, Nat.add_zero]
  with_reducible refine And.intro ?_ ?_
  with_reducible refine go_S (by assumption) (fun _ _ hY => ?_)
  with_reducible exact trivial
  with_reducible refine And.intro ?_ ?_
  omega
  with_reducible refine And.intro ?_ ?_
  omega
  with_reducible refine And.intro ?_ ?_
  omega
  with_reducible refine fX3_start (by assumption) (by decide) (fun _ w1 h1 => ?_) (fun _ w1 h1 => ?_)
  simp only [eX3_isNone_9, eX3_isNone_12, eX3_isNone_18, eX3_isNone_25, eX3_isNone_30, if_true, kx_l, wt_nil, wt_ref, tl_s, nb_1, true_and, Nat.add_zero]
  with_reducible refine And.intro ?_ ?_
  with_reducible refine go_S (by assumption) (fun _ _ hY => ?_)
  with_reducible exact trivial
  with_reducible refine And.intro ?_ ?_
  omega
  with_reducible refine And.intro ?_ ?_
  omega
  with_reducible refine And.intro ?_ ?_
  omega
  with_reducible refine fX3_isBare (by assumption) (by assumption) (fun _ => ?_) (fun _ _ => ?_)
  simp only [eX3_isNone_19, kx_l, wt_nil, tl_s, Nat.add_zero]
  with_reducible refine And.intro ?_ ?_
  with_reducible refine go_S (by assumption) (fun _ _ hY => ?_)
  with_reducible exact trivial
  with_reducible refine And.intro ?_ ?_
  omega
  with_reducible refine And.intro ?_ ?_
  omega
  with_reducible refine And.intro ?_ ?_
  omega
  with_reducible refine fX3_refuse (by assumption) (by decide) (fun _ => ?_) (fun _ w2 h2 => ?_)
  with_reducible exact absurd (by assumption) n10'
  simp only [eX3_isNone_22, eX3_isNone_25, eX3_isNone_29, eX3_isNone_30, i10, if_false, kx_l, tl_s, nb_0, nb_1, true_and]
  with_reducible refine And.intro ?_ ?_
  omega
  with_reducible refine And.intro ?_ ?_
  omega
  with_reducible exact hS (by assumption) (by assumption) _ (by assumption)
  simp only [eX3_isNone_19, kx_l, wt_nil, tl_s, Nat.add_zero]
  with_reducible refine And.intro ?_ ?_
  with_reducible refine go_S (by assumption) (fun _ _ hY => ?_)
  with_reducible exact trivial
  with_reducible refine And.intro ?_ ?_
  omega
  with_reducible refine And.intro ?_ ?_
  omega
  with_reducible refine And.intro ?_ ?_
  omega
  with_reducible refine fX3_refuse (by assumption) (by decide) (fun _ => ?_) (fun _ w2 h2 => ?_)
  simp only [eX3_isNone_22, eX3_isNone_25, eX3_isNone_29, eX3_isNone_30, if_true, kx_l, tl_s, nb_0, nb_1, true_and]
  with_reducible refine And.intro ?_ ?_
  omega
  with_reducible refine And.intro ?_ ?_
  omega
  with_reducible exact hQ (by assumption) _ (by assumption) _ (by assumption)
  with_reducible exact n00x (by assumption)
  with_reducible exact n00x (by assumption)
set_option maxHeartbeats 4000000 in
theorem fX3_isNoEnd_ {a c : Int32} (hM : MS g w0 y nM kd th s w) (hX : ¬ (okC a) → ∀ w', MS g w0 y nM kd 1 s w' → Q (.inl (some (.int 1))) w') (hW : okC a → ¬ okW c 3 → ∀ w', MS g w0 y nM kd 2 s w' → Q (.inl (some (.int 1))) w') (hS : okC a → okW c 3 → s.2.1 a.toNatClampNeg = none → ∀ w', MS g w0 y nM kd 3 s w' → Q (.inl (some (.int 1))) w') (hQ : okC a → okW c 3 → ∀ r, s.2.1 a.toNatClampNeg = some r → ∀ w', MS g w0 y nM kd 0 s w' → Q (.inl (some (.int 0))) w') : WP (MX3_isNoEnd_ g) Q (0, [some (.ref y), some (.int a), some (.int c)], [], w, 0, 0) := by
  simp only [eX3_isNoEnd__0, eX3_isNoEnd__5, wt_nil, wt_ref, Nat.add_zero]
  with_reducible refine And.intro ?_ ?_
  omega
  with_reducible refine And.intro ?_ ?_
  omega
  with_reducible refine And.intro ?_ ?_
  omega
  with_reducible refine fX3_isNoCard (fun _ => ?_) (fun _ => ?_)
  simp only [eX3_isNoEnd__6, kx_l, wt_nil, tl_s, Nat.add_zero]
  with_reducible refine And.intro ?_ ?_
  with_reducible refine go_S (by assumption) (fun _ _ hY => ?_)
  with_reducible exact trivial
  with_reducible refine And.intro ?_ ?_
  omega
  with_reducible refine And.intro ?_ ?_
  omega
  with_reducible refine And.intro ?_ ?_
  omega
  with_reducible refine fX3_start (by assumption) (by decide) (fun _ w1 h1 => ?_) (fun _ w1 h1 => ?_)
  with_reducible exact absurd (by assumption) n10'
  simp only [eX3_isNoEnd__9, eX3_isNoEnd__12, eX3_isNoEnd__17, eX3_isNoEnd__37, eX3_isNoEnd__42, i10, if_false, kx_l, wt_nil, wt_ref, tl_s, nb_1, true_and, Nat.add_zero]
  with_reducible refine And.intro ?_ ?_
  omega
  with_reducible refine And.intro ?_ ?_
  omega
  with_reducible exact hX (fun h => absurd h (by assumption)) _ (by assumption)
  simp only [eX3_isNoEnd__6, kx_l, wt_nil, tl_s, Nat.add_zero]
  with_reducible refine And.intro ?_ ?_
  with_reducible refine go_S (by assumption) (fun _ _ hY => ?_)
  with_reducible exact trivial
  with_reducible refine And.intro ?_ ?_
  omega
  with_reducible refine And.intro ?_ ?_
  omega
  with_reducible refine And.intro ?_ ?_
  omega
  with_reducible refine fX3_start (by assumption) (by decide) (fun _ w1 h1 => ?_) (fun _ w1 h1 => ?_)
  simp only [eX3_isNoEnd__9, eX3_isNoEnd__12, eX3_isNoEnd__17, eX3_isNoEnd__37, eX3_isNoEnd__42, if_true, kx_l, wt_nil, wt_ref, tl_s, nb_1, true_and, Nat.add_zero]
  with_reducible refine And.intro ?_ ?_
  omega
  with_reducible refine And.intro ?_ ?_
  omega
  with_reducible refine And.intro ?_ ?_
  omega
  with_reducible refine fX3_isNoEnd (fun _ => ?_) (fun _ => ?_)
  simp only [eX3_isNoEnd__18, kx_l, wt_nil, tl_s, Nat.add_zero]
  with_reducible refine And.intro ?_ ?_
  with_reducible refine go_S (by assumption) (fun _ _ hY => ?_)
  with_reducible exact trivial
  with_reducible refine And.intro ?_ ?_
  omega
  with_reducible refine And.intro ?_ ?_
  omega
  with_reducible refine And.intro ?_ ?_
  omega
  with_reducible refine fX3_refuse (by assumption) (by decide) (fun _ => ?_) (fun _ w2 h2 => ?_)
  with_reducible exact absurd (by assumption) n10'
  simp only [eX3_isNoEnd__21, eX3_isNoEnd__24, eX3_isNoEnd__30, eX3_isNoEnd__37, eX3_isNoEnd__42, i10, if_false, kx_l, wt_nil, wt_ref, tl_s, nb_1, true_and, Nat.add_zero]
  with_reducible refine And.intro ?_ ?_
  omega
  with_reducible refine And.intro ?_ ?_
  omega
  with_reducible exact hW (by assumption) (by assumption) _ (by assumption)
  simp only [eX3_isNoEnd__18, kx_l, wt_nil, tl_s, Nat.add_zero]
  with_reducible refine And.intro ?_ ?_
  with_reducible refine go_S (by assumption) (fun _ _ hY => ?_)
  with_reducible exact trivial
  with_reducible refine And.intro ?_ ?_
  omega
  with_reducible refine And.intro ?_ ?_
  omega
  with_reducible refine And.intro ?_ ?_
  omega
  with_reducible refine fX3_refuse (by assumption) (by decide) (fun _ => ?_) (fun _ w2 h2 => ?_)
  simp only [eX3_isNoEnd__21, eX3_isNoEnd__24, eX3_isNoEnd__30, eX3_isNoEnd__37, eX3_isNoEnd__42, if_true, kx_l, wt_nil, wt_ref, tl_s, nb_1, true_and, Nat.add_zero]
  with_reducible refine And.intro ?_ ?_
  with_reducible refine go_S (by assumption) (fun _ _ hY => ?_)
  with_reducible exact trivial
  with_reducible refine And.intro ?_ ?_
  omega
  with_reducible refine And.intro ?_ ?_
  omega
  with_reducible refine And.intro ?_ ?_
  omega
  with_reducible refine fX3_isBare (by assumption) (by assumption) (fun _ => ?_) (fun _ _ => ?_)
  simp only [eX3_isNoEnd__31, kx_l, wt_nil, tl_s, Nat.add_zero]
  with_reducible refine And.intro ?_ ?_
  with_reducible refine go_S (by assumption) (fun _ _ hY => ?_)
  with_reducible exact trivial
  with_reducible refine And.intro ?_ ?_
  omega
  with_reducible refine And.intro ?_ ?_
  omega
  with_reducible refine And.intro ?_ ?_
  omega
  with_reducible refine fX3_refuse (by assumption) (by decide) (fun _ => ?_) (fun _ w2 h2 => ?_)
  with_reducible exact absurd (by assumption) n10'
  simp only [eX3_isNoEnd__34, eX3_isNoEnd__37, eX3_isNoEnd__41, eX3_isNoEnd__42, i10, if_false, kx_l, tl_s, nb_0, nb_1, true_and]
  with_reducible refine And.intro ?_ ?_
  omega
  with_reducible refine And.intro ?_ ?_
  omega
  with_reducible exact hS (by assumption) (by assumption) (by assumption) _ (by assumption)
  simp only [eX3_isNoEnd__31, kx_l, wt_nil, tl_s, Nat.add_zero]
  with_reducible refine And.intro ?_ ?_
  with_reducible refine go_S (by assumption) (fun _ _ hY => ?_)
  with_reducible exact trivial
  with_reducible refine And.intro ?_ ?_
  omega
  with_reducible refine And.intro ?_ ?_
  omega
  with_reducible refine And.intro ?_ ?_
  omega
  with_reducible refine fX3_refuse (by assumption) (by decide) (fun _ => ?_) (fun _ w2 h2 => ?_)
  simp only [eX3_isNoEnd__34, eX3_isNoEnd__37, eX3_isNoEnd__41, eX3_isNoEnd__42, if_true, kx_l, tl_s, nb_0, nb_1, true_and]
  with_reducible refine And.intro ?_ ?_
  omega
  with_reducible refine And.intro ?_ ?_
  omega
  with_reducible exact hQ (by assumption) (by assumption) _ (by assumption) _ (by assumption)
  with_reducible exact n00x (by assumption)
  with_reducible exact n00x (by assumption)
  with_reducible exact n00x (by assumption)
set_option maxHeartbeats 4000000 in
theorem fX3_isNoAsked {a c : Int32} (hM : MS g w0 y nM kd th s w) (hX : ¬ (okC a ∧ okN c) → ∀ w', MS g w0 y nM kd 1 s w' → Q (.inl (some (.int 1))) w') (hS : okC a → okN c → s.2.1 a.toNatClampNeg = none → ∀ w', MS g w0 y nM kd 2 s w' → Q (.inl (some (.int 1))) w') (hQ : okC a → okN c → ∀ r, s.2.1 a.toNatClampNeg = some r → ∀ w', MS g w0 y nM kd 0 s w' → Q (.inl (some (.int 0))) w') : WP (MX3_isNoAsked g) Q (0, [some (.ref y), some (.int a), some (.int c)], [], w, 0, 0) := by
  simp only [eX3_isNoAsked_0, wt_nil, wt_ref, Nat.add_zero]
  with_reducible refine And.intro ?_ ?_
  omega
  with_reducible refine And.intro ?_ ?_
  omega
  with_reducible refine And.intro ?_ ?_
  omega
  with_reducible refine fX3_isNoCard (fun _ => ?_) (fun _ => ?_)
  simp only [eX3_isNoAsked_5, eX3_isNoAsked_8, eX3_isNoAsked_15, eX3_isNoAsked_20, i10, if_false, kx_l, wt_nil, wt_ref, tl_s, Nat.add_zero]
  with_reducible refine And.intro ?_ ?_
  with_reducible refine go_S (by assumption) (fun _ _ hY => ?_)
  with_reducible exact trivial
  with_reducible refine And.intro ?_ ?_
  omega
  with_reducible refine And.intro ?_ ?_
  omega
  with_reducible refine And.intro ?_ ?_
  omega
  with_reducible refine fX3_start (by assumption) (by decide) (fun _ w1 h1 => ?_) (fun _ w1 h1 => ?_)
  with_reducible exact absurd (by assumption) n10'
  simp only [eX3_isNoAsked_24, eX3_isNoAsked_27, eX3_isNoAsked_33, eX3_isNoAsked_40, eX3_isNoAsked_45, i10, if_false, kx_l, wt_nil, wt_ref, tl_s, nb_1, true_and, Nat.add_zero]
  with_reducible refine And.intro ?_ ?_
  omega
  with_reducible refine And.intro ?_ ?_
  omega
  with_reducible exact hX (fun h => absurd h.1 (by assumption)) _ (by assumption)
  simp only [eX3_isNoAsked_5, eX3_isNoAsked_8, eX3_isNoAsked_15, eX3_isNoAsked_20, if_true, kx_l, wt_nil, wt_ref, tl_s, Nat.add_zero]
  with_reducible refine And.intro ?_ ?_
  omega
  with_reducible refine And.intro ?_ ?_
  omega
  with_reducible refine And.intro ?_ ?_
  omega
  with_reducible refine fX3_isNoNumber (fun _ => ?_) (fun _ => ?_)
  simp only [eX3_isNoAsked_12, eX3_isNoAsked_15, eX3_isNoAsked_19, eX3_isNoAsked_20, i10, if_false, kx_l, wt_nil, tl_s, Nat.add_zero]
  with_reducible refine And.intro ?_ ?_
  with_reducible refine go_S (by assumption) (fun _ _ hY => ?_)
  with_reducible exact trivial
  with_reducible refine And.intro ?_ ?_
  omega
  with_reducible refine And.intro ?_ ?_
  omega
  with_reducible refine And.intro ?_ ?_
  omega
  with_reducible refine fX3_start (by assumption) (by decide) (fun _ w1 h1 => ?_) (fun _ w1 h1 => ?_)
  with_reducible exact absurd (by assumption) n10'
  simp only [eX3_isNoAsked_24, eX3_isNoAsked_27, eX3_isNoAsked_33, eX3_isNoAsked_40, eX3_isNoAsked_45, i10, if_false, kx_l, wt_nil, wt_ref, tl_s, nb_1, true_and, Nat.add_zero]
  with_reducible refine And.intro ?_ ?_
  omega
  with_reducible refine And.intro ?_ ?_
  omega
  with_reducible exact hX (fun h => absurd h.2 (by assumption)) _ (by assumption)
  simp only [eX3_isNoAsked_12, eX3_isNoAsked_15, eX3_isNoAsked_19, eX3_isNoAsked_20, if_true, kx_l, wt_nil, tl_s, Nat.add_zero]
  with_reducible refine And.intro ?_ ?_
  with_reducible refine go_S (by assumption) (fun _ _ hY => ?_)
  with_reducible exact trivial
  with_reducible refine And.intro ?_ ?_
  omega
  with_reducible refine And.intro ?_ ?_
  omega
  with_reducible refine And.intro ?_ ?_
  omega
  with_reducible refine fX3_start (by assumption) (by decide) (fun _ w1 h1 => ?_) (fun _ w1 h1 => ?_)
  simp only [eX3_isNoAsked_24, eX3_isNoAsked_27, eX3_isNoAsked_33, eX3_isNoAsked_40, eX3_isNoAsked_45, if_true, kx_l, wt_nil, wt_ref, tl_s, nb_1, true_and, Nat.add_zero]
  with_reducible refine And.intro ?_ ?_
  with_reducible refine go_S (by assumption) (fun _ _ hY => ?_)
  with_reducible exact trivial
  with_reducible refine And.intro ?_ ?_
  omega
  with_reducible refine And.intro ?_ ?_
  omega
  with_reducible refine And.intro ?_ ?_
  omega
  with_reducible refine fX3_isBare (by assumption) (by assumption) (fun _ => ?_) (fun _ _ => ?_)
  simp only [eX3_isNoAsked_34, kx_l, wt_nil, tl_s, Nat.add_zero]
  with_reducible refine And.intro ?_ ?_
  with_reducible refine go_S (by assumption) (fun _ _ hY => ?_)
  with_reducible exact trivial
  with_reducible refine And.intro ?_ ?_
  omega
  with_reducible refine And.intro ?_ ?_
  omega
  with_reducible refine And.intro ?_ ?_
  omega
  with_reducible refine fX3_refuse (by assumption) (by decide) (fun _ => ?_) (fun _ w2 h2 => ?_)
  with_reducible exact absurd (by assumption) n10'
  simp only [eX3_isNoAsked_37, eX3_isNoAsked_40, eX3_isNoAsked_44, eX3_isNoAsked_45, i10, if_false, kx_l, tl_s, nb_0, nb_1, true_and]
  with_reducible refine And.intro ?_ ?_
  omega
  with_reducible refine And.intro ?_ ?_
  omega
  with_reducible exact hS (by assumption) (by assumption) (by assumption) _ (by assumption)
  simp only [eX3_isNoAsked_34, kx_l, wt_nil, tl_s, Nat.add_zero]
  with_reducible refine And.intro ?_ ?_
  with_reducible refine go_S (by assumption) (fun _ _ hY => ?_)
  with_reducible exact trivial
  with_reducible refine And.intro ?_ ?_
  omega
  with_reducible refine And.intro ?_ ?_
  omega
  with_reducible refine And.intro ?_ ?_
  omega
  with_reducible refine fX3_refuse (by assumption) (by decide) (fun _ => ?_) (fun _ w2 h2 => ?_)
  simp only [eX3_isNoAsked_37, eX3_isNoAsked_40, eX3_isNoAsked_44, eX3_isNoAsked_45, if_true, kx_l, tl_s, nb_0, nb_1, true_and]
  with_reducible refine And.intro ?_ ?_
  omega
  with_reducible refine And.intro ?_ ?_
  omega
  with_reducible exact hQ (by assumption) (by assumption) _ (by assumption) _ (by assumption)
  with_reducible exact n00x (by assumption)
  with_reducible exact n00x (by assumption)
end
end
