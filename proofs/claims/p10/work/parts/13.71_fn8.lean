section
section
variable {g : RO} {Q : Ot → Hw → Prop} {w0 w : Hw} {x nA cA lA : Nat} {kn : Int32}
theorem sal {b : Nat} {P : Nat → Prop} : (∀ c, some b = some c → P c) = P b := propext ⟨fun h => h b rfl, fun h c e => by cases e; exact h⟩
theorem snn {b : Nat} {P : Prop} : ((some b : Option Nat) = none → P) = True := eq_true (fun e => by cases e)
theorem inv_s {P : Nat → Prop} {j : Nat} (h : ∀ i, i < j → P i) (hj : P j) : ∀ i, i < j + 1 → P i := fun i hi => by
  rcases Nat.lt_succ_iff_lt_or_eq.mp hi with k | rfl
  · exact h i k
  · exact hj
theorem cnt12 {n : Int32} (h0 : ¬ n < 0) (h1 : ¬ 12 < n) : n.toInt = ((n.toInt.toNat : Nat) : Int) ∧ n.toInt.toNat ≤ 12 := by
  have k0 := i32_0 h0
  have k1 := i32_nlt h1
  have z : (12 : Int32).toInt = 12 := rfl
  omega
theorem vpj {j : Nat} (h : j < 12) : vp_in (Int32.ofNat j) 12 := by
  rintro (k | k)
  · exact oN0 (by omega) k
  · rw [oNc (by omega)] at k
    omega
set_option maxHeartbeats 4000000 in
theorem flX1_firstPlaceOf_2 {s : AS} {p : Nat} {r : R4} (hC : CS g w0 x nA cA lA kn s w) (hp : rAt w p r) (hN : (∀ i, i < s.2.2.1.toInt.toNat → ¬ mP r (s.2.2.2.1 i)) → Q (.inl (some (.int (-1)))) w) (hS : ∀ i, i < s.2.2.1.toInt.toNat → mP r (s.2.2.2.1 i) → (∀ k, k < i → ¬ mP r (s.2.2.2.1 k)) → Q (.inl (some (.int (Int32.ofNat i)))) w) : ∀ (d j : Nat) (k m : Nat), j + d = s.2.2.1.toInt.toNat → (∀ i, i < j → ¬ mP r (s.2.2.2.1 i)) → k ≤ 0 → m ≤ 0 → WP (MX1_firstPlaceOf g) Q (2, [some (.ref x), some (.ref p), some (.int (Int32.ofNat j))], [], w, k, m) := by
  obtain ⟨gc, gl, ⟨hx, hn, hc, hl, hgc, hgl, hn0, hn1, rx, rn, rc, rl, ⟨d1, d2, d3, d4, d5, d6⟩, ⟨d7, d8, d9, d10, d11, d12⟩⟩, hcd, hpl⟩ := hC.1.opn g
  obtain ⟨he, h12⟩ := cnt12 hn0 hn1
  intro d
  induction d with
  | zero =>
    intro j k m hjd hinv hk hm
    have h9 : j < 1000 := by omega
    have hlt : ¬ Int32.ofNat j < s.2.2.1 := oNg h9 he (by omega)
    obtain rfl : j = s.2.2.1.toInt.toNat := by omega
    rw [eX1_firstPlaceOf_2]
    simp only [eX1_firstPlaceOf_3, eX1_firstPlaceOf_7, eX1_firstPlaceOf_10, eX1_firstPlaceOf_15, eX1_firstPlaceOf_17R, eX1_firstPlaceOf_17N, eX1_firstPlaceOf_31, if_false, rx, rl, hlt, ite_le, n45, or_false, go_s, gq_s, wt_nil, rf_st, g0, gS, ex1, true_and, Nat.add_zero]
    with_reducible refine And.intro ?_ ?_
    with_reducible assumption
    with_reducible refine And.intro ?_ ?_
    with_reducible assumption
    with_reducible exact hN hinv
  | succ d ih =>
    intro j k m hjd hinv hk hm
    have h9 : j < 1000 := by omega
    have hlt : Int32.ofNat j < s.2.2.1 := oNl h9 he (by omega)
    have hcl := oNc h9
    obtain ⟨b, hb, hrb⟩ := hpl j (by omega)
    rw [eX1_firstPlaceOf_2]
    simp only [eX1_firstPlaceOf_3, eX1_firstPlaceOf_7, eX1_firstPlaceOf_10, eX1_firstPlaceOf_15, eX1_firstPlaceOf_17R, eX1_firstPlaceOf_17N, eX1_firstPlaceOf_31, if_true, rx, rl, hlt, hcl, hb, sal, snn, ite_le, n45, or_false, go_s, gq_s, wt_nil, rf_st, g0, gS, ex1, true_and, Nat.add_zero]
    with_reducible refine And.intro ?_ ?_
    with_reducible exact vpj (by omega)
    with_reducible refine And.intro ?_ ?_
    with_reducible exact go_F hp trivial
    with_reducible refine And.intro ?_ ?_
    omega
    with_reducible refine And.intro ?_ ?_
    with_reducible assumption
    with_reducible refine And.intro ?_ ?_
    with_reducible assumption
    with_reducible refine fX0_matchesR hp hrb (fun hm => ?_) (fun hm => ?_)
    simp only [eX1_firstPlaceOf_20, eX1_firstPlaceOf_23, eX1_firstPlaceOf_25, i10, if_false, kx_l, nl_ref, tl_s]
    with_reducible refine And.intro ?_ ?_
    with_reducible assumption
    with_reducible refine And.intro ?_ ?_
    with_reducible assumption
    with_reducible exact hS j (by omega) hm hinv
    simp only [eX1_firstPlaceOf_20, eX1_firstPlaceOf_23, eX1_firstPlaceOf_25, if_true, kx_l, nl_ref, tl_s]
    (rw [oN1]; exact ih (j + 1) _ _ (by omega) (inv_s hinv hm) (by first | assumption | omega) (by first | assumption | omega))
set_option maxHeartbeats 4000000 in
theorem fX1_firstPlaceOf {s : AS} {p : Nat} {r : R4} (hC : CS g w0 x nA cA lA kn s w) (hp : rAt w p r) (hN : (∀ i, i < s.2.2.1.toInt.toNat → ¬ mP r (s.2.2.2.1 i)) → Q (.inl (some (.int (-1)))) w) (hS : ∀ i, i < s.2.2.1.toInt.toNat → mP r (s.2.2.2.1 i) → (∀ k, k < i → ¬ mP r (s.2.2.2.1 k)) → Q (.inl (some (.int (Int32.ofNat i)))) w) : WP (MX1_firstPlaceOf g) Q (0, [some (.ref x), some (.ref p), none], [], w, 0, 0) := by
  simp only [eX1_firstPlaceOf_0, nl_ref]
  ((with_reducible refine isWP (pc := 2) ?_); exact flX1_firstPlaceOf_2 hC hp hN hS _ 0 _ _ (Nat.zero_add _) (fun i h => absurd h (Nat.not_lt_zero i)) (by decide) (by decide))
theorem CS.lay {s : AS} {b : Nat} {r : R4} {gl : Nat → Option Nat} (h : CS g w0 x nA cA lA kn s w) (hl : w lA = some (.inl (4, 12, qc gl))) (hb : rAt w b r) (h11 : s.2.2.1 < 12) : CS g w0 x nA cA lA kn (sP_ s (s.2.2.1 + 1) (va_up s.2.2.2.1 s.2.2.1.toNatClampNeg r)) (upw (upw w lA (.inl (4, 12, qc (va_up gl s.2.2.1.toNatClampNeg (some b))))) x (.inr (5, [.ref nA, .ref cA, .ref lA, .int (s.2.2.1 + 1), .int s.2.2.2.2.1, .int kn, .int s.2.2.2.2.2]))) := by
  obtain ⟨gc, gl', ⟨h1, h2, h3, h4, h5, h6, h7, h8, -, -, -, -, ⟨d1, d2, d3, d4, d5, d6⟩, ⟨d7, d8, d9, d10, d11, d12⟩⟩, k1, k2⟩ := h.1.opn (fun _ => .null, fun _ => none)
  rw [hl] at h4
  cases h4
  have q0 := i32_0 h7
  have q1 := i32_lt h11
  have z : (12 : Int32).toInt = 12 := rfl
  have e1 : (s.2.2.1 + 1).toInt = s.2.2.1.toInt + 1 := i32p1 q0 (by omega)
  have hx' : upw w lA (.inl (4, 12, qc (va_up gl s.2.2.1.toNatClampNeg (some b)))) x = some (.inr (5, [.ref nA, .ref cA, .ref lA, .int s.2.2.1, .int s.2.2.2.2.1, .int kn, .int s.2.2.2.2.2])) := by rw [upw_n d3]; exact h1
  have R : ∀ c q, rAt w c q → rAt (upw (upw w lA (.inl (4, 12, qc (va_up gl s.2.2.1.toNatClampNeg (some b))))) x (.inr (5, [.ref nA, .ref cA, .ref lA, .int (s.2.2.1 + 1), .int s.2.2.2.2.1, .int kn, .int s.2.2.2.2.2]))) c q := fun c q hc => rAt_up2 (rAt_up2 hc hl (by simp)) hx' (by simp)
  have RR : ∀ c, isR w c → isR (upw (upw w lA (.inl (4, 12, qc (va_up gl s.2.2.1.toNatClampNeg (some b))))) x (.inr (5, [.ref nA, .ref cA, .ref lA, .int (s.2.2.1 + 1), .int s.2.2.2.2.1, .int kn, .int s.2.2.2.2.2]))) c := fun c hc => isR_up2 (isR_up2 hc hl (by simp)) hx' (by simp)
  refine ⟨⟨gc, va_up gl s.2.2.1.toNatClampNeg (some b), ⟨upw_s _ _ _, by rw [upw_n d4, upw_n d6]; exact h2, by rw [upw_n d7, upw_n d9]; exact h3, by rw [upw_n d10]; exact upw_s _ _ _, fun i c z => RR c (h5 i c z), fun i c z => RR c ?_, i32_of_nlt (by show (0 : Int) ≤ (s.2.2.1 + 1).toInt; omega), i32_of_nlt (by show (s.2.2.1 + 1).toInt ≤ (12 : Int); omega)⟩, fun i hi => (k1 i hi).mp R, fun i hi => ?_⟩, (h.2.up hl (Or.inr rfl)).up hx' (Or.inr rfl)⟩
  · exact up_ok h6 (fun c e => by cases e; exact hb.isR) i c z
  · have hi' : (i : Int) < s.2.2.1.toInt + 1 := by
      have hi2 : (i : Int) < (s.2.2.1 + 1).toInt := hi
      omega
    have t : s.2.2.1.toNatClampNeg = s.2.2.1.toInt.toNat := rfl
    show ∃ c, va_up gl s.2.2.1.toNatClampNeg (some b) i = some c ∧ rAt _ c (va_up s.2.2.2.1 s.2.2.1.toNatClampNeg r i)
    unfold va_up
    by_cases e : i = s.2.2.1.toNatClampNeg
    · rw [if_pos e, if_pos e]
      exact ⟨b, rfl, R _ _ hb⟩
    · rw [if_neg e, if_neg e]
      exact (k2 i (by omega)).imp fun c z => ⟨z.1, R _ _ z.2⟩
theorem o12 : Int32.ofNat 12 = 12 := rfl
theorem i12n : ¬ (12 : Int32) < 12 := by decide
set_option maxHeartbeats 4000000 in
theorem fX1_lay {s : AS} {a0 : Int32} (hC : CS g w0 x nA cA lA kn s w) (hX : ¬ okC a0 → (Q (.inr "java/lang/IndexOutOfBoundsException") w)) (hS : okC a0 → s.2.1 a0.toNatClampNeg = none → (Q (.inr "java/lang/IllegalStateException") w)) (hF : okC a0 → ∀ r, s.2.1 a0.toNatClampNeg = some r → ¬ s.2.2.1 < 12 → ∀ w', CS g w0 x nA cA lA kn (sRf s) w' → Q (.inl (some (.int (-9)))) w') (hQ : okC a0 → ∀ r, s.2.1 a0.toNatClampNeg = some r → s.2.2.1 < 12 → ∀ w', CS g w0 x nA cA lA kn (sP_ s (s.2.2.1 + 1) (va_up s.2.2.2.1 s.2.2.1.toNatClampNeg r)) w' → Q (.inl (some (.int (s.2.2.1 + 1)))) w') : WP (MX1_lay g) Q (0, [some (.ref x), some (.int a0), none], [], w, 0, 0) := by
  obtain ⟨gc, gl, ⟨hx, hn, hc, hl, hgc, hgl, hn0, hn1, rx, rn, rc, rl, ⟨d1, d2, d3, d4, d5, d6⟩, ⟨d7, d8, d9, d10, d11, d12⟩⟩, hcd, hpl⟩ := hC.1.opn g
  simp only [eX1_lay_0, rx, go_s, wt_nil, true_and, Nat.zero_add]
  with_reducible refine And.intro ?_ ?_
  omega
  with_reducible refine And.intro ?_ ?_
  omega
  with_reducible refine And.intro ?_ ?_
  omega
  with_reducible refine fX1_rangeOf (a0 := a0) hC (fun _ => ?_) (fun k0 e1 => ?_) (fun k0 p r e1 hp => ?_)
  simp only [kx_r]
  with_reducible exact hX (by assumption)
  simp only [kx_r]
  with_reducible exact hS k0 e1
  simp only [eX1_lay_5, eX1_lay_10, eX1_lay_13, eX1_lay_17, eX1_lay_21, eX1_lay_22, eX1_lay_25, eX1_lay_30, eX1_lay_34, eX1_lay_38, eX1_lay_40, eX1_lay_45, eX1_lay_50, eX1_lay_54, not_false_eq_true, rx, rl, hx, hl, d3, rd_n, upw_n, exal, o12, n45, or_false, false_and, kx_l, go_s, gq_s, wt_nil, nl_int, tl_s, g0, gS, ex1, nf_i, true_and, List.set_cons_zero, List.set_cons_succ, List.length_cons, List.length_nil, rd_s, ne_eq, not_false_eq_true, Nat.zero_add, Nat.add_zero]
  split
  with_reducible refine And.intro ?_ ?_
  with_reducible exact absurd (by assumption) hn0
  with_reducible refine And.intro ?_ ?_
  with_reducible exact absurd (by assumption) hn0
  with_reducible refine And.intro ?_ ?_
  with_reducible exact absurd (by assumption) hn0
  with_reducible exact absurd (by assumption) hn0
  with_reducible refine And.intro ?_ ?_
  omega
  split
  with_reducible refine And.intro ?_ ?_
  with_reducible exact vpi12 hn0 (by assumption) i12n
  with_reducible refine And.intro ?_ ?_
  with_reducible exact go_Fw hp trivial
  with_reducible refine And.intro ?_ ?_
  omega
  with_reducible refine And.intro ?_ ?_
  omega
  with_reducible refine And.intro ?_ ?_
  omega
  ((with_reducible refine isQ (Q := Q) ?_); exact hQ k0 r e1 (by assumption) _ (hC.lay hl hp (by assumption)))
  with_reducible refine And.intro ?_ ?_
  omega
  with_reducible refine And.intro ?_ ?_
  omega
  with_reducible refine And.intro ?_ ?_
  omega
  with_reducible refine fX1_refuse hC (fun w1 g1 g2 => ?_)
  simp only [eX1_lay_29, kx_l, tl_s]
  with_reducible refine And.intro ?_ ?_
  omega
  with_reducible refine And.intro ?_ ?_
  omega
  with_reducible exact hF k0 r e1 (by assumption) w1 g1
end
end
