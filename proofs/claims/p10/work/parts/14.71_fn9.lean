section
section
variable {g : RO} {Q : Ot → Hw → Prop} {w0 w : Hw} {x nA cA lA : Nat} {kn : Int32}
abbrev okP (n a : Int32) : Prop := ¬ a < 0 ∧ a < n
theorem plB {n a : Int32} (h : okP n a) : (a.toNatClampNeg : Int) < n.toInt := by
  have h1 := i32_0 h.1
  have h2 := i32_lt h.2
  have e : a.toNatClampNeg = a.toInt.toNat := rfl
  omega
theorem plj {gl : Nat → Option Nat} {f : Nat → R4} {n : Int} {j b : Nat} (hpl : ∀ i : Nat, (i : Int) < n → ∃ b, gl i = some b ∧ rAt w b (f i)) (h : (j : Int) < n) (e : gl j = some b) : rAt w b (f j) := by
  obtain ⟨c, hc, hr⟩ := hpl j h
  rw [hc] at e
  cases e
  exact hr
theorem pln {gl : Nat → Option Nat} {f : Nat → R4} {n : Int} {j : Nat} (hpl : ∀ i : Nat, (i : Int) < n → ∃ b, gl i = some b ∧ rAt w b (f i)) (h : (j : Int) < n) : ¬ gl j = none := by
  obtain ⟨c, hc, hr⟩ := hpl j h
  rw [hc]
  exact fun z => by cases z
theorem cntE {n : Int32} (h0 : ¬ n < 0) (h1 : ¬ 12 < n) : Int32.ofNat n.toInt.toNat = n := by
  obtain ⟨h2, h3⟩ := cnt12 h0 h1
  exact Int32.toInt_inj.1 (by rw [oNt (by omega)]; omega)
theorem oMz : Int32.ofNat 0 - 1 < 0 := by decide
theorem oMd {j : Nat} : Int32.ofNat j + -1 = Int32.ofNat j - 1 := (Int32.sub_eq_add_neg _ _).symm
theorem oMs {j : Nat} (h : j + 1 < 1000) : Int32.ofNat (j + 1) - 1 = Int32.ofNat j := by
  refine Int32.toInt_inj.1 ?_
  have e1 : (1 : Int32).toInt = 1 := rfl
  have a1 := oNt h
  have a2 := oNt (j := j) (by omega)
  rw [i32_sub (by rw [a1, e1]; omega) (by rw [a1, e1]; omega), a1, a2, e1]
  omega
theorem vX0_matches {p q : Nat} {r s : R4} (hp : rAt w p r) (hq : rAt w q s) (hQ : Q (.inl (some (.int (bI (decide (mP r s)))))) w) : WP (MX0_matches g) Q (0, [some (.ref p), some (.ref q)], [], w, 0, 0) := fX0_matchesR hp hq (fun h => by rw [decide_eq_true h] at hQ; exact hQ) (fun h => by rw [decide_eq_false h] at hQ; exact hQ)
set_option maxHeartbeats 4000000 in
theorem fX1_needPlace {s : AS} {a0 : Int32} (hC : CS g w0 x nA cA lA kn s w) (hX : ¬ okP s.2.2.1 a0 → (Q (.inr "java/lang/IndexOutOfBoundsException") w)) (hQ : okP s.2.2.1 a0 → Q (.inl none) w) : WP (MX1_needPlace g) Q (0, [some (.ref x), some (.int a0)], [], w, 0, 0) := by
  obtain ⟨gc, gl, ⟨hx, hn, hc, hl, hgc, hgl, hn0, hn1, rx, rn, rc, rl, ⟨d1, d2, d3, d4, d5, d6⟩, ⟨d7, d8, d9, d10, d11, d12⟩⟩, hcd, hpl⟩ := hC.1.opn g
  simp only [eX1_needPlace_0, eX1_needPlace_4, eX1_needPlace_9, eX1_needPlace_12, eX1_needPlace_22, rx, go_s, wt_nil, g0, gS, ex1, Nat.zero_add]
  split
  with_reducible refine And.intro ?_ ?_
  omega
  with_reducible refine And.intro ?_ ?_
  omega
  with_reducible refine And.intro ?_ ?_
  omega
  with_reducible refine And.intro ?_ ?_
  omega
  with_reducible exact hX (fun h => absurd (by assumption) h.1)
  split
  with_reducible refine And.intro ?_ ?_
  omega
  with_reducible refine And.intro ?_ ?_
  omega
  with_reducible exact hQ ⟨by assumption, by assumption⟩
  with_reducible refine And.intro ?_ ?_
  omega
  with_reducible refine And.intro ?_ ?_
  omega
  with_reducible refine And.intro ?_ ?_
  omega
  with_reducible refine And.intro ?_ ?_
  omega
  with_reducible exact hX (fun h => absurd h.2 (by assumption))
set_option maxHeartbeats 4000000 in
theorem fX1_pick {s : AS} {a0 a1 : Int32} (hC : CS g w0 x nA cA lA kn s w) (hX : ¬ (okP s.2.2.1 a0 ∧ okC a1) → (Q (.inr "java/lang/IndexOutOfBoundsException") w)) (hN : okP s.2.2.1 a0 → okC a1 → s.2.1 a1.toNatClampNeg = none → ∀ w', CS g w0 x nA cA lA kn (sC s (va_up s.2.1 a1.toNatClampNeg (some (s.2.2.2.1 a0.toNatClampNeg)))) w' → Q (.inl (some (.int 0))) w') (hS : okP s.2.2.1 a0 → okC a1 → ∀ r, s.2.1 a1.toNatClampNeg = some r → ∀ w', CS g w0 x nA cA lA kn (sC s (va_up s.2.1 a1.toNatClampNeg (some (s.2.2.2.1 a0.toNatClampNeg)))) w' → Q (.inl (some (.int 1))) w') : WP (MX1_pick g) Q (0, [some (.ref x), some (.int a0), some (.int a1), none], [], w, 0, 0) := by
  obtain ⟨gc, gl, ⟨hx, hn, hc, hl, hgc, hgl, hn0, hn1, rx, rn, rc, rl, ⟨d1, d2, d3, d4, d5, d6⟩, ⟨d7, d8, d9, d10, d11, d12⟩⟩, hcd, hpl⟩ := hC.1.opn g
  simp only [eX1_pick_0, eX1_pick_5, eX1_pick_9, eX1_pick_13, rx, go_s, wt_nil, true_and, Nat.zero_add]
  with_reducible refine And.intro ?_ ?_
  omega
  with_reducible refine And.intro ?_ ?_
  omega
  with_reducible refine And.intro ?_ ?_
  omega
  with_reducible refine fX1_needPlace (a0 := a0) hC (fun _ => ?_) (fun k0 => ?_)
  simp only [kx_r]
  with_reducible exact hX (fun h => absurd h.1 (by assumption))
  simp only [kx_l, wt_nil, tl_n]
  with_reducible refine And.intro ?_ ?_
  omega
  with_reducible refine And.intro ?_ ?_
  omega
  with_reducible refine And.intro ?_ ?_
  omega
  with_reducible refine fX1_needCard (a0 := a1) (fun _ => ?_) (fun k1 => ?_)
  simp only [kx_r]
  with_reducible exact hX (fun h => absurd h.2 (by assumption))
  simp only [eX1_pick_14, eX1_pick_15R, eX1_pick_15N, eX1_pick_18, eX1_pick_22, eX1_pick_23, rx, rc, n45, or_false, kx_l, go_s, gq_s, wt_nil, rf_st, tl_n, g0, gS, ex1, true_and, Nat.add_zero]
  with_reducible refine And.intro ?_ ?_
  with_reducible exact vpi6 k1.1 k1.2
  with_reducible refine And.intro ?_ ?_
  with_reducible intro _
  with_reducible refine And.intro ?_ ?_
  omega
  with_reducible refine And.intro ?_ ?_
  omega
  with_reducible refine And.intro ?_ ?_
  omega
  with_reducible refine fX1_asNumber (Or.inl rfl) ?_
  simp only [eX1_pick_26, eX1_pick_31, eX1_pick_36, eX1_pick_38N, eX1_pick_38R, eX1_pick_39, rx, rl, hc, n45, or_false, false_and, kx_l, go_s, gq_s, nl_int, rf_st, tl_s, g0, gS, ex1, true_and]
  with_reducible refine And.intro ?_ ?_
  with_reducible exact vpi12 k0.1 k0.2 hn1
  with_reducible refine And.intro ?_ ?_
  with_reducible intro _
  with_reducible refine And.intro ?_ ?_
  with_reducible exact vpi6 k1.1 k1.2
  with_reducible refine And.intro ?_ ?_
  with_reducible exact absurd (by assumption) (pln hpl (plB k0))
  with_reducible refine And.intro ?_ ?_
  with_reducible exact absurd (by assumption) (pln hpl (plB k0))
  with_reducible exact absurd (by assumption) (pln hpl (plB k0))
  with_reducible intro _
  with_reducible intro _
  with_reducible refine And.intro ?_ ?_
  with_reducible exact vpi6 k1.1 k1.2
  with_reducible refine And.intro ?_ ?_
  with_reducible exact go_Fw (plj hpl (plB k0) (by assumption)) trivial
  with_reducible refine And.intro ?_ ?_
  omega
  with_reducible refine And.intro ?_ ?_
  omega
  ((with_reducible refine isQ (Q := Q) ?_); exact hN k0 k1 (cdN hcd k1 (by assumption)) _ (hC.card gc hc a1.toNatClampNeg (some _) (some _) (plj hpl (plB k0) (by assumption))))
  with_reducible intro _
  with_reducible intro _
  with_reducible refine And.intro ?_ ?_
  omega
  with_reducible refine And.intro ?_ ?_
  omega
  with_reducible refine And.intro ?_ ?_
  omega
  with_reducible refine fX1_asNumber (Or.inr rfl) ?_
  simp only [eX1_pick_26, eX1_pick_31, eX1_pick_36, eX1_pick_38N, eX1_pick_38R, eX1_pick_39, rx, rl, hc, n45, or_false, false_and, kx_l, go_s, gq_s, nl_int, rf_st, tl_s, g0, gS, ex1, true_and]
  with_reducible refine And.intro ?_ ?_
  with_reducible exact vpi12 k0.1 k0.2 hn1
  with_reducible refine And.intro ?_ ?_
  with_reducible intro _
  with_reducible refine And.intro ?_ ?_
  with_reducible exact vpi6 k1.1 k1.2
  with_reducible refine And.intro ?_ ?_
  with_reducible exact absurd (by assumption) (pln hpl (plB k0))
  with_reducible refine And.intro ?_ ?_
  with_reducible exact absurd (by assumption) (pln hpl (plB k0))
  with_reducible exact absurd (by assumption) (pln hpl (plB k0))
  with_reducible intro _
  with_reducible intro _
  with_reducible refine And.intro ?_ ?_
  with_reducible exact vpi6 k1.1 k1.2
  with_reducible refine And.intro ?_ ?_
  with_reducible exact go_Fw (plj hpl (plB k0) (by assumption)) trivial
  with_reducible refine And.intro ?_ ?_
  omega
  with_reducible refine And.intro ?_ ?_
  omega
  ((with_reducible refine isQ (Q := Q) ?_); exact (cdS hcd k1 (by assumption)).elim (fun r h => hS k0 k1 r h.1 _ (hC.card gc hc a1.toNatClampNeg (some _) (some _) (plj hpl (plB k0) (by assumption)))))
set_option maxHeartbeats 4000000 in
theorem flX1_timesLaid_4 {s : AS} {p : Nat} {r : R4} (hC : CS g w0 x nA cA lA kn s w) (hp : rAt w p r) (hQ : Q (.inl (some (.int (fsum (fun j => bI (decide (mP r (s.2.2.2.1 j)))) s.2.2.1.toInt.toNat)))) w) : ∀ (d j : Nat)  (k m : Nat), j + d = s.2.2.1.toInt.toNat → k ≤ 0 → m ≤ 0 → WP (MX1_timesLaid g) Q (4, [some (.ref x), some (.ref p), some (.int (fsum (fun j => bI (decide (mP r (s.2.2.2.1 j)))) j)), some (.int (Int32.ofNat j))], [], w, k, m) := by
  obtain ⟨gc, gl, ⟨hx, hn, hc, hl, hgc, hgl, hn0, hn1, rx, rn, rc, rl, ⟨d1, d2, d3, d4, d5, d6⟩, ⟨d7, d8, d9, d10, d11, d12⟩⟩, hcd, hpl⟩ := hC.1.opn g
  intro d
  induction d with
  | zero =>
    intro j  k m hjd hk hm
    have h9 : j < 1000 := (by have := (cnt12 hn0 hn1).2; omega)
    have hlt : ¬ Int32.ofNat j < s.2.2.1 := oNg (B := s.2.2.1.toInt.toNat) h9 (cnt12 hn0 hn1).1 (by omega)
    have hnn := oN0 h9
    have hcl := oNc h9
    obtain rfl : j = s.2.2.1.toInt.toNat := by omega
    rw [eX1_timesLaid_4]
    simp only [eX1_timesLaid_5, eX1_timesLaid_9, eX1_timesLaid_12, eX1_timesLaid_18, eX1_timesLaid_20R, eX1_timesLaid_20N, eX1_timesLaid_34, if_false, hlt, hcl, rx, rl, ite_le, n45, or_false, go_s, gq_s, wt_nil, wt_int, rf_st, g0, gS, ex1, true_and, Nat.add_zero]
    with_reducible refine And.intro ?_ ?_
    with_reducible assumption
    with_reducible refine And.intro ?_ ?_
    with_reducible assumption
    with_reducible assumption
  | succ d ih =>
    intro j  k m hjd hk hm
    have h9 : j < 1000 := (by have := (cnt12 hn0 hn1).2; omega)
    have hlt : Int32.ofNat j < s.2.2.1 := oNl (B := s.2.2.1.toInt.toNat) h9 (cnt12 hn0 hn1).1 (by omega)
    have hnn := oN0 h9
    have hcl := oNc h9
    rw [eX1_timesLaid_4]
    simp only [eX1_timesLaid_5, eX1_timesLaid_9, eX1_timesLaid_12, eX1_timesLaid_18, eX1_timesLaid_20R, eX1_timesLaid_20N, eX1_timesLaid_34, if_true, hlt, hcl, rx, rl, ite_le, n45, or_false, go_s, gq_s, wt_nil, wt_int, rf_st, g0, gS, ex1, true_and, Nat.add_zero]
    with_reducible refine And.intro ?_ ?_
    with_reducible exact vpj (j := j) (by have := (cnt12 hn0 hn1).2; omega)
    with_reducible refine And.intro ?_ ?_
    with_reducible intro _
    with_reducible refine And.intro ?_ ?_
    with_reducible exact go_F hp trivial
    with_reducible refine And.intro ?_ ?_
    with_reducible exact absurd (by assumption) (pln (j := j) hpl (by omega))
    with_reducible refine And.intro ?_ ?_
    with_reducible assumption
    with_reducible refine And.intro ?_ ?_
    with_reducible assumption
    with_reducible exact absurd (by assumption) (pln (j := j) hpl (by omega))
    with_reducible intro _
    with_reducible intro _
    with_reducible refine And.intro ?_ ?_
    with_reducible exact go_F hp trivial
    with_reducible refine And.intro ?_ ?_
    omega
    with_reducible refine And.intro ?_ ?_
    with_reducible assumption
    with_reducible refine And.intro ?_ ?_
    with_reducible assumption
    with_reducible refine vX0_matches hp (plj (j := j) hpl (by omega) (by assumption)) ?_
    simp only [eX1_timesLaid_23, kx_l, wt_nil, wt_int, tl_s, Nat.add_zero]
    with_reducible refine And.intro ?_ ?_
    omega
    with_reducible refine And.intro ?_ ?_
    with_reducible assumption
    with_reducible refine And.intro ?_ ?_
    with_reducible assumption
    with_reducible refine fX1_asNumber (bI01 _) ?_
    simp only [eX1_timesLaid_26, kx_l, nl_int, nl_ref, tl_s]
    (rw [oN1]; exact ih (j + 1)  _ _ (by omega) (by first | assumption | omega) (by first | assumption | omega))
set_option maxHeartbeats 4000000 in
theorem fX1_timesLaid {s : AS} {p : Nat} {r : R4} (hC : CS g w0 x nA cA lA kn s w) (hp : rAt w p r) (hQ : Q (.inl (some (.int (fsum (fun j => bI (decide (mP r (s.2.2.2.1 j)))) s.2.2.1.toInt.toNat)))) w) : WP (MX1_timesLaid g) Q (0, [some (.ref x), some (.ref p), none, none], [], w, 0, 0) := by
  simp only [eX1_timesLaid_0, nl_int, nl_ref]
  ((with_reducible refine isWP (pc := 4) ?_); exact flX1_timesLaid_4 hC hp hQ _ 0 _ _ (Nat.zero_add _) (by decide) (by decide))
set_option maxHeartbeats 4000000 in
theorem fX1_howOften {s : AS} {a0 : Int32} (hC : CS g w0 x nA cA lA kn s w) (hX : ¬ okC a0 → (Q (.inr "java/lang/IndexOutOfBoundsException") w)) (hS : okC a0 → s.2.1 a0.toNatClampNeg = none → (Q (.inr "java/lang/IllegalStateException") w)) (hQ : okC a0 → ∀ r, s.2.1 a0.toNatClampNeg = some r → Q (.inl (some (.int (fsum (fun j => bI (decide (mP r (s.2.2.2.1 j)))) s.2.2.1.toInt.toNat)))) w) : WP (MX1_howOften g) Q (0, [some (.ref x), some (.int a0)], [], w, 0, 0) := by
  obtain ⟨gc, gl, ⟨hx, hn, hc, hl, hgc, hgl, hn0, hn1, rx, rn, rc, rl, ⟨d1, d2, d3, d4, d5, d6⟩, ⟨d7, d8, d9, d10, d11, d12⟩⟩, hcd, hpl⟩ := hC.1.opn g
  simp only [eX1_howOften_0, rx, go_s, wt_nil, wt_ref, true_and, Nat.zero_add, Nat.add_zero]
  with_reducible refine And.intro ?_ ?_
  omega
  with_reducible refine And.intro ?_ ?_
  omega
  with_reducible refine And.intro ?_ ?_
  omega
  with_reducible refine fX1_rangeOf (a0 := a0) hC (fun _ => ?_) (fun k0 e1 => ?_) (fun k0 p r e1 hp => ?_)
  simp only [kx_r]
  with_reducible exact hX (by assumption)
  simp only [kx_r]
  with_reducible exact hS k0 e1
  simp only [eX1_howOften_6R, rx, kx_l, go_s, wt_nil, tl_s, true_and, Nat.add_zero]
  with_reducible refine And.intro ?_ ?_
  omega
  with_reducible refine And.intro ?_ ?_
  omega
  with_reducible refine And.intro ?_ ?_
  omega
  with_reducible refine fX1_timesLaid hC hp ?_
  simp only [eX1_howOften_9, kx_l, tl_s]
  with_reducible refine And.intro ?_ ?_
  omega
  with_reducible refine And.intro ?_ ?_
  omega
  with_reducible exact hQ k0 r e1
theorem inv_d {P : Nat → Prop} {j N : Nat} (h : ∀ i, j + 1 ≤ i → i < N → P i) (hj : P j) : ∀ i, j ≤ i → i < N → P i := fun i hi hN => by
  rcases Nat.eq_or_lt_of_le hi with rfl | k
  · exact hj
  · exact h i k hN
set_option maxHeartbeats 4000000 in
theorem flX1_lastPlaceOf_7 {s : AS} {p : Nat} {r : R4} (hC : CS g w0 x nA cA lA kn s w) (hp : rAt w p r) (hN : (∀ i, i < s.2.2.1.toInt.toNat → ¬ mP r (s.2.2.2.1 i)) → Q (.inl (some (.int (-1)))) w) (hS : ∀ i, i < s.2.2.1.toInt.toNat → mP r (s.2.2.2.1 i) → (∀ k, i + 1 ≤ k → k < s.2.2.1.toInt.toNat → ¬ mP r (s.2.2.2.1 k)) → Q (.inl (some (.int (Int32.ofNat i)))) w) : ∀ (j : Nat) (k m : Nat), j ≤ s.2.2.1.toInt.toNat → (∀ i, j ≤ i → i < s.2.2.1.toInt.toNat → ¬ mP r (s.2.2.2.1 i)) → k ≤ 0 → m ≤ 0 → WP (MX1_lastPlaceOf g) Q (7, [some (.ref x), some (.ref p), some (.int (Int32.ofNat j - 1))], [], w, k, m) := by
  obtain ⟨gc, gl, ⟨hx, hn, hc, hl, hgc, hgl, hn0, hn1, rx, rn, rc, rl, ⟨d1, d2, d3, d4, d5, d6⟩, ⟨d7, d8, d9, d10, d11, d12⟩⟩, hcd, hpl⟩ := hC.1.opn g
  obtain ⟨he, h12⟩ := cnt12 hn0 hn1
  intro j
  induction j with
  | zero =>
    intro k m hj hinv hk hm
    rw [eX1_lastPlaceOf_7]
    simp only [eX1_lastPlaceOf_8, eX1_lastPlaceOf_11, eX1_lastPlaceOf_16, eX1_lastPlaceOf_18R, eX1_lastPlaceOf_18N, eX1_lastPlaceOf_32, if_true, rx, rl, oMz, n45, or_false, go_s, gq_s, wt_nil, rf_st, g0, gS, ex1, true_and, Nat.add_zero]
    with_reducible refine And.intro ?_ ?_
    with_reducible assumption
    with_reducible refine And.intro ?_ ?_
    with_reducible assumption
    with_reducible exact hN (fun i h => hinv i (Nat.zero_le i) h)
  | succ j ih =>
    intro k m hj hinv hk hm
    have h9 : j < 1000 := by omega
    rw [oMs (j := j) (by omega), eX1_lastPlaceOf_7]
    have hlt := oN0 h9
    have hcl := oNc h9
    obtain ⟨b, hb, hrb⟩ := hpl j (by omega)
    simp only [eX1_lastPlaceOf_8, eX1_lastPlaceOf_11, eX1_lastPlaceOf_16, eX1_lastPlaceOf_18R, eX1_lastPlaceOf_18N, eX1_lastPlaceOf_32, if_false, rx, rl, hlt, hcl, hb, sal, snn, n45, or_false, go_s, gq_s, wt_nil, rf_st, g0, gS, ex1, true_and, Nat.add_zero]
    with_reducible refine And.intro ?_ ?_
    with_reducible exact vpj (by omega)
    with_reducible refine And.intro ?_ ?_
    with_reducible exact go_F hp trivial
    with_reducible refine And.intro ?_ ?_
    omega
    with_reducible refine And.intro ?_ ?_
    with_reducible assumption
    with_reducible refine And.intro ?_ ?_
    with_reducible assumption
    with_reducible refine fX0_matchesR hp hrb (fun hm => ?_) (fun hm => ?_)
    simp only [eX1_lastPlaceOf_21, eX1_lastPlaceOf_24, eX1_lastPlaceOf_26, i10, if_false, kx_l, nl_ref, tl_s]
    with_reducible refine And.intro ?_ ?_
    with_reducible assumption
    with_reducible refine And.intro ?_ ?_
    with_reducible assumption
    with_reducible exact hS j (by omega) hm hinv
    simp only [eX1_lastPlaceOf_21, eX1_lastPlaceOf_24, eX1_lastPlaceOf_26, if_true, kx_l, nl_ref, tl_s]
    (rw [oMd]; exact ih _ _ (by omega) (inv_d hinv hm) (by first | assumption | omega) (by first | assumption | omega))
set_option maxHeartbeats 4000000 in
theorem fX1_lastPlaceOf {s : AS} {p : Nat} {r : R4} (hC : CS g w0 x nA cA lA kn s w) (hp : rAt w p r) (hN : (∀ i, i < s.2.2.1.toInt.toNat → ¬ mP r (s.2.2.2.1 i)) → Q (.inl (some (.int (-1)))) w) (hS : ∀ i, i < s.2.2.1.toInt.toNat → mP r (s.2.2.2.1 i) → (∀ k, i + 1 ≤ k → k < s.2.2.1.toInt.toNat → ¬ mP r (s.2.2.2.1 k)) → Q (.inl (some (.int (Int32.ofNat i)))) w) : WP (MX1_lastPlaceOf g) Q (0, [some (.ref x), some (.ref p), none], [], w, 0, 0) := by
  obtain ⟨gc, gl, ⟨hx, hn, hc, hl, hgc, hgl, hn0, hn1, rx, rn, rc, rl, ⟨d1, d2, d3, d4, d5, d6⟩, ⟨d7, d8, d9, d10, d11, d12⟩⟩, hcd, hpl⟩ := hC.1.opn g
  simp only [eX1_lastPlaceOf_0, eX1_lastPlaceOf_4, rx, go_s, nl_ref, g0, gS, ex1]
  (have z := flX1_lastPlaceOf_7 hC hp hN hS _ 0 0 (Nat.le_refl _) (fun i h1 h2 => absurd h2 (Nat.not_lt.mpr h1)) (by decide) (by decide); rw [cntE hn0 hn1] at z; exact z)
set_option maxHeartbeats 4000000 in
theorem fX1_seek {s : AS} {a0 a1 : Int32} (hC : CS g w0 x nA cA lA kn s w) (hX : ¬ okC a0 → (Q (.inr "java/lang/IndexOutOfBoundsException") w)) (hS : okC a0 → s.2.1 a0.toNatClampNeg = none → (Q (.inr "java/lang/IllegalStateException") w)) (hN : okC a0 → ∀ r, s.2.1 a0.toNatClampNeg = some r → (∀ i, i < s.2.2.1.toInt.toNat → ¬ mP r (s.2.2.2.1 i)) → Q (.inl (some (.int (-1)))) w) (hF : a1 = 0 → okC a0 → ∀ r, s.2.1 a0.toNatClampNeg = some r → ∀ i, i < s.2.2.1.toInt.toNat → mP r (s.2.2.2.1 i) → (∀ k, k < i → ¬ mP r (s.2.2.2.1 k)) → Q (.inl (some (.int (Int32.ofNat i)))) w) (hL : ¬ a1 = 0 → okC a0 → ∀ r, s.2.1 a0.toNatClampNeg = some r → ∀ i, i < s.2.2.1.toInt.toNat → mP r (s.2.2.2.1 i) → (∀ k, i + 1 ≤ k → k < s.2.2.1.toInt.toNat → ¬ mP r (s.2.2.2.1 k)) → Q (.inl (some (.int (Int32.ofNat i)))) w) : WP (MX1_seek g) Q (0, [some (.ref x), some (.int a0), some (.int a1), none], [], w, 0, 0) := by
  obtain ⟨gc, gl, ⟨hx, hn, hc, hl, hgc, hgl, hn0, hn1, rx, rn, rc, rl, ⟨d1, d2, d3, d4, d5, d6⟩, ⟨d7, d8, d9, d10, d11, d12⟩⟩, hcd, hpl⟩ := hC.1.opn g
  simp only [eX1_seek_0, rx, go_s, wt_nil, true_and, Nat.zero_add]
  with_reducible refine And.intro ?_ ?_
  omega
  with_reducible refine And.intro ?_ ?_
  omega
  with_reducible refine And.intro ?_ ?_
  omega
  with_reducible refine fX1_rangeOf (a0 := a0) hC (fun _ => ?_) (fun k0 e1 => ?_) (fun k0 p r e1 hp => ?_)
  simp only [kx_r]
  with_reducible exact hX (by assumption)
  simp only [kx_r]
  with_reducible exact hS k0 e1
  simp only [eX1_seek_5, eX1_seek_6, eX1_seek_10, eX1_seek_15, eX1_seek_18, rx, kx_l, go_s, wt_nil, nl_int, tl_s, true_and, Nat.add_zero]
  split
  with_reducible refine And.intro ?_ ?_
  omega
  with_reducible refine And.intro ?_ ?_
  omega
  with_reducible refine And.intro ?_ ?_
  omega
  with_reducible refine fX1_firstPlaceOf hC hp (fun z1 => ?_) (fun i z1 z2 z3 => ?_)
  simp only [eX1_seek_23, kx_l, tl_s]
  with_reducible refine And.intro ?_ ?_
  omega
  with_reducible refine And.intro ?_ ?_
  omega
  with_reducible exact hN k0 r e1 z1
  simp only [eX1_seek_23, kx_l, tl_s]
  with_reducible refine And.intro ?_ ?_
  omega
  with_reducible refine And.intro ?_ ?_
  omega
  with_reducible exact hF (by assumption) k0 r e1 i z1 z2 z3
  with_reducible refine And.intro ?_ ?_
  omega
  with_reducible refine And.intro ?_ ?_
  omega
  with_reducible refine And.intro ?_ ?_
  omega
  with_reducible refine fX1_lastPlaceOf hC hp (fun z1 => ?_) (fun i z1 z2 z3 => ?_)
  simp only [eX1_seek_23, kx_l, tl_s]
  with_reducible refine And.intro ?_ ?_
  omega
  with_reducible refine And.intro ?_ ?_
  omega
  with_reducible exact hN k0 r e1 z1
  simp only [eX1_seek_23, kx_l, tl_s]
  with_reducible refine And.intro ?_ ?_
  omega
  with_reducible refine And.intro ?_ ?_
  omega
  with_reducible exact hL (by assumption) k0 r e1 i z1 z2 z3
end
end
