section
section
variable {g : RO} {Q : Ot → Hw → Prop} {w0 w : Hw} {x nA cA lA : Nat} {kn : Int32}
set_option maxHeartbeats 4000000 in
theorem lX1_holdersOf_6 {a0 : Int64} {a1 : Int32} (hC : CC g w0 x nA cA lA kn w) (hQ : ∀ v : Int32, Q (.inl (some (.int v))) w) : ∀ (n rf md : Int32) (f : Nat → Int64) (gc gl : Nat → Option Nat), RO5 g w x nA cA lA n rf kn md f gc gl → ∀ (d : Nat) (i4 : Int32) (i5 : Int32) (i6 : Option Value) (k m : Nat), ¬ i5 < 0 → (6 : Int32).toInt - i5.toInt ≤ (d : Int) → k ≤ 0 → m ≤ 0 → WP (MX1_holdersOf g) Q (6, [some (.ref x), some (.long a0), none, some (.int a1), some (.int i4), some (.int i5), i6], [], w, k, m) := by
  rintro n rf md f gc gl ⟨hx, hn, hc, hl, hgc, hgl, hn0, hn1, rx, rn, rc, rl, ⟨d1, d2, d3, d4, d5, d6⟩, ⟨d7, d8, d9, d10, d11, d12⟩⟩ d
  induction d with
  | zero =>
    intro i4 i5 i6 k m z0 hm hk hs
    rw [eX1_holdersOf_6]
    simp only [eX1_holdersOf_8, eX1_holdersOf_13, eX1_holdersOf_17, eX1_holdersOf_20, eX1_holdersOf_20N, eX1_holdersOf_22, eX1_holdersOf_22N, eX1_holdersOf_24R, eX1_holdersOf_24N, eX1_holdersOf_27, eX1_holdersOf_46, eX1_holdersOf_52, rx, rc, ite_le, n45, or_false, go_s, gq_s, wt_nil, nl_int, rf_st, g0, gS, ex1, true_and, Nat.add_zero]
    split
    with_reducible refine And.intro ?_ ?_
    with_reducible exact vpi6 (by assumption) (by assumption)
    with_reducible refine And.intro ?_ ?_
    with_reducible exact (ic_z (by assumption) (by assumption)).elim
    with_reducible exact (ic_z (by assumption) (by assumption)).elim
    with_reducible refine And.intro ?_ ?_
    with_reducible assumption
    with_reducible refine And.intro ?_ ?_
    with_reducible assumption
    with_reducible exact hQ _
  | succ d ih =>
    intro i4 i5 i6 k m z0 hm hk hs
    rw [eX1_holdersOf_6]
    simp only [eX1_holdersOf_8, eX1_holdersOf_13, eX1_holdersOf_17, eX1_holdersOf_20, eX1_holdersOf_20N, eX1_holdersOf_22, eX1_holdersOf_22N, eX1_holdersOf_24R, eX1_holdersOf_24N, eX1_holdersOf_27, eX1_holdersOf_46, eX1_holdersOf_52, rx, rc, ite_le, n45, or_false, go_s, gq_s, wt_nil, nl_int, rf_st, g0, gS, ex1, true_and, Nat.add_zero]
    split
    with_reducible refine And.intro ?_ ?_
    with_reducible exact vpi6 (by assumption) (by assumption)
    with_reducible refine And.intro ?_ ?_
    with_reducible intro _
    with_reducible exact ih _ _ _ _ _ (ic_p (by assumption) (by assumption)) (ic_s (by assumption) (by assumption)) (by first | assumption | omega) (by first | assumption | omega)
    with_reducible intro _
    with_reducible intro _
    with_reducible refine And.intro ?_ ?_
    with_reducible refine go_R (by first | assumption | exact hgc _ _ (by assumption) | exact hgl _ _ (by assumption) | exact isR.ext (by assumption) (by assumption)) ?_
    with_reducible intro _
    with_reducible intro _
    with_reducible intro _
    with_reducible intro _
    simp only []
    with_reducible refine And.intro ?_ ?_
    omega
    with_reducible refine And.intro ?_ ?_
    with_reducible assumption
    with_reducible refine And.intro ?_ ?_
    with_reducible assumption
    with_reducible refine sX0_holdsAs (by first | assumption | exact hgc _ _ (by assumption) | exact hgl _ _ (by assumption) | exact isR.ext (by assumption) (by assumption)) ?_
    simp only [eX1_holdersOf_34, eX1_holdersOf_37, eX1_holdersOf_46, kx_l, nl_int, tl_s]
    with_reducible intro _
    split
    with_reducible exact ih _ _ _ _ _ (ic_p (by assumption) (by assumption)) (ic_s (by assumption) (by assumption)) (by first | assumption | omega) (by first | assumption | omega)
    with_reducible exact ih _ _ _ _ _ (ic_p (by assumption) (by assumption)) (ic_s (by assumption) (by assumption)) (by first | assumption | omega) (by first | assumption | omega)
    with_reducible refine And.intro ?_ ?_
    with_reducible assumption
    with_reducible refine And.intro ?_ ?_
    with_reducible assumption
    with_reducible exact hQ _
set_option maxHeartbeats 4000000 in
theorem sX1_holdersOf {a0 : Int64} {a1 : Int32} (hC : CC g w0 x nA cA lA kn w) (hQ : ∀ v : Int32, Q (.inl (some (.int v))) w) : WP (MX1_holdersOf g) Q (0, [some (.ref x), some (.long a0), none, some (.int a1), none, none, none], [], w, 0, 0) := by
  obtain ⟨n, rf, md, f, gc, gl, hx, hn, hc, hl, hgc, hgl, hn0, hn1, rx, rn, rc, rl, ⟨d1, d2, d3, d4, d5, d6⟩, ⟨d7, d8, d9, d10, d11, d12⟩⟩ := hC.1.opn g
  simp only [eX1_holdersOf_0, nl_int]
  with_reducible exact lX1_holdersOf_6 hC hQ _ _ _ _ _ _ ⟨hx, hn, hc, hl, hgc, hgl, hn0, hn1, rx, rn, rc, rl, ⟨d1, d2, d3, d4, d5, d6⟩, ⟨d7, d8, d9, d10, d11, d12⟩⟩ 70 _ _ _ _ _ (by first | decide | assumption) (by first | decide | exact n12 (by assumption) | exact n60 (by assumption)) (by first | decide | omega) (by first | decide | omega)
set_option maxHeartbeats 4000000 in
theorem sX1_isSo {a0 : Nat} {a1 : Int32} (h0 : isR w a0) (k0 : ¬ a1 < 0) (k1 : ¬ 2 < a1) (hQ : ∀ v : Bool, Q (.inl (some (.int (bI v)))) w) : WP (MX1_isSo g) Q (0, [some (.ref a0), some (.int a1)], [], w, 0, 0) := by
  have hQt : Q (.inl (some (.int 1))) w := hQ true
  have hQf : Q (.inl (some (.int 0))) w := hQ false
  rcases i02 k0 k1 with rfl | rfl | rfl
  · simp only [eX1_isSo_0, eX1_isSo_1_0, eX1_isSo_38, nb_1, true_and]
    with_reducible refine And.intro ?_ ?_
    omega
    with_reducible refine And.intro ?_ ?_
    omega
    with_reducible assumption
  · simp only [eX1_isSo_0, eX1_isSo_1_1, eX1_isSo_28, wt_nil, Nat.add_zero]
    with_reducible refine And.intro ?_ ?_
    with_reducible refine go_R (by assumption) ?_
    with_reducible intro _
    with_reducible intro _
    with_reducible intro _
    with_reducible intro _
    simp only []
    with_reducible refine And.intro ?_ ?_
    omega
    with_reducible refine And.intro ?_ ?_
    omega
    with_reducible refine And.intro ?_ ?_
    omega
    with_reducible refine sX0_isSettled (by first | assumption | exact hgc _ _ (by assumption) | exact hgl _ _ (by assumption) | exact isR.ext (by assumption) (by assumption)) ?_
    simp only [eX1_isSo_32, kx_l, tl_s, nb_b, true_and]
    with_reducible intro _
    with_reducible refine And.intro ?_ ?_
    omega
    with_reducible refine And.intro ?_ ?_
    omega
    with_reducible exact hQ _
  · simp only [eX1_isSo_0, eX1_isSo_1_2, eX1_isSo_33, wt_nil, Nat.add_zero]
    with_reducible refine And.intro ?_ ?_
    with_reducible refine go_R (by assumption) ?_
    with_reducible intro _
    with_reducible intro _
    with_reducible intro _
    with_reducible intro _
    simp only []
    with_reducible refine And.intro ?_ ?_
    omega
    with_reducible refine And.intro ?_ ?_
    omega
    with_reducible refine And.intro ?_ ?_
    omega
    with_reducible refine sX0_fitsSmall (by first | assumption | exact hgc _ _ (by assumption) | exact hgl _ _ (by assumption) | exact isR.ext (by assumption) (by assumption)) ?_
    simp only [eX1_isSo_37, kx_l, tl_s, nb_b, true_and]
    with_reducible intro _
    with_reducible refine And.intro ?_ ?_
    omega
    with_reducible refine And.intro ?_ ?_
    omega
    with_reducible exact hQ _
set_option maxHeartbeats 4000000 in
theorem lX1_cardsThatAre_4 {a0 : Int32} (hC : CC g w0 x nA cA lA kn w) (hQ : ∀ v : Int32, Q (.inl (some (.int v))) w) (k0 : ¬ a0 < 0) (k1 : ¬ 2 < a0) : ∀ (n rf md : Int32) (f : Nat → Int64) (gc gl : Nat → Option Nat), RO5 g w x nA cA lA n rf kn md f gc gl → ∀ (d : Nat) (i2 : Int32) (i3 : Int32) (i4 : Option Value) (k m : Nat), ¬ i3 < 0 → (6 : Int32).toInt - i3.toInt ≤ (d : Int) → k ≤ 0 → m ≤ 0 → WP (MX1_cardsThatAre g) Q (4, [some (.ref x), some (.int a0), some (.int i2), some (.int i3), i4], [], w, k, m) := by
  rintro n rf md f gc gl ⟨hx, hn, hc, hl, hgc, hgl, hn0, hn1, rx, rn, rc, rl, ⟨d1, d2, d3, d4, d5, d6⟩, ⟨d7, d8, d9, d10, d11, d12⟩⟩ d
  induction d with
  | zero =>
    intro i2 i3 i4 k m z0 hm hk hs
    rw [eX1_cardsThatAre_4]
    simp only [eX1_cardsThatAre_5, eX1_cardsThatAre_10, eX1_cardsThatAre_14, eX1_cardsThatAre_16, eX1_cardsThatAre_16N, eX1_cardsThatAre_18, eX1_cardsThatAre_18N, eX1_cardsThatAre_20R, eX1_cardsThatAre_20N, eX1_cardsThatAre_23, eX1_cardsThatAre_38, eX1_cardsThatAre_44, rx, rc, ite_le, n45, or_false, go_s, gq_s, wt_nil, nl_int, rf_st, g0, gS, ex1, true_and, Nat.add_zero]
    split
    with_reducible refine And.intro ?_ ?_
    with_reducible exact vpi6 (by assumption) (by assumption)
    with_reducible refine And.intro ?_ ?_
    with_reducible exact (ic_z (by assumption) (by assumption)).elim
    with_reducible exact (ic_z (by assumption) (by assumption)).elim
    with_reducible refine And.intro ?_ ?_
    with_reducible assumption
    with_reducible refine And.intro ?_ ?_
    with_reducible assumption
    with_reducible exact hQ _
  | succ d ih =>
    intro i2 i3 i4 k m z0 hm hk hs
    rw [eX1_cardsThatAre_4]
    simp only [eX1_cardsThatAre_5, eX1_cardsThatAre_10, eX1_cardsThatAre_14, eX1_cardsThatAre_16, eX1_cardsThatAre_16N, eX1_cardsThatAre_18, eX1_cardsThatAre_18N, eX1_cardsThatAre_20R, eX1_cardsThatAre_20N, eX1_cardsThatAre_23, eX1_cardsThatAre_38, eX1_cardsThatAre_44, rx, rc, ite_le, n45, or_false, go_s, gq_s, wt_nil, nl_int, rf_st, g0, gS, ex1, true_and, Nat.add_zero]
    split
    with_reducible refine And.intro ?_ ?_
    with_reducible exact vpi6 (by assumption) (by assumption)
    with_reducible refine And.intro ?_ ?_
    with_reducible intro _
    with_reducible exact ih _ _ _ _ _ (ic_p (by assumption) (by assumption)) (ic_s (by assumption) (by assumption)) (by first | assumption | omega) (by first | assumption | omega)
    with_reducible intro _
    with_reducible intro _
    with_reducible refine And.intro ?_ ?_
    omega
    with_reducible refine And.intro ?_ ?_
    with_reducible assumption
    with_reducible refine And.intro ?_ ?_
    with_reducible assumption
    with_reducible refine sX1_isSo (by first | assumption | exact hgc _ _ (by assumption) | exact hgl _ _ (by assumption) | exact isR.ext (by assumption) (by assumption)) (by assumption) (by assumption) ?_
    simp only [eX1_cardsThatAre_29, eX1_cardsThatAre_32, eX1_cardsThatAre_38, kx_l, nl_int, tl_s]
    with_reducible intro _
    split
    with_reducible exact ih _ _ _ _ _ (ic_p (by assumption) (by assumption)) (ic_s (by assumption) (by assumption)) (by first | assumption | omega) (by first | assumption | omega)
    with_reducible exact ih _ _ _ _ _ (ic_p (by assumption) (by assumption)) (ic_s (by assumption) (by assumption)) (by first | assumption | omega) (by first | assumption | omega)
    with_reducible refine And.intro ?_ ?_
    with_reducible assumption
    with_reducible refine And.intro ?_ ?_
    with_reducible assumption
    with_reducible exact hQ _
set_option maxHeartbeats 4000000 in
theorem sX1_cardsThatAre {a0 : Int32} (hC : CC g w0 x nA cA lA kn w) (hQ : ∀ v : Int32, Q (.inl (some (.int v))) w) (k0 : ¬ a0 < 0) (k1 : ¬ 2 < a0) : WP (MX1_cardsThatAre g) Q (0, [some (.ref x), some (.int a0), none, none, none], [], w, 0, 0) := by
  obtain ⟨n, rf, md, f, gc, gl, hx, hn, hc, hl, hgc, hgl, hn0, hn1, rx, rn, rc, rl, ⟨d1, d2, d3, d4, d5, d6⟩, ⟨d7, d8, d9, d10, d11, d12⟩⟩ := hC.1.opn g
  simp only [eX1_cardsThatAre_0, nl_int]
  with_reducible exact lX1_cardsThatAre_4 hC hQ k0 k1 _ _ _ _ _ _ ⟨hx, hn, hc, hl, hgc, hgl, hn0, hn1, rx, rn, rc, rl, ⟨d1, d2, d3, d4, d5, d6⟩, ⟨d7, d8, d9, d10, d11, d12⟩⟩ 70 _ _ _ _ _ (by first | decide | assumption) (by first | decide | exact n12 (by assumption) | exact n60 (by assumption)) (by first | decide | omega) (by first | decide | omega)
end
end
