section
section
variable {g : RO} {Q : Ot → Hw → Prop} {w0 w : Hw} {x nA cA lA : Nat} {kn : Int32}
set_option maxHeartbeats 4000000 in
theorem lX1_cardsLike_4 {a0 : Nat} (hC : CC g w0 x nA cA lA kn w) (h0 : isR w a0) (hQ : ∀ v : Int32, Q (.inl (some (.int v))) w) : ∀ (n rf md : Int32) (f : Nat → Int64) (gc gl : Nat → Option Nat), RO5 g w x nA cA lA n rf kn md f gc gl → ∀ (d : Nat) (i2 : Int32) (i3 : Int32) (i4 : Option Value) (k m : Nat), ¬ i3 < 0 → (6 : Int32).toInt - i3.toInt ≤ (d : Int) → k ≤ 0 → m ≤ 0 → WP (MX1_cardsLike g) Q (4, [some (.ref x), some (.ref a0), some (.int i2), some (.int i3), i4], [], w, k, m) := by
  rintro n rf md f gc gl ⟨hx, hn, hc, hl, hgc, hgl, hn0, hn1, rx, rn, rc, rl, ⟨d1, d2, d3, d4, d5, d6⟩, ⟨d7, d8, d9, d10, d11, d12⟩⟩ d
  induction d with
  | zero =>
    intro i2 i3 i4 k m z0 hm hk hs
    rw [eX1_cardsLike_4]
    simp only [eX1_cardsLike_5, eX1_cardsLike_10, eX1_cardsLike_14, eX1_cardsLike_16, eX1_cardsLike_16N, eX1_cardsLike_18, eX1_cardsLike_18N, eX1_cardsLike_20R, eX1_cardsLike_20N, eX1_cardsLike_23, eX1_cardsLike_51, eX1_cardsLike_57, rx, rc, ite_le, n45, or_false, go_s, gq_s, wt_nil, nl_int, rf_st, g0, gS, ex1, true_and, Nat.add_zero]
    split
    with_reducible refine And.intro ?_ ?_
    with_reducible exact vpi6 (by assumption) (by assumption)
    with_reducible refine And.intro ?_ ?_
    with_reducible exact (ic_z (by assumption) (by assumption)).elim
    with_reducible exact (ic_z (by assumption) (by assumption)).elim
    with_reducible refine And.intro ?_ ?_
    with_reducible assumption
    with_reducible refine And.intro ?_ ?_
    with_reducible assumption
    with_reducible exact hQ _
  | succ d ih =>
    intro i2 i3 i4 k m z0 hm hk hs
    rw [eX1_cardsLike_4]
    simp only [eX1_cardsLike_5, eX1_cardsLike_10, eX1_cardsLike_14, eX1_cardsLike_16, eX1_cardsLike_16N, eX1_cardsLike_18, eX1_cardsLike_18N, eX1_cardsLike_20R, eX1_cardsLike_20N, eX1_cardsLike_23, eX1_cardsLike_51, eX1_cardsLike_57, rx, rc, ite_le, n45, or_false, go_s, gq_s, wt_nil, nl_int, rf_st, g0, gS, ex1, true_and, Nat.add_zero]
    split
    with_reducible refine And.intro ?_ ?_
    with_reducible exact vpi6 (by assumption) (by assumption)
    with_reducible refine And.intro ?_ ?_
    with_reducible intro _
    with_reducible exact ih _ _ _ _ _ (ic_p (by assumption) (by assumption)) (ic_s (by assumption) (by assumption)) (by first | assumption | omega) (by first | assumption | omega)
    with_reducible intro _
    with_reducible intro _
    with_reducible refine And.intro ?_ ?_
    with_reducible refine go_R (by first | assumption | exact hgc _ _ (by assumption) | exact hgl _ _ (by assumption) | exact isR.ext (by assumption) (by assumption)) ?_
    with_reducible intro _
    with_reducible intro _
    with_reducible intro _
    with_reducible intro _
    simp only []
    with_reducible refine And.intro ?_ ?_
    omega
    with_reducible refine And.intro ?_ ?_
    with_reducible assumption
    with_reducible refine And.intro ?_ ?_
    with_reducible assumption
    with_reducible refine sX0_matchesR (by first | assumption | exact hgc _ _ (by assumption) | exact hgl _ _ (by assumption) | exact isR.ext (by assumption) (by assumption)) (by first | assumption | exact hgc _ _ (by assumption) | exact hgl _ _ (by assumption) | exact isR.ext (by assumption) (by assumption)) ?_
    simp only [eX1_cardsLike_29, eX1_cardsLike_32, eX1_cardsLike_36, eX1_cardsLike_51, kx_l, wt_nil, nl_int, tl_s, Nat.add_zero]
    with_reducible intro _
    split
    with_reducible exact ih _ _ _ _ _ (ic_p (by assumption) (by assumption)) (ic_s (by assumption) (by assumption)) (by first | assumption | omega) (by first | assumption | omega)
    with_reducible refine And.intro ?_ ?_
    with_reducible refine go_R (by first | assumption | exact hgc _ _ (by assumption) | exact hgl _ _ (by assumption) | exact isR.ext (by assumption) (by assumption)) ?_
    with_reducible intro _
    with_reducible intro _
    with_reducible intro _
    with_reducible intro _
    simp only []
    with_reducible refine And.intro ?_ ?_
    omega
    with_reducible refine And.intro ?_ ?_
    with_reducible assumption
    with_reducible refine And.intro ?_ ?_
    with_reducible assumption
    with_reducible refine sX0_hash (by first | assumption | exact hgc _ _ (by assumption) | exact hgl _ _ (by assumption) | exact isR.ext (by assumption) (by assumption)) ?_
    simp only [kx_l, wt_nil, wt_long, tl_s, Nat.add_zero]
    with_reducible intro _
    with_reducible refine And.intro ?_ ?_
    with_reducible refine go_R (by first | assumption | exact hgc _ _ (by assumption) | exact hgl _ _ (by assumption) | exact isR.ext (by assumption) (by assumption)) ?_
    with_reducible intro _
    with_reducible intro _
    with_reducible intro _
    with_reducible intro _
    simp only []
    with_reducible refine And.intro ?_ ?_
    omega
    with_reducible refine And.intro ?_ ?_
    with_reducible assumption
    with_reducible refine And.intro ?_ ?_
    with_reducible assumption
    with_reducible refine sX0_hash (by first | assumption | exact hgc _ _ (by assumption) | exact hgl _ _ (by assumption) | exact isR.ext (by assumption) (by assumption)) ?_
    simp only [eX1_cardsLike_41, eX1_cardsLike_45, eX1_cardsLike_51, kx_l, nl_int, nl_ref, tl_s]
    with_reducible intro _
    split
    with_reducible exact ih _ _ _ _ _ (ic_p (by assumption) (by assumption)) (ic_s (by assumption) (by assumption)) (by first | assumption | omega) (by first | assumption | omega)
    with_reducible exact ih _ _ _ _ _ (ic_p (by assumption) (by assumption)) (ic_s (by assumption) (by assumption)) (by first | assumption | omega) (by first | assumption | omega)
    with_reducible refine And.intro ?_ ?_
    with_reducible assumption
    with_reducible refine And.intro ?_ ?_
    with_reducible assumption
    with_reducible exact hQ _
set_option maxHeartbeats 4000000 in
theorem sX1_cardsLike {a0 : Nat} (hC : CC g w0 x nA cA lA kn w) (h0 : isR w a0) (hQ : ∀ v : Int32, Q (.inl (some (.int v))) w) : WP (MX1_cardsLike g) Q (0, [some (.ref x), some (.ref a0), none, none, none], [], w, 0, 0) := by
  obtain ⟨n, rf, md, f, gc, gl, hx, hn, hc, hl, hgc, hgl, hn0, hn1, rx, rn, rc, rl, ⟨d1, d2, d3, d4, d5, d6⟩, ⟨d7, d8, d9, d10, d11, d12⟩⟩ := hC.1.opn g
  simp only [eX1_cardsLike_0, nl_int, nl_ref]
  with_reducible exact lX1_cardsLike_4 hC h0 hQ _ _ _ _ _ _ ⟨hx, hn, hc, hl, hgc, hgl, hn0, hn1, rx, rn, rc, rl, ⟨d1, d2, d3, d4, d5, d6⟩, ⟨d7, d8, d9, d10, d11, d12⟩⟩ 70 _ _ _ _ _ (by first | decide | assumption) (by first | decide | exact n12 (by assumption) | exact n60 (by assumption)) (by first | decide | omega) (by first | decide | omega)
set_option maxHeartbeats 4000000 in
theorem lX1_cardsWithRange_4  (hC : CC g w0 x nA cA lA kn w) (hQ : ∀ v : Int32, Q (.inl (some (.int v))) w) : ∀ (n rf md : Int32) (f : Nat → Int64) (gc gl : Nat → Option Nat), RO5 g w x nA cA lA n rf kn md f gc gl → ∀ (d : Nat) (i1 : Int32) (i2 : Int32) (k m : Nat), ¬ i2 < 0 → (6 : Int32).toInt - i2.toInt ≤ (d : Int) → k ≤ 0 → m ≤ 0 → WP (MX1_cardsWithRange g) Q (4, [some (.ref x), some (.int i1), some (.int i2)], [], w, k, m) := by
  rintro n rf md f gc gl ⟨hx, hn, hc, hl, hgc, hgl, hn0, hn1, rx, rn, rc, rl, ⟨d1, d2, d3, d4, d5, d6⟩, ⟨d7, d8, d9, d10, d11, d12⟩⟩ d
  induction d with
  | zero =>
    intro i1 i2 k m z0 hm hk hs
    rw [eX1_cardsWithRange_4]
    simp only [eX1_cardsWithRange_5, eX1_cardsWithRange_10, eX1_cardsWithRange_15, eX1_cardsWithRange_17R, eX1_cardsWithRange_17N, eX1_cardsWithRange_20, eX1_cardsWithRange_24, eX1_cardsWithRange_25, eX1_cardsWithRange_36, rx, rc, ite_le, n45, or_false, go_s, gq_s, wt_nil, wt_int, rf_st, g0, gS, ex1, true_and, Nat.add_zero]
    split
    with_reducible refine And.intro ?_ ?_
    with_reducible exact vpi6 (by assumption) (by assumption)
    with_reducible refine And.intro ?_ ?_
    with_reducible exact (ic_z (by assumption) (by assumption)).elim
    with_reducible exact (ic_z (by assumption) (by assumption)).elim
    with_reducible refine And.intro ?_ ?_
    with_reducible assumption
    with_reducible refine And.intro ?_ ?_
    with_reducible assumption
    with_reducible exact hQ _
  | succ d ih =>
    intro i1 i2 k m z0 hm hk hs
    rw [eX1_cardsWithRange_4]
    simp only [eX1_cardsWithRange_5, eX1_cardsWithRange_10, eX1_cardsWithRange_15, eX1_cardsWithRange_17R, eX1_cardsWithRange_17N, eX1_cardsWithRange_20, eX1_cardsWithRange_24, eX1_cardsWithRange_25, eX1_cardsWithRange_36, rx, rc, ite_le, n45, or_false, go_s, gq_s, wt_nil, wt_int, rf_st, g0, gS, ex1, true_and, Nat.add_zero]
    split
    with_reducible refine And.intro ?_ ?_
    with_reducible exact vpi6 (by assumption) (by assumption)
    with_reducible refine And.intro ?_ ?_
    with_reducible intro _
    with_reducible refine And.intro ?_ ?_
    omega
    with_reducible refine And.intro ?_ ?_
    with_reducible assumption
    with_reducible refine And.intro ?_ ?_
    with_reducible assumption
    with_reducible refine sX1_asNumber ?_
    simp only [eX1_cardsWithRange_28, kx_l, nl_int, nl_ref, tl_s]
    with_reducible intro _
    with_reducible exact ih _ _ _ _ (ic_p (by assumption) (by assumption)) (ic_s (by assumption) (by assumption)) (by first | assumption | omega) (by first | assumption | omega)
    with_reducible intro _
    with_reducible intro _
    with_reducible refine And.intro ?_ ?_
    omega
    with_reducible refine And.intro ?_ ?_
    with_reducible assumption
    with_reducible refine And.intro ?_ ?_
    with_reducible assumption
    with_reducible refine sX1_asNumber ?_
    simp only [eX1_cardsWithRange_28, kx_l, nl_int, nl_ref, tl_s]
    with_reducible intro _
    with_reducible exact ih _ _ _ _ (ic_p (by assumption) (by assumption)) (ic_s (by assumption) (by assumption)) (by first | assumption | omega) (by first | assumption | omega)
    with_reducible refine And.intro ?_ ?_
    with_reducible assumption
    with_reducible refine And.intro ?_ ?_
    with_reducible assumption
    with_reducible exact hQ _
set_option maxHeartbeats 4000000 in
theorem sX1_cardsWithRange  (hC : CC g w0 x nA cA lA kn w) (hQ : ∀ v : Int32, Q (.inl (some (.int v))) w) : WP (MX1_cardsWithRange g) Q (0, [some (.ref x), none, none], [], w, 0, 0) := by
  obtain ⟨n, rf, md, f, gc, gl, hx, hn, hc, hl, hgc, hgl, hn0, hn1, rx, rn, rc, rl, ⟨d1, d2, d3, d4, d5, d6⟩, ⟨d7, d8, d9, d10, d11, d12⟩⟩ := hC.1.opn g
  simp only [eX1_cardsWithRange_0, nl_int, nl_ref]
  with_reducible exact lX1_cardsWithRange_4 hC hQ _ _ _ _ _ _ ⟨hx, hn, hc, hl, hgc, hgl, hn0, hn1, rx, rn, rc, rl, ⟨d1, d2, d3, d4, d5, d6⟩, ⟨d7, d8, d9, d10, d11, d12⟩⟩ 70 _ _ _ _ (by first | decide | assumption) (by first | decide | exact n12 (by assumption) | exact n60 (by assumption)) (by first | decide | omega) (by first | decide | omega)
set_option maxHeartbeats 4000000 in
theorem lX1_firstPlaceOf_2 {a0 : Nat} (hC : CC g w0 x nA cA lA kn w) (h0 : isR w a0) (hQ : ∀ v : Int32, Q (.inl (some (.int v))) w) : ∀ (n rf md : Int32) (f : Nat → Int64) (gc gl : Nat → Option Nat), RO5 g w x nA cA lA n rf kn md f gc gl → ∀ (d : Nat) (i2 : Int32) (k m : Nat), ¬ i2 < 0 → (n : Int32).toInt - i2.toInt ≤ (d : Int) → k ≤ 0 → m ≤ 0 → WP (MX1_firstPlaceOf g) Q (2, [some (.ref x), some (.ref a0), some (.int i2)], [], w, k, m) := by
  rintro n rf md f gc gl ⟨hx, hn, hc, hl, hgc, hgl, hn0, hn1, rx, rn, rc, rl, ⟨d1, d2, d3, d4, d5, d6⟩, ⟨d7, d8, d9, d10, d11, d12⟩⟩ d
  induction d with
  | zero =>
    intro i2 k m z0 hm hk hs
    rw [eX1_firstPlaceOf_2]
    simp only [eX1_firstPlaceOf_3, eX1_firstPlaceOf_7, eX1_firstPlaceOf_10, eX1_firstPlaceOf_15, eX1_firstPlaceOf_17R, eX1_firstPlaceOf_17N, eX1_firstPlaceOf_31, rx, rl, ite_le, n45, or_false, go_s, gq_s, wt_nil, rf_st, g0, gS, ex1, true_and, Nat.add_zero]
    split
    with_reducible refine And.intro ?_ ?_
    with_reducible exact (ic_z (by assumption) (by assumption)).elim
    with_reducible refine And.intro ?_ ?_
    with_reducible exact (ic_z (by assumption) (by assumption)).elim
    with_reducible exact (ic_z (by assumption) (by assumption)).elim
    with_reducible refine And.intro ?_ ?_
    with_reducible assumption
    with_reducible refine And.intro ?_ ?_
    with_reducible assumption
    with_reducible exact hQ _
  | succ d ih =>
    intro i2 k m z0 hm hk hs
    rw [eX1_firstPlaceOf_2]
    simp only [eX1_firstPlaceOf_3, eX1_firstPlaceOf_7, eX1_firstPlaceOf_10, eX1_firstPlaceOf_15, eX1_firstPlaceOf_17R, eX1_firstPlaceOf_17N, eX1_firstPlaceOf_31, rx, rl, ite_le, n45, or_false, go_s, gq_s, wt_nil, rf_st, g0, gS, ex1, true_and, Nat.add_zero]
    split
    with_reducible refine And.intro ?_ ?_
    with_reducible exact vpi12 (by assumption) (by assumption) (by assumption)
    with_reducible refine And.intro ?_ ?_
    with_reducible intro _
    with_reducible refine And.intro ?_ ?_
    with_reducible refine go_R (by first | assumption | exact hgc _ _ (by assumption) | exact hgl _ _ (by assumption) | exact isR.ext (by assumption) (by assumption)) ?_
    with_reducible intro _
    with_reducible intro _
    with_reducible intro _
    with_reducible intro _
    simp only []
    with_reducible refine And.intro ?_ ?_
    omega
    with_reducible refine And.intro ?_ ?_
    with_reducible assumption
    with_reducible refine And.intro ?_ ?_
    with_reducible assumption
    with_reducible refine sX0_matchesN (by first | assumption | exact hgc _ _ (by assumption) | exact hgl _ _ (by assumption) | exact isR.ext (by assumption) (by assumption)) ?_
    simp only [eX1_firstPlaceOf_20, eX1_firstPlaceOf_23, eX1_firstPlaceOf_25, kx_l, nl_ref, tl_s]
    with_reducible intro _
    split
    with_reducible exact ih _ _ _ (ic_p (by assumption) (by assumption)) (ic_s (by assumption) (by assumption)) (by first | assumption | omega) (by first | assumption | omega)
    with_reducible refine And.intro ?_ ?_
    with_reducible assumption
    with_reducible refine And.intro ?_ ?_
    with_reducible assumption
    with_reducible exact hQ _
    with_reducible intro _
    with_reducible intro _
    with_reducible refine And.intro ?_ ?_
    with_reducible refine go_R (by first | assumption | exact hgc _ _ (by assumption) | exact hgl _ _ (by assumption) | exact isR.ext (by assumption) (by assumption)) ?_
    with_reducible intro _
    with_reducible intro _
    with_reducible intro _
    with_reducible intro _
    simp only []
    with_reducible refine And.intro ?_ ?_
    omega
    with_reducible refine And.intro ?_ ?_
    with_reducible assumption
    with_reducible refine And.intro ?_ ?_
    with_reducible assumption
    with_reducible refine sX0_matchesR (by first | assumption | exact hgc _ _ (by assumption) | exact hgl _ _ (by assumption) | exact isR.ext (by assumption) (by assumption)) (by first | assumption | exact hgc _ _ (by assumption) | exact hgl _ _ (by assumption) | exact isR.ext (by assumption) (by assumption)) ?_
    simp only [eX1_firstPlaceOf_20, eX1_firstPlaceOf_23, eX1_firstPlaceOf_25, kx_l, nl_ref, tl_s]
    with_reducible intro _
    split
    with_reducible exact ih _ _ _ (ic_p (by assumption) (by assumption)) (ic_s (by assumption) (by assumption)) (by first | assumption | omega) (by first | assumption | omega)
    with_reducible refine And.intro ?_ ?_
    with_reducible assumption
    with_reducible refine And.intro ?_ ?_
    with_reducible assumption
    with_reducible exact hQ _
    with_reducible refine And.intro ?_ ?_
    with_reducible assumption
    with_reducible refine And.intro ?_ ?_
    with_reducible assumption
    with_reducible exact hQ _
set_option maxHeartbeats 4000000 in
theorem sX1_firstPlaceOf {a0 : Nat} (hC : CC g w0 x nA cA lA kn w) (h0 : isR w a0) (hQ : ∀ v : Int32, Q (.inl (some (.int v))) w) : WP (MX1_firstPlaceOf g) Q (0, [some (.ref x), some (.ref a0), none], [], w, 0, 0) := by
  obtain ⟨n, rf, md, f, gc, gl, hx, hn, hc, hl, hgc, hgl, hn0, hn1, rx, rn, rc, rl, ⟨d1, d2, d3, d4, d5, d6⟩, ⟨d7, d8, d9, d10, d11, d12⟩⟩ := hC.1.opn g
  simp only [eX1_firstPlaceOf_0, nl_ref]
  with_reducible exact lX1_firstPlaceOf_2 hC h0 hQ _ _ _ _ _ _ ⟨hx, hn, hc, hl, hgc, hgl, hn0, hn1, rx, rn, rc, rl, ⟨d1, d2, d3, d4, d5, d6⟩, ⟨d7, d8, d9, d10, d11, d12⟩⟩ 70 _ _ _ (by first | decide | assumption) (by first | decide | exact n12 (by assumption) | exact n60 (by assumption)) (by first | decide | omega) (by first | decide | omega)
set_option maxHeartbeats 4000000 in
theorem lX1_lastPlaceOf_7 {a0 : Nat} (hC : CC g w0 x nA cA lA kn w) (h0 : isR w a0) (hQ : ∀ v : Int32, Q (.inl (some (.int v))) w) : ∀ (n rf md : Int32) (f : Nat → Int64) (gc gl : Nat → Option Nat), RO5 g w x nA cA lA n rf kn md f gc gl → ∀ (d : Nat) (i2 : Int32) (k m : Nat), i2 < n → i2.toInt + 1 ≤ (d : Int) → k ≤ 0 → m ≤ 0 → WP (MX1_lastPlaceOf g) Q (7, [some (.ref x), some (.ref a0), some (.int i2)], [], w, k, m) := by
  rintro n rf md f gc gl ⟨hx, hn, hc, hl, hgc, hgl, hn0, hn1, rx, rn, rc, rl, ⟨d1, d2, d3, d4, d5, d6⟩, ⟨d7, d8, d9, d10, d11, d12⟩⟩ d
  induction d with
  | zero =>
    intro i2 k m k0 hm hk hs
    rw [eX1_lastPlaceOf_7]
    simp only [eX1_lastPlaceOf_8, eX1_lastPlaceOf_11, eX1_lastPlaceOf_16, eX1_lastPlaceOf_18R, eX1_lastPlaceOf_18N, eX1_lastPlaceOf_32, rx, rl, n45, or_false, go_s, gq_s, wt_nil, rf_st, g0, gS, ex1, true_and, Nat.add_zero]
    split
    with_reducible refine And.intro ?_ ?_
    with_reducible assumption
    with_reducible refine And.intro ?_ ?_
    with_reducible assumption
    with_reducible exact hQ _
    with_reducible refine And.intro ?_ ?_
    with_reducible exact (id_z (by assumption) (by assumption)).elim
    with_reducible refine And.intro ?_ ?_
    with_reducible exact (id_z (by assumption) (by assumption)).elim
    with_reducible exact (id_z (by assumption) (by assumption)).elim
  | succ d ih =>
    intro i2 k m k0 hm hk hs
    rw [eX1_lastPlaceOf_7]
    simp only [eX1_lastPlaceOf_8, eX1_lastPlaceOf_11, eX1_lastPlaceOf_16, eX1_lastPlaceOf_18R, eX1_lastPlaceOf_18N, eX1_lastPlaceOf_32, rx, rl, n45, or_false, go_s, gq_s, wt_nil, rf_st, g0, gS, ex1, true_and, Nat.add_zero]
    split
    with_reducible refine And.intro ?_ ?_
    with_reducible assumption
    with_reducible refine And.intro ?_ ?_
    with_reducible assumption
    with_reducible exact hQ _
    with_reducible refine And.intro ?_ ?_
    with_reducible exact vpi12 (by assumption) (by assumption) (by assumption)
    with_reducible refine And.intro ?_ ?_
    with_reducible intro _
    with_reducible refine And.intro ?_ ?_
    with_reducible refine go_R (by first | assumption | exact hgc _ _ (by assumption) | exact hgl _ _ (by assumption) | exact isR.ext (by assumption) (by assumption)) ?_
    with_reducible intro _
    with_reducible intro _
    with_reducible intro _
    with_reducible intro _
    simp only []
    with_reducible refine And.intro ?_ ?_
    omega
    with_reducible refine And.intro ?_ ?_
    with_reducible assumption
    with_reducible refine And.intro ?_ ?_
    with_reducible assumption
    with_reducible refine sX0_matchesN (by first | assumption | exact hgc _ _ (by assumption) | exact hgl _ _ (by assumption) | exact isR.ext (by assumption) (by assumption)) ?_
    simp only [eX1_lastPlaceOf_21, eX1_lastPlaceOf_24, eX1_lastPlaceOf_26, kx_l, nl_ref, tl_s]
    with_reducible intro _
    split
    with_reducible exact ih _ _ _ (id_p (by assumption) (by assumption)) (id_s (by assumption) (by assumption)) (by first | assumption | omega) (by first | assumption | omega)
    with_reducible refine And.intro ?_ ?_
    with_reducible assumption
    with_reducible refine And.intro ?_ ?_
    with_reducible assumption
    with_reducible exact hQ _
    with_reducible intro _
    with_reducible intro _
    with_reducible refine And.intro ?_ ?_
    with_reducible refine go_R (by first | assumption | exact hgc _ _ (by assumption) | exact hgl _ _ (by assumption) | exact isR.ext (by assumption) (by assumption)) ?_
    with_reducible intro _
    with_reducible intro _
    with_reducible intro _
    with_reducible intro _
    simp only []
    with_reducible refine And.intro ?_ ?_
    omega
    with_reducible refine And.intro ?_ ?_
    with_reducible assumption
    with_reducible refine And.intro ?_ ?_
    with_reducible assumption
    with_reducible refine sX0_matchesR (by first | assumption | exact hgc _ _ (by assumption) | exact hgl _ _ (by assumption) | exact isR.ext (by assumption) (by assumption)) (by first | assumption | exact hgc _ _ (by assumption) | exact hgl _ _ (by assumption) | exact isR.ext (by assumption) (by assumption)) ?_
    simp only [eX1_lastPlaceOf_21, eX1_lastPlaceOf_24, eX1_lastPlaceOf_26, kx_l, nl_ref, tl_s]
    with_reducible intro _
    split
    with_reducible exact ih _ _ _ (id_p (by assumption) (by assumption)) (id_s (by assumption) (by assumption)) (by first | assumption | omega) (by first | assumption | omega)
    with_reducible refine And.intro ?_ ?_
    with_reducible assumption
    with_reducible refine And.intro ?_ ?_
    with_reducible assumption
    with_reducible exact hQ _
set_option maxHeartbeats 4000000 in
theorem sX1_lastPlaceOf {a0 : Nat} (hC : CC g w0 x nA cA lA kn w) (h0 : isR w a0) (hQ : ∀ v : Int32, Q (.inl (some (.int v))) w) : WP (MX1_lastPlaceOf g) Q (0, [some (.ref x), some (.ref a0), none], [], w, 0, 0) := by
  obtain ⟨n, rf, md, f, gc, gl, hx, hn, hc, hl, hgc, hgl, hn0, hn1, rx, rn, rc, rl, ⟨d1, d2, d3, d4, d5, d6⟩, ⟨d7, d8, d9, d10, d11, d12⟩⟩ := hC.1.opn g
  simp only [eX1_lastPlaceOf_0, eX1_lastPlaceOf_4, rx, go_s, nl_ref, g0, gS, ex1]
  with_reducible exact lX1_lastPlaceOf_7 hC h0 hQ _ _ _ _ _ _ ⟨hx, hn, hc, hl, hgc, hgl, hn0, hn1, rx, rn, rc, rl, ⟨d1, d2, d3, d4, d5, d6⟩, ⟨d7, d8, d9, d10, d11, d12⟩⟩ 70 _ _ _ (id_e (by assumption) (by assumption)) (id_m (by assumption) (by assumption)) (by first | decide | omega) (by first | decide | omega)
set_option maxHeartbeats 4000000 in
theorem lX1_timesLaid_4 {a0 : Nat} (hC : CC g w0 x nA cA lA kn w) (h0 : isR w a0) (hQ : ∀ v : Int32, Q (.inl (some (.int v))) w) : ∀ (n rf md : Int32) (f : Nat → Int64) (gc gl : Nat → Option Nat), RO5 g w x nA cA lA n rf kn md f gc gl → ∀ (d : Nat) (i2 : Int32) (i3 : Int32) (k m : Nat), ¬ i3 < 0 → (n : Int32).toInt - i3.toInt ≤ (d : Int) → k ≤ 0 → m ≤ 0 → WP (MX1_timesLaid g) Q (4, [some (.ref x), some (.ref a0), some (.int i2), some (.int i3)], [], w, k, m) := by
  rintro n rf md f gc gl ⟨hx, hn, hc, hl, hgc, hgl, hn0, hn1, rx, rn, rc, rl, ⟨d1, d2, d3, d4, d5, d6⟩, ⟨d7, d8, d9, d10, d11, d12⟩⟩ d
  induction d with
  | zero =>
    intro i2 i3 k m z0 hm hk hs
    rw [eX1_timesLaid_4]
    simp only [eX1_timesLaid_5, eX1_timesLaid_9, eX1_timesLaid_12, eX1_timesLaid_18, eX1_timesLaid_20R, eX1_timesLaid_20N, eX1_timesLaid_34, rx, rl, ite_le, n45, or_false, go_s, gq_s, wt_nil, wt_int, rf_st, g0, gS, ex1, true_and, Nat.add_zero]
    split
    with_reducible refine And.intro ?_ ?_
    with_reducible exact (ic_z (by assumption) (by assumption)).elim
    with_reducible refine And.intro ?_ ?_
    with_reducible exact (ic_z (by assumption) (by assumption)).elim
    with_reducible exact (ic_z (by assumption) (by assumption)).elim
    with_reducible refine And.intro ?_ ?_
    with_reducible assumption
    with_reducible refine And.intro ?_ ?_
    with_reducible assumption
    with_reducible exact hQ _
  | succ d ih =>
    intro i2 i3 k m z0 hm hk hs
    rw [eX1_timesLaid_4]
    simp only [eX1_timesLaid_5, eX1_timesLaid_9, eX1_timesLaid_12, eX1_timesLaid_18, eX1_timesLaid_20R, eX1_timesLaid_20N, eX1_timesLaid_34, rx, rl, ite_le, n45, or_false, go_s, gq_s, wt_nil, wt_int, rf_st, g0, gS, ex1, true_and, Nat.add_zero]
    split
    with_reducible refine And.intro ?_ ?_
    with_reducible exact vpi12 (by assumption) (by assumption) (by assumption)
    with_reducible refine And.intro ?_ ?_
    with_reducible intro _
    with_reducible refine And.intro ?_ ?_
    with_reducible refine go_R (by first | assumption | exact hgc _ _ (by assumption) | exact hgl _ _ (by assumption) | exact isR.ext (by assumption) (by assumption)) ?_
    with_reducible intro _
    with_reducible intro _
    with_reducible intro _
    with_reducible intro _
    simp only []
    with_reducible refine And.intro ?_ ?_
    omega
    with_reducible refine And.intro ?_ ?_
    with_reducible assumption
    with_reducible refine And.intro ?_ ?_
    with_reducible assumption
    with_reducible refine sX0_matchesN (by first | assumption | exact hgc _ _ (by assumption) | exact hgl _ _ (by assumption) | exact isR.ext (by assumption) (by assumption)) ?_
    simp only [eX1_timesLaid_23, kx_l, wt_nil, wt_int, tl_s, Nat.add_zero]
    with_reducible intro _
    with_reducible refine And.intro ?_ ?_
    omega
    with_reducible refine And.intro ?_ ?_
    with_reducible assumption
    with_reducible refine And.intro ?_ ?_
    with_reducible assumption
    with_reducible refine sX1_asNumber ?_
    simp only [eX1_timesLaid_26, kx_l, nl_int, nl_ref, tl_s]
    with_reducible intro _
    with_reducible exact ih _ _ _ _ (ic_p (by assumption) (by assumption)) (ic_s (by assumption) (by assumption)) (by first | assumption | omega) (by first | assumption | omega)
    with_reducible intro _
    with_reducible intro _
    with_reducible refine And.intro ?_ ?_
    with_reducible refine go_R (by first | assumption | exact hgc _ _ (by assumption) | exact hgl _ _ (by assumption) | exact isR.ext (by assumption) (by assumption)) ?_
    with_reducible intro _
    with_reducible intro _
    with_reducible intro _
    with_reducible intro _
    simp only []
    with_reducible refine And.intro ?_ ?_
    omega
    with_reducible refine And.intro ?_ ?_
    with_reducible assumption
    with_reducible refine And.intro ?_ ?_
    with_reducible assumption
    with_reducible refine sX0_matchesR (by first | assumption | exact hgc _ _ (by assumption) | exact hgl _ _ (by assumption) | exact isR.ext (by assumption) (by assumption)) (by first | assumption | exact hgc _ _ (by assumption) | exact hgl _ _ (by assumption) | exact isR.ext (by assumption) (by assumption)) ?_
    simp only [eX1_timesLaid_23, kx_l, wt_nil, wt_int, tl_s, Nat.add_zero]
    with_reducible intro _
    with_reducible refine And.intro ?_ ?_
    omega
    with_reducible refine And.intro ?_ ?_
    with_reducible assumption
    with_reducible refine And.intro ?_ ?_
    with_reducible assumption
    with_reducible refine sX1_asNumber ?_
    simp only [eX1_timesLaid_26, kx_l, nl_int, nl_ref, tl_s]
    with_reducible intro _
    with_reducible exact ih _ _ _ _ (ic_p (by assumption) (by assumption)) (ic_s (by assumption) (by assumption)) (by first | assumption | omega) (by first | assumption | omega)
    with_reducible refine And.intro ?_ ?_
    with_reducible assumption
    with_reducible refine And.intro ?_ ?_
    with_reducible assumption
    with_reducible exact hQ _
set_option maxHeartbeats 4000000 in
theorem sX1_timesLaid {a0 : Nat} (hC : CC g w0 x nA cA lA kn w) (h0 : isR w a0) (hQ : ∀ v : Int32, Q (.inl (some (.int v))) w) : WP (MX1_timesLaid g) Q (0, [some (.ref x), some (.ref a0), none, none], [], w, 0, 0) := by
  obtain ⟨n, rf, md, f, gc, gl, hx, hn, hc, hl, hgc, hgl, hn0, hn1, rx, rn, rc, rl, ⟨d1, d2, d3, d4, d5, d6⟩, ⟨d7, d8, d9, d10, d11, d12⟩⟩ := hC.1.opn g
  simp only [eX1_timesLaid_0, nl_int, nl_ref]
  with_reducible exact lX1_timesLaid_4 hC h0 hQ _ _ _ _ _ _ ⟨hx, hn, hc, hl, hgc, hgl, hn0, hn1, rx, rn, rc, rl, ⟨d1, d2, d3, d4, d5, d6⟩, ⟨d7, d8, d9, d10, d11, d12⟩⟩ 70 _ _ _ _ (by first | decide | assumption) (by first | decide | exact n12 (by assumption) | exact n60 (by assumption)) (by first | decide | omega) (by first | decide | omega)
end
end
