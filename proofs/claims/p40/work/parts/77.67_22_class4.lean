section
section
variable {g : RO} {Q : Ot → Hw → Prop} {w0 w : Hw} {x nA cA lA : Nat} {kn : Int32}
set_option maxHeartbeats 4000000 in
theorem sX1_isOuterSound {a0 : Nat} (h0 : isR w a0) (hQ : ∀ v : Bool, Q (.inl (some (.int (bI v)))) w) : WP (MX1_isOuterSound g) Q (0, [some (.ref a0)], [], w, 0, 0) := by
  have hQt : Q (.inl (some (.int 1))) w := hQ true
  have hQf : Q (.inl (some (.int 0))) w := hQ false
  simp only [eX1_isOuterSound_0, eX1_isOuterSound_4]
  with_reducible refine go_R (by assumption) ?_
  simp only [eX1_isOuterSound_7, eX1_isOuterSound_11, eX1_isOuterSound_16, eX1_isOuterSound_24, eX1_isOuterSound_28, g0, ex1]
  with_reducible intro _
  split
  with_reducible intro _
  with_reducible intro _
  with_reducible intro _
  with_reducible refine go_R (by assumption) ?_
  simp only [eX1_isOuterSound_31, eX1_isOuterSound_35, eX1_isOuterSound_40, eX1_isOuterSound_48, eX1_isOuterSound_53, g0, gS, ex1, nb_1, true_and]
  with_reducible intro _
  with_reducible intro _
  with_reducible intro _
  with_reducible intro _
  split
  with_reducible refine And.intro ?_ ?_
  omega
  with_reducible refine And.intro ?_ ?_
  omega
  with_reducible assumption
  with_reducible refine go_R (by assumption) ?_
  simp only [eX1_isOuterSound_41, wt_nil, g0, gS, ex1, Nat.add_zero]
  with_reducible intro _
  with_reducible intro _
  with_reducible intro _
  with_reducible intro _
  with_reducible refine And.intro ?_ ?_
  with_reducible refine go_R (by assumption) ?_
  with_reducible intro _
  with_reducible intro _
  with_reducible intro _
  with_reducible intro _
  simp only []
  with_reducible refine And.intro ?_ ?_
  omega
  with_reducible refine And.intro ?_ ?_
  omega
  with_reducible refine And.intro ?_ ?_
  omega
  with_reducible refine sX0_holds (by first | assumption | exact hgc _ _ (by assumption) | exact hgl _ _ (by assumption) | exact isR.ext (by assumption) (by assumption)) ?_
  simp only [eX1_isOuterSound_45, eX1_isOuterSound_48, eX1_isOuterSound_52, eX1_isOuterSound_53, kx_l, tl_s, nb_0, nb_1, true_and]
  with_reducible intro _
  split
  with_reducible refine And.intro ?_ ?_
  omega
  with_reducible refine And.intro ?_ ?_
  omega
  with_reducible assumption
  with_reducible refine And.intro ?_ ?_
  omega
  with_reducible refine And.intro ?_ ?_
  omega
  with_reducible assumption
  with_reducible intro _
  with_reducible intro _
  with_reducible intro _
  with_reducible refine go_R (by assumption) ?_
  simp only [eX1_isOuterSound_17, wt_nil, g0, ex1, Nat.add_zero]
  with_reducible intro _
  with_reducible intro _
  with_reducible intro _
  with_reducible intro _
  with_reducible refine And.intro ?_ ?_
  with_reducible refine go_R (by assumption) ?_
  with_reducible intro _
  with_reducible intro _
  with_reducible intro _
  with_reducible intro _
  simp only []
  with_reducible refine And.intro ?_ ?_
  omega
  with_reducible refine And.intro ?_ ?_
  omega
  with_reducible refine And.intro ?_ ?_
  omega
  with_reducible refine sX0_holds (by first | assumption | exact hgc _ _ (by assumption) | exact hgl _ _ (by assumption) | exact isR.ext (by assumption) (by assumption)) ?_
  simp only [eX1_isOuterSound_21, eX1_isOuterSound_24, eX1_isOuterSound_28, eX1_isOuterSound_52, eX1_isOuterSound_53, kx_l, tl_s, nb_0, true_and]
  with_reducible intro _
  split
  with_reducible refine go_R (by assumption) ?_
  simp only [eX1_isOuterSound_31, eX1_isOuterSound_35, eX1_isOuterSound_40, eX1_isOuterSound_48, eX1_isOuterSound_53, g0, gS, ex1, nb_1, true_and]
  with_reducible intro _
  with_reducible intro _
  with_reducible intro _
  with_reducible intro _
  split
  with_reducible refine And.intro ?_ ?_
  omega
  with_reducible refine And.intro ?_ ?_
  omega
  with_reducible assumption
  with_reducible refine go_R (by assumption) ?_
  simp only [eX1_isOuterSound_41, wt_nil, g0, gS, ex1, Nat.add_zero]
  with_reducible intro _
  with_reducible intro _
  with_reducible intro _
  with_reducible intro _
  with_reducible refine And.intro ?_ ?_
  with_reducible refine go_R (by assumption) ?_
  with_reducible intro _
  with_reducible intro _
  with_reducible intro _
  with_reducible intro _
  simp only []
  with_reducible refine And.intro ?_ ?_
  omega
  with_reducible refine And.intro ?_ ?_
  omega
  with_reducible refine And.intro ?_ ?_
  omega
  with_reducible refine sX0_holds (by first | assumption | exact hgc _ _ (by assumption) | exact hgl _ _ (by assumption) | exact isR.ext (by assumption) (by assumption)) ?_
  simp only [eX1_isOuterSound_45, eX1_isOuterSound_48, eX1_isOuterSound_52, eX1_isOuterSound_53, kx_l, tl_s, nb_0, nb_1, true_and]
  with_reducible intro _
  split
  with_reducible refine And.intro ?_ ?_
  omega
  with_reducible refine And.intro ?_ ?_
  omega
  with_reducible assumption
  with_reducible refine And.intro ?_ ?_
  omega
  with_reducible refine And.intro ?_ ?_
  omega
  with_reducible assumption
  with_reducible refine And.intro ?_ ?_
  omega
  with_reducible refine And.intro ?_ ?_
  omega
  with_reducible assumption
set_option maxHeartbeats 4000000 in
theorem lX1_isEachEndHeld_2 {a0 : Nat} (h0 : isR w a0) (hQ : ∀ v : Bool, Q (.inl (some (.int (bI v)))) w) : ∀ (d : Nat) (i1 : Int32) (i2 : Option Value) (i3 : Option Value) (k m : Nat), ¬ i1 < 0 → (4 : Int32).toInt - i1.toInt ≤ (d : Int) → k ≤ 0 → m ≤ 0 → WP (MX1_isEachEndHeld g) Q (2, [some (.ref a0), some (.int i1), i2, i3], [], w, k, m) := by
  intro d
  have hQt : Q (.inl (some (.int 1))) w := hQ true
  have hQf : Q (.inl (some (.int 0))) w := hQ false
  induction d with
  | zero =>
    intro i1 i2 i3 k m z0 hm hk hs
    rw [eX1_isEachEndHeld_2]
    simp only [eX1_isEachEndHeld_3, eX1_isEachEndHeld_7, eX1_isEachEndHeld_41, ite_le, wt_nil, nb_1, true_and, Nat.add_zero]
    split
    with_reducible refine And.intro ?_ ?_
    with_reducible exact (ic_z (by assumption) (by assumption)).elim
    with_reducible refine And.intro ?_ ?_
    with_reducible exact (ic_z (by assumption) (by assumption)).elim
    with_reducible refine And.intro ?_ ?_
    with_reducible assumption
    with_reducible refine And.intro ?_ ?_
    with_reducible assumption
    with_reducible exact (ic_z (by assumption) (by assumption)).elim
    with_reducible refine And.intro ?_ ?_
    with_reducible assumption
    with_reducible refine And.intro ?_ ?_
    with_reducible assumption
    with_reducible assumption
  | succ d ih =>
    intro i1 i2 i3 k m z0 hm hk hs
    rw [eX1_isEachEndHeld_2]
    simp only [eX1_isEachEndHeld_3, eX1_isEachEndHeld_7, eX1_isEachEndHeld_41, ite_le, wt_nil, nb_1, true_and, Nat.add_zero]
    split
    with_reducible refine And.intro ?_ ?_
    with_reducible refine go_R (by assumption) ?_
    with_reducible intro _
    with_reducible intro _
    with_reducible intro _
    with_reducible intro _
    simp only []
    with_reducible refine And.intro ?_ ?_
    omega
    with_reducible refine And.intro ?_ ?_
    with_reducible assumption
    with_reducible refine And.intro ?_ ?_
    with_reducible assumption
    with_reducible refine sX0_endAt (by first | assumption | exact hgc _ _ (by assumption) | exact hgl _ _ (by assumption) | exact isR.ext (by assumption) (by assumption)) ?_
    simp only [eX1_isEachEndHeld_12, kx_l, wt_nil, nl_int, tl_s, Nat.add_zero]
    with_reducible intro _
    with_reducible refine And.intro ?_ ?_
    with_reducible refine go_R (by assumption) ?_
    with_reducible intro _
    with_reducible intro _
    with_reducible intro _
    with_reducible intro _
    simp only []
    with_reducible refine And.intro ?_ ?_
    omega
    with_reducible refine And.intro ?_ ?_
    with_reducible assumption
    with_reducible refine And.intro ?_ ?_
    with_reducible assumption
    with_reducible refine sX0_holds (by first | assumption | exact hgc _ _ (by assumption) | exact hgl _ _ (by assumption) | exact isR.ext (by assumption) (by assumption)) ?_
    simp only [eX1_isEachEndHeld_18, eX1_isEachEndHeld_21, eX1_isEachEndHeld_26, eX1_isEachEndHeld_33, kx_l, wt_nil, tl_s, nb_0, true_and, Nat.add_zero]
    with_reducible intro _
    split
    with_reducible refine And.intro ?_ ?_
    with_reducible assumption
    with_reducible refine And.intro ?_ ?_
    with_reducible assumption
    with_reducible assumption
    with_reducible refine And.intro ?_ ?_
    with_reducible refine go_R (by assumption) ?_
    with_reducible intro _
    with_reducible intro _
    with_reducible intro _
    with_reducible intro _
    simp only []
    with_reducible refine And.intro ?_ ?_
    omega
    with_reducible refine And.intro ?_ ?_
    with_reducible assumption
    with_reducible refine And.intro ?_ ?_
    with_reducible assumption
    with_reducible refine sX0_holdsAsSmall (by first | assumption | exact hgc _ _ (by assumption) | exact hgl _ _ (by assumption) | exact isR.ext (by assumption) (by assumption)) ?_
    simp only [kx_l, wt_nil, wt_int, tl_s, Nat.add_zero]
    with_reducible intro _
    with_reducible refine And.intro ?_ ?_
    with_reducible refine go_R (by assumption) ?_
    with_reducible intro _
    with_reducible intro _
    with_reducible intro _
    with_reducible intro _
    simp only []
    with_reducible refine And.intro ?_ ?_
    omega
    with_reducible refine And.intro ?_ ?_
    with_reducible assumption
    with_reducible refine And.intro ?_ ?_
    with_reducible assumption
    with_reducible refine sX0_fitsSmall (by first | assumption | exact hgc _ _ (by assumption) | exact hgl _ _ (by assumption) | exact isR.ext (by assumption) (by assumption)) ?_
    simp only [eX1_isEachEndHeld_30, eX1_isEachEndHeld_33, eX1_isEachEndHeld_35, kx_l, nl_ref, tl_s, nb_0, true_and]
    with_reducible intro _
    split
    with_reducible exact ih _ _ _ _ _ (ic_p (by assumption) (by assumption)) (ic_s (by assumption) (by assumption)) (by first | assumption | omega) (by first | assumption | omega)
    with_reducible refine And.intro ?_ ?_
    with_reducible assumption
    with_reducible refine And.intro ?_ ?_
    with_reducible assumption
    with_reducible assumption
    with_reducible refine And.intro ?_ ?_
    with_reducible assumption
    with_reducible refine And.intro ?_ ?_
    with_reducible assumption
    with_reducible assumption
set_option maxHeartbeats 4000000 in
theorem sX1_isEachEndHeld {a0 : Nat} (h0 : isR w a0) (hQ : ∀ v : Bool, Q (.inl (some (.int (bI v)))) w) : WP (MX1_isEachEndHeld g) Q (0, [some (.ref a0), none, none, none], [], w, 0, 0) := by
  have hQt : Q (.inl (some (.int 1))) w := hQ true
  have hQf : Q (.inl (some (.int 0))) w := hQ false
  simp only [eX1_isEachEndHeld_0, nl_ref]
  with_reducible exact lX1_isEachEndHeld_2 h0 hQ 70 _ _ _ _ _ (by first | decide | assumption) (by first | decide | exact n12 (by assumption) | exact n60 (by assumption)) (by first | decide | omega) (by first | decide | omega)
set_option maxHeartbeats 4000000 in
theorem lX1_hasSameValid_8R {a0 : Nat} {a1 : Nat} (hC : CC g w0 x nA cA lA kn w) (h0 : isR w a0) (h1 : isR w a1) (hQ : ∀ v : Bool, Q (.inl (some (.int (bI v)))) w) : ∀ (n rf md : Int32) (f : Nat → Int64) (gc gl : Nat → Option Nat), RO5 g w x nA cA lA n rf kn md f gc gl → ∀ (d : Nat) (i3 : Int32) (k m : Nat), ¬ i3 < 0 → (8 : Int32).toInt - i3.toInt ≤ (d : Int) → k ≤ 0 → m ≤ 0 → WP (MX1_hasSameValid g) Q (8, [some (.ref x), some (.ref a0), some (.ref a1), some (.int i3)], [], w, k, m) := by
  rintro n rf md f gc gl ⟨hx, hn, hc, hl, hgc, hgl, hn0, hn1, rx, rn, rc, rl, ⟨d1, d2, d3, d4, d5, d6⟩, ⟨d7, d8, d9, d10, d11, d12⟩⟩ d
  have hQt : Q (.inl (some (.int 1))) w := hQ true
  have hQf : Q (.inl (some (.int 0))) w := hQ false
  induction d with
  | zero =>
    intro i3 k m z0 hm hk hs
    rw [eX1_hasSameValid_8]
    simp only [eX1_hasSameValid_9, eX1_hasSameValid_14, eX1_hasSameValid_19, eX1_hasSameValid_21, eX1_hasSameValid_24, eX1_hasSameValid_29, eX1_hasSameValid_45, rx, rn, ite_le, go_s, gl_s, wt_nil, g0, ex1, nb_1, true_and, Nat.add_zero]
    split
    with_reducible refine And.intro ?_ ?_
    with_reducible exact vpi8 (by assumption) (by assumption)
    with_reducible refine And.intro ?_ ?_
    with_reducible exact (ic_z (by assumption) (by assumption)).elim
    with_reducible refine And.intro ?_ ?_
    with_reducible exact (ic_z (by assumption) (by assumption)).elim
    with_reducible refine And.intro ?_ ?_
    with_reducible assumption
    with_reducible refine And.intro ?_ ?_
    with_reducible assumption
    with_reducible exact (ic_z (by assumption) (by assumption)).elim
    with_reducible refine And.intro ?_ ?_
    with_reducible assumption
    with_reducible refine And.intro ?_ ?_
    with_reducible assumption
    with_reducible assumption
  | succ d ih =>
    intro i3 k m z0 hm hk hs
    rw [eX1_hasSameValid_8]
    simp only [eX1_hasSameValid_9, eX1_hasSameValid_14, eX1_hasSameValid_19, eX1_hasSameValid_21, eX1_hasSameValid_24, eX1_hasSameValid_29, eX1_hasSameValid_45, rx, rn, ite_le, go_s, gl_s, wt_nil, g0, ex1, nb_1, true_and, Nat.add_zero]
    split
    with_reducible refine And.intro ?_ ?_
    with_reducible exact vpi8 (by assumption) (by assumption)
    with_reducible refine And.intro ?_ ?_
    with_reducible refine go_R (by first | assumption | exact hgc _ _ (by assumption) | exact hgl _ _ (by assumption) | exact isR.ext (by assumption) (by assumption)) ?_
    with_reducible intro _
    with_reducible intro _
    with_reducible intro _
    with_reducible intro _
    simp only []
    with_reducible refine And.intro ?_ ?_
    omega
    with_reducible refine And.intro ?_ ?_
    with_reducible assumption
    with_reducible refine And.intro ?_ ?_
    with_reducible assumption
    with_reducible refine sX0_holds (by first | assumption | exact hgc _ _ (by assumption) | exact hgl _ _ (by assumption) | exact isR.ext (by assumption) (by assumption)) ?_
    simp only [eX1_hasSameValid_30, eX1_hasSameValid_31, rx, rn, kx_l, go_s, gl_s, wt_nil, wt_int, tl_s, g0, ex1, Nat.add_zero]
    with_reducible intro _
    with_reducible refine And.intro ?_ ?_
    with_reducible exact vpi8 (by assumption) (by assumption)
    with_reducible refine And.intro ?_ ?_
    with_reducible refine go_R (by first | assumption | exact hgc _ _ (by assumption) | exact hgl _ _ (by assumption) | exact isR.ext (by assumption) (by assumption)) ?_
    with_reducible intro _
    with_reducible intro _
    with_reducible intro _
    with_reducible intro _
    simp only []
    with_reducible refine And.intro ?_ ?_
    omega
    with_reducible refine And.intro ?_ ?_
    with_reducible assumption
    with_reducible refine And.intro ?_ ?_
    with_reducible assumption
    with_reducible refine sX0_holds (by first | assumption | exact hgc _ _ (by assumption) | exact hgl _ _ (by assumption) | exact isR.ext (by assumption) (by assumption)) ?_
    simp only [eX1_hasSameValid_34, eX1_hasSameValid_37, eX1_hasSameValid_39, kx_l, nl_ref, tl_s, nb_0, true_and]
    with_reducible intro _
    split
    with_reducible exact ih _ _ _ (ic_p (by assumption) (by assumption)) (ic_s (by assumption) (by assumption)) (by first | assumption | omega) (by first | assumption | omega)
    with_reducible refine And.intro ?_ ?_
    with_reducible assumption
    with_reducible refine And.intro ?_ ?_
    with_reducible assumption
    with_reducible assumption
    with_reducible refine And.intro ?_ ?_
    with_reducible assumption
    with_reducible refine And.intro ?_ ?_
    with_reducible assumption
    with_reducible assumption
set_option maxHeartbeats 4000000 in
theorem sX1_hasSameValidR {a0 : Nat} {a1 : Nat} (hC : CC g w0 x nA cA lA kn w) (h0 : isR w a0) (h1 : isR w a1) (hQ : ∀ v : Bool, Q (.inl (some (.int (bI v)))) w) : WP (MX1_hasSameValid g) Q (0, [some (.ref x), some (.ref a0), some (.ref a1), none], [], w, 0, 0) := by
  obtain ⟨n, rf, md, f, gc, gl, hx, hn, hc, hl, hgc, hgl, hn0, hn1, rx, rn, rc, rl, ⟨d1, d2, d3, d4, d5, d6⟩, ⟨d7, d8, d9, d10, d11, d12⟩⟩ := hC.1.opn g
  have hQt : Q (.inl (some (.int 1))) w := hQ true
  have hQf : Q (.inl (some (.int 0))) w := hQ false
  simp only [eX1_hasSameValid_0, eX1_hasSameValid_1R, eX1_hasSameValid_6, nl_ref]
  with_reducible exact lX1_hasSameValid_8R hC h0 h1 hQ _ _ _ _ _ _ ⟨hx, hn, hc, hl, hgc, hgl, hn0, hn1, rx, rn, rc, rl, ⟨d1, d2, d3, d4, d5, d6⟩, ⟨d7, d8, d9, d10, d11, d12⟩⟩ 70 _ _ _ (by first | decide | assumption) (by first | decide | exact n12 (by assumption) | exact n60 (by assumption)) (by first | decide | omega) (by first | decide | omega)
set_option maxHeartbeats 4000000 in
theorem sX1_hasSameValidN {a1 : Nat} (hC : CC g w0 x nA cA lA kn w) (h1 : isR w a1) (hQ : ∀ v : Bool, Q (.inl (some (.int (bI v)))) w) : WP (MX1_hasSameValid g) Q (0, [some (.ref x), some .null, some (.ref a1), none], [], w, 0, 0) := by
  obtain ⟨n, rf, md, f, gc, gl, hx, hn, hc, hl, hgc, hgl, hn0, hn1, rx, rn, rc, rl, ⟨d1, d2, d3, d4, d5, d6⟩, ⟨d7, d8, d9, d10, d11, d12⟩⟩ := hC.1.opn g
  have hQt : Q (.inl (some (.int 1))) w := hQ true
  have hQf : Q (.inl (some (.int 0))) w := hQ false
  simp only [eX1_hasSameValid_0N, eX1_hasSameValid_1N, eX1_hasSameValid_4, nb_0, true_and]
  with_reducible refine And.intro ?_ ?_
  omega
  with_reducible refine And.intro ?_ ?_
  omega
  with_reducible assumption
set_option maxHeartbeats 4000000 in
theorem lX1_isSameToAndFro_2 {a0 : Nat} (hC : CC g w0 x nA cA lA kn w) (h0 : isR w a0) (hQ : ∀ v : Bool, Q (.inl (some (.int (bI v)))) w) : ∀ (n rf md : Int32) (f : Nat → Int64) (gc gl : Nat → Option Nat), RO5 g w x nA cA lA n rf kn md f gc gl → ∀ (d : Nat) (i2 : Int32) (i3 : Option Value) (k m : Nat), ¬ i2 < 0 → (6 : Int32).toInt - i2.toInt ≤ (d : Int) → k ≤ 0 → m ≤ 0 → WP (MX1_isSameToAndFro g) Q (2, [some (.ref x), some (.ref a0), some (.int i2), i3], [], w, k, m) := by
  rintro n rf md f gc gl ⟨hx, hn, hc, hl, hgc, hgl, hn0, hn1, rx, rn, rc, rl, ⟨d1, d2, d3, d4, d5, d6⟩, ⟨d7, d8, d9, d10, d11, d12⟩⟩ d
  have hQt : Q (.inl (some (.int 1))) w := hQ true
  have hQf : Q (.inl (some (.int 0))) w := hQ false
  induction d with
  | zero =>
    intro i2 i3 k m z0 hm hk hs
    rw [eX1_isSameToAndFro_2]
    simp only [eX1_isSameToAndFro_3, eX1_isSameToAndFro_8, eX1_isSameToAndFro_12, eX1_isSameToAndFro_14, eX1_isSameToAndFro_14N, eX1_isSameToAndFro_15, eX1_isSameToAndFro_15N, eX1_isSameToAndFro_16R, eX1_isSameToAndFro_16N, eX1_isSameToAndFro_19, eX1_isSameToAndFro_24, eX1_isSameToAndFro_34, eX1_isSameToAndFro_40, rx, rc, ite_le, n45, or_false, go_s, gq_s, wt_nil, nl_int, nl_ref, rf_st, g0, gS, ex1, nb_1, true_and, Nat.add_zero]
    split
    with_reducible refine And.intro ?_ ?_
    with_reducible exact vpi6 (by assumption) (by assumption)
    with_reducible refine And.intro ?_ ?_
    with_reducible exact (ic_z (by assumption) (by assumption)).elim
    with_reducible exact (ic_z (by assumption) (by assumption)).elim
    with_reducible refine And.intro ?_ ?_
    with_reducible assumption
    with_reducible refine And.intro ?_ ?_
    with_reducible assumption
    with_reducible assumption
  | succ d ih =>
    intro i2 i3 k m z0 hm hk hs
    rw [eX1_isSameToAndFro_2]
    simp only [eX1_isSameToAndFro_3, eX1_isSameToAndFro_8, eX1_isSameToAndFro_12, eX1_isSameToAndFro_14, eX1_isSameToAndFro_14N, eX1_isSameToAndFro_15, eX1_isSameToAndFro_15N, eX1_isSameToAndFro_16R, eX1_isSameToAndFro_16N, eX1_isSameToAndFro_19, eX1_isSameToAndFro_24, eX1_isSameToAndFro_34, eX1_isSameToAndFro_40, rx, rc, ite_le, n45, or_false, go_s, gq_s, wt_nil, nl_int, nl_ref, rf_st, g0, gS, ex1, nb_1, true_and, Nat.add_zero]
    split
    with_reducible refine And.intro ?_ ?_
    with_reducible exact vpi6 (by assumption) (by assumption)
    with_reducible refine And.intro ?_ ?_
    with_reducible intro _
    with_reducible exact ih _ _ _ _ (ic_p (by assumption) (by assumption)) (ic_s (by assumption) (by assumption)) (by first | assumption | omega) (by first | assumption | omega)
    with_reducible intro _
    with_reducible intro _
    with_reducible refine And.intro ?_ ?_
    with_reducible refine go_R (by first | assumption | exact hgc _ _ (by assumption) | exact hgl _ _ (by assumption) | exact isR.ext (by assumption) (by assumption)) ?_
    with_reducible intro _
    with_reducible intro _
    with_reducible intro _
    with_reducible intro _
    simp only []
    with_reducible refine And.intro ?_ ?_
    omega
    with_reducible refine And.intro ?_ ?_
    with_reducible assumption
    with_reducible refine And.intro ?_ ?_
    with_reducible assumption
    with_reducible refine sX0_matchesR (by first | assumption | exact hgc _ _ (by assumption) | exact hgl _ _ (by assumption) | exact isR.ext (by assumption) (by assumption)) (by first | assumption | exact hgc _ _ (by assumption) | exact hgl _ _ (by assumption) | exact isR.ext (by assumption) (by assumption)) ?_
    simp only [kx_l, wt_nil, wt_int, tl_s, Nat.add_zero]
    with_reducible intro _
    with_reducible refine And.intro ?_ ?_
    with_reducible refine go_R (by first | assumption | exact hgc _ _ (by assumption) | exact hgl _ _ (by assumption) | exact isR.ext (by assumption) (by assumption)) ?_
    with_reducible intro _
    with_reducible intro _
    with_reducible intro _
    with_reducible intro _
    simp only []
    with_reducible refine And.intro ?_ ?_
    omega
    with_reducible refine And.intro ?_ ?_
    with_reducible assumption
    with_reducible refine And.intro ?_ ?_
    with_reducible assumption
    with_reducible refine sX0_matchesR (by first | assumption | exact hgc _ _ (by assumption) | exact hgl _ _ (by assumption) | exact isR.ext (by assumption) (by assumption)) (by first | assumption | exact hgc _ _ (by assumption) | exact hgl _ _ (by assumption) | exact isR.ext (by assumption) (by assumption)) ?_
    simp only [eX1_isSameToAndFro_29, eX1_isSameToAndFro_32, eX1_isSameToAndFro_34, kx_l, nl_ref, tl_s, nb_0, true_and]
    with_reducible intro _
    split
    with_reducible exact ih _ _ _ _ (ic_p (by assumption) (by assumption)) (ic_s (by assumption) (by assumption)) (by first | assumption | omega) (by first | assumption | omega)
    with_reducible refine And.intro ?_ ?_
    with_reducible assumption
    with_reducible refine And.intro ?_ ?_
    with_reducible assumption
    with_reducible assumption
    with_reducible refine And.intro ?_ ?_
    with_reducible assumption
    with_reducible refine And.intro ?_ ?_
    with_reducible assumption
    with_reducible assumption
set_option maxHeartbeats 4000000 in
theorem sX1_isSameToAndFro {a0 : Nat} (hC : CC g w0 x nA cA lA kn w) (h0 : isR w a0) (hQ : ∀ v : Bool, Q (.inl (some (.int (bI v)))) w) : WP (MX1_isSameToAndFro g) Q (0, [some (.ref x), some (.ref a0), none, none], [], w, 0, 0) := by
  obtain ⟨n, rf, md, f, gc, gl, hx, hn, hc, hl, hgc, hgl, hn0, hn1, rx, rn, rc, rl, ⟨d1, d2, d3, d4, d5, d6⟩, ⟨d7, d8, d9, d10, d11, d12⟩⟩ := hC.1.opn g
  have hQt : Q (.inl (some (.int 1))) w := hQ true
  have hQf : Q (.inl (some (.int 0))) w := hQ false
  simp only [eX1_isSameToAndFro_0, nl_ref]
  with_reducible exact lX1_isSameToAndFro_2 hC h0 hQ _ _ _ _ _ _ ⟨hx, hn, hc, hl, hgc, hgl, hn0, hn1, rx, rn, rc, rl, ⟨d1, d2, d3, d4, d5, d6⟩, ⟨d7, d8, d9, d10, d11, d12⟩⟩ 70 _ _ _ _ (by first | decide | assumption) (by first | decide | exact n12 (by assumption) | exact n60 (by assumption)) (by first | decide | omega) (by first | decide | omega)
set_option maxHeartbeats 4000000 in
theorem lX1_isEachFoundInPile_2  (hC : CC g w0 x nA cA lA kn w) (hQ : ∀ v : Bool, Q (.inl (some (.int (bI v)))) w) : ∀ (n rf md : Int32) (f : Nat → Int64) (gc gl : Nat → Option Nat), RO5 g w x nA cA lA n rf kn md f gc gl → ∀ (d : Nat) (i1 : Int32) (i2 : Option Value) (k m : Nat), ¬ i1 < 0 → (n : Int32).toInt - i1.toInt ≤ (d : Int) → k ≤ 0 → m ≤ 0 → WP (MX1_isEachFoundInPile g) Q (2, [some (.ref x), some (.int i1), i2], [], w, k, m) := by
  rintro n rf md f gc gl ⟨hx, hn, hc, hl, hgc, hgl, hn0, hn1, rx, rn, rc, rl, ⟨d1, d2, d3, d4, d5, d6⟩, ⟨d7, d8, d9, d10, d11, d12⟩⟩ d
  have hQt : Q (.inl (some (.int 1))) w := hQ true
  have hQf : Q (.inl (some (.int 0))) w := hQ false
  induction d with
  | zero =>
    intro i1 i2 k m z0 hm hk hs
    rw [eX1_isEachFoundInPile_2]
    simp only [eX1_isEachFoundInPile_3, eX1_isEachFoundInPile_7, eX1_isEachFoundInPile_10, eX1_isEachFoundInPile_14, eX1_isEachFoundInPile_16, eX1_isEachFoundInPile_16N, eX1_isEachFoundInPile_17, eX1_isEachFoundInPile_17N, eX1_isEachFoundInPile_18R, eX1_isEachFoundInPile_18N, eX1_isEachFoundInPile_21, eX1_isEachFoundInPile_26, eX1_isEachFoundInPile_30, eX1_isEachFoundInPile_38, rx, rl, ite_le, n45, or_false, go_s, gq_s, wt_nil, nl_int, rf_st, g0, gS, ex1, nb_0, nb_1, true_and, Nat.add_zero]
    split
    with_reducible refine And.intro ?_ ?_
    with_reducible exact (ic_z (by assumption) (by assumption)).elim
    with_reducible refine And.intro ?_ ?_
    with_reducible exact (ic_z (by assumption) (by assumption)).elim
    with_reducible exact (ic_z (by assumption) (by assumption)).elim
    with_reducible refine And.intro ?_ ?_
    with_reducible assumption
    with_reducible refine And.intro ?_ ?_
    with_reducible assumption
    with_reducible assumption
  | succ d ih =>
    intro i1 i2 k m z0 hm hk hs
    rw [eX1_isEachFoundInPile_2]
    simp only [eX1_isEachFoundInPile_3, eX1_isEachFoundInPile_7, eX1_isEachFoundInPile_10, eX1_isEachFoundInPile_14, eX1_isEachFoundInPile_16, eX1_isEachFoundInPile_16N, eX1_isEachFoundInPile_17, eX1_isEachFoundInPile_17N, eX1_isEachFoundInPile_18R, eX1_isEachFoundInPile_18N, eX1_isEachFoundInPile_21, eX1_isEachFoundInPile_26, eX1_isEachFoundInPile_30, eX1_isEachFoundInPile_38, rx, rl, ite_le, n45, or_false, go_s, gq_s, wt_nil, nl_int, rf_st, g0, gS, ex1, nb_0, nb_1, true_and, Nat.add_zero]
    split
    with_reducible refine And.intro ?_ ?_
    with_reducible exact vpi12 (by assumption) (by assumption) (by assumption)
    with_reducible refine And.intro ?_ ?_
    with_reducible intro _
    with_reducible refine And.intro ?_ ?_
    with_reducible assumption
    with_reducible refine And.intro ?_ ?_
    with_reducible assumption
    with_reducible assumption
    with_reducible intro _
    with_reducible intro _
    with_reducible refine And.intro ?_ ?_
    omega
    with_reducible refine And.intro ?_ ?_
    with_reducible assumption
    with_reducible refine And.intro ?_ ?_
    with_reducible assumption
    with_reducible refine sX1_firstPlaceOf (by first | assumption | exact CC.ext (by assumption) (by assumption)) (by first | assumption | exact hgc _ _ (by assumption) | exact hgl _ _ (by assumption) | exact isR.ext (by assumption) (by assumption)) ?_
    simp only [eX1_isEachFoundInPile_27, eX1_isEachFoundInPile_30, eX1_isEachFoundInPile_32, kx_l, nl_ref, tl_s, nb_0, true_and]
    with_reducible intro _
    split
    with_reducible refine And.intro ?_ ?_
    with_reducible assumption
    with_reducible refine And.intro ?_ ?_
    with_reducible assumption
    with_reducible assumption
    with_reducible exact ih _ _ _ _ (ic_p (by assumption) (by assumption)) (ic_s (by assumption) (by assumption)) (by first | assumption | omega) (by first | assumption | omega)
    with_reducible refine And.intro ?_ ?_
    with_reducible assumption
    with_reducible refine And.intro ?_ ?_
    with_reducible assumption
    with_reducible assumption
set_option maxHeartbeats 4000000 in
theorem sX1_isEachFoundInPile  (hC : CC g w0 x nA cA lA kn w) (hQ : ∀ v : Bool, Q (.inl (some (.int (bI v)))) w) : WP (MX1_isEachFoundInPile g) Q (0, [some (.ref x), none, none], [], w, 0, 0) := by
  obtain ⟨n, rf, md, f, gc, gl, hx, hn, hc, hl, hgc, hgl, hn0, hn1, rx, rn, rc, rl, ⟨d1, d2, d3, d4, d5, d6⟩, ⟨d7, d8, d9, d10, d11, d12⟩⟩ := hC.1.opn g
  have hQt : Q (.inl (some (.int 1))) w := hQ true
  have hQf : Q (.inl (some (.int 0))) w := hQ false
  simp only [eX1_isEachFoundInPile_0, nl_ref]
  with_reducible exact lX1_isEachFoundInPile_2 hC hQ _ _ _ _ _ _ ⟨hx, hn, hc, hl, hgc, hgl, hn0, hn1, rx, rn, rc, rl, ⟨d1, d2, d3, d4, d5, d6⟩, ⟨d7, d8, d9, d10, d11, d12⟩⟩ 70 _ _ _ _ (by first | decide | assumption) (by first | decide | exact n12 (by assumption) | exact n60 (by assumption)) (by first | decide | omega) (by first | decide | omega)
set_option maxHeartbeats 4000000 in
theorem sX1_with {a0 : Int64} {a1 : Int64} (hQ : ∀ v : Int64, Q (.inl (some (.long v))) w) : WP (MX1_with g) Q (0, [some (.long a0), none, some (.long a1), none], [], w, 0, 0) := by
  simp only [eX1_with_0]
  with_reducible refine And.intro ?_ ?_
  omega
  with_reducible refine And.intro ?_ ?_
  omega
  with_reducible exact hQ _
end
end
