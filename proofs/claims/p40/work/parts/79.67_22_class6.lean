section
section
variable {g : RO} {Q : Ot → Hw → Prop} {w0 w : Hw} {x nA cA lA : Nat} {kn : Int32}
set_option maxHeartbeats 4000000 in
theorem lX1_withCard_106R {a0 : Int64} {a1 : Nat} (hC : CC g w0 x nA cA lA kn w) (h1 : isR w a1) (hQ : ∀ v : Int64, Q (.inl (some (.long v))) w) : ∀ (n rf md : Int32) (f : Nat → Int64) (gc gl : Nat → Option Nat), RO5 g w x nA cA lA n rf kn md f gc gl → ∀ (d : Nat) (i4 : Int64) (i6 : Int32) (k m : Nat), (1 : Int32).toInt + 1 - i6.toInt ≤ (d : Int) → k ≤ 0 → m ≤ 0 → WP (MX1_withCard g) Q (106, [some (.ref x), some (.long a0), none, some (.ref a1), some (.long i4), none, some (.int i6)], [], w, k, m) := by
  rintro n rf md f gc gl ⟨hx, hn, hc, hl, hgc, hgl, hn0, hn1, rx, rn, rc, rl, ⟨d1, d2, d3, d4, d5, d6⟩, ⟨d7, d8, d9, d10, d11, d12⟩⟩ d
  induction d with
  | zero =>
    intro i4 i6 k m hm hk hs
    rw [eX1_withCard_106]
    simp only [eX1_withCard_108, eX1_withCard_112, eX1_withCard_133, wt_nil, wt_long, Nat.add_zero]
    split
    with_reducible refine And.intro ?_ ?_
    with_reducible assumption
    with_reducible refine And.intro ?_ ?_
    with_reducible assumption
    with_reducible exact hQ _
    with_reducible refine And.intro ?_ ?_
    with_reducible exact (ic_zl (by assumption) (by assumption)).elim
    with_reducible refine And.intro ?_ ?_
    with_reducible assumption
    with_reducible refine And.intro ?_ ?_
    with_reducible assumption
    with_reducible exact (ic_zl (by assumption) (by assumption)).elim
  | succ d ih =>
    intro i4 i6 k m hm hk hs
    rw [eX1_withCard_106]
    simp only [eX1_withCard_108, eX1_withCard_112, eX1_withCard_133, wt_nil, wt_long, Nat.add_zero]
    split
    with_reducible refine And.intro ?_ ?_
    with_reducible assumption
    with_reducible refine And.intro ?_ ?_
    with_reducible assumption
    with_reducible exact hQ _
    with_reducible refine And.intro ?_ ?_
    omega
    with_reducible refine And.intro ?_ ?_
    with_reducible assumption
    with_reducible refine And.intro ?_ ?_
    with_reducible assumption
    with_reducible refine sX1_validityIn (by first | assumption | exact hgc _ _ (by assumption) | exact hgl _ _ (by assumption) | exact isR.ext (by assumption) (by assumption)) ?_
    simp only [eX1_withCard_121, kx_l, wt_nil, tl_s, Nat.add_zero]
    with_reducible intro _
    with_reducible refine And.intro ?_ ?_
    omega
    with_reducible refine And.intro ?_ ?_
    with_reducible assumption
    with_reducible refine And.intro ?_ ?_
    with_reducible assumption
    with_reducible refine sX1_with ?_
    simp only [eX1_withCard_125, kx_l, nl_ref, nl_none, tl_s]
    with_reducible intro _
    with_reducible exact ih _ _ _ _ (ic_sl (by assumption) (by assumption) (by decide)) (by first | assumption | omega) (by first | assumption | omega)
set_option maxHeartbeats 4000000 in
theorem sX1_withCardR {a0 : Int64} {a1 : Nat} (hC : CC g w0 x nA cA lA kn w) (h1 : isR w a1) (hQ : ∀ v : Int64, Q (.inl (some (.long v))) w) : WP (MX1_withCard g) Q (0, [some (.ref x), some (.long a0), none, some (.ref a1), none, none, none], [], w, 0, 0) := by
  obtain ⟨n, rf, md, f, gc, gl, hx, hn, hc, hl, hgc, hgl, hn0, hn1, rx, rn, rc, rl, ⟨d1, d2, d3, d4, d5, d6⟩, ⟨d7, d8, d9, d10, d11, d12⟩⟩ := hC.1.opn g
  simp only [eX1_withCard_0, eX1_withCard_1R, eX1_withCard_10, eX1_withCard_15, wt_nil, Nat.add_zero]
  with_reducible refine And.intro ?_ ?_
  omega
  with_reducible refine And.intro ?_ ?_
  omega
  with_reducible refine And.intro ?_ ?_
  omega
  with_reducible refine sX1_with ?_
  simp only [eX1_withCard_16R, kx_l, wt_nil, tl_s, Nat.add_zero]
  with_reducible intro _
  with_reducible refine And.intro ?_ ?_
  omega
  with_reducible refine And.intro ?_ ?_
  omega
  with_reducible refine And.intro ?_ ?_
  omega
  with_reducible refine sX1_withEnds (by first | assumption | exact hgc _ _ (by assumption) | exact hgl _ _ (by assumption) | exact isR.ext (by assumption) (by assumption)) ?_
  simp only [eX1_withCard_19, eX1_withCard_23, kx_l, wt_nil, wt_long, nl_ref, tl_s, Nat.add_zero]
  with_reducible intro _
  with_reducible refine And.intro ?_ ?_
  with_reducible refine go_R (by first | assumption | exact hgc _ _ (by assumption) | exact hgl _ _ (by assumption) | exact isR.ext (by assumption) (by assumption)) ?_
  with_reducible intro _
  with_reducible intro _
  with_reducible intro _
  with_reducible intro _
  simp only []
  with_reducible refine And.intro ?_ ?_
  omega
  with_reducible refine And.intro ?_ ?_
  omega
  with_reducible refine And.intro ?_ ?_
  omega
  with_reducible refine sX0_isSettled (by first | assumption | exact hgc _ _ (by assumption) | exact hgl _ _ (by assumption) | exact isR.ext (by assumption) (by assumption)) ?_
  simp only [eX1_withCard_27, kx_l, wt_nil, wt_long, tl_s, Nat.add_zero]
  with_reducible intro _
  with_reducible refine And.intro ?_ ?_
  omega
  with_reducible refine And.intro ?_ ?_
  omega
  with_reducible refine And.intro ?_ ?_
  omega
  with_reducible refine sX1_asNumber ?_
  simp only [eX1_withCard_30, kx_l, wt_nil, tl_s, Nat.add_zero]
  with_reducible intro _
  with_reducible refine And.intro ?_ ?_
  omega
  with_reducible refine And.intro ?_ ?_
  omega
  with_reducible refine And.intro ?_ ?_
  omega
  with_reducible refine sX1_with ?_
  simp only [eX1_withCard_34, eX1_withCard_38, kx_l, wt_nil, wt_long, nl_ref, tl_s, Nat.add_zero]
  with_reducible intro _
  with_reducible refine And.intro ?_ ?_
  with_reducible refine go_R (by first | assumption | exact hgc _ _ (by assumption) | exact hgl _ _ (by assumption) | exact isR.ext (by assumption) (by assumption)) ?_
  with_reducible intro _
  with_reducible intro _
  with_reducible intro _
  with_reducible intro _
  simp only []
  with_reducible refine And.intro ?_ ?_
  omega
  with_reducible refine And.intro ?_ ?_
  omega
  with_reducible refine And.intro ?_ ?_
  omega
  with_reducible refine sX0_fitsSmall (by first | assumption | exact hgc _ _ (by assumption) | exact hgl _ _ (by assumption) | exact isR.ext (by assumption) (by assumption)) ?_
  simp only [eX1_withCard_42, kx_l, wt_nil, wt_long, tl_s, Nat.add_zero]
  with_reducible intro _
  with_reducible refine And.intro ?_ ?_
  omega
  with_reducible refine And.intro ?_ ?_
  omega
  with_reducible refine And.intro ?_ ?_
  omega
  with_reducible refine sX1_asNumber ?_
  simp only [eX1_withCard_45, kx_l, wt_nil, tl_s, Nat.add_zero]
  with_reducible intro _
  with_reducible refine And.intro ?_ ?_
  omega
  with_reducible refine And.intro ?_ ?_
  omega
  with_reducible refine And.intro ?_ ?_
  omega
  with_reducible refine sX1_with ?_
  simp only [eX1_withCard_49, eX1_withCard_54, rx, kx_l, go_s, wt_nil, wt_long, nl_ref, tl_s, true_and, Nat.add_zero]
  with_reducible intro _
  with_reducible refine And.intro ?_ ?_
  omega
  with_reducible refine And.intro ?_ ?_
  omega
  with_reducible refine And.intro ?_ ?_
  omega
  with_reducible refine sX1_cardsLike (by first | assumption | exact CC.ext (by assumption) (by assumption)) (by first | assumption | exact hgc _ _ (by assumption) | exact hgl _ _ (by assumption) | exact isR.ext (by assumption) (by assumption)) ?_
  simp only [eX1_withCard_58, kx_l, wt_nil, tl_s, Nat.add_zero]
  with_reducible intro _
  with_reducible refine And.intro ?_ ?_
  omega
  with_reducible refine And.intro ?_ ?_
  omega
  with_reducible refine And.intro ?_ ?_
  omega
  with_reducible refine sX1_with ?_
  simp only [eX1_withCard_62, eX1_withCard_67, rx, kx_l, go_s, wt_nil, wt_long, nl_ref, tl_s, true_and, Nat.add_zero]
  with_reducible intro _
  with_reducible refine And.intro ?_ ?_
  omega
  with_reducible refine And.intro ?_ ?_
  omega
  with_reducible refine And.intro ?_ ?_
  omega
  with_reducible refine sX1_firstPlaceOf (by first | assumption | exact CC.ext (by assumption) (by assumption)) (by first | assumption | exact hgc _ _ (by assumption) | exact hgl _ _ (by assumption) | exact isR.ext (by assumption) (by assumption)) ?_
  simp only [eX1_withCard_71, kx_l, wt_nil, tl_s, Nat.add_zero]
  with_reducible intro _
  with_reducible refine And.intro ?_ ?_
  omega
  with_reducible refine And.intro ?_ ?_
  omega
  with_reducible refine And.intro ?_ ?_
  omega
  with_reducible refine sX1_with ?_
  simp only [eX1_withCard_75, eX1_withCard_80, rx, kx_l, go_s, wt_nil, wt_long, nl_ref, tl_s, true_and, Nat.add_zero]
  with_reducible intro _
  with_reducible refine And.intro ?_ ?_
  omega
  with_reducible refine And.intro ?_ ?_
  omega
  with_reducible refine And.intro ?_ ?_
  omega
  with_reducible refine sX1_lastPlaceOf (by first | assumption | exact CC.ext (by assumption) (by assumption)) (by first | assumption | exact hgc _ _ (by assumption) | exact hgl _ _ (by assumption) | exact isR.ext (by assumption) (by assumption)) ?_
  simp only [eX1_withCard_84, kx_l, wt_nil, tl_s, Nat.add_zero]
  with_reducible intro _
  with_reducible refine And.intro ?_ ?_
  omega
  with_reducible refine And.intro ?_ ?_
  omega
  with_reducible refine And.intro ?_ ?_
  omega
  with_reducible refine sX1_with ?_
  simp only [eX1_withCard_88, eX1_withCard_93, rx, kx_l, go_s, wt_nil, wt_long, nl_ref, tl_s, true_and, Nat.add_zero]
  with_reducible intro _
  with_reducible refine And.intro ?_ ?_
  omega
  with_reducible refine And.intro ?_ ?_
  omega
  with_reducible refine And.intro ?_ ?_
  omega
  with_reducible refine sX1_timesLaid (by first | assumption | exact CC.ext (by assumption) (by assumption)) (by first | assumption | exact hgc _ _ (by assumption) | exact hgl _ _ (by assumption) | exact isR.ext (by assumption) (by assumption)) ?_
  simp only [eX1_withCard_97, kx_l, wt_nil, tl_s, Nat.add_zero]
  with_reducible intro _
  with_reducible refine And.intro ?_ ?_
  omega
  with_reducible refine And.intro ?_ ?_
  omega
  with_reducible refine And.intro ?_ ?_
  omega
  with_reducible refine sX1_with ?_
  simp only [eX1_withCard_101, kx_l, nl_ref, nl_none, tl_s]
  with_reducible intro _
  with_reducible exact lX1_withCard_106R hC h1 hQ _ _ _ _ _ _ ⟨hx, hn, hc, hl, hgc, hgl, hn0, hn1, rx, rn, rc, rl, ⟨d1, d2, d3, d4, d5, d6⟩, ⟨d7, d8, d9, d10, d11, d12⟩⟩ 70 _ _ _ _ (by first | decide | exact n12 (by assumption) | exact n60 (by assumption)) (by first | decide | omega) (by first | decide | omega)
set_option maxHeartbeats 4000000 in
theorem sX1_withCardN {a0 : Int64} (hC : CC g w0 x nA cA lA kn w) (hQ : ∀ v : Int64, Q (.inl (some (.long v))) w) : WP (MX1_withCard g) Q (0, [some (.ref x), some (.long a0), none, some .null, none, none, none], [], w, 0, 0) := by
  obtain ⟨n, rf, md, f, gc, gl, hx, hn, hc, hl, hgc, hgl, hn0, hn1, rx, rn, rc, rl, ⟨d1, d2, d3, d4, d5, d6⟩, ⟨d7, d8, d9, d10, d11, d12⟩⟩ := hC.1.opn g
  simp only [eX1_withCard_0N, eX1_withCard_1N, eX1_withCard_4, wt_nil, Nat.add_zero]
  with_reducible refine And.intro ?_ ?_
  omega
  with_reducible refine And.intro ?_ ?_
  omega
  with_reducible refine And.intro ?_ ?_
  omega
  with_reducible refine sX1_with ?_
  simp only [eX1_withCard_9, kx_l, tl_s]
  with_reducible intro _
  with_reducible refine And.intro ?_ ?_
  omega
  with_reducible refine And.intro ?_ ?_
  omega
  with_reducible exact hQ _
end
end
