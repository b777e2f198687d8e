section
section
variable {g : RO} {Q : Ot → Hw → Prop} {w0 w : Hw} {x nA cA lA : Nat} {kn : Int32}
theorem vp08 : vp_in 0 8 := vpi8 (by decide) (by decide)
theorem go_C (h : CC g w0 x nA cA lA kn w) : go (rd g w x) 5 (fun _ => True) := by
  obtain ⟨n, rf, md, f, gc, gl, hx, hn, hc, hl, hgc, hgl, hn0, hn1, rx, rn, rc, rl, ⟨d1, d2, d3, d4, d5, d6⟩, ⟨d7, d8, d9, d10, d11, d12⟩⟩ := h.1.opn g
  rw [rx, go_s]
  trivial
theorem isR.mono {w1 w2 : Hw} {b : Nat} (hm : ∀ b, isR w1 b → isR w2 b) (h : isR w1 b) : isR w2 b := hm b h
set_option maxHeartbeats 4000000 in
theorem lX1_withWhichAndPile_32 {a0 : Int64} (hC : CC g w0 x nA cA lA kn w) (hQ : ∀ v : Int64, Q (.inl (some (.long v))) w) : ∀ (n rf md : Int32) (f : Nat → Int64) (gc gl : Nat → Option Nat), RO5 g w x nA cA lA n rf kn md f gc gl → ∀ (d : Nat) (i3 : Int64) (i5 : Int32) (k m : Nat), ¬ i5 < 0 → (5 : Int32).toInt + 1 - i5.toInt ≤ (d : Int) → k ≤ 0 → m ≤ 0 → WP (MX1_withWhichAndPile g) Q (32, [some (.ref x), some (.long a0), none, some (.long i3), none, some (.int i5)], [], w, k, m) := by
  rintro n rf md f gc gl ⟨hx, hn, hc, hl, hgc, hgl, hn0, hn1, rx, rn, rc, rl, ⟨d1, d2, d3, d4, d5, d6⟩, ⟨d7, d8, d9, d10, d11, d12⟩⟩ d
  induction d with
  | zero =>
    intro i3 i5 k m z0 hm hk hs
    rw [eX1_withWhichAndPile_32]
    simp only [eX1_withWhichAndPile_34, eX1_withWhichAndPile_38, eX1_withWhichAndPile_44, eX1_withWhichAndPile_46, eX1_withWhichAndPile_62, rx, rn, go_s, gl_s, wt_nil, wt_long, g0, ex1, true_and, Nat.add_zero]
    split
    with_reducible refine And.intro ?_ ?_
    with_reducible assumption
    with_reducible refine And.intro ?_ ?_
    with_reducible assumption
    with_reducible exact hQ _
    with_reducible refine And.intro ?_ ?_
    with_reducible exact (ic_zl (by assumption) (by assumption)).elim
    with_reducible refine And.intro ?_ ?_
    with_reducible exact (ic_zl (by assumption) (by assumption)).elim
    with_reducible refine And.intro ?_ ?_
    with_reducible assumption
    with_reducible refine And.intro ?_ ?_
    with_reducible assumption
    with_reducible exact (ic_zl (by assumption) (by assumption)).elim
  | succ d ih =>
    intro i3 i5 k m z0 hm hk hs
    rw [eX1_withWhichAndPile_32]
    simp only [eX1_withWhichAndPile_34, eX1_withWhichAndPile_38, eX1_withWhichAndPile_44, eX1_withWhichAndPile_46, eX1_withWhichAndPile_62, rx, rn, go_s, gl_s, wt_nil, wt_long, g0, ex1, true_and, Nat.add_zero]
    split
    with_reducible refine And.intro ?_ ?_
    with_reducible assumption
    with_reducible refine And.intro ?_ ?_
    with_reducible assumption
    with_reducible exact hQ _
    with_reducible refine And.intro ?_ ?_
    with_reducible exact vp08
    with_reducible refine And.intro ?_ ?_
    omega
    with_reducible refine And.intro ?_ ?_
    with_reducible assumption
    with_reducible refine And.intro ?_ ?_
    with_reducible assumption
    with_reducible refine sX1_pileCount (by first | assumption | exact CC.ext (by assumption) (by assumption)) ?_
    simp only [eX1_withWhichAndPile_51, kx_l, wt_nil, tl_s, Nat.add_zero]
    with_reducible intro _
    with_reducible refine And.intro ?_ ?_
    omega
    with_reducible refine And.intro ?_ ?_
    with_reducible assumption
    with_reducible refine And.intro ?_ ?_
    with_reducible assumption
    with_reducible refine sX1_with ?_
    simp only [eX1_withWhichAndPile_55, kx_l, nl_none, tl_s]
    with_reducible intro _
    with_reducible exact ih _ _ _ _ (ic_pl (by assumption) (by assumption) (by decide)) (ic_sl (by assumption) (by assumption) (by decide)) (by first | assumption | omega) (by first | assumption | omega)
set_option maxHeartbeats 4000000 in
theorem lX1_withWhichAndPile_5 {a0 : Int64} (hC : CC g w0 x nA cA lA kn w) (hQ : ∀ v : Int64, Q (.inl (some (.long v))) w) : ∀ (n rf md : Int32) (f : Nat → Int64) (gc gl : Nat → Option Nat), RO5 g w x nA cA lA n rf kn md f gc gl → ∀ (d : Nat) (i3 : Int64) (i5 : Int32) (k m : Nat), ¬ i5 < 0 → (2 : Int32).toInt + 1 - i5.toInt ≤ (d : Int) → k ≤ 0 → m ≤ 0 → WP (MX1_withWhichAndPile g) Q (5, [some (.ref x), some (.long a0), none, some (.long i3), none, some (.int i5)], [], w, k, m) := by
  rintro n rf md f gc gl ⟨hx, hn, hc, hl, hgc, hgl, hn0, hn1, rx, rn, rc, rl, ⟨d1, d2, d3, d4, d5, d6⟩, ⟨d7, d8, d9, d10, d11, d12⟩⟩ d
  induction d with
  | zero =>
    intro i3 i5 k m z0 hm hk hs
    rw [eX1_withWhichAndPile_5]
    simp only [eX1_withWhichAndPile_7, eX1_withWhichAndPile_11, eX1_withWhichAndPile_29, rx, go_s, wt_nil, wt_long, nl_none, true_and, Nat.add_zero]
    split
    with_reducible exact lX1_withWhichAndPile_32 hC hQ _ _ _ _ _ _ ⟨hx, hn, hc, hl, hgc, hgl, hn0, hn1, rx, rn, rc, rl, ⟨d1, d2, d3, d4, d5, d6⟩, ⟨d7, d8, d9, d10, d11, d12⟩⟩ 70 _ _ _ _ (by first | decide | assumption) (by first | decide | exact n12 (by assumption) | exact n60 (by assumption)) (by first | decide | omega) (by first | decide | omega)
    with_reducible refine And.intro ?_ ?_
    with_reducible exact (ic_zl (by assumption) (by assumption)).elim
    with_reducible refine And.intro ?_ ?_
    with_reducible assumption
    with_reducible refine And.intro ?_ ?_
    with_reducible assumption
    with_reducible exact (ic_zl (by assumption) (by assumption)).elim
  | succ d ih =>
    intro i3 i5 k m z0 hm hk hs
    rw [eX1_withWhichAndPile_5]
    simp only [eX1_withWhichAndPile_7, eX1_withWhichAndPile_11, eX1_withWhichAndPile_29, rx, go_s, wt_nil, wt_long, nl_none, true_and, Nat.add_zero]
    split
    with_reducible exact lX1_withWhichAndPile_32 hC hQ _ _ _ _ _ _ ⟨hx, hn, hc, hl, hgc, hgl, hn0, hn1, rx, rn, rc, rl, ⟨d1, d2, d3, d4, d5, d6⟩, ⟨d7, d8, d9, d10, d11, d12⟩⟩ 70 _ _ _ _ (by first | decide | assumption) (by first | decide | exact n12 (by assumption) | exact n60 (by assumption)) (by first | decide | omega) (by first | decide | omega)
    with_reducible refine And.intro ?_ ?_
    omega
    with_reducible refine And.intro ?_ ?_
    with_reducible assumption
    with_reducible refine And.intro ?_ ?_
    with_reducible assumption
    with_reducible refine sX1_cardsThatAre (by first | assumption | exact CC.ext (by assumption) (by assumption)) ?_ (by first | assumption | decide) (by first | assumption | decide)
    simp only [eX1_withWhichAndPile_18, kx_l, wt_nil, tl_s, Nat.add_zero]
    with_reducible intro _
    with_reducible refine And.intro ?_ ?_
    omega
    with_reducible refine And.intro ?_ ?_
    with_reducible assumption
    with_reducible refine And.intro ?_ ?_
    with_reducible assumption
    with_reducible refine sX1_with ?_
    simp only [eX1_withWhichAndPile_22, kx_l, nl_none, tl_s]
    with_reducible intro _
    with_reducible exact ih _ _ _ _ (ic_pl (by assumption) (by assumption) (by decide)) (ic_sl (by assumption) (by assumption) (by decide)) (by first | assumption | omega) (by first | assumption | omega)
set_option maxHeartbeats 4000000 in
theorem sX1_withWhichAndPile {a0 : Int64} (hC : CC g w0 x nA cA lA kn w) (hQ : ∀ v : Int64, Q (.inl (some (.long v))) w) : WP (MX1_withWhichAndPile g) Q (0, [some (.ref x), some (.long a0), none, none, none, none], [], w, 0, 0) := by
  obtain ⟨n, rf, md, f, gc, gl, hx, hn, hc, hl, hgc, hgl, hn0, hn1, rx, rn, rc, rl, ⟨d1, d2, d3, d4, d5, d6⟩, ⟨d7, d8, d9, d10, d11, d12⟩⟩ := hC.1.opn g
  simp only [eX1_withWhichAndPile_0, nl_none]
  with_reducible exact lX1_withWhichAndPile_5 hC hQ _ _ _ _ _ _ ⟨hx, hn, hc, hl, hgc, hgl, hn0, hn1, rx, rn, rc, rl, ⟨d1, d2, d3, d4, d5, d6⟩, ⟨d7, d8, d9, d10, d11, d12⟩⟩ 70 _ _ _ _ (by first | decide | assumption) (by first | decide | exact n12 (by assumption) | exact n60 (by assumption)) (by first | decide | omega) (by first | decide | omega)
end
end
