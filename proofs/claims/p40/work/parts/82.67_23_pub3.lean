section
section
variable {g : RO} {Q : Ot → Hw → Prop} {w0 w : Hw} {x nA cA lA : Nat} {kn : Int32}
set_option maxHeartbeats 4000000 in
theorem lX1_count_38 {a0 : Int32} {a1 : Int32} {a2 : Int32} {b4 : Nat} (hC : CC g w0 x nA cA lA kn w) (hb4 : isR w b4) (hXo : Q (.inr "java/lang/IndexOutOfBoundsException") w) (hXa : Q (.inr "java/lang/IllegalArgumentException") w) (hXs : Q (.inr "java/lang/IllegalStateException") w) (hQ : ∀ v : Int32, Q (.inl (some (.int v))) w) : ∀ (n rf md : Int32) (f : Nat → Int64) (gc gl : Nat → Option Nat), RO5 g w x nA cA lA n rf kn md f gc gl → ∀ (d : Nat) (i5 : Int32) (i6 : Int32) (k m : Nat), ¬ i6 < 0 → (a2 : Int32).toInt - i6.toInt ≤ (d : Int) → k ≤ 4 → m ≤ 24 → WP (MX1_count g) Q (38, [some (.ref x), some (.int a0), some (.int a1), some (.int a2), some (.ref b4), some (.int i5), some (.int i6)], [], w, k, m) := by
  rintro n rf md f gc gl ⟨hx, hn, hc, hl, hgc, hgl, hn0, hn1, rx, rn, rc, rl, ⟨d1, d2, d3, d4, d5, d6⟩, ⟨d7, d8, d9, d10, d11, d12⟩⟩ d
  induction d with
  | zero =>
    intro i5 i6 k m z0 hm hk hs
    rw [eX1_count_38]
    simp only [eX1_count_40, eX1_count_44, eX1_count_69, ite_le, wt_nil, wt_int, Nat.add_zero]
    split
    with_reducible refine And.intro ?_ ?_
    with_reducible exact (ic_z (by assumption) (by assumption)).elim
    with_reducible refine And.intro ?_ ?_
    with_reducible exact (ic_z (by assumption) (by assumption)).elim
    with_reducible refine And.intro ?_ ?_
    with_reducible assumption
    with_reducible refine And.intro ?_ ?_
    with_reducible assumption
    with_reducible exact (ic_z (by assumption) (by assumption)).elim
    with_reducible refine And.intro ?_ ?_
    with_reducible assumption
    with_reducible refine And.intro ?_ ?_
    with_reducible assumption
    with_reducible exact hQ _
  | succ d ih =>
    intro i5 i6 k m z0 hm hk hs
    rw [eX1_count_38]
    simp only [eX1_count_40, eX1_count_44, eX1_count_69, ite_le, wt_nil, wt_int, Nat.add_zero]
    split
    with_reducible refine And.intro ?_ ?_
    with_reducible refine go_R (by first | assumption | exact hgc _ _ (by assumption) | exact hgl _ _ (by assumption) | exact isR.ext (by assumption) (by assumption) | exact isR.mono (by assumption) (by first | assumption | exact isR.ext (by assumption) (by assumption)) | exact isR_up2 (by first | assumption | exact hgc _ _ (by assumption)) hc (by simp)) ?_
    with_reducible intro _
    with_reducible intro _
    with_reducible intro _
    with_reducible intro _
    simp only []
    with_reducible refine And.intro ?_ ?_
    omega
    with_reducible refine And.intro ?_ ?_
    with_reducible assumption
    with_reducible refine And.intro ?_ ?_
    with_reducible assumption
    with_reducible refine sX0_holds (by first | assumption | exact hgc _ _ (by assumption) | exact hgl _ _ (by assumption) | exact isR.ext (by assumption) (by assumption) | exact isR.mono (by assumption) (by first | assumption | exact isR.ext (by assumption) (by assumption)) | exact isR_up2 (by first | assumption | exact hgc _ _ (by assumption)) hc (by simp)) ?_
    simp only [eX1_count_57, kx_l, wt_nil, wt_int, tl_s, Nat.add_zero]
    with_reducible intro _
    with_reducible refine And.intro ?_ ?_
    omega
    with_reducible refine And.intro ?_ ?_
    with_reducible assumption
    with_reducible refine And.intro ?_ ?_
    with_reducible assumption
    with_reducible refine sX1_asNumber ?_
    simp only [eX1_count_60, kx_l, nl_int, nl_ref, tl_s]
    with_reducible intro _
    with_reducible exact ih _ _ _ _ (ic_p (by assumption) (by assumption)) (ic_s (by assumption) (by assumption)) (by first | assumption | omega) (by first | assumption | omega)
    with_reducible refine And.intro ?_ ?_
    with_reducible assumption
    with_reducible refine And.intro ?_ ?_
    with_reducible assumption
    with_reducible exact hQ _
set_option maxHeartbeats 4000000 in
theorem sX1_count {a0 : Int32} {a1 : Int32} {a2 : Int32} (hC : CC g w0 x nA cA lA kn w) (hXo : Q (.inr "java/lang/IndexOutOfBoundsException") w) (hXa : Q (.inr "java/lang/IllegalArgumentException") w) (hXs : Q (.inr "java/lang/IllegalStateException") w) (hQ : ∀ v : Int32, Q (.inl (some (.int v))) w) : WP (MX1_count g) Q (0, [some (.ref x), some (.int a0), some (.int a1), some (.int a2), none, none, none], [], w, 0, 0) := by
  obtain ⟨n, rf, md, f, gc, gl, hx, hn, hc, hl, hgc, hgl, hn0, hn1, rx, rn, rc, rl, ⟨d1, d2, d3, d4, d5, d6⟩, ⟨d7, d8, d9, d10, d11, d12⟩⟩ := hC.1.opn g
  simp only [eX1_count_0, eX1_count_4, eX1_count_9, eX1_count_15, eX1_count_25, ite_le, wt_nil, Nat.zero_add]
  with_reducible refine And.intro ?_ ?_
  omega
  with_reducible refine And.intro ?_ ?_
  omega
  with_reducible refine And.intro ?_ ?_
  omega
  with_reducible refine sX1_needCard ?_ ?_
  simp only [kx_r]
  with_reducible assumption
  simp only [rx, kx_l, go_s, wt_nil, tl_n, true_and]
  split
  with_reducible intro _
  with_reducible intro _
  with_reducible refine And.intro ?_ ?_
  omega
  with_reducible refine And.intro ?_ ?_
  omega
  with_reducible refine And.intro ?_ ?_
  omega
  with_reducible refine And.intro ?_ ?_
  omega
  with_reducible assumption
  split
  with_reducible intro _
  with_reducible intro _
  with_reducible refine And.intro ?_ ?_
  omega
  with_reducible refine And.intro ?_ ?_
  omega
  with_reducible refine And.intro ?_ ?_
  omega
  with_reducible refine And.intro ?_ ?_
  omega
  with_reducible assumption
  with_reducible intro _
  with_reducible intro _
  with_reducible refine And.intro ?_ ?_
  omega
  with_reducible refine And.intro ?_ ?_
  omega
  with_reducible refine And.intro ?_ ?_
  omega
  with_reducible refine sX1_rangeOf2 (by first | assumption | exact CC.ext (by assumption) (by assumption)) ?_ ?_ ?_
  simp only [kx_r]
  with_reducible assumption
  simp only [kx_r]
  with_reducible assumption
  simp only [eX1_count_30, kx_l, nl_int, nl_ref, tl_s]
  with_reducible intro _
  with_reducible intro _
  with_reducible intro _
  with_reducible intro _
  with_reducible exact lX1_count_38 hC (by first | assumption | exact hgc _ _ (by assumption) | exact hgl _ _ (by assumption) | exact isR.ext (by assumption) (by assumption) | exact isR.mono (by assumption) (by first | assumption | exact isR.ext (by assumption) (by assumption)) | exact isR_up2 (by first | assumption | exact hgc _ _ (by assumption)) hc (by simp)) hXo hXa hXs hQ _ _ _ _ _ _ ⟨hx, hn, hc, hl, hgc, hgl, hn0, hn1, rx, rn, rc, rl, ⟨d1, d2, d3, d4, d5, d6⟩, ⟨d7, d8, d9, d10, d11, d12⟩⟩ 70 _ _ _ _ (by first | decide | assumption) (by first | decide | exact n12 (by assumption) | exact n60 (by assumption)) (by first | decide | omega) (by first | decide | omega)
end
end
