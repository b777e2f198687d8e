section
section
variable {g : RO} {Q : Ot → Hw → Prop} {w0 w : Hw} {x nA cA lA : Nat} {kn : Int32}
theorem sX1_rangeOf2 {a0 : Int32} (hC : CC g w0 x nA cA lA kn w) (hXo : Q (.inr "java/lang/IndexOutOfBoundsException") w) (hXs : Q (.inr "java/lang/IllegalStateException") w) (hQ : ∀ b, ¬ a0 < 0 → a0 < 6 → isR w b → Q (.inl (some (.ref b))) w) : WP (MX1_rangeOf g) Q (0, [some (.ref x), some (.int a0), none], [], w, 0, 0) := by
  obtain ⟨n, rf, md, f, gc, gl, hx, hn, hc, hl, hgc, hgl, hn0, hn1, rx, rn, rc, rl, ⟨d1, d2, d3, d4, d5, d6⟩, ⟨d7, d8, d9, d10, d11, d12⟩⟩ := hC.1.opn g
  simp only [eX1_rangeOf_0, eX1_rangeOf_4, eX1_rangeOf_8, wt_nil, Nat.zero_add]
  with_reducible refine And.intro ?_ ?_
  omega
  with_reducible refine And.intro ?_ ?_
  omega
  with_reducible refine And.intro ?_ ?_
  omega
  with_reducible refine sX1_needCard ?_ ?_
  simp only [kx_r]
  with_reducible assumption
  simp only [eX1_rangeOf_9, eX1_rangeOf_10, eX1_rangeOf_10N, eX1_rangeOf_11, eX1_rangeOf_11N, eX1_rangeOf_12R, eX1_rangeOf_12N, eX1_rangeOf_15, eX1_rangeOf_25, rx, rc, n45, or_false, kx_l, go_s, gq_s, wt_nil, nl_int, rf_st, tl_n, g0, gS, ex1, true_and]
  with_reducible intro _
  with_reducible intro _
  with_reducible refine And.intro ?_ ?_
  with_reducible exact vpi6 (by assumption) (by assumption)
  with_reducible refine And.intro ?_ ?_
  with_reducible intro _
  with_reducible refine And.intro ?_ ?_
  omega
  with_reducible refine And.intro ?_ ?_
  omega
  with_reducible refine And.intro ?_ ?_
  omega
  with_reducible refine And.intro ?_ ?_
  omega
  with_reducible assumption
  with_reducible intro _
  with_reducible intro _
  with_reducible refine And.intro ?_ ?_
  omega
  with_reducible refine And.intro ?_ ?_
  omega
  with_reducible exact hQ _ (by assumption) (by assumption) (hgc _ _ (by assumption))
end
end
