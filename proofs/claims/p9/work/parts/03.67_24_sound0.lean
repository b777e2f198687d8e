/-! 67.24.sound0.lean.txt -/
section
section
variable {g : RO} {Q : Ot → Hw → Prop} {w0 w : Hw} {x nA cA lA : Nat} {kn : Int32}
set_option maxHeartbeats 4000000 in
theorem sX1_isLikeItsCopy {a0 : Nat} (h0 : isR w a0) (hQ : ∀ (v : Bool) (w' : Hw), ext g w w' → Q (.inl (some (.int (bI v)))) w') : WP (MX1_isLikeItsCopy g) Q (0, [some (.ref a0), none], [], w, 0, 0) := by
  have hQt : ∀ w', ext g w w' → Q (.inl (some (.int 1))) w' := hQ true
  have hQf : ∀ w', ext g w w' → Q (.inl (some (.int 0))) w' := hQ false
  simp only [eX1_isLikeItsCopy_0, wt_nil, Nat.zero_add]
  with_reducible refine And.intro ?_ ?_
  omega
  with_reducible refine And.intro ?_ ?_
  omega
  with_reducible refine And.intro ?_ ?_
  omega
  with_reducible refine sX1_copyOf (by first | assumption | exact hgc _ _ (by assumption) | exact hgl _ _ (by assumption) | exact isR.ext (by assumption) (by repeat' first | assumption | exact ext.rf | refine ext.tr (by assumption) ?_) | exact isR.ext (hgc _ _ (by assumption)) (by repeat' first | assumption | exact ext.rf | refine ext.tr (by assumption) ?_)) ?_ ?_
  simp only [eX1_isLikeItsCopy_4N, eX1_isLikeItsCopy_5N, eX1_isLikeItsCopy_6N, eX1_isLikeItsCopy_41, eX1_isLikeItsCopy_42, kx_l, nl_ref, tl_s, nb_0, true_and]
  with_reducible refine And.intro ?_ ?_
  omega
  with_reducible refine And.intro ?_ ?_
  omega
  with_reducible exact hQf _ (by repeat' first | assumption | exact ext.rf | refine ext.tr (by assumption) ?_)
  simp only [eX1_isLikeItsCopy_4, eX1_isLikeItsCopy_5, eX1_isLikeItsCopy_6R, eX1_isLikeItsCopy_9, kx_l, wt_nil, nl_ref, tl_s, Nat.add_zero]
  with_reducible intro _
  with_reducible intro _
  with_reducible intro _
  with_reducible intro _
  with_reducible refine And.intro ?_ ?_
  with_reducible refine go_R (by first | assumption | exact hgc _ _ (by assumption) | exact hgl _ _ (by assumption) | exact isR.ext (by assumption) (by repeat' first | assumption | exact ext.rf | refine ext.tr (by assumption) ?_) | exact isR.ext (hgc _ _ (by assumption)) (by repeat' first | assumption | exact ext.rf | refine ext.tr (by assumption) ?_)) ?_
  with_reducible intro _
  with_reducible intro _
  with_reducible intro _
  with_reducible intro _
  simp only []
  with_reducible refine And.intro ?_ ?_
  omega
  with_reducible refine And.intro ?_ ?_
  omega
  with_reducible refine And.intro ?_ ?_
  omega
  with_reducible refine sX0_matchesR (by first | assumption | exact hgc _ _ (by assumption) | exact hgl _ _ (by assumption) | exact isR.ext (by assumption) (by repeat' first | assumption | exact ext.rf | refine ext.tr (by assumption) ?_) | exact isR.ext (hgc _ _ (by assumption)) (by repeat' first | assumption | exact ext.rf | refine ext.tr (by assumption) ?_)) (by first | assumption | exact hgc _ _ (by assumption) | exact hgl _ _ (by assumption) | exact isR.ext (by assumption) (by repeat' first | assumption | exact ext.rf | refine ext.tr (by assumption) ?_) | exact isR.ext (hgc _ _ (by assumption)) (by repeat' first | assumption | exact ext.rf | refine ext.tr (by assumption) ?_)) ?_
  simp only [eX1_isLikeItsCopy_14, eX1_isLikeItsCopy_17, eX1_isLikeItsCopy_41, eX1_isLikeItsCopy_42, kx_l, wt_nil, tl_s, nb_0, true_and, Nat.add_zero]
  with_reducible intro _
  split
  with_reducible refine And.intro ?_ ?_
  omega
  with_reducible refine And.intro ?_ ?_
  omega
  with_reducible exact hQf _ (by repeat' first | assumption | exact ext.rf | refine ext.tr (by assumption) ?_)
  with_reducible refine And.intro ?_ ?_
  with_reducible refine go_R (by first | assumption | exact hgc _ _ (by assumption) | exact hgl _ _ (by assumption) | exact isR.ext (by assumption) (by repeat' first | assumption | exact ext.rf | refine ext.tr (by assumption) ?_) | exact isR.ext (hgc _ _ (by assumption)) (by repeat' first | assumption | exact ext.rf | refine ext.tr (by assumption) ?_)) ?_
  with_reducible intro _
  with_reducible intro _
  with_reducible intro _
  with_reducible intro _
  simp only []
  with_reducible refine And.intro ?_ ?_
  omega
  with_reducible refine And.intro ?_ ?_
  omega
  with_reducible refine And.intro ?_ ?_
  omega
  with_reducible refine sX0_matchesR (by first | assumption | exact hgc _ _ (by assumption) | exact hgl _ _ (by assumption) | exact isR.ext (by assumption) (by repeat' first | assumption | exact ext.rf | refine ext.tr (by assumption) ?_) | exact isR.ext (hgc _ _ (by assumption)) (by repeat' first | assumption | exact ext.rf | refine ext.tr (by assumption) ?_)) (by first | assumption | exact hgc _ _ (by assumption) | exact hgl _ _ (by assumption) | exact isR.ext (by assumption) (by repeat' first | assumption | exact ext.rf | refine ext.tr (by assumption) ?_) | exact isR.ext (hgc _ _ (by assumption)) (by repeat' first | assumption | exact ext.rf | refine ext.tr (by assumption) ?_)) ?_
  simp only [eX1_isLikeItsCopy_22, eX1_isLikeItsCopy_25, eX1_isLikeItsCopy_29, eX1_isLikeItsCopy_41, eX1_isLikeItsCopy_42, kx_l, wt_nil, tl_s, nb_0, true_and, Nat.add_zero]
  with_reducible intro _
  split
  with_reducible refine And.intro ?_ ?_
  omega
  with_reducible refine And.intro ?_ ?_
  omega
  with_reducible exact hQf _ (by repeat' first | assumption | exact ext.rf | refine ext.tr (by assumption) ?_)
  with_reducible refine And.intro ?_ ?_
  with_reducible refine go_R (by first | assumption | exact hgc _ _ (by assumption) | exact hgl _ _ (by assumption) | exact isR.ext (by assumption) (by repeat' first | assumption | exact ext.rf | refine ext.tr (by assumption) ?_) | exact isR.ext (hgc _ _ (by assumption)) (by repeat' first | assumption | exact ext.rf | refine ext.tr (by assumption) ?_)) ?_
  with_reducible intro _
  with_reducible intro _
  with_reducible intro _
  with_reducible intro _
  simp only []
  with_reducible refine And.intro ?_ ?_
  omega
  with_reducible refine And.intro ?_ ?_
  omega
  with_reducible refine And.intro ?_ ?_
  omega
  with_reducible refine sX0_hash (by first | assumption | exact hgc _ _ (by assumption) | exact hgl _ _ (by assumption) | exact isR.ext (by assumption) (by repeat' first | assumption | exact ext.rf | refine ext.tr (by assumption) ?_) | exact isR.ext (hgc _ _ (by assumption)) (by repeat' first | assumption | exact ext.rf | refine ext.tr (by assumption) ?_)) ?_
  simp only [kx_l, wt_nil, wt_long, tl_s, Nat.add_zero]
  with_reducible intro _
  with_reducible refine And.intro ?_ ?_
  with_reducible refine go_R (by first | assumption | exact hgc _ _ (by assumption) | exact hgl _ _ (by assumption) | exact isR.ext (by assumption) (by repeat' first | assumption | exact ext.rf | refine ext.tr (by assumption) ?_) | exact isR.ext (hgc _ _ (by assumption)) (by repeat' first | assumption | exact ext.rf | refine ext.tr (by assumption) ?_)) ?_
  with_reducible intro _
  with_reducible intro _
  with_reducible intro _
  with_reducible intro _
  simp only []
  with_reducible refine And.intro ?_ ?_
  omega
  with_reducible refine And.intro ?_ ?_
  omega
  with_reducible refine And.intro ?_ ?_
  omega
  with_reducible refine sX0_hash (by first | assumption | exact hgc _ _ (by assumption) | exact hgl _ _ (by assumption) | exact isR.ext (by assumption) (by repeat' first | assumption | exact ext.rf | refine ext.tr (by assumption) ?_) | exact isR.ext (hgc _ _ (by assumption)) (by repeat' first | assumption | exact ext.rf | refine ext.tr (by assumption) ?_)) ?_
  simp only [eX1_isLikeItsCopy_33, eX1_isLikeItsCopy_37, eX1_isLikeItsCopy_41, eX1_isLikeItsCopy_42, kx_l, tl_s, nb_0, nb_1, true_and]
  with_reducible intro _
  split
  with_reducible refine And.intro ?_ ?_
  omega
  with_reducible refine And.intro ?_ ?_
  omega
  with_reducible exact hQt _ (by repeat' first | assumption | exact ext.rf | refine ext.tr (by assumption) ?_)
  with_reducible refine And.intro ?_ ?_
  omega
  with_reducible refine And.intro ?_ ?_
  omega
  with_reducible exact hQf _ (by repeat' first | assumption | exact ext.rf | refine ext.tr (by assumption) ?_)
set_option maxHeartbeats 4000000 in
theorem sX1_isDrawnSound {a0 : Nat} (hC : CC g w0 x nA cA lA kn w) (h0 : isR w a0) (hQ : ∀ (v : Bool) (w' : Hw), ext g w w' → Q (.inl (some (.int (bI v)))) w') : WP (MX1_isDrawnSound g) Q (0, [some (.ref x), some (.ref a0), none, none], [], w, 0, 0) := by
  obtain ⟨n, rf, md, f, gc, gl, hx, hn, hc, hl, hgc, hgl, hn0, hn1, rx, rn, rc, rl, ⟨d1, d2, d3, d4, d5, d6⟩, ⟨d7, d8, d9, d10, d11, d12⟩⟩ := hC.1.opn g
  have hQt : ∀ w', ext g w w' → Q (.inl (some (.int 1))) w' := hQ true
  have hQf : ∀ w', ext g w w' → Q (.inl (some (.int 0))) w' := hQ false
  simp only [eX1_isDrawnSound_0, eX1_isDrawnSound_4, eX1_isDrawnSound_8, eX1_isDrawnSound_12]
  with_reducible refine go_R (by first | assumption | exact hgc _ _ (by assumption) | exact hgl _ _ (by assumption) | exact isR.ext (by assumption) (by repeat' first | assumption | exact ext.rf | refine ext.tr (by assumption) ?_) | exact isR.ext (hgc _ _ (by assumption)) (by repeat' first | assumption | exact ext.rf | refine ext.tr (by assumption) ?_)) ?_
  simp only [g0, ex1]
  with_reducible intro _
  with_reducible intro _
  with_reducible intro _
  with_reducible intro _
  with_reducible refine go_R (by first | assumption | exact hgc _ _ (by assumption) | exact hgl _ _ (by assumption) | exact isR.ext (by assumption) (by repeat' first | assumption | exact ext.rf | refine ext.tr (by assumption) ?_) | exact isR.ext (hgc _ _ (by assumption)) (by repeat' first | assumption | exact ext.rf | refine ext.tr (by assumption) ?_)) ?_
  simp only [g0, ex1]
  with_reducible intro _
  with_reducible intro _
  with_reducible intro _
  with_reducible intro _
  with_reducible refine go_R (by first | assumption | exact hgc _ _ (by assumption) | exact hgl _ _ (by assumption) | exact isR.ext (by assumption) (by repeat' first | assumption | exact ext.rf | refine ext.tr (by assumption) ?_) | exact isR.ext (hgc _ _ (by assumption)) (by repeat' first | assumption | exact ext.rf | refine ext.tr (by assumption) ?_)) ?_
  simp only [g0, gS, ex1]
  with_reducible intro _
  with_reducible intro _
  with_reducible intro _
  with_reducible intro _
  with_reducible refine go_R (by first | assumption | exact hgc _ _ (by assumption) | exact hgl _ _ (by assumption) | exact isR.ext (by assumption) (by repeat' first | assumption | exact ext.rf | refine ext.tr (by assumption) ?_) | exact isR.ext (hgc _ _ (by assumption)) (by repeat' first | assumption | exact ext.rf | refine ext.tr (by assumption) ?_)) ?_
  simp only [eX1_isDrawnSound_16, wt_nil, g0, gS, ex1, Nat.zero_add]
  with_reducible intro _
  with_reducible intro _
  with_reducible intro _
  with_reducible intro _
  with_reducible refine And.intro ?_ ?_
  omega
  with_reducible refine And.intro ?_ ?_
  omega
  with_reducible refine And.intro ?_ ?_
  omega
  with_reducible refine sX0_ofFour ?_ ?_
  simp only [eX1_isDrawnSound_19N, eX1_isDrawnSound_20, eX1_isDrawnSound_24, eX1_isDrawnSound_28, eX1_isDrawnSound_32, kx_l, nl_ref, tl_s]
  with_reducible refine go_R (by first | assumption | exact hgc _ _ (by assumption) | exact hgl _ _ (by assumption) | exact isR.ext (by assumption) (by repeat' first | assumption | exact ext.rf | refine ext.tr (by assumption) ?_) | exact isR.ext (hgc _ _ (by assumption)) (by repeat' first | assumption | exact ext.rf | refine ext.tr (by assumption) ?_)) ?_
  simp only [g0, ex1]
  with_reducible intro _
  with_reducible intro _
  with_reducible intro _
  with_reducible intro _
  with_reducible refine go_R (by first | assumption | exact hgc _ _ (by assumption) | exact hgl _ _ (by assumption) | exact isR.ext (by assumption) (by repeat' first | assumption | exact ext.rf | refine ext.tr (by assumption) ?_) | exact isR.ext (hgc _ _ (by assumption)) (by repeat' first | assumption | exact ext.rf | refine ext.tr (by assumption) ?_)) ?_
  simp only [g0, gS, ex1]
  with_reducible intro _
  with_reducible intro _
  with_reducible intro _
  with_reducible intro _
  with_reducible refine go_R (by first | assumption | exact hgc _ _ (by assumption) | exact hgl _ _ (by assumption) | exact isR.ext (by assumption) (by repeat' first | assumption | exact ext.rf | refine ext.tr (by assumption) ?_) | exact isR.ext (hgc _ _ (by assumption)) (by repeat' first | assumption | exact ext.rf | refine ext.tr (by assumption) ?_)) ?_
  simp only [g0, gS, ex1]
  with_reducible intro _
  with_reducible intro _
  with_reducible intro _
  with_reducible intro _
  with_reducible refine go_R (by first | assumption | exact hgc _ _ (by assumption) | exact hgl _ _ (by assumption) | exact isR.ext (by assumption) (by repeat' first | assumption | exact ext.rf | refine ext.tr (by assumption) ?_) | exact isR.ext (hgc _ _ (by assumption)) (by repeat' first | assumption | exact ext.rf | refine ext.tr (by assumption) ?_)) ?_
  simp only [eX1_isDrawnSound_36, wt_nil, g0, gS, ex1]
  with_reducible intro _
  with_reducible intro _
  with_reducible intro _
  with_reducible intro _
  with_reducible refine And.intro ?_ ?_
  omega
  with_reducible refine And.intro ?_ ?_
  omega
  with_reducible refine And.intro ?_ ?_
  omega
  with_reducible refine sX0_ofFour ?_ ?_
  simp only [eX1_isDrawnSound_39N, eX1_isDrawnSound_40, eX1_isDrawnSound_41N, eX1_isDrawnSound_42, eX1_isDrawnSound_43NR, rx, kx_l, go_s, wt_nil, nl_null, tl_s, true_and, Nat.add_zero]
  with_reducible refine And.intro ?_ ?_
  omega
  with_reducible refine And.intro ?_ ?_
  omega
  with_reducible refine And.intro ?_ ?_
  omega
  with_reducible refine sX1_hasSameValidN (by first | assumption | exact CC.ext hC (by repeat' first | assumption | exact ext.rf | refine ext.tr (by assumption) ?_)) (by first | assumption | exact hgc _ _ (by assumption) | exact hgl _ _ (by assumption) | exact isR.ext (by assumption) (by repeat' first | assumption | exact ext.rf | refine ext.tr (by assumption) ?_) | exact isR.ext (hgc _ _ (by assumption)) (by repeat' first | assumption | exact ext.rf | refine ext.tr (by assumption) ?_)) ?_
  simp only [eX1_isDrawnSound_46, eX1_isDrawnSound_49, eX1_isDrawnSound_50N, eX1_isDrawnSound_51, eX1_isDrawnSound_52NR, eX1_isDrawnSound_62, eX1_isDrawnSound_63, rx, kx_l, go_s, wt_nil, tl_s, nb_0, true_and, Nat.add_zero]
  with_reducible intro _
  split
  with_reducible refine And.intro ?_ ?_
  omega
  with_reducible refine And.intro ?_ ?_
  omega
  with_reducible exact hQf _ (by repeat' first | assumption | exact ext.rf | refine ext.tr (by assumption) ?_)
  with_reducible refine And.intro ?_ ?_
  omega
  with_reducible refine And.intro ?_ ?_
  omega
  with_reducible refine And.intro ?_ ?_
  omega
  with_reducible refine sX1_hasSameValidN (by first | assumption | exact CC.ext hC (by repeat' first | assumption | exact ext.rf | refine ext.tr (by assumption) ?_)) (by first | assumption | exact hgc _ _ (by assumption) | exact hgl _ _ (by assumption) | exact isR.ext (by assumption) (by repeat' first | assumption | exact ext.rf | refine ext.tr (by assumption) ?_) | exact isR.ext (hgc _ _ (by assumption)) (by repeat' first | assumption | exact ext.rf | refine ext.tr (by assumption) ?_)) ?_
  simp only [eX1_isDrawnSound_55, eX1_isDrawnSound_58, eX1_isDrawnSound_62, eX1_isDrawnSound_63, kx_l, tl_s, nb_0, nb_1, true_and]
  with_reducible intro _
  split
  with_reducible refine And.intro ?_ ?_
  omega
  with_reducible refine And.intro ?_ ?_
  omega
  with_reducible exact hQf _ (by repeat' first | assumption | exact ext.rf | refine ext.tr (by assumption) ?_)
  with_reducible refine And.intro ?_ ?_
  omega
  with_reducible refine And.intro ?_ ?_
  omega
  with_reducible exact hQt _ (by repeat' first | assumption | exact ext.rf | refine ext.tr (by assumption) ?_)
  simp only [eX1_isDrawnSound_39, eX1_isDrawnSound_40, eX1_isDrawnSound_41N, eX1_isDrawnSound_42, eX1_isDrawnSound_43NR, kx_l, wt_nil, nl_null, tl_s, Nat.add_zero]
  with_reducible intro _
  with_reducible intro _
  with_reducible intro _
  with_reducible intro _
  with_reducible refine And.intro ?_ ?_
  with_reducible exact go_C (by first | assumption | exact CC.ext hC (by repeat' first | assumption | exact ext.rf | refine ext.tr (by assumption) ?_))
  with_reducible refine And.intro ?_ ?_
  omega
  with_reducible refine And.intro ?_ ?_
  omega
  with_reducible refine And.intro ?_ ?_
  omega
  with_reducible refine sX1_hasSameValidN (by first | assumption | exact CC.ext hC (by repeat' first | assumption | exact ext.rf | refine ext.tr (by assumption) ?_)) (by first | assumption | exact hgc _ _ (by assumption) | exact hgl _ _ (by assumption) | exact isR.ext (by assumption) (by repeat' first | assumption | exact ext.rf | refine ext.tr (by assumption) ?_) | exact isR.ext (hgc _ _ (by assumption)) (by repeat' first | assumption | exact ext.rf | refine ext.tr (by assumption) ?_)) ?_
  simp only [eX1_isDrawnSound_46, eX1_isDrawnSound_49, eX1_isDrawnSound_50, eX1_isDrawnSound_51, eX1_isDrawnSound_52RR, eX1_isDrawnSound_62, eX1_isDrawnSound_63, kx_l, wt_nil, tl_s, nb_0, true_and, Nat.add_zero]
  with_reducible intro _
  split
  with_reducible refine And.intro ?_ ?_
  omega
  with_reducible refine And.intro ?_ ?_
  omega
  with_reducible exact hQf _ (by repeat' first | assumption | exact ext.rf | refine ext.tr (by assumption) ?_)
  with_reducible refine And.intro ?_ ?_
  with_reducible exact go_C (by first | assumption | exact CC.ext hC (by repeat' first | assumption | exact ext.rf | refine ext.tr (by assumption) ?_))
  with_reducible refine And.intro ?_ ?_
  omega
  with_reducible refine And.intro ?_ ?_
  omega
  with_reducible refine And.intro ?_ ?_
  omega
  with_reducible refine sX1_hasSameValidR (by first | assumption | exact CC.ext hC (by repeat' first | assumption | exact ext.rf | refine ext.tr (by assumption) ?_)) (by first | assumption | exact hgc _ _ (by assumption) | exact hgl _ _ (by assumption) | exact isR.ext (by assumption) (by repeat' first | assumption | exact ext.rf | refine ext.tr (by assumption) ?_) | exact isR.ext (hgc _ _ (by assumption)) (by repeat' first | assumption | exact ext.rf | refine ext.tr (by assumption) ?_)) (by first | assumption | exact hgc _ _ (by assumption) | exact hgl _ _ (by assumption) | exact isR.ext (by assumption) (by repeat' first | assumption | exact ext.rf | refine ext.tr (by assumption) ?_) | exact isR.ext (hgc _ _ (by assumption)) (by repeat' first | assumption | exact ext.rf | refine ext.tr (by assumption) ?_)) ?_
  simp only [eX1_isDrawnSound_55, eX1_isDrawnSound_58, eX1_isDrawnSound_62, eX1_isDrawnSound_63, kx_l, tl_s, nb_0, nb_1, true_and]
  with_reducible intro _
  split
  with_reducible refine And.intro ?_ ?_
  omega
  with_reducible refine And.intro ?_ ?_
  omega
  with_reducible exact hQf _ (by repeat' first | assumption | exact ext.rf | refine ext.tr (by assumption) ?_)
  with_reducible refine And.intro ?_ ?_
  omega
  with_reducible refine And.intro ?_ ?_
  omega
  with_reducible exact hQt _ (by repeat' first | assumption | exact ext.rf | refine ext.tr (by assumption) ?_)
  simp only [eX1_isDrawnSound_19, eX1_isDrawnSound_20, eX1_isDrawnSound_24, eX1_isDrawnSound_28, eX1_isDrawnSound_32, kx_l, nl_ref, tl_s]
  with_reducible intro _
  with_reducible intro _
  with_reducible intro _
  with_reducible intro _
  with_reducible refine go_R (by first | assumption | exact hgc _ _ (by assumption) | exact hgl _ _ (by assumption) | exact isR.ext (by assumption) (by repeat' first | assumption | exact ext.rf | refine ext.tr (by assumption) ?_) | exact isR.ext (hgc _ _ (by assumption)) (by repeat' first | assumption | exact ext.rf | refine ext.tr (by assumption) ?_)) ?_
  simp only [g0, ex1]
  with_reducible intro _
  with_reducible intro _
  with_reducible intro _
  with_reducible intro _
  with_reducible refine go_R (by first | assumption | exact hgc _ _ (by assumption) | exact hgl _ _ (by assumption) | exact isR.ext (by assumption) (by repeat' first | assumption | exact ext.rf | refine ext.tr (by assumption) ?_) | exact isR.ext (hgc _ _ (by assumption)) (by repeat' first | assumption | exact ext.rf | refine ext.tr (by assumption) ?_)) ?_
  simp only [g0, gS, ex1]
  with_reducible intro _
  with_reducible intro _
  with_reducible intro _
  with_reducible intro _
  with_reducible refine go_R (by first | assumption | exact hgc _ _ (by assumption) | exact hgl _ _ (by assumption) | exact isR.ext (by assumption) (by repeat' first | assumption | exact ext.rf | refine ext.tr (by assumption) ?_) | exact isR.ext (hgc _ _ (by assumption)) (by repeat' first | assumption | exact ext.rf | refine ext.tr (by assumption) ?_)) ?_
  simp only [g0, gS, ex1]
  with_reducible intro _
  with_reducible intro _
  with_reducible intro _
  with_reducible intro _
  with_reducible refine go_R (by first | assumption | exact hgc _ _ (by assumption) | exact hgl _ _ (by assumption) | exact isR.ext (by assumption) (by repeat' first | assumption | exact ext.rf | refine ext.tr (by assumption) ?_) | exact isR.ext (hgc _ _ (by assumption)) (by repeat' first | assumption | exact ext.rf | refine ext.tr (by assumption) ?_)) ?_
  simp only [eX1_isDrawnSound_36, wt_nil, g0, gS, ex1]
  with_reducible intro _
  with_reducible intro _
  with_reducible intro _
  with_reducible intro _
  with_reducible refine And.intro ?_ ?_
  omega
  with_reducible refine And.intro ?_ ?_
  omega
  with_reducible refine And.intro ?_ ?_
  omega
  with_reducible refine sX0_ofFour ?_ ?_
  simp only [eX1_isDrawnSound_39N, eX1_isDrawnSound_40, eX1_isDrawnSound_41, eX1_isDrawnSound_42, eX1_isDrawnSound_43RR, kx_l, wt_nil, nl_ref, tl_s, Nat.add_zero]
  with_reducible refine And.intro ?_ ?_
  with_reducible exact go_C (by first | assumption | exact CC.ext hC (by repeat' first | assumption | exact ext.rf | refine ext.tr (by assumption) ?_))
  with_reducible refine And.intro ?_ ?_
  omega
  with_reducible refine And.intro ?_ ?_
  omega
  with_reducible refine And.intro ?_ ?_
  omega
  with_reducible refine sX1_hasSameValidR (by first | assumption | exact CC.ext hC (by repeat' first | assumption | exact ext.rf | refine ext.tr (by assumption) ?_)) (by first | assumption | exact hgc _ _ (by assumption) | exact hgl _ _ (by assumption) | exact isR.ext (by assumption) (by repeat' first | assumption | exact ext.rf | refine ext.tr (by assumption) ?_) | exact isR.ext (hgc _ _ (by assumption)) (by repeat' first | assumption | exact ext.rf | refine ext.tr (by assumption) ?_)) (by first | assumption | exact hgc _ _ (by assumption) | exact hgl _ _ (by assumption) | exact isR.ext (by assumption) (by repeat' first | assumption | exact ext.rf | refine ext.tr (by assumption) ?_) | exact isR.ext (hgc _ _ (by assumption)) (by repeat' first | assumption | exact ext.rf | refine ext.tr (by assumption) ?_)) ?_
  simp only [eX1_isDrawnSound_46, eX1_isDrawnSound_49, eX1_isDrawnSound_50N, eX1_isDrawnSound_51, eX1_isDrawnSound_52NR, eX1_isDrawnSound_62, eX1_isDrawnSound_63, kx_l, wt_nil, tl_s, nb_0, true_and, Nat.add_zero]
  with_reducible intro _
  split
  with_reducible refine And.intro ?_ ?_
  omega
  with_reducible refine And.intro ?_ ?_
  omega
  with_reducible exact hQf _ (by repeat' first | assumption | exact ext.rf | refine ext.tr (by assumption) ?_)
  with_reducible refine And.intro ?_ ?_
  with_reducible exact go_C (by first | assumption | exact CC.ext hC (by repeat' first | assumption | exact ext.rf | refine ext.tr (by assumption) ?_))
  with_reducible refine And.intro ?_ ?_
  omega
  with_reducible refine And.intro ?_ ?_
  omega
  with_reducible refine And.intro ?_ ?_
  omega
  with_reducible refine sX1_hasSameValidN (by first | assumption | exact CC.ext hC (by repeat' first | assumption | exact ext.rf | refine ext.tr (by assumption) ?_)) (by first | assumption | exact hgc _ _ (by assumption) | exact hgl _ _ (by assumption) | exact isR.ext (by assumption) (by repeat' first | assumption | exact ext.rf | refine ext.tr (by assumption) ?_) | exact isR.ext (hgc _ _ (by assumption)) (by repeat' first | assumption | exact ext.rf | refine ext.tr (by assumption) ?_)) ?_
  simp only [eX1_isDrawnSound_55, eX1_isDrawnSound_58, eX1_isDrawnSound_62, eX1_isDrawnSound_63, kx_l, tl_s, nb_0, nb_1, true_and]
  with_reducible intro _
  split
  with_reducible refine And.intro ?_ ?_
  omega
  with_reducible refine And.intro ?_ ?_
  omega
  with_reducible exact hQf _ (by repeat' first | assumption | exact ext.rf | refine ext.tr (by assumption) ?_)
  with_reducible refine And.intro ?_ ?_
  omega
  with_reducible refine And.intro ?_ ?_
  omega
  with_reducible exact hQt _ (by repeat' first | assumption | exact ext.rf | refine ext.tr (by assumption) ?_)
  simp only [eX1_isDrawnSound_39, eX1_isDrawnSound_40, eX1_isDrawnSound_41, eX1_isDrawnSound_42, eX1_isDrawnSound_43RR, kx_l, wt_nil, nl_ref, tl_s, Nat.add_zero]
  with_reducible intro _
  with_reducible intro _
  with_reducible intro _
  with_reducible intro _
  with_reducible refine And.intro ?_ ?_
  with_reducible exact go_C (by first | assumption | exact CC.ext hC (by repeat' first | assumption | exact ext.rf | refine ext.tr (by assumption) ?_))
  with_reducible refine And.intro ?_ ?_
  omega
  with_reducible refine And.intro ?_ ?_
  omega
  with_reducible refine And.intro ?_ ?_
  omega
  with_reducible refine sX1_hasSameValidR (by first | assumption | exact CC.ext hC (by repeat' first | assumption | exact ext.rf | refine ext.tr (by assumption) ?_)) (by first | assumption | exact hgc _ _ (by assumption) | exact hgl _ _ (by assumption) | exact isR.ext (by assumption) (by repeat' first | assumption | exact ext.rf | refine ext.tr (by assumption) ?_) | exact isR.ext (hgc _ _ (by assumption)) (by repeat' first | assumption | exact ext.rf | refine ext.tr (by assumption) ?_)) (by first | assumption | exact hgc _ _ (by assumption) | exact hgl _ _ (by assumption) | exact isR.ext (by assumption) (by repeat' first | assumption | exact ext.rf | refine ext.tr (by assumption) ?_) | exact isR.ext (hgc _ _ (by assumption)) (by repeat' first | assumption | exact ext.rf | refine ext.tr (by assumption) ?_)) ?_
  simp only [eX1_isDrawnSound_46, eX1_isDrawnSound_49, eX1_isDrawnSound_50, eX1_isDrawnSound_51, eX1_isDrawnSound_52RR, eX1_isDrawnSound_62, eX1_isDrawnSound_63, kx_l, wt_nil, tl_s, nb_0, true_and, Nat.add_zero]
  with_reducible intro _
  split
  with_reducible refine And.intro ?_ ?_
  omega
  with_reducible refine And.intro ?_ ?_
  omega
  with_reducible exact hQf _ (by repeat' first | assumption | exact ext.rf | refine ext.tr (by assumption) ?_)
  with_reducible refine And.intro ?_ ?_
  with_reducible exact go_C (by first | assumption | exact CC.ext hC (by repeat' first | assumption | exact ext.rf | refine ext.tr (by assumption) ?_))
  with_reducible refine And.intro ?_ ?_
  omega
  with_reducible refine And.intro ?_ ?_
  omega
  with_reducible refine And.intro ?_ ?_
  omega
  with_reducible refine sX1_hasSameValidR (by first | assumption | exact CC.ext hC (by repeat' first | assumption | exact ext.rf | refine ext.tr (by assumption) ?_)) (by first | assumption | exact hgc _ _ (by assumption) | exact hgl _ _ (by assumption) | exact isR.ext (by assumption) (by repeat' first | assumption | exact ext.rf | refine ext.tr (by assumption) ?_) | exact isR.ext (hgc _ _ (by assumption)) (by repeat' first | assumption | exact ext.rf | refine ext.tr (by assumption) ?_)) (by first | assumption | exact hgc _ _ (by assumption) | exact hgl _ _ (by assumption) | exact isR.ext (by assumption) (by repeat' first | assumption | exact ext.rf | refine ext.tr (by assumption) ?_) | exact isR.ext (hgc _ _ (by assumption)) (by repeat' first | assumption | exact ext.rf | refine ext.tr (by assumption) ?_)) ?_
  simp only [eX1_isDrawnSound_55, eX1_isDrawnSound_58, eX1_isDrawnSound_62, eX1_isDrawnSound_63, kx_l, tl_s, nb_0, nb_1, true_and]
  with_reducible intro _
  split
  with_reducible refine And.intro ?_ ?_
  omega
  with_reducible refine And.intro ?_ ?_
  omega
  with_reducible exact hQf _ (by repeat' first | assumption | exact ext.rf | refine ext.tr (by assumption) ?_)
  with_reducible refine And.intro ?_ ?_
  omega
  with_reducible refine And.intro ?_ ?_
  omega
  with_reducible exact hQt _ (by repeat' first | assumption | exact ext.rf | refine ext.tr (by assumption) ?_)
set_option maxHeartbeats 4000000 in
theorem sX1_isSoundAlone {a0 : Nat} (hC : CC g w0 x nA cA lA kn w) (h0 : isR w a0) (hQ : ∀ (v : Bool) (w' : Hw), ext g w w' → Q (.inl (some (.int (bI v)))) w') : WP (MX1_isSoundAlone g) Q (0, [some (.ref x), some (.ref a0)], [], w, 0, 0) := by
  obtain ⟨n, rf, md, f, gc, gl, hx, hn, hc, hl, hgc, hgl, hn0, hn1, rx, rn, rc, rl, ⟨d1, d2, d3, d4, d5, d6⟩, ⟨d7, d8, d9, d10, d11, d12⟩⟩ := hC.1.opn g
  have hQt : ∀ w', ext g w w' → Q (.inl (some (.int 1))) w' := hQ true
  have hQf : ∀ w', ext g w w' → Q (.inl (some (.int 0))) w' := hQ false
  simp only [eX1_isSoundAlone_0, wt_nil, Nat.zero_add]
  with_reducible refine And.intro ?_ ?_
  omega
  with_reducible refine And.intro ?_ ?_
  omega
  with_reducible refine And.intro ?_ ?_
  omega
  with_reducible refine sX1_isLikeItsCopy (by first | assumption | exact hgc _ _ (by assumption) | exact hgl _ _ (by assumption) | exact isR.ext (by assumption) (by repeat' first | assumption | exact ext.rf | refine ext.tr (by assumption) ?_) | exact isR.ext (hgc _ _ (by assumption)) (by repeat' first | assumption | exact ext.rf | refine ext.tr (by assumption) ?_)) ?_
  simp only [eX1_isSoundAlone_4, eX1_isSoundAlone_7, eX1_isSoundAlone_11, eX1_isSoundAlone_48, eX1_isSoundAlone_49, kx_l, wt_nil, wt_ref, tl_s, nb_0, true_and, Nat.add_zero]
  with_reducible intro _
  split
  with_reducible intro _
  with_reducible intro _
  with_reducible refine And.intro ?_ ?_
  omega
  with_reducible refine And.intro ?_ ?_
  omega
  with_reducible exact hQf _ (by repeat' first | assumption | exact ext.rf | refine ext.tr (by assumption) ?_)
  with_reducible intro _
  with_reducible intro _
  with_reducible refine And.intro ?_ ?_
  with_reducible refine go_R (by first | assumption | exact hgc _ _ (by assumption) | exact hgl _ _ (by assumption) | exact isR.ext (by assumption) (by repeat' first | assumption | exact ext.rf | refine ext.tr (by assumption) ?_) | exact isR.ext (hgc _ _ (by assumption)) (by repeat' first | assumption | exact ext.rf | refine ext.tr (by assumption) ?_)) ?_
  with_reducible intro _
  with_reducible intro _
  with_reducible intro _
  with_reducible intro _
  simp only []
  with_reducible refine And.intro ?_ ?_
  omega
  with_reducible refine And.intro ?_ ?_
  omega
  with_reducible refine And.intro ?_ ?_
  omega
  with_reducible refine sX0_isSettled (by first | assumption | exact hgc _ _ (by assumption) | exact hgl _ _ (by assumption) | exact isR.ext (by assumption) (by repeat' first | assumption | exact ext.rf | refine ext.tr (by assumption) ?_) | exact isR.ext (hgc _ _ (by assumption)) (by repeat' first | assumption | exact ext.rf | refine ext.tr (by assumption) ?_)) ?_
  simp only [kx_l, wt_nil, wt_int, tl_s, Nat.add_zero]
  with_reducible intro _
  with_reducible refine And.intro ?_ ?_
  omega
  with_reducible refine And.intro ?_ ?_
  omega
  with_reducible refine And.intro ?_ ?_
  omega
  with_reducible refine sX1_outerOf (by first | assumption | exact hgc _ _ (by assumption) | exact hgl _ _ (by assumption) | exact isR.ext (by assumption) (by repeat' first | assumption | exact ext.rf | refine ext.tr (by assumption) ?_) | exact isR.ext (hgc _ _ (by assumption)) (by repeat' first | assumption | exact ext.rf | refine ext.tr (by assumption) ?_)) ?_ ?_
  simp only [eX1_isSoundAlone_16N, kx_l, wt_nil, wt_int, tl_s, Nat.add_zero]
  with_reducible refine And.intro ?_ ?_
  with_reducible refine go_R (by first | assumption | exact hgc _ _ (by assumption) | exact hgl _ _ (by assumption) | exact isR.ext (by assumption) (by repeat' first | assumption | exact ext.rf | refine ext.tr (by assumption) ?_) | exact isR.ext (hgc _ _ (by assumption)) (by repeat' first | assumption | exact ext.rf | refine ext.tr (by assumption) ?_)) ?_
  with_reducible intro _
  with_reducible intro _
  with_reducible intro _
  with_reducible intro _
  simp only []
  with_reducible refine And.intro ?_ ?_
  omega
  with_reducible refine And.intro ?_ ?_
  omega
  with_reducible refine And.intro ?_ ?_
  omega
  with_reducible refine sX0_matchesN (by first | assumption | exact hgc _ _ (by assumption) | exact hgl _ _ (by assumption) | exact isR.ext (by assumption) (by repeat' first | assumption | exact ext.rf | refine ext.tr (by assumption) ?_) | exact isR.ext (hgc _ _ (by assumption)) (by repeat' first | assumption | exact ext.rf | refine ext.tr (by assumption) ?_)) ?_
  simp only [eX1_isSoundAlone_19, eX1_isSoundAlone_22, eX1_isSoundAlone_48, eX1_isSoundAlone_49, kx_l, wt_nil, tl_s, nb_0, true_and, Nat.add_zero]
  with_reducible intro _
  split
  with_reducible refine And.intro ?_ ?_
  omega
  with_reducible refine And.intro ?_ ?_
  omega
  with_reducible refine And.intro ?_ ?_
  omega
  with_reducible refine sX1_isOuterSound (by first | assumption | exact hgc _ _ (by assumption) | exact hgl _ _ (by assumption) | exact isR.ext (by assumption) (by repeat' first | assumption | exact ext.rf | refine ext.tr (by assumption) ?_) | exact isR.ext (hgc _ _ (by assumption)) (by repeat' first | assumption | exact ext.rf | refine ext.tr (by assumption) ?_)) ?_
  simp only [eX1_isSoundAlone_26, eX1_isSoundAlone_29, eX1_isSoundAlone_48, eX1_isSoundAlone_49, kx_l, wt_nil, tl_s, nb_0, true_and, Nat.add_zero]
  with_reducible intro _
  split
  with_reducible refine And.intro ?_ ?_
  omega
  with_reducible refine And.intro ?_ ?_
  omega
  with_reducible exact hQf _ (by repeat' first | assumption | exact ext.rf | refine ext.tr (by assumption) ?_)
  with_reducible refine And.intro ?_ ?_
  omega
  with_reducible refine And.intro ?_ ?_
  omega
  with_reducible refine And.intro ?_ ?_
  omega
  with_reducible refine sX1_isEachEndHeld (by first | assumption | exact hgc _ _ (by assumption) | exact hgl _ _ (by assumption) | exact isR.ext (by assumption) (by repeat' first | assumption | exact ext.rf | refine ext.tr (by assumption) ?_) | exact isR.ext (hgc _ _ (by assumption)) (by repeat' first | assumption | exact ext.rf | refine ext.tr (by assumption) ?_)) ?_
  simp only [eX1_isSoundAlone_33, eX1_isSoundAlone_36, eX1_isSoundAlone_48, eX1_isSoundAlone_49, kx_l, wt_nil, tl_s, nb_0, true_and]
  with_reducible intro _
  split
  with_reducible refine And.intro ?_ ?_
  omega
  with_reducible refine And.intro ?_ ?_
  omega
  with_reducible exact hQf _ (by repeat' first | assumption | exact ext.rf | refine ext.tr (by assumption) ?_)
  with_reducible refine And.intro ?_ ?_
  with_reducible exact go_C (by first | assumption | exact CC.ext hC (by repeat' first | assumption | exact ext.rf | refine ext.tr (by assumption) ?_))
  with_reducible refine And.intro ?_ ?_
  omega
  with_reducible refine And.intro ?_ ?_
  omega
  with_reducible refine And.intro ?_ ?_
  omega
  with_reducible refine sX1_isDrawnSound (by first | assumption | exact CC.ext hC (by repeat' first | assumption | exact ext.rf | refine ext.tr (by assumption) ?_)) (by first | assumption | exact hgc _ _ (by assumption) | exact hgl _ _ (by assumption) | exact isR.ext (by assumption) (by repeat' first | assumption | exact ext.rf | refine ext.tr (by assumption) ?_) | exact isR.ext (hgc _ _ (by assumption)) (by repeat' first | assumption | exact ext.rf | refine ext.tr (by assumption) ?_)) ?_
  simp only [eX1_isSoundAlone_41, eX1_isSoundAlone_44, eX1_isSoundAlone_48, eX1_isSoundAlone_49, kx_l, tl_s, nb_0, nb_1, true_and]
  with_reducible intro _
  split
  with_reducible intro _
  with_reducible intro _
  with_reducible refine And.intro ?_ ?_
  omega
  with_reducible refine And.intro ?_ ?_
  omega
  with_reducible exact hQf _ (by repeat' first | assumption | exact ext.rf | refine ext.tr (by assumption) ?_)
  with_reducible intro _
  with_reducible intro _
  with_reducible refine And.intro ?_ ?_
  omega
  with_reducible refine And.intro ?_ ?_
  omega
  with_reducible exact hQt _ (by repeat' first | assumption | exact ext.rf | refine ext.tr (by assumption) ?_)
  with_reducible refine And.intro ?_ ?_
  omega
  with_reducible refine And.intro ?_ ?_
  omega
  with_reducible exact hQf _ (by repeat' first | assumption | exact ext.rf | refine ext.tr (by assumption) ?_)
  simp only [eX1_isSoundAlone_16R, kx_l, wt_nil, wt_int, tl_s, Nat.add_zero]
  with_reducible intro _
  with_reducible intro _
  with_reducible intro _
  with_reducible intro _
  with_reducible refine And.intro ?_ ?_
  with_reducible refine go_R (by first | assumption | exact hgc _ _ (by assumption) | exact hgl _ _ (by assumption) | exact isR.ext (by assumption) (by repeat' first | assumption | exact ext.rf | refine ext.tr (by assumption) ?_) | exact isR.ext (hgc _ _ (by assumption)) (by repeat' first | assumption | exact ext.rf | refine ext.tr (by assumption) ?_)) ?_
  with_reducible intro _
  with_reducible intro _
  with_reducible intro _
  with_reducible intro _
  simp only []
  with_reducible refine And.intro ?_ ?_
  omega
  with_reducible refine And.intro ?_ ?_
  omega
  with_reducible refine And.intro ?_ ?_
  omega
  with_reducible refine sX0_matchesR (by first | assumption | exact hgc _ _ (by assumption) | exact hgl _ _ (by assumption) | exact isR.ext (by assumption) (by repeat' first | assumption | exact ext.rf | refine ext.tr (by assumption) ?_) | exact isR.ext (hgc _ _ (by assumption)) (by repeat' first | assumption | exact ext.rf | refine ext.tr (by assumption) ?_)) (by first | assumption | exact hgc _ _ (by assumption) | exact hgl _ _ (by assumption) | exact isR.ext (by assumption) (by repeat' first | assumption | exact ext.rf | refine ext.tr (by assumption) ?_) | exact isR.ext (hgc _ _ (by assumption)) (by repeat' first | assumption | exact ext.rf | refine ext.tr (by assumption) ?_)) ?_
  simp only [eX1_isSoundAlone_19, eX1_isSoundAlone_22, eX1_isSoundAlone_48, eX1_isSoundAlone_49, kx_l, wt_nil, tl_s, nb_0, true_and, Nat.add_zero]
  with_reducible intro _
  split
  with_reducible refine And.intro ?_ ?_
  omega
  with_reducible refine And.intro ?_ ?_
  omega
  with_reducible refine And.intro ?_ ?_
  omega
  with_reducible refine sX1_isOuterSound (by first | assumption | exact hgc _ _ (by assumption) | exact hgl _ _ (by assumption) | exact isR.ext (by assumption) (by repeat' first | assumption | exact ext.rf | refine ext.tr (by assumption) ?_) | exact isR.ext (hgc _ _ (by assumption)) (by repeat' first | assumption | exact ext.rf | refine ext.tr (by assumption) ?_)) ?_
  simp only [eX1_isSoundAlone_26, eX1_isSoundAlone_29, eX1_isSoundAlone_48, eX1_isSoundAlone_49, kx_l, wt_nil, tl_s, nb_0, true_and, Nat.add_zero]
  with_reducible intro _
  split
  with_reducible refine And.intro ?_ ?_
  omega
  with_reducible refine And.intro ?_ ?_
  omega
  with_reducible exact hQf _ (by repeat' first | assumption | exact ext.rf | refine ext.tr (by assumption) ?_)
  with_reducible refine And.intro ?_ ?_
  omega
  with_reducible refine And.intro ?_ ?_
  omega
  with_reducible refine And.intro ?_ ?_
  omega
  with_reducible refine sX1_isEachEndHeld (by first | assumption | exact hgc _ _ (by assumption) | exact hgl _ _ (by assumption) | exact isR.ext (by assumption) (by repeat' first | assumption | exact ext.rf | refine ext.tr (by assumption) ?_) | exact isR.ext (hgc _ _ (by assumption)) (by repeat' first | assumption | exact ext.rf | refine ext.tr (by assumption) ?_)) ?_
  simp only [eX1_isSoundAlone_33, eX1_isSoundAlone_36, eX1_isSoundAlone_48, eX1_isSoundAlone_49, kx_l, wt_nil, tl_s, nb_0, true_and]
  with_reducible intro _
  split
  with_reducible refine And.intro ?_ ?_
  omega
  with_reducible refine And.intro ?_ ?_
  omega
  with_reducible exact hQf _ (by repeat' first | assumption | exact ext.rf | refine ext.tr (by assumption) ?_)
  with_reducible refine And.intro ?_ ?_
  with_reducible exact go_C (by first | assumption | exact CC.ext hC (by repeat' first | assumption | exact ext.rf | refine ext.tr (by assumption) ?_))
  with_reducible refine And.intro ?_ ?_
  omega
  with_reducible refine And.intro ?_ ?_
  omega
  with_reducible refine And.intro ?_ ?_
  omega
  with_reducible refine sX1_isDrawnSound (by first | assumption | exact CC.ext hC (by repeat' first | assumption | exact ext.rf | refine ext.tr (by assumption) ?_)) (by first | assumption | exact hgc _ _ (by assumption) | exact hgl _ _ (by assumption) | exact isR.ext (by assumption) (by repeat' first | assumption | exact ext.rf | refine ext.tr (by assumption) ?_) | exact isR.ext (hgc _ _ (by assumption)) (by repeat' first | assumption | exact ext.rf | refine ext.tr (by assumption) ?_)) ?_
  simp only [eX1_isSoundAlone_41, eX1_isSoundAlone_44, eX1_isSoundAlone_48, eX1_isSoundAlone_49, kx_l, tl_s, nb_0, nb_1, true_and]
  with_reducible intro _
  split
  with_reducible intro _
  with_reducible intro _
  with_reducible refine And.intro ?_ ?_
  omega
  with_reducible refine And.intro ?_ ?_
  omega
  with_reducible exact hQf _ (by repeat' first | assumption | exact ext.rf | refine ext.tr (by assumption) ?_)
  with_reducible intro _
  with_reducible intro _
  with_reducible refine And.intro ?_ ?_
  omega
  with_reducible refine And.intro ?_ ?_
  omega
  with_reducible exact hQt _ (by repeat' first | assumption | exact ext.rf | refine ext.tr (by assumption) ?_)
  with_reducible refine And.intro ?_ ?_
  omega
  with_reducible refine And.intro ?_ ?_
  omega
  with_reducible exact hQf _ (by repeat' first | assumption | exact ext.rf | refine ext.tr (by assumption) ?_)
end
end
/-! 67.24.sound1.lean.txt -/
section
section
variable {g : RO} {Q : Ot → Hw → Prop} {w0 w : Hw} {x nA cA lA : Nat} {kn : Int32}
set_option maxHeartbeats 4000000 in
theorem sX1_isSameAs {a0 : Int32} {a1 : Int32} (hC : CC g w0 x nA cA lA kn w) (hXo : Q (.inr "java/lang/IndexOutOfBoundsException") w) (hXa : Q (.inr "java/lang/IllegalArgumentException") w) (hXs : Q (.inr "java/lang/IllegalStateException") w) (hQ : ∀ (v : Bool) (w' : Hw), ext g w w' → Q (.inl (some (.int (bI v)))) w') : WP (MX1_isSameAs g) Q (0, [some (.ref x), some (.int a0), some (.int a1), none], [], w, 0, 0) := by
  obtain ⟨n, rf, md, f, gc, gl, hx, hn, hc, hl, hgc, hgl, hn0, hn1, rx, rn, rc, rl, ⟨d1, d2, d3, d4, d5, d6⟩, ⟨d7, d8, d9, d10, d11, d12⟩⟩ := hC.1.opn g
  have hQt : ∀ w', ext g w w' → Q (.inl (some (.int 1))) w' := hQ true
  have hQf : ∀ w', ext g w w' → Q (.inl (some (.int 0))) w' := hQ false
  rcases sw24 a1 with rfl | rfl | rfl | hsw
  · simp only [eX1_isSameAs_0, eX1_isSameAs_4, eX1_isSameAs_9, wt_nil, Nat.zero_add]
    with_reducible refine And.intro ?_ ?_
    omega
    with_reducible refine And.intro ?_ ?_
    omega
    with_reducible refine And.intro ?_ ?_
    omega
    with_reducible refine sX1_needCard ?_ ?_
    simp only [kx_r]
    with_reducible assumption
    simp only [kx_l, wt_nil, tl_n]
    with_reducible intro _
    with_reducible intro _
    with_reducible refine And.intro ?_ ?_
    omega
    with_reducible refine And.intro ?_ ?_
    omega
    with_reducible refine And.intro ?_ ?_
    omega
    with_reducible refine sX1_needChoice ?_ ?_
    simp only [kx_r]
    with_reducible assumption
    simp only [rx, kx_l, go_s, wt_nil, tl_n, true_and]
    with_reducible intro _
    with_reducible intro _
    with_reducible refine And.intro ?_ ?_
    omega
    with_reducible refine And.intro ?_ ?_
    omega
    with_reducible refine And.intro ?_ ?_
    omega
    with_reducible refine sX1_rangeOf2 (by first | assumption | exact CC.ext (by assumption) (by assumption)) ?_ ?_ ?_
    simp only [kx_r]
    with_reducible assumption
    simp only [kx_r]
    with_reducible assumption
    simp only [eX1_isSameAs_14, eX1_isSameAs_15, eX1_isSameAs_16_0, eX1_isSameAs_44, kx_l, wt_nil, wt_ref, nl_int, tl_s, Nat.add_zero]
    with_reducible intro _
    with_reducible intro _
    with_reducible intro _
    with_reducible intro _
    with_reducible refine And.intro ?_ ?_
    omega
    with_reducible refine And.intro ?_ ?_
    omega
    with_reducible refine And.intro ?_ ?_
    omega
    with_reducible refine sX1_copyOf (by first | assumption | exact hgc _ _ (by assumption) | exact hgl _ _ (by assumption) | exact isR.ext (by assumption) (by repeat' first | assumption | exact ext.rf | refine ext.tr (by assumption) ?_) | exact isR.ext (hgc _ _ (by assumption)) (by repeat' first | assumption | exact ext.rf | refine ext.tr (by assumption) ?_)) ?_ ?_
    simp only [eX1_isSameAs_49N, kx_l, wt_nil, tl_s, Nat.add_zero]
    with_reducible refine And.intro ?_ ?_
    with_reducible refine go_R (by first | assumption | exact hgc _ _ (by assumption) | exact hgl _ _ (by assumption) | exact isR.ext (by assumption) (by repeat' first | assumption | exact ext.rf | refine ext.tr (by assumption) ?_) | exact isR.ext (hgc _ _ (by assumption)) (by repeat' first | assumption | exact ext.rf | refine ext.tr (by assumption) ?_)) ?_
    with_reducible intro _
    with_reducible intro _
    with_reducible intro _
    with_reducible intro _
    simp only []
    with_reducible refine And.intro ?_ ?_
    omega
    with_reducible refine And.intro ?_ ?_
    omega
    with_reducible refine And.intro ?_ ?_
    omega
    with_reducible refine sX0_matchesN (by first | assumption | exact hgc _ _ (by assumption) | exact hgl _ _ (by assumption) | exact isR.ext (by assumption) (by repeat' first | assumption | exact ext.rf | refine ext.tr (by assumption) ?_) | exact isR.ext (hgc _ _ (by assumption)) (by repeat' first | assumption | exact ext.rf | refine ext.tr (by assumption) ?_)) ?_
    simp only [eX1_isSameAs_52, kx_l, tl_s, nb_b, true_and]
    with_reducible intro _
    with_reducible refine And.intro ?_ ?_
    omega
    with_reducible refine And.intro ?_ ?_
    omega
    with_reducible exact hQ _ _ (by repeat' first | assumption | exact ext.rf | refine ext.tr (by assumption) ?_)
    simp only [eX1_isSameAs_49R, kx_l, wt_nil, tl_s, Nat.add_zero]
    with_reducible intro _
    with_reducible intro _
    with_reducible intro _
    with_reducible intro _
    with_reducible refine And.intro ?_ ?_
    with_reducible refine go_R (by first | assumption | exact hgc _ _ (by assumption) | exact hgl _ _ (by assumption) | exact isR.ext (by assumption) (by repeat' first | assumption | exact ext.rf | refine ext.tr (by assumption) ?_) | exact isR.ext (hgc _ _ (by assumption)) (by repeat' first | assumption | exact ext.rf | refine ext.tr (by assumption) ?_)) ?_
    with_reducible intro _
    with_reducible intro _
    with_reducible intro _
    with_reducible intro _
    simp only []
    with_reducible refine And.intro ?_ ?_
    omega
    with_reducible refine And.intro ?_ ?_
    omega
    with_reducible refine And.intro ?_ ?_
    omega
    with_reducible refine sX0_matchesR (by first | assumption | exact hgc _ _ (by assumption) | exact hgl _ _ (by assumption) | exact isR.ext (by assumption) (by repeat' first | assumption | exact ext.rf | refine ext.tr (by assumption) ?_) | exact isR.ext (hgc _ _ (by assumption)) (by repeat' first | assumption | exact ext.rf | refine ext.tr (by assumption) ?_)) (by first | assumption | exact hgc _ _ (by assumption) | exact hgl _ _ (by assumption) | exact isR.ext (by assumption) (by repeat' first | assumption | exact ext.rf | refine ext.tr (by assumption) ?_) | exact isR.ext (hgc _ _ (by assumption)) (by repeat' first | assumption | exact ext.rf | refine ext.tr (by assumption) ?_)) ?_
    simp only [eX1_isSameAs_52, kx_l, tl_s, nb_b, true_and]
    with_reducible intro _
    with_reducible refine And.intro ?_ ?_
    omega
    with_reducible refine And.intro ?_ ?_
    omega
    with_reducible exact hQ _ _ (by repeat' first | assumption | exact ext.rf | refine ext.tr (by assumption) ?_)
  · simp only [eX1_isSameAs_0, eX1_isSameAs_4, eX1_isSameAs_9, wt_nil, Nat.zero_add]
    with_reducible refine And.intro ?_ ?_
    omega
    with_reducible refine And.intro ?_ ?_
    omega
    with_reducible refine And.intro ?_ ?_
    omega
    with_reducible refine sX1_needCard ?_ ?_
    simp only [kx_r]
    with_reducible assumption
    simp only [kx_l, wt_nil, tl_n]
    with_reducible intro _
    with_reducible intro _
    with_reducible refine And.intro ?_ ?_
    omega
    with_reducible refine And.intro ?_ ?_
    omega
    with_reducible refine And.intro ?_ ?_
    omega
    with_reducible refine sX1_needChoice ?_ ?_
    simp only [kx_r]
    with_reducible assumption
    simp only [rx, kx_l, go_s, wt_nil, tl_n, true_and]
    with_reducible intro _
    with_reducible intro _
    with_reducible refine And.intro ?_ ?_
    omega
    with_reducible refine And.intro ?_ ?_
    omega
    with_reducible refine And.intro ?_ ?_
    omega
    with_reducible refine sX1_rangeOf2 (by first | assumption | exact CC.ext (by assumption) (by assumption)) ?_ ?_ ?_
    simp only [kx_r]
    with_reducible assumption
    simp only [kx_r]
    with_reducible assumption
    simp only [eX1_isSameAs_14, eX1_isSameAs_15, eX1_isSameAs_16_1, eX1_isSameAs_53, kx_l, wt_nil, nl_int, tl_s, Nat.add_zero]
    with_reducible intro _
    with_reducible intro _
    with_reducible intro _
    with_reducible intro _
    with_reducible refine And.intro ?_ ?_
    with_reducible refine go_R (by first | assumption | exact hgc _ _ (by assumption) | exact hgl _ _ (by assumption) | exact isR.ext (by assumption) (by repeat' first | assumption | exact ext.rf | refine ext.tr (by assumption) ?_) | exact isR.ext (hgc _ _ (by assumption)) (by repeat' first | assumption | exact ext.rf | refine ext.tr (by assumption) ?_)) ?_
    with_reducible intro _
    with_reducible intro _
    with_reducible intro _
    with_reducible intro _
    simp only []
    with_reducible refine And.intro ?_ ?_
    omega
    with_reducible refine And.intro ?_ ?_
    omega
    with_reducible refine And.intro ?_ ?_
    omega
    with_reducible refine sX0_matchesR (by first | assumption | exact hgc _ _ (by assumption) | exact hgl _ _ (by assumption) | exact isR.ext (by assumption) (by repeat' first | assumption | exact ext.rf | refine ext.tr (by assumption) ?_) | exact isR.ext (hgc _ _ (by assumption)) (by repeat' first | assumption | exact ext.rf | refine ext.tr (by assumption) ?_)) (by first | assumption | exact hgc _ _ (by assumption) | exact hgl _ _ (by assumption) | exact isR.ext (by assumption) (by repeat' first | assumption | exact ext.rf | refine ext.tr (by assumption) ?_) | exact isR.ext (hgc _ _ (by assumption)) (by repeat' first | assumption | exact ext.rf | refine ext.tr (by assumption) ?_)) ?_
    simp only [eX1_isSameAs_58, kx_l, tl_s, nb_b, true_and]
    with_reducible intro _
    with_reducible refine And.intro ?_ ?_
    omega
    with_reducible refine And.intro ?_ ?_
    omega
    with_reducible exact hQ _ _ (by repeat' first | assumption | exact ext.rf | refine ext.tr (by assumption) ?_)
  · simp only [eX1_isSameAs_0, eX1_isSameAs_4, eX1_isSameAs_9, wt_nil, Nat.zero_add]
    with_reducible refine And.intro ?_ ?_
    omega
    with_reducible refine And.intro ?_ ?_
    omega
    with_reducible refine And.intro ?_ ?_
    omega
    with_reducible refine sX1_needCard ?_ ?_
    simp only [kx_r]
    with_reducible assumption
    simp only [kx_l, wt_nil, tl_n]
    with_reducible intro _
    with_reducible intro _
    with_reducible refine And.intro ?_ ?_
    omega
    with_reducible refine And.intro ?_ ?_
    omega
    with_reducible refine And.intro ?_ ?_
    omega
    with_reducible refine sX1_needChoice ?_ ?_
    simp only [kx_r]
    with_reducible assumption
    simp only [rx, kx_l, go_s, wt_nil, tl_n, true_and]
    with_reducible intro _
    with_reducible intro _
    with_reducible refine And.intro ?_ ?_
    omega
    with_reducible refine And.intro ?_ ?_
    omega
    with_reducible refine And.intro ?_ ?_
    omega
    with_reducible refine sX1_rangeOf2 (by first | assumption | exact CC.ext (by assumption) (by assumption)) ?_ ?_ ?_
    simp only [kx_r]
    with_reducible assumption
    simp only [kx_r]
    with_reducible assumption
    simp only [eX1_isSameAs_14, eX1_isSameAs_15, eX1_isSameAs_16_2, eX1_isSameAs_59, kx_l, wt_nil, wt_ref, nl_int, tl_s, Nat.add_zero]
    with_reducible intro _
    with_reducible intro _
    with_reducible intro _
    with_reducible intro _
    with_reducible refine And.intro ?_ ?_
    omega
    with_reducible refine And.intro ?_ ?_
    omega
    with_reducible refine And.intro ?_ ?_
    omega
    with_reducible refine sX1_outerOf (by first | assumption | exact hgc _ _ (by assumption) | exact hgl _ _ (by assumption) | exact isR.ext (by assumption) (by repeat' first | assumption | exact ext.rf | refine ext.tr (by assumption) ?_) | exact isR.ext (hgc _ _ (by assumption)) (by repeat' first | assumption | exact ext.rf | refine ext.tr (by assumption) ?_)) ?_ ?_
    simp only [eX1_isSameAs_64N, kx_l, wt_nil, tl_s, Nat.add_zero]
    with_reducible refine And.intro ?_ ?_
    with_reducible refine go_R (by first | assumption | exact hgc _ _ (by assumption) | exact hgl _ _ (by assumption) | exact isR.ext (by assumption) (by repeat' first | assumption | exact ext.rf | refine ext.tr (by assumption) ?_) | exact isR.ext (hgc _ _ (by assumption)) (by repeat' first | assumption | exact ext.rf | refine ext.tr (by assumption) ?_)) ?_
    with_reducible intro _
    with_reducible intro _
    with_reducible intro _
    with_reducible intro _
    simp only []
    with_reducible refine And.intro ?_ ?_
    omega
    with_reducible refine And.intro ?_ ?_
    omega
    with_reducible refine And.intro ?_ ?_
    omega
    with_reducible refine sX0_matchesN (by first | assumption | exact hgc _ _ (by assumption) | exact hgl _ _ (by assumption) | exact isR.ext (by assumption) (by repeat' first | assumption | exact ext.rf | refine ext.tr (by assumption) ?_) | exact isR.ext (hgc _ _ (by assumption)) (by repeat' first | assumption | exact ext.rf | refine ext.tr (by assumption) ?_)) ?_
    simp only [eX1_isSameAs_67, kx_l, tl_s, nb_b, true_and]
    with_reducible intro _
    with_reducible refine And.intro ?_ ?_
    omega
    with_reducible refine And.intro ?_ ?_
    omega
    with_reducible exact hQ _ _ (by repeat' first | assumption | exact ext.rf | refine ext.tr (by assumption) ?_)
    simp only [eX1_isSameAs_64R, kx_l, wt_nil, tl_s, Nat.add_zero]
    with_reducible intro _
    with_reducible intro _
    with_reducible intro _
    with_reducible intro _
    with_reducible refine And.intro ?_ ?_
    with_reducible refine go_R (by first | assumption | exact hgc _ _ (by assumption) | exact hgl _ _ (by assumption) | exact isR.ext (by assumption) (by repeat' first | assumption | exact ext.rf | refine ext.tr (by assumption) ?_) | exact isR.ext (hgc _ _ (by assumption)) (by repeat' first | assumption | exact ext.rf | refine ext.tr (by assumption) ?_)) ?_
    with_reducible intro _
    with_reducible intro _
    with_reducible intro _
    with_reducible intro _
    simp only []
    with_reducible refine And.intro ?_ ?_
    omega
    with_reducible refine And.intro ?_ ?_
    omega
    with_reducible refine And.intro ?_ ?_
    omega
    with_reducible refine sX0_matchesR (by first | assumption | exact hgc _ _ (by assumption) | exact hgl _ _ (by assumption) | exact isR.ext (by assumption) (by repeat' first | assumption | exact ext.rf | refine ext.tr (by assumption) ?_) | exact isR.ext (hgc _ _ (by assumption)) (by repeat' first | assumption | exact ext.rf | refine ext.tr (by assumption) ?_)) (by first | assumption | exact hgc _ _ (by assumption) | exact hgl _ _ (by assumption) | exact isR.ext (by assumption) (by repeat' first | assumption | exact ext.rf | refine ext.tr (by assumption) ?_) | exact isR.ext (hgc _ _ (by assumption)) (by repeat' first | assumption | exact ext.rf | refine ext.tr (by assumption) ?_)) ?_
    simp only [eX1_isSameAs_67, kx_l, tl_s, nb_b, true_and]
    with_reducible intro _
    with_reducible refine And.intro ?_ ?_
    omega
    with_reducible refine And.intro ?_ ?_
    omega
    with_reducible exact hQ _ _ (by repeat' first | assumption | exact ext.rf | refine ext.tr (by assumption) ?_)
  · simp only [eX1_isSameAs_0, eX1_isSameAs_4, eX1_isSameAs_9, wt_nil, Nat.zero_add]
    with_reducible refine And.intro ?_ ?_
    omega
    with_reducible refine And.intro ?_ ?_
    omega
    with_reducible refine And.intro ?_ ?_
    omega
    with_reducible refine sX1_needCard ?_ ?_
    simp only [kx_r]
    with_reducible assumption
    simp only [kx_l, wt_nil, tl_n]
    with_reducible intro _
    with_reducible intro _
    with_reducible refine And.intro ?_ ?_
    omega
    with_reducible refine And.intro ?_ ?_
    omega
    with_reducible refine And.intro ?_ ?_
    omega
    with_reducible refine sX1_needChoice ?_ ?_
    simp only [kx_r]
    with_reducible assumption
    simp only [rx, kx_l, go_s, wt_nil, tl_n, true_and]
    with_reducible intro _
    with_reducible intro _
    with_reducible refine And.intro ?_ ?_
    omega
    with_reducible refine And.intro ?_ ?_
    omega
    with_reducible refine And.intro ?_ ?_
    omega
    with_reducible refine sX1_rangeOf2 (by first | assumption | exact CC.ext (by assumption) (by assumption)) ?_ ?_ ?_
    simp only [kx_r]
    with_reducible assumption
    simp only [kx_r]
    with_reducible assumption
    simp only [eX1_isSameAs_14, eX1_isSameAs_15, eX1_isSameAs_68, eX1_isSameAs_16_d hsw, kx_l, nl_int, tl_s, nb_0, true_and]
    with_reducible intro _
    with_reducible intro _
    with_reducible intro _
    with_reducible intro _
    with_reducible refine And.intro ?_ ?_
    omega
    with_reducible refine And.intro ?_ ?_
    omega
    with_reducible exact hQf _ (by repeat' first | assumption | exact ext.rf | refine ext.tr (by assumption) ?_)
set_option maxHeartbeats 4000000 in
theorem lX1_isSound_2 (hQ : ∀ (v : Bool) (w' : Hw), ext g w w' → Q (.inl (some (.int (bI v)))) w') : ∀ (d : Nat) (i1 : Int32) (i2 : Option Value) (w1 : Hw) (k m : Nat), CC g w0 x nA cA lA kn w1 → ext g w w1 → ¬ i1 < 0 → (6 : Int32).toInt - i1.toInt ≤ (d : Int) → k + 4 * d ≤ 24 → m + 16 * d ≤ 96 → WP (MX1_isSound g) Q (2, [some (.ref x), some (.int i1), i2], [], w1, k, m) := by
  have hQt : ∀ w', ext g w w' → Q (.inl (some (.int 1))) w' := hQ true
  have hQf : ∀ w', ext g w w' → Q (.inl (some (.int 0))) w' := hQ false
  intro d
  induction d with
  | zero =>
    intro i1 i2 w1 k m hC he z0 hm hk hs
    obtain ⟨n, rf, md, f, gc, gl, hx, hn, hc, hl, hgc, hgl, hn0, hn1, rx, rn, rc, rl, ⟨d1, d2, d3, d4, d5, d6⟩, ⟨d7, d8, d9, d10, d11, d12⟩⟩ := hC.1.opn g
    rw [eX1_isSound_2]
    simp only [eX1_isSound_3, eX1_isSound_8, eX1_isSound_12, eX1_isSound_14, eX1_isSound_14N, eX1_isSound_15, eX1_isSound_15N, eX1_isSound_16R, eX1_isSound_16N, eX1_isSound_19, eX1_isSound_37, eX1_isSound_43, rx, rc, ite_le, n45, or_false, go_s, gq_s, wt_nil, nl_int, nl_ref, rf_st, g0, gS, ex1, true_and, Nat.add_zero]
    split
    with_reducible refine And.intro ?_ ?_
    with_reducible exact vpi6 (by assumption) (by assumption)
    with_reducible refine And.intro ?_ ?_
    with_reducible exact (ic_z (by assumption) (by assumption)).elim
    with_reducible exact (ic_z (by assumption) (by assumption)).elim
    with_reducible refine And.intro ?_ ?_
    omega
    with_reducible refine And.intro ?_ ?_
    omega
    with_reducible refine And.intro ?_ ?_
    omega
    with_reducible refine sX1_isEachFoundInPile (by first | assumption | exact CC.ext hC (by repeat' first | assumption | exact ext.rf | refine ext.tr (by assumption) ?_)) ?_
    simp only [eX1_isSound_47, kx_l, tl_s, nb_b, true_and]
    with_reducible intro _
    with_reducible refine And.intro ?_ ?_
    omega
    with_reducible refine And.intro ?_ ?_
    omega
    with_reducible exact hQ _ _ (by repeat' first | assumption | exact ext.rf | refine ext.tr (by assumption) ?_)
  | succ d ih =>
    intro i1 i2 w1 k m hC he z0 hm hk hs
    obtain ⟨n, rf, md, f, gc, gl, hx, hn, hc, hl, hgc, hgl, hn0, hn1, rx, rn, rc, rl, ⟨d1, d2, d3, d4, d5, d6⟩, ⟨d7, d8, d9, d10, d11, d12⟩⟩ := hC.1.opn g
    rw [eX1_isSound_2]
    simp only [eX1_isSound_3, eX1_isSound_8, eX1_isSound_12, eX1_isSound_14, eX1_isSound_14N, eX1_isSound_15, eX1_isSound_15N, eX1_isSound_16R, eX1_isSound_16N, eX1_isSound_19, eX1_isSound_37, eX1_isSound_43, rx, rc, ite_le, n45, or_false, go_s, gq_s, wt_nil, nl_int, nl_ref, rf_st, g0, gS, ex1, true_and, Nat.add_zero]
    split
    with_reducible refine And.intro ?_ ?_
    with_reducible exact vpi6 (by assumption) (by assumption)
    with_reducible refine And.intro ?_ ?_
    with_reducible intro _
    with_reducible exact ih _ _ _ _ _ (by first | assumption | exact CC.ext hC (by repeat' first | assumption | exact ext.rf | refine ext.tr (by assumption) ?_)) (by repeat' first | assumption | exact ext.rf | refine ext.tr (by assumption) ?_) (ic_p (by assumption) (by assumption)) (ic_s (by assumption) (by assumption)) (by omega) (by omega)
    with_reducible intro _
    with_reducible intro _
    with_reducible refine And.intro ?_ ?_
    omega
    with_reducible refine And.intro ?_ ?_
    omega
    with_reducible refine And.intro ?_ ?_
    omega
    with_reducible refine sX1_isSoundAlone (by first | assumption | exact CC.ext hC (by repeat' first | assumption | exact ext.rf | refine ext.tr (by assumption) ?_)) (by first | assumption | exact hgc _ _ (by assumption) | exact hgl _ _ (by assumption) | exact isR.ext (by assumption) (by repeat' first | assumption | exact ext.rf | refine ext.tr (by assumption) ?_) | exact isR.ext (hgc _ _ (by assumption)) (by repeat' first | assumption | exact ext.rf | refine ext.tr (by assumption) ?_)) ?_
    simp only [eX1_isSound_24, eX1_isSound_27, eX1_isSound_35, kx_l, wt_nil, tl_s, nb_0, true_and, Nat.add_zero]
    with_reducible intro _
    split
    with_reducible intro _
    with_reducible intro _
    with_reducible refine And.intro ?_ ?_
    omega
    with_reducible refine And.intro ?_ ?_
    omega
    with_reducible exact hQf _ (by repeat' first | assumption | exact ext.rf | refine ext.tr (by assumption) ?_)
    with_reducible intro _
    with_reducible intro _
    with_reducible refine And.intro ?_ ?_
    with_reducible exact go_C (by first | assumption | exact CC.ext hC (by repeat' first | assumption | exact ext.rf | refine ext.tr (by assumption) ?_))
    with_reducible refine And.intro ?_ ?_
    omega
    with_reducible refine And.intro ?_ ?_
    omega
    with_reducible refine And.intro ?_ ?_
    omega
    with_reducible refine sX1_isSameToAndFro (by first | assumption | exact CC.ext hC (by repeat' first | assumption | exact ext.rf | refine ext.tr (by assumption) ?_)) (by first | assumption | exact hgc _ _ (by assumption) | exact hgl _ _ (by assumption) | exact isR.ext (by assumption) (by repeat' first | assumption | exact ext.rf | refine ext.tr (by assumption) ?_) | exact isR.ext (hgc _ _ (by assumption)) (by repeat' first | assumption | exact ext.rf | refine ext.tr (by assumption) ?_)) ?_
    simp only [eX1_isSound_32, eX1_isSound_35, eX1_isSound_37, kx_l, nl_ref, tl_s, nb_0, true_and]
    with_reducible intro _
    split
    with_reducible refine And.intro ?_ ?_
    omega
    with_reducible refine And.intro ?_ ?_
    omega
    with_reducible exact hQf _ (by repeat' first | assumption | exact ext.rf | refine ext.tr (by assumption) ?_)
    with_reducible exact ih _ _ _ _ _ (by first | assumption | exact CC.ext hC (by repeat' first | assumption | exact ext.rf | refine ext.tr (by assumption) ?_)) (by repeat' first | assumption | exact ext.rf | refine ext.tr (by assumption) ?_) (ic_p (by assumption) (by assumption)) (ic_s (by assumption) (by assumption)) (by omega) (by omega)
    with_reducible refine And.intro ?_ ?_
    omega
    with_reducible refine And.intro ?_ ?_
    omega
    with_reducible refine And.intro ?_ ?_
    omega
    with_reducible refine sX1_isEachFoundInPile (by first | assumption | exact CC.ext hC (by repeat' first | assumption | exact ext.rf | refine ext.tr (by assumption) ?_)) ?_
    simp only [eX1_isSound_47, kx_l, tl_s, nb_b, true_and]
    with_reducible intro _
    with_reducible refine And.intro ?_ ?_
    omega
    with_reducible refine And.intro ?_ ?_
    omega
    with_reducible exact hQ _ _ (by repeat' first | assumption | exact ext.rf | refine ext.tr (by assumption) ?_)
set_option maxHeartbeats 4000000 in
theorem sX1_isSound  (hC : CC g w0 x nA cA lA kn w) (hQ : ∀ (v : Bool) (w' : Hw), ext g w w' → Q (.inl (some (.int (bI v)))) w') : WP (MX1_isSound g) Q (0, [some (.ref x), none, none], [], w, 0, 0) := by
  obtain ⟨n, rf, md, f, gc, gl, hx, hn, hc, hl, hgc, hgl, hn0, hn1, rx, rn, rc, rl, ⟨d1, d2, d3, d4, d5, d6⟩, ⟨d7, d8, d9, d10, d11, d12⟩⟩ := hC.1.opn g
  have hQt : ∀ w', ext g w w' → Q (.inl (some (.int 1))) w' := hQ true
  have hQf : ∀ w', ext g w w' → Q (.inl (some (.int 0))) w' := hQ false
  simp only [eX1_isSound_0, nl_ref]
  with_reducible exact lX1_isSound_2 hQ 6 _ _ _ _ _ hC ext.rf (by decide) (by decide) (by decide) (by decide)
end
end
/-! 67.24.sound2.lean.txt -/
section
section
variable {g : RO} {Q : Ot → Hw → Prop} {w0 w : Hw} {x nA cA lA : Nat} {kn : Int32}
set_option maxHeartbeats 4000000 in
theorem lX1_digest_36  (hC : CC g w0 x nA cA lA kn w) (hQ : ∀ (v : Int64) (w' : Hw), ext g w w' → Q (.inl (some (.long v))) w') : ∀ (n rf md : Int32) (f : Nat → Int64) (gc gl : Nat → Option Nat), RO5 g w x nA cA lA n rf kn md f gc gl → ∀ (d : Nat) (i1 : Int64) (i3 : Int32) (k m : Nat), ¬ i3 < 0 → (6 : Int32).toInt - i3.toInt ≤ (d : Int) → k ≤ 0 → m ≤ 0 → WP (MX1_digest g) Q (36, [some (.ref x), some (.long i1), none, some (.int i3)], [], w, k, m) := by
  rintro n rf md f gc gl ⟨hx, hn, hc, hl, hgc, hgl, hn0, hn1, rx, rn, rc, rl, ⟨d1, d2, d3, d4, d5, d6⟩, ⟨d7, d8, d9, d10, d11, d12⟩⟩ d
  induction d with
  | zero =>
    intro i1 i3 k m z0 hm hk hs
    rw [eX1_digest_36]
    simp only [eX1_digest_37, eX1_digest_42, eX1_digest_48, eX1_digest_50R, eX1_digest_50N, eX1_digest_60, rx, rc, ite_le, n45, or_false, go_s, gq_s, wt_nil, rf_st, g0, gS, ex1, true_and, Nat.add_zero]
    split
    with_reducible refine And.intro ?_ ?_
    with_reducible exact vpi6 (by assumption) (by assumption)
    with_reducible refine And.intro ?_ ?_
    with_reducible exact (ic_z (by assumption) (by assumption)).elim
    with_reducible exact (ic_z (by assumption) (by assumption)).elim
    with_reducible refine And.intro ?_ ?_
    omega
    with_reducible refine And.intro ?_ ?_
    omega
    with_reducible refine And.intro ?_ ?_
    omega
    with_reducible refine sX1_withWhichAndPile (by first | assumption | exact CC.ext hC (by repeat' first | assumption | exact ext.rf | refine ext.tr (by assumption) ?_)) ?_
    simp only [eX1_digest_65, eX1_digest_67, rx, kx_l, go_s, wt_nil, wt_long, nl_ref, tl_s, true_and, Nat.add_zero]
    with_reducible intro _
    with_reducible refine And.intro ?_ ?_
    omega
    with_reducible refine And.intro ?_ ?_
    omega
    with_reducible refine And.intro ?_ ?_
    omega
    with_reducible refine sX1_isSound (by first | assumption | exact CC.ext hC (by repeat' first | assumption | exact ext.rf | refine ext.tr (by assumption) ?_)) ?_
    simp only [eX1_digest_71, kx_l, wt_nil, wt_long, tl_s, Nat.add_zero]
    with_reducible intro _
    with_reducible intro _
    with_reducible intro _
    with_reducible refine And.intro ?_ ?_
    omega
    with_reducible refine And.intro ?_ ?_
    omega
    with_reducible refine And.intro ?_ ?_
    omega
    with_reducible refine sX1_asNumber ?_
    simp only [eX1_digest_74, kx_l, wt_nil, tl_s, Nat.add_zero]
    with_reducible intro _
    with_reducible refine And.intro ?_ ?_
    omega
    with_reducible refine And.intro ?_ ?_
    omega
    with_reducible refine And.intro ?_ ?_
    omega
    with_reducible refine sX1_with ?_
    simp only [eX1_digest_78, kx_l, tl_s]
    with_reducible intro _
    with_reducible refine And.intro ?_ ?_
    omega
    with_reducible refine And.intro ?_ ?_
    omega
    with_reducible exact hQ _ _ (by repeat' first | assumption | exact ext.rf | refine ext.tr (by assumption) ?_)
  | succ d ih =>
    intro i1 i3 k m z0 hm hk hs
    rw [eX1_digest_36]
    simp only [eX1_digest_37, eX1_digest_42, eX1_digest_48, eX1_digest_50R, eX1_digest_50N, eX1_digest_60, rx, rc, ite_le, n45, or_false, go_s, gq_s, wt_nil, rf_st, g0, gS, ex1, true_and, Nat.add_zero]
    split
    with_reducible refine And.intro ?_ ?_
    with_reducible exact vpi6 (by assumption) (by assumption)
    with_reducible refine And.intro ?_ ?_
    with_reducible intro _
    with_reducible refine And.intro ?_ ?_
    omega
    with_reducible refine And.intro ?_ ?_
    omega
    with_reducible refine And.intro ?_ ?_
    omega
    with_reducible refine sX1_withCardN (by first | assumption | exact CC.ext hC (by repeat' first | assumption | exact ext.rf | refine ext.tr (by assumption) ?_)) ?_
    simp only [eX1_digest_53, kx_l, nl_ref, nl_none, tl_s]
    with_reducible intro _
    with_reducible exact ih _ _ _ _ (ic_p (by assumption) (by assumption)) (ic_s (by assumption) (by assumption)) (by first | assumption | omega) (by first | assumption | omega)
    with_reducible intro _
    with_reducible intro _
    with_reducible refine And.intro ?_ ?_
    omega
    with_reducible refine And.intro ?_ ?_
    omega
    with_reducible refine And.intro ?_ ?_
    omega
    with_reducible refine sX1_withCardR (by first | assumption | exact CC.ext hC (by repeat' first | assumption | exact ext.rf | refine ext.tr (by assumption) ?_)) (by first | assumption | exact hgc _ _ (by assumption) | exact hgl _ _ (by assumption) | exact isR.ext (by assumption) (by repeat' first | assumption | exact ext.rf | refine ext.tr (by assumption) ?_) | exact isR.ext (hgc _ _ (by assumption)) (by repeat' first | assumption | exact ext.rf | refine ext.tr (by assumption) ?_)) ?_
    simp only [eX1_digest_53, kx_l, nl_ref, nl_none, tl_s]
    with_reducible intro _
    with_reducible exact ih _ _ _ _ (ic_p (by assumption) (by assumption)) (ic_s (by assumption) (by assumption)) (by first | assumption | omega) (by first | assumption | omega)
    with_reducible refine And.intro ?_ ?_
    omega
    with_reducible refine And.intro ?_ ?_
    omega
    with_reducible refine And.intro ?_ ?_
    omega
    with_reducible refine sX1_withWhichAndPile (by first | assumption | exact CC.ext hC (by repeat' first | assumption | exact ext.rf | refine ext.tr (by assumption) ?_)) ?_
    simp only [eX1_digest_65, eX1_digest_67, rx, kx_l, go_s, wt_nil, wt_long, nl_ref, tl_s, true_and, Nat.add_zero]
    with_reducible intro _
    with_reducible refine And.intro ?_ ?_
    omega
    with_reducible refine And.intro ?_ ?_
    omega
    with_reducible refine And.intro ?_ ?_
    omega
    with_reducible refine sX1_isSound (by first | assumption | exact CC.ext hC (by repeat' first | assumption | exact ext.rf | refine ext.tr (by assumption) ?_)) ?_
    simp only [eX1_digest_71, kx_l, wt_nil, wt_long, tl_s, Nat.add_zero]
    with_reducible intro _
    with_reducible intro _
    with_reducible intro _
    with_reducible refine And.intro ?_ ?_
    omega
    with_reducible refine And.intro ?_ ?_
    omega
    with_reducible refine And.intro ?_ ?_
    omega
    with_reducible refine sX1_asNumber ?_
    simp only [eX1_digest_74, kx_l, wt_nil, tl_s, Nat.add_zero]
    with_reducible intro _
    with_reducible refine And.intro ?_ ?_
    omega
    with_reducible refine And.intro ?_ ?_
    omega
    with_reducible refine And.intro ?_ ?_
    omega
    with_reducible refine sX1_with ?_
    simp only [eX1_digest_78, kx_l, tl_s]
    with_reducible intro _
    with_reducible refine And.intro ?_ ?_
    omega
    with_reducible refine And.intro ?_ ?_
    omega
    with_reducible exact hQ _ _ (by repeat' first | assumption | exact ext.rf | refine ext.tr (by assumption) ?_)
set_option maxHeartbeats 4000000 in
theorem lX1_digest_10  (hC : CC g w0 x nA cA lA kn w) (hQ : ∀ (v : Int64) (w' : Hw), ext g w w' → Q (.inl (some (.long v))) w') : ∀ (n rf md : Int32) (f : Nat → Int64) (gc gl : Nat → Option Nat), RO5 g w x nA cA lA n rf kn md f gc gl → ∀ (d : Nat) (i1 : Int64) (i3 : Int32) (k m : Nat), ¬ i3 < 0 → (8 : Int32).toInt - i3.toInt ≤ (d : Int) → k ≤ 0 → m ≤ 0 → WP (MX1_digest g) Q (10, [some (.ref x), some (.long i1), none, some (.int i3)], [], w, k, m) := by
  rintro n rf md f gc gl ⟨hx, hn, hc, hl, hgc, hgl, hn0, hn1, rx, rn, rc, rl, ⟨d1, d2, d3, d4, d5, d6⟩, ⟨d7, d8, d9, d10, d11, d12⟩⟩ d
  induction d with
  | zero =>
    intro i1 i3 k m z0 hm hk hs
    rw [eX1_digest_10]
    simp only [eX1_digest_11, eX1_digest_16, eX1_digest_22, eX1_digest_24, eX1_digest_34, rx, rn, ite_le, go_s, gl_s, wt_nil, nl_none, g0, ex1, true_and, Nat.add_zero]
    split
    with_reducible refine And.intro ?_ ?_
    with_reducible exact vpi8 (by assumption) (by assumption)
    with_reducible refine And.intro ?_ ?_
    with_reducible exact (ic_z (by assumption) (by assumption)).elim
    with_reducible refine And.intro ?_ ?_
    with_reducible exact (ic_z (by assumption) (by assumption)).elim
    with_reducible refine And.intro ?_ ?_
    with_reducible exact (ic_z (by assumption) (by assumption)).elim
    with_reducible exact (ic_z (by assumption) (by assumption)).elim
    with_reducible exact lX1_digest_36 hC hQ _ _ _ _ _ _ ⟨hx, hn, hc, hl, hgc, hgl, hn0, hn1, rx, rn, rc, rl, ⟨d1, d2, d3, d4, d5, d6⟩, ⟨d7, d8, d9, d10, d11, d12⟩⟩ 70 _ _ _ _ (by first | decide | assumption) (by first | decide | exact n12 (by assumption) | exact n60 (by assumption)) (by first | decide | omega) (by first | decide | omega)
  | succ d ih =>
    intro i1 i3 k m z0 hm hk hs
    rw [eX1_digest_10]
    simp only [eX1_digest_11, eX1_digest_16, eX1_digest_22, eX1_digest_24, eX1_digest_34, rx, rn, ite_le, go_s, gl_s, wt_nil, nl_none, g0, ex1, true_and, Nat.add_zero]
    split
    with_reducible refine And.intro ?_ ?_
    with_reducible exact vpi8 (by assumption) (by assumption)
    with_reducible refine And.intro ?_ ?_
    omega
    with_reducible refine And.intro ?_ ?_
    omega
    with_reducible refine And.intro ?_ ?_
    omega
    with_reducible refine sX1_withNumber (by first | assumption | exact CC.ext hC (by repeat' first | assumption | exact ext.rf | refine ext.tr (by assumption) ?_)) ?_
    simp only [eX1_digest_27, kx_l, nl_ref, nl_none, tl_s]
    with_reducible intro _
    with_reducible exact ih _ _ _ _ (ic_p (by assumption) (by assumption)) (ic_s (by assumption) (by assumption)) (by first | assumption | omega) (by first | assumption | omega)
    with_reducible exact lX1_digest_36 hC hQ _ _ _ _ _ _ ⟨hx, hn, hc, hl, hgc, hgl, hn0, hn1, rx, rn, rc, rl, ⟨d1, d2, d3, d4, d5, d6⟩, ⟨d7, d8, d9, d10, d11, d12⟩⟩ 70 _ _ _ _ (by first | decide | assumption) (by first | decide | exact n12 (by assumption) | exact n60 (by assumption)) (by first | decide | omega) (by first | decide | omega)
set_option maxHeartbeats 4000000 in
theorem sX1_digest  (hC : CC g w0 x nA cA lA kn w) (hQ : ∀ (v : Int64) (w' : Hw), ext g w w' → Q (.inl (some (.long v))) w') : WP (MX1_digest g) Q (0, [some (.ref x), none, none, none], [], w, 0, 0) := by
  obtain ⟨n, rf, md, f, gc, gl, hx, hn, hc, hl, hgc, hgl, hn0, hn1, rx, rn, rc, rl, ⟨d1, d2, d3, d4, d5, d6⟩, ⟨d7, d8, d9, d10, d11, d12⟩⟩ := hC.1.opn g
  simp only [eX1_digest_0, rx, go_s, wt_nil, true_and, Nat.add_zero]
  with_reducible refine And.intro ?_ ?_
  omega
  with_reducible refine And.intro ?_ ?_
  omega
  with_reducible refine And.intro ?_ ?_
  omega
  with_reducible refine sX1_withHouse (by first | assumption | exact CC.ext hC (by repeat' first | assumption | exact ext.rf | refine ext.tr (by assumption) ?_)) ?_
  simp only [eX1_digest_7, kx_l, nl_ref, nl_none, tl_s]
  with_reducible intro _
  with_reducible exact lX1_digest_10 hC hQ _ _ _ _ _ _ ⟨hx, hn, hc, hl, hgc, hgl, hn0, hn1, rx, rn, rc, rl, ⟨d1, d2, d3, d4, d5, d6⟩, ⟨d7, d8, d9, d10, d11, d12⟩⟩ 70 _ _ _ _ (by first | decide | assumption) (by first | decide | exact n12 (by assumption) | exact n60 (by assumption)) (by first | decide | omega) (by first | decide | omega)
end
end
/-! 67.25.pile0.lean.txt -/
section
section
variable {g : RO} {Q : Ot → Hw → Prop} {w0 w : Hw} {x nA cA lA : Nat} {kn : Int32}
theorem cg_sub {i : Int32} (h : 0 < i) : (i - 1).toInt = i.toInt - 1 := by
  have h1 := i32_lt h
  have h2 := i32_bd i
  have e : (0 : Int32).toInt = 0 := rfl
  have e1 : (1 : Int32).toInt = 1 := rfl
  rw [i32_sub (by omega) (by omega), e1]
theorem cg2 {n : Int32} (h : 0 < n) (h3 : ¬ 12 < n) : vp_in (n - 1) 12 := by
  have h1 := i32_lt h
  have e : (0 : Int32).toInt = 0 := rfl
  have k := cg_sub h
  exact vpi12 (n := n) (i32_of_nlt (by rw [k, e]; omega)) (i32_of_lt (by omega)) h3
theorem cg3 {n : Int32} (h : 0 < n) : ¬ n - 1 < 0 := by
  have h1 := i32_lt h
  have e : (0 : Int32).toInt = 0 := rfl
  exact i32_of_nlt (by rw [cg_sub h, e]; omega)
theorem cg4 {n : Int32} (h : 0 < n) (h3 : ¬ 12 < n) : ¬ 12 < n - 1 := by
  have h1 := i32_nlt h3
  exact i32_of_nlt (by rw [cg_sub h]; omega)
end
end
/-! 67.25.pile1.lean.txt -/
section
section
variable {g : RO} {Q : Ot → Hw → Prop} {w0 w : Hw} {x nA cA lA : Nat} {kn : Int32}
theorem tn_2 : (¬ (2 : Int32) = 0) = True := eq_true (by decide)
end
end
/-! 67.25.pile2.lean.txt -/
section
section
variable {g : RO} {Q : Ot → Hw → Prop} {w0 w : Hw} {x nA cA lA : Nat} {kn : Int32}
theorem i8 : (8 : Int32).toNatClampNeg = 8 := rfl
theorem i6 : (6 : Int32).toNatClampNeg = 6 := rfl
theorem i12 : (12 : Int32).toNatClampNeg = 12 := rfl
theorem n8 : ((8 : Int32) < 0) = False := eq_false (by decide)
theorem n6 : ((6 : Int32) < 0) = False := eq_false (by decide)
theorem n12' : ((12 : Int32) < 0) = False := eq_false (by decide)
end
end
/-! 68.text8z.lean.txt -/
section
section
variable {g : RO} {Q : Ot → Hw → Prop} {w0 w : Hw}
theorem t10l : (¬ (10 : Int64) = 0) = True := eq_true (by decide)
theorem h45 : ((255 : Int32) < 45) = False := eq_false (by decide)
theorem h32 : ((255 : Int32) < 32) = False := eq_false (by decide)
set_option maxHeartbeats 4000000 in
theorem lX1_appendBackwards_47 {b d N k n p0 : Nat} {x y : Int64} {c i : Int32} {c0 : Int} (hS : SG g) (hD : DG g w0) (hT : TS g w0 b d N c w) (hN : CP N) (hp0 : pC N ≤ p0) (h0 : c0 ≤ c.toInt) (h1 : c.toInt < 142) (h2 : c.toInt < c0 + 20) (hk : k + pC N ≤ 3) (hn : n + pS N ≤ 246) (hQ : ∀ (d' N' : Nat) (c' : Int32) (w' : Hw), CP N' → pC N' ≤ p0 → c0 ≤ c'.toInt → c'.toInt ≤ c0 + 20 → TS g w0 b d' N' c' w' → Q (.inl none) w') : WP (MX1_appendBackwards g) Q (47, [some (.ref b), some (.long x), none, some (.long y), none, some (.int i)], [], w, k, n) := by
  obtain ⟨ml, f, hb, hd, hf, hc0, hc1, rb, rdd, n1, n2⟩ := hT.opn g
  obtain ⟨k1, k2, k3, k4⟩ := kI (i := 45) hN hb hd hc0 hc1 (by omega)
  have ek : k + kfI [.ref b, .int 45] w ≤ 3 := by omega
  have es : n + sfI [.ref b, .int 45] w ≤ 246 := by omega
  have e1 := i32_p1 hc0 (by omega)
  simp only [eX1_appendBackwards_47, eX1_appendBackwards_53, eX1_appendBackwards_53N, eX1_appendBackwards_54, ite_le, n45, n54, true_or, or_true, false_or, or_false, false_and, and_false, kx_l, kx_r, go_s, gl_s, gi_s, gb_s2, gb_s3, gq_s, wt_nil, wt_int, wt_long, wt_ref, wt_null, nl_int, nl_long, nl_ref, nl_null, nl_none, rf_n, rf_s, rf_st, tl_s, tl_n, g0, gS, ex1, nb_b, nb_0, nb_1, nf_i, nf_l, nf_ra, nf_ro, nf_na, nf_no, nf_b0, nf_z0, t45_4, t45_5, true_and, and_true, List.set_cons_zero, List.set_cons_succ, List.length_cons, List.length_nil, rd_s, upw_s, ne_eq, not_false_eq_true, Nat.zero_add, Nat.add_zero, if_true, if_false, eq_self, rb, ek, es]
  split
  · repeat' first | with_reducible refine And.intro ?_ ?_ | omega
    refine sapC hS hT hN (by omega) h45 (fun d' N' w' q1 q2 q3 q4 => ?_)
    simp only [eX1_appendBackwards_59, eX1_appendBackwards_59R, eX1_appendBackwards_59N, eX1_appendBackwards_60, ite_le, n45, n54, true_or, or_true, false_or, or_false, false_and, and_false, kx_l, kx_r, go_s, gl_s, gi_s, gb_s2, gb_s3, gq_s, wt_nil, wt_int, wt_long, wt_ref, wt_null, nl_int, nl_long, nl_ref, nl_null, nl_none, rf_n, rf_s, rf_st, tl_s, tl_n, g0, gS, ex1, nb_b, nb_0, nb_1, nf_i, nf_l, nf_ra, nf_ro, nf_na, nf_no, nf_b0, nf_z0, t45_4, t45_5, true_and, and_true, List.set_cons_zero, List.set_cons_succ, List.length_cons, List.length_nil, rd_s, upw_s, ne_eq, not_false_eq_true, Nat.zero_add, Nat.add_zero, if_true, if_false, eq_self]
    repeat' first | with_reducible refine And.intro ?_ ?_ | omega
    exact hQ _ _ _ _ q1 (by omega) (by omega) (by omega) q4
  · simp only [eX1_appendBackwards_60, ite_le, n45, n54, true_or, or_true, false_or, or_false, false_and, and_false, kx_l, kx_r, go_s, gl_s, gi_s, gb_s2, gb_s3, gq_s, wt_nil, wt_int, wt_long, wt_ref, wt_null, nl_int, nl_long, nl_ref, nl_null, nl_none, rf_n, rf_s, rf_st, tl_s, tl_n, g0, gS, ex1, nb_b, nb_0, nb_1, nf_i, nf_l, nf_ra, nf_ro, nf_na, nf_no, nf_b0, nf_z0, t45_4, t45_5, true_and, and_true, List.set_cons_zero, List.set_cons_succ, List.length_cons, List.length_nil, rd_s, upw_s, ne_eq, not_false_eq_true, Nat.zero_add, Nat.add_zero, if_true, if_false, eq_self]
    repeat' first | with_reducible refine And.intro ?_ ?_ | omega
    exact hQ _ _ _ _ hN hp0 (by omega) (by omega) hT
set_option maxHeartbeats 4000000 in
theorem lX1_appendBackwards_5 {b p0 : Nat} {x : Int64} {c0 : Int} (hS : SG g) (hD : DG g w0) (hc0 : c0 ≤ 100) (hQ : ∀ (d' N' : Nat) (c' : Int32) (w' : Hw), CP N' → pC N' ≤ p0 → c0 ≤ c'.toInt → c'.toInt ≤ c0 + 20 → TS g w0 b d' N' c' w' → Q (.inl none) w') : ∀ (e : Nat) (d N k n : Nat) (y : Int64) (c i : Int32) (w : Hw), i.toInt + e = 19 → 0 ≤ i.toInt → CP N → pC N ≤ p0 → c0 ≤ c.toInt → c.toInt ≤ c0 + i.toInt → k + pC N ≤ 3 → n + pS N ≤ 246 → TS g w0 b d N c w →
    WP (MX1_appendBackwards g) Q (5, [some (.ref b), some (.long x), none, some (.long y), none, some (.int i)], [], w, k, n) := by
  intro e
  induction e with
  | zero =>
    intro d N k n y c i w h1 h2 hN hp0 h3 h4 hk hn hT
    have e19 : (19 : Int32).toInt = 19 := rfl
    have le : ((19 : Int32) ≤ i) = True := eq_true (Int32.le_iff_toInt_le.mpr (by omega))
    rw [eX1_appendBackwards_5]
    simp only [eX1_appendBackwards_7, ite_le, n45, n54, true_or, or_true, false_or, or_false, false_and, and_false, kx_l, kx_r, go_s, gl_s, gi_s, gb_s2, gb_s3, gq_s, wt_nil, wt_int, wt_long, wt_ref, wt_null, nl_int, nl_long, nl_ref, nl_null, nl_none, rf_n, rf_s, rf_st, tl_s, tl_n, g0, gS, ex1, nb_b, nb_0, nb_1, nf_i, nf_l, nf_ra, nf_ro, nf_na, nf_no, nf_b0, nf_z0, t45_4, t45_5, true_and, and_true, List.set_cons_zero, List.set_cons_succ, List.length_cons, List.length_nil, rd_s, upw_s, ne_eq, not_false_eq_true, Nat.zero_add, Nat.add_zero, if_true, if_false, eq_self, le]
    exact lX1_appendBackwards_47 hS hD hT hN hp0 h3 (by omega) (by omega) hk hn hQ
  | succ e ih =>
    intro d N k n y c i w h1 h2 hN hp0 h3 h4 hk hn hT
    obtain ⟨ml, f, hb, hd, hf, hc0', hc1, rb, rdd, n1, n2⟩ := hT.opn g
    have le : ((19 : Int32) ≤ i) = False := eq_false (fun h => by
      have := Int32.le_iff_toInt_le.mp h
      have e19 : (19 : Int32).toInt = 19 := rfl
      omega)
    have e1 := i32_p1 hc0' (by omega)
    have ei := i32_p1 h2 (by omega)
    obtain ⟨a, ha⟩ : ∃ a, (y - y / 10 * 10).toInt32 = a := ⟨_, rfl⟩
    obtain ⟨v, hv⟩ : ∃ v, (if 0 ≤ a then a else 0 - a) = v := ⟨_, rfl⟩
    obtain ⟨v0, v1⟩ := dig10 ha
    rw [hv] at v0 v1
    obtain ⟨k1, k2, k3, k4⟩ := kI (i := v) hN hb hd hc0' hc1 (by omega)
    have ek : k + kfI [.ref b, .int v] w ≤ 3 := by omega
    have es : n + sfI [.ref b, .int v] w ≤ 246 := by omega
    have ek2 : k ≤ 3 := by omega
    have es2 : n ≤ 246 := by omega
    rw [eX1_appendBackwards_5]
    simp only [eX1_appendBackwards_7, eX1_appendBackwards_12, eX1_appendBackwards_12N, eX1_appendBackwards_13, eX1_appendBackwards_18, eX1_appendBackwards_22, ite_le, n45, n54, true_or, or_true, false_or, or_false, false_and, and_false, kx_l, kx_r, go_s, gl_s, gi_s, gb_s2, gb_s3, gq_s, wt_nil, wt_int, wt_long, wt_ref, wt_null, nl_int, nl_long, nl_ref, nl_null, nl_none, rf_n, rf_s, rf_st, tl_s, tl_n, g0, gS, ex1, nb_b, nb_0, nb_1, nf_i, nf_l, nf_ra, nf_ro, nf_na, nf_no, nf_b0, nf_z0, t45_4, t45_5, true_and, and_true, List.set_cons_zero, List.set_cons_succ, List.length_cons, List.length_nil, rd_s, upw_s, ne_eq, not_false_eq_true, Nat.zero_add, Nat.add_zero, if_true, if_false, eq_self, le, t10l, ha, hv, rb, ek, es, ek2, es2]
    repeat' first | with_reducible refine And.intro ?_ ?_ | omega
    refine sapI hS hT hN (by omega) hD v0 v1 (fun d' N' w' q1 q2 q3 q4 => ?_)
    simp only [eX1_appendBackwards_25, eX1_appendBackwards_25R, eX1_appendBackwards_25N, eX1_appendBackwards_26, eX1_appendBackwards_31, eX1_appendBackwards_38, eX1_appendBackwards_41, ite_le, n45, n54, true_or, or_true, false_or, or_false, false_and, and_false, kx_l, kx_r, go_s, gl_s, gi_s, gb_s2, gb_s3, gq_s, wt_nil, wt_int, wt_long, wt_ref, wt_null, nl_int, nl_long, nl_ref, nl_null, nl_none, rf_n, rf_s, rf_st, tl_s, tl_n, g0, gS, ex1, nb_b, nb_0, nb_1, nf_i, nf_l, nf_ra, nf_ro, nf_na, nf_no, nf_b0, nf_z0, t45_4, t45_5, true_and, and_true, List.set_cons_zero, List.set_cons_succ, List.length_cons, List.length_nil, rd_s, upw_s, ne_eq, not_false_eq_true, Nat.zero_add, Nat.add_zero, if_true, if_false, eq_self, t10l]
    split
    · exact lX1_appendBackwards_47 hS hD q4 q1 (by omega) (by omega) (by omega) (by omega) (by omega) (by omega) hQ
    · exact ih _ _ _ _ _ _ _ _ (by omega) (by omega) q1 (by omega) (by omega) (by omega) (by omega) (by omega) q4
set_option maxHeartbeats 4000000 in
theorem sX1_appendBackwards {b d N p0 : Nat} {x : Int64} {c : Int32} {c0 : Int} (hS : SG g) (hD : DG g w0) (hT : TS g w0 b d N c w) (hN : CP N) (hp0 : pC N ≤ p0) (h0 : c0 = c.toInt) (h1 : c0 ≤ 100) (hQ : ∀ (d' N' : Nat) (c' : Int32) (w' : Hw), CP N' → pC N' ≤ p0 → c0 ≤ c'.toInt → c'.toInt ≤ c0 + 20 → TS g w0 b d' N' c' w' → Q (.inl none) w') : WP (MX1_appendBackwards g) Q (0, [some (.ref b), some (.long x), none, none, none, none], [], w, 0, 0) := by
  obtain ⟨ml, f, hb, hd, hf, hc0, hc1, rb, rdd, n1, n2⟩ := hT.opn g
  have z0 : (0 : Int32).toInt = 0 := rfl
  have pk : pC N ≤ 3 := by rcases hN with rfl | rfl | rfl | rfl <;> decide
  have ps : pS N ≤ 246 := by rcases hN with rfl | rfl | rfl | rfl <;> decide
  simp only [eX1_appendBackwards_0, ite_le, n45, n54, true_or, or_true, false_or, or_false, false_and, and_false, kx_l, kx_r, go_s, gl_s, gi_s, gb_s2, gb_s3, gq_s, wt_nil, wt_int, wt_long, wt_ref, wt_null, nl_int, nl_long, nl_ref, nl_null, nl_none, rf_n, rf_s, rf_st, tl_s, tl_n, g0, gS, ex1, nb_b, nb_0, nb_1, nf_i, nf_l, nf_ra, nf_ro, nf_na, nf_no, nf_b0, nf_z0, t45_4, t45_5, true_and, and_true, List.set_cons_zero, List.set_cons_succ, List.length_cons, List.length_nil, rd_s, upw_s, ne_eq, not_false_eq_true, Nat.zero_add, Nat.add_zero, if_true, if_false, eq_self]
  exact lX1_appendBackwards_5 hS hD h1 hQ 19 _ _ _ _ _ _ _ _ (by decide) (by decide) hN hp0 (by omega) (by omega) (by omega) (by omega) hT
end
end
/-! 68.text9.lean.txt -/
section
section
variable {g : RO} {Q : Ot → Hw → Prop} {w0 w : Hw}
variable {x nA cA lA : Nat} {kn : Int32}
set_option maxHeartbeats 4000000 in
theorem sX1_numberText {a0 : Int32} (hC : CC g w0 x nA cA lA kn w) (hS : SG g) (hD : DG g w) (hXo : Q (.inr "java/lang/IndexOutOfBoundsException") w) (hQ : ∀ q w', ext g w w' → Q (.inl (some (.ref q))) w') : WP (MX1_numberText g) Q (0, [some (.ref x), some (.int a0), none], [], w, 0, 0) := by
  obtain ⟨n, rf, md, f, gc, gl, hx, hn, hc, hl, hgc, hgl, hn0, hn1, rx, rn, rc, rl, ⟨d1, d2, d3, d4, d5, d6⟩, ⟨d7, d8, d9, d10, d11, d12⟩⟩ := hC.1.opn g
  simp only [eX1_numberText_0, ite_le, n45, n54, true_or, or_true, false_or, or_false, false_and, and_false, kx_l, kx_r, go_s, gl_s, gi_s, gb_s2, gb_s3, gq_s, wt_nil, wt_int, wt_long, wt_ref, wt_null, nl_int, nl_long, nl_ref, nl_null, nl_none, rf_n, rf_s, rf_st, tl_s, tl_n, g0, gS, ex1, nb_b, nb_0, nb_1, nf_i, nf_l, nf_ra, nf_ro, nf_na, nf_no, nf_b0, nf_z0, t45_4, t45_5, true_and, and_true, List.set_cons_zero, List.set_cons_succ, List.length_cons, List.length_nil, rd_s, upw_s, ne_eq, not_false_eq_true, Nat.zero_add, Nat.add_zero, if_true, if_false, eq_self]
  repeat' first | with_reducible refine And.intro ?_ ?_ | omega
  refine sX1_needNumber hXo (fun k0 k1 => ?_)
  have av : vp_in a0 8 := vpi8 k0 k1
  simp only [eX1_numberText_4, ite_le, n45, n54, true_or, or_true, false_or, or_false, false_and, and_false, kx_l, kx_r, go_s, gl_s, gi_s, gb_s2, gb_s3, gq_s, wt_nil, wt_int, wt_long, wt_ref, wt_null, nl_int, nl_long, nl_ref, nl_null, nl_none, rf_n, rf_s, rf_st, tl_s, tl_n, g0, gS, ex1, nb_b, nb_0, nb_1, nf_i, nf_l, nf_ra, nf_ro, nf_na, nf_no, nf_b0, nf_z0, t45_4, t45_5, true_and, and_true, List.set_cons_zero, List.set_cons_succ, List.length_cons, List.length_nil, rd_s, upw_s, ne_eq, not_false_eq_true, Nat.zero_add, Nat.add_zero, if_true, if_false, eq_self]
  repeat' first | with_reducible refine And.intro ?_ ?_ | omega
  intro b hq
  have hqn := rd_none hq
  simp only [eX1_numberText_7, eX1_numberText_7R, eX1_numberText_8, ite_le, n45, n54, true_or, or_true, false_or, or_false, false_and, and_false, kx_l, kx_r, go_s, gl_s, gi_s, gb_s2, gb_s3, gq_s, wt_nil, wt_int, wt_long, wt_ref, wt_null, nl_int, nl_long, nl_ref, nl_null, nl_none, rf_n, rf_s, rf_st, tl_s, tl_n, g0, gS, ex1, nb_b, nb_0, nb_1, nf_i, nf_l, nf_ra, nf_ro, nf_na, nf_no, nf_b0, nf_z0, t45_4, t45_5, true_and, and_true, List.set_cons_zero, List.set_cons_succ, List.length_cons, List.length_nil, rd_s, upw_s, ne_eq, not_false_eq_true, Nat.zero_add, Nat.add_zero, if_true, if_false, eq_self]
  repeat' first | with_reducible refine And.intro ?_ ?_ | omega
  refine sJ4_init_da8c8 (w0 := w) hS (ext_up2 ext.rf hq) (upw_s _ _ _) hqn (rd_ro hq) (fun d w1 hT => ?_)
  have rx1 := rd_e (g := g) (hT.1.1 _ _ hx)
  have rn1 := rd_e (g := g) (hT.1.1 _ _ hn)
  simp only [eX1_numberText_11, eX1_numberText_11N, eX1_numberText_12, eX1_numberText_12N, eX1_numberText_13, eX1_numberText_13N, eX1_numberText_14, eX1_numberText_17, eX1_numberText_19R, eX1_numberText_19N, ite_le, n45, n54, true_or, or_true, false_or, or_false, false_and, and_false, kx_l, kx_r, go_s, gl_s, gi_s, gb_s2, gb_s3, gq_s, wt_nil, wt_int, wt_long, wt_ref, wt_null, nl_int, nl_long, nl_ref, nl_null, nl_none, rf_n, rf_s, rf_st, tl_s, tl_n, g0, gS, ex1, nb_b, nb_0, nb_1, nf_i, nf_l, nf_ra, nf_ro, nf_na, nf_no, nf_b0, nf_z0, t45_4, t45_5, true_and, and_true, List.set_cons_zero, List.set_cons_succ, List.length_cons, List.length_nil, rd_s, upw_s, ne_eq, not_false_eq_true, Nat.zero_add, Nat.add_zero, if_true, if_false, eq_self, rx1, rn1, av]
  repeat' first | with_reducible refine And.intro ?_ ?_ | omega
  refine sX1_appendBackwards hS hD hT (Or.inl rfl) (Nat.le_refl _) rfl (by decide) (fun d' N' c' w2 q1 _ q2 q3 hT2 => ?_)
  have z0 : (0 : Int32).toInt = 0 := rfl
  obtain ⟨_, _, hb2, _, _, _, _, rb2, _⟩ := hT2.opn g
  simp only [eX1_numberText_22, eX1_numberText_22N, eX1_numberText_23, ite_le, n45, n54, true_or, or_true, false_or, or_false, false_and, and_false, kx_l, kx_r, go_s, gl_s, gi_s, gb_s2, gb_s3, gq_s, wt_nil, wt_int, wt_long, wt_ref, wt_null, nl_int, nl_long, nl_ref, nl_null, nl_none, rf_n, rf_s, rf_st, tl_s, tl_n, g0, gS, ex1, nb_b, nb_0, nb_1, nf_i, nf_l, nf_ra, nf_ro, nf_na, nf_no, nf_b0, nf_z0, t45_4, t45_5, true_and, and_true, List.set_cons_zero, List.set_cons_succ, List.length_cons, List.length_nil, rd_s, upw_s, ne_eq, not_false_eq_true, Nat.zero_add, Nat.add_zero, if_true, if_false, eq_self, rb2]
  repeat' first | with_reducible refine And.intro ?_ ?_ | omega
  refine sJ4_reverse_43fcb hS hT2 (Nat.le_trans q1.le (by decide)) (fun w3 hT3 => ?_)
  obtain ⟨_, _, hb3, _, _, _, _, rb3, _⟩ := hT3.opn g
  simp only [eX1_numberText_26, ite_le, n45, n54, true_or, or_true, false_or, or_false, false_and, and_false, kx_l, kx_r, go_s, gl_s, gi_s, gb_s2, gb_s3, gq_s, wt_nil, wt_int, wt_long, wt_ref, wt_null, nl_int, nl_long, nl_ref, nl_null, nl_none, rf_n, rf_s, rf_st, tl_s, tl_n, g0, gS, ex1, nb_b, nb_0, nb_1, nf_i, nf_l, nf_ra, nf_ro, nf_na, nf_no, nf_b0, nf_z0, t45_4, t45_5, true_and, and_true, List.set_cons_zero, List.set_cons_succ, List.length_cons, List.length_nil, rd_s, upw_s, ne_eq, not_false_eq_true, Nat.zero_add, Nat.add_zero, if_true, if_false, eq_self, rb3]
  repeat' first | with_reducible refine And.intro ?_ ?_ | omega
  refine sJ4_toString_0e30d hS hT3 (Nat.le_trans q1.le (by decide)) (by omega) (fun q w4 z => ?_)
  simp only [eX1_numberText_29, eX1_numberText_29N, ite_le, n45, n54, true_or, or_true, false_or, or_false, false_and, and_false, kx_l, kx_r, go_s, gl_s, gi_s, gb_s2, gb_s3, gq_s, wt_nil, wt_int, wt_long, wt_ref, wt_null, nl_int, nl_long, nl_ref, nl_null, nl_none, rf_n, rf_s, rf_st, tl_s, tl_n, g0, gS, ex1, nb_b, nb_0, nb_1, nf_i, nf_l, nf_ra, nf_ro, nf_na, nf_no, nf_b0, nf_z0, t45_4, t45_5, true_and, and_true, List.set_cons_zero, List.set_cons_succ, List.length_cons, List.length_nil, rd_s, upw_s, ne_eq, not_false_eq_true, Nat.zero_add, Nat.add_zero, if_true, if_false, eq_self]
  repeat' first | with_reducible refine And.intro ?_ ?_ | omega
  exact hQ _ _ z
set_option maxHeartbeats 4000000 in
theorem lX1_cardText_29 {r b : Nat} {a0 : Int32} (hS : SG g) (hD : DG g w) (hR : isR w r) (hQ : ∀ q w', ext g w w' → Q (.inl (some (.ref q))) w') : ∀ (e : Nat) (d N k n : Nat) (c i : Int32) (w1 : Hw), i.toInt + 1 ≤ e → -1 ≤ i.toInt → i.toInt ≤ 3 → CP N → k + 3 * (i.toInt + 1) + ((pC N - 1 : Nat) : Int) ≤ 17 → n + 388 * (i.toInt + 1) ≤ 1578 → n ≤ 1436 → c.toInt ≤ 21 * (3 - i.toInt) → c.toInt ≤ 83 → TS g w b d N c w1 →
    WP (MX1_cardText g) Q (29, [some (.ref x), some (.int a0), some (.ref r), some (.ref b), some (.int i)], [], w1, k, n) := by
  have fin : ∀ (d N k n : Nat) (c i : Int32) (w1 : Hw), CP N → k ≤ 17 → n ≤ 1436 → c.toInt ≤ 83 → TS g w b d N c w1 → WP (MX1_cardText g) Q (62, [some (.ref x), some (.int a0), some (.ref r), some (.ref b), some (.int i)], [], w1, k, n) := by
    intro d N k n c i w1 q1 hk hn hc hT
    obtain ⟨_, _, hb2, _, _, _, _, rb2, _⟩ := hT.opn g
    simp only [eX1_cardText_62, eX1_cardText_62N, eX1_cardText_63, ite_le, n45, n54, true_or, or_true, false_or, or_false, false_and, and_false, kx_l, kx_r, go_s, gl_s, gi_s, gb_s2, gb_s3, gq_s, wt_nil, wt_int, wt_long, wt_ref, wt_null, nl_int, nl_long, nl_ref, nl_null, nl_none, rf_n, rf_s, rf_st, tl_s, tl_n, g0, gS, ex1, nb_b, nb_0, nb_1, nf_i, nf_l, nf_ra, nf_ro, nf_na, nf_no, nf_b0, nf_z0, t45_4, t45_5, true_and, and_true, List.set_cons_zero, List.set_cons_succ, List.length_cons, List.length_nil, rd_s, upw_s, ne_eq, not_false_eq_true, Nat.zero_add, Nat.add_zero, if_true, if_false, eq_self, rb2]
    repeat' first | with_reducible refine And.intro ?_ ?_ | omega
    refine sJ4_reverse_43fcb hS hT (Nat.le_trans q1.le (by decide)) (fun w3 hT3 => ?_)
    obtain ⟨_, _, hb3, _, _, _, _, rb3, _⟩ := hT3.opn g
    simp only [eX1_cardText_66, ite_le, n45, n54, true_or, or_true, false_or, or_false, false_and, and_false, kx_l, kx_r, go_s, gl_s, gi_s, gb_s2, gb_s3, gq_s, wt_nil, wt_int, wt_long, wt_ref, wt_null, nl_int, nl_long, nl_ref, nl_null, nl_none, rf_n, rf_s, rf_st, tl_s, tl_n, g0, gS, ex1, nb_b, nb_0, nb_1, nf_i, nf_l, nf_ra, nf_ro, nf_na, nf_no, nf_b0, nf_z0, t45_4, t45_5, true_and, and_true, List.set_cons_zero, List.set_cons_succ, List.length_cons, List.length_nil, rd_s, upw_s, ne_eq, not_false_eq_true, Nat.zero_add, Nat.add_zero, if_true, if_false, eq_self, rb3]
    repeat' first | with_reducible refine And.intro ?_ ?_ | omega
    refine sJ4_toString_0e30d hS hT3 (Nat.le_trans q1.le (by decide)) (by omega) (fun q w4 z => ?_)
    simp only [eX1_cardText_69, eX1_cardText_69N, ite_le, n45, n54, true_or, or_true, false_or, or_false, false_and, and_false, kx_l, kx_r, go_s, gl_s, gi_s, gb_s2, gb_s3, gq_s, wt_nil, wt_int, wt_long, wt_ref, wt_null, nl_int, nl_long, nl_ref, nl_null, nl_none, rf_n, rf_s, rf_st, tl_s, tl_n, g0, gS, ex1, nb_b, nb_0, nb_1, nf_i, nf_l, nf_ra, nf_ro, nf_na, nf_no, nf_b0, nf_z0, t45_4, t45_5, true_and, and_true, List.set_cons_zero, List.set_cons_succ, List.length_cons, List.length_nil, rd_s, upw_s, ne_eq, not_false_eq_true, Nat.zero_add, Nat.add_zero, if_true, if_false, eq_self]
    repeat' first | with_reducible refine And.intro ?_ ?_ | omega
    exact hQ _ _ z
  intro e
  induction e with
  | zero =>
    intro d N k n c i w1 h1 h2 h3 hN hk hn hn2 hc hc2 hT
    have t : (i < 0) = True := i32_t0 (by omega)
    rw [eX1_cardText_29]
    simp only [eX1_cardText_31, ite_le, n45, n54, true_or, or_true, false_or, or_false, false_and, and_false, kx_l, kx_r, go_s, gl_s, gi_s, gb_s2, gb_s3, gq_s, wt_nil, wt_int, wt_long, wt_ref, wt_null, nl_int, nl_long, nl_ref, nl_null, nl_none, rf_n, rf_s, rf_st, tl_s, tl_n, g0, gS, ex1, nb_b, nb_0, nb_1, nf_i, nf_l, nf_ra, nf_ro, nf_na, nf_no, nf_b0, nf_z0, t45_4, t45_5, true_and, and_true, List.set_cons_zero, List.set_cons_succ, List.length_cons, List.length_nil, rd_s, upw_s, ne_eq, not_false_eq_true, Nat.zero_add, Nat.add_zero, if_true, if_false, eq_self, t]
    exact fin _ _ _ _ _ _ _ hN (by omega) hn2 hc2 hT
  | succ e ih =>
    intro d N k n c i w1 h1 h2 h3 hN hk hn hn2 hc hc2 hT
    rw [eX1_cardText_29]
    simp only [eX1_cardText_31, ite_le, n45, n54, true_or, or_true, false_or, or_false, false_and, and_false, kx_l, kx_r, go_s, gl_s, gi_s, gb_s2, gb_s3, gq_s, wt_nil, wt_int, wt_long, wt_ref, wt_null, nl_int, nl_long, nl_ref, nl_null, nl_none, rf_n, rf_s, rf_st, tl_s, tl_n, g0, gS, ex1, nb_b, nb_0, nb_1, nf_i, nf_l, nf_ra, nf_ro, nf_na, nf_no, nf_b0, nf_z0, t45_4, t45_5, true_and, and_true, List.set_cons_zero, List.set_cons_succ, List.length_cons, List.length_nil, rd_s, upw_s, ne_eq, not_false_eq_true, Nat.zero_add, Nat.add_zero, if_true, if_false, eq_self]
    split
    · exact fin _ _ _ _ _ _ _ hN (by omega) hn2 hc2 hT
    · next hi =>
      have hi := i32_0 hi
      have rR := hR.ext hT.1
      obtain ⟨_, _, hb1, hd1, _, hc0, hc1, rb1, _⟩ := hT.opn g
      simp only [eX1_cardText_34, eX1_cardText_34N, eX1_cardText_35, eX1_cardText_35N, eX1_cardText_36, ite_le, n45, n54, true_or, or_true, false_or, or_false, false_and, and_false, kx_l, kx_r, go_s, gl_s, gi_s, gb_s2, gb_s3, gq_s, wt_nil, wt_int, wt_long, wt_ref, wt_null, nl_int, nl_long, nl_ref, nl_null, nl_none, rf_n, rf_s, rf_st, tl_s, tl_n, g0, gS, ex1, nb_b, nb_0, nb_1, nf_i, nf_l, nf_ra, nf_ro, nf_na, nf_no, nf_b0, nf_z0, t45_4, t45_5, true_and, and_true, List.set_cons_zero, List.set_cons_succ, List.length_cons, List.length_nil, rd_s, upw_s, ne_eq, not_false_eq_true, Nat.zero_add, Nat.add_zero, if_true, if_false, eq_self]
      refine ⟨go_R rR (fun _ _ _ _ => trivial), ?_⟩
      repeat' first | with_reducible refine And.intro ?_ ?_ | omega
      refine sX0_endAt rR (fun v => ?_)
      simp only [eX1_cardText_41R, eX1_cardText_41N, ite_le, n45, n54, true_or, or_true, false_or, or_false, false_and, and_false, kx_l, kx_r, go_s, gl_s, gi_s, gb_s2, gb_s3, gq_s, wt_nil, wt_int, wt_long, wt_ref, wt_null, nl_int, nl_long, nl_ref, nl_null, nl_none, rf_n, rf_s, rf_st, tl_s, tl_n, g0, gS, ex1, nb_b, nb_0, nb_1, nf_i, nf_l, nf_ra, nf_ro, nf_na, nf_no, nf_b0, nf_z0, t45_4, t45_5, true_and, and_true, List.set_cons_zero, List.set_cons_succ, List.length_cons, List.length_nil, rd_s, upw_s, ne_eq, not_false_eq_true, Nat.zero_add, Nat.add_zero, if_true, if_false, eq_self]
      repeat' first | with_reducible refine And.intro ?_ ?_ | omega
      refine sX1_appendBackwards (p0 := pC N) hS hD hT hN (Nat.le_refl _) rfl (by omega) (fun d' N' c' w2 q1 q0 q2 q3 hT2 => ?_)
      obtain ⟨_, _, hb2, hd2, _, hc20, hc21, rb2, _⟩ := hT2.opn g
      obtain ⟨i', hi'⟩ : ∃ i', i + -1 = i' := ⟨_, rfl⟩
      have ei : i'.toInt = i.toInt - 1 := by rw [← hi']; exact i32_m1 (by omega)
      simp only [eX1_cardText_44, ite_le, n45, n54, true_or, or_true, false_or, or_false, false_and, and_false, kx_l, kx_r, go_s, gl_s, gi_s, gb_s2, gb_s3, gq_s, wt_nil, wt_int, wt_long, wt_ref, wt_null, nl_int, nl_long, nl_ref, nl_null, nl_none, rf_n, rf_s, rf_st, tl_s, tl_n, g0, gS, ex1, nb_b, nb_0, nb_1, nf_i, nf_l, nf_ra, nf_ro, nf_na, nf_no, nf_b0, nf_z0, t45_4, t45_5, true_and, and_true, List.set_cons_zero, List.set_cons_succ, List.length_cons, List.length_nil, rd_s, upw_s, ne_eq, not_false_eq_true, Nat.zero_add, Nat.add_zero, if_true, if_false, eq_self]
      split
      · next hz =>
        have hz : 0 < i.toInt := i32_lt hz
        obtain ⟨k1, k2, k3, k4⟩ := kI (i := 32) q1 hb2 hd2 hc20 hc21 (by omega)
        have kk : kfI [.ref b, .int 32] w2 = 1 → 2 ≤ pC N' := by
          intro z
          rcases q1 with rfl | rfl | rfl | rfl
          · decide
          · decide
          · rw [if_neg (by omega)] at k3
            omega
          · rw [if_neg (by omega)] at k3
            omega
        have k5 : kfI [.ref b, .int 32] w2 ≤ 1 := by
          rw [k3]
          split <;> omega
        have k6 : sfI [.ref b, .int 32] w2 ≤ 142 := by
          rw [k4]
          split
          · rcases q1 with rfl | rfl | rfl | rfl <;> omega
          · omega
        have k7 : k + 3 + kfI [.ref b, .int 32] w2 ≤ 19 := by omega
        have k8 : n + 246 + sfI [.ref b, .int 32] w2 ≤ 1530 := by omega
        simp only [eX1_cardText_49, eX1_cardText_49N, eX1_cardText_50, ite_le, n45, n54, true_or, or_true, false_or, or_false, false_and, and_false, kx_l, kx_r, go_s, gl_s, gi_s, gb_s2, gb_s3, gq_s, wt_nil, wt_int, wt_long, wt_ref, wt_null, nl_int, nl_long, nl_ref, nl_null, nl_none, rf_n, rf_s, rf_st, tl_s, tl_n, g0, gS, ex1, nb_b, nb_0, nb_1, nf_i, nf_l, nf_ra, nf_ro, nf_na, nf_no, nf_b0, nf_z0, t45_4, t45_5, true_and, and_true, List.set_cons_zero, List.set_cons_succ, List.length_cons, List.length_nil, rd_s, upw_s, ne_eq, not_false_eq_true, Nat.zero_add, Nat.add_zero, if_true, if_false, eq_self, rb2, k7, k8]
        repeat' first | with_reducible refine And.intro ?_ ?_ | omega
        refine sapC hS hT2 q1 (by omega) h32 (fun d3 N3 w3 p1 p2 p3 hT3 => ?_)
        have e1 := i32_p1 hc20 (by omega)
        obtain ⟨c3, hc3⟩ : ∃ c3, c' + 1 = c3 := ⟨_, rfl⟩
        rw [hc3] at e1 hT3
        simp only [eX1_cardText_55, eX1_cardText_55R, eX1_cardText_55N, eX1_cardText_56, ite_le, n45, n54, true_or, or_true, false_or, or_false, false_and, and_false, kx_l, kx_r, go_s, gl_s, gi_s, gb_s2, gb_s3, gq_s, wt_nil, wt_int, wt_long, wt_ref, wt_null, nl_int, nl_long, nl_ref, nl_null, nl_none, rf_n, rf_s, rf_st, tl_s, tl_n, g0, gS, ex1, nb_b, nb_0, nb_1, nf_i, nf_l, nf_ra, nf_ro, nf_na, nf_no, nf_b0, nf_z0, t45_4, t45_5, true_and, and_true, List.set_cons_zero, List.set_cons_succ, List.length_cons, List.length_nil, rd_s, upw_s, ne_eq, not_false_eq_true, Nat.zero_add, Nat.add_zero, if_true, if_false, eq_self, hi']
        exact ih _ _ _ _ _ _ _ (by omega) (by omega) (by omega) p1 (by omega) (by omega) (by omega) (by omega) (by omega) hT3
      · next hz =>
        have hz := i32_nlt hz
        have z0 : (0 : Int32).toInt = 0 := rfl
        simp only [eX1_cardText_56, ite_le, n45, n54, true_or, or_true, false_or, or_false, false_and, and_false, kx_l, kx_r, go_s, gl_s, gi_s, gb_s2, gb_s3, gq_s, wt_nil, wt_int, wt_long, wt_ref, wt_null, nl_int, nl_long, nl_ref, nl_null, nl_none, rf_n, rf_s, rf_st, tl_s, tl_n, g0, gS, ex1, nb_b, nb_0, nb_1, nf_i, nf_l, nf_ra, nf_ro, nf_na, nf_no, nf_b0, nf_z0, t45_4, t45_5, true_and, and_true, List.set_cons_zero, List.set_cons_succ, List.length_cons, List.length_nil, rd_s, upw_s, ne_eq, not_false_eq_true, Nat.zero_add, Nat.add_zero, if_true, if_false, eq_self, hi']
        exact ih _ _ _ _ _ _ _ (by omega) (by omega) (by omega) q1 (by omega) (by omega) (by omega) (by omega) (by omega) hT2
set_option maxHeartbeats 4000000 in
theorem sX1_cardText {a0 : Int32} (hC : CC g w0 x nA cA lA kn w) (hS : SG g) (hD : DG g w) (hG : ∃ s, g.1 20 = .ref s) (hXo : Q (.inr "java/lang/IndexOutOfBoundsException") w) (hQ : ∀ q w', ext g w w' → Q (.inl (some (.ref q))) w') : WP (MX1_cardText g) Q (0, [some (.ref x), some (.int a0), none, none, none], [], w, 0, 0) := by
  obtain ⟨n, rf, md, f, gc, gl, hx, hn, hc, hl, hgc, hgl, hn0, hn1, rx, rn, rc, rl, ⟨d1, d2, d3, d4, d5, d6⟩, ⟨d7, d8, d9, d10, d11, d12⟩⟩ := hC.1.opn g
  obtain ⟨s, hs⟩ := hG
  simp only [eX1_cardText_0, ite_le, n45, n54, true_or, or_true, false_or, or_false, false_and, and_false, kx_l, kx_r, go_s, gl_s, gi_s, gb_s2, gb_s3, gq_s, wt_nil, wt_int, wt_long, wt_ref, wt_null, nl_int, nl_long, nl_ref, nl_null, nl_none, rf_n, rf_s, rf_st, tl_s, tl_n, g0, gS, ex1, nb_b, nb_0, nb_1, nf_i, nf_l, nf_ra, nf_ro, nf_na, nf_no, nf_b0, nf_z0, t45_4, t45_5, true_and, and_true, List.set_cons_zero, List.set_cons_succ, List.length_cons, List.length_nil, rd_s, upw_s, ne_eq, not_false_eq_true, Nat.zero_add, Nat.add_zero, if_true, if_false, eq_self]
  repeat' first | with_reducible refine And.intro ?_ ?_ | omega
  refine sX1_needCard hXo (fun k0 k1 => ?_)
  have av : vp_in a0 6 := vpi6 k0 k1
  simp only [eX1_cardText_4, eX1_cardText_4N, eX1_cardText_5, eX1_cardText_8, ite_le, n45, n54, true_or, or_true, false_or, or_false, false_and, and_false, kx_l, kx_r, go_s, gl_s, gi_s, gb_s2, gb_s3, gq_s, wt_nil, wt_int, wt_long, wt_ref, wt_null, nl_int, nl_long, nl_ref, nl_null, nl_none, rf_n, rf_s, rf_st, tl_s, tl_n, g0, gS, ex1, nb_b, nb_0, nb_1, nf_i, nf_l, nf_ra, nf_ro, nf_na, nf_no, nf_b0, nf_z0, t45_4, t45_5, true_and, and_true, List.set_cons_zero, List.set_cons_succ, List.length_cons, List.length_nil, rd_s, upw_s, ne_eq, not_false_eq_true, Nat.zero_add, Nat.add_zero, if_true, if_false, eq_self, rx, rc, av]
  repeat' first | with_reducible refine And.intro ?_ ?_ | omega
  · intro hr
    simp only [eX1_cardText_10, eX1_cardText_10N, eX1_cardText_11, eX1_cardText_11N, eX1_cardText_12R, eX1_cardText_12N, eX1_cardText_15, eX1_cardText_17, eX1_cardText_17N, ite_le, n45, n54, true_or, or_true, false_or, or_false, false_and, and_false, kx_l, kx_r, go_s, gl_s, gi_s, gb_s2, gb_s3, gq_s, wt_nil, wt_int, wt_long, wt_ref, wt_null, nl_int, nl_long, nl_ref, nl_null, nl_none, rf_n, rf_s, rf_st, tl_s, tl_n, g0, gS, ex1, nb_b, nb_0, nb_1, nf_i, nf_l, nf_ra, nf_ro, nf_na, nf_no, nf_b0, nf_z0, t45_4, t45_5, true_and, and_true, List.set_cons_zero, List.set_cons_succ, List.length_cons, List.length_nil, rd_s, upw_s, ne_eq, not_false_eq_true, Nat.zero_add, Nat.add_zero, if_true, if_false, eq_self, hs, hr]
    repeat' first | with_reducible refine And.intro ?_ ?_ | omega
    exact hQ _ _ ext.rf
  · intro r hr
    have hR := hgc _ _ hr
    simp only [eX1_cardText_10, eX1_cardText_10N, eX1_cardText_11, eX1_cardText_11N, eX1_cardText_12R, eX1_cardText_12N, eX1_cardText_15, eX1_cardText_17, eX1_cardText_17N, eX1_cardText_18, ite_le, n45, n54, true_or, or_true, false_or, or_false, false_and, and_false, kx_l, kx_r, go_s, gl_s, gi_s, gb_s2, gb_s3, gq_s, wt_nil, wt_int, wt_long, wt_ref, wt_null, nl_int, nl_long, nl_ref, nl_null, nl_none, rf_n, rf_s, rf_st, tl_s, tl_n, g0, gS, ex1, nb_b, nb_0, nb_1, nf_i, nf_l, nf_ra, nf_ro, nf_na, nf_no, nf_b0, nf_z0, t45_4, t45_5, true_and, and_true, List.set_cons_zero, List.set_cons_succ, List.length_cons, List.length_nil, rd_s, upw_s, ne_eq, not_false_eq_true, Nat.zero_add, Nat.add_zero, if_true, if_false, eq_self, hr]
    repeat' first | with_reducible refine And.intro ?_ ?_ | omega
    intro b hq
    have hqn := rd_none hq
    simp only [eX1_cardText_21, eX1_cardText_21R, eX1_cardText_22, ite_le, n45, n54, true_or, or_true, false_or, or_false, false_and, and_false, kx_l, kx_r, go_s, gl_s, gi_s, gb_s2, gb_s3, gq_s, wt_nil, wt_int, wt_long, wt_ref, wt_null, nl_int, nl_long, nl_ref, nl_null, nl_none, rf_n, rf_s, rf_st, tl_s, tl_n, g0, gS, ex1, nb_b, nb_0, nb_1, nf_i, nf_l, nf_ra, nf_ro, nf_na, nf_no, nf_b0, nf_z0, t45_4, t45_5, true_and, and_true, List.set_cons_zero, List.set_cons_succ, List.length_cons, List.length_nil, rd_s, upw_s, ne_eq, not_false_eq_true, Nat.zero_add, Nat.add_zero, if_true, if_false, eq_self]
    repeat' first | with_reducible refine And.intro ?_ ?_ | omega
    refine sJ4_init_da8c8 (w0 := w) hS (ext_up2 ext.rf hq) (upw_s _ _ _) hqn (rd_ro hq) (fun d w1 hT => ?_)
    simp only [eX1_cardText_25, eX1_cardText_25N, eX1_cardText_26, ite_le, n45, n54, true_or, or_true, false_or, or_false, false_and, and_false, kx_l, kx_r, go_s, gl_s, gi_s, gb_s2, gb_s3, gq_s, wt_nil, wt_int, wt_long, wt_ref, wt_null, nl_int, nl_long, nl_ref, nl_null, nl_none, rf_n, rf_s, rf_st, tl_s, tl_n, g0, gS, ex1, nb_b, nb_0, nb_1, nf_i, nf_l, nf_ra, nf_ro, nf_na, nf_no, nf_b0, nf_z0, t45_4, t45_5, true_and, and_true, List.set_cons_zero, List.set_cons_succ, List.length_cons, List.length_nil, rd_s, upw_s, ne_eq, not_false_eq_true, Nat.zero_add, Nat.add_zero, if_true, if_false, eq_self]
    exact lX1_cardText_29 hS hD hR hQ 4 _ _ _ _ _ _ _ (by decide) (by decide) (by decide) (Or.inl rfl) (by decide) (by decide) (by decide) (by decide) (by decide) hT
end
end
