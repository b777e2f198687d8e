/-! 78.lw4.lean.txt -/
section
section
variable {g : RO} {Q : Ot → Hw → Prop} {w : Hw} {x nA cA lA y nM o : Nat} {kn km th : Int32} {s s2 : AS}
set_option maxHeartbeats 4000000 in
theorem gL_which {a0 : Int32} (hR : RG g) (hL : LW g w x nA cA lA y nM o kn km th s s2) (hQ : ∀ (v : Int32) (w' : Hw), LW g w' x nA cA lA y nM o kn km th s s2 → Q (.inl (some (.int v))) w') : WP (ML_which g) Q (0, [some (.ref x), some (.int a0), some (.ref o), none], [], w, 0, 0) := by
  simp only [eL_which_0, wt_nil, wt_ref, Nat.zero_add, Nat.add_zero]
  with_reducible refine And.intro ?_ ?_
  with_reducible refine LW.gx hL (fun _ => trivial)
  with_reducible refine And.intro ?_ ?_
  omega
  with_reducible refine And.intro ?_ ?_
  omega
  with_reducible refine And.intro ?_ ?_
  omega
  with_reducible refine sX1_which hL.cc ?_ (fun _ => ?_)
  simp only [kx_r]
  ((with_reducible refine isHgo ?_); refine hgo_h (HH := [(0, 10, 13, 28)]) (NN := [(28, "java/lang/IllegalArgumentException")]) (h := 13) (E := "java/lang/IllegalArgumentException") rfl rfl (by decide +kernel) (by decide) (fun _ => ?_))
  simp only [eL_which_13, nl_ref]
  with_reducible refine And.intro ?_ ?_
  omega
  with_reducible refine And.intro ?_ ?_
  omega
  with_reducible exact hQ _ _ hL
  simp only [eL_which_6, eL_which_10, kx_l, tl_s, nf_l, true_and]
  with_reducible refine go_OF (by first | assumption | exact hL | exact hL.ext (by assumption)) (fun _ _ hw => ?_)
  with_reducible refine And.intro ?_ ?_
  simp only [List.length_cons, List.length_nil, Nat.zero_add]
  omega
  with_reducible refine And.intro ?_ ?_
  omega
  with_reducible refine And.intro ?_ ?_
  omega
  simp only [List.set_cons_zero]
  with_reducible exact hQ _ _ (hw _ _)
set_option maxHeartbeats 4000000 in
theorem fL_areSame {a0 a1 : Int32} (hL : LW g w x nA cA lA y nM o kn km th s s2) (hX : ¬ (okC a0 ∧ okC a1) → Q (.inl (some (.int 1))) w) (hS : okC a0 → okC a1 → (s.2.1 a0.toNatClampNeg = none ∨ s.2.1 a1.toNatClampNeg = none) → Q (.inl (some (.int 2))) w) (hT : okC a0 → okC a1 → ∀ r q, s.2.1 a0.toNatClampNeg = some r → s.2.1 a1.toNatClampNeg = some q → mP r q → ∀ w', LW g w' x nA cA lA y nM o kn km th s s2 → outN w' o (1) → Q (.inl (some (.int 0))) w') (hF : okC a0 → okC a1 → ∀ r q, s.2.1 a0.toNatClampNeg = some r → s.2.1 a1.toNatClampNeg = some q → ¬ mP r q → ∀ w', LW g w' x nA cA lA y nM o kn km th s s2 → outN w' o (0) → Q (.inl (some (.int 0))) w') : WP (ML_areSame g) Q (0, [some (.ref x), some (.int a0), some (.int a1), some (.ref o), none], [], w, 0, 0) := by
  have ho := hL.2.1
  simp only [eL_areSame_0, wt_nil, wt_ref, Nat.zero_add, Nat.add_zero]
  with_reducible refine And.intro ?_ ?_
  with_reducible refine LW.gx hL (fun _ => trivial)
  with_reducible refine And.intro ?_ ?_
  omega
  with_reducible refine And.intro ?_ ?_
  omega
  with_reducible refine And.intro ?_ ?_
  omega
  with_reducible refine fX1_areSame hL.cs (fun hXc0 => ?_) (fun hSc0 hSc1 hSc2 => ?_) (fun hTc0 hTc1 hTr hTq hTc2 hTc3 hTc4 => ?_) (fun hFc0 hFc1 hFr hFq hFc2 hFc3 hFc4 => ?_)
  simp only [kx_r]
  ((with_reducible refine isHgo ?_); refine hgo_h (HH := [(0, 18, 21, 19), (0, 18, 25, 74)]) (NN := [(19, "java/lang/IndexOutOfBoundsException"), (74, "java/lang/IllegalStateException")]) (h := 21) (E := "java/lang/IndexOutOfBoundsException") rfl rfl (by decide +kernel) (by decide) (fun _ => ?_))
  simp only [eL_areSame_21, nl_ref]
  with_reducible refine And.intro ?_ ?_
  omega
  with_reducible refine And.intro ?_ ?_
  omega
  with_reducible exact hX hXc0
  simp only [kx_r]
  ((with_reducible refine isHgo ?_); refine hgo_h (HH := [(0, 18, 21, 19), (0, 18, 25, 74)]) (NN := [(19, "java/lang/IndexOutOfBoundsException"), (74, "java/lang/IllegalStateException")]) (h := 25) (E := "java/lang/IllegalStateException") rfl rfl (by decide +kernel) (by decide) (fun _ => ?_))
  simp only [eL_areSame_25, nl_ref]
  with_reducible refine And.intro ?_ ?_
  omega
  with_reducible refine And.intro ?_ ?_
  omega
  with_reducible exact hS hSc0 hSc1 hSc2
  simp only [eL_areSame_7, eL_areSame_10, eL_areSame_14, eL_areSame_15, eL_areSame_18, i10, kx_l, tl_s, nf_l, true_and, if_false]
  with_reducible refine go_OF hL (fun _ _ hw => ?_)
  with_reducible refine And.intro ?_ ?_
  simp only [List.length_cons, List.length_nil, Nat.zero_add]
  omega
  with_reducible refine And.intro ?_ ?_
  omega
  with_reducible refine And.intro ?_ ?_
  omega
  simp only [List.set_cons_zero]
  with_reducible exact hT hTc0 hTc1 hTr hTq hTc2 hTc3 hTc4 _ (hw _ _) outN.mk
  simp only [eL_areSame_7, eL_areSame_10, eL_areSame_14, eL_areSame_15, eL_areSame_18, kx_l, tl_s, nf_l, true_and, if_true]
  with_reducible refine go_OF hL (fun _ _ hw => ?_)
  with_reducible refine And.intro ?_ ?_
  simp only [List.length_cons, List.length_nil, Nat.zero_add]
  omega
  with_reducible refine And.intro ?_ ?_
  omega
  with_reducible refine And.intro ?_ ?_
  omega
  simp only [List.set_cons_zero]
  with_reducible exact hF hFc0 hFc1 hFr hFq hFc2 hFc3 hFc4 _ (hw _ _) outN.mk
set_option maxHeartbeats 4000000 in
theorem gL_isSameAs {a0 a1 : Int32} (hR : RG g) (hL : LW g w x nA cA lA y nM o kn km th s s2) (hQ : ∀ (v : Int32) (w' : Hw), LW g w' x nA cA lA y nM o kn km th s s2 → Q (.inl (some (.int v))) w') : WP (ML_isSameAs g) Q (0, [some (.ref x), some (.int a0), some (.int a1), some (.ref o), none], [], w, 0, 0) := by
  simp only [eL_isSameAs_0, wt_nil, wt_ref, Nat.zero_add, Nat.add_zero]
  with_reducible refine And.intro ?_ ?_
  with_reducible refine LW.gx hL (fun _ => trivial)
  with_reducible refine And.intro ?_ ?_
  omega
  with_reducible refine And.intro ?_ ?_
  omega
  with_reducible refine And.intro ?_ ?_
  omega
  with_reducible refine sX1_isSameAs hL.cc ?_ ?_ ?_ (fun _ _ _ => ?_)
  simp only [kx_r]
  ((with_reducible refine isHgo ?_); refine hgo_h (HH := [(0, 18, 21, 19), (0, 18, 25, 28), (0, 18, 29, 74)]) (NN := [(19, "java/lang/IndexOutOfBoundsException"), (28, "java/lang/IllegalArgumentException"), (74, "java/lang/IllegalStateException")]) (h := 21) (E := "java/lang/IndexOutOfBoundsException") rfl rfl (by decide +kernel) (by decide) (fun _ => ?_))
  simp only [eL_isSameAs_21, nl_ref]
  with_reducible refine And.intro ?_ ?_
  omega
  with_reducible refine And.intro ?_ ?_
  omega
  with_reducible exact hQ _ _ hL
  simp only [kx_r]
  ((with_reducible refine isHgo ?_); refine hgo_h (HH := [(0, 18, 21, 19), (0, 18, 25, 28), (0, 18, 29, 74)]) (NN := [(19, "java/lang/IndexOutOfBoundsException"), (28, "java/lang/IllegalArgumentException"), (74, "java/lang/IllegalStateException")]) (h := 25) (E := "java/lang/IllegalArgumentException") rfl rfl (by decide +kernel) (by decide) (fun _ => ?_))
  simp only [eL_isSameAs_25, nl_ref]
  with_reducible refine And.intro ?_ ?_
  omega
  with_reducible refine And.intro ?_ ?_
  omega
  with_reducible exact hQ _ _ hL
  simp only [kx_r]
  ((with_reducible refine isHgo ?_); refine hgo_h (HH := [(0, 18, 21, 19), (0, 18, 25, 28), (0, 18, 29, 74)]) (NN := [(19, "java/lang/IndexOutOfBoundsException"), (28, "java/lang/IllegalArgumentException"), (74, "java/lang/IllegalStateException")]) (h := 29) (E := "java/lang/IllegalStateException") rfl rfl (by decide +kernel) (by decide) (fun _ => ?_))
  simp only [eL_isSameAs_29, nl_ref]
  with_reducible refine And.intro ?_ ?_
  omega
  with_reducible refine And.intro ?_ ?_
  omega
  with_reducible exact hQ _ _ hL
  simp only [eL_isSameAs_7, eL_isSameAs_10, eL_isSameAs_14, eL_isSameAs_15, eL_isSameAs_18, kx_l, tl_s, nf_l, true_and]
  split
  with_reducible refine go_OF (by first | assumption | exact hL | exact hL.ext (by assumption)) (fun _ _ hw => ?_)
  with_reducible refine And.intro ?_ ?_
  simp only [List.length_cons, List.length_nil, Nat.zero_add]
  omega
  with_reducible refine And.intro ?_ ?_
  omega
  with_reducible refine And.intro ?_ ?_
  omega
  simp only [List.set_cons_zero]
  with_reducible exact hQ _ _ (hw _ _)
  with_reducible refine go_OF (by first | assumption | exact hL | exact hL.ext (by assumption)) (fun _ _ hw => ?_)
  with_reducible refine And.intro ?_ ?_
  simp only [List.length_cons, List.length_nil, Nat.zero_add]
  omega
  with_reducible refine And.intro ?_ ?_
  omega
  with_reducible refine And.intro ?_ ?_
  omega
  simp only [List.set_cons_zero]
  with_reducible exact hQ _ _ (hw _ _)
set_option maxHeartbeats 4000000 in
theorem gL_likes {a0 : Int32} (hR : RG g) (hL : LW g w x nA cA lA y nM o kn km th s s2) (hQ : ∀ (v : Int32) (w' : Hw), LW g w' x nA cA lA y nM o kn km th s s2 → Q (.inl (some (.int v))) w') : WP (ML_likes g) Q (0, [some (.ref x), some (.int a0), some (.ref o), none], [], w, 0, 0) := by
  simp only [eL_likes_0, wt_nil, wt_ref, Nat.zero_add, Nat.add_zero]
  with_reducible refine And.intro ?_ ?_
  with_reducible refine LW.gx hL (fun _ => trivial)
  with_reducible refine And.intro ?_ ?_
  omega
  with_reducible refine And.intro ?_ ?_
  omega
  with_reducible refine And.intro ?_ ?_
  omega
  with_reducible refine sX1_likes hL.cc ?_ ?_ (fun _ => ?_)
  simp only [kx_r]
  ((with_reducible refine isHgo ?_); refine hgo_h (HH := [(0, 10, 13, 19), (0, 10, 16, 74)]) (NN := [(19, "java/lang/IndexOutOfBoundsException"), (74, "java/lang/IllegalStateException")]) (h := 13) (E := "java/lang/IndexOutOfBoundsException") rfl rfl (by decide +kernel) (by decide) (fun _ => ?_))
  simp only [eL_likes_13, nl_ref]
  with_reducible refine And.intro ?_ ?_
  omega
  with_reducible refine And.intro ?_ ?_
  omega
  with_reducible exact hQ _ _ hL
  simp only [kx_r]
  ((with_reducible refine isHgo ?_); refine hgo_h (HH := [(0, 10, 13, 19), (0, 10, 16, 74)]) (NN := [(19, "java/lang/IndexOutOfBoundsException"), (74, "java/lang/IllegalStateException")]) (h := 16) (E := "java/lang/IllegalStateException") rfl rfl (by decide +kernel) (by decide) (fun _ => ?_))
  simp only [eL_likes_16, nl_ref]
  with_reducible refine And.intro ?_ ?_
  omega
  with_reducible refine And.intro ?_ ?_
  omega
  with_reducible exact hQ _ _ hL
  simp only [eL_likes_6, eL_likes_10, kx_l, tl_s, nf_l, true_and]
  with_reducible refine go_OF (by first | assumption | exact hL | exact hL.ext (by assumption)) (fun _ _ hw => ?_)
  with_reducible refine And.intro ?_ ?_
  simp only [List.length_cons, List.length_nil, Nat.zero_add]
  omega
  with_reducible refine And.intro ?_ ?_
  omega
  with_reducible refine And.intro ?_ ?_
  omega
  simp only [List.set_cons_zero]
  with_reducible exact hQ _ _ (hw _ _)
set_option maxHeartbeats 4000000 in
theorem fL_lay {a0 : Int32} (hL : LW g w x nA cA lA y nM o kn km th s s2) (hX : ¬ okC a0 → Q (.inl (some (.int 1))) w) (hS : okC a0 → s.2.1 a0.toNatClampNeg = none → Q (.inl (some (.int 2))) w) (hF : okC a0 → ∀ r, s.2.1 a0.toNatClampNeg = some r → ¬ s.2.2.1 < 12 → ∀ w', LW g w' x nA cA lA y nM o kn km th (sRf s) s2 → outN w' o ((-9 : Int32).toInt64) → Q (.inl (some (.int 0))) w') (hQ : okC a0 → ∀ r, s.2.1 a0.toNatClampNeg = some r → s.2.2.1 < 12 → ∀ w', LW g w' x nA cA lA y nM o kn km th (sP_ s (s.2.2.1 + 1) (va_up s.2.2.2.1 s.2.2.1.toNatClampNeg r)) s2 → outN w' o ((s.2.2.1 + 1).toInt64) → Q (.inl (some (.int 0))) w') : WP (ML_lay g) Q (0, [some (.ref x), some (.int a0), some (.ref o), none], [], w, 0, 0) := by
  have ho := hL.2.1
  simp only [eL_lay_0, wt_nil, wt_ref, Nat.zero_add, Nat.add_zero]
  with_reducible refine And.intro ?_ ?_
  with_reducible refine LW.gx hL (fun _ => trivial)
  with_reducible refine And.intro ?_ ?_
  omega
  with_reducible refine And.intro ?_ ?_
  omega
  with_reducible refine And.intro ?_ ?_
  omega
  with_reducible refine fX1_lay hL.cs (fun hXc0 => ?_) (fun hSc0 hSc1 => ?_) (fun hFc0 hFr hFc1 hFc2 hFw hFh => ?_) (fun hQc0 hQr hQc1 hQc2 hQw hQh => ?_)
  simp only [kx_r]
  ((with_reducible refine isHgo ?_); refine hgo_h (HH := [(0, 10, 13, 19), (0, 10, 16, 74)]) (NN := [(19, "java/lang/IndexOutOfBoundsException"), (74, "java/lang/IllegalStateException")]) (h := 13) (E := "java/lang/IndexOutOfBoundsException") rfl rfl (by decide +kernel) (by decide) (fun _ => ?_))
  simp only [eL_lay_13, nl_ref]
  with_reducible refine And.intro ?_ ?_
  omega
  with_reducible refine And.intro ?_ ?_
  omega
  with_reducible exact hX hXc0
  simp only [kx_r]
  ((with_reducible refine isHgo ?_); refine hgo_h (HH := [(0, 10, 13, 19), (0, 10, 16, 74)]) (NN := [(19, "java/lang/IndexOutOfBoundsException"), (74, "java/lang/IllegalStateException")]) (h := 16) (E := "java/lang/IllegalStateException") rfl rfl (by decide +kernel) (by decide) (fun _ => ?_))
  simp only [eL_lay_16, nl_ref]
  with_reducible refine And.intro ?_ ?_
  omega
  with_reducible refine And.intro ?_ ?_
  omega
  with_reducible exact hS hSc0 hSc1
  simp only [eL_lay_6, eL_lay_10, kx_l, tl_s, nf_l, true_and]
  with_reducible refine go_OF (LW.of hL hFh (by first | with_reducible exact ho | with_reducible exact ho.num | with_reducible exact ho.rf | with_reducible exact ho.mk (by assumption) | with_reducible exact ho.mk (ho.c' (by assumption) (by assumption)) | with_reducible exact ho.mkO (by assumption) (by assumption) | with_reducible exact ho.card0 | with_reducible exact ho.card (ho.c' (by assumption) (by assumption)) | with_reducible exact ho.card (ho.p' (by assumption)) | with_reducible exact ho.lay (ho.c' (by assumption) (by assumption)) (by assumption) | with_reducible exact ho.gap (by assumption) | with_reducible exact ho.tur | with_reducible exact ho.zero)) (fun _ _ hw => ?_)
  with_reducible refine And.intro ?_ ?_
  simp only [List.length_cons, List.length_nil, Nat.zero_add]
  omega
  with_reducible refine And.intro ?_ ?_
  omega
  with_reducible refine And.intro ?_ ?_
  omega
  simp only [List.set_cons_zero]
  with_reducible exact hF hFc0 hFr hFc1 hFc2 _ (hw _ _) outN.mk
  simp only [eL_lay_6, eL_lay_10, kx_l, tl_s, nf_l, true_and]
  with_reducible refine go_OF (LW.of hL hQh (by first | with_reducible exact ho | with_reducible exact ho.num | with_reducible exact ho.rf | with_reducible exact ho.mk (by assumption) | with_reducible exact ho.mk (ho.c' (by assumption) (by assumption)) | with_reducible exact ho.mkO (by assumption) (by assumption) | with_reducible exact ho.card0 | with_reducible exact ho.card (ho.c' (by assumption) (by assumption)) | with_reducible exact ho.card (ho.p' (by assumption)) | with_reducible exact ho.lay (ho.c' (by assumption) (by assumption)) (by assumption) | with_reducible exact ho.gap (by assumption) | with_reducible exact ho.tur | with_reducible exact ho.zero)) (fun _ _ hw => ?_)
  with_reducible refine And.intro ?_ ?_
  simp only [List.length_cons, List.length_nil, Nat.zero_add]
  omega
  with_reducible refine And.intro ?_ ?_
  omega
  with_reducible refine And.intro ?_ ?_
  omega
  simp only [List.set_cons_zero]
  with_reducible exact hQ hQc0 hQr hQc1 hQc2 _ (hw _ _) outN.mk
set_option maxHeartbeats 4000000 in
theorem fL_seek {a0 a1 : Int32} (hL : LW g w x nA cA lA y nM o kn km th s s2) (hX : ¬ okC a0 → Q (.inl (some (.int 1))) w) (hS : okC a0 → s.2.1 a0.toNatClampNeg = none → Q (.inl (some (.int 2))) w) (hN : okC a0 → ∀ r, s.2.1 a0.toNatClampNeg = some r → (∀ i, i < s.2.2.1.toInt.toNat → ¬ mP r (s.2.2.2.1 i)) → ∀ w', LW g w' x nA cA lA y nM o kn km th s s2 → outN w' o ((-1 : Int32).toInt64) → Q (.inl (some (.int 0))) w') (hF : a1 = 0 → okC a0 → ∀ r, s.2.1 a0.toNatClampNeg = some r → ∀ i, i < s.2.2.1.toInt.toNat → mP r (s.2.2.2.1 i) → (∀ k, k < i → ¬ mP r (s.2.2.2.1 k)) → ∀ w', LW g w' x nA cA lA y nM o kn km th s s2 → outN w' o ((Int32.ofNat i).toInt64) → Q (.inl (some (.int 0))) w') (hLL : ¬ a1 = 0 → okC a0 → ∀ r, s.2.1 a0.toNatClampNeg = some r → ∀ i, i < s.2.2.1.toInt.toNat → mP r (s.2.2.2.1 i) → (∀ k, i + 1 ≤ k → k < s.2.2.1.toInt.toNat → ¬ mP r (s.2.2.2.1 k)) → ∀ w', LW g w' x nA cA lA y nM o kn km th s s2 → outN w' o ((Int32.ofNat i).toInt64) → Q (.inl (some (.int 0))) w') : WP (ML_seek g) Q (0, [some (.ref x), some (.int a0), some (.int a1), some (.ref o), none], [], w, 0, 0) := by
  have ho := hL.2.1
  simp only [eL_seek_0, wt_nil, wt_ref, Nat.zero_add, Nat.add_zero]
  with_reducible refine And.intro ?_ ?_
  with_reducible refine LW.gx hL (fun _ => trivial)
  with_reducible refine And.intro ?_ ?_
  omega
  with_reducible refine And.intro ?_ ?_
  omega
  with_reducible refine And.intro ?_ ?_
  omega
  with_reducible refine fX1_seek hL.cs (fun hXc0 => ?_) (fun hSc0 hSc1 => ?_) (fun hNc0 hNr hNc1 hNc2 => ?_) (fun hFc0 hFc1 hFr hFc2 hFi hFc3 hFc4 hFc5 => ?_) (fun hLLc0 hLLc1 hLLr hLLc2 hLLi hLLc3 hLLc4 hLLc5 => ?_)
  simp only [kx_r]
  ((with_reducible refine isHgo ?_); refine hgo_h (HH := [(0, 11, 14, 19), (0, 11, 18, 74)]) (NN := [(19, "java/lang/IndexOutOfBoundsException"), (74, "java/lang/IllegalStateException")]) (h := 14) (E := "java/lang/IndexOutOfBoundsException") rfl rfl (by decide +kernel) (by decide) (fun _ => ?_))
  simp only [eL_seek_14, nl_ref]
  with_reducible refine And.intro ?_ ?_
  omega
  with_reducible refine And.intro ?_ ?_
  omega
  with_reducible exact hX hXc0
  simp only [kx_r]
  ((with_reducible refine isHgo ?_); refine hgo_h (HH := [(0, 11, 14, 19), (0, 11, 18, 74)]) (NN := [(19, "java/lang/IndexOutOfBoundsException"), (74, "java/lang/IllegalStateException")]) (h := 18) (E := "java/lang/IllegalStateException") rfl rfl (by decide +kernel) (by decide) (fun _ => ?_))
  simp only [eL_seek_18, nl_ref]
  with_reducible refine And.intro ?_ ?_
  omega
  with_reducible refine And.intro ?_ ?_
  omega
  with_reducible exact hS hSc0 hSc1
  simp only [eL_seek_7, eL_seek_11, kx_l, tl_s, nf_l, true_and]
  with_reducible refine go_OF hL (fun _ _ hw => ?_)
  with_reducible refine And.intro ?_ ?_
  simp only [List.length_cons, List.length_nil, Nat.zero_add]
  omega
  with_reducible refine And.intro ?_ ?_
  omega
  with_reducible refine And.intro ?_ ?_
  omega
  simp only [List.set_cons_zero]
  with_reducible exact hN hNc0 hNr hNc1 hNc2 _ (hw _ _) outN.mk
  simp only [eL_seek_7, eL_seek_11, kx_l, tl_s, nf_l, true_and]
  with_reducible refine go_OF hL (fun _ _ hw => ?_)
  with_reducible refine And.intro ?_ ?_
  simp only [List.length_cons, List.length_nil, Nat.zero_add]
  omega
  with_reducible refine And.intro ?_ ?_
  omega
  with_reducible refine And.intro ?_ ?_
  omega
  simp only [List.set_cons_zero]
  with_reducible exact hF hFc0 hFc1 hFr hFc2 hFi hFc3 hFc4 hFc5 _ (hw _ _) outN.mk
  simp only [eL_seek_7, eL_seek_11, kx_l, tl_s, nf_l, true_and]
  with_reducible refine go_OF hL (fun _ _ hw => ?_)
  with_reducible refine And.intro ?_ ?_
  simp only [List.length_cons, List.length_nil, Nat.zero_add]
  omega
  with_reducible refine And.intro ?_ ?_
  omega
  with_reducible refine And.intro ?_ ?_
  omega
  simp only [List.set_cons_zero]
  with_reducible exact hLL hLLc0 hLLc1 hLLr hLLc2 hLLi hLLc3 hLLc4 hLLc5 _ (hw _ _) outN.mk
set_option maxHeartbeats 4000000 in
theorem fL_howOften {a0 : Int32} (hL : LW g w x nA cA lA y nM o kn km th s s2) (hX : ¬ okC a0 → Q (.inl (some (.int 1))) w) (hS : okC a0 → s.2.1 a0.toNatClampNeg = none → Q (.inl (some (.int 2))) w) (hQ : okC a0 → ∀ r, s.2.1 a0.toNatClampNeg = some r → ∀ w', LW g w' x nA cA lA y nM o kn km th s s2 → outN w' o ((fsum (fun j => bI (decide (mP r (s.2.2.2.1 j)))) s.2.2.1.toInt.toNat).toInt64) → Q (.inl (some (.int 0))) w') : WP (ML_howOften g) Q (0, [some (.ref x), some (.int a0), some (.ref o), none], [], w, 0, 0) := by
  have ho := hL.2.1
  simp only [eL_howOften_0, wt_nil, wt_ref, Nat.zero_add, Nat.add_zero]
  with_reducible refine And.intro ?_ ?_
  with_reducible refine LW.gx hL (fun _ => trivial)
  with_reducible refine And.intro ?_ ?_
  omega
  with_reducible refine And.intro ?_ ?_
  omega
  with_reducible refine And.intro ?_ ?_
  omega
  with_reducible refine fX1_howOften hL.cs (fun hXc0 => ?_) (fun hSc0 hSc1 => ?_) (fun hQc0 hQr hQc1 => ?_)
  simp only [kx_r]
  ((with_reducible refine isHgo ?_); refine hgo_h (HH := [(0, 10, 13, 19), (0, 10, 16, 74)]) (NN := [(19, "java/lang/IndexOutOfBoundsException"), (74, "java/lang/IllegalStateException")]) (h := 13) (E := "java/lang/IndexOutOfBoundsException") rfl rfl (by decide +kernel) (by decide) (fun _ => ?_))
  simp only [eL_howOften_13, nl_ref]
  with_reducible refine And.intro ?_ ?_
  omega
  with_reducible refine And.intro ?_ ?_
  omega
  with_reducible exact hX hXc0
  simp only [kx_r]
  ((with_reducible refine isHgo ?_); refine hgo_h (HH := [(0, 10, 13, 19), (0, 10, 16, 74)]) (NN := [(19, "java/lang/IndexOutOfBoundsException"), (74, "java/lang/IllegalStateException")]) (h := 16) (E := "java/lang/IllegalStateException") rfl rfl (by decide +kernel) (by decide) (fun _ => ?_))
  simp only [eL_howOften_16, nl_ref]
  with_reducible refine And.intro ?_ ?_
  omega
  with_reducible refine And.intro ?_ ?_
  omega
  with_reducible exact hS hSc0 hSc1
  simp only [eL_howOften_6, eL_howOften_10, kx_l, tl_s, nf_l, true_and]
  with_reducible refine go_OF hL (fun _ _ hw => ?_)
  with_reducible refine And.intro ?_ ?_
  simp only [List.length_cons, List.length_nil, Nat.zero_add]
  omega
  with_reducible refine And.intro ?_ ?_
  omega
  with_reducible refine And.intro ?_ ?_
  omega
  simp only [List.set_cons_zero]
  with_reducible exact hQ hQc0 hQr hQc1 _ (hw _ _) outN.mk
set_option maxHeartbeats 4000000 in
theorem fL_lift {a0 : Int32} (hL : LW g w x nA cA lA y nM o kn km th s s2) (hX : ¬ okC a0 → Q (.inl (some (.int 1))) w) (hS : okC a0 → s.2.1 a0.toNatClampNeg = none → Q (.inl (some (.int 2))) w) (hN : okC a0 → ∀ r, s.2.1 a0.toNatClampNeg = some r → (∀ i, i < s.2.2.1.toInt.toNat → ¬ mP r (s.2.2.2.1 i)) → ∀ w', LW g w' x nA cA lA y nM o kn km th s s2 → outN w' o ((0 : Int32).toInt64) → Q (.inl (some (.int 0))) w') (hQ : okC a0 → ∀ r, s.2.1 a0.toNatClampNeg = some r → ∀ i, i < s.2.2.1.toInt.toNat → mP r (s.2.2.2.1 i) → (∀ k, k < i → ¬ mP r (s.2.2.2.1 k)) → ∀ w', LW g w' x nA cA lA y nM o kn km th (sP_ s (s.2.2.1 - 1) (rmv s.2.2.2.1 i)) s2 → outN w' o ((1 : Int32).toInt64) → Q (.inl (some (.int 0))) w') : WP (ML_lift g) Q (0, [some (.ref x), some (.int a0), some (.ref o), none], [], w, 0, 0) := by
  have ho := hL.2.1
  simp only [eL_lift_0, wt_nil, wt_ref, Nat.zero_add, Nat.add_zero]
  with_reducible refine And.intro ?_ ?_
  with_reducible refine LW.gx hL (fun _ => trivial)
  with_reducible refine And.intro ?_ ?_
  omega
  with_reducible refine And.intro ?_ ?_
  omega
  with_reducible refine And.intro ?_ ?_
  omega
  with_reducible refine fX1_lift hL.cs (fun hXc0 => ?_) (fun hSc0 hSc1 => ?_) (fun hNc0 hNr hNc1 hNc2 => ?_) (fun hQc0 hQr hQc1 hQi hQc2 hQc3 hQc4 hQw hQh => ?_)
  simp only [kx_r]
  ((with_reducible refine isHgo ?_); refine hgo_h (HH := [(0, 10, 13, 19), (0, 10, 16, 74)]) (NN := [(19, "java/lang/IndexOutOfBoundsException"), (74, "java/lang/IllegalStateException")]) (h := 13) (E := "java/lang/IndexOutOfBoundsException") rfl rfl (by decide +kernel) (by decide) (fun _ => ?_))
  simp only [eL_lift_13, nl_ref]
  with_reducible refine And.intro ?_ ?_
  omega
  with_reducible refine And.intro ?_ ?_
  omega
  with_reducible exact hX hXc0
  simp only [kx_r]
  ((with_reducible refine isHgo ?_); refine hgo_h (HH := [(0, 10, 13, 19), (0, 10, 16, 74)]) (NN := [(19, "java/lang/IndexOutOfBoundsException"), (74, "java/lang/IllegalStateException")]) (h := 16) (E := "java/lang/IllegalStateException") rfl rfl (by decide +kernel) (by decide) (fun _ => ?_))
  simp only [eL_lift_16, nl_ref]
  with_reducible refine And.intro ?_ ?_
  omega
  with_reducible refine And.intro ?_ ?_
  omega
  with_reducible exact hS hSc0 hSc1
  simp only [eL_lift_6, eL_lift_10, kx_l, tl_s, nf_l, true_and]
  with_reducible refine go_OF hL (fun _ _ hw => ?_)
  with_reducible refine And.intro ?_ ?_
  simp only [List.length_cons, List.length_nil, Nat.zero_add]
  omega
  with_reducible refine And.intro ?_ ?_
  omega
  with_reducible refine And.intro ?_ ?_
  omega
  simp only [List.set_cons_zero]
  with_reducible exact hN hNc0 hNr hNc1 hNc2 _ (hw _ _) outN.mk
  simp only [eL_lift_6, eL_lift_10, kx_l, tl_s, nf_l, true_and]
  with_reducible refine go_OF (LW.of hL hQh (by first | with_reducible exact ho | with_reducible exact ho.num | with_reducible exact ho.rf | with_reducible exact ho.mk (by assumption) | with_reducible exact ho.mk (ho.c' (by assumption) (by assumption)) | with_reducible exact ho.mkO (by assumption) (by assumption) | with_reducible exact ho.card0 | with_reducible exact ho.card (ho.c' (by assumption) (by assumption)) | with_reducible exact ho.card (ho.p' (by assumption)) | with_reducible exact ho.lay (ho.c' (by assumption) (by assumption)) (by assumption) | with_reducible exact ho.gap (by assumption) | with_reducible exact ho.tur | with_reducible exact ho.zero)) (fun _ _ hw => ?_)
  with_reducible refine And.intro ?_ ?_
  simp only [List.length_cons, List.length_nil, Nat.zero_add]
  omega
  with_reducible refine And.intro ?_ ?_
  omega
  with_reducible refine And.intro ?_ ?_
  omega
  simp only [List.set_cons_zero]
  with_reducible exact hQ hQc0 hQr hQc1 hQi hQc2 hQc3 hQc4 _ (hw _ _) outN.mk
set_option maxHeartbeats 4000000 in
theorem fL_pick {a0 a1 : Int32} (hL : LW g w x nA cA lA y nM o kn km th s s2) (hX : ¬ (okP s.2.2.1 a0 ∧ okC a1) → Q (.inl (some (.int 1))) w) (hN : okP s.2.2.1 a0 → okC a1 → s.2.1 a1.toNatClampNeg = none → ∀ w', LW g w' x nA cA lA y nM o kn km th (sC s (va_up s.2.1 a1.toNatClampNeg (some (s.2.2.2.1 a0.toNatClampNeg)))) s2 → outN w' o ((0 : Int32).toInt64) → Q (.inl (some (.int 0))) w') (hS : okP s.2.2.1 a0 → okC a1 → ∀ r, s.2.1 a1.toNatClampNeg = some r → ∀ w', LW g w' x nA cA lA y nM o kn km th (sC s (va_up s.2.1 a1.toNatClampNeg (some (s.2.2.2.1 a0.toNatClampNeg)))) s2 → outN w' o ((1 : Int32).toInt64) → Q (.inl (some (.int 0))) w') : WP (ML_pick g) Q (0, [some (.ref x), some (.int a0), some (.int a1), some (.ref o), none], [], w, 0, 0) := by
  have ho := hL.2.1
  simp only [eL_pick_0, wt_nil, wt_ref, Nat.zero_add, Nat.add_zero]
  with_reducible refine And.intro ?_ ?_
  with_reducible refine LW.gx hL (fun _ => trivial)
  with_reducible refine And.intro ?_ ?_
  omega
  with_reducible refine And.intro ?_ ?_
  omega
  with_reducible refine And.intro ?_ ?_
  omega
  with_reducible refine fX1_pick hL.cs (fun hXc0 => ?_) (fun hNc0 hNc1 hNc2 hNw hNh => ?_) (fun hSc0 hSc1 hSr hSc2 hSw hSh => ?_)
  simp only [kx_r]
  ((with_reducible refine isHgo ?_); refine hgo_h (HH := [(0, 11, 14, 19)]) (NN := [(19, "java/lang/IndexOutOfBoundsException")]) (h := 14) (E := "java/lang/IndexOutOfBoundsException") rfl rfl (by decide +kernel) (by decide) (fun _ => ?_))
  simp only [eL_pick_14, nl_ref]
  with_reducible refine And.intro ?_ ?_
  omega
  with_reducible refine And.intro ?_ ?_
  omega
  with_reducible exact hX hXc0
  simp only [eL_pick_7, eL_pick_11, kx_l, tl_s, nf_l, true_and]
  with_reducible refine go_OF (LW.of hL hNh (by first | with_reducible exact ho | with_reducible exact ho.num | with_reducible exact ho.rf | with_reducible exact ho.mk (by assumption) | with_reducible exact ho.mk (ho.c' (by assumption) (by assumption)) | with_reducible exact ho.mkO (by assumption) (by assumption) | with_reducible exact ho.card0 | with_reducible exact ho.card (ho.c' (by assumption) (by assumption)) | with_reducible exact ho.card (ho.p' (by assumption)) | with_reducible exact ho.lay (ho.c' (by assumption) (by assumption)) (by assumption) | with_reducible exact ho.gap (by assumption) | with_reducible exact ho.tur | with_reducible exact ho.zero)) (fun _ _ hw => ?_)
  with_reducible refine And.intro ?_ ?_
  simp only [List.length_cons, List.length_nil, Nat.zero_add]
  omega
  with_reducible refine And.intro ?_ ?_
  omega
  with_reducible refine And.intro ?_ ?_
  omega
  simp only [List.set_cons_zero]
  with_reducible exact hN hNc0 hNc1 hNc2 _ (hw _ _) outN.mk
  simp only [eL_pick_7, eL_pick_11, kx_l, tl_s, nf_l, true_and]
  with_reducible refine go_OF (LW.of hL hSh (by first | with_reducible exact ho | with_reducible exact ho.num | with_reducible exact ho.rf | with_reducible exact ho.mk (by assumption) | with_reducible exact ho.mk (ho.c' (by assumption) (by assumption)) | with_reducible exact ho.mkO (by assumption) (by assumption) | with_reducible exact ho.card0 | with_reducible exact ho.card (ho.c' (by assumption) (by assumption)) | with_reducible exact ho.card (ho.p' (by assumption)) | with_reducible exact ho.lay (ho.c' (by assumption) (by assumption)) (by assumption) | with_reducible exact ho.gap (by assumption) | with_reducible exact ho.tur | with_reducible exact ho.zero)) (fun _ _ hw => ?_)
  with_reducible refine And.intro ?_ ?_
  simp only [List.length_cons, List.length_nil, Nat.zero_add]
  omega
  with_reducible refine And.intro ?_ ?_
  omega
  with_reducible refine And.intro ?_ ?_
  omega
  simp only [List.set_cons_zero]
  with_reducible exact hS hSc0 hSc1 hSr hSc2 _ (hw _ _) outN.mk
set_option maxHeartbeats 4000000 in
theorem gL_pile {a0 a1 : Int32} (hR : RG g) (hL : LW g w x nA cA lA y nM o kn km th s s2) (hQ : ∀ (v : Int32) (w' : Hw), LW g w' x nA cA lA y nM o kn km th s s2 → Q (.inl (some (.int v))) w') : WP (ML_pile g) Q (0, [some (.ref x), some (.int a0), some (.int a1), some (.ref o), none], [], w, 0, 0) := by
  simp only [eL_pile_0, wt_nil, wt_ref, Nat.zero_add, Nat.add_zero]
  with_reducible refine And.intro ?_ ?_
  with_reducible refine LW.gx hL (fun _ => trivial)
  with_reducible refine And.intro ?_ ?_
  omega
  with_reducible refine And.intro ?_ ?_
  omega
  with_reducible refine And.intro ?_ ?_
  omega
  with_reducible refine sX1_pile hL.cc ?_ ?_ (fun _ => ?_)
  simp only [kx_r]
  ((with_reducible refine isHgo ?_); refine hgo_h (HH := [(0, 11, 14, 19), (0, 11, 18, 28)]) (NN := [(19, "java/lang/IndexOutOfBoundsException"), (28, "java/lang/IllegalArgumentException")]) (h := 14) (E := "java/lang/IndexOutOfBoundsException") rfl rfl (by decide +kernel) (by decide) (fun _ => ?_))
  simp only [eL_pile_14, nl_ref]
  with_reducible refine And.intro ?_ ?_
  omega
  with_reducible refine And.intro ?_ ?_
  omega
  with_reducible exact hQ _ _ hL
  simp only [kx_r]
  ((with_reducible refine isHgo ?_); refine hgo_h (HH := [(0, 11, 14, 19), (0, 11, 18, 28)]) (NN := [(19, "java/lang/IndexOutOfBoundsException"), (28, "java/lang/IllegalArgumentException")]) (h := 18) (E := "java/lang/IllegalArgumentException") rfl rfl (by decide +kernel) (by decide) (fun _ => ?_))
  simp only [eL_pile_18, nl_ref]
  with_reducible refine And.intro ?_ ?_
  omega
  with_reducible refine And.intro ?_ ?_
  omega
  with_reducible exact hQ _ _ hL
  simp only [eL_pile_7, eL_pile_11, kx_l, tl_s, nf_l, true_and]
  with_reducible refine go_OF (by first | assumption | exact hL | exact hL.ext (by assumption)) (fun _ _ hw => ?_)
  with_reducible refine And.intro ?_ ?_
  simp only [List.length_cons, List.length_nil, Nat.zero_add]
  omega
  with_reducible refine And.intro ?_ ?_
  omega
  with_reducible refine And.intro ?_ ?_
  omega
  simp only [List.set_cons_zero]
  with_reducible exact hQ _ _ (hw _ _)
set_option maxHeartbeats 4000000 in
theorem gL_house {a0 : Int32} (hR : RG g) (hL : LW g w x nA cA lA y nM o kn km th s s2) (hQ : ∀ (v : Int32) (w' : Hw), LW g w' x nA cA lA y nM o kn km th s s2 → Q (.inl (some (.int v))) w') : WP (ML_house g) Q (0, [some (.ref x), some (.int a0), some (.ref o), none], [], w, 0, 0) := by
  repeat' first
    | with_reducible assumption
    | with_reducible refine And.intro ?_ ?_
    | with_reducible refine LW.gx hL (fun _ => trivial)
    | with_reducible refine sX1_house hL.cc ?_ (fun _ => ?_)
    | ((with_reducible refine isHgo ?_); refine hgo_h (HH := [(0, 10, 13, 28)]) (NN := [(28, "java/lang/IllegalArgumentException")]) (h := 13) (E := "java/lang/IllegalArgumentException") rfl rfl (by decide +kernel) (by decide) (fun _ => ?_))
    | with_reducible refine go_OF (by first | assumption | exact hL | exact hL.ext (by assumption)) (fun _ _ hw => ?_)
    | with_reducible exact hQ _ _ (hw _ _)
    | with_reducible exact hQ _ _ hL
    | simp only [eL_house_0, eL_house_0N, eL_house_1, eL_house_1N, eL_house_2, eL_house_6, eL_house_10, eL_house_13, eL_house_13N, eL_house_14, ite_le, n45, n54, true_or, or_true, false_or, or_false, false_and, and_false, kx_l, kx_r, go_s, gl_s, gi_s, gb_s2, gb_s3, gq_s, wt_nil, wt_int, wt_long, wt_ref, wt_null, nl_int, nl_long, nl_ref, nl_null, nl_none, rf_n, rf_s, rf_st, tl_s, tl_n, g0, gS, ex1, nb_b, nb_0, nb_1, nf_i, nf_l, nf_ra, nf_ro, nf_na, nf_no, nf_b0, nf_z0, t45_4, t45_5, true_and, and_true, List.set_cons_zero, List.set_cons_succ, List.length_cons, List.length_nil, rd_s, upw_s, ne_eq, not_false_eq_true, Nat.zero_add, Nat.add_zero, if_true, if_false, eq_self, tyX2]
    | split
    | with_reducible intro _
    | omega
end
end
/-! 79.cw0.lean.txt -/
section
section
variable {g : RO} {w : Hw} {x nA cA lA y nM o b L k n : Nat} {xs : Nat → Int32} {i kn th : Int32} {s : AS} {l5 l6 : Option Value}
def QLaw : Ot → Hw → Prop := fun o _ => o = .inl (some (.int 1))
theorem vpin (h0 : 0 ≤ i.toInt) (h1 : i.toInt < (L : Int)) : vp_in i L := by
  rintro (h | h)
  · have h2 := i32_lt h
    have e : (0 : Int32).toInt = 0 := rfl
    omega
  · have e : i.toNatClampNeg = i.toInt.toNat := rfl
    omega
theorem gi_L (h : LW g w x nA cA lA y nM o kn kn th s s) (hb : g.2 b = some (.inl (1, L, .inl xs))) {K : Nat → (Nat → Int32) → Prop} (k : K L xs) : gi (rd g w b) 1 K := gi_W h hb k
theorem n12z : ((1 : Int32) = 0) = False := eq_false (by decide)
theorem n2z : ((2 : Int32) = 0) = False := eq_false (by decide)
theorem n3z : ((3 : Int32) = 0) = False := eq_false (by decide)
set_option maxHeartbeats 4000000 in
theorem cL_0 (hR : RG g) (hb : g.2 b = some (.inl (1, L, .inl xs))) (hL : LW g w x nA cA lA y nM o kn kn th s s) (v1 : vp_in (i + 1) L) (v2 : vp_in (i + 2) L) (v3 : vp_in (i + 3) L) (v4 : vp_in (i + 4) L) (v5 : vp_in (i + 5) L) (hk : k + 114 ≤ 58408) (hn : n + 2834 ≤ 1451408) (next : (∀ (l5' l6' : Option Value) (w' : Hw) (k' n' : Nat) (kn' th' : Int32) (s' : AS), LW g w' x nA cA lA y nM o kn' kn' th' s' s' → k' ≤ k + 114 → n' ≤ n + 2834 → WP (ML_law g) QLaw (2218, [some (.ref b), some (.ref x), some (.ref y), some (.ref o), some (.int i), l5', l6'], [], w', k', n'))) : WP (ML_law g) QLaw (256, [some (.ref b), some (.ref x), some (.ref y), some (.ref o), some (.int i), l5, l6], [], w, k, n) := by
  simp only [eL_law_256, eL_law_263, eL_law_269, eL_law_275, wt_nil]
  with_reducible refine gi_W hL hb ?_
  with_reducible refine And.intro ?_ ?_
  with_reducible assumption
  with_reducible refine gi_W hL hb ?_
  with_reducible refine And.intro ?_ ?_
  with_reducible assumption
  with_reducible refine gi_W hL hb ?_
  with_reducible refine And.intro ?_ ?_
  with_reducible assumption
  with_reducible refine And.intro ?_ ?_
  omega
  with_reducible refine And.intro ?_ ?_
  omega
  with_reducible refine And.intro ?_ ?_
  omega
  with_reducible refine fL_set hL (fun hXpc0 => ?_) (fun hQpc0 hQpw hQph hQpo => ?_)
  simp only [eL_law_279, eL_law_283, eL_law_288, eL_law_294, eL_law_300, kx_l, wt_nil, nl_int, tl_s, Nat.add_zero]
  with_reducible refine gi_W hL hb ?_
  with_reducible refine And.intro ?_ ?_
  with_reducible assumption
  with_reducible refine gi_W hL hb ?_
  with_reducible refine And.intro ?_ ?_
  with_reducible assumption
  with_reducible refine gi_W hL hb ?_
  with_reducible refine And.intro ?_ ?_
  with_reducible assumption
  with_reducible refine And.intro ?_ ?_
  with_reducible refine LW.gz hL (fun _ => trivial)
  with_reducible refine And.intro ?_ ?_
  omega
  with_reducible refine And.intro ?_ ?_
  omega
  with_reducible refine And.intro ?_ ?_
  omega
  with_reducible refine fX3_set (LW.ms hL) (fun hXqc0 hXqw hXqh => ?_) (fun hQqc0 hQqw hQqh => ?_)
  simp only [eL_law_303, kx_l, nl_int, tl_s]
  with_reducible exact next _ _ _ _ _ _ _ _ (LW.ofM hL hXqh) (by omega) (by omega)
  with_reducible exact absurd hQqc0 hXpc0
  simp only [eL_law_279, eL_law_283, eL_law_288, eL_law_294, eL_law_300, kx_l, wt_nil, nl_int, tl_s, Nat.add_zero]
  with_reducible refine gi_W hQph hb ?_
  with_reducible refine And.intro ?_ ?_
  with_reducible assumption
  with_reducible refine gi_W hQph hb ?_
  with_reducible refine And.intro ?_ ?_
  with_reducible assumption
  with_reducible refine gi_W hQph hb ?_
  with_reducible refine And.intro ?_ ?_
  with_reducible assumption
  with_reducible refine And.intro ?_ ?_
  with_reducible refine LW.gz hQph (fun _ => trivial)
  with_reducible refine And.intro ?_ ?_
  omega
  with_reducible refine And.intro ?_ ?_
  omega
  with_reducible refine And.intro ?_ ?_
  omega
  with_reducible refine fX3_set (LW.ms hQph) (fun hXqc0 hXqw hXqh => ?_) (fun hQqc0 hQqw hQqh => ?_)
  with_reducible exact absurd hQpc0 hXqc0
  simp only [eL_law_303, kx_l, nl_int, tl_s]
  with_reducible exact next _ _ _ _ _ _ _ _ (LW.ofM hQph hQqh) (by omega) (by omega)
set_option maxHeartbeats 4000000 in
theorem cL_1 (hR : RG g) (hb : g.2 b = some (.inl (1, L, .inl xs))) (hL : LW g w x nA cA lA y nM o kn kn th s s) (v1 : vp_in (i + 1) L) (v2 : vp_in (i + 2) L) (v3 : vp_in (i + 3) L) (v4 : vp_in (i + 4) L) (v5 : vp_in (i + 5) L) (hk : k + 114 ≤ 58408) (hn : n + 2834 ≤ 1451408) (next : (∀ (l5' l6' : Option Value) (w' : Hw) (k' n' : Nat) (kn' th' : Int32) (s' : AS), LW g w' x nA cA lA y nM o kn' kn' th' s' s' → k' ≤ k + 114 → n' ≤ n + 2834 → WP (ML_law g) QLaw (2218, [some (.ref b), some (.ref x), some (.ref y), some (.ref o), some (.int i), l5', l6'], [], w', k', n'))) : WP (ML_law g) QLaw (308, [some (.ref b), some (.ref x), some (.ref y), some (.ref o), some (.int i), l5, l6], [], w, k, n) := by
  simp only [eL_law_308, eL_law_315, eL_law_321, wt_nil]
  with_reducible refine gi_W hL hb ?_
  with_reducible refine And.intro ?_ ?_
  with_reducible assumption
  with_reducible refine gi_W hL hb ?_
  with_reducible refine And.intro ?_ ?_
  with_reducible assumption
  with_reducible refine And.intro ?_ ?_
  omega
  with_reducible refine And.intro ?_ ?_
  omega
  with_reducible refine And.intro ?_ ?_
  omega
  with_reducible refine fL_setSmall hL (fun hXpc0 => ?_) (fun hQpc0 hQpw hQph hQpo => ?_)
  simp only [eL_law_325, eL_law_329, eL_law_334, eL_law_340, kx_l, wt_nil, nl_int, tl_s, Nat.add_zero]
  with_reducible refine gi_W hL hb ?_
  with_reducible refine And.intro ?_ ?_
  with_reducible assumption
  with_reducible refine gi_W hL hb ?_
  with_reducible refine And.intro ?_ ?_
  with_reducible assumption
  with_reducible refine And.intro ?_ ?_
  with_reducible refine LW.gz hL (fun _ => trivial)
  with_reducible refine And.intro ?_ ?_
  omega
  with_reducible refine And.intro ?_ ?_
  omega
  with_reducible refine And.intro ?_ ?_
  omega
  with_reducible refine fX3_setSmall (LW.ms hL) (fun hXqc0 hXqw hXqh => ?_) (fun hQqc0 hQqw hQqh => ?_)
  simp only [eL_law_343, kx_l, nl_int, tl_s]
  with_reducible exact next _ _ _ _ _ _ _ _ (LW.ofM hL hXqh) (by omega) (by omega)
  with_reducible exact absurd hQqc0 hXpc0
  simp only [eL_law_325, eL_law_329, eL_law_334, eL_law_340, kx_l, wt_nil, nl_int, tl_s, Nat.add_zero]
  with_reducible refine gi_W hQph hb ?_
  with_reducible refine And.intro ?_ ?_
  with_reducible assumption
  with_reducible refine gi_W hQph hb ?_
  with_reducible refine And.intro ?_ ?_
  with_reducible assumption
  with_reducible refine And.intro ?_ ?_
  with_reducible refine LW.gz hQph (fun _ => trivial)
  with_reducible refine And.intro ?_ ?_
  omega
  with_reducible refine And.intro ?_ ?_
  omega
  with_reducible refine And.intro ?_ ?_
  omega
  with_reducible refine fX3_setSmall (LW.ms hQph) (fun hXqc0 hXqw hXqh => ?_) (fun hQqc0 hQqw hQqh => ?_)
  with_reducible exact absurd hQpc0 hXqc0
  simp only [eL_law_343, kx_l, nl_int, tl_s]
  with_reducible exact next _ _ _ _ _ _ _ _ (LW.ofM hQph hQqh) (by omega) (by omega)
set_option maxHeartbeats 4000000 in
theorem cL_2 (hR : RG g) (hb : g.2 b = some (.inl (1, L, .inl xs))) (hL : LW g w x nA cA lA y nM o kn kn th s s) (v1 : vp_in (i + 1) L) (v2 : vp_in (i + 2) L) (v3 : vp_in (i + 3) L) (v4 : vp_in (i + 4) L) (v5 : vp_in (i + 5) L) (hk : k + 114 ≤ 58408) (hn : n + 2834 ≤ 1451408) (next : (∀ (l5' l6' : Option Value) (w' : Hw) (k' n' : Nat) (kn' th' : Int32) (s' : AS), LW g w' x nA cA lA y nM o kn' kn' th' s' s' → k' ≤ k + 114 → n' ≤ n + 2834 → WP (ML_law g) QLaw (2218, [some (.ref b), some (.ref x), some (.ref y), some (.ref o), some (.int i), l5', l6'], [], w', k', n'))) : WP (ML_law g) QLaw (348, [some (.ref b), some (.ref x), some (.ref y), some (.ref o), some (.int i), l5, l6], [], w, k, n) := by
  simp only [eL_law_348, eL_law_355, eL_law_361, wt_nil]
  with_reducible refine gi_W hL hb ?_
  with_reducible refine And.intro ?_ ?_
  with_reducible assumption
  with_reducible refine gi_W hL hb ?_
  with_reducible refine And.intro ?_ ?_
  with_reducible assumption
  with_reducible refine And.intro ?_ ?_
  omega
  with_reducible refine And.intro ?_ ?_
  omega
  with_reducible refine And.intro ?_ ?_
  omega
  with_reducible refine fL_setEnd hL (fun hXpc0 => ?_) (fun hWpc0 hWpc1 => ?_) (fun hQpc0 hQpc1 hQpw hQph hQpo => ?_)
  simp only [eL_law_365, eL_law_369, eL_law_374, eL_law_380, kx_l, wt_nil, nl_int, tl_s]
  with_reducible refine gi_W hL hb ?_
  with_reducible refine And.intro ?_ ?_
  with_reducible assumption
  with_reducible refine gi_W hL hb ?_
  with_reducible refine And.intro ?_ ?_
  with_reducible assumption
  with_reducible refine And.intro ?_ ?_
  with_reducible refine LW.gz hL (fun _ => trivial)
  with_reducible refine And.intro ?_ ?_
  omega
  with_reducible refine And.intro ?_ ?_
  omega
  with_reducible refine And.intro ?_ ?_
  omega
  with_reducible refine fX3_setEnd (LW.ms hL) (fun hXqc0 hXqw hXqh => ?_) (fun hWqc0 hWqc1 hWqw hWqh => ?_) (fun hQqc0 hQqc1 hQqw hQqh => ?_)
  simp only [eL_law_383, kx_l, nl_int, tl_s]
  with_reducible exact next _ _ _ _ _ _ _ _ (LW.ofM hL hXqh) (by omega) (by omega)
  with_reducible exact absurd hWqc0 hXpc0
  with_reducible exact absurd hQqc0 hXpc0
  simp only [eL_law_365, eL_law_369, eL_law_374, eL_law_380, kx_l, wt_nil, nl_int, tl_s]
  with_reducible refine gi_W hL hb ?_
  with_reducible refine And.intro ?_ ?_
  with_reducible assumption
  with_reducible refine gi_W hL hb ?_
  with_reducible refine And.intro ?_ ?_
  with_reducible assumption
  with_reducible refine And.intro ?_ ?_
  with_reducible refine LW.gz hL (fun _ => trivial)
  with_reducible refine And.intro ?_ ?_
  omega
  with_reducible refine And.intro ?_ ?_
  omega
  with_reducible refine And.intro ?_ ?_
  omega
  with_reducible refine fX3_setEnd (LW.ms hL) (fun hXqc0 hXqw hXqh => ?_) (fun hWqc0 hWqc1 hWqw hWqh => ?_) (fun hQqc0 hQqc1 hQqw hQqh => ?_)
  with_reducible exact absurd hWpc0 hXqc0
  simp only [eL_law_383, kx_l, nl_int, tl_s]
  with_reducible exact next _ _ _ _ _ _ _ _ (LW.ofM hL hWqh) (by omega) (by omega)
  with_reducible exact absurd hQqc1 hWpc1
  simp only [eL_law_365, eL_law_369, eL_law_374, eL_law_380, kx_l, wt_nil, nl_int, tl_s]
  with_reducible refine gi_W hQph hb ?_
  with_reducible refine And.intro ?_ ?_
  with_reducible assumption
  with_reducible refine gi_W hQph hb ?_
  with_reducible refine And.intro ?_ ?_
  with_reducible assumption
  with_reducible refine And.intro ?_ ?_
  with_reducible refine LW.gz hQph (fun _ => trivial)
  with_reducible refine And.intro ?_ ?_
  omega
  with_reducible refine And.intro ?_ ?_
  omega
  with_reducible refine And.intro ?_ ?_
  omega
  with_reducible refine fX3_setEnd (LW.ms hQph) (fun hXqc0 hXqw hXqh => ?_) (fun hWqc0 hWqc1 hWqw hWqh => ?_) (fun hQqc0 hQqc1 hQqw hQqh => ?_)
  with_reducible exact absurd hQpc0 hXqc0
  with_reducible exact absurd hQpc1 hWqc1
  simp only [eL_law_383, kx_l, nl_int, tl_s]
  with_reducible exact next _ _ _ _ _ _ _ _ (LW.ofM hQph hQqh) (by omega) (by omega)
set_option maxHeartbeats 4000000 in
theorem cL_3 (hR : RG g) (hb : g.2 b = some (.inl (1, L, .inl xs))) (hL : LW g w x nA cA lA y nM o kn kn th s s) (v1 : vp_in (i + 1) L) (v2 : vp_in (i + 2) L) (v3 : vp_in (i + 3) L) (v4 : vp_in (i + 4) L) (v5 : vp_in (i + 5) L) (hk : k + 114 ≤ 58408) (hn : n + 2834 ≤ 1451408) (next : (∀ (l5' l6' : Option Value) (w' : Hw) (k' n' : Nat) (kn' th' : Int32) (s' : AS), LW g w' x nA cA lA y nM o kn' kn' th' s' s' → k' ≤ k + 114 → n' ≤ n + 2834 → WP (ML_law g) QLaw (2218, [some (.ref b), some (.ref x), some (.ref y), some (.ref o), some (.int i), l5', l6'], [], w', k', n'))) : WP (ML_law g) QLaw (388, [some (.ref b), some (.ref x), some (.ref y), some (.ref o), some (.int i), l5, l6], [], w, k, n) := by
  simp only [eL_law_388, eL_law_395, eL_law_401, wt_nil]
  with_reducible refine gi_W hL hb ?_
  with_reducible refine And.intro ?_ ?_
  with_reducible assumption
  with_reducible refine gi_W hL hb ?_
  with_reducible refine And.intro ?_ ?_
  with_reducible assumption
  with_reducible refine And.intro ?_ ?_
  omega
  with_reducible refine And.intro ?_ ?_
  omega
  with_reducible refine And.intro ?_ ?_
  omega
  with_reducible refine fL_move hL (fun hXpc0 => ?_) (fun hQpc0 hQpw hQph hQpo => ?_)
  simp only [eL_law_405, eL_law_409, eL_law_414, eL_law_420, kx_l, wt_nil, nl_int, tl_s, Nat.add_zero]
  with_reducible refine gi_W hL hb ?_
  with_reducible refine And.intro ?_ ?_
  with_reducible assumption
  with_reducible refine gi_W hL hb ?_
  with_reducible refine And.intro ?_ ?_
  with_reducible assumption
  with_reducible refine And.intro ?_ ?_
  with_reducible refine LW.gz hL (fun _ => trivial)
  with_reducible refine And.intro ?_ ?_
  omega
  with_reducible refine And.intro ?_ ?_
  omega
  with_reducible refine And.intro ?_ ?_
  omega
  with_reducible refine fX3_move (LW.ms hL) (fun hXqc0 hXqw hXqh => ?_) (fun hQqc0 hQqw hQqh => ?_)
  simp only [eL_law_423, kx_l, nl_int, tl_s]
  with_reducible exact next _ _ _ _ _ _ _ _ (LW.ofM hL hXqh) (by omega) (by omega)
  with_reducible exact absurd hQqc0 hXpc0
  simp only [eL_law_405, eL_law_409, eL_law_414, eL_law_420, kx_l, wt_nil, nl_int, tl_s, Nat.add_zero]
  with_reducible refine gi_W hQph hb ?_
  with_reducible refine And.intro ?_ ?_
  with_reducible assumption
  with_reducible refine gi_W hQph hb ?_
  with_reducible refine And.intro ?_ ?_
  with_reducible assumption
  with_reducible refine And.intro ?_ ?_
  with_reducible refine LW.gz hQph (fun _ => trivial)
  with_reducible refine And.intro ?_ ?_
  omega
  with_reducible refine And.intro ?_ ?_
  omega
  with_reducible refine And.intro ?_ ?_
  omega
  with_reducible refine fX3_move (LW.ms hQph) (fun hXqc0 hXqw hXqh => ?_) (fun hQqc0 hQqw hQqh => ?_)
  with_reducible exact absurd hQpc0 hXqc0
  simp only [eL_law_423, kx_l, nl_int, tl_s]
  with_reducible exact next _ _ _ _ _ _ _ _ (LW.ofM hQph hQqh) (by omega) (by omega)
set_option maxHeartbeats 4000000 in
theorem cL_4 (hR : RG g) (hb : g.2 b = some (.inl (1, L, .inl xs))) (hL : LW g w x nA cA lA y nM o kn kn th s s) (v1 : vp_in (i + 1) L) (v2 : vp_in (i + 2) L) (v3 : vp_in (i + 3) L) (v4 : vp_in (i + 4) L) (v5 : vp_in (i + 5) L) (hk : k + 114 ≤ 58408) (hn : n + 2834 ≤ 1451408) (next : (∀ (l5' l6' : Option Value) (w' : Hw) (k' n' : Nat) (kn' th' : Int32) (s' : AS), LW g w' x nA cA lA y nM o kn' kn' th' s' s' → k' ≤ k + 114 → n' ≤ n + 2834 → WP (ML_law g) QLaw (2218, [some (.ref b), some (.ref x), some (.ref y), some (.ref o), some (.int i), l5', l6'], [], w', k', n'))) : WP (ML_law g) QLaw (428, [some (.ref b), some (.ref x), some (.ref y), some (.ref o), some (.int i), l5, l6], [], w, k, n) := by
  simp only [eL_law_428, eL_law_435, eL_law_441, wt_nil]
  with_reducible refine gi_W hL hb ?_
  with_reducible refine And.intro ?_ ?_
  with_reducible assumption
  with_reducible refine gi_W hL hb ?_
  with_reducible refine And.intro ?_ ?_
  with_reducible assumption
  with_reducible refine And.intro ?_ ?_
  omega
  with_reducible refine And.intro ?_ ?_
  omega
  with_reducible refine And.intro ?_ ?_
  omega
  with_reducible refine fL_copy hL (fun hXpc0 => ?_) (fun hQpc0 hQpc1 hQpw hQph hQpo => ?_)
  simp only [eL_law_445, eL_law_449, eL_law_454, eL_law_460, kx_l, wt_nil, nl_int, tl_s, Nat.add_zero]
  with_reducible refine gi_W hL hb ?_
  with_reducible refine And.intro ?_ ?_
  with_reducible assumption
  with_reducible refine gi_W hL hb ?_
  with_reducible refine And.intro ?_ ?_
  with_reducible assumption
  with_reducible refine And.intro ?_ ?_
  with_reducible refine LW.gz hL (fun _ => trivial)
  with_reducible refine And.intro ?_ ?_
  omega
  with_reducible refine And.intro ?_ ?_
  omega
  with_reducible refine And.intro ?_ ?_
  omega
  with_reducible refine fX3_copy (LW.ms hL) (fun hXqc0 hXqw hXqh => ?_) (fun hQqc0 hQqc1 hQqw hQqh => ?_)
  simp only [eL_law_463, kx_l, nl_int, tl_s]
  with_reducible exact next _ _ _ _ _ _ _ _ (LW.ofM hL hXqh) (by omega) (by omega)
  with_reducible exact absurd (And.intro hQqc0 hQqc1) hXpc0
  simp only [eL_law_445, eL_law_449, eL_law_454, eL_law_460, kx_l, wt_nil, nl_int, tl_s, Nat.add_zero]
  with_reducible refine gi_W hQph hb ?_
  with_reducible refine And.intro ?_ ?_
  with_reducible assumption
  with_reducible refine gi_W hQph hb ?_
  with_reducible refine And.intro ?_ ?_
  with_reducible assumption
  with_reducible refine And.intro ?_ ?_
  with_reducible refine LW.gz hQph (fun _ => trivial)
  with_reducible refine And.intro ?_ ?_
  omega
  with_reducible refine And.intro ?_ ?_
  omega
  with_reducible refine And.intro ?_ ?_
  omega
  with_reducible refine fX3_copy (LW.ms hQph) (fun hXqc0 hXqw hXqh => ?_) (fun hQqc0 hQqc1 hQqw hQqh => ?_)
  with_reducible exact absurd (And.intro hQpc0 hQpc1) hXqc0
  simp only [eL_law_463, kx_l, nl_int, tl_s]
  with_reducible exact next _ _ _ _ _ _ _ _ (LW.ofM hQph hQqh) (by omega) (by omega)
set_option maxHeartbeats 4000000 in
theorem cL_5 (hR : RG g) (hb : g.2 b = some (.inl (1, L, .inl xs))) (hL : LW g w x nA cA lA y nM o kn kn th s s) (v1 : vp_in (i + 1) L) (v2 : vp_in (i + 2) L) (v3 : vp_in (i + 3) L) (v4 : vp_in (i + 4) L) (v5 : vp_in (i + 5) L) (hk : k + 114 ≤ 58408) (hn : n + 2834 ≤ 1451408) (next : (∀ (l5' l6' : Option Value) (w' : Hw) (k' n' : Nat) (kn' th' : Int32) (s' : AS), LW g w' x nA cA lA y nM o kn' kn' th' s' s' → k' ≤ k + 114 → n' ≤ n + 2834 → WP (ML_law g) QLaw (2218, [some (.ref b), some (.ref x), some (.ref y), some (.ref o), some (.int i), l5', l6'], [], w', k', n'))) : WP (ML_law g) QLaw (468, [some (.ref b), some (.ref x), some (.ref y), some (.ref o), some (.int i), l5, l6], [], w, k, n) := by
  simp only [eL_law_468, eL_law_475, eL_law_481, eL_law_484, eL_law_488, eL_law_489, wt_nil]
  with_reducible refine gi_W hL hb ?_
  with_reducible refine And.intro ?_ ?_
  with_reducible assumption
  with_reducible refine gi_W hL hb ?_
  with_reducible refine And.intro ?_ ?_
  with_reducible assumption
  split
  with_reducible refine And.intro ?_ ?_
  omega
  with_reducible refine And.intro ?_ ?_
  omega
  with_reducible refine And.intro ?_ ?_
  omega
  with_reducible refine fL_ofNumber hL (fun hXpc0 => ?_) (fun hQpc0 hQpw hQph hQpo => ?_)
  simp only [eL_law_493, eL_law_497, eL_law_502, eL_law_508, eL_law_511, eL_law_515, eL_law_516, kx_l, wt_nil, nl_int, tl_s, Nat.add_zero]
  with_reducible refine gi_W hL hb ?_
  with_reducible refine And.intro ?_ ?_
  with_reducible assumption
  with_reducible refine gi_W hL hb ?_
  with_reducible refine And.intro ?_ ?_
  with_reducible assumption
  split
  with_reducible refine And.intro ?_ ?_
  with_reducible refine LW.gz hL (fun _ => trivial)
  with_reducible refine And.intro ?_ ?_
  omega
  with_reducible refine And.intro ?_ ?_
  omega
  with_reducible refine And.intro ?_ ?_
  omega
  with_reducible refine fX3_ofNumber (LW.ms hL) (fun hXqc0 hXqw hXqh => ?_) (fun hQqc0 hQqw hQqh => ?_)
  simp only [eL_law_519, kx_l, nl_int, tl_s]
  with_reducible exact next _ _ _ _ _ _ _ _ (LW.ofM hL hXqh) (by omega) (by omega)
  with_reducible exact absurd hQqc0 hXpc0
  with_reducible refine And.intro ?_ ?_
  with_reducible refine LW.gz hL (fun _ => trivial)
  with_reducible refine And.intro ?_ ?_
  with_reducible exact absurd (show xs (i + 2).toNatClampNeg = 0 by assumption) (by assumption)
  with_reducible refine And.intro ?_ ?_
  with_reducible exact absurd (show xs (i + 2).toNatClampNeg = 0 by assumption) (by assumption)
  with_reducible refine And.intro ?_ ?_
  with_reducible exact absurd (show xs (i + 2).toNatClampNeg = 0 by assumption) (by assumption)
  with_reducible refine fX3_ofNumber (LW.ms hL) (fun hXqc0 hXqw hXqh => ?_) (fun hQqc0 hQqw hQqh => ?_)
  with_reducible exact absurd (show xs (i + 2).toNatClampNeg = 0 by assumption) (by assumption)
  with_reducible exact absurd hQqc0 hXpc0
  simp only [eL_law_493, eL_law_497, eL_law_502, eL_law_508, eL_law_511, eL_law_515, eL_law_516, kx_l, wt_nil, nl_int, tl_s, Nat.add_zero]
  with_reducible refine gi_W hQph hb ?_
  with_reducible refine And.intro ?_ ?_
  with_reducible assumption
  with_reducible refine gi_W hQph hb ?_
  with_reducible refine And.intro ?_ ?_
  with_reducible assumption
  split
  with_reducible refine And.intro ?_ ?_
  with_reducible refine LW.gz hQph (fun _ => trivial)
  with_reducible refine And.intro ?_ ?_
  omega
  with_reducible refine And.intro ?_ ?_
  omega
  with_reducible refine And.intro ?_ ?_
  omega
  with_reducible refine fX3_ofNumber (LW.ms hQph) (fun hXqc0 hXqw hXqh => ?_) (fun hQqc0 hQqw hQqh => ?_)
  with_reducible exact absurd hQpc0 hXqc0
  simp only [eL_law_519, kx_l, nl_int, tl_s]
  with_reducible exact next _ _ _ _ _ _ _ _ (LW.ofM hQph hQqh) (by omega) (by omega)
  with_reducible refine And.intro ?_ ?_
  with_reducible refine LW.gz hQph (fun _ => trivial)
  with_reducible refine And.intro ?_ ?_
  with_reducible exact absurd (show xs (i + 2).toNatClampNeg = 0 by assumption) (by assumption)
  with_reducible refine And.intro ?_ ?_
  with_reducible exact absurd (show xs (i + 2).toNatClampNeg = 0 by assumption) (by assumption)
  with_reducible refine And.intro ?_ ?_
  with_reducible exact absurd (show xs (i + 2).toNatClampNeg = 0 by assumption) (by assumption)
  with_reducible refine fX3_ofNumber (LW.ms hQph) (fun hXqc0 hXqw hXqh => ?_) (fun hQqc0 hQqw hQqh => ?_)
  with_reducible exact absurd hQpc0 hXqc0
  with_reducible exact absurd (show xs (i + 2).toNatClampNeg = 0 by assumption) (by assumption)
  with_reducible refine And.intro ?_ ?_
  omega
  with_reducible refine And.intro ?_ ?_
  omega
  with_reducible refine And.intro ?_ ?_
  omega
  with_reducible refine fL_ofNumber hL (fun hXpc0 => ?_) (fun hQpc0 hQpw hQph hQpo => ?_)
  simp only [eL_law_493, eL_law_497, eL_law_502, eL_law_508, eL_law_511, eL_law_515, eL_law_516, kx_l, wt_nil, nl_int, tl_s, Nat.add_zero]
  with_reducible refine gi_W hL hb ?_
  with_reducible refine And.intro ?_ ?_
  with_reducible assumption
  with_reducible refine gi_W hL hb ?_
  with_reducible refine And.intro ?_ ?_
  with_reducible assumption
  split
  with_reducible refine And.intro ?_ ?_
  with_reducible refine LW.gz hL (fun _ => trivial)
  with_reducible refine And.intro ?_ ?_
  with_reducible exact absurd (show xs (i + 2).toNatClampNeg = 0 by assumption) (by assumption)
  with_reducible refine And.intro ?_ ?_
  with_reducible exact absurd (show xs (i + 2).toNatClampNeg = 0 by assumption) (by assumption)
  with_reducible refine And.intro ?_ ?_
  with_reducible exact absurd (show xs (i + 2).toNatClampNeg = 0 by assumption) (by assumption)
  with_reducible refine fX3_ofNumber (LW.ms hL) (fun hXqc0 hXqw hXqh => ?_) (fun hQqc0 hQqw hQqh => ?_)
  with_reducible exact absurd (show xs (i + 2).toNatClampNeg = 0 by assumption) (by assumption)
  with_reducible exact absurd hQqc0 hXpc0
  with_reducible refine And.intro ?_ ?_
  with_reducible refine LW.gz hL (fun _ => trivial)
  with_reducible refine And.intro ?_ ?_
  omega
  with_reducible refine And.intro ?_ ?_
  omega
  with_reducible refine And.intro ?_ ?_
  omega
  with_reducible refine fX3_ofNumber (LW.ms hL) (fun hXqc0 hXqw hXqh => ?_) (fun hQqc0 hQqw hQqh => ?_)
  simp only [eL_law_519, kx_l, nl_int, tl_s]
  with_reducible exact next _ _ _ _ _ _ _ _ (LW.ofM hL hXqh) (by omega) (by omega)
  with_reducible exact absurd hQqc0 hXpc0
  simp only [eL_law_493, eL_law_497, eL_law_502, eL_law_508, eL_law_511, eL_law_515, eL_law_516, kx_l, wt_nil, nl_int, tl_s, Nat.add_zero]
  with_reducible refine gi_W hQph hb ?_
  with_reducible refine And.intro ?_ ?_
  with_reducible assumption
  with_reducible refine gi_W hQph hb ?_
  with_reducible refine And.intro ?_ ?_
  with_reducible assumption
  split
  with_reducible refine And.intro ?_ ?_
  with_reducible refine LW.gz hQph (fun _ => trivial)
  with_reducible refine And.intro ?_ ?_
  with_reducible exact absurd (show xs (i + 2).toNatClampNeg = 0 by assumption) (by assumption)
  with_reducible refine And.intro ?_ ?_
  with_reducible exact absurd (show xs (i + 2).toNatClampNeg = 0 by assumption) (by assumption)
  with_reducible refine And.intro ?_ ?_
  with_reducible exact absurd (show xs (i + 2).toNatClampNeg = 0 by assumption) (by assumption)
  with_reducible refine fX3_ofNumber (LW.ms hQph) (fun hXqc0 hXqw hXqh => ?_) (fun hQqc0 hQqw hQqh => ?_)
  with_reducible exact absurd hQpc0 hXqc0
  with_reducible exact absurd (show xs (i + 2).toNatClampNeg = 0 by assumption) (by assumption)
  with_reducible refine And.intro ?_ ?_
  with_reducible refine LW.gz hQph (fun _ => trivial)
  with_reducible refine And.intro ?_ ?_
  omega
  with_reducible refine And.intro ?_ ?_
  omega
  with_reducible refine And.intro ?_ ?_
  omega
  with_reducible refine fX3_ofNumber (LW.ms hQph) (fun hXqc0 hXqw hXqh => ?_) (fun hQqc0 hQqw hQqh => ?_)
  with_reducible exact absurd hQpc0 hXqc0
  simp only [eL_law_519, kx_l, nl_int, tl_s]
  with_reducible exact next _ _ _ _ _ _ _ _ (LW.ofM hQph hQqh) (by omega) (by omega)
set_option maxHeartbeats 4000000 in
theorem cL_6 (hR : RG g) (hb : g.2 b = some (.inl (1, L, .inl xs))) (hL : LW g w x nA cA lA y nM o kn kn th s s) (v1 : vp_in (i + 1) L) (v2 : vp_in (i + 2) L) (v3 : vp_in (i + 3) L) (v4 : vp_in (i + 4) L) (v5 : vp_in (i + 5) L) (hk : k + 114 ≤ 58408) (hn : n + 2834 ≤ 1451408) (next : (∀ (l5' l6' : Option Value) (w' : Hw) (k' n' : Nat) (kn' th' : Int32) (s' : AS), LW g w' x nA cA lA y nM o kn' kn' th' s' s' → k' ≤ k + 114 → n' ≤ n + 2834 → WP (ML_law g) QLaw (2218, [some (.ref b), some (.ref x), some (.ref y), some (.ref o), some (.int i), l5', l6'], [], w', k', n'))) : WP (ML_law g) QLaw (524, [some (.ref b), some (.ref x), some (.ref y), some (.ref o), some (.int i), l5, l6], [], w, k, n) := by
  simp only [eL_law_524, eL_law_531, wt_nil]
  with_reducible refine gi_W hL hb ?_
  with_reducible refine And.intro ?_ ?_
  with_reducible assumption
  with_reducible refine And.intro ?_ ?_
  omega
  with_reducible refine And.intro ?_ ?_
  omega
  with_reducible refine And.intro ?_ ?_
  omega
  with_reducible refine gL_numberText hR hL (fun v1 w1 h1 => ?_)
  simp only [eL_law_535, eL_law_539, eL_law_544, kx_l, wt_nil, nl_int, tl_s]
  with_reducible refine gi_W h1 hb ?_
  with_reducible refine And.intro ?_ ?_
  with_reducible assumption
  with_reducible refine And.intro ?_ ?_
  with_reducible refine LW.gz h1 (fun _ => trivial)
  with_reducible refine And.intro ?_ ?_
  omega
  with_reducible refine And.intro ?_ ?_
  omega
  with_reducible refine And.intro ?_ ?_
  omega
  with_reducible refine gX3_numberText (LW.ms h1) hR.sg (hR.dg (LW.ro h1)) (hR.tx (LW.ro h1)) (fun v2 t2 w2 m2 => ?_)
  simp only [eL_law_547, kx_l, nl_int, tl_s]
  with_reducible exact next _ _ _ _ _ _ _ _ (LW.ofM h1 m2) (by omega) (by omega)
set_option maxHeartbeats 4000000 in
theorem cL_7 (hR : RG g) (hb : g.2 b = some (.inl (1, L, .inl xs))) (hL : LW g w x nA cA lA y nM o kn kn th s s) (v1 : vp_in (i + 1) L) (v2 : vp_in (i + 2) L) (v3 : vp_in (i + 3) L) (v4 : vp_in (i + 4) L) (v5 : vp_in (i + 5) L) (hk : k + 114 ≤ 58408) (hn : n + 2834 ≤ 1451408) (next : (∀ (l5' l6' : Option Value) (w' : Hw) (k' n' : Nat) (kn' th' : Int32) (s' : AS), LW g w' x nA cA lA y nM o kn' kn' th' s' s' → k' ≤ k + 114 → n' ≤ n + 2834 → WP (ML_law g) QLaw (2218, [some (.ref b), some (.ref x), some (.ref y), some (.ref o), some (.int i), l5', l6'], [], w', k', n'))) : WP (ML_law g) QLaw (552, [some (.ref b), some (.ref x), some (.ref y), some (.ref o), some (.int i), l5, l6], [], w, k, n) := by
  simp only [eL_law_552, eL_law_559, eL_law_565, wt_nil]
  with_reducible refine gi_W hL hb ?_
  with_reducible refine And.intro ?_ ?_
  with_reducible assumption
  with_reducible refine gi_W hL hb ?_
  with_reducible refine And.intro ?_ ?_
  with_reducible assumption
  with_reducible refine And.intro ?_ ?_
  omega
  with_reducible refine And.intro ?_ ?_
  omega
  with_reducible refine And.intro ?_ ?_
  omega
  with_reducible refine fL_order hL (fun hXpc0 => ?_) (fun hQpc0 hQpc1 hQpw hQph hQpo => ?_)
  simp only [eL_law_569, eL_law_573, eL_law_578, eL_law_584, kx_l, wt_nil, nl_int, tl_s, Nat.add_zero]
  with_reducible refine gi_W hL hb ?_
  with_reducible refine And.intro ?_ ?_
  with_reducible assumption
  with_reducible refine gi_W hL hb ?_
  with_reducible refine And.intro ?_ ?_
  with_reducible assumption
  with_reducible refine And.intro ?_ ?_
  with_reducible refine LW.gz hL (fun _ => trivial)
  with_reducible refine And.intro ?_ ?_
  omega
  with_reducible refine And.intro ?_ ?_
  omega
  with_reducible refine And.intro ?_ ?_
  omega
  with_reducible refine fX3_order (LW.ms hL) (fun hXqc0 hXqw hXqh => ?_) (fun hQqc0 hQqc1 hQqw hQqh => ?_)
  simp only [eL_law_587, kx_l, nl_int, tl_s]
  with_reducible exact next _ _ _ _ _ _ _ _ (LW.ofM hL hXqh) (by omega) (by omega)
  with_reducible exact absurd (And.intro hQqc0 hQqc1) hXpc0
  simp only [eL_law_569, eL_law_573, eL_law_578, eL_law_584, kx_l, wt_nil, nl_int, tl_s, Nat.add_zero]
  with_reducible refine gi_W hQph hb ?_
  with_reducible refine And.intro ?_ ?_
  with_reducible assumption
  with_reducible refine gi_W hQph hb ?_
  with_reducible refine And.intro ?_ ?_
  with_reducible assumption
  with_reducible refine And.intro ?_ ?_
  with_reducible refine LW.gz hQph (fun _ => trivial)
  with_reducible refine And.intro ?_ ?_
  omega
  with_reducible refine And.intro ?_ ?_
  omega
  with_reducible refine And.intro ?_ ?_
  omega
  with_reducible refine fX3_order (LW.ms hQph) (fun hXqc0 hXqw hXqh => ?_) (fun hQqc0 hQqc1 hQqw hQqh => ?_)
  with_reducible exact absurd (And.intro hQpc0 hQpc1) hXqc0
  simp only [eL_law_587, kx_l, nl_int, tl_s]
  with_reducible exact next _ _ _ _ _ _ _ _ (LW.ofM hQph hQqh) (by omega) (by omega)
set_option maxHeartbeats 4000000 in
theorem cL_8 (hR : RG g) (hb : g.2 b = some (.inl (1, L, .inl xs))) (hL : LW g w x nA cA lA y nM o kn kn th s s) (v1 : vp_in (i + 1) L) (v2 : vp_in (i + 2) L) (v3 : vp_in (i + 3) L) (v4 : vp_in (i + 4) L) (v5 : vp_in (i + 5) L) (hk : k + 114 ≤ 58408) (hn : n + 2834 ≤ 1451408) (next : (∀ (l5' l6' : Option Value) (w' : Hw) (k' n' : Nat) (kn' th' : Int32) (s' : AS), LW g w' x nA cA lA y nM o kn' kn' th' s' s' → k' ≤ k + 114 → n' ≤ n + 2834 → WP (ML_law g) QLaw (2218, [some (.ref b), some (.ref x), some (.ref y), some (.ref o), some (.int i), l5', l6'], [], w', k', n'))) : WP (ML_law g) QLaw (592, [some (.ref b), some (.ref x), some (.ref y), some (.ref o), some (.int i), l5, l6], [], w, k, n) := by
  simp only [eL_law_592, eL_law_599, eL_law_605, eL_law_611, wt_nil]
  with_reducible refine gi_W hL hb ?_
  with_reducible refine And.intro ?_ ?_
  with_reducible assumption
  with_reducible refine gi_W hL hb ?_
  with_reducible refine And.intro ?_ ?_
  with_reducible assumption
  with_reducible refine gi_W hL hb ?_
  with_reducible refine And.intro ?_ ?_
  with_reducible assumption
  with_reducible refine And.intro ?_ ?_
  omega
  with_reducible refine And.intro ?_ ?_
  omega
  with_reducible refine And.intro ?_ ?_
  omega
  with_reducible refine fL_two hL (fun hXpc0 => ?_) (fun hTpc0 hTpc1 hTpc2 hTpc3 hTpw hTph hTpo => ?_) (fun hFpc0 hFpc1 hFpc2 hFpc3 hFpw hFph hFpo => ?_)
  simp only [eL_law_615, eL_law_619, eL_law_624, eL_law_630, eL_law_636, kx_l, wt_nil, nl_int, tl_s]
  with_reducible refine gi_W hL hb ?_
  with_reducible refine And.intro ?_ ?_
  with_reducible assumption
  with_reducible refine gi_W hL hb ?_
  with_reducible refine And.intro ?_ ?_
  with_reducible assumption
  with_reducible refine gi_W hL hb ?_
  with_reducible refine And.intro ?_ ?_
  with_reducible assumption
  with_reducible refine And.intro ?_ ?_
  with_reducible refine LW.gz hL (fun _ => trivial)
  with_reducible refine And.intro ?_ ?_
  omega
  with_reducible refine And.intro ?_ ?_
  omega
  with_reducible refine And.intro ?_ ?_
  omega
  with_reducible refine fX3_two (LW.ms hL) (fun hXqc0 hXqw hXqh => ?_) (fun hTqc0 hTqc1 hTqc2 hTqc3 hTqw hTqh => ?_) (fun hFqc0 hFqc1 hFqc2 hFqc3 hFqw hFqh => ?_)
  simp only [eL_law_639, kx_l, nl_int, tl_s]
  with_reducible exact next _ _ _ _ _ _ _ _ (LW.ofM hL hXqh) (by omega) (by omega)
  with_reducible exact absurd (And.intro hTqc0 (And.intro hTqc1 hTqc2)) hXpc0
  with_reducible exact absurd (And.intro hFqc0 (And.intro hFqc1 hFqc2)) hXpc0
  simp only [eL_law_615, eL_law_619, eL_law_624, eL_law_630, eL_law_636, kx_l, wt_nil, nl_int, tl_s]
  with_reducible refine gi_W hTph hb ?_
  with_reducible refine And.intro ?_ ?_
  with_reducible assumption
  with_reducible refine gi_W hTph hb ?_
  with_reducible refine And.intro ?_ ?_
  with_reducible assumption
  with_reducible refine gi_W hTph hb ?_
  with_reducible refine And.intro ?_ ?_
  with_reducible assumption
  with_reducible refine And.intro ?_ ?_
  with_reducible refine LW.gz hTph (fun _ => trivial)
  with_reducible refine And.intro ?_ ?_
  omega
  with_reducible refine And.intro ?_ ?_
  omega
  with_reducible refine And.intro ?_ ?_
  omega
  with_reducible refine fX3_two (LW.ms hTph) (fun hXqc0 hXqw hXqh => ?_) (fun hTqc0 hTqc1 hTqc2 hTqc3 hTqw hTqh => ?_) (fun hFqc0 hFqc1 hFqc2 hFqc3 hFqw hFqh => ?_)
  with_reducible exact absurd (And.intro hTpc0 (And.intro hTpc1 hTpc2)) hXqc0
  simp only [eL_law_639, kx_l, nl_int, tl_s]
  with_reducible exact next _ _ _ _ _ _ _ _ (LW.ofM hTph hTqh) (by omega) (by omega)
  with_reducible exact absurd hTpc3 hFqc3
  simp only [eL_law_615, eL_law_619, eL_law_624, eL_law_630, eL_law_636, kx_l, wt_nil, nl_int, tl_s]
  with_reducible refine gi_W hFph hb ?_
  with_reducible refine And.intro ?_ ?_
  with_reducible assumption
  with_reducible refine gi_W hFph hb ?_
  with_reducible refine And.intro ?_ ?_
  with_reducible assumption
  with_reducible refine gi_W hFph hb ?_
  with_reducible refine And.intro ?_ ?_
  with_reducible assumption
  with_reducible refine And.intro ?_ ?_
  with_reducible refine LW.gz hFph (fun _ => trivial)
  with_reducible refine And.intro ?_ ?_
  omega
  with_reducible refine And.intro ?_ ?_
  omega
  with_reducible refine And.intro ?_ ?_
  omega
  with_reducible refine fX3_two (LW.ms hFph) (fun hXqc0 hXqw hXqh => ?_) (fun hTqc0 hTqc1 hTqc2 hTqc3 hTqw hTqh => ?_) (fun hFqc0 hFqc1 hFqc2 hFqc3 hFqw hFqh => ?_)
  with_reducible exact absurd (And.intro hFpc0 (And.intro hFpc1 hFpc2)) hXqc0
  with_reducible exact absurd hTqc3 hFpc3
  simp only [eL_law_639, kx_l, nl_int, tl_s]
  with_reducible exact next _ _ _ _ _ _ _ _ (LW.ofM hFph hFqh) (by omega) (by omega)
set_option maxHeartbeats 4000000 in
theorem cL_9 (hR : RG g) (hb : g.2 b = some (.inl (1, L, .inl xs))) (hL : LW g w x nA cA lA y nM o kn kn th s s) (v1 : vp_in (i + 1) L) (v2 : vp_in (i + 2) L) (v3 : vp_in (i + 3) L) (v4 : vp_in (i + 4) L) (v5 : vp_in (i + 5) L) (hk : k + 114 ≤ 58408) (hn : n + 2834 ≤ 1451408) (next : (∀ (l5' l6' : Option Value) (w' : Hw) (k' n' : Nat) (kn' th' : Int32) (s' : AS), LW g w' x nA cA lA y nM o kn' kn' th' s' s' → k' ≤ k + 114 → n' ≤ n + 2834 → WP (ML_law g) QLaw (2218, [some (.ref b), some (.ref x), some (.ref y), some (.ref o), some (.int i), l5', l6'], [], w', k', n'))) : WP (ML_law g) QLaw (644, [some (.ref b), some (.ref x), some (.ref y), some (.ref o), some (.int i), l5, l6], [], w, k, n) := by
  simp only [eL_law_644, eL_law_651, eL_law_657, eL_law_663, eL_law_669, wt_nil]
  with_reducible refine gi_W hL hb ?_
  with_reducible refine And.intro ?_ ?_
  with_reducible assumption
  with_reducible refine gi_W hL hb ?_
  with_reducible refine And.intro ?_ ?_
  with_reducible assumption
  with_reducible refine gi_W hL hb ?_
  with_reducible refine And.intro ?_ ?_
  with_reducible assumption
  with_reducible refine gi_W hL hb ?_
  with_reducible refine And.intro ?_ ?_
  with_reducible assumption
  with_reducible refine And.intro ?_ ?_
  omega
  with_reducible refine And.intro ?_ ?_
  omega
  with_reducible refine And.intro ?_ ?_
  omega
  with_reducible refine fL_three hL (fun hXpc0 => ?_) (fun hTpc0 hTpc1 hTpc2 hTpc3 hTpc4 hTpw hTph hTpo => ?_) (fun hFpc0 hFpc1 hFpc2 hFpc3 hFpc4 hFpw hFph hFpo => ?_)
  simp only [eL_law_673, eL_law_677, eL_law_682, eL_law_688, eL_law_694, eL_law_700, kx_l, wt_nil, nl_int, tl_s]
  with_reducible refine gi_W hL hb ?_
  with_reducible refine And.intro ?_ ?_
  with_reducible assumption
  with_reducible refine gi_W hL hb ?_
  with_reducible refine And.intro ?_ ?_
  with_reducible assumption
  with_reducible refine gi_W hL hb ?_
  with_reducible refine And.intro ?_ ?_
  with_reducible assumption
  with_reducible refine gi_W hL hb ?_
  with_reducible refine And.intro ?_ ?_
  with_reducible assumption
  with_reducible refine And.intro ?_ ?_
  with_reducible refine LW.gz hL (fun _ => trivial)
  with_reducible refine And.intro ?_ ?_
  omega
  with_reducible refine And.intro ?_ ?_
  omega
  with_reducible refine And.intro ?_ ?_
  omega
  with_reducible refine fX3_three (LW.ms hL) (fun hXqc0 hXqw hXqh => ?_) (fun hTqc0 hTqc1 hTqc2 hTqc3 hTqc4 hTqw hTqh => ?_) (fun hFqc0 hFqc1 hFqc2 hFqc3 hFqc4 hFqw hFqh => ?_)
  simp only [eL_law_703, kx_l, nl_int, tl_s]
  with_reducible exact next _ _ _ _ _ _ _ _ (LW.ofM hL hXqh) (by omega) (by omega)
  with_reducible exact absurd (And.intro hTqc0 (And.intro hTqc1 (And.intro hTqc2 hTqc3))) hXpc0
  with_reducible exact absurd (And.intro hFqc0 (And.intro hFqc1 (And.intro hFqc2 hFqc3))) hXpc0
  simp only [eL_law_673, eL_law_677, eL_law_682, eL_law_688, eL_law_694, eL_law_700, kx_l, wt_nil, nl_int, tl_s]
  with_reducible refine gi_W hTph hb ?_
  with_reducible refine And.intro ?_ ?_
  with_reducible assumption
  with_reducible refine gi_W hTph hb ?_
  with_reducible refine And.intro ?_ ?_
  with_reducible assumption
  with_reducible refine gi_W hTph hb ?_
  with_reducible refine And.intro ?_ ?_
  with_reducible assumption
  with_reducible refine gi_W hTph hb ?_
  with_reducible refine And.intro ?_ ?_
  with_reducible assumption
  with_reducible refine And.intro ?_ ?_
  with_reducible refine LW.gz hTph (fun _ => trivial)
  with_reducible refine And.intro ?_ ?_
  omega
  with_reducible refine And.intro ?_ ?_
  omega
  with_reducible refine And.intro ?_ ?_
  omega
  with_reducible refine fX3_three (LW.ms hTph) (fun hXqc0 hXqw hXqh => ?_) (fun hTqc0 hTqc1 hTqc2 hTqc3 hTqc4 hTqw hTqh => ?_) (fun hFqc0 hFqc1 hFqc2 hFqc3 hFqc4 hFqw hFqh => ?_)
  with_reducible exact absurd (And.intro hTpc0 (And.intro hTpc1 (And.intro hTpc2 hTpc3))) hXqc0
  simp only [eL_law_703, kx_l, nl_int, tl_s]
  with_reducible exact next _ _ _ _ _ _ _ _ (LW.ofM hTph hTqh) (by omega) (by omega)
  with_reducible exact absurd hTpc4 hFqc4
  simp only [eL_law_673, eL_law_677, eL_law_682, eL_law_688, eL_law_694, eL_law_700, kx_l, wt_nil, nl_int, tl_s]
  with_reducible refine gi_W hFph hb ?_
  with_reducible refine And.intro ?_ ?_
  with_reducible assumption
  with_reducible refine gi_W hFph hb ?_
  with_reducible refine And.intro ?_ ?_
  with_reducible assumption
  with_reducible refine gi_W hFph hb ?_
  with_reducible refine And.intro ?_ ?_
  with_reducible assumption
  with_reducible refine gi_W hFph hb ?_
  with_reducible refine And.intro ?_ ?_
  with_reducible assumption
  with_reducible refine And.intro ?_ ?_
  with_reducible refine LW.gz hFph (fun _ => trivial)
  with_reducible refine And.intro ?_ ?_
  omega
  with_reducible refine And.intro ?_ ?_
  omega
  with_reducible refine And.intro ?_ ?_
  omega
  with_reducible refine fX3_three (LW.ms hFph) (fun hXqc0 hXqw hXqh => ?_) (fun hTqc0 hTqc1 hTqc2 hTqc3 hTqc4 hTqw hTqh => ?_) (fun hFqc0 hFqc1 hFqc2 hFqc3 hFqc4 hFqw hFqh => ?_)
  with_reducible exact absurd (And.intro hFpc0 (And.intro hFpc1 (And.intro hFpc2 hFpc3))) hXqc0
  with_reducible exact absurd hTqc4 hFpc4
  simp only [eL_law_703, kx_l, nl_int, tl_s]
  with_reducible exact next _ _ _ _ _ _ _ _ (LW.ofM hFph hFqh) (by omega) (by omega)
set_option maxHeartbeats 4000000 in
theorem cL_10 (hR : RG g) (hb : g.2 b = some (.inl (1, L, .inl xs))) (hL : LW g w x nA cA lA y nM o kn kn th s s) (v1 : vp_in (i + 1) L) (v2 : vp_in (i + 2) L) (v3 : vp_in (i + 3) L) (v4 : vp_in (i + 4) L) (v5 : vp_in (i + 5) L) (hk : k + 114 ≤ 58408) (hn : n + 2834 ≤ 1451408) (next : (∀ (l5' l6' : Option Value) (w' : Hw) (k' n' : Nat) (kn' th' : Int32) (s' : AS), LW g w' x nA cA lA y nM o kn' kn' th' s' s' → k' ≤ k + 114 → n' ≤ n + 2834 → WP (ML_law g) QLaw (2218, [some (.ref b), some (.ref x), some (.ref y), some (.ref o), some (.int i), l5', l6'], [], w', k', n'))) : WP (ML_law g) QLaw (708, [some (.ref b), some (.ref x), some (.ref y), some (.ref o), some (.int i), l5, l6], [], w, k, n) := by
  simp only [eL_law_708, eL_law_715, eL_law_721, eL_law_727, eL_law_733, eL_law_739, wt_nil]
  with_reducible refine gi_W hL hb ?_
  with_reducible refine And.intro ?_ ?_
  with_reducible assumption
  with_reducible refine gi_W hL hb ?_
  with_reducible refine And.intro ?_ ?_
  with_reducible assumption
  with_reducible refine gi_W hL hb ?_
  with_reducible refine And.intro ?_ ?_
  with_reducible assumption
  with_reducible refine gi_W hL hb ?_
  with_reducible refine And.intro ?_ ?_
  with_reducible assumption
  with_reducible refine gi_W hL hb ?_
  with_reducible refine And.intro ?_ ?_
  with_reducible assumption
  with_reducible refine And.intro ?_ ?_
  omega
  with_reducible refine And.intro ?_ ?_
  omega
  with_reducible refine And.intro ?_ ?_
  omega
  with_reducible refine fL_four hL (fun hXpc0 => ?_) (fun hTpc0 hTpc1 hTpc2 hTpc3 hTpc4 hTpc5 hTpw hTph hTpo => ?_) (fun hFpc0 hFpc1 hFpc2 hFpc3 hFpc4 hFpc5 hFpw hFph hFpo => ?_)
  simp only [eL_law_743, eL_law_747, eL_law_752, eL_law_758, eL_law_764, eL_law_770, eL_law_776, kx_l, wt_nil, nl_int, tl_s]
  with_reducible refine gi_W hL hb ?_
  with_reducible refine And.intro ?_ ?_
  with_reducible assumption
  with_reducible refine gi_W hL hb ?_
  with_reducible refine And.intro ?_ ?_
  with_reducible assumption
  with_reducible refine gi_W hL hb ?_
  with_reducible refine And.intro ?_ ?_
  with_reducible assumption
  with_reducible refine gi_W hL hb ?_
  with_reducible refine And.intro ?_ ?_
  with_reducible assumption
  with_reducible refine gi_W hL hb ?_
  with_reducible refine And.intro ?_ ?_
  with_reducible assumption
  with_reducible refine And.intro ?_ ?_
  with_reducible refine LW.gz hL (fun _ => trivial)
  with_reducible refine And.intro ?_ ?_
  omega
  with_reducible refine And.intro ?_ ?_
  omega
  with_reducible refine And.intro ?_ ?_
  omega
  with_reducible refine fX3_four (LW.ms hL) (fun hXqc0 hXqw hXqh => ?_) (fun hTqc0 hTqc1 hTqc2 hTqc3 hTqc4 hTqc5 hTqw hTqh => ?_) (fun hFqc0 hFqc1 hFqc2 hFqc3 hFqc4 hFqc5 hFqw hFqh => ?_)
  simp only [eL_law_779, kx_l, nl_int, tl_s]
  with_reducible exact next _ _ _ _ _ _ _ _ (LW.ofM hL hXqh) (by omega) (by omega)
  with_reducible exact absurd (And.intro hTqc0 (And.intro hTqc1 (And.intro hTqc2 (And.intro hTqc3 hTqc4)))) hXpc0
  with_reducible exact absurd (And.intro hFqc0 (And.intro hFqc1 (And.intro hFqc2 (And.intro hFqc3 hFqc4)))) hXpc0
  simp only [eL_law_743, eL_law_747, eL_law_752, eL_law_758, eL_law_764, eL_law_770, eL_law_776, kx_l, wt_nil, nl_int, tl_s]
  with_reducible refine gi_W hTph hb ?_
  with_reducible refine And.intro ?_ ?_
  with_reducible assumption
  with_reducible refine gi_W hTph hb ?_
  with_reducible refine And.intro ?_ ?_
  with_reducible assumption
  with_reducible refine gi_W hTph hb ?_
  with_reducible refine And.intro ?_ ?_
  with_reducible assumption
  with_reducible refine gi_W hTph hb ?_
  with_reducible refine And.intro ?_ ?_
  with_reducible assumption
  with_reducible refine gi_W hTph hb ?_
  with_reducible refine And.intro ?_ ?_
  with_reducible assumption
  with_reducible refine And.intro ?_ ?_
  with_reducible refine LW.gz hTph (fun _ => trivial)
  with_reducible refine And.intro ?_ ?_
  omega
  with_reducible refine And.intro ?_ ?_
  omega
  with_reducible refine And.intro ?_ ?_
  omega
  with_reducible refine fX3_four (LW.ms hTph) (fun hXqc0 hXqw hXqh => ?_) (fun hTqc0 hTqc1 hTqc2 hTqc3 hTqc4 hTqc5 hTqw hTqh => ?_) (fun hFqc0 hFqc1 hFqc2 hFqc3 hFqc4 hFqc5 hFqw hFqh => ?_)
  with_reducible exact absurd (And.intro hTpc0 (And.intro hTpc1 (And.intro hTpc2 (And.intro hTpc3 hTpc4)))) hXqc0
  simp only [eL_law_779, kx_l, nl_int, tl_s]
  with_reducible exact next _ _ _ _ _ _ _ _ (LW.ofM hTph hTqh) (by omega) (by omega)
  with_reducible exact absurd hTpc5 hFqc5
  simp only [eL_law_743, eL_law_747, eL_law_752, eL_law_758, eL_law_764, eL_law_770, eL_law_776, kx_l, wt_nil, nl_int, tl_s]
  with_reducible refine gi_W hFph hb ?_
  with_reducible refine And.intro ?_ ?_
  with_reducible assumption
  with_reducible refine gi_W hFph hb ?_
  with_reducible refine And.intro ?_ ?_
  with_reducible assumption
  with_reducible refine gi_W hFph hb ?_
  with_reducible refine And.intro ?_ ?_
  with_reducible assumption
  with_reducible refine gi_W hFph hb ?_
  with_reducible refine And.intro ?_ ?_
  with_reducible assumption
  with_reducible refine gi_W hFph hb ?_
  with_reducible refine And.intro ?_ ?_
  with_reducible assumption
  with_reducible refine And.intro ?_ ?_
  with_reducible refine LW.gz hFph (fun _ => trivial)
  with_reducible refine And.intro ?_ ?_
  omega
  with_reducible refine And.intro ?_ ?_
  omega
  with_reducible refine And.intro ?_ ?_
  omega
  with_reducible refine fX3_four (LW.ms hFph) (fun hXqc0 hXqw hXqh => ?_) (fun hTqc0 hTqc1 hTqc2 hTqc3 hTqc4 hTqc5 hTqw hTqh => ?_) (fun hFqc0 hFqc1 hFqc2 hFqc3 hFqc4 hFqc5 hFqw hFqh => ?_)
  with_reducible exact absurd (And.intro hFpc0 (And.intro hFpc1 (And.intro hFpc2 (And.intro hFpc3 hFpc4)))) hXqc0
  with_reducible exact absurd hTqc5 hFpc5
  simp only [eL_law_779, kx_l, nl_int, tl_s]
  with_reducible exact next _ _ _ _ _ _ _ _ (LW.ofM hFph hFqh) (by omega) (by omega)
set_option maxHeartbeats 4000000 in
theorem cL_11 (hR : RG g) (hb : g.2 b = some (.inl (1, L, .inl xs))) (hL : LW g w x nA cA lA y nM o kn kn th s s) (v1 : vp_in (i + 1) L) (v2 : vp_in (i + 2) L) (v3 : vp_in (i + 3) L) (v4 : vp_in (i + 4) L) (v5 : vp_in (i + 5) L) (hk : k + 114 ≤ 58408) (hn : n + 2834 ≤ 1451408) (next : (∀ (l5' l6' : Option Value) (w' : Hw) (k' n' : Nat) (kn' th' : Int32) (s' : AS), LW g w' x nA cA lA y nM o kn' kn' th' s' s' → k' ≤ k + 114 → n' ≤ n + 2834 → WP (ML_law g) QLaw (2218, [some (.ref b), some (.ref x), some (.ref y), some (.ref o), some (.int i), l5', l6'], [], w', k', n'))) : WP (ML_law g) QLaw (784, [some (.ref b), some (.ref x), some (.ref y), some (.ref o), some (.int i), l5, l6], [], w, k, n) := by
  simp only [eL_law_784, eL_law_791, eL_law_797, eL_law_803, wt_nil]
  with_reducible refine gi_W hL hb ?_
  with_reducible refine And.intro ?_ ?_
  with_reducible assumption
  with_reducible refine gi_W hL hb ?_
  with_reducible refine And.intro ?_ ?_
  with_reducible assumption
  with_reducible refine gi_W hL hb ?_
  with_reducible refine And.intro ?_ ?_
  with_reducible assumption
  with_reducible refine And.intro ?_ ?_
  omega
  with_reducible refine And.intro ?_ ?_
  omega
  with_reducible refine And.intro ?_ ?_
  omega
  with_reducible refine fL_twoSmall hL (fun hXpc0 => ?_) (fun hTpc0 hTpc1 hTpw hTph hTpo => ?_) (fun hFpc0 hFpc1 hFpw hFph hFpo => ?_)
  simp only [eL_law_807, eL_law_811, eL_law_816, eL_law_822, eL_law_828, kx_l, wt_nil, nl_int, tl_s]
  with_reducible refine gi_W hL hb ?_
  with_reducible refine And.intro ?_ ?_
  with_reducible assumption
  with_reducible refine gi_W hL hb ?_
  with_reducible refine And.intro ?_ ?_
  with_reducible assumption
  with_reducible refine gi_W hL hb ?_
  with_reducible refine And.intro ?_ ?_
  with_reducible assumption
  with_reducible refine And.intro ?_ ?_
  with_reducible refine LW.gz hL (fun _ => trivial)
  with_reducible refine And.intro ?_ ?_
  omega
  with_reducible refine And.intro ?_ ?_
  omega
  with_reducible refine And.intro ?_ ?_
  omega
  with_reducible refine fX3_twoSmall (LW.ms hL) (fun hXqc0 hXqw hXqh => ?_) (fun hTqc0 hTqc1 hTqw hTqh => ?_) (fun hFqc0 hFqc1 hFqw hFqh => ?_)
  simp only [eL_law_831, kx_l, nl_int, tl_s]
  with_reducible exact next _ _ _ _ _ _ _ _ (LW.ofM hL hXqh) (by omega) (by omega)
  with_reducible exact absurd hTqc0 hXpc0
  with_reducible exact absurd hFqc0 hXpc0
  simp only [eL_law_807, eL_law_811, eL_law_816, eL_law_822, eL_law_828, kx_l, wt_nil, nl_int, tl_s]
  with_reducible refine gi_W hTph hb ?_
  with_reducible refine And.intro ?_ ?_
  with_reducible assumption
  with_reducible refine gi_W hTph hb ?_
  with_reducible refine And.intro ?_ ?_
  with_reducible assumption
  with_reducible refine gi_W hTph hb ?_
  with_reducible refine And.intro ?_ ?_
  with_reducible assumption
  with_reducible refine And.intro ?_ ?_
  with_reducible refine LW.gz hTph (fun _ => trivial)
  with_reducible refine And.intro ?_ ?_
  omega
  with_reducible refine And.intro ?_ ?_
  omega
  with_reducible refine And.intro ?_ ?_
  omega
  with_reducible refine fX3_twoSmall (LW.ms hTph) (fun hXqc0 hXqw hXqh => ?_) (fun hTqc0 hTqc1 hTqw hTqh => ?_) (fun hFqc0 hFqc1 hFqw hFqh => ?_)
  with_reducible exact absurd hTpc0 hXqc0
  simp only [eL_law_831, kx_l, nl_int, tl_s]
  with_reducible exact next _ _ _ _ _ _ _ _ (LW.ofM hTph hTqh) (by omega) (by omega)
  with_reducible exact absurd hTpc1 hFqc1
  simp only [eL_law_807, eL_law_811, eL_law_816, eL_law_822, eL_law_828, kx_l, wt_nil, nl_int, tl_s]
  with_reducible refine gi_W hFph hb ?_
  with_reducible refine And.intro ?_ ?_
  with_reducible assumption
  with_reducible refine gi_W hFph hb ?_
  with_reducible refine And.intro ?_ ?_
  with_reducible assumption
  with_reducible refine gi_W hFph hb ?_
  with_reducible refine And.intro ?_ ?_
  with_reducible assumption
  with_reducible refine And.intro ?_ ?_
  with_reducible refine LW.gz hFph (fun _ => trivial)
  with_reducible refine And.intro ?_ ?_
  omega
  with_reducible refine And.intro ?_ ?_
  omega
  with_reducible refine And.intro ?_ ?_
  omega
  with_reducible refine fX3_twoSmall (LW.ms hFph) (fun hXqc0 hXqw hXqh => ?_) (fun hTqc0 hTqc1 hTqw hTqh => ?_) (fun hFqc0 hFqc1 hFqw hFqh => ?_)
  with_reducible exact absurd hFpc0 hXqc0
  with_reducible exact absurd hTqc1 hFpc1
  simp only [eL_law_831, kx_l, nl_int, tl_s]
  with_reducible exact next _ _ _ _ _ _ _ _ (LW.ofM hFph hFqh) (by omega) (by omega)
end
end
/-! 79.cw1.lean.txt -/
section
section
variable {g : RO} {w : Hw} {x nA cA lA y nM o b L k n : Nat} {xs : Nat → Int32} {i kn th : Int32} {s : AS} {l5 l6 : Option Value}
set_option maxHeartbeats 4000000 in
theorem cL_12 (hR : RG g) (hb : g.2 b = some (.inl (1, L, .inl xs))) (hL : LW g w x nA cA lA y nM o kn kn th s s) (v1 : vp_in (i + 1) L) (v2 : vp_in (i + 2) L) (v3 : vp_in (i + 3) L) (v4 : vp_in (i + 4) L) (v5 : vp_in (i + 5) L) (hk : k + 114 ≤ 58408) (hn : n + 2834 ≤ 1451408) (next : (∀ (l5' l6' : Option Value) (w' : Hw) (k' n' : Nat) (kn' th' : Int32) (s' : AS), LW g w' x nA cA lA y nM o kn' kn' th' s' s' → k' ≤ k + 114 → n' ≤ n + 2834 → WP (ML_law g) QLaw (2218, [some (.ref b), some (.ref x), some (.ref y), some (.ref o), some (.int i), l5', l6'], [], w', k', n'))) : WP (ML_law g) QLaw (836, [some (.ref b), some (.ref x), some (.ref y), some (.ref o), some (.int i), l5, l6], [], w, k, n) := by
  simp only [eL_law_836, eL_law_843, eL_law_849, eL_law_855, eL_law_861, wt_nil]
  with_reducible refine gi_W hL hb ?_
  with_reducible refine And.intro ?_ ?_
  with_reducible assumption
  with_reducible refine gi_W hL hb ?_
  with_reducible refine And.intro ?_ ?_
  with_reducible assumption
  with_reducible refine gi_W hL hb ?_
  with_reducible refine And.intro ?_ ?_
  with_reducible assumption
  with_reducible refine gi_W hL hb ?_
  with_reducible refine And.intro ?_ ?_
  with_reducible assumption
  with_reducible refine And.intro ?_ ?_
  omega
  with_reducible refine And.intro ?_ ?_
  omega
  with_reducible refine And.intro ?_ ?_
  omega
  with_reducible refine fL_threeSmall hL (fun hXpc0 => ?_) (fun hTpc0 hTpc1 hTpw hTph hTpo => ?_) (fun hFpc0 hFpc1 hFpw hFph hFpo => ?_)
  simp only [eL_law_865, eL_law_869, eL_law_874, eL_law_880, eL_law_886, eL_law_892, kx_l, wt_nil, nl_int, tl_s]
  with_reducible refine gi_W hL hb ?_
  with_reducible refine And.intro ?_ ?_
  with_reducible assumption
  with_reducible refine gi_W hL hb ?_
  with_reducible refine And.intro ?_ ?_
  with_reducible assumption
  with_reducible refine gi_W hL hb ?_
  with_reducible refine And.intro ?_ ?_
  with_reducible assumption
  with_reducible refine gi_W hL hb ?_
  with_reducible refine And.intro ?_ ?_
  with_reducible assumption
  with_reducible refine And.intro ?_ ?_
  with_reducible refine LW.gz hL (fun _ => trivial)
  with_reducible refine And.intro ?_ ?_
  omega
  with_reducible refine And.intro ?_ ?_
  omega
  with_reducible refine And.intro ?_ ?_
  omega
  with_reducible refine fX3_threeSmall (LW.ms hL) (fun hXqc0 hXqw hXqh => ?_) (fun hTqc0 hTqc1 hTqw hTqh => ?_) (fun hFqc0 hFqc1 hFqw hFqh => ?_)
  simp only [eL_law_895, kx_l, nl_int, tl_s]
  with_reducible exact next _ _ _ _ _ _ _ _ (LW.ofM hL hXqh) (by omega) (by omega)
  with_reducible exact absurd hTqc0 hXpc0
  with_reducible exact absurd hFqc0 hXpc0
  simp only [eL_law_865, eL_law_869, eL_law_874, eL_law_880, eL_law_886, eL_law_892, kx_l, wt_nil, nl_int, tl_s]
  with_reducible refine gi_W hTph hb ?_
  with_reducible refine And.intro ?_ ?_
  with_reducible assumption
  with_reducible refine gi_W hTph hb ?_
  with_reducible refine And.intro ?_ ?_
  with_reducible assumption
  with_reducible refine gi_W hTph hb ?_
  with_reducible refine And.intro ?_ ?_
  with_reducible assumption
  with_reducible refine gi_W hTph hb ?_
  with_reducible refine And.intro ?_ ?_
  with_reducible assumption
  with_reducible refine And.intro ?_ ?_
  with_reducible refine LW.gz hTph (fun _ => trivial)
  with_reducible refine And.intro ?_ ?_
  omega
  with_reducible refine And.intro ?_ ?_
  omega
  with_reducible refine And.intro ?_ ?_
  omega
  with_reducible refine fX3_threeSmall (LW.ms hTph) (fun hXqc0 hXqw hXqh => ?_) (fun hTqc0 hTqc1 hTqw hTqh => ?_) (fun hFqc0 hFqc1 hFqw hFqh => ?_)
  with_reducible exact absurd hTpc0 hXqc0
  simp only [eL_law_895, kx_l, nl_int, tl_s]
  with_reducible exact next _ _ _ _ _ _ _ _ (LW.ofM hTph hTqh) (by omega) (by omega)
  with_reducible exact absurd hTpc1 hFqc1
  simp only [eL_law_865, eL_law_869, eL_law_874, eL_law_880, eL_law_886, eL_law_892, kx_l, wt_nil, nl_int, tl_s]
  with_reducible refine gi_W hFph hb ?_
  with_reducible refine And.intro ?_ ?_
  with_reducible assumption
  with_reducible refine gi_W hFph hb ?_
  with_reducible refine And.intro ?_ ?_
  with_reducible assumption
  with_reducible refine gi_W hFph hb ?_
  with_reducible refine And.intro ?_ ?_
  with_reducible assumption
  with_reducible refine gi_W hFph hb ?_
  with_reducible refine And.intro ?_ ?_
  with_reducible assumption
  with_reducible refine And.intro ?_ ?_
  with_reducible refine LW.gz hFph (fun _ => trivial)
  with_reducible refine And.intro ?_ ?_
  omega
  with_reducible refine And.intro ?_ ?_
  omega
  with_reducible refine And.intro ?_ ?_
  omega
  with_reducible refine fX3_threeSmall (LW.ms hFph) (fun hXqc0 hXqw hXqh => ?_) (fun hTqc0 hTqc1 hTqw hTqh => ?_) (fun hFqc0 hFqc1 hFqw hFqh => ?_)
  with_reducible exact absurd hFpc0 hXqc0
  with_reducible exact absurd hTqc1 hFpc1
  simp only [eL_law_895, kx_l, nl_int, tl_s]
  with_reducible exact next _ _ _ _ _ _ _ _ (LW.ofM hFph hFqh) (by omega) (by omega)
set_option maxHeartbeats 4000000 in
theorem cL_13 (hR : RG g) (hb : g.2 b = some (.inl (1, L, .inl xs))) (hL : LW g w x nA cA lA y nM o kn kn th s s) (v1 : vp_in (i + 1) L) (v2 : vp_in (i + 2) L) (v3 : vp_in (i + 3) L) (v4 : vp_in (i + 4) L) (v5 : vp_in (i + 5) L) (hk : k + 114 ≤ 58408) (hn : n + 2834 ≤ 1451408) (next : (∀ (l5' l6' : Option Value) (w' : Hw) (k' n' : Nat) (kn' th' : Int32) (s' : AS), LW g w' x nA cA lA y nM o kn' kn' th' s' s' → k' ≤ k + 114 → n' ≤ n + 2834 → WP (ML_law g) QLaw (2218, [some (.ref b), some (.ref x), some (.ref y), some (.ref o), some (.int i), l5', l6'], [], w', k', n'))) : WP (ML_law g) QLaw (900, [some (.ref b), some (.ref x), some (.ref y), some (.ref o), some (.int i), l5, l6], [], w, k, n) := by
  simp only [eL_law_900, eL_law_907, eL_law_913, eL_law_919, eL_law_925, eL_law_931, wt_nil]
  with_reducible refine gi_W hL hb ?_
  with_reducible refine And.intro ?_ ?_
  with_reducible assumption
  with_reducible refine gi_W hL hb ?_
  with_reducible refine And.intro ?_ ?_
  with_reducible assumption
  with_reducible refine gi_W hL hb ?_
  with_reducible refine And.intro ?_ ?_
  with_reducible assumption
  with_reducible refine gi_W hL hb ?_
  with_reducible refine And.intro ?_ ?_
  with_reducible assumption
  with_reducible refine gi_W hL hb ?_
  with_reducible refine And.intro ?_ ?_
  with_reducible assumption
  with_reducible refine And.intro ?_ ?_
  omega
  with_reducible refine And.intro ?_ ?_
  omega
  with_reducible refine And.intro ?_ ?_
  omega
  with_reducible refine fL_fourSmall hL (fun hXpc0 => ?_) (fun hTpc0 hTpc1 hTpw hTph hTpo => ?_) (fun hFpc0 hFpc1 hFpw hFph hFpo => ?_)
  simp only [eL_law_935, eL_law_939, eL_law_944, eL_law_950, eL_law_956, eL_law_962, eL_law_968, kx_l, wt_nil, nl_int, tl_s]
  with_reducible refine gi_W hL hb ?_
  with_reducible refine And.intro ?_ ?_
  with_reducible assumption
  with_reducible refine gi_W hL hb ?_
  with_reducible refine And.intro ?_ ?_
  with_reducible assumption
  with_reducible refine gi_W hL hb ?_
  with_reducible refine And.intro ?_ ?_
  with_reducible assumption
  with_reducible refine gi_W hL hb ?_
  with_reducible refine And.intro ?_ ?_
  with_reducible assumption
  with_reducible refine gi_W hL hb ?_
  with_reducible refine And.intro ?_ ?_
  with_reducible assumption
  with_reducible refine And.intro ?_ ?_
  with_reducible refine LW.gz hL (fun _ => trivial)
  with_reducible refine And.intro ?_ ?_
  omega
  with_reducible refine And.intro ?_ ?_
  omega
  with_reducible refine And.intro ?_ ?_
  omega
  with_reducible refine fX3_fourSmall (LW.ms hL) (fun hXqc0 hXqw hXqh => ?_) (fun hTqc0 hTqc1 hTqw hTqh => ?_) (fun hFqc0 hFqc1 hFqw hFqh => ?_)
  simp only [eL_law_971, kx_l, nl_int, tl_s]
  with_reducible exact next _ _ _ _ _ _ _ _ (LW.ofM hL hXqh) (by omega) (by omega)
  with_reducible exact absurd hTqc0 hXpc0
  with_reducible exact absurd hFqc0 hXpc0
  simp only [eL_law_935, eL_law_939, eL_law_944, eL_law_950, eL_law_956, eL_law_962, eL_law_968, kx_l, wt_nil, nl_int, tl_s]
  with_reducible refine gi_W hTph hb ?_
  with_reducible refine And.intro ?_ ?_
  with_reducible assumption
  with_reducible refine gi_W hTph hb ?_
  with_reducible refine And.intro ?_ ?_
  with_reducible assumption
  with_reducible refine gi_W hTph hb ?_
  with_reducible refine And.intro ?_ ?_
  with_reducible assumption
  with_reducible refine gi_W hTph hb ?_
  with_reducible refine And.intro ?_ ?_
  with_reducible assumption
  with_reducible refine gi_W hTph hb ?_
  with_reducible refine And.intro ?_ ?_
  with_reducible assumption
  with_reducible refine And.intro ?_ ?_
  with_reducible refine LW.gz hTph (fun _ => trivial)
  with_reducible refine And.intro ?_ ?_
  omega
  with_reducible refine And.intro ?_ ?_
  omega
  with_reducible refine And.intro ?_ ?_
  omega
  with_reducible refine fX3_fourSmall (LW.ms hTph) (fun hXqc0 hXqw hXqh => ?_) (fun hTqc0 hTqc1 hTqw hTqh => ?_) (fun hFqc0 hFqc1 hFqw hFqh => ?_)
  with_reducible exact absurd hTpc0 hXqc0
  simp only [eL_law_971, kx_l, nl_int, tl_s]
  with_reducible exact next _ _ _ _ _ _ _ _ (LW.ofM hTph hTqh) (by omega) (by omega)
  with_reducible exact absurd hTpc1 hFqc1
  simp only [eL_law_935, eL_law_939, eL_law_944, eL_law_950, eL_law_956, eL_law_962, eL_law_968, kx_l, wt_nil, nl_int, tl_s]
  with_reducible refine gi_W hFph hb ?_
  with_reducible refine And.intro ?_ ?_
  with_reducible assumption
  with_reducible refine gi_W hFph hb ?_
  with_reducible refine And.intro ?_ ?_
  with_reducible assumption
  with_reducible refine gi_W hFph hb ?_
  with_reducible refine And.intro ?_ ?_
  with_reducible assumption
  with_reducible refine gi_W hFph hb ?_
  with_reducible refine And.intro ?_ ?_
  with_reducible assumption
  with_reducible refine gi_W hFph hb ?_
  with_reducible refine And.intro ?_ ?_
  with_reducible assumption
  with_reducible refine And.intro ?_ ?_
  with_reducible refine LW.gz hFph (fun _ => trivial)
  with_reducible refine And.intro ?_ ?_
  omega
  with_reducible refine And.intro ?_ ?_
  omega
  with_reducible refine And.intro ?_ ?_
  omega
  with_reducible refine fX3_fourSmall (LW.ms hFph) (fun hXqc0 hXqw hXqh => ?_) (fun hTqc0 hTqc1 hTqw hTqh => ?_) (fun hFqc0 hFqc1 hFqw hFqh => ?_)
  with_reducible exact absurd hFpc0 hXqc0
  with_reducible exact absurd hTqc1 hFpc1
  simp only [eL_law_971, kx_l, nl_int, tl_s]
  with_reducible exact next _ _ _ _ _ _ _ _ (LW.ofM hFph hFqh) (by omega) (by omega)
set_option maxHeartbeats 4000000 in
theorem cL_14 (hR : RG g) (hb : g.2 b = some (.inl (1, L, .inl xs))) (hL : LW g w x nA cA lA y nM o kn kn th s s) (v1 : vp_in (i + 1) L) (v2 : vp_in (i + 2) L) (v3 : vp_in (i + 3) L) (v4 : vp_in (i + 4) L) (v5 : vp_in (i + 5) L) (hk : k + 114 ≤ 58408) (hn : n + 2834 ≤ 1451408) (next : (∀ (l5' l6' : Option Value) (w' : Hw) (k' n' : Nat) (kn' th' : Int32) (s' : AS), LW g w' x nA cA lA y nM o kn' kn' th' s' s' → k' ≤ k + 114 → n' ≤ n + 2834 → WP (ML_law g) QLaw (2218, [some (.ref b), some (.ref x), some (.ref y), some (.ref o), some (.int i), l5', l6'], [], w', k', n'))) : WP (ML_law g) QLaw (976, [some (.ref b), some (.ref x), some (.ref y), some (.ref o), some (.int i), l5, l6], [], w, k, n) := by
  simp only [eL_law_976, eL_law_983, eL_law_989, wt_nil]
  with_reducible refine gi_W hL hb ?_
  with_reducible refine And.intro ?_ ?_
  with_reducible assumption
  with_reducible refine gi_W hL hb ?_
  with_reducible refine And.intro ?_ ?_
  with_reducible assumption
  with_reducible refine And.intro ?_ ?_
  omega
  with_reducible refine And.intro ?_ ?_
  omega
  with_reducible refine And.intro ?_ ?_
  omega
  with_reducible refine fL_again hL (fun hXpc0 => ?_) (fun hSpc0 hSpc1 hSpc2 => ?_) (fun hQpc0 hQpc1 hQpr hQpc2 hQpw hQph hQpo => ?_)
  simp only [eL_law_993, eL_law_997, eL_law_1002, eL_law_1008, kx_l, wt_nil, nl_int, tl_s]
  with_reducible refine gi_W hL hb ?_
  with_reducible refine And.intro ?_ ?_
  with_reducible assumption
  with_reducible refine gi_W hL hb ?_
  with_reducible refine And.intro ?_ ?_
  with_reducible assumption
  with_reducible refine And.intro ?_ ?_
  with_reducible refine LW.gz hL (fun _ => trivial)
  with_reducible refine And.intro ?_ ?_
  omega
  with_reducible refine And.intro ?_ ?_
  omega
  with_reducible refine And.intro ?_ ?_
  omega
  with_reducible refine fX3_again (LW.ms hL) hL.ok (fun hXqc0 hXqw hXqh => ?_) (fun hSqc0 hSqc1 hSqc2 hSqw hSqh => ?_) (fun hQqc0 hQqc1 hQqr hQqc2 hQqw hQqh => ?_)
  simp only [eL_law_1011, kx_l, nl_int, tl_s]
  with_reducible exact next _ _ _ _ _ _ _ _ (LW.ofM hL hXqh) (by omega) (by omega)
  with_reducible exact absurd (And.intro hSqc0 hSqc1) hXpc0
  with_reducible exact absurd (And.intro hQqc0 hQqc1) hXpc0
  simp only [eL_law_993, eL_law_997, eL_law_1002, eL_law_1008, kx_l, wt_nil, nl_int, tl_s]
  with_reducible refine gi_W hL hb ?_
  with_reducible refine And.intro ?_ ?_
  with_reducible assumption
  with_reducible refine gi_W hL hb ?_
  with_reducible refine And.intro ?_ ?_
  with_reducible assumption
  with_reducible refine And.intro ?_ ?_
  with_reducible refine LW.gz hL (fun _ => trivial)
  with_reducible refine And.intro ?_ ?_
  omega
  with_reducible refine And.intro ?_ ?_
  omega
  with_reducible refine And.intro ?_ ?_
  omega
  with_reducible refine fX3_again (LW.ms hL) hL.ok (fun hXqc0 hXqw hXqh => ?_) (fun hSqc0 hSqc1 hSqc2 hSqw hSqh => ?_) (fun hQqc0 hQqc1 hQqr hQqc2 hQqw hQqh => ?_)
  with_reducible exact absurd (And.intro hSpc0 hSpc1) hXqc0
  simp only [eL_law_1011, kx_l, nl_int, tl_s]
  with_reducible exact next _ _ _ _ _ _ _ _ (LW.ofM hL hSqh) (by omega) (by omega)
  with_reducible exact (nsC hSpc2 hQqc2).elim
  simp only [eL_law_993, eL_law_997, eL_law_1002, eL_law_1008, kx_l, wt_nil, nl_int, tl_s]
  with_reducible refine gi_W hQph hb ?_
  with_reducible refine And.intro ?_ ?_
  with_reducible assumption
  with_reducible refine gi_W hQph hb ?_
  with_reducible refine And.intro ?_ ?_
  with_reducible assumption
  with_reducible refine And.intro ?_ ?_
  with_reducible refine LW.gz hQph (fun _ => trivial)
  with_reducible refine And.intro ?_ ?_
  omega
  with_reducible refine And.intro ?_ ?_
  omega
  with_reducible refine And.intro ?_ ?_
  omega
  with_reducible refine fX3_again (LW.ms hQph) hL.ok (fun hXqc0 hXqw hXqh => ?_) (fun hSqc0 hSqc1 hSqc2 hSqw hSqh => ?_) (fun hQqc0 hQqc1 hQqr hQqc2 hQqw hQqh => ?_)
  with_reducible exact absurd (And.intro hQpc0 hQpc1) hXqc0
  with_reducible exact (nsC hSqc2 hQpc2).elim
  cases Option.some.inj (hQpc2.symm.trans hQqc2); clear hQqc2
  simp only [eL_law_1011, kx_l, nl_int, tl_s]
  with_reducible exact next _ _ _ _ _ _ _ _ (LW.ofM hQph hQqh) (by omega) (by omega)
set_option maxHeartbeats 4000000 in
theorem cL_15 (hR : RG g) (hb : g.2 b = some (.inl (1, L, .inl xs))) (hL : LW g w x nA cA lA y nM o kn kn th s s) (v1 : vp_in (i + 1) L) (v2 : vp_in (i + 2) L) (v3 : vp_in (i + 3) L) (v4 : vp_in (i + 4) L) (v5 : vp_in (i + 5) L) (hk : k + 114 ≤ 58408) (hn : n + 2834 ≤ 1451408) (next : (∀ (l5' l6' : Option Value) (w' : Hw) (k' n' : Nat) (kn' th' : Int32) (s' : AS), LW g w' x nA cA lA y nM o kn' kn' th' s' s' → k' ≤ k + 114 → n' ≤ n + 2834 → WP (ML_law g) QLaw (2218, [some (.ref b), some (.ref x), some (.ref y), some (.ref o), some (.int i), l5', l6'], [], w', k', n'))) : WP (ML_law g) QLaw (1016, [some (.ref b), some (.ref x), some (.ref y), some (.ref o), some (.int i), l5, l6], [], w, k, n) := by
  simp only [eL_law_1016, eL_law_1023, eL_law_1029, wt_nil]
  with_reducible refine gi_W hL hb ?_
  with_reducible refine And.intro ?_ ?_
  with_reducible assumption
  with_reducible refine gi_W hL hb ?_
  with_reducible refine And.intro ?_ ?_
  with_reducible assumption
  with_reducible refine And.intro ?_ ?_
  omega
  with_reducible refine And.intro ?_ ?_
  omega
  with_reducible refine And.intro ?_ ?_
  omega
  with_reducible refine fL_same hL (fun hXpc0 => ?_) (fun hSpc0 hSpc1 hSpc2 => ?_) (fun hNpc0 hNpc1 hNpr hNpc2 hNpc3 hNpw hNph hNpo => ?_) (fun hTpc0 hTpc1 hTpr hTpc2 hTpq hTpc3 hTpc4 hTpw hTph hTpo => ?_) (fun hFpc0 hFpc1 hFpr hFpc2 hFpq hFpc3 hFpc4 hFpw hFph hFpo => ?_)
  simp only [eL_law_1033, eL_law_1037, eL_law_1042, eL_law_1048, kx_l, wt_nil, nl_int, tl_s, Nat.add_zero]
  with_reducible refine gi_W hL hb ?_
  with_reducible refine And.intro ?_ ?_
  with_reducible assumption
  with_reducible refine gi_W hL hb ?_
  with_reducible refine And.intro ?_ ?_
  with_reducible assumption
  with_reducible refine And.intro ?_ ?_
  with_reducible refine LW.gz hL (fun _ => trivial)
  with_reducible refine And.intro ?_ ?_
  omega
  with_reducible refine And.intro ?_ ?_
  omega
  with_reducible refine And.intro ?_ ?_
  omega
  with_reducible refine fX3_same_ (LW.ms hL) (fun hXqc0 hXqw hXqh => ?_) (fun hSqc0 hSqc1 hSqc2 hSqw hSqh => ?_) (fun hNqc0 hNqc1 hNqr hNqc2 hNqc3 hNqw hNqh => ?_) (fun hTqc0 hTqc1 hTqr hTqc2 hTqq hTqc3 hTqc4 hTqw hTqh => ?_) (fun hFqc0 hFqc1 hFqr hFqc2 hFqq hFqc3 hFqc4 hFqw hFqh => ?_)
  simp only [eL_law_1051, kx_l, nl_int, tl_s]
  with_reducible exact next _ _ _ _ _ _ _ _ (LW.ofM hL hXqh) (by omega) (by omega)
  with_reducible exact absurd (And.intro hSqc0 hSqc1) hXpc0
  with_reducible exact absurd (And.intro hNqc0 hNqc1) hXpc0
  with_reducible exact absurd (And.intro hTqc0 hTqc1) hXpc0
  with_reducible exact absurd (And.intro hFqc0 hFqc1) hXpc0
  simp only [eL_law_1033, eL_law_1037, eL_law_1042, eL_law_1048, kx_l, wt_nil, nl_int, tl_s, Nat.add_zero]
  with_reducible refine gi_W hL hb ?_
  with_reducible refine And.intro ?_ ?_
  with_reducible assumption
  with_reducible refine gi_W hL hb ?_
  with_reducible refine And.intro ?_ ?_
  with_reducible assumption
  with_reducible refine And.intro ?_ ?_
  with_reducible refine LW.gz hL (fun _ => trivial)
  with_reducible refine And.intro ?_ ?_
  omega
  with_reducible refine And.intro ?_ ?_
  omega
  with_reducible refine And.intro ?_ ?_
  omega
  with_reducible refine fX3_same_ (LW.ms hL) (fun hXqc0 hXqw hXqh => ?_) (fun hSqc0 hSqc1 hSqc2 hSqw hSqh => ?_) (fun hNqc0 hNqc1 hNqr hNqc2 hNqc3 hNqw hNqh => ?_) (fun hTqc0 hTqc1 hTqr hTqc2 hTqq hTqc3 hTqc4 hTqw hTqh => ?_) (fun hFqc0 hFqc1 hFqr hFqc2 hFqq hFqc3 hFqc4 hFqw hFqh => ?_)
  with_reducible exact absurd (And.intro hSpc0 hSpc1) hXqc0
  simp only [eL_law_1051, kx_l, nl_int, tl_s]
  with_reducible exact next _ _ _ _ _ _ _ _ (LW.ofM hL hSqh) (by omega) (by omega)
  with_reducible exact (nsC hSpc2 hNqc2).elim
  with_reducible exact (nsC hSpc2 hTqc2).elim
  with_reducible exact (nsC hSpc2 hFqc2).elim
  simp only [eL_law_1033, eL_law_1037, eL_law_1042, eL_law_1048, kx_l, wt_nil, nl_int, tl_s, Nat.add_zero]
  with_reducible refine gi_W hNph hb ?_
  with_reducible refine And.intro ?_ ?_
  with_reducible assumption
  with_reducible refine gi_W hNph hb ?_
  with_reducible refine And.intro ?_ ?_
  with_reducible assumption
  with_reducible refine And.intro ?_ ?_
  with_reducible refine LW.gz hNph (fun _ => trivial)
  with_reducible refine And.intro ?_ ?_
  omega
  with_reducible refine And.intro ?_ ?_
  omega
  with_reducible refine And.intro ?_ ?_
  omega
  with_reducible refine fX3_same_ (LW.ms hNph) (fun hXqc0 hXqw hXqh => ?_) (fun hSqc0 hSqc1 hSqc2 hSqw hSqh => ?_) (fun hNqc0 hNqc1 hNqr hNqc2 hNqc3 hNqw hNqh => ?_) (fun hTqc0 hTqc1 hTqr hTqc2 hTqq hTqc3 hTqc4 hTqw hTqh => ?_) (fun hFqc0 hFqc1 hFqr hFqc2 hFqq hFqc3 hFqc4 hFqw hFqh => ?_)
  with_reducible exact absurd (And.intro hNpc0 hNpc1) hXqc0
  with_reducible exact (nsC hSqc2 hNpc2).elim
  cases Option.some.inj (hNpc2.symm.trans hNqc2); clear hNqc2
  simp only [eL_law_1051, kx_l, nl_int, tl_s]
  with_reducible exact next _ _ _ _ _ _ _ _ (LW.ofM hNph hNqh) (by omega) (by omega)
  cases Option.some.inj (hNpc2.symm.trans hTqc2); clear hTqc2
  with_reducible exact (nsC hNpc3 hTqc3).elim
  cases Option.some.inj (hNpc2.symm.trans hFqc2); clear hFqc2
  with_reducible exact (nsC hNpc3 hFqc3).elim
  simp only [eL_law_1033, eL_law_1037, eL_law_1042, eL_law_1048, kx_l, wt_nil, nl_int, tl_s, Nat.add_zero]
  with_reducible refine gi_W hTph hb ?_
  with_reducible refine And.intro ?_ ?_
  with_reducible assumption
  with_reducible refine gi_W hTph hb ?_
  with_reducible refine And.intro ?_ ?_
  with_reducible assumption
  with_reducible refine And.intro ?_ ?_
  with_reducible refine LW.gz hTph (fun _ => trivial)
  with_reducible refine And.intro ?_ ?_
  omega
  with_reducible refine And.intro ?_ ?_
  omega
  with_reducible refine And.intro ?_ ?_
  omega
  with_reducible refine fX3_same_ (LW.ms hTph) (fun hXqc0 hXqw hXqh => ?_) (fun hSqc0 hSqc1 hSqc2 hSqw hSqh => ?_) (fun hNqc0 hNqc1 hNqr hNqc2 hNqc3 hNqw hNqh => ?_) (fun hTqc0 hTqc1 hTqr hTqc2 hTqq hTqc3 hTqc4 hTqw hTqh => ?_) (fun hFqc0 hFqc1 hFqr hFqc2 hFqq hFqc3 hFqc4 hFqw hFqh => ?_)
  with_reducible exact absurd (And.intro hTpc0 hTpc1) hXqc0
  with_reducible exact (nsC hSqc2 hTpc2).elim
  cases Option.some.inj (hTpc2.symm.trans hNqc2); clear hNqc2
  with_reducible exact (nsC hNqc3 hTpc3).elim
  cases Option.some.inj (hTpc2.symm.trans hTqc2); clear hTqc2
  cases Option.some.inj (hTpc3.symm.trans hTqc3); clear hTqc3
  simp only [eL_law_1051, kx_l, nl_int, tl_s]
  with_reducible exact next _ _ _ _ _ _ _ _ (LW.ofM hTph hTqh) (by omega) (by omega)
  cases Option.some.inj (hTpc2.symm.trans hFqc2); clear hFqc2
  cases Option.some.inj (hTpc3.symm.trans hFqc3); clear hFqc3
  with_reducible exact absurd hTpc4 hFqc4
  simp only [eL_law_1033, eL_law_1037, eL_law_1042, eL_law_1048, kx_l, wt_nil, nl_int, tl_s, Nat.add_zero]
  with_reducible refine gi_W hFph hb ?_
  with_reducible refine And.intro ?_ ?_
  with_reducible assumption
  with_reducible refine gi_W hFph hb ?_
  with_reducible refine And.intro ?_ ?_
  with_reducible assumption
  with_reducible refine And.intro ?_ ?_
  with_reducible refine LW.gz hFph (fun _ => trivial)
  with_reducible refine And.intro ?_ ?_
  omega
  with_reducible refine And.intro ?_ ?_
  omega
  with_reducible refine And.intro ?_ ?_
  omega
  with_reducible refine fX3_same_ (LW.ms hFph) (fun hXqc0 hXqw hXqh => ?_) (fun hSqc0 hSqc1 hSqc2 hSqw hSqh => ?_) (fun hNqc0 hNqc1 hNqr hNqc2 hNqc3 hNqw hNqh => ?_) (fun hTqc0 hTqc1 hTqr hTqc2 hTqq hTqc3 hTqc4 hTqw hTqh => ?_) (fun hFqc0 hFqc1 hFqr hFqc2 hFqq hFqc3 hFqc4 hFqw hFqh => ?_)
  with_reducible exact absurd (And.intro hFpc0 hFpc1) hXqc0
  with_reducible exact (nsC hSqc2 hFpc2).elim
  cases Option.some.inj (hFpc2.symm.trans hNqc2); clear hNqc2
  with_reducible exact (nsC hNqc3 hFpc3).elim
  cases Option.some.inj (hFpc2.symm.trans hTqc2); clear hTqc2
  cases Option.some.inj (hFpc3.symm.trans hTqc3); clear hTqc3
  with_reducible exact absurd hTqc4 hFpc4
  cases Option.some.inj (hFpc2.symm.trans hFqc2); clear hFqc2
  cases Option.some.inj (hFpc3.symm.trans hFqc3); clear hFqc3
  simp only [eL_law_1051, kx_l, nl_int, tl_s]
  with_reducible exact next _ _ _ _ _ _ _ _ (LW.ofM hFph hFqh) (by omega) (by omega)
set_option maxHeartbeats 4000000 in
theorem cL_16 (hR : RG g) (hb : g.2 b = some (.inl (1, L, .inl xs))) (hL : LW g w x nA cA lA y nM o kn kn th s s) (v1 : vp_in (i + 1) L) (v2 : vp_in (i + 2) L) (v3 : vp_in (i + 3) L) (v4 : vp_in (i + 4) L) (v5 : vp_in (i + 5) L) (hk : k + 114 ≤ 58408) (hn : n + 2834 ≤ 1451408) (next : (∀ (l5' l6' : Option Value) (w' : Hw) (k' n' : Nat) (kn' th' : Int32) (s' : AS), LW g w' x nA cA lA y nM o kn' kn' th' s' s' → k' ≤ k + 114 → n' ≤ n + 2834 → WP (ML_law g) QLaw (2218, [some (.ref b), some (.ref x), some (.ref y), some (.ref o), some (.int i), l5', l6'], [], w', k', n'))) : WP (ML_law g) QLaw (1056, [some (.ref b), some (.ref x), some (.ref y), some (.ref o), some (.int i), l5, l6], [], w, k, n) := by
  simp only [eL_law_1056, eL_law_1063, eL_law_1069, wt_nil]
  with_reducible refine gi_W hL hb ?_
  with_reducible refine And.intro ?_ ?_
  with_reducible assumption
  with_reducible refine gi_W hL hb ?_
  with_reducible refine And.intro ?_ ?_
  with_reducible assumption
  with_reducible refine And.intro ?_ ?_
  omega
  with_reducible refine And.intro ?_ ?_
  omega
  with_reducible refine And.intro ?_ ?_
  omega
  with_reducible refine fL_outer hL (fun hXpc0 => ?_) (fun hSpc0 hSpc1 hSpc2 => ?_) (fun hTpc0 hTpc1 hTpr hTpc2 hTpc3 hTpw hTph hTpo => ?_) (fun hFpc0 hFpc1 hFpr hFpc2 hFpc3 hFpw hFph hFpo => ?_)
  simp only [eL_law_1073, eL_law_1077, eL_law_1082, eL_law_1088, kx_l, wt_nil, nl_int, tl_s]
  with_reducible refine gi_W hL hb ?_
  with_reducible refine And.intro ?_ ?_
  with_reducible assumption
  with_reducible refine gi_W hL hb ?_
  with_reducible refine And.intro ?_ ?_
  with_reducible assumption
  with_reducible refine And.intro ?_ ?_
  with_reducible refine LW.gz hL (fun _ => trivial)
  with_reducible refine And.intro ?_ ?_
  omega
  with_reducible refine And.intro ?_ ?_
  omega
  with_reducible refine And.intro ?_ ?_
  omega
  with_reducible refine fX3_outer (LW.ms hL) hL.ok (fun hXqc0 hXqw hXqh => ?_) (fun hSqc0 hSqc1 hSqc2 hSqw hSqh => ?_) (fun hTqc0 hTqc1 hTqr hTqc2 hTqc3 hTqw hTqh => ?_) (fun hFqc0 hFqc1 hFqr hFqc2 hFqc3 hFqw hFqh => ?_)
  simp only [eL_law_1091, kx_l, nl_int, tl_s]
  with_reducible exact next _ _ _ _ _ _ _ _ (LW.ofM hL hXqh) (by omega) (by omega)
  with_reducible exact absurd (And.intro hSqc0 hSqc1) hXpc0
  with_reducible exact absurd (And.intro hTqc0 hTqc1) hXpc0
  with_reducible exact absurd (And.intro hFqc0 hFqc1) hXpc0
  simp only [eL_law_1073, eL_law_1077, eL_law_1082, eL_law_1088, kx_l, wt_nil, nl_int, tl_s]
  with_reducible refine gi_W hL hb ?_
  with_reducible refine And.intro ?_ ?_
  with_reducible assumption
  with_reducible refine gi_W hL hb ?_
  with_reducible refine And.intro ?_ ?_
  with_reducible assumption
  with_reducible refine And.intro ?_ ?_
  with_reducible refine LW.gz hL (fun _ => trivial)
  with_reducible refine And.intro ?_ ?_
  omega
  with_reducible refine And.intro ?_ ?_
  omega
  with_reducible refine And.intro ?_ ?_
  omega
  with_reducible refine fX3_outer (LW.ms hL) hL.ok (fun hXqc0 hXqw hXqh => ?_) (fun hSqc0 hSqc1 hSqc2 hSqw hSqh => ?_) (fun hTqc0 hTqc1 hTqr hTqc2 hTqc3 hTqw hTqh => ?_) (fun hFqc0 hFqc1 hFqr hFqc2 hFqc3 hFqw hFqh => ?_)
  with_reducible exact absurd (And.intro hSpc0 hSpc1) hXqc0
  simp only [eL_law_1091, kx_l, nl_int, tl_s]
  with_reducible exact next _ _ _ _ _ _ _ _ (LW.ofM hL hSqh) (by omega) (by omega)
  with_reducible exact (nsC hSpc2 hTqc2).elim
  with_reducible exact (nsC hSpc2 hFqc2).elim
  simp only [eL_law_1073, eL_law_1077, eL_law_1082, eL_law_1088, kx_l, wt_nil, nl_int, tl_s]
  with_reducible refine gi_W hTph hb ?_
  with_reducible refine And.intro ?_ ?_
  with_reducible assumption
  with_reducible refine gi_W hTph hb ?_
  with_reducible refine And.intro ?_ ?_
  with_reducible assumption
  with_reducible refine And.intro ?_ ?_
  with_reducible refine LW.gz hTph (fun _ => trivial)
  with_reducible refine And.intro ?_ ?_
  omega
  with_reducible refine And.intro ?_ ?_
  omega
  with_reducible refine And.intro ?_ ?_
  omega
  with_reducible refine fX3_outer (LW.ms hTph) hL.ok (fun hXqc0 hXqw hXqh => ?_) (fun hSqc0 hSqc1 hSqc2 hSqw hSqh => ?_) (fun hTqc0 hTqc1 hTqr hTqc2 hTqc3 hTqw hTqh => ?_) (fun hFqc0 hFqc1 hFqr hFqc2 hFqc3 hFqw hFqh => ?_)
  with_reducible exact absurd (And.intro hTpc0 hTpc1) hXqc0
  with_reducible exact (nsC hSqc2 hTpc2).elim
  cases Option.some.inj (hTpc2.symm.trans hTqc2); clear hTqc2
  simp only [eL_law_1091, kx_l, nl_int, tl_s]
  with_reducible exact next _ _ _ _ _ _ _ _ (LW.ofM hTph hTqh) (by omega) (by omega)
  cases Option.some.inj (hTpc2.symm.trans hFqc2); clear hFqc2
  with_reducible exact absurd hTpc3 hFqc3
  simp only [eL_law_1073, eL_law_1077, eL_law_1082, eL_law_1088, kx_l, wt_nil, nl_int, tl_s]
  with_reducible refine gi_W hFph hb ?_
  with_reducible refine And.intro ?_ ?_
  with_reducible assumption
  with_reducible refine gi_W hFph hb ?_
  with_reducible refine And.intro ?_ ?_
  with_reducible assumption
  with_reducible refine And.intro ?_ ?_
  with_reducible refine LW.gz hFph (fun _ => trivial)
  with_reducible refine And.intro ?_ ?_
  omega
  with_reducible refine And.intro ?_ ?_
  omega
  with_reducible refine And.intro ?_ ?_
  omega
  with_reducible refine fX3_outer (LW.ms hFph) hL.ok (fun hXqc0 hXqw hXqh => ?_) (fun hSqc0 hSqc1 hSqc2 hSqw hSqh => ?_) (fun hTqc0 hTqc1 hTqr hTqc2 hTqc3 hTqw hTqh => ?_) (fun hFqc0 hFqc1 hFqr hFqc2 hFqc3 hFqw hFqh => ?_)
  with_reducible exact absurd (And.intro hFpc0 hFpc1) hXqc0
  with_reducible exact (nsC hSqc2 hFpc2).elim
  cases Option.some.inj (hFpc2.symm.trans hTqc2); clear hTqc2
  with_reducible exact absurd hTqc3 hFpc3
  cases Option.some.inj (hFpc2.symm.trans hFqc2); clear hFqc2
  simp only [eL_law_1091, kx_l, nl_int, tl_s]
  with_reducible exact next _ _ _ _ _ _ _ _ (LW.ofM hFph hFqh) (by omega) (by omega)
set_option maxHeartbeats 4000000 in
theorem cL_17 (hR : RG g) (hb : g.2 b = some (.inl (1, L, .inl xs))) (hL : LW g w x nA cA lA y nM o kn kn th s s) (v1 : vp_in (i + 1) L) (v2 : vp_in (i + 2) L) (v3 : vp_in (i + 3) L) (v4 : vp_in (i + 4) L) (v5 : vp_in (i + 5) L) (hk : k + 114 ≤ 58408) (hn : n + 2834 ≤ 1451408) (next : (∀ (l5' l6' : Option Value) (w' : Hw) (k' n' : Nat) (kn' th' : Int32) (s' : AS), LW g w' x nA cA lA y nM o kn' kn' th' s' s' → k' ≤ k + 114 → n' ≤ n + 2834 → WP (ML_law g) QLaw (2218, [some (.ref b), some (.ref x), some (.ref y), some (.ref o), some (.int i), l5', l6'], [], w', k', n'))) : WP (ML_law g) QLaw (1096, [some (.ref b), some (.ref x), some (.ref y), some (.ref o), some (.int i), l5, l6], [], w, k, n) := by
  simp only [eL_law_1096, eL_law_1103, eL_law_1109, wt_nil]
  with_reducible refine gi_W hL hb ?_
  with_reducible refine And.intro ?_ ?_
  with_reducible assumption
  with_reducible refine gi_W hL hb ?_
  with_reducible refine And.intro ?_ ?_
  with_reducible assumption
  with_reducible refine And.intro ?_ ?_
  omega
  with_reducible refine And.intro ?_ ?_
  omega
  with_reducible refine And.intro ?_ ?_
  omega
  with_reducible refine fL_inner hL (fun hXpc0 => ?_) (fun hSpc0 hSpc1 hSpc2 => ?_) (fun hTpc0 hTpc1 hTpr hTpc2 hTpc3 hTpw hTph hTpo => ?_) (fun hFpc0 hFpc1 hFpr hFpc2 hFpc3 hFpw hFph hFpo => ?_)
  simp only [eL_law_1113, eL_law_1117, eL_law_1122, eL_law_1128, kx_l, wt_nil, nl_int, tl_s]
  with_reducible refine gi_W hL hb ?_
  with_reducible refine And.intro ?_ ?_
  with_reducible assumption
  with_reducible refine gi_W hL hb ?_
  with_reducible refine And.intro ?_ ?_
  with_reducible assumption
  with_reducible refine And.intro ?_ ?_
  with_reducible refine LW.gz hL (fun _ => trivial)
  with_reducible refine And.intro ?_ ?_
  omega
  with_reducible refine And.intro ?_ ?_
  omega
  with_reducible refine And.intro ?_ ?_
  omega
  with_reducible refine fX3_inner (LW.ms hL) (fun hXqc0 hXqw hXqh => ?_) (fun hSqc0 hSqc1 hSqc2 hSqw hSqh => ?_) (fun hTqc0 hTqc1 hTqr hTqc2 hTqc3 hTqw hTqh => ?_) (fun hFqc0 hFqc1 hFqr hFqc2 hFqc3 hFqw hFqh => ?_)
  simp only [eL_law_1131, kx_l, nl_int, tl_s]
  with_reducible exact next _ _ _ _ _ _ _ _ (LW.ofM hL hXqh) (by omega) (by omega)
  with_reducible exact absurd (And.intro hSqc0 hSqc1) hXpc0
  with_reducible exact absurd (And.intro hTqc0 hTqc1) hXpc0
  with_reducible exact absurd (And.intro hFqc0 hFqc1) hXpc0
  simp only [eL_law_1113, eL_law_1117, eL_law_1122, eL_law_1128, kx_l, wt_nil, nl_int, tl_s]
  with_reducible refine gi_W hL hb ?_
  with_reducible refine And.intro ?_ ?_
  with_reducible assumption
  with_reducible refine gi_W hL hb ?_
  with_reducible refine And.intro ?_ ?_
  with_reducible assumption
  with_reducible refine And.intro ?_ ?_
  with_reducible refine LW.gz hL (fun _ => trivial)
  with_reducible refine And.intro ?_ ?_
  omega
  with_reducible refine And.intro ?_ ?_
  omega
  with_reducible refine And.intro ?_ ?_
  omega
  with_reducible refine fX3_inner (LW.ms hL) (fun hXqc0 hXqw hXqh => ?_) (fun hSqc0 hSqc1 hSqc2 hSqw hSqh => ?_) (fun hTqc0 hTqc1 hTqr hTqc2 hTqc3 hTqw hTqh => ?_) (fun hFqc0 hFqc1 hFqr hFqc2 hFqc3 hFqw hFqh => ?_)
  with_reducible exact absurd (And.intro hSpc0 hSpc1) hXqc0
  simp only [eL_law_1131, kx_l, nl_int, tl_s]
  with_reducible exact next _ _ _ _ _ _ _ _ (LW.ofM hL hSqh) (by omega) (by omega)
  with_reducible exact (nsC hSpc2 hTqc2).elim
  with_reducible exact (nsC hSpc2 hFqc2).elim
  simp only [eL_law_1113, eL_law_1117, eL_law_1122, eL_law_1128, kx_l, wt_nil, nl_int, tl_s]
  with_reducible refine gi_W hTph hb ?_
  with_reducible refine And.intro ?_ ?_
  with_reducible assumption
  with_reducible refine gi_W hTph hb ?_
  with_reducible refine And.intro ?_ ?_
  with_reducible assumption
  with_reducible refine And.intro ?_ ?_
  with_reducible refine LW.gz hTph (fun _ => trivial)
  with_reducible refine And.intro ?_ ?_
  omega
  with_reducible refine And.intro ?_ ?_
  omega
  with_reducible refine And.intro ?_ ?_
  omega
  with_reducible refine fX3_inner (LW.ms hTph) (fun hXqc0 hXqw hXqh => ?_) (fun hSqc0 hSqc1 hSqc2 hSqw hSqh => ?_) (fun hTqc0 hTqc1 hTqr hTqc2 hTqc3 hTqw hTqh => ?_) (fun hFqc0 hFqc1 hFqr hFqc2 hFqc3 hFqw hFqh => ?_)
  with_reducible exact absurd (And.intro hTpc0 hTpc1) hXqc0
  with_reducible exact (nsC hSqc2 hTpc2).elim
  cases Option.some.inj (hTpc2.symm.trans hTqc2); clear hTqc2
  simp only [eL_law_1131, kx_l, nl_int, tl_s]
  with_reducible exact next _ _ _ _ _ _ _ _ (LW.ofM hTph hTqh) (by omega) (by omega)
  cases Option.some.inj (hTpc2.symm.trans hFqc2); clear hFqc2
  with_reducible exact absurd hTpc3 hFqc3
  simp only [eL_law_1113, eL_law_1117, eL_law_1122, eL_law_1128, kx_l, wt_nil, nl_int, tl_s]
  with_reducible refine gi_W hFph hb ?_
  with_reducible refine And.intro ?_ ?_
  with_reducible assumption
  with_reducible refine gi_W hFph hb ?_
  with_reducible refine And.intro ?_ ?_
  with_reducible assumption
  with_reducible refine And.intro ?_ ?_
  with_reducible refine LW.gz hFph (fun _ => trivial)
  with_reducible refine And.intro ?_ ?_
  omega
  with_reducible refine And.intro ?_ ?_
  omega
  with_reducible refine And.intro ?_ ?_
  omega
  with_reducible refine fX3_inner (LW.ms hFph) (fun hXqc0 hXqw hXqh => ?_) (fun hSqc0 hSqc1 hSqc2 hSqw hSqh => ?_) (fun hTqc0 hTqc1 hTqr hTqc2 hTqc3 hTqw hTqh => ?_) (fun hFqc0 hFqc1 hFqr hFqc2 hFqc3 hFqw hFqh => ?_)
  with_reducible exact absurd (And.intro hFpc0 hFpc1) hXqc0
  with_reducible exact (nsC hSqc2 hFpc2).elim
  cases Option.some.inj (hFpc2.symm.trans hTqc2); clear hTqc2
  with_reducible exact absurd hTqc3 hFpc3
  cases Option.some.inj (hFpc2.symm.trans hFqc2); clear hFqc2
  simp only [eL_law_1131, kx_l, nl_int, tl_s]
  with_reducible exact next _ _ _ _ _ _ _ _ (LW.ofM hFph hFqh) (by omega) (by omega)
set_option maxHeartbeats 4000000 in
theorem cL_18 (hR : RG g) (hb : g.2 b = some (.inl (1, L, .inl xs))) (hL : LW g w x nA cA lA y nM o kn kn th s s) (v1 : vp_in (i + 1) L) (v2 : vp_in (i + 2) L) (v3 : vp_in (i + 3) L) (v4 : vp_in (i + 4) L) (v5 : vp_in (i + 5) L) (hk : k + 114 ≤ 58408) (hn : n + 2834 ≤ 1451408) (next : (∀ (l5' l6' : Option Value) (w' : Hw) (k' n' : Nat) (kn' th' : Int32) (s' : AS), LW g w' x nA cA lA y nM o kn' kn' th' s' s' → k' ≤ k + 114 → n' ≤ n + 2834 → WP (ML_law g) QLaw (2218, [some (.ref b), some (.ref x), some (.ref y), some (.ref o), some (.int i), l5', l6'], [], w', k', n'))) : WP (ML_law g) QLaw (1136, [some (.ref b), some (.ref x), some (.ref y), some (.ref o), some (.int i), l5, l6], [], w, k, n) := by
  simp only [eL_law_1136, eL_law_1143, eL_law_1149, eL_law_1155, wt_nil]
  with_reducible refine gi_W hL hb ?_
  with_reducible refine And.intro ?_ ?_
  with_reducible assumption
  with_reducible refine gi_W hL hb ?_
  with_reducible refine And.intro ?_ ?_
  with_reducible assumption
  with_reducible refine gi_W hL hb ?_
  with_reducible refine And.intro ?_ ?_
  with_reducible assumption
  with_reducible refine And.intro ?_ ?_
  omega
  with_reducible refine And.intro ?_ ?_
  omega
  with_reducible refine And.intro ?_ ?_
  omega
  with_reducible refine fL_span hL (fun hXpc0 => ?_) (fun hSpc0 hSpc1 hSpc2 hSpc3 => ?_) (fun hTpc0 hTpc1 hTpc2 hTpr hTpq hTpc3 hTpc4 hTpc5 hTpw hTph hTpo => ?_) (fun hFpc0 hFpc1 hFpc2 hFpr hFpq hFpc3 hFpc4 hFpc5 hFpw hFph hFpo => ?_)
  simp only [eL_law_1159, eL_law_1163, eL_law_1168, eL_law_1174, eL_law_1180, kx_l, wt_nil, nl_int, tl_s]
  with_reducible refine gi_W hL hb ?_
  with_reducible refine And.intro ?_ ?_
  with_reducible assumption
  with_reducible refine gi_W hL hb ?_
  with_reducible refine And.intro ?_ ?_
  with_reducible assumption
  with_reducible refine gi_W hL hb ?_
  with_reducible refine And.intro ?_ ?_
  with_reducible assumption
  with_reducible refine And.intro ?_ ?_
  with_reducible refine LW.gz hL (fun _ => trivial)
  with_reducible refine And.intro ?_ ?_
  omega
  with_reducible refine And.intro ?_ ?_
  omega
  with_reducible refine And.intro ?_ ?_
  omega
  with_reducible refine fX3_span (LW.ms hL) (fun hXqc0 hXqw hXqh => ?_) (fun hSqc0 hSqc1 hSqc2 hSqc3 hSqw hSqh => ?_) (fun hTqc0 hTqc1 hTqc2 hTqr hTqq hTqc3 hTqc4 hTqc5 hTqw hTqh => ?_) (fun hFqc0 hFqc1 hFqc2 hFqr hFqq hFqc3 hFqc4 hFqc5 hFqw hFqh => ?_)
  simp only [eL_law_1183, kx_l, nl_int, tl_s]
  with_reducible exact next _ _ _ _ _ _ _ _ (LW.ofM hL hXqh) (by omega) (by omega)
  with_reducible exact absurd (And.intro hSqc0 (And.intro hSqc1 hSqc2)) hXpc0
  with_reducible exact absurd (And.intro hTqc0 (And.intro hTqc1 hTqc2)) hXpc0
  with_reducible exact absurd (And.intro hFqc0 (And.intro hFqc1 hFqc2)) hXpc0
  simp only [eL_law_1159, eL_law_1163, eL_law_1168, eL_law_1174, eL_law_1180, kx_l, wt_nil, nl_int, tl_s]
  with_reducible refine gi_W hL hb ?_
  with_reducible refine And.intro ?_ ?_
  with_reducible assumption
  with_reducible refine gi_W hL hb ?_
  with_reducible refine And.intro ?_ ?_
  with_reducible assumption
  with_reducible refine gi_W hL hb ?_
  with_reducible refine And.intro ?_ ?_
  with_reducible assumption
  with_reducible refine And.intro ?_ ?_
  with_reducible refine LW.gz hL (fun _ => trivial)
  with_reducible refine And.intro ?_ ?_
  omega
  with_reducible refine And.intro ?_ ?_
  omega
  with_reducible refine And.intro ?_ ?_
  omega
  with_reducible refine fX3_span (LW.ms hL) (fun hXqc0 hXqw hXqh => ?_) (fun hSqc0 hSqc1 hSqc2 hSqc3 hSqw hSqh => ?_) (fun hTqc0 hTqc1 hTqc2 hTqr hTqq hTqc3 hTqc4 hTqc5 hTqw hTqh => ?_) (fun hFqc0 hFqc1 hFqc2 hFqr hFqq hFqc3 hFqc4 hFqc5 hFqw hFqh => ?_)
  with_reducible exact absurd (And.intro hSpc0 (And.intro hSpc1 hSpc2)) hXqc0
  simp only [eL_law_1183, kx_l, nl_int, tl_s]
  with_reducible exact next _ _ _ _ _ _ _ _ (LW.ofM hL hSqh) (by omega) (by omega)
  with_reducible exact (hSpc3.elim (fun e => nsC e hTqc3) (fun e => nsC e hTqc4)).elim
  with_reducible exact (hSpc3.elim (fun e => nsC e hFqc3) (fun e => nsC e hFqc4)).elim
  simp only [eL_law_1159, eL_law_1163, eL_law_1168, eL_law_1174, eL_law_1180, kx_l, wt_nil, nl_int, tl_s]
  with_reducible refine gi_W hTph hb ?_
  with_reducible refine And.intro ?_ ?_
  with_reducible assumption
  with_reducible refine gi_W hTph hb ?_
  with_reducible refine And.intro ?_ ?_
  with_reducible assumption
  with_reducible refine gi_W hTph hb ?_
  with_reducible refine And.intro ?_ ?_
  with_reducible assumption
  with_reducible refine And.intro ?_ ?_
  with_reducible refine LW.gz hTph (fun _ => trivial)
  with_reducible refine And.intro ?_ ?_
  omega
  with_reducible refine And.intro ?_ ?_
  omega
  with_reducible refine And.intro ?_ ?_
  omega
  with_reducible refine fX3_span (LW.ms hTph) (fun hXqc0 hXqw hXqh => ?_) (fun hSqc0 hSqc1 hSqc2 hSqc3 hSqw hSqh => ?_) (fun hTqc0 hTqc1 hTqc2 hTqr hTqq hTqc3 hTqc4 hTqc5 hTqw hTqh => ?_) (fun hFqc0 hFqc1 hFqc2 hFqr hFqq hFqc3 hFqc4 hFqc5 hFqw hFqh => ?_)
  with_reducible exact absurd (And.intro hTpc0 (And.intro hTpc1 hTpc2)) hXqc0
  with_reducible exact (hSqc3.elim (fun e => nsC e hTpc3) (fun e => nsC e hTpc4)).elim
  cases Option.some.inj (hTpc3.symm.trans hTqc3); clear hTqc3
  cases Option.some.inj (hTpc4.symm.trans hTqc4); clear hTqc4
  simp only [eL_law_1183, kx_l, nl_int, tl_s]
  with_reducible exact next _ _ _ _ _ _ _ _ (LW.ofM hTph hTqh) (by omega) (by omega)
  cases Option.some.inj (hTpc3.symm.trans hFqc3); clear hFqc3
  cases Option.some.inj (hTpc4.symm.trans hFqc4); clear hFqc4
  with_reducible exact absurd hTpc5 hFqc5
  simp only [eL_law_1159, eL_law_1163, eL_law_1168, eL_law_1174, eL_law_1180, kx_l, wt_nil, nl_int, tl_s]
  with_reducible refine gi_W hFph hb ?_
  with_reducible refine And.intro ?_ ?_
  with_reducible assumption
  with_reducible refine gi_W hFph hb ?_
  with_reducible refine And.intro ?_ ?_
  with_reducible assumption
  with_reducible refine gi_W hFph hb ?_
  with_reducible refine And.intro ?_ ?_
  with_reducible assumption
  with_reducible refine And.intro ?_ ?_
  with_reducible refine LW.gz hFph (fun _ => trivial)
  with_reducible refine And.intro ?_ ?_
  omega
  with_reducible refine And.intro ?_ ?_
  omega
  with_reducible refine And.intro ?_ ?_
  omega
  with_reducible refine fX3_span (LW.ms hFph) (fun hXqc0 hXqw hXqh => ?_) (fun hSqc0 hSqc1 hSqc2 hSqc3 hSqw hSqh => ?_) (fun hTqc0 hTqc1 hTqc2 hTqr hTqq hTqc3 hTqc4 hTqc5 hTqw hTqh => ?_) (fun hFqc0 hFqc1 hFqc2 hFqr hFqq hFqc3 hFqc4 hFqc5 hFqw hFqh => ?_)
  with_reducible exact absurd (And.intro hFpc0 (And.intro hFpc1 hFpc2)) hXqc0
  with_reducible exact (hSqc3.elim (fun e => nsC e hFpc3) (fun e => nsC e hFpc4)).elim
  cases Option.some.inj (hFpc3.symm.trans hTqc3); clear hTqc3
  cases Option.some.inj (hFpc4.symm.trans hTqc4); clear hTqc4
  with_reducible exact absurd hTqc5 hFpc5
  cases Option.some.inj (hFpc3.symm.trans hFqc3); clear hFqc3
  cases Option.some.inj (hFpc4.symm.trans hFqc4); clear hFqc4
  simp only [eL_law_1183, kx_l, nl_int, tl_s]
  with_reducible exact next _ _ _ _ _ _ _ _ (LW.ofM hFph hFqh) (by omega) (by omega)
set_option maxHeartbeats 4000000 in
theorem cL_19 (hR : RG g) (hb : g.2 b = some (.inl (1, L, .inl xs))) (hL : LW g w x nA cA lA y nM o kn kn th s s) (v1 : vp_in (i + 1) L) (v2 : vp_in (i + 2) L) (v3 : vp_in (i + 3) L) (v4 : vp_in (i + 4) L) (v5 : vp_in (i + 5) L) (hk : k + 114 ≤ 58408) (hn : n + 2834 ≤ 1451408) (next : (∀ (l5' l6' : Option Value) (w' : Hw) (k' n' : Nat) (kn' th' : Int32) (s' : AS), LW g w' x nA cA lA y nM o kn' kn' th' s' s' → k' ≤ k + 114 → n' ≤ n + 2834 → WP (ML_law g) QLaw (2218, [some (.ref b), some (.ref x), some (.ref y), some (.ref o), some (.int i), l5', l6'], [], w', k', n'))) : WP (ML_law g) QLaw (1188, [some (.ref b), some (.ref x), some (.ref y), some (.ref o), some (.int i), l5, l6], [], w, k, n) := by
  simp only [eL_law_1188, eL_law_1195, eL_law_1201, wt_nil]
  with_reducible refine gi_W hL hb ?_
  with_reducible refine And.intro ?_ ?_
  with_reducible assumption
  with_reducible refine gi_W hL hb ?_
  with_reducible refine And.intro ?_ ?_
  with_reducible assumption
  with_reducible refine And.intro ?_ ?_
  omega
  with_reducible refine And.intro ?_ ?_
  omega
  with_reducible refine And.intro ?_ ?_
  omega
  with_reducible refine fL_shift hL (fun hXpc0 => ?_) (fun hSpc0 hSpc1 => ?_) (fun hTpc0 hTpr hTpc1 hTpc2 hTpw hTph hTpo => ?_) (fun hFpc0 hFpr hFpc1 hFpc2 hFpw hFph hFpo => ?_)
  simp only [eL_law_1205, eL_law_1209, eL_law_1214, eL_law_1220, kx_l, wt_nil, nl_int, tl_s]
  with_reducible refine gi_W hL hb ?_
  with_reducible refine And.intro ?_ ?_
  with_reducible assumption
  with_reducible refine gi_W hL hb ?_
  with_reducible refine And.intro ?_ ?_
  with_reducible assumption
  with_reducible refine And.intro ?_ ?_
  with_reducible refine LW.gz hL (fun _ => trivial)
  with_reducible refine And.intro ?_ ?_
  omega
  with_reducible refine And.intro ?_ ?_
  omega
  with_reducible refine And.intro ?_ ?_
  omega
  with_reducible refine fX3_shift (LW.ms hL) (fun hXqc0 hXqw hXqh => ?_) (fun hSqc0 hSqc1 hSqw hSqh => ?_) (fun hTqc0 hTqr hTqc1 hTqc2 hTqw hTqh => ?_) (fun hFqc0 hFqr hFqc1 hFqc2 hFqw hFqh => ?_)
  simp only [eL_law_1223, kx_l, nl_int, tl_s]
  with_reducible exact next _ _ _ _ _ _ _ _ (LW.ofM hL hXqh) (by omega) (by omega)
  with_reducible exact absurd hSqc0 hXpc0
  with_reducible exact absurd hTqc0 hXpc0
  with_reducible exact absurd hFqc0 hXpc0
  simp only [eL_law_1205, eL_law_1209, eL_law_1214, eL_law_1220, kx_l, wt_nil, nl_int, tl_s]
  with_reducible refine gi_W hL hb ?_
  with_reducible refine And.intro ?_ ?_
  with_reducible assumption
  with_reducible refine gi_W hL hb ?_
  with_reducible refine And.intro ?_ ?_
  with_reducible assumption
  with_reducible refine And.intro ?_ ?_
  with_reducible refine LW.gz hL (fun _ => trivial)
  with_reducible refine And.intro ?_ ?_
  omega
  with_reducible refine And.intro ?_ ?_
  omega
  with_reducible refine And.intro ?_ ?_
  omega
  with_reducible refine fX3_shift (LW.ms hL) (fun hXqc0 hXqw hXqh => ?_) (fun hSqc0 hSqc1 hSqw hSqh => ?_) (fun hTqc0 hTqr hTqc1 hTqc2 hTqw hTqh => ?_) (fun hFqc0 hFqr hFqc1 hFqc2 hFqw hFqh => ?_)
  with_reducible exact absurd hSpc0 hXqc0
  simp only [eL_law_1223, kx_l, nl_int, tl_s]
  with_reducible exact next _ _ _ _ _ _ _ _ (LW.ofM hL hSqh) (by omega) (by omega)
  with_reducible exact (nsC hSpc1 hTqc1).elim
  with_reducible exact (nsC hSpc1 hFqc1).elim
  simp only [eL_law_1205, eL_law_1209, eL_law_1214, eL_law_1220, kx_l, wt_nil, nl_int, tl_s]
  with_reducible refine gi_W hTph hb ?_
  with_reducible refine And.intro ?_ ?_
  with_reducible assumption
  with_reducible refine gi_W hTph hb ?_
  with_reducible refine And.intro ?_ ?_
  with_reducible assumption
  with_reducible refine And.intro ?_ ?_
  with_reducible refine LW.gz hTph (fun _ => trivial)
  with_reducible refine And.intro ?_ ?_
  omega
  with_reducible refine And.intro ?_ ?_
  omega
  with_reducible refine And.intro ?_ ?_
  omega
  with_reducible refine fX3_shift (LW.ms hTph) (fun hXqc0 hXqw hXqh => ?_) (fun hSqc0 hSqc1 hSqw hSqh => ?_) (fun hTqc0 hTqr hTqc1 hTqc2 hTqw hTqh => ?_) (fun hFqc0 hFqr hFqc1 hFqc2 hFqw hFqh => ?_)
  with_reducible exact absurd hTpc0 hXqc0
  with_reducible exact (nsC hSqc1 hTpc1).elim
  cases Option.some.inj (hTpc1.symm.trans hTqc1); clear hTqc1
  simp only [eL_law_1223, kx_l, nl_int, tl_s]
  with_reducible exact next _ _ _ _ _ _ _ _ (LW.ofM hTph hTqh) (by omega) (by omega)
  cases Option.some.inj (hTpc1.symm.trans hFqc1); clear hFqc1
  with_reducible exact absurd hTpc2 hFqc2
  simp only [eL_law_1205, eL_law_1209, eL_law_1214, eL_law_1220, kx_l, wt_nil, nl_int, tl_s]
  with_reducible refine gi_W hFph hb ?_
  with_reducible refine And.intro ?_ ?_
  with_reducible assumption
  with_reducible refine gi_W hFph hb ?_
  with_reducible refine And.intro ?_ ?_
  with_reducible assumption
  with_reducible refine And.intro ?_ ?_
  with_reducible refine LW.gz hFph (fun _ => trivial)
  with_reducible refine And.intro ?_ ?_
  omega
  with_reducible refine And.intro ?_ ?_
  omega
  with_reducible refine And.intro ?_ ?_
  omega
  with_reducible refine fX3_shift (LW.ms hFph) (fun hXqc0 hXqw hXqh => ?_) (fun hSqc0 hSqc1 hSqw hSqh => ?_) (fun hTqc0 hTqr hTqc1 hTqc2 hTqw hTqh => ?_) (fun hFqc0 hFqr hFqc1 hFqc2 hFqw hFqh => ?_)
  with_reducible exact absurd hFpc0 hXqc0
  with_reducible exact (nsC hSqc1 hFpc1).elim
  cases Option.some.inj (hFpc1.symm.trans hTqc1); clear hTqc1
  with_reducible exact absurd hTqc2 hFpc2
  cases Option.some.inj (hFpc1.symm.trans hFqc1); clear hFqc1
  simp only [eL_law_1223, kx_l, nl_int, tl_s]
  with_reducible exact next _ _ _ _ _ _ _ _ (LW.ofM hFph hFqh) (by omega) (by omega)
set_option maxHeartbeats 4000000 in
theorem cL_20 (hR : RG g) (hb : g.2 b = some (.inl (1, L, .inl xs))) (hL : LW g w x nA cA lA y nM o kn kn th s s) (v1 : vp_in (i + 1) L) (v2 : vp_in (i + 2) L) (v3 : vp_in (i + 3) L) (v4 : vp_in (i + 4) L) (v5 : vp_in (i + 5) L) (hk : k + 114 ≤ 58408) (hn : n + 2834 ≤ 1451408) (next : (∀ (l5' l6' : Option Value) (w' : Hw) (k' n' : Nat) (kn' th' : Int32) (s' : AS), LW g w' x nA cA lA y nM o kn' kn' th' s' s' → k' ≤ k + 114 → n' ≤ n + 2834 → WP (ML_law g) QLaw (2218, [some (.ref b), some (.ref x), some (.ref y), some (.ref o), some (.int i), l5', l6'], [], w', k', n'))) : WP (ML_law g) QLaw (1228, [some (.ref b), some (.ref x), some (.ref y), some (.ref o), some (.int i), l5, l6], [], w, k, n) := by
  simp only [eL_law_1228, eL_law_1235, wt_nil]
  with_reducible refine gi_W hL hb ?_
  with_reducible refine And.intro ?_ ?_
  with_reducible assumption
  with_reducible refine And.intro ?_ ?_
  omega
  with_reducible refine And.intro ?_ ?_
  omega
  with_reducible refine And.intro ?_ ?_
  omega
  with_reducible refine fL_drop hL (fun hXpc0 => ?_) (fun hNpc0 hNpc1 hNpw hNph hNpo => ?_) (fun hSpc0 hSpr hSpc1 hSpw hSph hSpo => ?_)
  simp only [eL_law_1239, eL_law_1243, eL_law_1248, kx_l, wt_nil, nl_int, tl_s, Nat.add_zero]
  with_reducible refine gi_W hL hb ?_
  with_reducible refine And.intro ?_ ?_
  with_reducible assumption
  with_reducible refine And.intro ?_ ?_
  with_reducible refine LW.gz hL (fun _ => trivial)
  with_reducible refine And.intro ?_ ?_
  omega
  with_reducible refine And.intro ?_ ?_
  omega
  with_reducible refine And.intro ?_ ?_
  omega
  with_reducible refine fX3_drop (LW.ms hL) (fun hXqc0 hXqw hXqh => ?_) (fun hNqc0 hNqc1 hNqw hNqh => ?_) (fun hSqc0 hSqr hSqc1 hSqw hSqh => ?_)
  simp only [eL_law_1251, kx_l, nl_int, tl_s]
  with_reducible exact next _ _ _ _ _ _ _ _ (LW.ofM hL hXqh) (by omega) (by omega)
  with_reducible exact absurd hNqc0 hXpc0
  with_reducible exact absurd hSqc0 hXpc0
  simp only [eL_law_1239, eL_law_1243, eL_law_1248, kx_l, wt_nil, nl_int, tl_s, Nat.add_zero]
  with_reducible refine gi_W hNph hb ?_
  with_reducible refine And.intro ?_ ?_
  with_reducible assumption
  with_reducible refine And.intro ?_ ?_
  with_reducible refine LW.gz hNph (fun _ => trivial)
  with_reducible refine And.intro ?_ ?_
  omega
  with_reducible refine And.intro ?_ ?_
  omega
  with_reducible refine And.intro ?_ ?_
  omega
  with_reducible refine fX3_drop (LW.ms hNph) (fun hXqc0 hXqw hXqh => ?_) (fun hNqc0 hNqc1 hNqw hNqh => ?_) (fun hSqc0 hSqr hSqc1 hSqw hSqh => ?_)
  with_reducible exact absurd hNpc0 hXqc0
  simp only [eL_law_1251, kx_l, nl_int, tl_s]
  with_reducible exact next _ _ _ _ _ _ _ _ (LW.ofM hNph hNqh) (by omega) (by omega)
  with_reducible exact (nsC hNpc1 hSqc1).elim
  simp only [eL_law_1239, eL_law_1243, eL_law_1248, kx_l, wt_nil, nl_int, tl_s, Nat.add_zero]
  with_reducible refine gi_W hSph hb ?_
  with_reducible refine And.intro ?_ ?_
  with_reducible assumption
  with_reducible refine And.intro ?_ ?_
  with_reducible refine LW.gz hSph (fun _ => trivial)
  with_reducible refine And.intro ?_ ?_
  omega
  with_reducible refine And.intro ?_ ?_
  omega
  with_reducible refine And.intro ?_ ?_
  omega
  with_reducible refine fX3_drop (LW.ms hSph) (fun hXqc0 hXqw hXqh => ?_) (fun hNqc0 hNqc1 hNqw hNqh => ?_) (fun hSqc0 hSqr hSqc1 hSqw hSqh => ?_)
  with_reducible exact absurd hSpc0 hXqc0
  with_reducible exact (nsC hNqc1 hSpc1).elim
  cases Option.some.inj (hSpc1.symm.trans hSqc1); clear hSqc1
  simp only [eL_law_1251, kx_l, nl_int, tl_s]
  with_reducible exact next _ _ _ _ _ _ _ _ (LW.ofM hSph hSqh) (by omega) (by omega)
set_option maxHeartbeats 4000000 in
theorem cL_21 (hR : RG g) (hb : g.2 b = some (.inl (1, L, .inl xs))) (hL : LW g w x nA cA lA y nM o kn kn th s s) (v1 : vp_in (i + 1) L) (v2 : vp_in (i + 2) L) (v3 : vp_in (i + 3) L) (v4 : vp_in (i + 4) L) (v5 : vp_in (i + 5) L) (hk : k + 114 ≤ 58408) (hn : n + 2834 ≤ 1451408) (next : (∀ (l5' l6' : Option Value) (w' : Hw) (k' n' : Nat) (kn' th' : Int32) (s' : AS), LW g w' x nA cA lA y nM o kn' kn' th' s' s' → k' ≤ k + 114 → n' ≤ n + 2834 → WP (ML_law g) QLaw (2218, [some (.ref b), some (.ref x), some (.ref y), some (.ref o), some (.int i), l5', l6'], [], w', k', n'))) : WP (ML_law g) QLaw (1256, [some (.ref b), some (.ref x), some (.ref y), some (.ref o), some (.int i), l5, l6], [], w, k, n) := by
  simp only [eL_law_1256, eL_law_1263, wt_nil]
  with_reducible refine gi_W hL hb ?_
  with_reducible refine And.intro ?_ ?_
  with_reducible assumption
  with_reducible refine And.intro ?_ ?_
  omega
  with_reducible refine And.intro ?_ ?_
  omega
  with_reducible refine And.intro ?_ ?_
  omega
  with_reducible refine fL_isThere hL (fun hXpc0 => ?_) (fun hFpc0 hFpc1 hFpw hFph hFpo => ?_) (fun hTpc0 hTpr hTpc1 hTpw hTph hTpo => ?_)
  simp only [eL_law_1267, eL_law_1271, eL_law_1276, kx_l, wt_nil, nl_int, tl_s, Nat.add_zero]
  with_reducible refine gi_W hL hb ?_
  with_reducible refine And.intro ?_ ?_
  with_reducible assumption
  with_reducible refine And.intro ?_ ?_
  with_reducible refine LW.gz hL (fun _ => trivial)
  with_reducible refine And.intro ?_ ?_
  omega
  with_reducible refine And.intro ?_ ?_
  omega
  with_reducible refine And.intro ?_ ?_
  omega
  with_reducible refine fX3_isThere (LW.ms hL) (fun hXqc0 hXqw hXqh => ?_) (fun hFqc0 hFqc1 hFqw hFqh => ?_) (fun hTqc0 hTqr hTqc1 hTqw hTqh => ?_)
  simp only [eL_law_1279, kx_l, nl_int, tl_s]
  with_reducible exact next _ _ _ _ _ _ _ _ (LW.ofM hL hXqh) (by omega) (by omega)
  with_reducible exact absurd hFqc0 hXpc0
  with_reducible exact absurd hTqc0 hXpc0
  simp only [eL_law_1267, eL_law_1271, eL_law_1276, kx_l, wt_nil, nl_int, tl_s, Nat.add_zero]
  with_reducible refine gi_W hFph hb ?_
  with_reducible refine And.intro ?_ ?_
  with_reducible assumption
  with_reducible refine And.intro ?_ ?_
  with_reducible refine LW.gz hFph (fun _ => trivial)
  with_reducible refine And.intro ?_ ?_
  omega
  with_reducible refine And.intro ?_ ?_
  omega
  with_reducible refine And.intro ?_ ?_
  omega
  with_reducible refine fX3_isThere (LW.ms hFph) (fun hXqc0 hXqw hXqh => ?_) (fun hFqc0 hFqc1 hFqw hFqh => ?_) (fun hTqc0 hTqr hTqc1 hTqw hTqh => ?_)
  with_reducible exact absurd hFpc0 hXqc0
  simp only [eL_law_1279, kx_l, nl_int, tl_s]
  with_reducible exact next _ _ _ _ _ _ _ _ (LW.ofM hFph hFqh) (by omega) (by omega)
  with_reducible exact (nsC hFpc1 hTqc1).elim
  simp only [eL_law_1267, eL_law_1271, eL_law_1276, kx_l, wt_nil, nl_int, tl_s, Nat.add_zero]
  with_reducible refine gi_W hTph hb ?_
  with_reducible refine And.intro ?_ ?_
  with_reducible assumption
  with_reducible refine And.intro ?_ ?_
  with_reducible refine LW.gz hTph (fun _ => trivial)
  with_reducible refine And.intro ?_ ?_
  omega
  with_reducible refine And.intro ?_ ?_
  omega
  with_reducible refine And.intro ?_ ?_
  omega
  with_reducible refine fX3_isThere (LW.ms hTph) (fun hXqc0 hXqw hXqh => ?_) (fun hFqc0 hFqc1 hFqw hFqh => ?_) (fun hTqc0 hTqr hTqc1 hTqw hTqh => ?_)
  with_reducible exact absurd hTpc0 hXqc0
  with_reducible exact (nsC hFqc1 hTpc1).elim
  cases Option.some.inj (hTpc1.symm.trans hTqc1); clear hTqc1
  simp only [eL_law_1279, kx_l, nl_int, tl_s]
  with_reducible exact next _ _ _ _ _ _ _ _ (LW.ofM hTph hTqh) (by omega) (by omega)
set_option maxHeartbeats 4000000 in
theorem cL_22 (hR : RG g) (hb : g.2 b = some (.inl (1, L, .inl xs))) (hL : LW g w x nA cA lA y nM o kn kn th s s) (v1 : vp_in (i + 1) L) (v2 : vp_in (i + 2) L) (v3 : vp_in (i + 3) L) (v4 : vp_in (i + 4) L) (v5 : vp_in (i + 5) L) (hk : k + 114 ≤ 58408) (hn : n + 2834 ≤ 1451408) (next : (∀ (l5' l6' : Option Value) (w' : Hw) (k' n' : Nat) (kn' th' : Int32) (s' : AS), LW g w' x nA cA lA y nM o kn' kn' th' s' s' → k' ≤ k + 114 → n' ≤ n + 2834 → WP (ML_law g) QLaw (2218, [some (.ref b), some (.ref x), some (.ref y), some (.ref o), some (.int i), l5', l6'], [], w', k', n'))) : WP (ML_law g) QLaw (1284, [some (.ref b), some (.ref x), some (.ref y), some (.ref o), some (.int i), l5, l6], [], w, k, n) := by
  simp only [eL_law_1284, eL_law_1291, wt_nil]
  with_reducible refine gi_W hL hb ?_
  with_reducible refine And.intro ?_ ?_
  with_reducible assumption
  with_reducible refine And.intro ?_ ?_
  omega
  with_reducible refine And.intro ?_ ?_
  omega
  with_reducible refine And.intro ?_ ?_
  omega
  with_reducible refine fL_isFixed hL (fun hXpc0 => ?_) (fun hSpc0 hSpc1 => ?_) (fun hTpc0 hTpr hTpc1 hTpc2 hTpw hTph hTpo => ?_) (fun hFpc0 hFpr hFpc1 hFpc2 hFpw hFph hFpo => ?_)
  simp only [eL_law_1295, eL_law_1299, eL_law_1304, kx_l, wt_nil, nl_int, tl_s, Nat.add_zero]
  with_reducible refine gi_W hL hb ?_
  with_reducible refine And.intro ?_ ?_
  with_reducible assumption
  with_reducible refine And.intro ?_ ?_
  with_reducible refine LW.gz hL (fun _ => trivial)
  with_reducible refine And.intro ?_ ?_
  omega
  with_reducible refine And.intro ?_ ?_
  omega
  with_reducible refine And.intro ?_ ?_
  omega
  with_reducible refine fX3_isFixed (LW.ms hL) (fun hXqc0 hXqw hXqh => ?_) (fun hSqc0 hSqc1 hSqw hSqh => ?_) (fun hTqc0 hTqr hTqc1 hTqc2 hTqw hTqh => ?_) (fun hFqc0 hFqr hFqc1 hFqc2 hFqw hFqh => ?_)
  simp only [eL_law_1307, kx_l, nl_int, tl_s]
  with_reducible exact next _ _ _ _ _ _ _ _ (LW.ofM hL hXqh) (by omega) (by omega)
  with_reducible exact absurd hSqc0 hXpc0
  with_reducible exact absurd hTqc0 hXpc0
  with_reducible exact absurd hFqc0 hXpc0
  simp only [eL_law_1295, eL_law_1299, eL_law_1304, kx_l, wt_nil, nl_int, tl_s, Nat.add_zero]
  with_reducible refine gi_W hL hb ?_
  with_reducible refine And.intro ?_ ?_
  with_reducible assumption
  with_reducible refine And.intro ?_ ?_
  with_reducible refine LW.gz hL (fun _ => trivial)
  with_reducible refine And.intro ?_ ?_
  omega
  with_reducible refine And.intro ?_ ?_
  omega
  with_reducible refine And.intro ?_ ?_
  omega
  with_reducible refine fX3_isFixed (LW.ms hL) (fun hXqc0 hXqw hXqh => ?_) (fun hSqc0 hSqc1 hSqw hSqh => ?_) (fun hTqc0 hTqr hTqc1 hTqc2 hTqw hTqh => ?_) (fun hFqc0 hFqr hFqc1 hFqc2 hFqw hFqh => ?_)
  with_reducible exact absurd hSpc0 hXqc0
  simp only [eL_law_1307, kx_l, nl_int, tl_s]
  with_reducible exact next _ _ _ _ _ _ _ _ (LW.ofM hL hSqh) (by omega) (by omega)
  with_reducible exact (nsC hSpc1 hTqc1).elim
  with_reducible exact (nsC hSpc1 hFqc1).elim
  simp only [eL_law_1295, eL_law_1299, eL_law_1304, kx_l, wt_nil, nl_int, tl_s, Nat.add_zero]
  with_reducible refine gi_W hTph hb ?_
  with_reducible refine And.intro ?_ ?_
  with_reducible assumption
  with_reducible refine And.intro ?_ ?_
  with_reducible refine LW.gz hTph (fun _ => trivial)
  with_reducible refine And.intro ?_ ?_
  omega
  with_reducible refine And.intro ?_ ?_
  omega
  with_reducible refine And.intro ?_ ?_
  omega
  with_reducible refine fX3_isFixed (LW.ms hTph) (fun hXqc0 hXqw hXqh => ?_) (fun hSqc0 hSqc1 hSqw hSqh => ?_) (fun hTqc0 hTqr hTqc1 hTqc2 hTqw hTqh => ?_) (fun hFqc0 hFqr hFqc1 hFqc2 hFqw hFqh => ?_)
  with_reducible exact absurd hTpc0 hXqc0
  with_reducible exact (nsC hSqc1 hTpc1).elim
  cases Option.some.inj (hTpc1.symm.trans hTqc1); clear hTqc1
  simp only [eL_law_1307, kx_l, nl_int, tl_s]
  with_reducible exact next _ _ _ _ _ _ _ _ (LW.ofM hTph hTqh) (by omega) (by omega)
  cases Option.some.inj (hTpc1.symm.trans hFqc1); clear hFqc1
  with_reducible exact absurd hTpc2 hFqc2
  simp only [eL_law_1295, eL_law_1299, eL_law_1304, kx_l, wt_nil, nl_int, tl_s, Nat.add_zero]
  with_reducible refine gi_W hFph hb ?_
  with_reducible refine And.intro ?_ ?_
  with_reducible assumption
  with_reducible refine And.intro ?_ ?_
  with_reducible refine LW.gz hFph (fun _ => trivial)
  with_reducible refine And.intro ?_ ?_
  omega
  with_reducible refine And.intro ?_ ?_
  omega
  with_reducible refine And.intro ?_ ?_
  omega
  with_reducible refine fX3_isFixed (LW.ms hFph) (fun hXqc0 hXqw hXqh => ?_) (fun hSqc0 hSqc1 hSqw hSqh => ?_) (fun hTqc0 hTqr hTqc1 hTqc2 hTqw hTqh => ?_) (fun hFqc0 hFqr hFqc1 hFqc2 hFqw hFqh => ?_)
  with_reducible exact absurd hFpc0 hXqc0
  with_reducible exact (nsC hSqc1 hFpc1).elim
  cases Option.some.inj (hFpc1.symm.trans hTqc1); clear hTqc1
  with_reducible exact absurd hTqc2 hFpc2
  cases Option.some.inj (hFpc1.symm.trans hFqc1); clear hFqc1
  simp only [eL_law_1307, kx_l, nl_int, tl_s]
  with_reducible exact next _ _ _ _ _ _ _ _ (LW.ofM hFph hFqh) (by omega) (by omega)
set_option maxHeartbeats 4000000 in
theorem cL_23 (hR : RG g) (hb : g.2 b = some (.inl (1, L, .inl xs))) (hL : LW g w x nA cA lA y nM o kn kn th s s) (v1 : vp_in (i + 1) L) (v2 : vp_in (i + 2) L) (v3 : vp_in (i + 3) L) (v4 : vp_in (i + 4) L) (v5 : vp_in (i + 5) L) (hk : k + 114 ≤ 58408) (hn : n + 2834 ≤ 1451408) (next : (∀ (l5' l6' : Option Value) (w' : Hw) (k' n' : Nat) (kn' th' : Int32) (s' : AS), LW g w' x nA cA lA y nM o kn' kn' th' s' s' → k' ≤ k + 114 → n' ≤ n + 2834 → WP (ML_law g) QLaw (2218, [some (.ref b), some (.ref x), some (.ref y), some (.ref o), some (.int i), l5', l6'], [], w', k', n'))) : WP (ML_law g) QLaw (1312, [some (.ref b), some (.ref x), some (.ref y), some (.ref o), some (.int i), l5, l6], [], w, k, n) := by
  simp only [eL_law_1312, eL_law_1319, wt_nil]
  with_reducible refine gi_W hL hb ?_
  with_reducible refine And.intro ?_ ?_
  with_reducible assumption
  with_reducible refine And.intro ?_ ?_
  omega
  with_reducible refine And.intro ?_ ?_
  omega
  with_reducible refine And.intro ?_ ?_
  omega
  with_reducible refine fL_isSmall hL (fun hXpc0 => ?_) (fun hSpc0 hSpc1 => ?_) (fun hTpc0 hTpr hTpc1 hTpc2 hTpw hTph hTpo => ?_) (fun hFpc0 hFpr hFpc1 hFpc2 hFpw hFph hFpo => ?_)
  simp only [eL_law_1323, eL_law_1327, eL_law_1332, kx_l, wt_nil, nl_int, tl_s, Nat.add_zero]
  with_reducible refine gi_W hL hb ?_
  with_reducible refine And.intro ?_ ?_
  with_reducible assumption
  with_reducible refine And.intro ?_ ?_
  with_reducible refine LW.gz hL (fun _ => trivial)
  with_reducible refine And.intro ?_ ?_
  omega
  with_reducible refine And.intro ?_ ?_
  omega
  with_reducible refine And.intro ?_ ?_
  omega
  with_reducible refine fX3_isSmall (LW.ms hL) (fun hXqc0 hXqw hXqh => ?_) (fun hSqc0 hSqc1 hSqw hSqh => ?_) (fun hTqc0 hTqr hTqc1 hTqc2 hTqw hTqh => ?_) (fun hFqc0 hFqr hFqc1 hFqc2 hFqw hFqh => ?_)
  simp only [eL_law_1335, kx_l, nl_int, tl_s]
  with_reducible exact next _ _ _ _ _ _ _ _ (LW.ofM hL hXqh) (by omega) (by omega)
  with_reducible exact absurd hSqc0 hXpc0
  with_reducible exact absurd hTqc0 hXpc0
  with_reducible exact absurd hFqc0 hXpc0
  simp only [eL_law_1323, eL_law_1327, eL_law_1332, kx_l, wt_nil, nl_int, tl_s, Nat.add_zero]
  with_reducible refine gi_W hL hb ?_
  with_reducible refine And.intro ?_ ?_
  with_reducible assumption
  with_reducible refine And.intro ?_ ?_
  with_reducible refine LW.gz hL (fun _ => trivial)
  with_reducible refine And.intro ?_ ?_
  omega
  with_reducible refine And.intro ?_ ?_
  omega
  with_reducible refine And.intro ?_ ?_
  omega
  with_reducible refine fX3_isSmall (LW.ms hL) (fun hXqc0 hXqw hXqh => ?_) (fun hSqc0 hSqc1 hSqw hSqh => ?_) (fun hTqc0 hTqr hTqc1 hTqc2 hTqw hTqh => ?_) (fun hFqc0 hFqr hFqc1 hFqc2 hFqw hFqh => ?_)
  with_reducible exact absurd hSpc0 hXqc0
  simp only [eL_law_1335, kx_l, nl_int, tl_s]
  with_reducible exact next _ _ _ _ _ _ _ _ (LW.ofM hL hSqh) (by omega) (by omega)
  with_reducible exact (nsC hSpc1 hTqc1).elim
  with_reducible exact (nsC hSpc1 hFqc1).elim
  simp only [eL_law_1323, eL_law_1327, eL_law_1332, kx_l, wt_nil, nl_int, tl_s, Nat.add_zero]
  with_reducible refine gi_W hTph hb ?_
  with_reducible refine And.intro ?_ ?_
  with_reducible assumption
  with_reducible refine And.intro ?_ ?_
  with_reducible refine LW.gz hTph (fun _ => trivial)
  with_reducible refine And.intro ?_ ?_
  omega
  with_reducible refine And.intro ?_ ?_
  omega
  with_reducible refine And.intro ?_ ?_
  omega
  with_reducible refine fX3_isSmall (LW.ms hTph) (fun hXqc0 hXqw hXqh => ?_) (fun hSqc0 hSqc1 hSqw hSqh => ?_) (fun hTqc0 hTqr hTqc1 hTqc2 hTqw hTqh => ?_) (fun hFqc0 hFqr hFqc1 hFqc2 hFqw hFqh => ?_)
  with_reducible exact absurd hTpc0 hXqc0
  with_reducible exact (nsC hSqc1 hTpc1).elim
  cases Option.some.inj (hTpc1.symm.trans hTqc1); clear hTqc1
  simp only [eL_law_1335, kx_l, nl_int, tl_s]
  with_reducible exact next _ _ _ _ _ _ _ _ (LW.ofM hTph hTqh) (by omega) (by omega)
  cases Option.some.inj (hTpc1.symm.trans hFqc1); clear hFqc1
  with_reducible exact absurd hTpc2 hFqc2
  simp only [eL_law_1323, eL_law_1327, eL_law_1332, kx_l, wt_nil, nl_int, tl_s, Nat.add_zero]
  with_reducible refine gi_W hFph hb ?_
  with_reducible refine And.intro ?_ ?_
  with_reducible assumption
  with_reducible refine And.intro ?_ ?_
  with_reducible refine LW.gz hFph (fun _ => trivial)
  with_reducible refine And.intro ?_ ?_
  omega
  with_reducible refine And.intro ?_ ?_
  omega
  with_reducible refine And.intro ?_ ?_
  omega
  with_reducible refine fX3_isSmall (LW.ms hFph) (fun hXqc0 hXqw hXqh => ?_) (fun hSqc0 hSqc1 hSqw hSqh => ?_) (fun hTqc0 hTqr hTqc1 hTqc2 hTqw hTqh => ?_) (fun hFqc0 hFqr hFqc1 hFqc2 hFqw hFqh => ?_)
  with_reducible exact absurd hFpc0 hXqc0
  with_reducible exact (nsC hSqc1 hFpc1).elim
  cases Option.some.inj (hFpc1.symm.trans hTqc1); clear hTqc1
  with_reducible exact absurd hTqc2 hFpc2
  cases Option.some.inj (hFpc1.symm.trans hFqc1); clear hFqc1
  simp only [eL_law_1335, kx_l, nl_int, tl_s]
  with_reducible exact next _ _ _ _ _ _ _ _ (LW.ofM hFph hFqh) (by omega) (by omega)
end
end
/-! 79.cw2.lean.txt -/
section
section
variable {g : RO} {w : Hw} {x nA cA lA y nM o b L k n : Nat} {xs : Nat → Int32} {i kn th : Int32} {s : AS} {l5 l6 : Option Value}
set_option maxHeartbeats 4000000 in
theorem cL_24 (hR : RG g) (hb : g.2 b = some (.inl (1, L, .inl xs))) (hL : LW g w x nA cA lA y nM o kn kn th s s) (v1 : vp_in (i + 1) L) (v2 : vp_in (i + 2) L) (v3 : vp_in (i + 3) L) (v4 : vp_in (i + 4) L) (v5 : vp_in (i + 5) L) (hk : k + 114 ≤ 58408) (hn : n + 2834 ≤ 1451408) (next : (∀ (l5' l6' : Option Value) (w' : Hw) (k' n' : Nat) (kn' th' : Int32) (s' : AS), LW g w' x nA cA lA y nM o kn' kn' th' s' s' → k' ≤ k + 114 → n' ≤ n + 2834 → WP (ML_law g) QLaw (2218, [some (.ref b), some (.ref x), some (.ref y), some (.ref o), some (.int i), l5', l6'], [], w', k', n'))) : WP (ML_law g) QLaw (1340, [some (.ref b), some (.ref x), some (.ref y), some (.ref o), some (.int i), l5, l6], [], w, k, n) := by
  simp only [eL_law_1340, eL_law_1347, eL_law_1353, eL_law_1359, eL_law_1362, eL_law_1366, eL_law_1367, wt_nil]
  with_reducible refine gi_W hL hb ?_
  with_reducible refine And.intro ?_ ?_
  with_reducible assumption
  with_reducible refine gi_W hL hb ?_
  with_reducible refine And.intro ?_ ?_
  with_reducible assumption
  with_reducible refine gi_W hL hb ?_
  with_reducible refine And.intro ?_ ?_
  with_reducible assumption
  split
  with_reducible refine And.intro ?_ ?_
  omega
  with_reducible refine And.intro ?_ ?_
  omega
  with_reducible refine And.intro ?_ ?_
  omega
  with_reducible refine fL_end hL (fun hXpc0 => ?_) (fun hWpc0 hWpc1 => ?_) (fun hSpc0 hSpc1 hSpc2 => ?_) (fun hQpc0 hQpc1 hQpr hQpc2 hQpw hQph hQpo => ?_)
  simp only [eL_law_1371, eL_law_1375, eL_law_1380, eL_law_1386, eL_law_1392, eL_law_1395, eL_law_1399, eL_law_1400, kx_l, wt_nil, nl_int, tl_s, Nat.add_zero]
  with_reducible refine gi_W hL hb ?_
  with_reducible refine And.intro ?_ ?_
  with_reducible assumption
  with_reducible refine gi_W hL hb ?_
  with_reducible refine And.intro ?_ ?_
  with_reducible assumption
  with_reducible refine gi_W hL hb ?_
  with_reducible refine And.intro ?_ ?_
  with_reducible assumption
  split
  with_reducible refine And.intro ?_ ?_
  with_reducible refine LW.gz hL (fun _ => trivial)
  with_reducible refine And.intro ?_ ?_
  omega
  with_reducible refine And.intro ?_ ?_
  omega
  with_reducible refine And.intro ?_ ?_
  omega
  with_reducible refine fX3_end (LW.ms hL) (fun hXqc0 hXqw hXqh => ?_) (fun hWqc0 hWqc1 hWqw hWqh => ?_) (fun hSqc0 hSqc1 hSqc2 hSqw hSqh => ?_) (fun hQqc0 hQqc1 hQqr hQqc2 hQqw hQqh => ?_)
  simp only [eL_law_1403, kx_l, nl_int, tl_s]
  with_reducible exact next _ _ _ _ _ _ _ _ (LW.ofM hL hXqh) (by omega) (by omega)
  with_reducible exact absurd hWqc0 hXpc0
  with_reducible exact absurd hSqc0 hXpc0
  with_reducible exact absurd hQqc0 hXpc0
  with_reducible refine And.intro ?_ ?_
  with_reducible refine LW.gz hL (fun _ => trivial)
  with_reducible refine And.intro ?_ ?_
  with_reducible exact absurd (show xs (i + 3).toNatClampNeg = 0 by assumption) (by assumption)
  with_reducible refine And.intro ?_ ?_
  with_reducible exact absurd (show xs (i + 3).toNatClampNeg = 0 by assumption) (by assumption)
  with_reducible refine And.intro ?_ ?_
  with_reducible exact absurd (show xs (i + 3).toNatClampNeg = 0 by assumption) (by assumption)
  with_reducible refine fX3_end (LW.ms hL) (fun hXqc0 hXqw hXqh => ?_) (fun hWqc0 hWqc1 hWqw hWqh => ?_) (fun hSqc0 hSqc1 hSqc2 hSqw hSqh => ?_) (fun hQqc0 hQqc1 hQqr hQqc2 hQqw hQqh => ?_)
  with_reducible exact absurd (show xs (i + 3).toNatClampNeg = 0 by assumption) (by assumption)
  with_reducible exact absurd hWqc0 hXpc0
  with_reducible exact absurd hSqc0 hXpc0
  with_reducible exact absurd hQqc0 hXpc0
  simp only [eL_law_1371, eL_law_1375, eL_law_1380, eL_law_1386, eL_law_1392, eL_law_1395, eL_law_1399, eL_law_1400, kx_l, wt_nil, nl_int, tl_s, Nat.add_zero]
  with_reducible refine gi_W hL hb ?_
  with_reducible refine And.intro ?_ ?_
  with_reducible assumption
  with_reducible refine gi_W hL hb ?_
  with_reducible refine And.intro ?_ ?_
  with_reducible assumption
  with_reducible refine gi_W hL hb ?_
  with_reducible refine And.intro ?_ ?_
  with_reducible assumption
  split
  with_reducible refine And.intro ?_ ?_
  with_reducible refine LW.gz hL (fun _ => trivial)
  with_reducible refine And.intro ?_ ?_
  omega
  with_reducible refine And.intro ?_ ?_
  omega
  with_reducible refine And.intro ?_ ?_
  omega
  with_reducible refine fX3_end (LW.ms hL) (fun hXqc0 hXqw hXqh => ?_) (fun hWqc0 hWqc1 hWqw hWqh => ?_) (fun hSqc0 hSqc1 hSqc2 hSqw hSqh => ?_) (fun hQqc0 hQqc1 hQqr hQqc2 hQqw hQqh => ?_)
  with_reducible exact absurd hWpc0 hXqc0
  simp only [eL_law_1403, kx_l, nl_int, tl_s]
  with_reducible exact next _ _ _ _ _ _ _ _ (LW.ofM hL hWqh) (by omega) (by omega)
  with_reducible exact absurd hSqc1 hWpc1
  with_reducible exact absurd hQqc1 hWpc1
  with_reducible refine And.intro ?_ ?_
  with_reducible refine LW.gz hL (fun _ => trivial)
  with_reducible refine And.intro ?_ ?_
  with_reducible exact absurd (show xs (i + 3).toNatClampNeg = 0 by assumption) (by assumption)
  with_reducible refine And.intro ?_ ?_
  with_reducible exact absurd (show xs (i + 3).toNatClampNeg = 0 by assumption) (by assumption)
  with_reducible refine And.intro ?_ ?_
  with_reducible exact absurd (show xs (i + 3).toNatClampNeg = 0 by assumption) (by assumption)
  with_reducible refine fX3_end (LW.ms hL) (fun hXqc0 hXqw hXqh => ?_) (fun hWqc0 hWqc1 hWqw hWqh => ?_) (fun hSqc0 hSqc1 hSqc2 hSqw hSqh => ?_) (fun hQqc0 hQqc1 hQqr hQqc2 hQqw hQqh => ?_)
  with_reducible exact absurd hWpc0 hXqc0
  with_reducible exact absurd (show xs (i + 3).toNatClampNeg = 0 by assumption) (by assumption)
  with_reducible exact absurd hSqc1 hWpc1
  with_reducible exact absurd hQqc1 hWpc1
  simp only [eL_law_1371, eL_law_1375, eL_law_1380, eL_law_1386, eL_law_1392, eL_law_1395, eL_law_1399, eL_law_1400, kx_l, wt_nil, nl_int, tl_s, Nat.add_zero]
  with_reducible refine gi_W hL hb ?_
  with_reducible refine And.intro ?_ ?_
  with_reducible assumption
  with_reducible refine gi_W hL hb ?_
  with_reducible refine And.intro ?_ ?_
  with_reducible assumption
  with_reducible refine gi_W hL hb ?_
  with_reducible refine And.intro ?_ ?_
  with_reducible assumption
  split
  with_reducible refine And.intro ?_ ?_
  with_reducible refine LW.gz hL (fun _ => trivial)
  with_reducible refine And.intro ?_ ?_
  omega
  with_reducible refine And.intro ?_ ?_
  omega
  with_reducible refine And.intro ?_ ?_
  omega
  with_reducible refine fX3_end (LW.ms hL) (fun hXqc0 hXqw hXqh => ?_) (fun hWqc0 hWqc1 hWqw hWqh => ?_) (fun hSqc0 hSqc1 hSqc2 hSqw hSqh => ?_) (fun hQqc0 hQqc1 hQqr hQqc2 hQqw hQqh => ?_)
  with_reducible exact absurd hSpc0 hXqc0
  with_reducible exact absurd hSpc1 hWqc1
  simp only [eL_law_1403, kx_l, nl_int, tl_s]
  with_reducible exact next _ _ _ _ _ _ _ _ (LW.ofM hL hSqh) (by omega) (by omega)
  with_reducible exact (nsC hSpc2 hQqc2).elim
  with_reducible refine And.intro ?_ ?_
  with_reducible refine LW.gz hL (fun _ => trivial)
  with_reducible refine And.intro ?_ ?_
  with_reducible exact absurd (show xs (i + 3).toNatClampNeg = 0 by assumption) (by assumption)
  with_reducible refine And.intro ?_ ?_
  with_reducible exact absurd (show xs (i + 3).toNatClampNeg = 0 by assumption) (by assumption)
  with_reducible refine And.intro ?_ ?_
  with_reducible exact absurd (show xs (i + 3).toNatClampNeg = 0 by assumption) (by assumption)
  with_reducible refine fX3_end (LW.ms hL) (fun hXqc0 hXqw hXqh => ?_) (fun hWqc0 hWqc1 hWqw hWqh => ?_) (fun hSqc0 hSqc1 hSqc2 hSqw hSqh => ?_) (fun hQqc0 hQqc1 hQqr hQqc2 hQqw hQqh => ?_)
  with_reducible exact absurd hSpc0 hXqc0
  with_reducible exact absurd hSpc1 hWqc1
  with_reducible exact absurd (show xs (i + 3).toNatClampNeg = 0 by assumption) (by assumption)
  with_reducible exact (nsC hSpc2 hQqc2).elim
  simp only [eL_law_1371, eL_law_1375, eL_law_1380, eL_law_1386, eL_law_1392, eL_law_1395, eL_law_1399, eL_law_1400, kx_l, wt_nil, nl_int, tl_s, Nat.add_zero]
  with_reducible refine gi_W hQph hb ?_
  with_reducible refine And.intro ?_ ?_
  with_reducible assumption
  with_reducible refine gi_W hQph hb ?_
  with_reducible refine And.intro ?_ ?_
  with_reducible assumption
  with_reducible refine gi_W hQph hb ?_
  with_reducible refine And.intro ?_ ?_
  with_reducible assumption
  split
  with_reducible refine And.intro ?_ ?_
  with_reducible refine LW.gz hQph (fun _ => trivial)
  with_reducible refine And.intro ?_ ?_
  omega
  with_reducible refine And.intro ?_ ?_
  omega
  with_reducible refine And.intro ?_ ?_
  omega
  with_reducible refine fX3_end (LW.ms hQph) (fun hXqc0 hXqw hXqh => ?_) (fun hWqc0 hWqc1 hWqw hWqh => ?_) (fun hSqc0 hSqc1 hSqc2 hSqw hSqh => ?_) (fun hQqc0 hQqc1 hQqr hQqc2 hQqw hQqh => ?_)
  with_reducible exact absurd hQpc0 hXqc0
  with_reducible exact absurd hQpc1 hWqc1
  with_reducible exact (nsC hSqc2 hQpc2).elim
  cases Option.some.inj (hQpc2.symm.trans hQqc2); clear hQqc2
  simp only [eL_law_1403, kx_l, nl_int, tl_s]
  with_reducible exact next _ _ _ _ _ _ _ _ (LW.ofM hQph hQqh) (by omega) (by omega)
  with_reducible refine And.intro ?_ ?_
  with_reducible refine LW.gz hQph (fun _ => trivial)
  with_reducible refine And.intro ?_ ?_
  with_reducible exact absurd (show xs (i + 3).toNatClampNeg = 0 by assumption) (by assumption)
  with_reducible refine And.intro ?_ ?_
  with_reducible exact absurd (show xs (i + 3).toNatClampNeg = 0 by assumption) (by assumption)
  with_reducible refine And.intro ?_ ?_
  with_reducible exact absurd (show xs (i + 3).toNatClampNeg = 0 by assumption) (by assumption)
  with_reducible refine fX3_end (LW.ms hQph) (fun hXqc0 hXqw hXqh => ?_) (fun hWqc0 hWqc1 hWqw hWqh => ?_) (fun hSqc0 hSqc1 hSqc2 hSqw hSqh => ?_) (fun hQqc0 hQqc1 hQqr hQqc2 hQqw hQqh => ?_)
  with_reducible exact absurd hQpc0 hXqc0
  with_reducible exact absurd hQpc1 hWqc1
  with_reducible exact (nsC hSqc2 hQpc2).elim
  cases Option.some.inj (hQpc2.symm.trans hQqc2); clear hQqc2
  with_reducible exact absurd (show xs (i + 3).toNatClampNeg = 0 by assumption) (by assumption)
  with_reducible refine And.intro ?_ ?_
  omega
  with_reducible refine And.intro ?_ ?_
  omega
  with_reducible refine And.intro ?_ ?_
  omega
  with_reducible refine fL_end hL (fun hXpc0 => ?_) (fun hWpc0 hWpc1 => ?_) (fun hSpc0 hSpc1 hSpc2 => ?_) (fun hQpc0 hQpc1 hQpr hQpc2 hQpw hQph hQpo => ?_)
  simp only [eL_law_1371, eL_law_1375, eL_law_1380, eL_law_1386, eL_law_1392, eL_law_1395, eL_law_1399, eL_law_1400, kx_l, wt_nil, nl_int, tl_s, Nat.add_zero]
  with_reducible refine gi_W hL hb ?_
  with_reducible refine And.intro ?_ ?_
  with_reducible assumption
  with_reducible refine gi_W hL hb ?_
  with_reducible refine And.intro ?_ ?_
  with_reducible assumption
  with_reducible refine gi_W hL hb ?_
  with_reducible refine And.intro ?_ ?_
  with_reducible assumption
  split
  with_reducible refine And.intro ?_ ?_
  with_reducible refine LW.gz hL (fun _ => trivial)
  with_reducible refine And.intro ?_ ?_
  with_reducible exact absurd (show xs (i + 3).toNatClampNeg = 0 by assumption) (by assumption)
  with_reducible refine And.intro ?_ ?_
  with_reducible exact absurd (show xs (i + 3).toNatClampNeg = 0 by assumption) (by assumption)
  with_reducible refine And.intro ?_ ?_
  with_reducible exact absurd (show xs (i + 3).toNatClampNeg = 0 by assumption) (by assumption)
  with_reducible refine fX3_end (LW.ms hL) (fun hXqc0 hXqw hXqh => ?_) (fun hWqc0 hWqc1 hWqw hWqh => ?_) (fun hSqc0 hSqc1 hSqc2 hSqw hSqh => ?_) (fun hQqc0 hQqc1 hQqr hQqc2 hQqw hQqh => ?_)
  with_reducible exact absurd (show xs (i + 3).toNatClampNeg = 0 by assumption) (by assumption)
  with_reducible exact absurd hWqc0 hXpc0
  with_reducible exact absurd hSqc0 hXpc0
  with_reducible exact absurd hQqc0 hXpc0
  with_reducible refine And.intro ?_ ?_
  with_reducible refine LW.gz hL (fun _ => trivial)
  with_reducible refine And.intro ?_ ?_
  omega
  with_reducible refine And.intro ?_ ?_
  omega
  with_reducible refine And.intro ?_ ?_
  omega
  with_reducible refine fX3_end (LW.ms hL) (fun hXqc0 hXqw hXqh => ?_) (fun hWqc0 hWqc1 hWqw hWqh => ?_) (fun hSqc0 hSqc1 hSqc2 hSqw hSqh => ?_) (fun hQqc0 hQqc1 hQqr hQqc2 hQqw hQqh => ?_)
  simp only [eL_law_1403, kx_l, nl_int, tl_s]
  with_reducible exact next _ _ _ _ _ _ _ _ (LW.ofM hL hXqh) (by omega) (by omega)
  with_reducible exact absurd hWqc0 hXpc0
  with_reducible exact absurd hSqc0 hXpc0
  with_reducible exact absurd hQqc0 hXpc0
  simp only [eL_law_1371, eL_law_1375, eL_law_1380, eL_law_1386, eL_law_1392, eL_law_1395, eL_law_1399, eL_law_1400, kx_l, wt_nil, nl_int, tl_s, Nat.add_zero]
  with_reducible refine gi_W hL hb ?_
  with_reducible refine And.intro ?_ ?_
  with_reducible assumption
  with_reducible refine gi_W hL hb ?_
  with_reducible refine And.intro ?_ ?_
  with_reducible assumption
  with_reducible refine gi_W hL hb ?_
  with_reducible refine And.intro ?_ ?_
  with_reducible assumption
  split
  with_reducible refine And.intro ?_ ?_
  with_reducible refine LW.gz hL (fun _ => trivial)
  with_reducible refine And.intro ?_ ?_
  with_reducible exact absurd (show xs (i + 3).toNatClampNeg = 0 by assumption) (by assumption)
  with_reducible refine And.intro ?_ ?_
  with_reducible exact absurd (show xs (i + 3).toNatClampNeg = 0 by assumption) (by assumption)
  with_reducible refine And.intro ?_ ?_
  with_reducible exact absurd (show xs (i + 3).toNatClampNeg = 0 by assumption) (by assumption)
  with_reducible refine fX3_end (LW.ms hL) (fun hXqc0 hXqw hXqh => ?_) (fun hWqc0 hWqc1 hWqw hWqh => ?_) (fun hSqc0 hSqc1 hSqc2 hSqw hSqh => ?_) (fun hQqc0 hQqc1 hQqr hQqc2 hQqw hQqh => ?_)
  with_reducible exact absurd hWpc0 hXqc0
  with_reducible exact absurd (show xs (i + 3).toNatClampNeg = 0 by assumption) (by assumption)
  with_reducible exact absurd hSqc1 hWpc1
  with_reducible exact absurd hQqc1 hWpc1
  with_reducible refine And.intro ?_ ?_
  with_reducible refine LW.gz hL (fun _ => trivial)
  with_reducible refine And.intro ?_ ?_
  omega
  with_reducible refine And.intro ?_ ?_
  omega
  with_reducible refine And.intro ?_ ?_
  omega
  with_reducible refine fX3_end (LW.ms hL) (fun hXqc0 hXqw hXqh => ?_) (fun hWqc0 hWqc1 hWqw hWqh => ?_) (fun hSqc0 hSqc1 hSqc2 hSqw hSqh => ?_) (fun hQqc0 hQqc1 hQqr hQqc2 hQqw hQqh => ?_)
  with_reducible exact absurd hWpc0 hXqc0
  simp only [eL_law_1403, kx_l, nl_int, tl_s]
  with_reducible exact next _ _ _ _ _ _ _ _ (LW.ofM hL hWqh) (by omega) (by omega)
  with_reducible exact absurd hSqc1 hWpc1
  with_reducible exact absurd hQqc1 hWpc1
  simp only [eL_law_1371, eL_law_1375, eL_law_1380, eL_law_1386, eL_law_1392, eL_law_1395, eL_law_1399, eL_law_1400, kx_l, wt_nil, nl_int, tl_s, Nat.add_zero]
  with_reducible refine gi_W hL hb ?_
  with_reducible refine And.intro ?_ ?_
  with_reducible assumption
  with_reducible refine gi_W hL hb ?_
  with_reducible refine And.intro ?_ ?_
  with_reducible assumption
  with_reducible refine gi_W hL hb ?_
  with_reducible refine And.intro ?_ ?_
  with_reducible assumption
  split
  with_reducible refine And.intro ?_ ?_
  with_reducible refine LW.gz hL (fun _ => trivial)
  with_reducible refine And.intro ?_ ?_
  with_reducible exact absurd (show xs (i + 3).toNatClampNeg = 0 by assumption) (by assumption)
  with_reducible refine And.intro ?_ ?_
  with_reducible exact absurd (show xs (i + 3).toNatClampNeg = 0 by assumption) (by assumption)
  with_reducible refine And.intro ?_ ?_
  with_reducible exact absurd (show xs (i + 3).toNatClampNeg = 0 by assumption) (by assumption)
  with_reducible refine fX3_end (LW.ms hL) (fun hXqc0 hXqw hXqh => ?_) (fun hWqc0 hWqc1 hWqw hWqh => ?_) (fun hSqc0 hSqc1 hSqc2 hSqw hSqh => ?_) (fun hQqc0 hQqc1 hQqr hQqc2 hQqw hQqh => ?_)
  with_reducible exact absurd hSpc0 hXqc0
  with_reducible exact absurd hSpc1 hWqc1
  with_reducible exact absurd (show xs (i + 3).toNatClampNeg = 0 by assumption) (by assumption)
  with_reducible exact (nsC hSpc2 hQqc2).elim
  with_reducible refine And.intro ?_ ?_
  with_reducible refine LW.gz hL (fun _ => trivial)
  with_reducible refine And.intro ?_ ?_
  omega
  with_reducible refine And.intro ?_ ?_
  omega
  with_reducible refine And.intro ?_ ?_
  omega
  with_reducible refine fX3_end (LW.ms hL) (fun hXqc0 hXqw hXqh => ?_) (fun hWqc0 hWqc1 hWqw hWqh => ?_) (fun hSqc0 hSqc1 hSqc2 hSqw hSqh => ?_) (fun hQqc0 hQqc1 hQqr hQqc2 hQqw hQqh => ?_)
  with_reducible exact absurd hSpc0 hXqc0
  with_reducible exact absurd hSpc1 hWqc1
  simp only [eL_law_1403, kx_l, nl_int, tl_s]
  with_reducible exact next _ _ _ _ _ _ _ _ (LW.ofM hL hSqh) (by omega) (by omega)
  with_reducible exact (nsC hSpc2 hQqc2).elim
  simp only [eL_law_1371, eL_law_1375, eL_law_1380, eL_law_1386, eL_law_1392, eL_law_1395, eL_law_1399, eL_law_1400, kx_l, wt_nil, nl_int, tl_s, Nat.add_zero]
  with_reducible refine gi_W hQph hb ?_
  with_reducible refine And.intro ?_ ?_
  with_reducible assumption
  with_reducible refine gi_W hQph hb ?_
  with_reducible refine And.intro ?_ ?_
  with_reducible assumption
  with_reducible refine gi_W hQph hb ?_
  with_reducible refine And.intro ?_ ?_
  with_reducible assumption
  split
  with_reducible refine And.intro ?_ ?_
  with_reducible refine LW.gz hQph (fun _ => trivial)
  with_reducible refine And.intro ?_ ?_
  with_reducible exact absurd (show xs (i + 3).toNatClampNeg = 0 by assumption) (by assumption)
  with_reducible refine And.intro ?_ ?_
  with_reducible exact absurd (show xs (i + 3).toNatClampNeg = 0 by assumption) (by assumption)
  with_reducible refine And.intro ?_ ?_
  with_reducible exact absurd (show xs (i + 3).toNatClampNeg = 0 by assumption) (by assumption)
  with_reducible refine fX3_end (LW.ms hQph) (fun hXqc0 hXqw hXqh => ?_) (fun hWqc0 hWqc1 hWqw hWqh => ?_) (fun hSqc0 hSqc1 hSqc2 hSqw hSqh => ?_) (fun hQqc0 hQqc1 hQqr hQqc2 hQqw hQqh => ?_)
  with_reducible exact absurd hQpc0 hXqc0
  with_reducible exact absurd hQpc1 hWqc1
  with_reducible exact (nsC hSqc2 hQpc2).elim
  cases Option.some.inj (hQpc2.symm.trans hQqc2); clear hQqc2
  with_reducible exact absurd (show xs (i + 3).toNatClampNeg = 0 by assumption) (by assumption)
  with_reducible refine And.intro ?_ ?_
  with_reducible refine LW.gz hQph (fun _ => trivial)
  with_reducible refine And.intro ?_ ?_
  omega
  with_reducible refine And.intro ?_ ?_
  omega
  with_reducible refine And.intro ?_ ?_
  omega
  with_reducible refine fX3_end (LW.ms hQph) (fun hXqc0 hXqw hXqh => ?_) (fun hWqc0 hWqc1 hWqw hWqh => ?_) (fun hSqc0 hSqc1 hSqc2 hSqw hSqh => ?_) (fun hQqc0 hQqc1 hQqr hQqc2 hQqw hQqh => ?_)
  with_reducible exact absurd hQpc0 hXqc0
  with_reducible exact absurd hQpc1 hWqc1
  with_reducible exact (nsC hSqc2 hQpc2).elim
  cases Option.some.inj (hQpc2.symm.trans hQqc2); clear hQqc2
  simp only [eL_law_1403, kx_l, nl_int, tl_s]
  with_reducible exact next _ _ _ _ _ _ _ _ (LW.ofM hQph hQqh) (by omega) (by omega)
set_option maxHeartbeats 4000000 in
theorem cL_25 (hR : RG g) (hb : g.2 b = some (.inl (1, L, .inl xs))) (hL : LW g w x nA cA lA y nM o kn kn th s s) (v1 : vp_in (i + 1) L) (v2 : vp_in (i + 2) L) (v3 : vp_in (i + 3) L) (v4 : vp_in (i + 4) L) (v5 : vp_in (i + 5) L) (hk : k + 114 ≤ 58408) (hn : n + 2834 ≤ 1451408) (next : (∀ (l5' l6' : Option Value) (w' : Hw) (k' n' : Nat) (kn' th' : Int32) (s' : AS), LW g w' x nA cA lA y nM o kn' kn' th' s' s' → k' ≤ k + 114 → n' ≤ n + 2834 → WP (ML_law g) QLaw (2218, [some (.ref b), some (.ref x), some (.ref y), some (.ref o), some (.int i), l5', l6'], [], w', k', n'))) : WP (ML_law g) QLaw (1408, [some (.ref b), some (.ref x), some (.ref y), some (.ref o), some (.int i), l5, l6], [], w, k, n) := by
  simp only [eL_law_1408, eL_law_1415, eL_law_1421, eL_law_1427, wt_nil]
  with_reducible refine gi_W hL hb ?_
  with_reducible refine And.intro ?_ ?_
  with_reducible assumption
  with_reducible refine gi_W hL hb ?_
  with_reducible refine And.intro ?_ ?_
  with_reducible assumption
  with_reducible refine gi_W hL hb ?_
  with_reducible refine And.intro ?_ ?_
  with_reducible assumption
  with_reducible refine And.intro ?_ ?_
  omega
  with_reducible refine And.intro ?_ ?_
  omega
  with_reducible refine And.intro ?_ ?_
  omega
  with_reducible refine fL_take hL (fun hXpc0 => ?_) (fun hWpc0 hWpc1 hWpc2 => ?_) (fun hSpc0 hSpc1 hSpc2 hSpc3 => ?_) (fun hQpc0 hQpc1 hQpc2 hQpr hQpc3 hQpw hQph hQpo => ?_)
  simp only [eL_law_1431, eL_law_1435, eL_law_1440, eL_law_1446, eL_law_1452, kx_l, wt_nil, nl_int, tl_s, Nat.add_zero]
  with_reducible refine gi_W hL hb ?_
  with_reducible refine And.intro ?_ ?_
  with_reducible assumption
  with_reducible refine gi_W hL hb ?_
  with_reducible refine And.intro ?_ ?_
  with_reducible assumption
  with_reducible refine gi_W hL hb ?_
  with_reducible refine And.intro ?_ ?_
  with_reducible assumption
  with_reducible refine And.intro ?_ ?_
  with_reducible refine LW.gz hL (fun _ => trivial)
  with_reducible refine And.intro ?_ ?_
  omega
  with_reducible refine And.intro ?_ ?_
  omega
  with_reducible refine And.intro ?_ ?_
  omega
  with_reducible refine fX3_take (LW.ms hL) (fun hXqc0 hXqw hXqh => ?_) (fun hWqc0 hWqc1 hWqc2 hWqw hWqh => ?_) (fun hSqc0 hSqc1 hSqc2 hSqc3 hSqw hSqh => ?_) (fun hQqc0 hQqc1 hQqc2 hQqr hQqc3 hQqw hQqh => ?_)
  simp only [eL_law_1455, kx_l, nl_int, tl_s]
  with_reducible exact next _ _ _ _ _ _ _ _ (LW.ofM hL hXqh) (by omega) (by omega)
  with_reducible exact absurd (And.intro hWqc0 hWqc1) hXpc0
  with_reducible exact absurd (And.intro hSqc0 hSqc1) hXpc0
  with_reducible exact absurd (And.intro hQqc0 hQqc1) hXpc0
  simp only [eL_law_1431, eL_law_1435, eL_law_1440, eL_law_1446, eL_law_1452, kx_l, wt_nil, nl_int, tl_s, Nat.add_zero]
  with_reducible refine gi_W hL hb ?_
  with_reducible refine And.intro ?_ ?_
  with_reducible assumption
  with_reducible refine gi_W hL hb ?_
  with_reducible refine And.intro ?_ ?_
  with_reducible assumption
  with_reducible refine gi_W hL hb ?_
  with_reducible refine And.intro ?_ ?_
  with_reducible assumption
  with_reducible refine And.intro ?_ ?_
  with_reducible refine LW.gz hL (fun _ => trivial)
  with_reducible refine And.intro ?_ ?_
  omega
  with_reducible refine And.intro ?_ ?_
  omega
  with_reducible refine And.intro ?_ ?_
  omega
  with_reducible refine fX3_take (LW.ms hL) (fun hXqc0 hXqw hXqh => ?_) (fun hWqc0 hWqc1 hWqc2 hWqw hWqh => ?_) (fun hSqc0 hSqc1 hSqc2 hSqc3 hSqw hSqh => ?_) (fun hQqc0 hQqc1 hQqc2 hQqr hQqc3 hQqw hQqh => ?_)
  with_reducible exact absurd (And.intro hWpc0 hWpc1) hXqc0
  simp only [eL_law_1455, kx_l, nl_int, tl_s]
  with_reducible exact next _ _ _ _ _ _ _ _ (LW.ofM hL hWqh) (by omega) (by omega)
  with_reducible exact absurd hSqc2 hWpc2
  with_reducible exact absurd hQqc2 hWpc2
  simp only [eL_law_1431, eL_law_1435, eL_law_1440, eL_law_1446, eL_law_1452, kx_l, wt_nil, nl_int, tl_s, Nat.add_zero]
  with_reducible refine gi_W hL hb ?_
  with_reducible refine And.intro ?_ ?_
  with_reducible assumption
  with_reducible refine gi_W hL hb ?_
  with_reducible refine And.intro ?_ ?_
  with_reducible assumption
  with_reducible refine gi_W hL hb ?_
  with_reducible refine And.intro ?_ ?_
  with_reducible assumption
  with_reducible refine And.intro ?_ ?_
  with_reducible refine LW.gz hL (fun _ => trivial)
  with_reducible refine And.intro ?_ ?_
  omega
  with_reducible refine And.intro ?_ ?_
  omega
  with_reducible refine And.intro ?_ ?_
  omega
  with_reducible refine fX3_take (LW.ms hL) (fun hXqc0 hXqw hXqh => ?_) (fun hWqc0 hWqc1 hWqc2 hWqw hWqh => ?_) (fun hSqc0 hSqc1 hSqc2 hSqc3 hSqw hSqh => ?_) (fun hQqc0 hQqc1 hQqc2 hQqr hQqc3 hQqw hQqh => ?_)
  with_reducible exact absurd (And.intro hSpc0 hSpc1) hXqc0
  with_reducible exact absurd hSpc2 hWqc2
  simp only [eL_law_1455, kx_l, nl_int, tl_s]
  with_reducible exact next _ _ _ _ _ _ _ _ (LW.ofM hL hSqh) (by omega) (by omega)
  with_reducible exact (nsC hSpc3 hQqc3).elim
  simp only [eL_law_1431, eL_law_1435, eL_law_1440, eL_law_1446, eL_law_1452, kx_l, wt_nil, nl_int, tl_s, Nat.add_zero]
  with_reducible refine gi_W hQph hb ?_
  with_reducible refine And.intro ?_ ?_
  with_reducible assumption
  with_reducible refine gi_W hQph hb ?_
  with_reducible refine And.intro ?_ ?_
  with_reducible assumption
  with_reducible refine gi_W hQph hb ?_
  with_reducible refine And.intro ?_ ?_
  with_reducible assumption
  with_reducible refine And.intro ?_ ?_
  with_reducible refine LW.gz hQph (fun _ => trivial)
  with_reducible refine And.intro ?_ ?_
  omega
  with_reducible refine And.intro ?_ ?_
  omega
  with_reducible refine And.intro ?_ ?_
  omega
  with_reducible refine fX3_take (LW.ms hQph) (fun hXqc0 hXqw hXqh => ?_) (fun hWqc0 hWqc1 hWqc2 hWqw hWqh => ?_) (fun hSqc0 hSqc1 hSqc2 hSqc3 hSqw hSqh => ?_) (fun hQqc0 hQqc1 hQqc2 hQqr hQqc3 hQqw hQqh => ?_)
  with_reducible exact absurd (And.intro hQpc0 hQpc1) hXqc0
  with_reducible exact absurd hQpc2 hWqc2
  with_reducible exact (nsC hSqc3 hQpc3).elim
  cases Option.some.inj (hQpc3.symm.trans hQqc3); clear hQqc3
  simp only [eL_law_1455, kx_l, nl_int, tl_s]
  with_reducible exact next _ _ _ _ _ _ _ _ (LW.ofM hQph hQqh) (by omega) (by omega)
set_option maxHeartbeats 4000000 in
theorem cL_26 (hR : RG g) (hb : g.2 b = some (.inl (1, L, .inl xs))) (hL : LW g w x nA cA lA y nM o kn kn th s s) (v1 : vp_in (i + 1) L) (v2 : vp_in (i + 2) L) (v3 : vp_in (i + 3) L) (v4 : vp_in (i + 4) L) (v5 : vp_in (i + 5) L) (hk : k + 114 ≤ 58408) (hn : n + 2834 ≤ 1451408) (next : (∀ (l5' l6' : Option Value) (w' : Hw) (k' n' : Nat) (kn' th' : Int32) (s' : AS), LW g w' x nA cA lA y nM o kn' kn' th' s' s' → k' ≤ k + 114 → n' ≤ n + 2834 → WP (ML_law g) QLaw (2218, [some (.ref b), some (.ref x), some (.ref y), some (.ref o), some (.int i), l5', l6'], [], w', k', n'))) : WP (ML_law g) QLaw (1460, [some (.ref b), some (.ref x), some (.ref y), some (.ref o), some (.int i), l5, l6], [], w, k, n) := by
  simp only [eL_law_1460, eL_law_1467, wt_nil]
  with_reducible refine gi_W hL hb ?_
  with_reducible refine And.intro ?_ ?_
  with_reducible assumption
  with_reducible refine And.intro ?_ ?_
  omega
  with_reducible refine And.intro ?_ ?_
  omega
  with_reducible refine And.intro ?_ ?_
  omega
  with_reducible refine gL_cardText hR hL (fun v1 w1 h1 => ?_)
  simp only [eL_law_1471, eL_law_1475, eL_law_1480, kx_l, wt_nil, nl_int, tl_s]
  with_reducible refine gi_W h1 hb ?_
  with_reducible refine And.intro ?_ ?_
  with_reducible assumption
  with_reducible refine And.intro ?_ ?_
  with_reducible refine LW.gz h1 (fun _ => trivial)
  with_reducible refine And.intro ?_ ?_
  omega
  with_reducible refine And.intro ?_ ?_
  omega
  with_reducible refine And.intro ?_ ?_
  with_reducible assumption
  with_reducible refine gX3_cardText (LW.ms h1) hR.sg (hR.dg (LW.ro h1)) (hR.tx (LW.ro h1)) (fun v2 t2 w2 m2 => ?_)
  simp only [eL_law_1483, kx_l, nl_int, tl_s]
  with_reducible exact next _ _ _ _ _ _ _ _ (LW.ofM h1 m2) (by omega) (by omega)
set_option maxHeartbeats 4000000 in
theorem cL_27 (hR : RG g) (hb : g.2 b = some (.inl (1, L, .inl xs))) (hL : LW g w x nA cA lA y nM o kn kn th s s) (v1 : vp_in (i + 1) L) (v2 : vp_in (i + 2) L) (v3 : vp_in (i + 3) L) (v4 : vp_in (i + 4) L) (v5 : vp_in (i + 5) L) (hk : k + 114 ≤ 58408) (hn : n + 2834 ≤ 1451408) (next : (∀ (l5' l6' : Option Value) (w' : Hw) (k' n' : Nat) (kn' th' : Int32) (s' : AS), LW g w' x nA cA lA y nM o kn' kn' th' s' s' → k' ≤ k + 114 → n' ≤ n + 2834 → WP (ML_law g) QLaw (2218, [some (.ref b), some (.ref x), some (.ref y), some (.ref o), some (.int i), l5', l6'], [], w', k', n'))) : WP (ML_law g) QLaw (1488, [some (.ref b), some (.ref x), some (.ref y), some (.ref o), some (.int i), l5, l6], [], w, k, n) := by
  simp only [eL_law_1488, eL_law_1495, eL_law_1501, wt_nil]
  with_reducible refine gi_W hL hb ?_
  with_reducible refine And.intro ?_ ?_
  with_reducible assumption
  with_reducible refine gi_W hL hb ?_
  with_reducible refine And.intro ?_ ?_
  with_reducible assumption
  with_reducible refine And.intro ?_ ?_
  omega
  with_reducible refine And.intro ?_ ?_
  omega
  with_reducible refine And.intro ?_ ?_
  omega
  with_reducible refine fL_isValid hL (fun hXpc0 => ?_) (fun hSpc0 hSpc1 hSpc2 => ?_) (fun hTpc0 hTpc1 hTpr hTpc2 hTpc3 hTpw hTph hTpo => ?_) (fun hFpc0 hFpc1 hFpr hFpc2 hFpc3 hFpw hFph hFpo => ?_)
  simp only [eL_law_1505, eL_law_1509, eL_law_1514, eL_law_1520, kx_l, wt_nil, nl_int, tl_s, Nat.add_zero]
  with_reducible refine gi_W hL hb ?_
  with_reducible refine And.intro ?_ ?_
  with_reducible assumption
  with_reducible refine gi_W hL hb ?_
  with_reducible refine And.intro ?_ ?_
  with_reducible assumption
  with_reducible refine And.intro ?_ ?_
  with_reducible refine LW.gz hL (fun _ => trivial)
  with_reducible refine And.intro ?_ ?_
  omega
  with_reducible refine And.intro ?_ ?_
  omega
  with_reducible refine And.intro ?_ ?_
  omega
  with_reducible refine fX3_isValid (LW.ms hL) (fun hXqc0 hXqw hXqh => ?_) (fun hSqc0 hSqc1 hSqc2 hSqw hSqh => ?_) (fun hTqc0 hTqc1 hTqr hTqc2 hTqc3 hTqw hTqh => ?_) (fun hFqc0 hFqc1 hFqr hFqc2 hFqc3 hFqw hFqh => ?_)
  simp only [eL_law_1523, kx_l, nl_int, tl_s]
  with_reducible exact next _ _ _ _ _ _ _ _ (LW.ofM hL hXqh) (by omega) (by omega)
  with_reducible exact absurd (And.intro hSqc0 hSqc1) hXpc0
  with_reducible exact absurd (And.intro hTqc0 hTqc1) hXpc0
  with_reducible exact absurd (And.intro hFqc0 hFqc1) hXpc0
  simp only [eL_law_1505, eL_law_1509, eL_law_1514, eL_law_1520, kx_l, wt_nil, nl_int, tl_s, Nat.add_zero]
  with_reducible refine gi_W hL hb ?_
  with_reducible refine And.intro ?_ ?_
  with_reducible assumption
  with_reducible refine gi_W hL hb ?_
  with_reducible refine And.intro ?_ ?_
  with_reducible assumption
  with_reducible refine And.intro ?_ ?_
  with_reducible refine LW.gz hL (fun _ => trivial)
  with_reducible refine And.intro ?_ ?_
  omega
  with_reducible refine And.intro ?_ ?_
  omega
  with_reducible refine And.intro ?_ ?_
  omega
  with_reducible refine fX3_isValid (LW.ms hL) (fun hXqc0 hXqw hXqh => ?_) (fun hSqc0 hSqc1 hSqc2 hSqw hSqh => ?_) (fun hTqc0 hTqc1 hTqr hTqc2 hTqc3 hTqw hTqh => ?_) (fun hFqc0 hFqc1 hFqr hFqc2 hFqc3 hFqw hFqh => ?_)
  with_reducible exact absurd (And.intro hSpc0 hSpc1) hXqc0
  simp only [eL_law_1523, kx_l, nl_int, tl_s]
  with_reducible exact next _ _ _ _ _ _ _ _ (LW.ofM hL hSqh) (by omega) (by omega)
  with_reducible exact (nsC hSpc2 hTqc2).elim
  with_reducible exact (nsC hSpc2 hFqc2).elim
  simp only [eL_law_1505, eL_law_1509, eL_law_1514, eL_law_1520, kx_l, wt_nil, nl_int, tl_s, Nat.add_zero]
  with_reducible refine gi_W hTph hb ?_
  with_reducible refine And.intro ?_ ?_
  with_reducible assumption
  with_reducible refine gi_W hTph hb ?_
  with_reducible refine And.intro ?_ ?_
  with_reducible assumption
  with_reducible refine And.intro ?_ ?_
  with_reducible refine LW.gz hTph (fun _ => trivial)
  with_reducible refine And.intro ?_ ?_
  omega
  with_reducible refine And.intro ?_ ?_
  omega
  with_reducible refine And.intro ?_ ?_
  omega
  with_reducible refine fX3_isValid (LW.ms hTph) (fun hXqc0 hXqw hXqh => ?_) (fun hSqc0 hSqc1 hSqc2 hSqw hSqh => ?_) (fun hTqc0 hTqc1 hTqr hTqc2 hTqc3 hTqw hTqh => ?_) (fun hFqc0 hFqc1 hFqr hFqc2 hFqc3 hFqw hFqh => ?_)
  with_reducible exact absurd (And.intro hTpc0 hTpc1) hXqc0
  with_reducible exact (nsC hSqc2 hTpc2).elim
  cases Option.some.inj (hTpc2.symm.trans hTqc2); clear hTqc2
  simp only [eL_law_1523, kx_l, nl_int, tl_s]
  with_reducible exact next _ _ _ _ _ _ _ _ (LW.ofM hTph hTqh) (by omega) (by omega)
  cases Option.some.inj (hTpc2.symm.trans hFqc2); clear hFqc2
  with_reducible exact absurd hTpc3 hFqc3
  simp only [eL_law_1505, eL_law_1509, eL_law_1514, eL_law_1520, kx_l, wt_nil, nl_int, tl_s, Nat.add_zero]
  with_reducible refine gi_W hFph hb ?_
  with_reducible refine And.intro ?_ ?_
  with_reducible assumption
  with_reducible refine gi_W hFph hb ?_
  with_reducible refine And.intro ?_ ?_
  with_reducible assumption
  with_reducible refine And.intro ?_ ?_
  with_reducible refine LW.gz hFph (fun _ => trivial)
  with_reducible refine And.intro ?_ ?_
  omega
  with_reducible refine And.intro ?_ ?_
  omega
  with_reducible refine And.intro ?_ ?_
  omega
  with_reducible refine fX3_isValid (LW.ms hFph) (fun hXqc0 hXqw hXqh => ?_) (fun hSqc0 hSqc1 hSqc2 hSqw hSqh => ?_) (fun hTqc0 hTqc1 hTqr hTqc2 hTqc3 hTqw hTqh => ?_) (fun hFqc0 hFqc1 hFqr hFqc2 hFqc3 hFqw hFqh => ?_)
  with_reducible exact absurd (And.intro hFpc0 hFpc1) hXqc0
  with_reducible exact (nsC hSqc2 hFpc2).elim
  cases Option.some.inj (hFpc2.symm.trans hTqc2); clear hTqc2
  with_reducible exact absurd hTqc3 hFpc3
  cases Option.some.inj (hFpc2.symm.trans hFqc2); clear hFqc2
  simp only [eL_law_1523, kx_l, nl_int, tl_s]
  with_reducible exact next _ _ _ _ _ _ _ _ (LW.ofM hFph hFqh) (by omega) (by omega)
set_option maxHeartbeats 4000000 in
theorem cL_28 (hR : RG g) (hb : g.2 b = some (.inl (1, L, .inl xs))) (hL : LW g w x nA cA lA y nM o kn kn th s s) (v1 : vp_in (i + 1) L) (v2 : vp_in (i + 2) L) (v3 : vp_in (i + 3) L) (v4 : vp_in (i + 4) L) (v5 : vp_in (i + 5) L) (hk : k + 114 ≤ 58408) (hn : n + 2834 ≤ 1451408) (next : (∀ (l5' l6' : Option Value) (w' : Hw) (k' n' : Nat) (kn' th' : Int32) (s' : AS), LW g w' x nA cA lA y nM o kn' kn' th' s' s' → k' ≤ k + 114 → n' ≤ n + 2834 → WP (ML_law g) QLaw (2218, [some (.ref b), some (.ref x), some (.ref y), some (.ref o), some (.int i), l5', l6'], [], w', k', n'))) : WP (ML_law g) QLaw (1528, [some (.ref b), some (.ref x), some (.ref y), some (.ref o), some (.int i), l5, l6], [], w, k, n) := by
  simp only [eL_law_1528, eL_law_1535, eL_law_1541, wt_nil]
  with_reducible refine gi_W hL hb ?_
  with_reducible refine And.intro ?_ ?_
  with_reducible assumption
  with_reducible refine gi_W hL hb ?_
  with_reducible refine And.intro ?_ ?_
  with_reducible assumption
  with_reducible refine And.intro ?_ ?_
  omega
  with_reducible refine And.intro ?_ ?_
  omega
  with_reducible refine And.intro ?_ ?_
  omega
  with_reducible refine fL_isValidSmall hL (fun hXpc0 => ?_) (fun hSpc0 hSpc1 hSpc2 => ?_) (fun hTpc0 hTpc1 hTpr hTpc2 hTpc3 hTpw hTph hTpo => ?_) (fun hFpc0 hFpc1 hFpr hFpc2 hFpc3 hFpw hFph hFpo => ?_)
  simp only [eL_law_1545, eL_law_1549, eL_law_1554, eL_law_1558, eL_law_1560, kx_l, wt_nil, nl_int, tl_s, Nat.add_zero]
  with_reducible refine gi_W hL hb ?_
  with_reducible refine And.intro ?_ ?_
  with_reducible assumption
  with_reducible refine gi_W hL hb ?_
  with_reducible refine And.intro ?_ ?_
  with_reducible assumption
  with_reducible refine And.intro ?_ ?_
  with_reducible refine LW.gz hL (fun _ => trivial)
  with_reducible refine And.intro ?_ ?_
  omega
  with_reducible refine And.intro ?_ ?_
  omega
  with_reducible refine And.intro ?_ ?_
  omega
  with_reducible refine fX3_isValidSmall (LW.ms hL) (fun hXqc0 hXqw hXqh => ?_) (fun hSqc0 hSqc1 hSqc2 hSqw hSqh => ?_) (fun hTqc0 hTqc1 hTqr hTqc2 hTqc3 hTqw hTqh => ?_) (fun hFqc0 hFqc1 hFqr hFqc2 hFqc3 hFqw hFqh => ?_)
  simp only [eL_law_1563, kx_l, nl_int, tl_s]
  with_reducible exact next _ _ _ _ _ _ _ _ (LW.ofM hL hXqh) (by omega) (by omega)
  with_reducible exact absurd (And.intro hSqc0 hSqc1) hXpc0
  with_reducible exact absurd (And.intro hTqc0 hTqc1) hXpc0
  with_reducible exact absurd (And.intro hFqc0 hFqc1) hXpc0
  simp only [eL_law_1545, eL_law_1549, eL_law_1554, eL_law_1558, eL_law_1560, kx_l, wt_nil, nl_int, tl_s, Nat.add_zero]
  with_reducible refine gi_W hL hb ?_
  with_reducible refine And.intro ?_ ?_
  with_reducible assumption
  with_reducible refine gi_W hL hb ?_
  with_reducible refine And.intro ?_ ?_
  with_reducible assumption
  with_reducible refine And.intro ?_ ?_
  with_reducible refine LW.gz hL (fun _ => trivial)
  with_reducible refine And.intro ?_ ?_
  omega
  with_reducible refine And.intro ?_ ?_
  omega
  with_reducible refine And.intro ?_ ?_
  omega
  with_reducible refine fX3_isValidSmall (LW.ms hL) (fun hXqc0 hXqw hXqh => ?_) (fun hSqc0 hSqc1 hSqc2 hSqw hSqh => ?_) (fun hTqc0 hTqc1 hTqr hTqc2 hTqc3 hTqw hTqh => ?_) (fun hFqc0 hFqc1 hFqr hFqc2 hFqc3 hFqw hFqh => ?_)
  with_reducible exact absurd (And.intro hSpc0 hSpc1) hXqc0
  simp only [eL_law_1563, kx_l, nl_int, tl_s]
  with_reducible exact next _ _ _ _ _ _ _ _ (LW.ofM hL hSqh) (by omega) (by omega)
  with_reducible exact (nsC hSpc2 hTqc2).elim
  with_reducible exact (nsC hSpc2 hFqc2).elim
  simp only [eL_law_1545, eL_law_1549, eL_law_1554, eL_law_1558, eL_law_1560, kx_l, wt_nil, nl_int, tl_s, Nat.add_zero]
  with_reducible refine gi_W hTph hb ?_
  with_reducible refine And.intro ?_ ?_
  with_reducible assumption
  with_reducible refine gi_W hTph hb ?_
  with_reducible refine And.intro ?_ ?_
  with_reducible assumption
  with_reducible refine And.intro ?_ ?_
  with_reducible refine LW.gz hTph (fun _ => trivial)
  with_reducible refine And.intro ?_ ?_
  omega
  with_reducible refine And.intro ?_ ?_
  omega
  with_reducible refine And.intro ?_ ?_
  omega
  with_reducible refine fX3_isValidSmall (LW.ms hTph) (fun hXqc0 hXqw hXqh => ?_) (fun hSqc0 hSqc1 hSqc2 hSqw hSqh => ?_) (fun hTqc0 hTqc1 hTqr hTqc2 hTqc3 hTqw hTqh => ?_) (fun hFqc0 hFqc1 hFqr hFqc2 hFqc3 hFqw hFqh => ?_)
  with_reducible exact absurd (And.intro hTpc0 hTpc1) hXqc0
  with_reducible exact (nsC hSqc2 hTpc2).elim
  cases Option.some.inj (hTpc2.symm.trans hTqc2); clear hTqc2
  simp only [eL_law_1563, kx_l, nl_int, tl_s]
  with_reducible exact next _ _ _ _ _ _ _ _ (LW.ofM hTph hTqh) (by omega) (by omega)
  cases Option.some.inj (hTpc2.symm.trans hFqc2); clear hFqc2
  with_reducible exact absurd hTpc3 hFqc3
  simp only [eL_law_1545, eL_law_1549, eL_law_1554, eL_law_1558, eL_law_1560, kx_l, wt_nil, nl_int, tl_s, Nat.add_zero]
  with_reducible refine gi_W hFph hb ?_
  with_reducible refine And.intro ?_ ?_
  with_reducible assumption
  with_reducible refine gi_W hFph hb ?_
  with_reducible refine And.intro ?_ ?_
  with_reducible assumption
  with_reducible refine And.intro ?_ ?_
  with_reducible refine LW.gz hFph (fun _ => trivial)
  with_reducible refine And.intro ?_ ?_
  omega
  with_reducible refine And.intro ?_ ?_
  omega
  with_reducible refine And.intro ?_ ?_
  omega
  with_reducible refine fX3_isValidSmall (LW.ms hFph) (fun hXqc0 hXqw hXqh => ?_) (fun hSqc0 hSqc1 hSqc2 hSqw hSqh => ?_) (fun hTqc0 hTqc1 hTqr hTqc2 hTqc3 hTqw hTqh => ?_) (fun hFqc0 hFqc1 hFqr hFqc2 hFqc3 hFqw hFqh => ?_)
  with_reducible exact absurd (And.intro hFpc0 hFpc1) hXqc0
  with_reducible exact (nsC hSqc2 hFpc2).elim
  cases Option.some.inj (hFpc2.symm.trans hTqc2); clear hTqc2
  with_reducible exact absurd hTqc3 hFpc3
  cases Option.some.inj (hFpc2.symm.trans hFqc2); clear hFqc2
  simp only [eL_law_1563, kx_l, nl_int, tl_s]
  with_reducible exact next _ _ _ _ _ _ _ _ (LW.ofM hFph hFqh) (by omega) (by omega)
set_option maxHeartbeats 4000000 in
theorem cL_29 (hR : RG g) (hb : g.2 b = some (.inl (1, L, .inl xs))) (hL : LW g w x nA cA lA y nM o kn kn th s s) (v1 : vp_in (i + 1) L) (v2 : vp_in (i + 2) L) (v3 : vp_in (i + 3) L) (v4 : vp_in (i + 4) L) (v5 : vp_in (i + 5) L) (hk : k + 114 ≤ 58408) (hn : n + 2834 ≤ 1451408) (next : (∀ (l5' l6' : Option Value) (w' : Hw) (k' n' : Nat) (kn' th' : Int32) (s' : AS), LW g w' x nA cA lA y nM o kn' kn' th' s' s' → k' ≤ k + 114 → n' ≤ n + 2834 → WP (ML_law g) QLaw (2218, [some (.ref b), some (.ref x), some (.ref y), some (.ref o), some (.int i), l5', l6'], [], w', k', n'))) : WP (ML_law g) QLaw (1568, [some (.ref b), some (.ref x), some (.ref y), some (.ref o), some (.int i), l5, l6], [], w, k, n) := by
  simp only [eL_law_1568, eL_law_1575, eL_law_1581, wt_nil]
  with_reducible refine gi_W hL hb ?_
  with_reducible refine And.intro ?_ ?_
  with_reducible assumption
  with_reducible refine gi_W hL hb ?_
  with_reducible refine And.intro ?_ ?_
  with_reducible assumption
  with_reducible refine And.intro ?_ ?_
  omega
  with_reducible refine And.intro ?_ ?_
  omega
  with_reducible refine And.intro ?_ ?_
  omega
  with_reducible refine fL_whichValid hL (fun hXpc0 => ?_) (fun hSpc0 hSpc1 => ?_) (fun hQpc0 hQpr hQpc1 hQpw hQph hQpo => ?_)
  simp only [eL_law_1585, eL_law_1589, eL_law_1594, eL_law_1600, kx_l, wt_nil, nl_int, tl_s, Nat.add_zero]
  with_reducible refine gi_W hL hb ?_
  with_reducible refine And.intro ?_ ?_
  with_reducible assumption
  with_reducible refine gi_W hL hb ?_
  with_reducible refine And.intro ?_ ?_
  with_reducible assumption
  with_reducible refine And.intro ?_ ?_
  with_reducible refine LW.gz hL (fun _ => trivial)
  with_reducible refine And.intro ?_ ?_
  omega
  with_reducible refine And.intro ?_ ?_
  omega
  with_reducible refine And.intro ?_ ?_
  omega
  with_reducible refine gX3_whichValid (LW.ms hL) (fun v2 t2 w2 m2 => ?_)
  simp only [eL_law_1603, kx_l, nl_int, tl_s]
  with_reducible exact next _ _ _ _ _ _ _ _ (LW.ofM hL m2) (by omega) (by omega)
  simp only [eL_law_1585, eL_law_1589, eL_law_1594, eL_law_1600, kx_l, wt_nil, nl_int, tl_s, Nat.add_zero]
  with_reducible refine gi_W hL hb ?_
  with_reducible refine And.intro ?_ ?_
  with_reducible assumption
  with_reducible refine gi_W hL hb ?_
  with_reducible refine And.intro ?_ ?_
  with_reducible assumption
  with_reducible refine And.intro ?_ ?_
  with_reducible refine LW.gz hL (fun _ => trivial)
  with_reducible refine And.intro ?_ ?_
  omega
  with_reducible refine And.intro ?_ ?_
  omega
  with_reducible refine And.intro ?_ ?_
  omega
  with_reducible refine gX3_whichValid (LW.ms hL) (fun v2 t2 w2 m2 => ?_)
  simp only [eL_law_1603, kx_l, nl_int, tl_s]
  with_reducible exact next _ _ _ _ _ _ _ _ (LW.ofM hL m2) (by omega) (by omega)
  simp only [eL_law_1585, eL_law_1589, eL_law_1594, eL_law_1600, kx_l, wt_nil, nl_int, tl_s, Nat.add_zero]
  with_reducible refine gi_W hQph hb ?_
  with_reducible refine And.intro ?_ ?_
  with_reducible assumption
  with_reducible refine gi_W hQph hb ?_
  with_reducible refine And.intro ?_ ?_
  with_reducible assumption
  with_reducible refine And.intro ?_ ?_
  with_reducible refine LW.gz hQph (fun _ => trivial)
  with_reducible refine And.intro ?_ ?_
  omega
  with_reducible refine And.intro ?_ ?_
  omega
  with_reducible refine And.intro ?_ ?_
  omega
  with_reducible refine gX3_whichValid (LW.ms hQph) (fun v2 t2 w2 m2 => ?_)
  simp only [eL_law_1603, kx_l, nl_int, tl_s]
  with_reducible exact next _ _ _ _ _ _ _ _ (LW.ofM hQph m2) (by omega) (by omega)
set_option maxHeartbeats 4000000 in
theorem cL_30 (hR : RG g) (hb : g.2 b = some (.inl (1, L, .inl xs))) (hL : LW g w x nA cA lA y nM o kn kn th s s) (v1 : vp_in (i + 1) L) (v2 : vp_in (i + 2) L) (v3 : vp_in (i + 3) L) (v4 : vp_in (i + 4) L) (v5 : vp_in (i + 5) L) (hk : k + 114 ≤ 58408) (hn : n + 2834 ≤ 1451408) (next : (∀ (l5' l6' : Option Value) (w' : Hw) (k' n' : Nat) (kn' th' : Int32) (s' : AS), LW g w' x nA cA lA y nM o kn' kn' th' s' s' → k' ≤ k + 114 → n' ≤ n + 2834 → WP (ML_law g) QLaw (2218, [some (.ref b), some (.ref x), some (.ref y), some (.ref o), some (.int i), l5', l6'], [], w', k', n'))) : WP (ML_law g) QLaw (1608, [some (.ref b), some (.ref x), some (.ref y), some (.ref o), some (.int i), l5, l6], [], w, k, n) := by
  simp only [eL_law_1608, eL_law_1615, eL_law_1621, eL_law_1627, eL_law_1630, eL_law_1634, eL_law_1635, wt_nil]
  with_reducible refine gi_W hL hb ?_
  with_reducible refine And.intro ?_ ?_
  with_reducible assumption
  with_reducible refine gi_W hL hb ?_
  with_reducible refine And.intro ?_ ?_
  with_reducible assumption
  with_reducible refine gi_W hL hb ?_
  with_reducible refine And.intro ?_ ?_
  with_reducible assumption
  split
  with_reducible refine And.intro ?_ ?_
  omega
  with_reducible refine And.intro ?_ ?_
  omega
  with_reducible refine And.intro ?_ ?_
  omega
  with_reducible refine fL_around hL (fun hXpc0 => ?_) (fun hWpc0 hWpc1 => ?_) (fun hSpc0 hSpc1 hSpc2 => ?_) (fun hQpc0 hQpc1 hQpr hQpc2 hQpw hQph hQpo => ?_)
  simp only [eL_law_1639, eL_law_1643, eL_law_1648, eL_law_1654, eL_law_1660, eL_law_1663, eL_law_1667, eL_law_1668, kx_l, wt_nil, nl_int, tl_s, Nat.add_zero]
  with_reducible refine gi_W hL hb ?_
  with_reducible refine And.intro ?_ ?_
  with_reducible assumption
  with_reducible refine gi_W hL hb ?_
  with_reducible refine And.intro ?_ ?_
  with_reducible assumption
  with_reducible refine gi_W hL hb ?_
  with_reducible refine And.intro ?_ ?_
  with_reducible assumption
  split
  with_reducible refine And.intro ?_ ?_
  with_reducible refine LW.gz hL (fun _ => trivial)
  with_reducible refine And.intro ?_ ?_
  omega
  with_reducible refine And.intro ?_ ?_
  omega
  with_reducible refine And.intro ?_ ?_
  omega
  with_reducible refine gX3_around (LW.ms hL) (fun v2 t2 w2 m2 => ?_)
  simp only [eL_law_1671, kx_l, nl_int, tl_s]
  with_reducible exact next _ _ _ _ _ _ _ _ (LW.ofM hL m2) (by omega) (by omega)
  with_reducible refine And.intro ?_ ?_
  with_reducible refine LW.gz hL (fun _ => trivial)
  with_reducible refine And.intro ?_ ?_
  with_reducible exact absurd (show xs (i + 3).toNatClampNeg = 0 by assumption) (by assumption)
  with_reducible refine And.intro ?_ ?_
  with_reducible exact absurd (show xs (i + 3).toNatClampNeg = 0 by assumption) (by assumption)
  with_reducible refine And.intro ?_ ?_
  with_reducible exact absurd (show xs (i + 3).toNatClampNeg = 0 by assumption) (by assumption)
  with_reducible refine gX3_around (LW.ms hL) (fun v2 t2 w2 m2 => ?_)
  with_reducible exact absurd (show xs (i + 3).toNatClampNeg = 0 by assumption) (by assumption)
  simp only [eL_law_1639, eL_law_1643, eL_law_1648, eL_law_1654, eL_law_1660, eL_law_1663, eL_law_1667, eL_law_1668, kx_l, wt_nil, nl_int, tl_s, Nat.add_zero]
  with_reducible refine gi_W hL hb ?_
  with_reducible refine And.intro ?_ ?_
  with_reducible assumption
  with_reducible refine gi_W hL hb ?_
  with_reducible refine And.intro ?_ ?_
  with_reducible assumption
  with_reducible refine gi_W hL hb ?_
  with_reducible refine And.intro ?_ ?_
  with_reducible assumption
  split
  with_reducible refine And.intro ?_ ?_
  with_reducible refine LW.gz hL (fun _ => trivial)
  with_reducible refine And.intro ?_ ?_
  omega
  with_reducible refine And.intro ?_ ?_
  omega
  with_reducible refine And.intro ?_ ?_
  omega
  with_reducible refine gX3_around (LW.ms hL) (fun v2 t2 w2 m2 => ?_)
  simp only [eL_law_1671, kx_l, nl_int, tl_s]
  with_reducible exact next _ _ _ _ _ _ _ _ (LW.ofM hL m2) (by omega) (by omega)
  with_reducible refine And.intro ?_ ?_
  with_reducible refine LW.gz hL (fun _ => trivial)
  with_reducible refine And.intro ?_ ?_
  with_reducible exact absurd (show xs (i + 3).toNatClampNeg = 0 by assumption) (by assumption)
  with_reducible refine And.intro ?_ ?_
  with_reducible exact absurd (show xs (i + 3).toNatClampNeg = 0 by assumption) (by assumption)
  with_reducible refine And.intro ?_ ?_
  with_reducible exact absurd (show xs (i + 3).toNatClampNeg = 0 by assumption) (by assumption)
  with_reducible refine gX3_around (LW.ms hL) (fun v2 t2 w2 m2 => ?_)
  with_reducible exact absurd (show xs (i + 3).toNatClampNeg = 0 by assumption) (by assumption)
  simp only [eL_law_1639, eL_law_1643, eL_law_1648, eL_law_1654, eL_law_1660, eL_law_1663, eL_law_1667, eL_law_1668, kx_l, wt_nil, nl_int, tl_s, Nat.add_zero]
  with_reducible refine gi_W hL hb ?_
  with_reducible refine And.intro ?_ ?_
  with_reducible assumption
  with_reducible refine gi_W hL hb ?_
  with_reducible refine And.intro ?_ ?_
  with_reducible assumption
  with_reducible refine gi_W hL hb ?_
  with_reducible refine And.intro ?_ ?_
  with_reducible assumption
  split
  with_reducible refine And.intro ?_ ?_
  with_reducible refine LW.gz hL (fun _ => trivial)
  with_reducible refine And.intro ?_ ?_
  omega
  with_reducible refine And.intro ?_ ?_
  omega
  with_reducible refine And.intro ?_ ?_
  omega
  with_reducible refine gX3_around (LW.ms hL) (fun v2 t2 w2 m2 => ?_)
  simp only [eL_law_1671, kx_l, nl_int, tl_s]
  with_reducible exact next _ _ _ _ _ _ _ _ (LW.ofM hL m2) (by omega) (by omega)
  with_reducible refine And.intro ?_ ?_
  with_reducible refine LW.gz hL (fun _ => trivial)
  with_reducible refine And.intro ?_ ?_
  with_reducible exact absurd (show xs (i + 3).toNatClampNeg = 0 by assumption) (by assumption)
  with_reducible refine And.intro ?_ ?_
  with_reducible exact absurd (show xs (i + 3).toNatClampNeg = 0 by assumption) (by assumption)
  with_reducible refine And.intro ?_ ?_
  with_reducible exact absurd (show xs (i + 3).toNatClampNeg = 0 by assumption) (by assumption)
  with_reducible refine gX3_around (LW.ms hL) (fun v2 t2 w2 m2 => ?_)
  with_reducible exact absurd (show xs (i + 3).toNatClampNeg = 0 by assumption) (by assumption)
  simp only [eL_law_1639, eL_law_1643, eL_law_1648, eL_law_1654, eL_law_1660, eL_law_1663, eL_law_1667, eL_law_1668, kx_l, wt_nil, nl_int, tl_s, Nat.add_zero]
  with_reducible refine gi_W hQph hb ?_
  with_reducible refine And.intro ?_ ?_
  with_reducible assumption
  with_reducible refine gi_W hQph hb ?_
  with_reducible refine And.intro ?_ ?_
  with_reducible assumption
  with_reducible refine gi_W hQph hb ?_
  with_reducible refine And.intro ?_ ?_
  with_reducible assumption
  split
  with_reducible refine And.intro ?_ ?_
  with_reducible refine LW.gz hQph (fun _ => trivial)
  with_reducible refine And.intro ?_ ?_
  omega
  with_reducible refine And.intro ?_ ?_
  omega
  with_reducible refine And.intro ?_ ?_
  omega
  with_reducible refine gX3_around (LW.ms hQph) (fun v2 t2 w2 m2 => ?_)
  simp only [eL_law_1671, kx_l, nl_int, tl_s]
  with_reducible exact next _ _ _ _ _ _ _ _ (LW.ofM hQph m2) (by omega) (by omega)
  with_reducible refine And.intro ?_ ?_
  with_reducible refine LW.gz hQph (fun _ => trivial)
  with_reducible refine And.intro ?_ ?_
  with_reducible exact absurd (show xs (i + 3).toNatClampNeg = 0 by assumption) (by assumption)
  with_reducible refine And.intro ?_ ?_
  with_reducible exact absurd (show xs (i + 3).toNatClampNeg = 0 by assumption) (by assumption)
  with_reducible refine And.intro ?_ ?_
  with_reducible exact absurd (show xs (i + 3).toNatClampNeg = 0 by assumption) (by assumption)
  with_reducible refine gX3_around (LW.ms hQph) (fun v2 t2 w2 m2 => ?_)
  with_reducible exact absurd (show xs (i + 3).toNatClampNeg = 0 by assumption) (by assumption)
  with_reducible refine And.intro ?_ ?_
  omega
  with_reducible refine And.intro ?_ ?_
  omega
  with_reducible refine And.intro ?_ ?_
  omega
  with_reducible refine fL_around hL (fun hXpc0 => ?_) (fun hWpc0 hWpc1 => ?_) (fun hSpc0 hSpc1 hSpc2 => ?_) (fun hQpc0 hQpc1 hQpr hQpc2 hQpw hQph hQpo => ?_)
  simp only [eL_law_1639, eL_law_1643, eL_law_1648, eL_law_1654, eL_law_1660, eL_law_1663, eL_law_1667, eL_law_1668, kx_l, wt_nil, nl_int, tl_s, Nat.add_zero]
  with_reducible refine gi_W hL hb ?_
  with_reducible refine And.intro ?_ ?_
  with_reducible assumption
  with_reducible refine gi_W hL hb ?_
  with_reducible refine And.intro ?_ ?_
  with_reducible assumption
  with_reducible refine gi_W hL hb ?_
  with_reducible refine And.intro ?_ ?_
  with_reducible assumption
  split
  with_reducible refine And.intro ?_ ?_
  with_reducible refine LW.gz hL (fun _ => trivial)
  with_reducible refine And.intro ?_ ?_
  with_reducible exact absurd (show xs (i + 3).toNatClampNeg = 0 by assumption) (by assumption)
  with_reducible refine And.intro ?_ ?_
  with_reducible exact absurd (show xs (i + 3).toNatClampNeg = 0 by assumption) (by assumption)
  with_reducible refine And.intro ?_ ?_
  with_reducible exact absurd (show xs (i + 3).toNatClampNeg = 0 by assumption) (by assumption)
  with_reducible refine gX3_around (LW.ms hL) (fun v2 t2 w2 m2 => ?_)
  with_reducible exact absurd (show xs (i + 3).toNatClampNeg = 0 by assumption) (by assumption)
  with_reducible refine And.intro ?_ ?_
  with_reducible refine LW.gz hL (fun _ => trivial)
  with_reducible refine And.intro ?_ ?_
  omega
  with_reducible refine And.intro ?_ ?_
  omega
  with_reducible refine And.intro ?_ ?_
  omega
  with_reducible refine gX3_around (LW.ms hL) (fun v2 t2 w2 m2 => ?_)
  simp only [eL_law_1671, kx_l, nl_int, tl_s]
  with_reducible exact next _ _ _ _ _ _ _ _ (LW.ofM hL m2) (by omega) (by omega)
  simp only [eL_law_1639, eL_law_1643, eL_law_1648, eL_law_1654, eL_law_1660, eL_law_1663, eL_law_1667, eL_law_1668, kx_l, wt_nil, nl_int, tl_s, Nat.add_zero]
  with_reducible refine gi_W hL hb ?_
  with_reducible refine And.intro ?_ ?_
  with_reducible assumption
  with_reducible refine gi_W hL hb ?_
  with_reducible refine And.intro ?_ ?_
  with_reducible assumption
  with_reducible refine gi_W hL hb ?_
  with_reducible refine And.intro ?_ ?_
  with_reducible assumption
  split
  with_reducible refine And.intro ?_ ?_
  with_reducible refine LW.gz hL (fun _ => trivial)
  with_reducible refine And.intro ?_ ?_
  with_reducible exact absurd (show xs (i + 3).toNatClampNeg = 0 by assumption) (by assumption)
  with_reducible refine And.intro ?_ ?_
  with_reducible exact absurd (show xs (i + 3).toNatClampNeg = 0 by assumption) (by assumption)
  with_reducible refine And.intro ?_ ?_
  with_reducible exact absurd (show xs (i + 3).toNatClampNeg = 0 by assumption) (by assumption)
  with_reducible refine gX3_around (LW.ms hL) (fun v2 t2 w2 m2 => ?_)
  with_reducible exact absurd (show xs (i + 3).toNatClampNeg = 0 by assumption) (by assumption)
  with_reducible refine And.intro ?_ ?_
  with_reducible refine LW.gz hL (fun _ => trivial)
  with_reducible refine And.intro ?_ ?_
  omega
  with_reducible refine And.intro ?_ ?_
  omega
  with_reducible refine And.intro ?_ ?_
  omega
  with_reducible refine gX3_around (LW.ms hL) (fun v2 t2 w2 m2 => ?_)
  simp only [eL_law_1671, kx_l, nl_int, tl_s]
  with_reducible exact next _ _ _ _ _ _ _ _ (LW.ofM hL m2) (by omega) (by omega)
  simp only [eL_law_1639, eL_law_1643, eL_law_1648, eL_law_1654, eL_law_1660, eL_law_1663, eL_law_1667, eL_law_1668, kx_l, wt_nil, nl_int, tl_s, Nat.add_zero]
  with_reducible refine gi_W hL hb ?_
  with_reducible refine And.intro ?_ ?_
  with_reducible assumption
  with_reducible refine gi_W hL hb ?_
  with_reducible refine And.intro ?_ ?_
  with_reducible assumption
  with_reducible refine gi_W hL hb ?_
  with_reducible refine And.intro ?_ ?_
  with_reducible assumption
  split
  with_reducible refine And.intro ?_ ?_
  with_reducible refine LW.gz hL (fun _ => trivial)
  with_reducible refine And.intro ?_ ?_
  with_reducible exact absurd (show xs (i + 3).toNatClampNeg = 0 by assumption) (by assumption)
  with_reducible refine And.intro ?_ ?_
  with_reducible exact absurd (show xs (i + 3).toNatClampNeg = 0 by assumption) (by assumption)
  with_reducible refine And.intro ?_ ?_
  with_reducible exact absurd (show xs (i + 3).toNatClampNeg = 0 by assumption) (by assumption)
  with_reducible refine gX3_around (LW.ms hL) (fun v2 t2 w2 m2 => ?_)
  with_reducible exact absurd (show xs (i + 3).toNatClampNeg = 0 by assumption) (by assumption)
  with_reducible refine And.intro ?_ ?_
  with_reducible refine LW.gz hL (fun _ => trivial)
  with_reducible refine And.intro ?_ ?_
  omega
  with_reducible refine And.intro ?_ ?_
  omega
  with_reducible refine And.intro ?_ ?_
  omega
  with_reducible refine gX3_around (LW.ms hL) (fun v2 t2 w2 m2 => ?_)
  simp only [eL_law_1671, kx_l, nl_int, tl_s]
  with_reducible exact next _ _ _ _ _ _ _ _ (LW.ofM hL m2) (by omega) (by omega)
  simp only [eL_law_1639, eL_law_1643, eL_law_1648, eL_law_1654, eL_law_1660, eL_law_1663, eL_law_1667, eL_law_1668, kx_l, wt_nil, nl_int, tl_s, Nat.add_zero]
  with_reducible refine gi_W hQph hb ?_
  with_reducible refine And.intro ?_ ?_
  with_reducible assumption
  with_reducible refine gi_W hQph hb ?_
  with_reducible refine And.intro ?_ ?_
  with_reducible assumption
  with_reducible refine gi_W hQph hb ?_
  with_reducible refine And.intro ?_ ?_
  with_reducible assumption
  split
  with_reducible refine And.intro ?_ ?_
  with_reducible refine LW.gz hQph (fun _ => trivial)
  with_reducible refine And.intro ?_ ?_
  with_reducible exact absurd (show xs (i + 3).toNatClampNeg = 0 by assumption) (by assumption)
  with_reducible refine And.intro ?_ ?_
  with_reducible exact absurd (show xs (i + 3).toNatClampNeg = 0 by assumption) (by assumption)
  with_reducible refine And.intro ?_ ?_
  with_reducible exact absurd (show xs (i + 3).toNatClampNeg = 0 by assumption) (by assumption)
  with_reducible refine gX3_around (LW.ms hQph) (fun v2 t2 w2 m2 => ?_)
  with_reducible exact absurd (show xs (i + 3).toNatClampNeg = 0 by assumption) (by assumption)
  with_reducible refine And.intro ?_ ?_
  with_reducible refine LW.gz hQph (fun _ => trivial)
  with_reducible refine And.intro ?_ ?_
  omega
  with_reducible refine And.intro ?_ ?_
  omega
  with_reducible refine And.intro ?_ ?_
  omega
  with_reducible refine gX3_around (LW.ms hQph) (fun v2 t2 w2 m2 => ?_)
  simp only [eL_law_1671, kx_l, nl_int, tl_s]
  with_reducible exact next _ _ _ _ _ _ _ _ (LW.ofM hQph m2) (by omega) (by omega)
set_option maxHeartbeats 4000000 in
theorem cL_31 (hR : RG g) (hb : g.2 b = some (.inl (1, L, .inl xs))) (hL : LW g w x nA cA lA y nM o kn kn th s s) (v1 : vp_in (i + 1) L) (v2 : vp_in (i + 2) L) (v3 : vp_in (i + 3) L) (v4 : vp_in (i + 4) L) (v5 : vp_in (i + 5) L) (hk : k + 114 ≤ 58408) (hn : n + 2834 ≤ 1451408) (next : (∀ (l5' l6' : Option Value) (w' : Hw) (k' n' : Nat) (kn' th' : Int32) (s' : AS), LW g w' x nA cA lA y nM o kn' kn' th' s' s' → k' ≤ k + 114 → n' ≤ n + 2834 → WP (ML_law g) QLaw (2218, [some (.ref b), some (.ref x), some (.ref y), some (.ref o), some (.int i), l5', l6'], [], w', k', n'))) : WP (ML_law g) QLaw (1676, [some (.ref b), some (.ref x), some (.ref y), some (.ref o), some (.int i), l5, l6], [], w, k, n) := by
  simp only [eL_law_1676, eL_law_1683, eL_law_1689, eL_law_1695, wt_nil]
  with_reducible refine gi_W hL hb ?_
  with_reducible refine And.intro ?_ ?_
  with_reducible assumption
  with_reducible refine gi_W hL hb ?_
  with_reducible refine And.intro ?_ ?_
  with_reducible assumption
  with_reducible refine gi_W hL hb ?_
  with_reducible refine And.intro ?_ ?_
  with_reducible assumption
  with_reducible refine And.intro ?_ ?_
  omega
  with_reducible refine And.intro ?_ ?_
  omega
  with_reducible refine And.intro ?_ ?_
  omega
  with_reducible refine gL_count hR hL (fun v1 w1 h1 => ?_)
  simp only [eL_law_1699, eL_law_1703, eL_law_1708, eL_law_1714, eL_law_1720, kx_l, wt_nil, nl_int, tl_s, Nat.add_zero]
  with_reducible refine gi_W h1 hb ?_
  with_reducible refine And.intro ?_ ?_
  with_reducible assumption
  with_reducible refine gi_W h1 hb ?_
  with_reducible refine And.intro ?_ ?_
  with_reducible assumption
  with_reducible refine gi_W h1 hb ?_
  with_reducible refine And.intro ?_ ?_
  with_reducible assumption
  with_reducible refine And.intro ?_ ?_
  with_reducible refine LW.gz h1 (fun _ => trivial)
  with_reducible refine And.intro ?_ ?_
  omega
  with_reducible refine And.intro ?_ ?_
  omega
  with_reducible refine And.intro ?_ ?_
  omega
  with_reducible refine gX3_count (LW.ms h1) (fun v2 t2 w2 m2 => ?_)
  simp only [eL_law_1723, kx_l, nl_int, tl_s]
  with_reducible exact next _ _ _ _ _ _ _ _ (LW.ofM h1 m2) (by omega) (by omega)
set_option maxHeartbeats 4000000 in
theorem cL_32 (hR : RG g) (hb : g.2 b = some (.inl (1, L, .inl xs))) (hL : LW g w x nA cA lA y nM o kn kn th s s) (v1 : vp_in (i + 1) L) (v2 : vp_in (i + 2) L) (v3 : vp_in (i + 3) L) (v4 : vp_in (i + 4) L) (v5 : vp_in (i + 5) L) (hk : k + 114 ≤ 58408) (hn : n + 2834 ≤ 1451408) (next : (∀ (l5' l6' : Option Value) (w' : Hw) (k' n' : Nat) (kn' th' : Int32) (s' : AS), LW g w' x nA cA lA y nM o kn' kn' th' s' s' → k' ≤ k + 114 → n' ≤ n + 2834 → WP (ML_law g) QLaw (2218, [some (.ref b), some (.ref x), some (.ref y), some (.ref o), some (.int i), l5', l6'], [], w', k', n'))) : WP (ML_law g) QLaw (1728, [some (.ref b), some (.ref x), some (.ref y), some (.ref o), some (.int i), l5, l6], [], w, k, n) := by
  simp only [eL_law_1728, eL_law_1735, eL_law_1741, wt_nil]
  with_reducible refine gi_W hL hb ?_
  with_reducible refine And.intro ?_ ?_
  with_reducible assumption
  with_reducible refine gi_W hL hb ?_
  with_reducible refine And.intro ?_ ?_
  with_reducible assumption
  with_reducible refine And.intro ?_ ?_
  omega
  with_reducible refine And.intro ?_ ?_
  omega
  with_reducible refine And.intro ?_ ?_
  omega
  with_reducible refine gL_who hR hL (fun v1 w1 h1 => ?_)
  simp only [eL_law_1745, eL_law_1749, eL_law_1754, eL_law_1760, kx_l, wt_nil, nl_int, tl_s, Nat.add_zero]
  with_reducible refine gi_W h1 hb ?_
  with_reducible refine And.intro ?_ ?_
  with_reducible assumption
  with_reducible refine gi_W h1 hb ?_
  with_reducible refine And.intro ?_ ?_
  with_reducible assumption
  with_reducible refine And.intro ?_ ?_
  with_reducible refine LW.gz h1 (fun _ => trivial)
  with_reducible refine And.intro ?_ ?_
  omega
  with_reducible refine And.intro ?_ ?_
  omega
  with_reducible refine And.intro ?_ ?_
  omega
  with_reducible refine gX3_who (LW.ms h1) (fun v2 t2 w2 m2 => ?_)
  simp only [eL_law_1763, kx_l, nl_int, tl_s]
  with_reducible exact next _ _ _ _ _ _ _ _ (LW.ofM h1 m2) (by omega) (by omega)
set_option maxHeartbeats 4000000 in
theorem cL_33 (hR : RG g) (hb : g.2 b = some (.inl (1, L, .inl xs))) (hL : LW g w x nA cA lA y nM o kn kn th s s) (v1 : vp_in (i + 1) L) (v2 : vp_in (i + 2) L) (v3 : vp_in (i + 3) L) (v4 : vp_in (i + 4) L) (v5 : vp_in (i + 5) L) (hk : k + 114 ≤ 58408) (hn : n + 2834 ≤ 1451408) (next : (∀ (l5' l6' : Option Value) (w' : Hw) (k' n' : Nat) (kn' th' : Int32) (s' : AS), LW g w' x nA cA lA y nM o kn' kn' th' s' s' → k' ≤ k + 114 → n' ≤ n + 2834 → WP (ML_law g) QLaw (2218, [some (.ref b), some (.ref x), some (.ref y), some (.ref o), some (.int i), l5', l6'], [], w', k', n'))) : WP (ML_law g) QLaw (1768, [some (.ref b), some (.ref x), some (.ref y), some (.ref o), some (.int i), l5, l6], [], w, k, n) := by
  simp only [eL_law_1768, eL_law_1775, wt_nil]
  with_reducible refine gi_W hL hb ?_
  with_reducible refine And.intro ?_ ?_
  with_reducible assumption
  with_reducible refine And.intro ?_ ?_
  omega
  with_reducible refine And.intro ?_ ?_
  omega
  with_reducible refine And.intro ?_ ?_
  omega
  with_reducible refine gL_which hR hL (fun v1 w1 h1 => ?_)
  simp only [eL_law_1779, eL_law_1783, eL_law_1788, kx_l, wt_nil, nl_int, tl_s, Nat.add_zero]
  with_reducible refine gi_W h1 hb ?_
  with_reducible refine And.intro ?_ ?_
  with_reducible assumption
  with_reducible refine And.intro ?_ ?_
  with_reducible refine LW.gz h1 (fun _ => trivial)
  with_reducible refine And.intro ?_ ?_
  omega
  with_reducible refine And.intro ?_ ?_
  omega
  with_reducible refine And.intro ?_ ?_
  omega
  with_reducible refine gX3_which (LW.ms h1) (fun v2 t2 w2 m2 => ?_)
  simp only [eL_law_1791, kx_l, nl_int, tl_s]
  with_reducible exact next _ _ _ _ _ _ _ _ (LW.ofM h1 m2) (by omega) (by omega)
set_option maxHeartbeats 4000000 in
theorem cL_34 (hR : RG g) (hb : g.2 b = some (.inl (1, L, .inl xs))) (hL : LW g w x nA cA lA y nM o kn kn th s s) (v1 : vp_in (i + 1) L) (v2 : vp_in (i + 2) L) (v3 : vp_in (i + 3) L) (v4 : vp_in (i + 4) L) (v5 : vp_in (i + 5) L) (hk : k + 114 ≤ 58408) (hn : n + 2834 ≤ 1451408) (next : (∀ (l5' l6' : Option Value) (w' : Hw) (k' n' : Nat) (kn' th' : Int32) (s' : AS), LW g w' x nA cA lA y nM o kn' kn' th' s' s' → k' ≤ k + 114 → n' ≤ n + 2834 → WP (ML_law g) QLaw (2218, [some (.ref b), some (.ref x), some (.ref y), some (.ref o), some (.int i), l5', l6'], [], w', k', n'))) : WP (ML_law g) QLaw (1796, [some (.ref b), some (.ref x), some (.ref y), some (.ref o), some (.int i), l5, l6], [], w, k, n) := by
  simp only [eL_law_1796, eL_law_1803, eL_law_1809, wt_nil]
  with_reducible refine gi_W hL hb ?_
  with_reducible refine And.intro ?_ ?_
  with_reducible assumption
  with_reducible refine gi_W hL hb ?_
  with_reducible refine And.intro ?_ ?_
  with_reducible assumption
  with_reducible refine And.intro ?_ ?_
  omega
  with_reducible refine And.intro ?_ ?_
  omega
  with_reducible refine And.intro ?_ ?_
  omega
  with_reducible refine fL_areSame hL (fun hXpc0 => ?_) (fun hSpc0 hSpc1 hSpc2 => ?_) (fun hTpc0 hTpc1 hTpr hTpq hTpc2 hTpc3 hTpc4 hTpw hTph hTpo => ?_) (fun hFpc0 hFpc1 hFpr hFpq hFpc2 hFpc3 hFpc4 hFpw hFph hFpo => ?_)
  simp only [eL_law_1813, eL_law_1817, eL_law_1822, eL_law_1828, kx_l, wt_nil, nl_int, tl_s, Nat.add_zero]
  with_reducible refine gi_W hL hb ?_
  with_reducible refine And.intro ?_ ?_
  with_reducible assumption
  with_reducible refine gi_W hL hb ?_
  with_reducible refine And.intro ?_ ?_
  with_reducible assumption
  with_reducible refine And.intro ?_ ?_
  with_reducible refine LW.gz hL (fun _ => trivial)
  with_reducible refine And.intro ?_ ?_
  omega
  with_reducible refine And.intro ?_ ?_
  omega
  with_reducible refine And.intro ?_ ?_
  omega
  with_reducible refine fX3_areSame (LW.ms hL) (fun hXqc0 hXqw hXqh => ?_) (fun hSqc0 hSqc1 hSqc2 hSqw hSqh => ?_) (fun hTqc0 hTqc1 hTqr hTqq hTqc2 hTqc3 hTqc4 hTqw hTqh => ?_) (fun hFqc0 hFqc1 hFqr hFqq hFqc2 hFqc3 hFqc4 hFqw hFqh => ?_)
  simp only [eL_law_1831, kx_l, nl_int, tl_s]
  with_reducible exact next _ _ _ _ _ _ _ _ (LW.ofM hL hXqh) (by omega) (by omega)
  with_reducible exact absurd (And.intro hSqc0 hSqc1) hXpc0
  with_reducible exact absurd (And.intro hTqc0 hTqc1) hXpc0
  with_reducible exact absurd (And.intro hFqc0 hFqc1) hXpc0
  simp only [eL_law_1813, eL_law_1817, eL_law_1822, eL_law_1828, kx_l, wt_nil, nl_int, tl_s, Nat.add_zero]
  with_reducible refine gi_W hL hb ?_
  with_reducible refine And.intro ?_ ?_
  with_reducible assumption
  with_reducible refine gi_W hL hb ?_
  with_reducible refine And.intro ?_ ?_
  with_reducible assumption
  with_reducible refine And.intro ?_ ?_
  with_reducible refine LW.gz hL (fun _ => trivial)
  with_reducible refine And.intro ?_ ?_
  omega
  with_reducible refine And.intro ?_ ?_
  omega
  with_reducible refine And.intro ?_ ?_
  omega
  with_reducible refine fX3_areSame (LW.ms hL) (fun hXqc0 hXqw hXqh => ?_) (fun hSqc0 hSqc1 hSqc2 hSqw hSqh => ?_) (fun hTqc0 hTqc1 hTqr hTqq hTqc2 hTqc3 hTqc4 hTqw hTqh => ?_) (fun hFqc0 hFqc1 hFqr hFqq hFqc2 hFqc3 hFqc4 hFqw hFqh => ?_)
  with_reducible exact absurd (And.intro hSpc0 hSpc1) hXqc0
  simp only [eL_law_1831, kx_l, nl_int, tl_s]
  with_reducible exact next _ _ _ _ _ _ _ _ (LW.ofM hL hSqh) (by omega) (by omega)
  with_reducible exact (hSpc2.elim (fun e => nsC e hTqc2) (fun e => nsC e hTqc3)).elim
  with_reducible exact (hSpc2.elim (fun e => nsC e hFqc2) (fun e => nsC e hFqc3)).elim
  simp only [eL_law_1813, eL_law_1817, eL_law_1822, eL_law_1828, kx_l, wt_nil, nl_int, tl_s, Nat.add_zero]
  with_reducible refine gi_W hTph hb ?_
  with_reducible refine And.intro ?_ ?_
  with_reducible assumption
  with_reducible refine gi_W hTph hb ?_
  with_reducible refine And.intro ?_ ?_
  with_reducible assumption
  with_reducible refine And.intro ?_ ?_
  with_reducible refine LW.gz hTph (fun _ => trivial)
  with_reducible refine And.intro ?_ ?_
  omega
  with_reducible refine And.intro ?_ ?_
  omega
  with_reducible refine And.intro ?_ ?_
  omega
  with_reducible refine fX3_areSame (LW.ms hTph) (fun hXqc0 hXqw hXqh => ?_) (fun hSqc0 hSqc1 hSqc2 hSqw hSqh => ?_) (fun hTqc0 hTqc1 hTqr hTqq hTqc2 hTqc3 hTqc4 hTqw hTqh => ?_) (fun hFqc0 hFqc1 hFqr hFqq hFqc2 hFqc3 hFqc4 hFqw hFqh => ?_)
  with_reducible exact absurd (And.intro hTpc0 hTpc1) hXqc0
  with_reducible exact (hSqc2.elim (fun e => nsC e hTpc2) (fun e => nsC e hTpc3)).elim
  cases Option.some.inj (hTpc2.symm.trans hTqc2); clear hTqc2
  cases Option.some.inj (hTpc3.symm.trans hTqc3); clear hTqc3
  simp only [eL_law_1831, kx_l, nl_int, tl_s]
  with_reducible exact next _ _ _ _ _ _ _ _ (LW.ofM hTph hTqh) (by omega) (by omega)
  cases Option.some.inj (hTpc2.symm.trans hFqc2); clear hFqc2
  cases Option.some.inj (hTpc3.symm.trans hFqc3); clear hFqc3
  with_reducible exact absurd hTpc4 hFqc4
  simp only [eL_law_1813, eL_law_1817, eL_law_1822, eL_law_1828, kx_l, wt_nil, nl_int, tl_s, Nat.add_zero]
  with_reducible refine gi_W hFph hb ?_
  with_reducible refine And.intro ?_ ?_
  with_reducible assumption
  with_reducible refine gi_W hFph hb ?_
  with_reducible refine And.intro ?_ ?_
  with_reducible assumption
  with_reducible refine And.intro ?_ ?_
  with_reducible refine LW.gz hFph (fun _ => trivial)
  with_reducible refine And.intro ?_ ?_
  omega
  with_reducible refine And.intro ?_ ?_
  omega
  with_reducible refine And.intro ?_ ?_
  omega
  with_reducible refine fX3_areSame (LW.ms hFph) (fun hXqc0 hXqw hXqh => ?_) (fun hSqc0 hSqc1 hSqc2 hSqw hSqh => ?_) (fun hTqc0 hTqc1 hTqr hTqq hTqc2 hTqc3 hTqc4 hTqw hTqh => ?_) (fun hFqc0 hFqc1 hFqr hFqq hFqc2 hFqc3 hFqc4 hFqw hFqh => ?_)
  with_reducible exact absurd (And.intro hFpc0 hFpc1) hXqc0
  with_reducible exact (hSqc2.elim (fun e => nsC e hFpc2) (fun e => nsC e hFpc3)).elim
  cases Option.some.inj (hFpc2.symm.trans hTqc2); clear hTqc2
  cases Option.some.inj (hFpc3.symm.trans hTqc3); clear hTqc3
  with_reducible exact absurd hTqc4 hFpc4
  cases Option.some.inj (hFpc2.symm.trans hFqc2); clear hFqc2
  cases Option.some.inj (hFpc3.symm.trans hFqc3); clear hFqc3
  simp only [eL_law_1831, kx_l, nl_int, tl_s]
  with_reducible exact next _ _ _ _ _ _ _ _ (LW.ofM hFph hFqh) (by omega) (by omega)
set_option maxHeartbeats 4000000 in
theorem cL_35 (hR : RG g) (hb : g.2 b = some (.inl (1, L, .inl xs))) (hL : LW g w x nA cA lA y nM o kn kn th s s) (v1 : vp_in (i + 1) L) (v2 : vp_in (i + 2) L) (v3 : vp_in (i + 3) L) (v4 : vp_in (i + 4) L) (v5 : vp_in (i + 5) L) (hk : k + 114 ≤ 58408) (hn : n + 2834 ≤ 1451408) (next : (∀ (l5' l6' : Option Value) (w' : Hw) (k' n' : Nat) (kn' th' : Int32) (s' : AS), LW g w' x nA cA lA y nM o kn' kn' th' s' s' → k' ≤ k + 114 → n' ≤ n + 2834 → WP (ML_law g) QLaw (2218, [some (.ref b), some (.ref x), some (.ref y), some (.ref o), some (.int i), l5', l6'], [], w', k', n'))) : WP (ML_law g) QLaw (1836, [some (.ref b), some (.ref x), some (.ref y), some (.ref o), some (.int i), l5, l6], [], w, k, n) := by
  simp only [eL_law_1836, eL_law_1843, eL_law_1849, wt_nil]
  with_reducible refine gi_W hL hb ?_
  with_reducible refine And.intro ?_ ?_
  with_reducible assumption
  with_reducible refine gi_W hL hb ?_
  with_reducible refine And.intro ?_ ?_
  with_reducible assumption
  with_reducible refine And.intro ?_ ?_
  omega
  with_reducible refine And.intro ?_ ?_
  omega
  with_reducible refine And.intro ?_ ?_
  omega
  with_reducible refine gL_isSameAs hR hL (fun v1 w1 h1 => ?_)
  simp only [eL_law_1853, eL_law_1857, eL_law_1862, eL_law_1868, kx_l, wt_nil, nl_int, tl_s, Nat.add_zero]
  with_reducible refine gi_W h1 hb ?_
  with_reducible refine And.intro ?_ ?_
  with_reducible assumption
  with_reducible refine gi_W h1 hb ?_
  with_reducible refine And.intro ?_ ?_
  with_reducible assumption
  with_reducible refine And.intro ?_ ?_
  with_reducible refine LW.gz h1 (fun _ => trivial)
  with_reducible refine And.intro ?_ ?_
  omega
  with_reducible refine And.intro ?_ ?_
  omega
  with_reducible refine And.intro ?_ ?_
  omega
  with_reducible refine gX3_isSameAs (LW.ms h1) (fun v2 t2 w2 m2 => ?_)
  simp only [eL_law_1871, kx_l, nl_int, tl_s]
  with_reducible exact next _ _ _ _ _ _ _ _ (LW.ofM h1 m2) (by omega) (by omega)
end
end
/-! 79.cw3.lean.txt -/
section
section
variable {g : RO} {w : Hw} {x nA cA lA y nM o b L k n : Nat} {xs : Nat → Int32} {i kn th : Int32} {s : AS} {l5 l6 : Option Value}
set_option maxHeartbeats 4000000 in
theorem cL_36 (hR : RG g) (hb : g.2 b = some (.inl (1, L, .inl xs))) (hL : LW g w x nA cA lA y nM o kn kn th s s) (v1 : vp_in (i + 1) L) (v2 : vp_in (i + 2) L) (v3 : vp_in (i + 3) L) (v4 : vp_in (i + 4) L) (v5 : vp_in (i + 5) L) (hk : k + 114 ≤ 58408) (hn : n + 2834 ≤ 1451408) (next : (∀ (l5' l6' : Option Value) (w' : Hw) (k' n' : Nat) (kn' th' : Int32) (s' : AS), LW g w' x nA cA lA y nM o kn' kn' th' s' s' → k' ≤ k + 114 → n' ≤ n + 2834 → WP (ML_law g) QLaw (2218, [some (.ref b), some (.ref x), some (.ref y), some (.ref o), some (.int i), l5', l6'], [], w', k', n'))) : WP (ML_law g) QLaw (1876, [some (.ref b), some (.ref x), some (.ref y), some (.ref o), some (.int i), l5, l6], [], w, k, n) := by
  simp only [eL_law_1876, eL_law_1883, wt_nil]
  with_reducible refine gi_W hL hb ?_
  with_reducible refine And.intro ?_ ?_
  with_reducible assumption
  with_reducible refine And.intro ?_ ?_
  omega
  with_reducible refine And.intro ?_ ?_
  omega
  with_reducible refine And.intro ?_ ?_
  omega
  with_reducible refine gL_likes hR hL (fun v1 w1 h1 => ?_)
  simp only [eL_law_1887, eL_law_1891, eL_law_1896, kx_l, wt_nil, nl_int, tl_s, Nat.add_zero]
  with_reducible refine gi_W h1 hb ?_
  with_reducible refine And.intro ?_ ?_
  with_reducible assumption
  with_reducible refine And.intro ?_ ?_
  with_reducible refine LW.gz h1 (fun _ => trivial)
  with_reducible refine And.intro ?_ ?_
  omega
  with_reducible refine And.intro ?_ ?_
  omega
  with_reducible refine And.intro ?_ ?_
  omega
  with_reducible refine gX3_likes (LW.ms h1) (fun v2 t2 w2 m2 => ?_)
  simp only [eL_law_1899, kx_l, nl_int, tl_s]
  with_reducible exact next _ _ _ _ _ _ _ _ (LW.ofM h1 m2) (by omega) (by omega)
set_option maxHeartbeats 4000000 in
theorem cL_37 (hR : RG g) (hb : g.2 b = some (.inl (1, L, .inl xs))) (hL : LW g w x nA cA lA y nM o kn kn th s s) (v1 : vp_in (i + 1) L) (v2 : vp_in (i + 2) L) (v3 : vp_in (i + 3) L) (v4 : vp_in (i + 4) L) (v5 : vp_in (i + 5) L) (hk : k + 114 ≤ 58408) (hn : n + 2834 ≤ 1451408) (next : (∀ (l5' l6' : Option Value) (w' : Hw) (k' n' : Nat) (kn' th' : Int32) (s' : AS), LW g w' x nA cA lA y nM o kn' kn' th' s' s' → k' ≤ k + 114 → n' ≤ n + 2834 → WP (ML_law g) QLaw (2218, [some (.ref b), some (.ref x), some (.ref y), some (.ref o), some (.int i), l5', l6'], [], w', k', n'))) : WP (ML_law g) QLaw (1904, [some (.ref b), some (.ref x), some (.ref y), some (.ref o), some (.int i), l5, l6], [], w, k, n) := by
  simp only [eL_law_1904, eL_law_1911, wt_nil]
  with_reducible refine gi_W hL hb ?_
  with_reducible refine And.intro ?_ ?_
  with_reducible assumption
  with_reducible refine And.intro ?_ ?_
  omega
  with_reducible refine And.intro ?_ ?_
  omega
  with_reducible refine And.intro ?_ ?_
  omega
  with_reducible refine fL_lay hL (fun hXpc0 => ?_) (fun hSpc0 hSpc1 => ?_) (fun hFpc0 hFpr hFpc1 hFpc2 hFpw hFph hFpo => ?_) (fun hQpc0 hQpr hQpc1 hQpc2 hQpw hQph hQpo => ?_)
  simp only [eL_law_1915, eL_law_1919, eL_law_1924, kx_l, wt_nil, nl_int, tl_s]
  with_reducible refine gi_W hL hb ?_
  with_reducible refine And.intro ?_ ?_
  with_reducible assumption
  with_reducible refine And.intro ?_ ?_
  with_reducible refine LW.gz hL (fun _ => trivial)
  with_reducible refine And.intro ?_ ?_
  omega
  with_reducible refine And.intro ?_ ?_
  omega
  with_reducible refine And.intro ?_ ?_
  omega
  with_reducible refine fX3_lay (LW.ms hL) (hR.eg (LW.ro hL)) hR.sg (fun hXqc0 hXqw hXqh => ?_) (fun hSqc0 hSqc1 hSqw hSqh => ?_) (fun hFqc0 hFqr hFqc1 hFqc2 hFqw hFqh => ?_) (fun hQqc0 hQqr hQqc1 hQqc2 hQqw hQqh => ?_)
  simp only [eL_law_1927, kx_l, nl_int, tl_s]
  with_reducible exact next _ _ _ _ _ _ _ _ (LW.ofM hL hXqh) (by omega) (by omega)
  with_reducible exact absurd hSqc0 hXpc0
  with_reducible exact absurd hFqc0 hXpc0
  with_reducible exact absurd hQqc0 hXpc0
  simp only [eL_law_1915, eL_law_1919, eL_law_1924, kx_l, wt_nil, nl_int, tl_s]
  with_reducible refine gi_W hL hb ?_
  with_reducible refine And.intro ?_ ?_
  with_reducible assumption
  with_reducible refine And.intro ?_ ?_
  with_reducible refine LW.gz hL (fun _ => trivial)
  with_reducible refine And.intro ?_ ?_
  omega
  with_reducible refine And.intro ?_ ?_
  omega
  with_reducible refine And.intro ?_ ?_
  omega
  with_reducible refine fX3_lay (LW.ms hL) (hR.eg (LW.ro hL)) hR.sg (fun hXqc0 hXqw hXqh => ?_) (fun hSqc0 hSqc1 hSqw hSqh => ?_) (fun hFqc0 hFqr hFqc1 hFqc2 hFqw hFqh => ?_) (fun hQqc0 hQqr hQqc1 hQqc2 hQqw hQqh => ?_)
  with_reducible exact absurd hSpc0 hXqc0
  simp only [eL_law_1927, kx_l, nl_int, tl_s]
  with_reducible exact next _ _ _ _ _ _ _ _ (LW.ofM hL hSqh) (by omega) (by omega)
  with_reducible exact (nsC hSpc1 hFqc1).elim
  with_reducible exact (nsC hSpc1 hQqc1).elim
  simp only [eL_law_1915, eL_law_1919, eL_law_1924, kx_l, wt_nil, nl_int, tl_s]
  with_reducible refine gi_W hFph hb ?_
  with_reducible refine And.intro ?_ ?_
  with_reducible assumption
  with_reducible refine And.intro ?_ ?_
  with_reducible refine LW.gz hFph (fun _ => trivial)
  with_reducible refine And.intro ?_ ?_
  omega
  with_reducible refine And.intro ?_ ?_
  omega
  with_reducible refine And.intro ?_ ?_
  omega
  with_reducible refine fX3_lay (LW.ms hFph) (hR.eg (LW.ro hFph)) hR.sg (fun hXqc0 hXqw hXqh => ?_) (fun hSqc0 hSqc1 hSqw hSqh => ?_) (fun hFqc0 hFqr hFqc1 hFqc2 hFqw hFqh => ?_) (fun hQqc0 hQqr hQqc1 hQqc2 hQqw hQqh => ?_)
  with_reducible exact absurd hFpc0 hXqc0
  with_reducible exact (nsC hSqc1 hFpc1).elim
  cases Option.some.inj (hFpc1.symm.trans hFqc1); clear hFqc1
  simp only [eL_law_1927, kx_l, nl_int, tl_s]
  with_reducible exact next _ _ _ _ _ _ _ _ (LW.ofM hFph hFqh) (by omega) (by omega)
  cases Option.some.inj (hFpc1.symm.trans hQqc1); clear hQqc1
  with_reducible exact absurd hQqc2 hFpc2
  simp only [eL_law_1915, eL_law_1919, eL_law_1924, kx_l, wt_nil, nl_int, tl_s]
  with_reducible refine gi_W hQph hb ?_
  with_reducible refine And.intro ?_ ?_
  with_reducible assumption
  with_reducible refine And.intro ?_ ?_
  with_reducible refine LW.gz hQph (fun _ => trivial)
  with_reducible refine And.intro ?_ ?_
  omega
  with_reducible refine And.intro ?_ ?_
  omega
  with_reducible refine And.intro ?_ ?_
  omega
  with_reducible refine fX3_lay (LW.ms hQph) (hR.eg (LW.ro hQph)) hR.sg (fun hXqc0 hXqw hXqh => ?_) (fun hSqc0 hSqc1 hSqw hSqh => ?_) (fun hFqc0 hFqr hFqc1 hFqc2 hFqw hFqh => ?_) (fun hQqc0 hQqr hQqc1 hQqc2 hQqw hQqh => ?_)
  with_reducible exact absurd hQpc0 hXqc0
  with_reducible exact (nsC hSqc1 hQpc1).elim
  cases Option.some.inj (hQpc1.symm.trans hFqc1); clear hFqc1
  with_reducible exact absurd hQpc2 hFqc2
  cases Option.some.inj (hQpc1.symm.trans hQqc1); clear hQqc1
  simp only [eL_law_1927, kx_l, nl_int, tl_s]
  with_reducible exact next _ _ _ _ _ _ _ _ (LW.ofM hQph hQqh) (by omega) (by omega)
set_option maxHeartbeats 4000000 in
theorem cL_38 (hR : RG g) (hb : g.2 b = some (.inl (1, L, .inl xs))) (hL : LW g w x nA cA lA y nM o kn kn th s s) (v1 : vp_in (i + 1) L) (v2 : vp_in (i + 2) L) (v3 : vp_in (i + 3) L) (v4 : vp_in (i + 4) L) (v5 : vp_in (i + 5) L) (hk : k + 114 ≤ 58408) (hn : n + 2834 ≤ 1451408) (next : (∀ (l5' l6' : Option Value) (w' : Hw) (k' n' : Nat) (kn' th' : Int32) (s' : AS), LW g w' x nA cA lA y nM o kn' kn' th' s' s' → k' ≤ k + 114 → n' ≤ n + 2834 → WP (ML_law g) QLaw (2218, [some (.ref b), some (.ref x), some (.ref y), some (.ref o), some (.int i), l5', l6'], [], w', k', n'))) : WP (ML_law g) QLaw (1932, [some (.ref b), some (.ref x), some (.ref y), some (.ref o), some (.int i), l5, l6], [], w, k, n) := by
  simp only [eL_law_1932, eL_law_1939, eL_law_1945, eL_law_1948, eL_law_1952, eL_law_1953, wt_nil]
  with_reducible refine gi_W hL hb ?_
  with_reducible refine And.intro ?_ ?_
  with_reducible assumption
  with_reducible refine gi_W hL hb ?_
  with_reducible refine And.intro ?_ ?_
  with_reducible assumption
  split
  with_reducible refine And.intro ?_ ?_
  omega
  with_reducible refine And.intro ?_ ?_
  omega
  with_reducible refine And.intro ?_ ?_
  omega
  with_reducible refine fL_seek hL (fun hXpc0 => ?_) (fun hSpc0 hSpc1 => ?_) (fun hNpc0 hNpr hNpc1 hNpc2 hNpw hNph hNpo => ?_) (fun hFpc0 hFpc1 hFpr hFpc2 hFpi hFpc3 hFpc4 hFpc5 hFpw hFph hFpo => ?_) (fun hLLpc0 hLLpc1 hLLpr hLLpc2 hLLpi hLLpc3 hLLpc4 hLLpc5 hLLpw hLLph hLLpo => ?_)
  simp only [eL_law_1957, eL_law_1961, eL_law_1966, eL_law_1972, eL_law_1975, eL_law_1979, eL_law_1980, kx_l, wt_nil, nl_int, tl_s, Nat.add_zero]
  with_reducible refine gi_W hL hb ?_
  with_reducible refine And.intro ?_ ?_
  with_reducible assumption
  with_reducible refine gi_W hL hb ?_
  with_reducible refine And.intro ?_ ?_
  with_reducible assumption
  split
  with_reducible refine And.intro ?_ ?_
  with_reducible refine LW.gz hL (fun _ => trivial)
  with_reducible refine And.intro ?_ ?_
  omega
  with_reducible refine And.intro ?_ ?_
  omega
  with_reducible refine And.intro ?_ ?_
  omega
  with_reducible refine fX3_seek (LW.ms hL) (fun hXqc0 hXqw hXqh => ?_) (fun hSqc0 hSqc1 hSqw hSqh => ?_) (fun hQqc0 hQqr hQqc1 hQqw hQqh => ?_)
  simp only [eL_law_1983, kx_l, nl_int, tl_s]
  with_reducible exact next _ _ _ _ _ _ _ _ (LW.ofM hL hXqh) (by omega) (by omega)
  with_reducible exact absurd hSqc0 hXpc0
  with_reducible exact absurd hQqc0 hXpc0
  with_reducible refine And.intro ?_ ?_
  with_reducible refine LW.gz hL (fun _ => trivial)
  with_reducible refine And.intro ?_ ?_
  with_reducible exact absurd (show xs (i + 2).toNatClampNeg = 0 by assumption) (by assumption)
  with_reducible refine And.intro ?_ ?_
  with_reducible exact absurd (show xs (i + 2).toNatClampNeg = 0 by assumption) (by assumption)
  with_reducible refine And.intro ?_ ?_
  with_reducible exact absurd (show xs (i + 2).toNatClampNeg = 0 by assumption) (by assumption)
  with_reducible refine fX3_seek (LW.ms hL) (fun hXqc0 hXqw hXqh => ?_) (fun hSqc0 hSqc1 hSqw hSqh => ?_) (fun hQqc0 hQqr hQqc1 hQqw hQqh => ?_)
  with_reducible exact absurd (show xs (i + 2).toNatClampNeg = 0 by assumption) (by assumption)
  with_reducible exact absurd hSqc0 hXpc0
  with_reducible exact absurd hQqc0 hXpc0
  simp only [eL_law_1957, eL_law_1961, eL_law_1966, eL_law_1972, eL_law_1975, eL_law_1979, eL_law_1980, kx_l, wt_nil, nl_int, tl_s, Nat.add_zero]
  with_reducible refine gi_W hL hb ?_
  with_reducible refine And.intro ?_ ?_
  with_reducible assumption
  with_reducible refine gi_W hL hb ?_
  with_reducible refine And.intro ?_ ?_
  with_reducible assumption
  split
  with_reducible refine And.intro ?_ ?_
  with_reducible refine LW.gz hL (fun _ => trivial)
  with_reducible refine And.intro ?_ ?_
  omega
  with_reducible refine And.intro ?_ ?_
  omega
  with_reducible refine And.intro ?_ ?_
  omega
  with_reducible refine fX3_seek (LW.ms hL) (fun hXqc0 hXqw hXqh => ?_) (fun hSqc0 hSqc1 hSqw hSqh => ?_) (fun hQqc0 hQqr hQqc1 hQqw hQqh => ?_)
  with_reducible exact absurd hSpc0 hXqc0
  simp only [eL_law_1983, kx_l, nl_int, tl_s]
  with_reducible exact next _ _ _ _ _ _ _ _ (LW.ofM hL hSqh) (by omega) (by omega)
  with_reducible exact (nsC hSpc1 hQqc1).elim
  with_reducible refine And.intro ?_ ?_
  with_reducible refine LW.gz hL (fun _ => trivial)
  with_reducible refine And.intro ?_ ?_
  with_reducible exact absurd (show xs (i + 2).toNatClampNeg = 0 by assumption) (by assumption)
  with_reducible refine And.intro ?_ ?_
  with_reducible exact absurd (show xs (i + 2).toNatClampNeg = 0 by assumption) (by assumption)
  with_reducible refine And.intro ?_ ?_
  with_reducible exact absurd (show xs (i + 2).toNatClampNeg = 0 by assumption) (by assumption)
  with_reducible refine fX3_seek (LW.ms hL) (fun hXqc0 hXqw hXqh => ?_) (fun hSqc0 hSqc1 hSqw hSqh => ?_) (fun hQqc0 hQqr hQqc1 hQqw hQqh => ?_)
  with_reducible exact absurd hSpc0 hXqc0
  with_reducible exact absurd (show xs (i + 2).toNatClampNeg = 0 by assumption) (by assumption)
  with_reducible exact (nsC hSpc1 hQqc1).elim
  simp only [eL_law_1957, eL_law_1961, eL_law_1966, eL_law_1972, eL_law_1975, eL_law_1979, eL_law_1980, kx_l, wt_nil, nl_int, tl_s, Nat.add_zero]
  with_reducible refine gi_W hNph hb ?_
  with_reducible refine And.intro ?_ ?_
  with_reducible assumption
  with_reducible refine gi_W hNph hb ?_
  with_reducible refine And.intro ?_ ?_
  with_reducible assumption
  split
  with_reducible refine And.intro ?_ ?_
  with_reducible refine LW.gz hNph (fun _ => trivial)
  with_reducible refine And.intro ?_ ?_
  omega
  with_reducible refine And.intro ?_ ?_
  omega
  with_reducible refine And.intro ?_ ?_
  omega
  with_reducible refine fX3_seek (LW.ms hNph) (fun hXqc0 hXqw hXqh => ?_) (fun hSqc0 hSqc1 hSqw hSqh => ?_) (fun hQqc0 hQqr hQqc1 hQqw hQqh => ?_)
  with_reducible exact absurd hNpc0 hXqc0
  with_reducible exact (nsC hSqc1 hNpc1).elim
  cases Option.some.inj (hNpc1.symm.trans hQqc1); clear hQqc1
  simp only [eL_law_1983, kx_l, nl_int, tl_s]
  with_reducible exact next _ _ _ _ _ _ _ _ (LW.ofM hNph hQqh) (by omega) (by omega)
  with_reducible refine And.intro ?_ ?_
  with_reducible refine LW.gz hNph (fun _ => trivial)
  with_reducible refine And.intro ?_ ?_
  with_reducible exact absurd (show xs (i + 2).toNatClampNeg = 0 by assumption) (by assumption)
  with_reducible refine And.intro ?_ ?_
  with_reducible exact absurd (show xs (i + 2).toNatClampNeg = 0 by assumption) (by assumption)
  with_reducible refine And.intro ?_ ?_
  with_reducible exact absurd (show xs (i + 2).toNatClampNeg = 0 by assumption) (by assumption)
  with_reducible refine fX3_seek (LW.ms hNph) (fun hXqc0 hXqw hXqh => ?_) (fun hSqc0 hSqc1 hSqw hSqh => ?_) (fun hQqc0 hQqr hQqc1 hQqw hQqh => ?_)
  with_reducible exact absurd hNpc0 hXqc0
  with_reducible exact (nsC hSqc1 hNpc1).elim
  cases Option.some.inj (hNpc1.symm.trans hQqc1); clear hQqc1
  with_reducible exact absurd (show xs (i + 2).toNatClampNeg = 0 by assumption) (by assumption)
  simp only [eL_law_1957, eL_law_1961, eL_law_1966, eL_law_1972, eL_law_1975, eL_law_1979, eL_law_1980, kx_l, wt_nil, nl_int, tl_s, Nat.add_zero]
  with_reducible refine gi_W hFph hb ?_
  with_reducible refine And.intro ?_ ?_
  with_reducible assumption
  with_reducible refine gi_W hFph hb ?_
  with_reducible refine And.intro ?_ ?_
  with_reducible assumption
  split
  with_reducible refine And.intro ?_ ?_
  with_reducible refine LW.gz hFph (fun _ => trivial)
  with_reducible refine And.intro ?_ ?_
  omega
  with_reducible refine And.intro ?_ ?_
  omega
  with_reducible refine And.intro ?_ ?_
  omega
  with_reducible refine fX3_seek (LW.ms hFph) (fun hXqc0 hXqw hXqh => ?_) (fun hSqc0 hSqc1 hSqw hSqh => ?_) (fun hQqc0 hQqr hQqc1 hQqw hQqh => ?_)
  with_reducible exact absurd hFpc1 hXqc0
  with_reducible exact (nsC hSqc1 hFpc2).elim
  cases Option.some.inj (hFpc2.symm.trans hQqc1); clear hQqc1
  simp only [eL_law_1983, kx_l, nl_int, tl_s]
  with_reducible exact next _ _ _ _ _ _ _ _ (LW.ofM hFph hQqh) (by omega) (by omega)
  with_reducible refine And.intro ?_ ?_
  with_reducible refine LW.gz hFph (fun _ => trivial)
  with_reducible refine And.intro ?_ ?_
  with_reducible exact absurd (show xs (i + 2).toNatClampNeg = 0 by assumption) (by assumption)
  with_reducible refine And.intro ?_ ?_
  with_reducible exact absurd (show xs (i + 2).toNatClampNeg = 0 by assumption) (by assumption)
  with_reducible refine And.intro ?_ ?_
  with_reducible exact absurd (show xs (i + 2).toNatClampNeg = 0 by assumption) (by assumption)
  with_reducible refine fX3_seek (LW.ms hFph) (fun hXqc0 hXqw hXqh => ?_) (fun hSqc0 hSqc1 hSqw hSqh => ?_) (fun hQqc0 hQqr hQqc1 hQqw hQqh => ?_)
  with_reducible exact absurd hFpc1 hXqc0
  with_reducible exact (nsC hSqc1 hFpc2).elim
  cases Option.some.inj (hFpc2.symm.trans hQqc1); clear hQqc1
  with_reducible exact absurd (show xs (i + 2).toNatClampNeg = 0 by assumption) (by assumption)
  simp only [eL_law_1957, eL_law_1961, eL_law_1966, eL_law_1972, eL_law_1975, eL_law_1979, eL_law_1980, kx_l, wt_nil, nl_int, tl_s, Nat.add_zero]
  with_reducible refine gi_W hLLph hb ?_
  with_reducible refine And.intro ?_ ?_
  with_reducible assumption
  with_reducible refine gi_W hLLph hb ?_
  with_reducible refine And.intro ?_ ?_
  with_reducible assumption
  split
  with_reducible refine And.intro ?_ ?_
  with_reducible refine LW.gz hLLph (fun _ => trivial)
  with_reducible refine And.intro ?_ ?_
  omega
  with_reducible refine And.intro ?_ ?_
  omega
  with_reducible refine And.intro ?_ ?_
  omega
  with_reducible refine fX3_seek (LW.ms hLLph) (fun hXqc0 hXqw hXqh => ?_) (fun hSqc0 hSqc1 hSqw hSqh => ?_) (fun hQqc0 hQqr hQqc1 hQqw hQqh => ?_)
  with_reducible exact absurd hLLpc1 hXqc0
  with_reducible exact (nsC hSqc1 hLLpc2).elim
  cases Option.some.inj (hLLpc2.symm.trans hQqc1); clear hQqc1
  simp only [eL_law_1983, kx_l, nl_int, tl_s]
  with_reducible exact next _ _ _ _ _ _ _ _ (LW.ofM hLLph hQqh) (by omega) (by omega)
  with_reducible refine And.intro ?_ ?_
  with_reducible refine LW.gz hLLph (fun _ => trivial)
  with_reducible refine And.intro ?_ ?_
  with_reducible exact absurd (show xs (i + 2).toNatClampNeg = 0 by assumption) (by assumption)
  with_reducible refine And.intro ?_ ?_
  with_reducible exact absurd (show xs (i + 2).toNatClampNeg = 0 by assumption) (by assumption)
  with_reducible refine And.intro ?_ ?_
  with_reducible exact absurd (show xs (i + 2).toNatClampNeg = 0 by assumption) (by assumption)
  with_reducible refine fX3_seek (LW.ms hLLph) (fun hXqc0 hXqw hXqh => ?_) (fun hSqc0 hSqc1 hSqw hSqh => ?_) (fun hQqc0 hQqr hQqc1 hQqw hQqh => ?_)
  with_reducible exact absurd hLLpc1 hXqc0
  with_reducible exact (nsC hSqc1 hLLpc2).elim
  cases Option.some.inj (hLLpc2.symm.trans hQqc1); clear hQqc1
  with_reducible exact absurd (show xs (i + 2).toNatClampNeg = 0 by assumption) (by assumption)
  with_reducible refine And.intro ?_ ?_
  omega
  with_reducible refine And.intro ?_ ?_
  omega
  with_reducible refine And.intro ?_ ?_
  omega
  with_reducible refine fL_seek hL (fun hXpc0 => ?_) (fun hSpc0 hSpc1 => ?_) (fun hNpc0 hNpr hNpc1 hNpc2 hNpw hNph hNpo => ?_) (fun hFpc0 hFpc1 hFpr hFpc2 hFpi hFpc3 hFpc4 hFpc5 hFpw hFph hFpo => ?_) (fun hLLpc0 hLLpc1 hLLpr hLLpc2 hLLpi hLLpc3 hLLpc4 hLLpc5 hLLpw hLLph hLLpo => ?_)
  simp only [eL_law_1957, eL_law_1961, eL_law_1966, eL_law_1972, eL_law_1975, eL_law_1979, eL_law_1980, kx_l, wt_nil, nl_int, tl_s, Nat.add_zero]
  with_reducible refine gi_W hL hb ?_
  with_reducible refine And.intro ?_ ?_
  with_reducible assumption
  with_reducible refine gi_W hL hb ?_
  with_reducible refine And.intro ?_ ?_
  with_reducible assumption
  split
  with_reducible refine And.intro ?_ ?_
  with_reducible refine LW.gz hL (fun _ => trivial)
  with_reducible refine And.intro ?_ ?_
  with_reducible exact absurd (show xs (i + 2).toNatClampNeg = 0 by assumption) (by assumption)
  with_reducible refine And.intro ?_ ?_
  with_reducible exact absurd (show xs (i + 2).toNatClampNeg = 0 by assumption) (by assumption)
  with_reducible refine And.intro ?_ ?_
  with_reducible exact absurd (show xs (i + 2).toNatClampNeg = 0 by assumption) (by assumption)
  with_reducible refine fX3_seek (LW.ms hL) (fun hXqc0 hXqw hXqh => ?_) (fun hSqc0 hSqc1 hSqw hSqh => ?_) (fun hQqc0 hQqr hQqc1 hQqw hQqh => ?_)
  with_reducible exact absurd (show xs (i + 2).toNatClampNeg = 0 by assumption) (by assumption)
  with_reducible exact absurd hSqc0 hXpc0
  with_reducible exact absurd hQqc0 hXpc0
  with_reducible refine And.intro ?_ ?_
  with_reducible refine LW.gz hL (fun _ => trivial)
  with_reducible refine And.intro ?_ ?_
  omega
  with_reducible refine And.intro ?_ ?_
  omega
  with_reducible refine And.intro ?_ ?_
  omega
  with_reducible refine fX3_seek (LW.ms hL) (fun hXqc0 hXqw hXqh => ?_) (fun hSqc0 hSqc1 hSqw hSqh => ?_) (fun hQqc0 hQqr hQqc1 hQqw hQqh => ?_)
  simp only [eL_law_1983, kx_l, nl_int, tl_s]
  with_reducible exact next _ _ _ _ _ _ _ _ (LW.ofM hL hXqh) (by omega) (by omega)
  with_reducible exact absurd hSqc0 hXpc0
  with_reducible exact absurd hQqc0 hXpc0
  simp only [eL_law_1957, eL_law_1961, eL_law_1966, eL_law_1972, eL_law_1975, eL_law_1979, eL_law_1980, kx_l, wt_nil, nl_int, tl_s, Nat.add_zero]
  with_reducible refine gi_W hL hb ?_
  with_reducible refine And.intro ?_ ?_
  with_reducible assumption
  with_reducible refine gi_W hL hb ?_
  with_reducible refine And.intro ?_ ?_
  with_reducible assumption
  split
  with_reducible refine And.intro ?_ ?_
  with_reducible refine LW.gz hL (fun _ => trivial)
  with_reducible refine And.intro ?_ ?_
  with_reducible exact absurd (show xs (i + 2).toNatClampNeg = 0 by assumption) (by assumption)
  with_reducible refine And.intro ?_ ?_
  with_reducible exact absurd (show xs (i + 2).toNatClampNeg = 0 by assumption) (by assumption)
  with_reducible refine And.intro ?_ ?_
  with_reducible exact absurd (show xs (i + 2).toNatClampNeg = 0 by assumption) (by assumption)
  with_reducible refine fX3_seek (LW.ms hL) (fun hXqc0 hXqw hXqh => ?_) (fun hSqc0 hSqc1 hSqw hSqh => ?_) (fun hQqc0 hQqr hQqc1 hQqw hQqh => ?_)
  with_reducible exact absurd hSpc0 hXqc0
  with_reducible exact absurd (show xs (i + 2).toNatClampNeg = 0 by assumption) (by assumption)
  with_reducible exact (nsC hSpc1 hQqc1).elim
  with_reducible refine And.intro ?_ ?_
  with_reducible refine LW.gz hL (fun _ => trivial)
  with_reducible refine And.intro ?_ ?_
  omega
  with_reducible refine And.intro ?_ ?_
  omega
  with_reducible refine And.intro ?_ ?_
  omega
  with_reducible refine fX3_seek (LW.ms hL) (fun hXqc0 hXqw hXqh => ?_) (fun hSqc0 hSqc1 hSqw hSqh => ?_) (fun hQqc0 hQqr hQqc1 hQqw hQqh => ?_)
  with_reducible exact absurd hSpc0 hXqc0
  simp only [eL_law_1983, kx_l, nl_int, tl_s]
  with_reducible exact next _ _ _ _ _ _ _ _ (LW.ofM hL hSqh) (by omega) (by omega)
  with_reducible exact (nsC hSpc1 hQqc1).elim
  simp only [eL_law_1957, eL_law_1961, eL_law_1966, eL_law_1972, eL_law_1975, eL_law_1979, eL_law_1980, kx_l, wt_nil, nl_int, tl_s, Nat.add_zero]
  with_reducible refine gi_W hNph hb ?_
  with_reducible refine And.intro ?_ ?_
  with_reducible assumption
  with_reducible refine gi_W hNph hb ?_
  with_reducible refine And.intro ?_ ?_
  with_reducible assumption
  split
  with_reducible refine And.intro ?_ ?_
  with_reducible refine LW.gz hNph (fun _ => trivial)
  with_reducible refine And.intro ?_ ?_
  with_reducible exact absurd (show xs (i + 2).toNatClampNeg = 0 by assumption) (by assumption)
  with_reducible refine And.intro ?_ ?_
  with_reducible exact absurd (show xs (i + 2).toNatClampNeg = 0 by assumption) (by assumption)
  with_reducible refine And.intro ?_ ?_
  with_reducible exact absurd (show xs (i + 2).toNatClampNeg = 0 by assumption) (by assumption)
  with_reducible refine fX3_seek (LW.ms hNph) (fun hXqc0 hXqw hXqh => ?_) (fun hSqc0 hSqc1 hSqw hSqh => ?_) (fun hQqc0 hQqr hQqc1 hQqw hQqh => ?_)
  with_reducible exact absurd hNpc0 hXqc0
  with_reducible exact (nsC hSqc1 hNpc1).elim
  cases Option.some.inj (hNpc1.symm.trans hQqc1); clear hQqc1
  with_reducible exact absurd (show xs (i + 2).toNatClampNeg = 0 by assumption) (by assumption)
  with_reducible refine And.intro ?_ ?_
  with_reducible refine LW.gz hNph (fun _ => trivial)
  with_reducible refine And.intro ?_ ?_
  omega
  with_reducible refine And.intro ?_ ?_
  omega
  with_reducible refine And.intro ?_ ?_
  omega
  with_reducible refine fX3_seek (LW.ms hNph) (fun hXqc0 hXqw hXqh => ?_) (fun hSqc0 hSqc1 hSqw hSqh => ?_) (fun hQqc0 hQqr hQqc1 hQqw hQqh => ?_)
  with_reducible exact absurd hNpc0 hXqc0
  with_reducible exact (nsC hSqc1 hNpc1).elim
  cases Option.some.inj (hNpc1.symm.trans hQqc1); clear hQqc1
  simp only [eL_law_1983, kx_l, nl_int, tl_s]
  with_reducible exact next _ _ _ _ _ _ _ _ (LW.ofM hNph hQqh) (by omega) (by omega)
  simp only [eL_law_1957, eL_law_1961, eL_law_1966, eL_law_1972, eL_law_1975, eL_law_1979, eL_law_1980, kx_l, wt_nil, nl_int, tl_s, Nat.add_zero]
  with_reducible refine gi_W hFph hb ?_
  with_reducible refine And.intro ?_ ?_
  with_reducible assumption
  with_reducible refine gi_W hFph hb ?_
  with_reducible refine And.intro ?_ ?_
  with_reducible assumption
  split
  with_reducible refine And.intro ?_ ?_
  with_reducible refine LW.gz hFph (fun _ => trivial)
  with_reducible refine And.intro ?_ ?_
  with_reducible exact absurd (show xs (i + 2).toNatClampNeg = 0 by assumption) (by assumption)
  with_reducible refine And.intro ?_ ?_
  with_reducible exact absurd (show xs (i + 2).toNatClampNeg = 0 by assumption) (by assumption)
  with_reducible refine And.intro ?_ ?_
  with_reducible exact absurd (show xs (i + 2).toNatClampNeg = 0 by assumption) (by assumption)
  with_reducible refine fX3_seek (LW.ms hFph) (fun hXqc0 hXqw hXqh => ?_) (fun hSqc0 hSqc1 hSqw hSqh => ?_) (fun hQqc0 hQqr hQqc1 hQqw hQqh => ?_)
  with_reducible exact absurd hFpc1 hXqc0
  with_reducible exact (nsC hSqc1 hFpc2).elim
  cases Option.some.inj (hFpc2.symm.trans hQqc1); clear hQqc1
  with_reducible exact absurd (show xs (i + 2).toNatClampNeg = 0 by assumption) (by assumption)
  with_reducible refine And.intro ?_ ?_
  with_reducible refine LW.gz hFph (fun _ => trivial)
  with_reducible refine And.intro ?_ ?_
  omega
  with_reducible refine And.intro ?_ ?_
  omega
  with_reducible refine And.intro ?_ ?_
  omega
  with_reducible refine fX3_seek (LW.ms hFph) (fun hXqc0 hXqw hXqh => ?_) (fun hSqc0 hSqc1 hSqw hSqh => ?_) (fun hQqc0 hQqr hQqc1 hQqw hQqh => ?_)
  with_reducible exact absurd hFpc1 hXqc0
  with_reducible exact (nsC hSqc1 hFpc2).elim
  cases Option.some.inj (hFpc2.symm.trans hQqc1); clear hQqc1
  simp only [eL_law_1983, kx_l, nl_int, tl_s]
  with_reducible exact next _ _ _ _ _ _ _ _ (LW.ofM hFph hQqh) (by omega) (by omega)
  simp only [eL_law_1957, eL_law_1961, eL_law_1966, eL_law_1972, eL_law_1975, eL_law_1979, eL_law_1980, kx_l, wt_nil, nl_int, tl_s, Nat.add_zero]
  with_reducible refine gi_W hLLph hb ?_
  with_reducible refine And.intro ?_ ?_
  with_reducible assumption
  with_reducible refine gi_W hLLph hb ?_
  with_reducible refine And.intro ?_ ?_
  with_reducible assumption
  split
  with_reducible refine And.intro ?_ ?_
  with_reducible refine LW.gz hLLph (fun _ => trivial)
  with_reducible refine And.intro ?_ ?_
  with_reducible exact absurd (show xs (i + 2).toNatClampNeg = 0 by assumption) (by assumption)
  with_reducible refine And.intro ?_ ?_
  with_reducible exact absurd (show xs (i + 2).toNatClampNeg = 0 by assumption) (by assumption)
  with_reducible refine And.intro ?_ ?_
  with_reducible exact absurd (show xs (i + 2).toNatClampNeg = 0 by assumption) (by assumption)
  with_reducible refine fX3_seek (LW.ms hLLph) (fun hXqc0 hXqw hXqh => ?_) (fun hSqc0 hSqc1 hSqw hSqh => ?_) (fun hQqc0 hQqr hQqc1 hQqw hQqh => ?_)
  with_reducible exact absurd hLLpc1 hXqc0
  with_reducible exact (nsC hSqc1 hLLpc2).elim
  cases Option.some.inj (hLLpc2.symm.trans hQqc1); clear hQqc1
  with_reducible exact absurd (show xs (i + 2).toNatClampNeg = 0 by assumption) (by assumption)
  with_reducible refine And.intro ?_ ?_
  with_reducible refine LW.gz hLLph (fun _ => trivial)
  with_reducible refine And.intro ?_ ?_
  omega
  with_reducible refine And.intro ?_ ?_
  omega
  with_reducible refine And.intro ?_ ?_
  omega
  with_reducible refine fX3_seek (LW.ms hLLph) (fun hXqc0 hXqw hXqh => ?_) (fun hSqc0 hSqc1 hSqw hSqh => ?_) (fun hQqc0 hQqr hQqc1 hQqw hQqh => ?_)
  with_reducible exact absurd hLLpc1 hXqc0
  with_reducible exact (nsC hSqc1 hLLpc2).elim
  cases Option.some.inj (hLLpc2.symm.trans hQqc1); clear hQqc1
  simp only [eL_law_1983, kx_l, nl_int, tl_s]
  with_reducible exact next _ _ _ _ _ _ _ _ (LW.ofM hLLph hQqh) (by omega) (by omega)
set_option maxHeartbeats 4000000 in
theorem cL_39 (hR : RG g) (hb : g.2 b = some (.inl (1, L, .inl xs))) (hL : LW g w x nA cA lA y nM o kn kn th s s) (v1 : vp_in (i + 1) L) (v2 : vp_in (i + 2) L) (v3 : vp_in (i + 3) L) (v4 : vp_in (i + 4) L) (v5 : vp_in (i + 5) L) (hk : k + 114 ≤ 58408) (hn : n + 2834 ≤ 1451408) (next : (∀ (l5' l6' : Option Value) (w' : Hw) (k' n' : Nat) (kn' th' : Int32) (s' : AS), LW g w' x nA cA lA y nM o kn' kn' th' s' s' → k' ≤ k + 114 → n' ≤ n + 2834 → WP (ML_law g) QLaw (2218, [some (.ref b), some (.ref x), some (.ref y), some (.ref o), some (.int i), l5', l6'], [], w', k', n'))) : WP (ML_law g) QLaw (1988, [some (.ref b), some (.ref x), some (.ref y), some (.ref o), some (.int i), l5, l6], [], w, k, n) := by
  simp only [eL_law_1988, eL_law_1995, wt_nil]
  with_reducible refine gi_W hL hb ?_
  with_reducible refine And.intro ?_ ?_
  with_reducible assumption
  with_reducible refine And.intro ?_ ?_
  omega
  with_reducible refine And.intro ?_ ?_
  omega
  with_reducible refine And.intro ?_ ?_
  omega
  with_reducible refine fL_howOften hL (fun hXpc0 => ?_) (fun hSpc0 hSpc1 => ?_) (fun hQpc0 hQpr hQpc1 hQpw hQph hQpo => ?_)
  simp only [eL_law_1999, eL_law_2003, eL_law_2008, kx_l, wt_nil, nl_int, tl_s]
  with_reducible refine gi_W hL hb ?_
  with_reducible refine And.intro ?_ ?_
  with_reducible assumption
  with_reducible refine And.intro ?_ ?_
  with_reducible refine LW.gz hL (fun _ => trivial)
  with_reducible refine And.intro ?_ ?_
  omega
  with_reducible refine And.intro ?_ ?_
  omega
  with_reducible refine And.intro ?_ ?_
  omega
  with_reducible refine gX3_howOften (LW.ms hL) (fun v2 t2 w2 m2 => ?_)
  simp only [eL_law_2011, kx_l, nl_int, tl_s]
  with_reducible exact next _ _ _ _ _ _ _ _ (LW.ofM hL m2) (by omega) (by omega)
  simp only [eL_law_1999, eL_law_2003, eL_law_2008, kx_l, wt_nil, nl_int, tl_s]
  with_reducible refine gi_W hL hb ?_
  with_reducible refine And.intro ?_ ?_
  with_reducible assumption
  with_reducible refine And.intro ?_ ?_
  with_reducible refine LW.gz hL (fun _ => trivial)
  with_reducible refine And.intro ?_ ?_
  omega
  with_reducible refine And.intro ?_ ?_
  omega
  with_reducible refine And.intro ?_ ?_
  omega
  with_reducible refine gX3_howOften (LW.ms hL) (fun v2 t2 w2 m2 => ?_)
  simp only [eL_law_2011, kx_l, nl_int, tl_s]
  with_reducible exact next _ _ _ _ _ _ _ _ (LW.ofM hL m2) (by omega) (by omega)
  simp only [eL_law_1999, eL_law_2003, eL_law_2008, kx_l, wt_nil, nl_int, tl_s]
  with_reducible refine gi_W hQph hb ?_
  with_reducible refine And.intro ?_ ?_
  with_reducible assumption
  with_reducible refine And.intro ?_ ?_
  with_reducible refine LW.gz hQph (fun _ => trivial)
  with_reducible refine And.intro ?_ ?_
  omega
  with_reducible refine And.intro ?_ ?_
  omega
  with_reducible refine And.intro ?_ ?_
  omega
  with_reducible refine gX3_howOften (LW.ms hQph) (fun v2 t2 w2 m2 => ?_)
  simp only [eL_law_2011, kx_l, nl_int, tl_s]
  with_reducible exact next _ _ _ _ _ _ _ _ (LW.ofM hQph m2) (by omega) (by omega)
set_option maxHeartbeats 4000000 in
theorem cL_40 (hR : RG g) (hb : g.2 b = some (.inl (1, L, .inl xs))) (hL : LW g w x nA cA lA y nM o kn kn th s s) (v1 : vp_in (i + 1) L) (v2 : vp_in (i + 2) L) (v3 : vp_in (i + 3) L) (v4 : vp_in (i + 4) L) (v5 : vp_in (i + 5) L) (hk : k + 114 ≤ 58408) (hn : n + 2834 ≤ 1451408) (next : (∀ (l5' l6' : Option Value) (w' : Hw) (k' n' : Nat) (kn' th' : Int32) (s' : AS), LW g w' x nA cA lA y nM o kn' kn' th' s' s' → k' ≤ k + 114 → n' ≤ n + 2834 → WP (ML_law g) QLaw (2218, [some (.ref b), some (.ref x), some (.ref y), some (.ref o), some (.int i), l5', l6'], [], w', k', n'))) : WP (ML_law g) QLaw (2016, [some (.ref b), some (.ref x), some (.ref y), some (.ref o), some (.int i), l5, l6], [], w, k, n) := by
  simp only [eL_law_2016, eL_law_2023, wt_nil]
  with_reducible refine gi_W hL hb ?_
  with_reducible refine And.intro ?_ ?_
  with_reducible assumption
  with_reducible refine And.intro ?_ ?_
  omega
  with_reducible refine And.intro ?_ ?_
  omega
  with_reducible refine And.intro ?_ ?_
  omega
  with_reducible refine fL_lift hL (fun hXpc0 => ?_) (fun hSpc0 hSpc1 => ?_) (fun hNpc0 hNpr hNpc1 hNpc2 hNpw hNph hNpo => ?_) (fun hQpc0 hQpr hQpc1 hQpi hQpc2 hQpc3 hQpc4 hQpw hQph hQpo => ?_)
  simp only [eL_law_2027, eL_law_2031, eL_law_2036, kx_l, wt_nil, nl_int, tl_s, Nat.add_zero]
  with_reducible refine gi_W hL hb ?_
  with_reducible refine And.intro ?_ ?_
  with_reducible assumption
  with_reducible refine And.intro ?_ ?_
  with_reducible refine LW.gz hL (fun _ => trivial)
  with_reducible refine And.intro ?_ ?_
  omega
  with_reducible refine And.intro ?_ ?_
  omega
  with_reducible refine And.intro ?_ ?_
  omega
  with_reducible refine fX3_lift (LW.ms hL) (fun hXqc0 hXqw hXqh => ?_) (fun hSqc0 hSqc1 hSqw hSqh => ?_) (fun hNqc0 hNqr hNqc1 hNqc2 hNqw hNqh => ?_) (fun hQqc0 hQqr hQqc1 hQqi hQqc2 hQqc3 hQqc4 hQqw hQqh => ?_)
  simp only [eL_law_2039, kx_l, nl_int, tl_s]
  with_reducible exact next _ _ _ _ _ _ _ _ (LW.ofM hL hXqh) (by omega) (by omega)
  with_reducible exact absurd hSqc0 hXpc0
  with_reducible exact absurd hNqc0 hXpc0
  with_reducible exact absurd hQqc0 hXpc0
  simp only [eL_law_2027, eL_law_2031, eL_law_2036, kx_l, wt_nil, nl_int, tl_s, Nat.add_zero]
  with_reducible refine gi_W hL hb ?_
  with_reducible refine And.intro ?_ ?_
  with_reducible assumption
  with_reducible refine And.intro ?_ ?_
  with_reducible refine LW.gz hL (fun _ => trivial)
  with_reducible refine And.intro ?_ ?_
  omega
  with_reducible refine And.intro ?_ ?_
  omega
  with_reducible refine And.intro ?_ ?_
  omega
  with_reducible refine fX3_lift (LW.ms hL) (fun hXqc0 hXqw hXqh => ?_) (fun hSqc0 hSqc1 hSqw hSqh => ?_) (fun hNqc0 hNqr hNqc1 hNqc2 hNqw hNqh => ?_) (fun hQqc0 hQqr hQqc1 hQqi hQqc2 hQqc3 hQqc4 hQqw hQqh => ?_)
  with_reducible exact absurd hSpc0 hXqc0
  simp only [eL_law_2039, kx_l, nl_int, tl_s]
  with_reducible exact next _ _ _ _ _ _ _ _ (LW.ofM hL hSqh) (by omega) (by omega)
  with_reducible exact (nsC hSpc1 hNqc1).elim
  with_reducible exact (nsC hSpc1 hQqc1).elim
  simp only [eL_law_2027, eL_law_2031, eL_law_2036, kx_l, wt_nil, nl_int, tl_s, Nat.add_zero]
  with_reducible refine gi_W hNph hb ?_
  with_reducible refine And.intro ?_ ?_
  with_reducible assumption
  with_reducible refine And.intro ?_ ?_
  with_reducible refine LW.gz hNph (fun _ => trivial)
  with_reducible refine And.intro ?_ ?_
  omega
  with_reducible refine And.intro ?_ ?_
  omega
  with_reducible refine And.intro ?_ ?_
  omega
  with_reducible refine fX3_lift (LW.ms hNph) (fun hXqc0 hXqw hXqh => ?_) (fun hSqc0 hSqc1 hSqw hSqh => ?_) (fun hNqc0 hNqr hNqc1 hNqc2 hNqw hNqh => ?_) (fun hQqc0 hQqr hQqc1 hQqi hQqc2 hQqc3 hQqc4 hQqw hQqh => ?_)
  with_reducible exact absurd hNpc0 hXqc0
  with_reducible exact (nsC hSqc1 hNpc1).elim
  cases Option.some.inj (hNpc1.symm.trans hNqc1); clear hNqc1
  simp only [eL_law_2039, kx_l, nl_int, tl_s]
  with_reducible exact next _ _ _ _ _ _ _ _ (LW.ofM hNph hNqh) (by omega) (by omega)
  cases Option.some.inj (hNpc1.symm.trans hQqc1); clear hQqc1
  with_reducible exact absurd hQqc3 (hNpc2 _ hQqc2)
  simp only [eL_law_2027, eL_law_2031, eL_law_2036, kx_l, wt_nil, nl_int, tl_s, Nat.add_zero]
  with_reducible refine gi_W hQph hb ?_
  with_reducible refine And.intro ?_ ?_
  with_reducible assumption
  with_reducible refine And.intro ?_ ?_
  with_reducible refine LW.gz hQph (fun _ => trivial)
  with_reducible refine And.intro ?_ ?_
  omega
  with_reducible refine And.intro ?_ ?_
  omega
  with_reducible refine And.intro ?_ ?_
  omega
  with_reducible refine fX3_lift (LW.ms hQph) (fun hXqc0 hXqw hXqh => ?_) (fun hSqc0 hSqc1 hSqw hSqh => ?_) (fun hNqc0 hNqr hNqc1 hNqc2 hNqw hNqh => ?_) (fun hQqc0 hQqr hQqc1 hQqi hQqc2 hQqc3 hQqc4 hQqw hQqh => ?_)
  with_reducible exact absurd hQpc0 hXqc0
  with_reducible exact (nsC hSqc1 hQpc1).elim
  cases Option.some.inj (hQpc1.symm.trans hNqc1); clear hNqc1
  with_reducible exact absurd hQpc3 (hNqc2 _ hQpc2)
  cases Option.some.inj (hQpc1.symm.trans hQqc1); clear hQqc1
  cases fstU hQpc3 hQpc4 hQqc3 hQqc4; clear hQqc2 hQqc3 hQqc4
  simp only [eL_law_2039, kx_l, nl_int, tl_s]
  with_reducible exact next _ _ _ _ _ _ _ _ (LW.ofM hQph hQqh) (by omega) (by omega)
set_option maxHeartbeats 4000000 in
theorem cL_41 (hR : RG g) (hb : g.2 b = some (.inl (1, L, .inl xs))) (hL : LW g w x nA cA lA y nM o kn kn th s s) (v1 : vp_in (i + 1) L) (v2 : vp_in (i + 2) L) (v3 : vp_in (i + 3) L) (v4 : vp_in (i + 4) L) (v5 : vp_in (i + 5) L) (hk : k + 114 ≤ 58408) (hn : n + 2834 ≤ 1451408) (next : (∀ (l5' l6' : Option Value) (w' : Hw) (k' n' : Nat) (kn' th' : Int32) (s' : AS), LW g w' x nA cA lA y nM o kn' kn' th' s' s' → k' ≤ k + 114 → n' ≤ n + 2834 → WP (ML_law g) QLaw (2218, [some (.ref b), some (.ref x), some (.ref y), some (.ref o), some (.int i), l5', l6'], [], w', k', n'))) : WP (ML_law g) QLaw (2044, [some (.ref b), some (.ref x), some (.ref y), some (.ref o), some (.int i), l5, l6], [], w, k, n) := by
  simp only [eL_law_2044, eL_law_2051, eL_law_2057, wt_nil]
  with_reducible refine gi_W hL hb ?_
  with_reducible refine And.intro ?_ ?_
  with_reducible assumption
  with_reducible refine gi_W hL hb ?_
  with_reducible refine And.intro ?_ ?_
  with_reducible assumption
  with_reducible refine And.intro ?_ ?_
  omega
  with_reducible refine And.intro ?_ ?_
  omega
  with_reducible refine And.intro ?_ ?_
  omega
  with_reducible refine fL_pick hL (fun hXpc0 => ?_) (fun hNpc0 hNpc1 hNpc2 hNpw hNph hNpo => ?_) (fun hSpc0 hSpc1 hSpr hSpc2 hSpw hSph hSpo => ?_)
  simp only [eL_law_2061, eL_law_2065, eL_law_2070, eL_law_2076, kx_l, wt_nil, nl_int, tl_s, Nat.add_zero]
  with_reducible refine gi_W hL hb ?_
  with_reducible refine And.intro ?_ ?_
  with_reducible assumption
  with_reducible refine gi_W hL hb ?_
  with_reducible refine And.intro ?_ ?_
  with_reducible assumption
  with_reducible refine And.intro ?_ ?_
  with_reducible refine LW.gz hL (fun _ => trivial)
  with_reducible refine And.intro ?_ ?_
  omega
  with_reducible refine And.intro ?_ ?_
  omega
  with_reducible refine And.intro ?_ ?_
  omega
  with_reducible refine fX3_pick (LW.ms hL) (fun hXqc0 hXqw hXqh => ?_) (fun hNqc0 hNqc1 hNqc2 hNqw hNqh => ?_) (fun hSqc0 hSqc1 hSqr hSqc2 hSqw hSqh => ?_)
  simp only [eL_law_2079, kx_l, nl_int, tl_s]
  with_reducible exact next _ _ _ _ _ _ _ _ (LW.ofM hL hXqh) (by omega) (by omega)
  with_reducible exact absurd (And.intro hNqc0 hNqc1) hXpc0
  with_reducible exact absurd (And.intro hSqc0 hSqc1) hXpc0
  simp only [eL_law_2061, eL_law_2065, eL_law_2070, eL_law_2076, kx_l, wt_nil, nl_int, tl_s, Nat.add_zero]
  with_reducible refine gi_W hNph hb ?_
  with_reducible refine And.intro ?_ ?_
  with_reducible assumption
  with_reducible refine gi_W hNph hb ?_
  with_reducible refine And.intro ?_ ?_
  with_reducible assumption
  with_reducible refine And.intro ?_ ?_
  with_reducible refine LW.gz hNph (fun _ => trivial)
  with_reducible refine And.intro ?_ ?_
  omega
  with_reducible refine And.intro ?_ ?_
  omega
  with_reducible refine And.intro ?_ ?_
  omega
  with_reducible refine fX3_pick (LW.ms hNph) (fun hXqc0 hXqw hXqh => ?_) (fun hNqc0 hNqc1 hNqc2 hNqw hNqh => ?_) (fun hSqc0 hSqc1 hSqr hSqc2 hSqw hSqh => ?_)
  with_reducible exact absurd (And.intro hNpc0 hNpc1) hXqc0
  simp only [eL_law_2079, kx_l, nl_int, tl_s]
  with_reducible exact next _ _ _ _ _ _ _ _ (LW.ofM hNph hNqh) (by omega) (by omega)
  with_reducible exact (nsC hNpc2 hSqc2).elim
  simp only [eL_law_2061, eL_law_2065, eL_law_2070, eL_law_2076, kx_l, wt_nil, nl_int, tl_s, Nat.add_zero]
  with_reducible refine gi_W hSph hb ?_
  with_reducible refine And.intro ?_ ?_
  with_reducible assumption
  with_reducible refine gi_W hSph hb ?_
  with_reducible refine And.intro ?_ ?_
  with_reducible assumption
  with_reducible refine And.intro ?_ ?_
  with_reducible refine LW.gz hSph (fun _ => trivial)
  with_reducible refine And.intro ?_ ?_
  omega
  with_reducible refine And.intro ?_ ?_
  omega
  with_reducible refine And.intro ?_ ?_
  omega
  with_reducible refine fX3_pick (LW.ms hSph) (fun hXqc0 hXqw hXqh => ?_) (fun hNqc0 hNqc1 hNqc2 hNqw hNqh => ?_) (fun hSqc0 hSqc1 hSqr hSqc2 hSqw hSqh => ?_)
  with_reducible exact absurd (And.intro hSpc0 hSpc1) hXqc0
  with_reducible exact (nsC hNqc2 hSpc2).elim
  cases Option.some.inj (hSpc2.symm.trans hSqc2); clear hSqc2
  simp only [eL_law_2079, kx_l, nl_int, tl_s]
  with_reducible exact next _ _ _ _ _ _ _ _ (LW.ofM hSph hSqh) (by omega) (by omega)
set_option maxHeartbeats 4000000 in
theorem cL_42 (hR : RG g) (hb : g.2 b = some (.inl (1, L, .inl xs))) (hL : LW g w x nA cA lA y nM o kn kn th s s) (v1 : vp_in (i + 1) L) (v2 : vp_in (i + 2) L) (v3 : vp_in (i + 3) L) (v4 : vp_in (i + 4) L) (v5 : vp_in (i + 5) L) (hk : k + 114 ≤ 58408) (hn : n + 2834 ≤ 1451408) (next : (∀ (l5' l6' : Option Value) (w' : Hw) (k' n' : Nat) (kn' th' : Int32) (s' : AS), LW g w' x nA cA lA y nM o kn' kn' th' s' s' → k' ≤ k + 114 → n' ≤ n + 2834 → WP (ML_law g) QLaw (2218, [some (.ref b), some (.ref x), some (.ref y), some (.ref o), some (.int i), l5', l6'], [], w', k', n'))) : WP (ML_law g) QLaw (2084, [some (.ref b), some (.ref x), some (.ref y), some (.ref o), some (.int i), l5, l6], [], w, k, n) := by
  simp only [eL_law_2084, wt_nil, Nat.add_zero]
  with_reducible refine And.intro ?_ ?_
  with_reducible refine LW.gx hL (fun _ => trivial)
  with_reducible refine And.intro ?_ ?_
  omega
  with_reducible refine And.intro ?_ ?_
  omega
  with_reducible refine And.intro ?_ ?_
  omega
  with_reducible refine fX1_turn hL.cs (fun w1 c1 => ?_)
  simp only [eL_law_2088, kx_l, wt_nil, tl_s]
  with_reducible refine And.intro ?_ ?_
  with_reducible refine LW.gz (hL.of c1 hL.ok.tur) (fun _ => trivial)
  with_reducible refine And.intro ?_ ?_
  omega
  with_reducible refine And.intro ?_ ?_
  omega
  with_reducible refine And.intro ?_ ?_
  omega
  with_reducible refine fX3_turn (LW.ms (hL.of c1 hL.ok.tur)) (hR.eg (LW.ro (hL.of c1 hL.ok.tur))) hR.sg (fun hQqw hQqh => ?_)
  simp only [eL_law_2093, kx_l, tl_s]
  with_reducible exact next _ _ _ _ _ _ _ _ (LW.ofM (hL.of c1 hL.ok.tur) hQqh) (by omega) (by omega)
set_option maxHeartbeats 4000000 in
theorem cL_43 (hR : RG g) (hb : g.2 b = some (.inl (1, L, .inl xs))) (hL : LW g w x nA cA lA y nM o kn kn th s s) (v1 : vp_in (i + 1) L) (v2 : vp_in (i + 2) L) (v3 : vp_in (i + 3) L) (v4 : vp_in (i + 4) L) (v5 : vp_in (i + 5) L) (hk : k + 114 ≤ 58408) (hn : n + 2834 ≤ 1451408) (next : (∀ (l5' l6' : Option Value) (w' : Hw) (k' n' : Nat) (kn' th' : Int32) (s' : AS), LW g w' x nA cA lA y nM o kn' kn' th' s' s' → k' ≤ k + 114 → n' ≤ n + 2834 → WP (ML_law g) QLaw (2218, [some (.ref b), some (.ref x), some (.ref y), some (.ref o), some (.int i), l5', l6'], [], w', k', n'))) : WP (ML_law g) QLaw (2097, [some (.ref b), some (.ref x), some (.ref y), some (.ref o), some (.int i), l5, l6], [], w, k, n) := by
  simp only [eL_law_2097, wt_nil, Nat.add_zero]
  with_reducible refine And.intro ?_ ?_
  with_reducible refine LW.gx hL (fun _ => trivial)
  with_reducible refine And.intro ?_ ?_
  omega
  with_reducible refine And.intro ?_ ?_
  omega
  with_reducible refine And.intro ?_ ?_
  omega
  with_reducible refine fX1_sweep hL.cs (fun w1 c1 => ?_)
  simp only [eL_law_2101, kx_l, wt_nil, tl_s]
  with_reducible refine And.intro ?_ ?_
  with_reducible refine LW.gz (hL.of (c1 s.2.2.2.1) hL.ok.zero) (fun _ => trivial)
  with_reducible refine And.intro ?_ ?_
  omega
  with_reducible refine And.intro ?_ ?_
  omega
  with_reducible refine And.intro ?_ ?_
  omega
  with_reducible refine fX3_sweep (LW.ms (hL.of (c1 s.2.2.2.1) hL.ok.zero)) (hR.eg (LW.ro (hL.of (c1 s.2.2.2.1) hL.ok.zero))) hR.sg (fun hQqw hQqh => ?_)
  simp only [eL_law_2106, kx_l, tl_s]
  with_reducible exact next _ _ _ _ _ _ _ _ (LW.ofM (hL.of (c1 s.2.2.2.1) hL.ok.zero) (hQqh s.2.2.2.1)) (by omega) (by omega)
set_option maxHeartbeats 4000000 in
theorem cL_44 (hR : RG g) (hb : g.2 b = some (.inl (1, L, .inl xs))) (hL : LW g w x nA cA lA y nM o kn kn th s s) (v1 : vp_in (i + 1) L) (v2 : vp_in (i + 2) L) (v3 : vp_in (i + 3) L) (v4 : vp_in (i + 4) L) (v5 : vp_in (i + 5) L) (hk : k + 114 ≤ 58408) (hn : n + 2834 ≤ 1451408) (next : (∀ (l5' l6' : Option Value) (w' : Hw) (k' n' : Nat) (kn' th' : Int32) (s' : AS), LW g w' x nA cA lA y nM o kn' kn' th' s' s' → k' ≤ k + 114 → n' ≤ n + 2834 → WP (ML_law g) QLaw (2218, [some (.ref b), some (.ref x), some (.ref y), some (.ref o), some (.int i), l5', l6'], [], w', k', n'))) : WP (ML_law g) QLaw (2110, [some (.ref b), some (.ref x), some (.ref y), some (.ref o), some (.int i), l5, l6], [], w, k, n) := by
  simp only [eL_law_2110, eL_law_2117, eL_law_2123, wt_nil]
  with_reducible refine gi_W hL hb ?_
  with_reducible refine And.intro ?_ ?_
  with_reducible assumption
  with_reducible refine gi_W hL hb ?_
  with_reducible refine And.intro ?_ ?_
  with_reducible assumption
  with_reducible refine And.intro ?_ ?_
  omega
  with_reducible refine And.intro ?_ ?_
  omega
  with_reducible refine And.intro ?_ ?_
  omega
  with_reducible refine gL_pile hR hL (fun v1 w1 h1 => ?_)
  simp only [eL_law_2127, eL_law_2131, eL_law_2136, eL_law_2142, kx_l, wt_nil, nl_int, tl_s]
  with_reducible refine gi_W h1 hb ?_
  with_reducible refine And.intro ?_ ?_
  with_reducible assumption
  with_reducible refine gi_W h1 hb ?_
  with_reducible refine And.intro ?_ ?_
  with_reducible assumption
  with_reducible refine And.intro ?_ ?_
  with_reducible refine LW.gz h1 (fun _ => trivial)
  with_reducible refine And.intro ?_ ?_
  omega
  with_reducible refine And.intro ?_ ?_
  omega
  with_reducible refine And.intro ?_ ?_
  omega
  with_reducible refine gX3_pile (LW.ms h1) (fun v2 t2 w2 m2 => ?_)
  simp only [eL_law_2145, kx_l, nl_int, tl_s]
  with_reducible exact next _ _ _ _ _ _ _ _ (LW.ofM h1 m2) (by omega) (by omega)
set_option maxHeartbeats 4000000 in
theorem cL_45 (hR : RG g) (hb : g.2 b = some (.inl (1, L, .inl xs))) (hL : LW g w x nA cA lA y nM o kn kn th s s) (v1 : vp_in (i + 1) L) (v2 : vp_in (i + 2) L) (v3 : vp_in (i + 3) L) (v4 : vp_in (i + 4) L) (v5 : vp_in (i + 5) L) (hk : k + 114 ≤ 58408) (hn : n + 2834 ≤ 1451408) (next : (∀ (l5' l6' : Option Value) (w' : Hw) (k' n' : Nat) (kn' th' : Int32) (s' : AS), LW g w' x nA cA lA y nM o kn' kn' th' s' s' → k' ≤ k + 114 → n' ≤ n + 2834 → WP (ML_law g) QLaw (2218, [some (.ref b), some (.ref x), some (.ref y), some (.ref o), some (.int i), l5', l6'], [], w', k', n'))) : WP (ML_law g) QLaw (2150, [some (.ref b), some (.ref x), some (.ref y), some (.ref o), some (.int i), l5, l6], [], w, k, n) := by
  repeat' first
    | with_reducible assumption
    | with_reducible refine And.intro ?_ ?_
    | with_reducible refine gi_W hL hb ?_
    | with_reducible refine LW.gx hL (fun _ => trivial)
    | with_reducible refine gL_house hR hL (fun v1 w1 h1 => ?_)
    | with_reducible refine gX3_house (LW.ms h1) (fun v2 t2 w2 m2 => ?_)
    | with_reducible refine LW.gz h1 (fun _ => trivial)
    | with_reducible refine gi_W h1 hb ?_
    | with_reducible exact next _ _ _ _ _ _ _ _ (LW.ofM h1 m2) (by omega) (by omega)
    | with_reducible exact absurd (show xs (i + 1).toNatClampNeg = 0 by assumption) (by assumption)
    | with_reducible exact absurd (show xs (i + 2).toNatClampNeg = 0 by assumption) (by assumption)
    | with_reducible exact absurd (show xs (i + 3).toNatClampNeg = 0 by assumption) (by assumption)
    | with_reducible exact absurd (show xs (i + 4).toNatClampNeg = 0 by assumption) (by assumption)
    | with_reducible exact absurd (show xs (i + 5).toNatClampNeg = 0 by assumption) (by assumption)
    | simp only [eL_law_2150, eL_law_2150N, eL_law_2151, eL_law_2151N, eL_law_2152, eL_law_2157, eL_law_2157N, eL_law_2158RR, eL_law_2158NR, eL_law_2158RN, eL_law_2158NN, eL_law_2161, eL_law_2163, eL_law_2163N, eL_law_2164, eL_law_2164N, eL_law_2165, eL_law_2170, eL_law_2173, ite_le, n45, n54, true_or, or_true, false_or, or_false, false_and, and_false, kx_l, kx_r, go_s, gl_s, gi_s, gb_s2, gb_s3, gq_s, wt_nil, wt_int, wt_long, wt_ref, wt_null, nl_int, nl_long, nl_ref, nl_null, nl_none, rf_n, rf_s, rf_st, tl_s, tl_n, g0, gS, ex1, nb_b, nb_0, nb_1, nf_i, nf_l, nf_ra, nf_ro, nf_na, nf_no, nf_b0, nf_z0, t45_4, t45_5, true_and, and_true, List.set_cons_zero, List.set_cons_succ, List.length_cons, List.length_nil, rd_s, upw_s, ne_eq, not_false_eq_true, Nat.zero_add, Nat.add_zero, if_true, if_false, eq_self, lgz, n12z, n2z, n3z, i00, not_true]
    | split
    | with_reducible intro _
    | omega
set_option maxHeartbeats 4000000 in
theorem cL_46 (hR : RG g) (hb : g.2 b = some (.inl (1, L, .inl xs))) (hL : LW g w x nA cA lA y nM o kn kn th s s) (v1 : vp_in (i + 1) L) (v2 : vp_in (i + 2) L) (v3 : vp_in (i + 3) L) (v4 : vp_in (i + 4) L) (v5 : vp_in (i + 5) L) (hk : k + 114 ≤ 58408) (hn : n + 2834 ≤ 1451408) (next : (∀ (l5' l6' : Option Value) (w' : Hw) (k' n' : Nat) (kn' th' : Int32) (s' : AS), LW g w' x nA cA lA y nM o kn' kn' th' s' s' → k' ≤ k + 114 → n' ≤ n + 2834 → WP (ML_law g) QLaw (2218, [some (.ref b), some (.ref x), some (.ref y), some (.ref o), some (.int i), l5', l6'], [], w', k', n'))) : WP (ML_law g) QLaw (2178, [some (.ref b), some (.ref x), some (.ref y), some (.ref o), some (.int i), l5, l6], [], w, k, n) := by
  simp only [eL_law_2178, wt_nil, Nat.add_zero]
  with_reducible refine And.intro ?_ ?_
  with_reducible refine LW.gx hL (fun _ => trivial)
  with_reducible refine And.intro ?_ ?_
  omega
  with_reducible refine And.intro ?_ ?_
  omega
  with_reducible refine And.intro ?_ ?_
  omega
  with_reducible refine fX1_knock hL.cs (fun w1 c1 => ?_)
  simp only [eL_law_2182, kx_l, wt_nil, tl_s, Nat.add_zero]
  with_reducible refine And.intro ?_ ?_
  with_reducible refine LW.gz (hL.of c1 hL.ok) (fun _ => trivial)
  with_reducible refine And.intro ?_ ?_
  omega
  with_reducible refine And.intro ?_ ?_
  omega
  with_reducible refine And.intro ?_ ?_
  omega
  with_reducible refine fX3_knock (LW.ms (hL.of c1 hL.ok)) (fun hQqw hQqh => ?_)
  simp only [eL_law_2187, kx_l, tl_s]
  with_reducible exact next _ _ _ _ _ _ _ _ (LW.ofM (hL.of c1 hL.ok) hQqh) (by omega) (by omega)
set_option maxHeartbeats 4000000 in
theorem cL_47 (hR : RG g) (hb : g.2 b = some (.inl (1, L, .inl xs))) (hL : LW g w x nA cA lA y nM o kn kn th s s) (v1 : vp_in (i + 1) L) (v2 : vp_in (i + 2) L) (v3 : vp_in (i + 3) L) (v4 : vp_in (i + 4) L) (v5 : vp_in (i + 5) L) (hk : k + 114 ≤ 58408) (hn : n + 2834 ≤ 1451408) (next : (∀ (l5' l6' : Option Value) (w' : Hw) (k' n' : Nat) (kn' th' : Int32) (s' : AS), LW g w' x nA cA lA y nM o kn' kn' th' s' s' → k' ≤ k + 114 → n' ≤ n + 2834 → WP (ML_law g) QLaw (2218, [some (.ref b), some (.ref x), some (.ref y), some (.ref o), some (.int i), l5', l6'], [], w', k', n'))) : WP (ML_law g) QLaw (2191, [some (.ref b), some (.ref x), some (.ref y), some (.ref o), some (.int i), l5, l6], [], w, k, n) := by
  simp only [eL_law_2191, wt_nil]
  with_reducible refine And.intro ?_ ?_
  with_reducible refine LW.gx hL (fun _ => trivial)
  with_reducible refine And.intro ?_ ?_
  omega
  with_reducible refine And.intro ?_ ?_
  omega
  with_reducible refine And.intro ?_ ?_
  omega
  with_reducible refine sX1_isSound hL.cc (fun v1 w1 k1 => ?_)
  simp only [eL_law_2195, kx_l, wt_nil, tl_s, Nat.add_zero]
  with_reducible refine And.intro ?_ ?_
  with_reducible refine LW.gz (hL.ext k1) (fun _ => trivial)
  with_reducible refine And.intro ?_ ?_
  omega
  with_reducible refine And.intro ?_ ?_
  omega
  with_reducible refine And.intro ?_ ?_
  omega
  with_reducible refine fX3_isSound (LW.ms (hL.ext k1)) (fun hQqw hQqh => ?_)
  simp only [eL_law_2200, kx_l, tl_s]
  with_reducible exact next _ _ _ _ _ _ _ _ (LW.ofM (hL.ext k1) hQqh) (by omega) (by omega)
end
end
/-! 79.cw4.lean.txt -/
section
section
variable {g : RO} {w : Hw} {x nA cA lA y nM o b L k n : Nat} {xs : Nat → Int32} {i kn th : Int32} {s : AS} {l5 l6 : Option Value}
set_option maxHeartbeats 4000000 in
theorem cL_48 (hR : RG g) (hb : g.2 b = some (.inl (1, L, .inl xs))) (hL : LW g w x nA cA lA y nM o kn kn th s s) (v1 : vp_in (i + 1) L) (v2 : vp_in (i + 2) L) (v3 : vp_in (i + 3) L) (v4 : vp_in (i + 4) L) (v5 : vp_in (i + 5) L) (hk : k + 114 ≤ 58408) (hn : n + 2834 ≤ 1451408) (next : (∀ (l5' l6' : Option Value) (w' : Hw) (k' n' : Nat) (kn' th' : Int32) (s' : AS), LW g w' x nA cA lA y nM o kn' kn' th' s' s' → k' ≤ k + 114 → n' ≤ n + 2834 → WP (ML_law g) QLaw (2218, [some (.ref b), some (.ref x), some (.ref y), some (.ref o), some (.int i), l5', l6'], [], w', k', n'))) : WP (ML_law g) QLaw (2204, [some (.ref b), some (.ref x), some (.ref y), some (.ref o), some (.int i), l5, l6], [], w, k, n) := by
  repeat' first
    | with_reducible assumption
    | with_reducible refine And.intro ?_ ?_
    | with_reducible refine gi_W hL hb ?_
    | with_reducible refine LW.gx hL (fun _ => trivial)
    | with_reducible refine fX1_digest hL.cs hL.ok (fun w1 k1 => ?_)
    | with_reducible refine fX3_digest (LW.ms (hL.ext k1)) (fun hQqw hQqh => ?_)
    | with_reducible refine LW.gz (hL.ext k1) (fun _ => trivial)
    | with_reducible refine gi_W (hL.ext k1) hb ?_
    | with_reducible exact next _ _ _ _ _ _ _ _ (LW.ofM (hL.ext k1) hQqh) (by omega) (by omega)
    | with_reducible refine LW.gz (LW.ofM (hL.ext k1) hQqh) (fun _ => trivial)
    | with_reducible refine fX3_thrown (LW.ms (LW.ofM (hL.ext k1) hQqh)) ?_
    | with_reducible exact absurd (show xs (i + 1).toNatClampNeg = 0 by assumption) (by assumption)
    | with_reducible exact absurd (show xs (i + 2).toNatClampNeg = 0 by assumption) (by assumption)
    | with_reducible exact absurd (show xs (i + 3).toNatClampNeg = 0 by assumption) (by assumption)
    | with_reducible exact absurd (show xs (i + 4).toNatClampNeg = 0 by assumption) (by assumption)
    | with_reducible exact absurd (show xs (i + 5).toNatClampNeg = 0 by assumption) (by assumption)
    | simp only [eL_law_2204, eL_law_2204N, eL_law_2205, eL_law_2208, eL_law_2208N, eL_law_2209, eL_law_2212, eL_law_2216, ite_le, n45, n54, true_or, or_true, false_or, or_false, false_and, and_false, kx_l, kx_r, go_s, gl_s, gi_s, gb_s2, gb_s3, gq_s, wt_nil, wt_int, wt_long, wt_ref, wt_null, nl_int, nl_long, nl_ref, nl_null, nl_none, rf_n, rf_s, rf_st, tl_s, tl_n, g0, gS, ex1, nb_b, nb_0, nb_1, nf_i, nf_l, nf_ra, nf_ro, nf_na, nf_no, nf_b0, nf_z0, t45_4, t45_5, true_and, and_true, List.set_cons_zero, List.set_cons_succ, List.length_cons, List.length_nil, rd_s, upw_s, ne_eq, not_false_eq_true, Nat.zero_add, Nat.add_zero, if_true, if_false, eq_self, lgz, n12z, n2z, n3z, i00, not_true]
    | split
    | with_reducible intro _
    | omega
end
end
/-! 79.loop.lean.txt -/
section
section
variable {g : RO} {w : Hw} {x nA cA lA y nM o b L k n : Nat} {xs : Nat → Int32} {i kn th : Int32} {s : AS} {l5 l6 : Option Value}
theorem sw63 (a : Int32) : ∃ m : Nat, m < 64 ∧ a &&& 63 = Int32.ofNat m := by
  refine ⟨(a &&& 63).toBitVec.toNat, ?_, ?_⟩
  · rw [Int32.toBitVec_and, BitVec.toNat_and]
    exact Nat.lt_of_le_of_lt Nat.and_le_right (by decide)
  · apply Int32.toBitVec_inj.mp
    show (a &&& 63).toBitVec = BitVec.ofNat 32 _
    rw [BitVec.ofNat_toNat, BitVec.setWidth_eq]
theorem bud {k k' j c K : Nat} (h : k ≤ K + c * j) (h' : k' ≤ k + c) : k' ≤ K + c * (j + 1) := by
  rw [Nat.mul_succ]
  omega
theorem ofL (h : L ≤ 3072) : (Int32.ofNat L).toInt = (L : Int) := nI_toInt (by omega)
theorem ofL6 (h : L ≤ 3072) : (Int32.ofNat L - 6).toInt = (L : Int) - 6 := by
  have e := ofL h
  have z : (6 : Int32).toInt = 6 := rfl
  rw [i32_sub (by omega) (by omega), e, z]
theorem ad6 {c : Int32} (h0 : 0 ≤ i.toInt) (h1 : i.toInt ≤ 3072) (c0 : 0 ≤ c.toInt) (c1 : c.toInt ≤ 6) : (i + c).toInt = i.toInt + c.toInt := i32_add (by omega) (by omega)
theorem vp6 {c : Int32} (hL3 : L ≤ 3072) (h0 : 0 ≤ i.toInt) (h1 : i.toInt + 6 ≤ (L : Int)) (c0 : 0 ≤ c.toInt) (c1 : c.toInt ≤ 5) : vp_in (i + c) L := by
  have e := ad6 (i := i) (c := c) h0 (by omega) c0 (by omega)
  exact vpin (by omega) (by omega)
set_option maxHeartbeats 8000000 in
theorem sw_law {a : Int32} (hR : RG g) (hb : g.2 b = some (.inl (1, L, .inl xs))) (hL : LW g w x nA cA lA y nM o kn kn th s s) (v1 : vp_in (i + 1) L) (v2 : vp_in (i + 2) L) (v3 : vp_in (i + 3) L) (v4 : vp_in (i + 4) L) (v5 : vp_in (i + 5) L) (hk : k + 114 ≤ 58408) (hn : n + 2834 ≤ 1451408) (next : (∀ (l5' l6' : Option Value) (w' : Hw) (k' n' : Nat) (kn' th' : Int32) (s' : AS), LW g w' x nA cA lA y nM o kn' kn' th' s' s' → k' ≤ k + 114 → n' ≤ n + 2834 → WP (ML_law g) QLaw (2218, [some (.ref b), some (.ref x), some (.ref y), some (.ref o), some (.int i), l5', l6'], [], w', k', n'))) : WP (ML_law g) QLaw (44, [some (.ref b), some (.ref x), some (.ref y), some (.ref o), some (.int i), l5, l6], [.int (a &&& 63)], w, k, n) := by
  obtain ⟨m, hm, e⟩ := sw63 a
  rw [e]
  clear e
  match m, hm with
  | 0, _ => exact (eL_law_44_0 (g := g) (Q := QLaw)).symm ▸ cL_0 hR hb hL v1 v2 v3 v4 v5 hk hn next
  | 1, _ => exact (eL_law_44_1 (g := g) (Q := QLaw)).symm ▸ cL_1 hR hb hL v1 v2 v3 v4 v5 hk hn next
  | 2, _ => exact (eL_law_44_2 (g := g) (Q := QLaw)).symm ▸ cL_2 hR hb hL v1 v2 v3 v4 v5 hk hn next
  | 3, _ => exact (eL_law_44_3 (g := g) (Q := QLaw)).symm ▸ cL_3 hR hb hL v1 v2 v3 v4 v5 hk hn next
  | 4, _ => exact (eL_law_44_4 (g := g) (Q := QLaw)).symm ▸ cL_4 hR hb hL v1 v2 v3 v4 v5 hk hn next
  | 5, _ => exact (eL_law_44_5 (g := g) (Q := QLaw)).symm ▸ cL_5 hR hb hL v1 v2 v3 v4 v5 hk hn next
  | 6, _ => exact (eL_law_44_6 (g := g) (Q := QLaw)).symm ▸ cL_6 hR hb hL v1 v2 v3 v4 v5 hk hn next
  | 7, _ => exact (eL_law_44_7 (g := g) (Q := QLaw)).symm ▸ cL_7 hR hb hL v1 v2 v3 v4 v5 hk hn next
  | 8, _ => exact (eL_law_44_8 (g := g) (Q := QLaw)).symm ▸ cL_8 hR hb hL v1 v2 v3 v4 v5 hk hn next
  | 9, _ => exact (eL_law_44_9 (g := g) (Q := QLaw)).symm ▸ cL_9 hR hb hL v1 v2 v3 v4 v5 hk hn next
  | 10, _ => exact (eL_law_44_10 (g := g) (Q := QLaw)).symm ▸ cL_10 hR hb hL v1 v2 v3 v4 v5 hk hn next
  | 11, _ => exact (eL_law_44_11 (g := g) (Q := QLaw)).symm ▸ cL_11 hR hb hL v1 v2 v3 v4 v5 hk hn next
  | 12, _ => exact (eL_law_44_12 (g := g) (Q := QLaw)).symm ▸ cL_12 hR hb hL v1 v2 v3 v4 v5 hk hn next
  | 13, _ => exact (eL_law_44_13 (g := g) (Q := QLaw)).symm ▸ cL_13 hR hb hL v1 v2 v3 v4 v5 hk hn next
  | 14, _ => exact (eL_law_44_14 (g := g) (Q := QLaw)).symm ▸ cL_14 hR hb hL v1 v2 v3 v4 v5 hk hn next
  | 15, _ => exact (eL_law_44_15 (g := g) (Q := QLaw)).symm ▸ cL_15 hR hb hL v1 v2 v3 v4 v5 hk hn next
  | 16, _ => exact (eL_law_44_16 (g := g) (Q := QLaw)).symm ▸ cL_16 hR hb hL v1 v2 v3 v4 v5 hk hn next
  | 17, _ => exact (eL_law_44_17 (g := g) (Q := QLaw)).symm ▸ cL_17 hR hb hL v1 v2 v3 v4 v5 hk hn next
  | 18, _ => exact (eL_law_44_18 (g := g) (Q := QLaw)).symm ▸ cL_18 hR hb hL v1 v2 v3 v4 v5 hk hn next
  | 19, _ => exact (eL_law_44_19 (g := g) (Q := QLaw)).symm ▸ cL_19 hR hb hL v1 v2 v3 v4 v5 hk hn next
  | 20, _ => exact (eL_law_44_20 (g := g) (Q := QLaw)).symm ▸ cL_20 hR hb hL v1 v2 v3 v4 v5 hk hn next
  | 21, _ => exact (eL_law_44_21 (g := g) (Q := QLaw)).symm ▸ cL_21 hR hb hL v1 v2 v3 v4 v5 hk hn next
  | 22, _ => exact (eL_law_44_22 (g := g) (Q := QLaw)).symm ▸ cL_22 hR hb hL v1 v2 v3 v4 v5 hk hn next
  | 23, _ => exact (eL_law_44_23 (g := g) (Q := QLaw)).symm ▸ cL_23 hR hb hL v1 v2 v3 v4 v5 hk hn next
  | 24, _ => exact (eL_law_44_24 (g := g) (Q := QLaw)).symm ▸ cL_24 hR hb hL v1 v2 v3 v4 v5 hk hn next
  | 25, _ => exact (eL_law_44_25 (g := g) (Q := QLaw)).symm ▸ cL_25 hR hb hL v1 v2 v3 v4 v5 hk hn next
  | 26, _ => exact (eL_law_44_26 (g := g) (Q := QLaw)).symm ▸ cL_26 hR hb hL v1 v2 v3 v4 v5 hk hn next
  | 27, _ => exact (eL_law_44_27 (g := g) (Q := QLaw)).symm ▸ cL_27 hR hb hL v1 v2 v3 v4 v5 hk hn next
  | 28, _ => exact (eL_law_44_28 (g := g) (Q := QLaw)).symm ▸ cL_28 hR hb hL v1 v2 v3 v4 v5 hk hn next
  | 29, _ => exact (eL_law_44_29 (g := g) (Q := QLaw)).symm ▸ cL_29 hR hb hL v1 v2 v3 v4 v5 hk hn next
  | 30, _ => exact (eL_law_44_30 (g := g) (Q := QLaw)).symm ▸ cL_30 hR hb hL v1 v2 v3 v4 v5 hk hn next
  | 31, _ => exact (eL_law_44_31 (g := g) (Q := QLaw)).symm ▸ cL_31 hR hb hL v1 v2 v3 v4 v5 hk hn next
  | 32, _ => exact (eL_law_44_32 (g := g) (Q := QLaw)).symm ▸ cL_32 hR hb hL v1 v2 v3 v4 v5 hk hn next
  | 33, _ => exact (eL_law_44_33 (g := g) (Q := QLaw)).symm ▸ cL_33 hR hb hL v1 v2 v3 v4 v5 hk hn next
  | 34, _ => exact (eL_law_44_34 (g := g) (Q := QLaw)).symm ▸ cL_34 hR hb hL v1 v2 v3 v4 v5 hk hn next
  | 35, _ => exact (eL_law_44_35 (g := g) (Q := QLaw)).symm ▸ cL_35 hR hb hL v1 v2 v3 v4 v5 hk hn next
  | 36, _ => exact (eL_law_44_36 (g := g) (Q := QLaw)).symm ▸ cL_36 hR hb hL v1 v2 v3 v4 v5 hk hn next
  | 37, _ => exact (eL_law_44_37 (g := g) (Q := QLaw)).symm ▸ cL_37 hR hb hL v1 v2 v3 v4 v5 hk hn next
  | 38, _ => exact (eL_law_44_38 (g := g) (Q := QLaw)).symm ▸ cL_38 hR hb hL v1 v2 v3 v4 v5 hk hn next
  | 39, _ => exact (eL_law_44_39 (g := g) (Q := QLaw)).symm ▸ cL_39 hR hb hL v1 v2 v3 v4 v5 hk hn next
  | 40, _ => exact (eL_law_44_40 (g := g) (Q := QLaw)).symm ▸ cL_40 hR hb hL v1 v2 v3 v4 v5 hk hn next
  | 41, _ => exact (eL_law_44_41 (g := g) (Q := QLaw)).symm ▸ cL_41 hR hb hL v1 v2 v3 v4 v5 hk hn next
  | 42, _ => exact (eL_law_44_42 (g := g) (Q := QLaw)).symm ▸ cL_42 hR hb hL v1 v2 v3 v4 v5 hk hn next
  | 43, _ => exact (eL_law_44_43 (g := g) (Q := QLaw)).symm ▸ cL_43 hR hb hL v1 v2 v3 v4 v5 hk hn next
  | 44, _ => exact (eL_law_44_44 (g := g) (Q := QLaw)).symm ▸ cL_44 hR hb hL v1 v2 v3 v4 v5 hk hn next
  | 45, _ => exact (eL_law_44_45 (g := g) (Q := QLaw)).symm ▸ cL_45 hR hb hL v1 v2 v3 v4 v5 hk hn next
  | 46, _ => exact (eL_law_44_46 (g := g) (Q := QLaw)).symm ▸ cL_46 hR hb hL v1 v2 v3 v4 v5 hk hn next
  | 47, _ => exact (eL_law_44_47 (g := g) (Q := QLaw)).symm ▸ cL_47 hR hb hL v1 v2 v3 v4 v5 hk hn next
  | 48, _ => exact (eL_law_44_48 (g := g) (Q := QLaw)).symm ▸ cL_48 hR hb hL v1 v2 v3 v4 v5 hk hn next
  | m + 49, h =>
    have e : (Int32.ofNat (m + 49)).toInt = ((m + 49 : Nat) : Int) := nI_toInt (by omega)
    rw [eL_law_44_d (Or.inr (by omega))]
    exact next _ _ _ _ _ _ _ _ hL (by omega) (by omega)
set_option maxHeartbeats 4000000 in
theorem law_loop (hR : RG g) (hb : g.2 b = some (.inl (1, L, .inl xs))) (hL3 : L ≤ 3072) : ∀ (d j : Nat) (i kn th : Int32) (s : AS) (w : Hw) (l5 l6 : Option Value) (k n : Nat), i.toInt = 6 * (j : Int) → L ≤ 6 * (j + d) → 6 * j ≤ 3072 → LW g w x nA cA lA y nM o kn kn th s s → k ≤ 40 + 114 * j → n ≤ 400 + 2834 * j → WP (ML_law g) QLaw (27, [some (.ref b), some (.ref x), some (.ref y), some (.ref o), some (.int i), l5, l6], [], w, k, n) := by
  intro d
  induction d with
  | zero =>
    intro j i kn th s w l5 l6 k n hi hd hj hL hk hn
    have e := ofL6 hL3
    have lt : Int32.ofNat L - 6 < i := i32_of_lt (by omega)
    simp only [eL_law_27, eL_law_29, eL_law_29N, eL_law_30]
    refine ⟨1, (L, .inl xs), hL.rb hb, by decide, ?_⟩
    simp only [eL_law_31, if_pos lt]
    simp only [eL_law_2224]
    exact ⟨rfl, by omega, by omega, rfl⟩
  | succ d ih =>
    intro j i kn th s w l5 l6 k n hi hd hj hL hk hn
    have e := ofL6 hL3
    simp only [eL_law_27, eL_law_29, eL_law_29N, eL_law_30]
    refine ⟨1, (L, .inl xs), hL.rb hb, by decide, ?_⟩
    simp only [eL_law_31]
    by_cases lt : Int32.ofNat L - 6 < i
    · rw [if_pos lt]
      simp only [eL_law_2224]
      exact ⟨rfl, by omega, by omega, rfl⟩
    · rw [if_neg lt]
      have h6 := i32_nlt lt
      have h0 : 0 ≤ i.toInt := by omega
      have hi6 : i.toInt + 6 ≤ (L : Int) := by omega
      simp only [eL_law_37, eL_law_37N, eL_law_38]
      refine gi_L hL hb ⟨vpin h0 (by omega), ?_⟩
      simp only [eL_law_41]
      refine sw_law hR hb hL (vp6 hL3 h0 hi6 (by decide) (by decide)) (vp6 hL3 h0 hi6 (by decide) (by decide)) (vp6 hL3 h0 hi6 (by decide) (by decide)) (vp6 hL3 h0 hi6 (by decide) (by decide)) (vp6 hL3 h0 hi6 (by decide) (by decide)) (by omega) (by omega) (fun l5' l6' w' k' n' kn' th' s' hL' hk' hn' => ?_)
      simp only [eL_law_2218, nl_ref, nl_int]
      have e6 := ad6 (i := i) (c := 6) h0 (by omega) (by decide) (by decide)
      have z6 : (6 : Int32).toInt = 6 := rfl
      exact ih (j + 1) (i + 6) kn' th' s' w' l5' l6' k' n' (by omega) (by omega) (by omega) hL' (bud hk hk') (bud hn hn')
end
end
/-! 80.start0.lean.txt -/
section
def R_law : String := "RangecardLaw"
def lw_P (b : Addr) (xs : List Int32) (args : Array Value) (s : State) : Prop := args = #[.ref b] ∧ s.IntsAt b xs ∧ xs.length ≤ 3072 ∧ (Jvm.Cond.and given_1 narrow_1).before args s = true
def lw_Q (_ : Array Value) (s : State) (o : Outcome) (t : State) : Prop := o = .returned (some (.int 1)) ∧ Framed s o t [] 688179 7031566
def lw_Z (below : List Frame) (a : Array Value) (s : State) : State → Prop := fun t => ∃ o, t.status = .running ∧ Ended t below o ∧ lw_Q a s o t
/-- what holds at the law's entry: the machine, the code, the tables' words (any of lw_tbl by 'hts w (by decide +kernel)'), the script of L ints xs at the cell b, what the Statement gives of the start (any of its parts by flat_of_before) -/
def lw_At (p : Program) (s : State) (m : MethodId) (meth : Method) (c : Code) (b L : Nat) (xs : Nat → Int32) : Prop :=
  p.tables.exec = Jvm.exec ∧ c.code = code ∧ meth.sig.returnType = ret ∧ c.maxLocals = 7 ∧ s.vm.findClass R_law = some m.cls ∧ (∀ w ∈ lw_tbl, w.before #[Value.ref b] s = true) ∧ va_X b L xs s s.heap ∧ b < s.heap.size ∧ meth.locks = false ∧ (Jvm.Cond.and given_1 narrow_1).before #[Value.ref b] s = true
section
variable {args : Array Value} {s : State}
theorem room_less {pl : Platform} {r R : Room} (hf : r.frames ≤ R.frames) (hl : r.locals ≤ R.locals) (hc : r.cells ≤ R.cells) (hs : r.slots ≤ R.slots) (h : s.hasRoom pl R = true) : s.hasRoom pl r = true := by
  simp only [State.hasRoom, Bool.and_eq_true, decide_eq_true_eq] at h ⊢
  obtain ⟨⟨⟨⟨h1, h2, h3, h4, h5, h6⟩, h7⟩, h8⟩, h9⟩ := h
  exact ⟨⟨⟨⟨by omega, by omega, by omega, by omega, by omega, h6⟩, by omega⟩, by omega⟩, h9⟩
theorem W_room {p : Program} {l : Launch} {e : Env} {R R' : Room} {m : MethodId} {below : List Frame} {meth : Method} {c : Code} {H : Heap} {locs : List Loc} {cells slots : Nat} {Q : State → Prop} {g : JFrame} (hf : R'.frames ≤ R.frames) (hl : R'.locals ≤ R.locals) (hc : R'.cells ≤ R.cells) (hs : R'.slots ≤ R.slots) (k : W p l e R' s m args below meth c H locs cells slots Q g) : W p l e R s m args below meth c H locs cells slots Q g := fun T hT X => k T hT { X with room := room_less hf hl hc hs X.room }
theorem W_post {p : Program} {l : Launch} {e : Env} {R : Room} {m : MethodId} {below : List Frame} {meth : Method} {c : Code} {H : Heap} {locs : List Loc} {cells slots : Nat} {Q Q' : State → Prop} {g : JFrame} (hq : ∀ t, Q t → Q' t) (k : W p l e R s m args below meth c H locs cells slots Q g) : W p l e R s m args below meth c H locs cells slots Q' g := fun T hT X => by
  obtain ⟨t, a, b⟩ := k T hT X
  exact ⟨t, a, hq t b⟩
theorem MQ_end {below : List Frame} {G : GT} {mc ms : Nat} {t : State} (hG : gN G = s.heap.size) (hc : mc ≤ 688179) (hs : ms ≤ 7031566) (h : vx_MQ below (qC G QLaw) (qX G QLaw) args s mc ms (gA G) t) : lw_Z below args s t := by
  obtain ⟨o, h1, h2, h3⟩ := h
  rcases h3 with ⟨⟨v, w', ho, hq, -, -⟩, L, hF, hL⟩ | ⟨q, ho, E, ce, L, ⟨w', hq, -⟩, -⟩
  · have hv : v = some (.int 1) := Sum.inl.inj hq
    subst hv
    obtain ⟨-, hW, hsm⟩ := hF
    exact ⟨o, h1, h2, ho, ⟨_, ho⟩, hW, hsm.weaken (fun y hy hlt => absurd hlt (Nat.not_lt.mpr (hG ▸ hL y hy))) hc hs⟩
  · cases hq
theorem bf_l {a b : Jvm.Cond} {args : Array Value} {s : State} (h : (Jvm.Cond.and a b).before args s = true) : a.before args s = true := by
  rw [Cond.before_and, Bool.and_eq_true] at h
  exact h.1
theorem bf_r {a b : Jvm.Cond} {args : Array Value} {s : State} (h : (Jvm.Cond.and a b).before args s = true) : b.before args s = true := by
  rw [Cond.before_and, Bool.and_eq_true] at h
  exact h.2
theorem st_word {w : Jvm.Cond} (hgv : (Jvm.Cond.and given_1 narrow_1).before args s = true) (i : Nat) (h : (flatC (Jvm.Cond.and given_1 narrow_1))[i]? = some w) : w.before args s = true := flat_of_before _ hgv _ (List.mem_of_getElem? h)
theorem st_sel {y z : MethodName} {C : String} (hz : z.cls = y.cls) (hy : y.cls ≠ "java/lang/invoke/MethodHandle" ∧ y.cls ≠ "java/lang/invoke/VarHandle") (h0 : (Jvm.Cond.selects C z z).before args s = true) (hp : (Jvm.Cond.privateMethod y).before args s = true) (hi : (Jvm.Cond.instanceMethod y).before args s = true) : (Jvm.Cond.selects C y y).before args s = true := by
  obtain ⟨c, r, m, hc, -, hm, -, mk, hmk, hni⟩ := Cond.selects_spec (args := args) (first := s) (o := none) (s := s) (idx := []) h0
  obtain ⟨n, meth, hn, hmeth, -, -⟩ := Cond.instanceMethod_spec (args := args) (first := s) (o := none) (s := s) (idx := []) hi
  have hf : s.methodFound? y.cls y.name y.desc = some n := State.methodFound?_of_named hn hy
  have hcls : n.cls = m.cls := by
    have h1 := findClass_of_methodNamed hn
    have h2 := findClass_of_methodNamed hm
    rw [hz, h1] at h2
    exact Option.some.inj h2
  have hsel : selectMethod {} s.vm c n = .method n := selectMethod_private hmeth (Cond.privateMethod_at hp n meth hn hmeth)
  simp only [Cond.before, Cond.holds, Cond.value, hc, hf, hn, hsel, hcls, hmk]
  simp [hni]
theorem asb_in : ∀ y ∈ asbP, y.cls = "java/lang/AbstractStringBuilder" ∧ Jvm.Cond.privateMethod y ∈ lw_tbl ∧ Jvm.Cond.instanceMethod y ∈ lw_tbl := List.forall_mem_cons.mpr ⟨⟨rfl, (tm_3 (List.mem_of_getElem? (i := 10) (by eq_refl))), (tm_3 (List.mem_of_getElem? (i := 11) (by eq_refl)))⟩, List.forall_mem_cons.mpr ⟨⟨rfl, (tm_3 (List.mem_of_getElem? (i := 14) (by eq_refl))), (tm_3 (List.mem_of_getElem? (i := 15) (by eq_refl)))⟩, List.forall_mem_cons.mpr ⟨⟨rfl, (tm_3 (List.mem_of_getElem? (i := 227) (by eq_refl))), (tm_3 (List.mem_of_getElem? (i := 228) (by eq_refl)))⟩, List.forall_mem_cons.mpr ⟨⟨rfl, (tm_3 (List.mem_of_getElem? (i := 231) (by eq_refl))), (tm_3 (List.mem_of_getElem? (i := 232) (by eq_refl)))⟩, fun _ h => absurd h List.not_mem_nil⟩⟩⟩⟩
theorem st_WS (hts : ∀ w ∈ lw_tbl, w.before args s = true) : ∀ w ∈ WS, w.before args s = true := by
  intro w hw
  rcases List.mem_append.mp hw with h | h
  · obtain ⟨y, hy, rfl⟩ := List.mem_map.mp h
    obtain ⟨h1, h2, h3⟩ := asb_in y hy
    refine st_sel (z := ⟨"java/lang/AbstractStringBuilder", "isLatin1", "()Z"⟩) h1.symm ?_ (hts _ (tm_3 (List.mem_of_getElem? (i := 47) (by eq_refl)))) (hts _ h2) (hts _ h3)
    rw [h1]
    decide
  · exact hts w (List.mem_filter.mp h).1
theorem sW_0 : ∀ w ∈ u_ws RJ0 TJ0 4, w ∈ WS := lay_in fun k hk => match k, hk with | 0, _ => WS_t4 15 (by eq_refl) (by eq_refl) | 1, _ => WS_t4 17 (by eq_refl) (by eq_refl) | 2, _ => WS_t4 19 (by eq_refl) (by eq_refl) | 3, _ => WS_t4 21 (by eq_refl) (by eq_refl) | k + 4, hk => absurd hk (Nat.not_lt.mpr (Nat.le_add_left _ _))
theorem sW_1 : ∀ w ∈ u_ws RJ4 TJ4 4, w ∈ WS := lay_in fun k hk => match k, hk with | 0, _ => WS_t2 223 (by eq_refl) (by eq_refl) | 1, _ => WS_t2 225 (by eq_refl) (by eq_refl) | 2, _ => WS_t2 227 (by eq_refl) (by eq_refl) | 3, _ => WS_t2 229 (by eq_refl) (by eq_refl) | k + 4, hk => absurd hk (Nat.not_lt.mpr (Nat.le_add_left _ _))
theorem sW_2 : ∀ w ∈ u_ws RJx35411 TJx35411 4, w ∈ WS := lay_in fun k hk => match k, hk with | 0, _ => WS_t7 52 (by eq_refl) (by eq_refl) | 1, _ => WS_t7 54 (by eq_refl) (by eq_refl) | 2, _ => WS_t7 56 (by eq_refl) (by eq_refl) | 3, _ => WS_t7 58 (by eq_refl) (by eq_refl) | k + 4, hk => absurd hk (Nat.not_lt.mpr (Nat.le_add_left _ _))
theorem sW_3 : ∀ w ∈ u_ws RJx4a65c TJx4a65c 3, w ∈ WS := lay_in fun k hk => match k, hk with | 0, _ => WS_t5 128 (by eq_refl) (by eq_refl) | 1, _ => WS_t5 124 (by eq_refl) (by eq_refl) | 2, _ => WS_t5 126 (by eq_refl) (by eq_refl) | k + 3, hk => absurd hk (Nat.not_lt.mpr (Nat.le_add_left _ _))
theorem sW_4 : ∀ w ∈ u_ws RX0 TX0 4, w ∈ WS := lay_in fun k hk => match k, hk with | 0, _ => WS_t1 109 (by eq_refl) (by eq_refl) | 1, _ => WS_t1 111 (by eq_refl) (by eq_refl) | 2, _ => WS_t1 113 (by eq_refl) (by eq_refl) | 3, _ => WS_t1 115 (by eq_refl) (by eq_refl) | k + 4, hk => absurd hk (Nat.not_lt.mpr (Nat.le_add_left _ _))
theorem sW_5 : ∀ w ∈ u_ws RX1 TX1 7, w ∈ WS := lay_in fun k hk => match k, hk with | 0, _ => WS_t1 47 (by eq_refl) (by eq_refl) | 1, _ => WS_t1 49 (by eq_refl) (by eq_refl) | 2, _ => WS_t1 51 (by eq_refl) (by eq_refl) | 3, _ => WS_t1 53 (by eq_refl) (by eq_refl) | 4, _ => WS_t1 55 (by eq_refl) (by eq_refl) | 5, _ => WS_t1 57 (by eq_refl) (by eq_refl) | 6, _ => WS_t1 59 (by eq_refl) (by eq_refl) | k + 7, hk => absurd hk (Nat.not_lt.mpr (Nat.le_add_left _ _))
theorem sW_6 : ∀ w ∈ u_ws RX2 TX2 2, w ∈ WS := lay_in fun k hk => match k, hk with | 0, _ => WS_t2 42 (by eq_refl) (by eq_refl) | 1, _ => WS_t2 44 (by eq_refl) (by eq_refl) | k + 2, hk => absurd hk (Nat.not_lt.mpr (Nat.le_add_left _ _))
theorem sW_7 : ∀ w ∈ u_ws RX3 TX3 7, w ∈ WS := lay_in fun k hk => match k, hk with | 0, _ => WS_t5 181 (by eq_refl) (by eq_refl) | 1, _ => WS_t5 183 (by eq_refl) (by eq_refl) | 2, _ => WS_t5 185 (by eq_refl) (by eq_refl) | 3, _ => WS_t5 187 (by eq_refl) (by eq_refl) | 4, _ => WS_t5 189 (by eq_refl) (by eq_refl) | 5, _ => WS_t5 191 (by eq_refl) (by eq_refl) | 6, _ => WS_t5 193 (by eq_refl) (by eq_refl) | k + 7, hk => absurd hk (Nat.not_lt.mpr (Nat.le_add_left _ _))
theorem ite_inv {q b : Nat} {x y z : Option Ob} (h : (if q = b then x else y) = z) : (q = b ∧ x = z) ∨ (¬ q = b ∧ y = z) := by
  by_cases e : q = b
  · exact Or.inl ⟨e, (if_pos e).symm.trans h⟩
  · exact Or.inr ⟨e, (if_neg e).symm.trans h⟩
theorem st_arr {ty : FieldType} (h : (Jvm.Cond.arrayClass ty).before args s = true) : ∃ c : ClassId, s.vm.findClass ("[" ++ ty.toString) = some c ∧ ArrOfT s c ty := by
  obtain ⟨c, k, comp, h1, h2, h3⟩ := Cond.arrayClass_spec (args := args) (first := s) (o := none) (s := s) (idx := []) h
  exact ⟨c, h1, fun N z => ⟨(fun k h => by cases h), k, h2, comp, h3⟩⟩
theorem st_arrO {C : String} (h : (Jvm.Cond.arrayOver (.object C)).before args s = true) : ∃ c : ClassId, ArrOfT s c (.object C) ∧ va_RA s c (.object C) := by
  obtain ⟨comp, c, k, h1, -, h3, h4, h5⟩ := Cond.arrayOver_spec (args := args) (first := s) (o := none) (s := s) (idx := []) h
  exact ⟨c, fun N z => ⟨(fun k h => by cases h), k, h3, comp, h4⟩, k, comp, h3, h4, h1, h5⟩
theorem T_ne {ty ty' : FieldType} {t t' N N' : Nat} {f f' : Nat → Value} {A : Nat → Prop} {H : Heap} (h : va_T ty t N f A s H) (h' : va_T ty' t' N' f' A s H) (hne : ty ≠ ty' ∨ Int32.ofNat N ≠ Int32.ofNat N' ∨ ∃ j, j < N ∧ j < N' ∧ f j ≠ f' j) : t ≠ t' := by
  rintro rfl
  obtain ⟨cell, h1, ⟨h2, k, hk, comp, hkind⟩, h3, h4, h5, h6, h7⟩ := h
  obtain ⟨cell', g1, ⟨g2, k', hk', comp', hkind'⟩, g3, g4, g5, g6, g7⟩ := h'
  cases h1.symm.trans g1
  cases hk.symm.trans hk'
  rcases hne with e | e | ⟨j, j1, j2, e⟩
  · have q := hkind.symm.trans hkind'
    injection q with q1 q2
    exact e q2
  · exact e (h5.symm.trans g5)
  · exact e (Option.some.inj ((h6 j j1).symm.trans (g6 j j2)))
theorem T_neO {ty : FieldType} {t q N : Nat} {f : Nat → Value} {A : Nat → Prop} {H : Heap} {C : String} {c0 : ClassId} {cell : Cell} (h : va_T ty t N f A s H) (hc : H[q]? = some cell) (hcls : cell.cls = c0) (ha : ClassAt s C c0) : t ≠ q := by
  rintro rfl
  obtain ⟨cell', h1, ⟨h2, k, hk, comp, hkind⟩, -⟩ := h
  cases h1.symm.trans hc
  obtain ⟨-, kC, hkC, hord⟩ := ha
  rw [hcls, hkC] at hk
  cases hk
  rw [hord] at hkind
  cases hkind
/-- an old text: its object, its bytes -/
theorem st_string {G : GT} (hK : u_Kn s RJ0 TJ0 4 (G.1 0) (G.2.1 0)) (hWS : ∀ w ∈ WS, w.before args s = true) (hA : ∀ a : Nat, a < s.heap.size → ¬ gA G a) {own : String} {k n : Nat} {f : Nat → Int32} (hn : n < 2 ^ 31) (hex : (Jvm.Cond.exactly (.string own k) "java/lang/String").before args s = true) (hco : (Jvm.Cond.eq (.field (.string own k) "java/lang/String" "coder" "B") (.int 0)).before args s = true) (har : (Jvm.Cond.arrayOf (.field (.string own k) "java/lang/String" "value" "[B") .byte).before args s = true) (hle : (Jvm.Cond.eq (.length (.field (.string own k) "java/lang/String" "value" "[B")) (.int (Int32.ofNat n))).before args s = true) (hel : ∀ j : Nat, j < n → (Jvm.Cond.eq (.elem (.field (.string own k) "java/lang/String" "value" "[B") (.int (Int32.ofNat j))) (.int (f j))).before args s = true) :
    ∃ (a v : Nat) (h z : Value) (cell : Cell), (Jvm.Term.string own k).eval args s none [] s = some (.ref a) ∧ oA G s.heap s a (.inr (0, [.ref v, .int 0, h, z])) ∧ va_T .byte v n (fun j => .int (f j)) (gA G) s s.heap ∧ s.heap[a]? = some cell ∧ cell.cls = G.1 0 ∧ cell.slots[G.2.1 0 0]? = some (.ref v) := by
  obtain ⟨a, c, cA, kA, q1, q2, q3, q4, q5, q6, q7⟩ := Cond.exactly_spec (args := args) (first := s) (o := none) (s := s) (idx := []) hex
  obtain ⟨kC, hkC, hord⟩ := hK.2.2
  have hc : c = G.1 0 := Option.some.inj (q2.symm.trans hK.2.1)
  subst hc
  cases q4.symm.trans hkC
  have hsize := q7 hord
  obtain ⟨v, ht, hT⟩ := va_Tof (f := fun j => .int (f j)) (A := gA G) hn har (va_eqt hle) (fun j hj => va_eqt (hel j hj)) hA
  obtain ⟨cf1, k1, i1, f1, cell1, g1, g2, g3, g4, g5, g6⟩ := (vk_OFof q1 (va_eqt hco) hA : va_OF "java/lang/String" "coder" "B" (.int 0) a (gA G) s s.heap)
  obtain ⟨cf0, k0, i0, f0, cell0, m1, m2, m3, m4, m5, m6⟩ := (vk_OFof q1 ht hA : va_OF "java/lang/String" "value" "[B" (.ref v) a (gA G) s s.heap)
  cases q3.symm.trans g3
  cases q3.symm.trans m3
  have hslot : ∀ k, k < 4 → ∃ x, cA.slots[G.2.1 0 k]? = some x := fun k hk => by
    obtain ⟨cf, kf, fi, fd, hi, hsl⟩ := hK.1 k hk
    have h9 := (u_facts hK.2.1 hkC (u_lays hWS sW_0 hk) hi).2.2
    have h8 := (Array.getElem?_eq_some_iff.mp h9).1
    exact ⟨_, Array.getElem?_eq_getElem (by rw [← hsl, hsize]; exact h8)⟩
  obtain ⟨h, hh⟩ := hslot 2 (by decide)
  obtain ⟨z, hz⟩ := hslot 3 (by decide)
  have e0 : cA.slots[G.2.1 0 0]? = some (.ref v) := by
    obtain ⟨cf, kf, fi, fd, hi, hsl⟩ := hK.1 0 (by decide)
    have e : s.fieldFound? "java/lang/String" "value" "[B" = some (cf, kf, fi, fd) := hi
    cases m1.symm.trans e
    rw [← hsl]
    exact m5
  have e1 : cA.slots[G.2.1 0 1]? = some (.int 0) := by
    obtain ⟨cf, kf, fi, fd, hi, hsl⟩ := hK.1 1 (by decide)
    have e : s.fieldFound? "java/lang/String" "coder" "B" = some (cf, kf, fi, fd) := hi
    cases g1.symm.trans e
    rw [← hsl]
    exact g5
  refine ⟨a, v, h, z, cA, q1, ⟨(RJ0, TJ0, 4), cA, rfl, q3, q5, g4, q6, fun k hk => ?_, hA a (Array.getElem?_eq_some_iff.mp q3).1⟩, hT, q3, q6, e0⟩
  have hk4 : k < 4 := hk
  rcases (show k = 0 ∨ k = 1 ∨ k = 2 ∨ k = 3 by omega) with rfl | rfl | rfl | rfl
  · exact e0
  · exact e1
  · exact hh
  · exact hz
theorem CSL_in : ∀ q ∈ CSL, Jvm.Cond.castable q.1 q.2 ∈ lw_tbl := List.forall_mem_cons.mpr ⟨(tm_2 (List.mem_of_getElem? (i := 60) (by eq_refl))), List.forall_mem_cons.mpr ⟨(tm_2 (List.mem_of_getElem? (i := 147) (by eq_refl))), List.forall_mem_cons.mpr ⟨(tm_4 (List.mem_of_getElem? (i := 102) (by eq_refl))), List.forall_mem_cons.mpr ⟨(tm_7 (List.mem_of_getElem? (i := 197) (by eq_refl))), List.forall_mem_cons.mpr ⟨(tm_3 (List.mem_of_getElem? (i := 36) (by eq_refl))), fun _ h => absurd h List.not_mem_nil⟩⟩⟩⟩⟩
theorem NCL_in : ∀ q ∈ NCL, Jvm.Cond.not (Jvm.Cond.castable q.1 q.2) ∈ flatC (Jvm.Cond.and given_1 narrow_1) := by decide +kernel
theorem STL_in : ∀ q ∈ STL, Jvm.Cond.stringRef q.1 q.2.1 q.2.2 ∈ lw_tbl ∧ Jvm.Cond.exactly (.string q.1 q.2.1) "java/lang/String" ∈ flatC (Jvm.Cond.and given_1 narrow_1) := List.forall_mem_cons.mpr ⟨⟨(tm_5 (List.mem_of_getElem? (i := 2) (by eq_refl))), by decide +kernel⟩, List.forall_mem_cons.mpr ⟨⟨(tm_2 (List.mem_of_getElem? (i := 99) (by eq_refl))), by decide +kernel⟩, List.forall_mem_cons.mpr ⟨⟨(tm_4 (List.mem_of_getElem? (i := 41) (by eq_refl))), by decide +kernel⟩, List.forall_mem_cons.mpr ⟨⟨(tm_5 (List.mem_of_getElem? (i := 81) (by eq_refl))), by decide +kernel⟩, List.forall_mem_cons.mpr ⟨⟨(tm_2 (List.mem_of_getElem? (i := 154) (by eq_refl))), by decide +kernel⟩, List.forall_mem_cons.mpr ⟨⟨(tm_4 (List.mem_of_getElem? (i := 109) (by eq_refl))), by decide +kernel⟩, fun _ h => absurd h List.not_mem_nil⟩⟩⟩⟩⟩⟩
theorem AOL_in : ∀ C ∈ AOL, Jvm.Cond.arrayOver (.object C) ∈ lw_tbl := List.forall_mem_cons.mpr ⟨(tm_1 (List.mem_of_getElem? (i := 39) (by eq_refl))), List.forall_mem_cons.mpr ⟨(tm_5 (List.mem_of_getElem? (i := 170) (by eq_refl))), fun _ h => absurd h List.not_mem_nil⟩⟩
theorem IFL_in : ∀ q ∈ IFL, Jvm.Cond.declares q.2.1 ∈ lw_tbl ∧ Jvm.Cond.interfaceMethod q.2.1.cls q.2.1.cls q.2.1.name q.2.1.desc ∈ lw_tbl ∧ Jvm.Cond.publicMethod q.2.2 ∈ lw_tbl ∧ Jvm.Cond.unhidden q.1 q.2.1.name q.2.1.desc ∈ lw_tbl ∧ Jvm.Cond.castable q.1 q.2.1.cls ∈ lw_tbl := List.forall_mem_cons.mpr ⟨⟨(tm_7 (List.mem_of_getElem? (i := 64) (by eq_refl))), (tm_7 (List.mem_of_getElem? (i := 63) (by eq_refl))), (tm_7 (List.mem_of_getElem? (i := 69) (by eq_refl))), (tm_7 (List.mem_of_getElem? (i := 67) (by eq_refl))), (tm_7 (List.mem_of_getElem? (i := 65) (by eq_refl)))⟩, List.forall_mem_cons.mpr ⟨⟨(tm_7 (List.mem_of_getElem? (i := 74) (by eq_refl))), (tm_7 (List.mem_of_getElem? (i := 73) (by eq_refl))), (tm_7 (List.mem_of_getElem? (i := 78) (by eq_refl))), (tm_7 (List.mem_of_getElem? (i := 76) (by eq_refl))), (tm_7 (List.mem_of_getElem? (i := 65) (by eq_refl)))⟩, fun _ h => absurd h List.not_mem_nil⟩⟩
theorem DO_in : ∀ j : Nat, j < 100 → (flatC (Jvm.Cond.and given_1 narrow_1))[10 + j]? = some (Jvm.Cond.eq (.elem (.static "java/lang/Integer" "DigitOnes" "[B") (.int (Int32.ofNat j))) (.int (Int32.ofNat (48 + j % 10)))) := by decide +kernel
theorem DT_in : ∀ j : Nat, j < 100 → (flatC (Jvm.Cond.and given_1 narrow_1))[113 + j]? = some (Jvm.Cond.eq (.elem (.static "java/lang/Integer" "DigitTens" "[B") (.int (Int32.ofNat j))) (.int (Int32.ofNat (48 + j / 10)))) := by decide +kernel
theorem st_eval {own : String} {k : Nat} (h : (Jvm.Cond.exactly (.string own k) "java/lang/String").before args s = true) : ∃ a : Nat, (Jvm.Term.string own k).eval args s none [] s = some (.ref a) := by
  obtain ⟨a, c, cA, kA, q1, -⟩ := Cond.exactly_spec (args := args) (first := s) (o := none) (s := s) (idx := []) h
  exact ⟨a, q1⟩
end
/-- the facts of the old heap that the law's walk asks -/
def SR (g : RO) (b L : Nat) (xs : Nat → Int32) : Prop := g.2 b = some (.inl (1, L, .inl xs)) ∧ (g.1 1 = .int 1 ∧ g.1 30 = .int 2147483639 ∧ g.1 32 = .int 2147483647) ∧ (∃ e : Nat, g.1 0 = .ref e ∧ g.2 e = some (.inl (5, 0, .inr (.inr (.inr (.inr fun _ => none)))))) ∧ (∃ mi : Nat, g.1 10 = .ref mi) ∧
  (∃ (a : Nat) (f : Nat → Int32), g.1 2 = .ref a ∧ g.2 a = some (.inl (2, 100, .inl f))) ∧ (∃ (a : Nat) (f : Nat → Int32), g.1 3 = .ref a ∧ g.2 a = some (.inl (2, 100, .inl f))) ∧ (∃ s : Nat, g.1 20 = .ref s) ∧ (∃ s : Nat, g.1 22 = .ref s) ∧
  (∃ (s v : Nat) (h z : Value), g.1 21 = .ref s ∧ g.2 s = some (.inr (0, [.ref v, .int 0, h, z])) ∧ g.2 v = some (.inl (2, 0, .inl fun _ => 0))) ∧ ∃ (s v : Nat) (h z : Value), g.1 23 = .ref s ∧ g.2 s = some (.inr (0, [.ref v, .int 0, h, z])) ∧ g.2 v = some (.inl (2, 1, .inl fun _ => 32))
set_option maxHeartbeats 4000000 in
theorem st_G {p : Program} {s : State} {m : MethodId} {meth : Method} {c : Code} {b L : Nat} {xs : Nat → Int32} (C0 : lw_At p s m meth c b L xs) : ∃ G : GT, gN G = s.heap.size ∧ gK G s ∧ GBg G s ∧ SR (gg G) b L xs := by
  obtain ⟨hx, hb, hr, hml, hown, hts, hX, hbl, hlocks, hgv⟩ := C0
  have hW := st_WS hts
  obtain ⟨c0, i0, k0⟩ := u_known hW sW_0 (hts (.instantiable RJ0 4) (tm_3 (List.mem_of_getElem? (i := 167) (by eq_refl))))
  obtain ⟨c1, i1, k1⟩ := u_known hW sW_1 (hts (.instantiable RJ4 4) (tm_2 (List.mem_of_getElem? (i := 202) (by eq_refl))))
  obtain ⟨c2, i2, k2⟩ := u_known hW sW_2 (hts (.instantiable RJx35411 4) (tm_7 (List.mem_of_getElem? (i := 43) (by eq_refl))))
  obtain ⟨c3, i3, k3⟩ := u_known hW sW_3 (hts (.instantiable RJx4a65c 3) (tm_5 (List.mem_of_getElem? (i := 103) (by eq_refl))))
  obtain ⟨c4, i4, k4⟩ := u_known hW sW_4 (hts (.instantiable RX0 4) (tm_1 (List.mem_of_getElem? (i := 96) (by eq_refl))))
  obtain ⟨c5, i5, k5⟩ := u_known hW sW_5 (hts (.instantiable RX1 7) (tm_1 (List.mem_of_getElem? (i := 31) (by eq_refl))))
  obtain ⟨c6, i6, k6⟩ := u_known hW sW_6 (hts (.instantiable RX2 2) (tm_2 (List.mem_of_getElem? (i := 35) (by eq_refl))))
  obtain ⟨c7, i7, k7⟩ := u_known hW sW_7 (hts (.instantiable RX3 7) (tm_5 (List.mem_of_getElem? (i := 97) (by eq_refl))))
  obtain ⟨a0, f0, r0⟩ := st_arr (hts (.arrayClass .long) (tm_1 (List.mem_of_getElem? (i := 62) (by eq_refl))))
  obtain ⟨a1, f1, r1⟩ := st_arr (hts (.arrayClass .int) (tm_7 (List.mem_of_getElem? (i := 151) (by eq_refl))))
  obtain ⟨a2, f2, r2⟩ := st_arr (hts (.arrayClass .byte) (tm_2 (List.mem_of_getElem? (i := 125) (by eq_refl))))
  obtain ⟨a3, f3, r3⟩ := st_arr (hts (.arrayClass .boolean) (tm_7 (List.mem_of_getElem? (i := 142) (by eq_refl))))
  obtain ⟨a4, r4, f4⟩ := st_arrO (hts (.arrayOver (.object "Rangecard$Range")) (tm_1 (List.mem_of_getElem? (i := 39) (by eq_refl))))
  obtain ⟨a5, r5, f5⟩ := st_arrO (hts (.arrayOver (.object "java/lang/Object")) (tm_5 (List.mem_of_getElem? (i := 170) (by eq_refl))))
  have hAA : ∀ a : Nat, a < s.heap.size → ¬ s.heap.size ≤ a := fun a h => Nat.not_le.mpr h
  obtain ⟨scr, x1, x2, x3, x4, x5⟩ := hX
  have tB : va_T .int b L (fun j => .int (xs j)) (fun q => s.heap.size ≤ q) s s.heap := ⟨scr, x1, x2, x3, by omega, by rw [x4], x5, hAA b hbl⟩
  obtain ⟨ae, ve, tE⟩ := va_Tof (tm := .static "java/util/ArrayList" "DEFAULTCAPACITY_EMPTY_ELEMENTDATA" "[Ljava/lang/Object;") (ty := .object "java/lang/Object") (N := 0) (f := fun _ => .null) (A := fun q => s.heap.size ≤ q) (by decide) (bf_l (bf_r (bf_r (bf_l (bf_r (bf_l (bf_r (bf_r (bf_l (bf_r hgv)))))))))) (va_eqt (bf_l (bf_l (bf_l (bf_r (bf_r (bf_l (bf_r (bf_r (bf_l (bf_r hgv))))))))))) (fun j hj => absurd hj (Nat.not_lt_zero j)) hAA
  obtain ⟨ao, vo, tO⟩ := va_Tof (tm := .static "java/lang/Integer" "DigitOnes" "[B") (ty := .byte) (N := 100) (f := fun j => .int (Int32.ofNat (48 + j % 10))) (A := fun q => s.heap.size ≤ q) (by decide) (bf_l (bf_r (bf_r (bf_l (bf_l (bf_l (bf_l (bf_l (bf_l (bf_r hgv)))))))))) (va_eqt (bf_r (bf_r (bf_r (bf_l (bf_l (bf_l (bf_l (bf_l (bf_l (bf_r hgv))))))))))) (fun j hj => va_eqt (st_word hgv _ (DO_in j hj))) hAA
  obtain ⟨at_, vt, tT⟩ := va_Tof (tm := .static "java/lang/Integer" "DigitTens" "[B") (ty := .byte) (N := 100) (f := fun j => .int (Int32.ofNat (48 + j / 10))) (A := fun q => s.heap.size ≤ q) (by decide) (bf_r (bf_l (bf_r (bf_r (bf_l (bf_r (bf_r (bf_l (bf_l (bf_r hgv)))))))))) (va_eqt (bf_l (bf_r (bf_r (bf_r (bf_l (bf_r (bf_r (bf_l (bf_l (bf_r hgv))))))))))) (fun j hj => va_eqt (st_word hgv _ (DT_in j hj))) hAA
  obtain ⟨s20, h20⟩ := st_eval (own := "Rangecard") (k := 144) (bf_l (bf_r (bf_r (bf_r (bf_r (bf_l (bf_r (bf_l (bf_r (bf_r hgv))))))))))
  obtain ⟨s22, h22⟩ := st_eval (own := "RangecardModel") (k := 145) (bf_l (bf_l (bf_l (bf_r (bf_l (bf_r (bf_l (bf_r (bf_r (bf_r hgv))))))))))
  obtain ⟨mi, hmi⟩ := va_Mi.of (C := "[Ljava/lang/Object;") (bf_r (bf_l (bf_l (bf_l (bf_l (bf_l (bf_l (bf_l (bf_r (bf_r hgv))))))))))
  let dC : Nat → ClassId := fun k => [c0, c1, c2, c3, c4, c5, c6, c7].getD k c0
  let dI : Nat → Nat → Nat := fun k => [i0, i1, i2, i3, i4, i5, i6, i7].getD k i0
  let dA : Nat → ClassId := fun k => [a0, a1, a2, a3, a4, a5].getD k a0
  have hS1 : ∀ g : RO, u_Kn s RJ0 TJ0 4 (dC 0) (dI 0) := fun _ => k0
  obtain ⟨s21, v21, h21, z21, ce21, e21, o21, t21, q21, w21, u21⟩ := st_string (G := (dC, dI, dA, s.heap.size, (fun _ => .null, fun _ => none))) (own := "RangecardModel") (k := 76) (n := 0) (f := fun _ => 0) k0 hW hAA (by decide) (bf_l (bf_l (bf_r (bf_r (bf_r (bf_l (bf_l (bf_r (bf_r (bf_r hgv)))))))))) (bf_r (bf_l (bf_r (bf_r (bf_r (bf_l (bf_l (bf_r (bf_r (bf_r hgv)))))))))) (bf_l (bf_r (bf_r (bf_r (bf_r (bf_l (bf_l (bf_r (bf_r (bf_r hgv)))))))))) (bf_r (bf_r (bf_r (bf_r (bf_r (bf_l (bf_l (bf_r (bf_r (bf_r hgv)))))))))) (fun j hj => absurd hj (Nat.not_lt_zero j))
  obtain ⟨s23, v23, h23, z23, ce23, e23, o23, t23, q23, w23, u23⟩ := st_string (G := (dC, dI, dA, s.heap.size, (fun _ => .null, fun _ => none))) (own := "RangecardModel") (k := 147) (n := 1) (f := fun _ => 32) k0 hW hAA (by decide) (bf_l (bf_r (bf_r (bf_l (bf_r (bf_r (bf_l (bf_r (bf_r (bf_r hgv)))))))))) (bf_r (bf_r (bf_r (bf_l (bf_r (bf_r (bf_l (bf_r (bf_r (bf_r hgv)))))))))) (bf_l (bf_l (bf_l (bf_r (bf_r (bf_r (bf_l (bf_r (bf_r (bf_r hgv)))))))))) (bf_r (bf_l (bf_l (bf_r (bf_r (bf_r (bf_l (bf_r (bf_r (bf_r hgv)))))))))) (fun j hj => by
    obtain rfl : j = 0 := by omega
    exact (bf_l (bf_r (bf_l (bf_r (bf_r (bf_r (bf_l (bf_r (bf_r (bf_r hgv)))))))))))
  have hcl : ClassAt s RJ0 c0 := k0.2
  have n1 : ae ≠ b := T_ne tE tB (Or.inl (by decide))
  have n2 : ao ≠ b := T_ne tO tB (Or.inl (by decide))
  have n3 : ao ≠ ae := T_ne tO tE (Or.inl (by decide))
  have n4 : at_ ≠ b := T_ne tT tB (Or.inl (by decide))
  have n5 : at_ ≠ ae := T_ne tT tE (Or.inl (by decide))
  have n6 : at_ ≠ ao := T_ne tT tO (Or.inr (Or.inr ⟨1, by decide, by decide, by decide⟩))
  have n7 : v21 ≠ b := T_ne t21 tB (Or.inl (by decide))
  have n8 : v21 ≠ ae := T_ne t21 tE (Or.inl (by decide))
  have n9 : v21 ≠ ao := T_ne t21 tO (Or.inr (Or.inl (by decide)))
  have n10 : v21 ≠ at_ := T_ne t21 tT (Or.inr (Or.inl (by decide)))
  have n11 : v23 ≠ b := T_ne t23 tB (Or.inl (by decide))
  have n12 : v23 ≠ ae := T_ne t23 tE (Or.inl (by decide))
  have n13 : v23 ≠ ao := T_ne t23 tO (Or.inr (Or.inl (by decide)))
  have n14 : v23 ≠ at_ := T_ne t23 tT (Or.inr (Or.inl (by decide)))
  have n15 : v23 ≠ v21 := T_ne t23 t21 (Or.inr (Or.inl (by decide)))
  have n16 : s21 ≠ b := (T_neO tB q21 w21 hcl).symm
  have n17 : s21 ≠ ae := (T_neO tE q21 w21 hcl).symm
  have n18 : s21 ≠ ao := (T_neO tO q21 w21 hcl).symm
  have n19 : s21 ≠ at_ := (T_neO tT q21 w21 hcl).symm
  have n20 : s21 ≠ v21 := (T_neO t21 q21 w21 hcl).symm
  have n21 : s21 ≠ v23 := (T_neO t23 q21 w21 hcl).symm
  have n22 : s23 ≠ b := (T_neO tB q23 w23 hcl).symm
  have n23 : s23 ≠ ae := (T_neO tE q23 w23 hcl).symm
  have n24 : s23 ≠ ao := (T_neO tO q23 w23 hcl).symm
  have n25 : s23 ≠ at_ := (T_neO tT q23 w23 hcl).symm
  have n26 : s23 ≠ v21 := (T_neO t21 q23 w23 hcl).symm
  have n27 : s23 ≠ v23 := (T_neO t23 q23 w23 hcl).symm
  have n28 : s23 ≠ s21 := by
    rintro rfl
    cases q21.symm.trans q23
    cases u21.symm.trans u23
    exact n15 rfl
  let old : Hw := fun q => if q = b then some (.inl (1, L, .inl xs)) else if q = ae then some (.inl (5, 0, .inr (.inr (.inr (.inr fun _ => none))))) else if q = ao then some (.inl (2, 100, .inl fun j => Int32.ofNat (48 + j % 10))) else if q = at_ then some (.inl (2, 100, .inl fun j => Int32.ofNat (48 + j / 10))) else if q = v21 then some (.inl (2, 0, .inl fun _ => 0)) else if q = v23 then some (.inl (2, 1, .inl fun _ => 32)) else if q = s21 then some (.inr (0, [.ref v21, .int 0, h21, z21])) else if q = s23 then some (.inr (0, [.ref v23, .int 0, h23, z23])) else none
  let val : Nat → Value := fun i => match i with
    | 0 => .ref ae
    | 1 => .int 1
    | 2 => .ref ao
    | 3 => .ref at_
    | 10 => .ref mi
    | 20 => .ref s20
    | 21 => .ref s21
    | 22 => .ref s22
    | 23 => .ref s23
    | 30 => .int 2147483639
    | 31 => .int 1073741823
    | 32 => .int 2147483647
    | 33 => .int 55296
    | 34 => .int 57344
    | 35 => .int 56320
    | _ => .null
  refine ⟨(dC, dI, dA, s.heap.size, (val, old)), rfl, ⟨fun k q hq => ?_, fun k q hq => ?_⟩, ⟨vx_Zqof (hts _ (tm_2 (List.mem_of_getElem? (i := 85) (by eq_refl)))) (hts _ (tm_1 (List.mem_of_getElem? (i := 11) (by eq_refl)))) (bf_l (bf_r (bf_l (bf_l (bf_l (bf_l (bf_l (bf_l (bf_l (bf_r hgv)))))))))) hAA, vx_Zqof (hts _ (tm_2 (List.mem_of_getElem? (i := 87) (by eq_refl)))) (hts _ (tm_1 (List.mem_of_getElem? (i := 11) (by eq_refl)))) (bf_r (bf_r (bf_l (bf_l (bf_l (bf_l (bf_l (bf_l (bf_l (bf_r hgv)))))))))) hAA, fun w hw hn => va_Nw.of (isNW_tab hn) (hts w hw), fun q hq => va_Nw.of rfl (hts _ (CSL_in q hq)), fun q hq => va_Nc.of (flat_of_before _ hgv _ (NCL_in q hq)), fun q hq => ?_, ⟨fun C hC => va_AO.of (hts _ (AOL_in C hC)), fun q hq => ?_, ⟨mi, rfl, hmi⟩, fun q hq => ?_⟩, fun q hq => ?_, fun q hq => ?_, fun q o hq => ?_⟩, ?_⟩
  · match k, hq with
    | 0, hq => cases hq; exact k0
    | 1, hq => cases hq; exact k1
    | 2, hq => cases hq; exact k2
    | 3, hq => cases hq; exact k3
    | 4, hq => cases hq; exact k4
    | 5, hq => cases hq; exact k5
    | 6, hq => cases hq; exact k6
    | 7, hq => cases hq; exact k7
    | k + 8, hq => simp [vwCl] at hq
  · match k, hq with
    | 0, hq => cases hq; exact ⟨r0, f0⟩
    | 1, hq => cases hq; exact ⟨r1, f1⟩
    | 2, hq => cases hq; exact ⟨r2, f2⟩
    | 3, hq => cases hq; exact ⟨r3, f3⟩
    | 4, hq => cases hq; exact ⟨r4, f4⟩
    | 5, hq => cases hq; exact ⟨r5, f5⟩
    | k + 6, hq => simp [gTys] at hq
  · obtain ⟨a, ha⟩ := st_eval (flat_of_before _ hgv _ (STL_in q hq).2)
    exact ⟨a, vk_R.of (hts _ (STL_in q hq).1) ha⟩
  · obtain ⟨g1, g2, g3, g4, g5⟩ := IFL_in q hq
    exact va_Fw.of (hts _ g1) (hts _ g2) (hts _ g3) (hts _ g4) (hts _ g5)
  · simp only [ICL, List.mem_cons, List.not_mem_nil, or_false] at hq
    rcases hq with rfl | rfl | rfl | rfl | rfl | rfl <;> rfl
  · simp only [STT, List.mem_cons, List.not_mem_nil, or_false] at hq
    rcases hq with rfl | rfl | rfl | rfl
    · exact va_Zof (hts _ (tm_5 (List.mem_of_getElem? (i := 115) (by eq_refl)))) (hts _ (tm_1 (List.mem_of_getElem? (i := 5) (by eq_refl)))) ve hAA
    · exact va_Zof (hts _ (tm_2 (List.mem_of_getElem? (i := 211) (by eq_refl)))) (hts _ (tm_1 (List.mem_of_getElem? (i := 18) (by eq_refl)))) (va_eqt (bf_l (bf_l (bf_r (bf_l (bf_l (bf_l (bf_l (bf_l (bf_l (bf_r hgv))))))))))) hAA
    · exact va_Zof (hts _ (tm_3 (List.mem_of_getElem? (i := 53) (by eq_refl)))) (hts _ (tm_1 (List.mem_of_getElem? (i := 21) (by eq_refl)))) vo hAA
    · exact va_Zof (hts _ (tm_3 (List.mem_of_getElem? (i := 55) (by eq_refl)))) (hts _ (tm_1 (List.mem_of_getElem? (i := 21) (by eq_refl)))) vt hAA
  · simp only [STG, List.mem_cons, List.not_mem_nil, or_false] at hq
    rcases hq with rfl | rfl | rfl | rfl
    · exact ⟨s20, rfl, vk_R.of (hts _ (tm_4 (List.mem_of_getElem? (i := 206) (by eq_refl)))) h20⟩
    · exact ⟨s21, rfl, vk_R.of (hts _ (tm_6 (List.mem_of_getElem? (i := 13) (by eq_refl)))) e21⟩
    · exact ⟨s22, rfl, vk_R.of (hts _ (tm_6 (List.mem_of_getElem? (i := 187) (by eq_refl)))) h22⟩
    · exact ⟨s23, rfl, vk_R.of (hts _ (tm_6 (List.mem_of_getElem? (i := 188) (by eq_refl)))) e23⟩
  · have hq : (if q = b then some (.inl (1, L, .inl xs)) else if q = ae then some (.inl (5, 0, .inr (.inr (.inr (.inr fun _ => none))))) else if q = ao then some (.inl (2, 100, .inl fun j => Int32.ofNat (48 + j % 10))) else if q = at_ then some (.inl (2, 100, .inl fun j => Int32.ofNat (48 + j / 10))) else if q = v21 then some (.inl (2, 0, .inl fun _ => 0)) else if q = v23 then some (.inl (2, 1, .inl fun _ => 32)) else if q = s21 then some (.inr (0, [.ref v21, .int 0, h21, z21])) else if q = s23 then some (.inr (0, [.ref v23, .int 0, h23, z23])) else none) = some o := hq
    rcases ite_inv hq with ⟨e, hq⟩ | ⟨-, hq⟩
    · rw [e, ← Option.some.inj hq]
      exact ⟨Or.inl ⟨rfl, tB⟩, hAA _ hbl⟩
    rcases ite_inv hq with ⟨e, hq⟩ | ⟨-, hq⟩
    · rw [e, ← Option.some.inj hq]
      exact ⟨⟨rfl, rfl, tE⟩, tE.out⟩
    rcases ite_inv hq with ⟨e, hq⟩ | ⟨-, hq⟩
    · rw [e, ← Option.some.inj hq]
      exact ⟨Or.inr ⟨rfl, tO⟩, tO.out⟩
    rcases ite_inv hq with ⟨e, hq⟩ | ⟨-, hq⟩
    · rw [e, ← Option.some.inj hq]
      exact ⟨Or.inr ⟨rfl, tT⟩, tT.out⟩
    rcases ite_inv hq with ⟨e, hq⟩ | ⟨-, hq⟩
    · rw [e, ← Option.some.inj hq]
      exact ⟨Or.inr ⟨rfl, t21⟩, t21.out⟩
    rcases ite_inv hq with ⟨e, hq⟩ | ⟨-, hq⟩
    · rw [e, ← Option.some.inj hq]
      exact ⟨Or.inr ⟨rfl, t23⟩, t23.out⟩
    rcases ite_inv hq with ⟨e, hq⟩ | ⟨-, hq⟩
    · rw [e, ← Option.some.inj hq]
      exact ⟨o21, hAA _ (Array.getElem?_eq_some_iff.mp q21).1⟩
    rcases ite_inv hq with ⟨e, hq⟩ | ⟨-, hq⟩
    · rw [e, ← Option.some.inj hq]
      exact ⟨o23, hAA _ (Array.getElem?_eq_some_iff.mp q23).1⟩
    cases hq
  · have p1 : old b = some (.inl (1, L, .inl xs)) := by simp only [old, if_true]
    have p2 : old ae = some (.inl (5, 0, .inr (.inr (.inr (.inr fun _ => none))))) := by simp only [old, if_neg n1, if_true]
    have p3 : old ao = some (.inl (2, 100, .inl fun j => Int32.ofNat (48 + j % 10))) := by simp only [old, if_neg n2, if_neg n3, if_true]
    have p4 : old at_ = some (.inl (2, 100, .inl fun j => Int32.ofNat (48 + j / 10))) := by simp only [old, if_neg n4, if_neg n5, if_neg n6, if_true]
    have p5 : old v21 = some (.inl (2, 0, .inl fun _ => 0)) := by simp only [old, if_neg n7, if_neg n8, if_neg n9, if_neg n10, if_true]
    have p6 : old v23 = some (.inl (2, 1, .inl fun _ => 32)) := by simp only [old, if_neg n11, if_neg n12, if_neg n13, if_neg n14, if_neg n15, if_true]
    have p7 : old s21 = some (.inr (0, [.ref v21, .int 0, h21, z21])) := by simp only [old, if_neg n16, if_neg n17, if_neg n18, if_neg n19, if_neg n20, if_neg n21, if_true]
    have p8 : old s23 = some (.inr (0, [.ref v23, .int 0, h23, z23])) := by simp only [old, if_neg n22, if_neg n23, if_neg n24, if_neg n25, if_neg n26, if_neg n27, if_neg n28, if_true]
    exact ⟨p1, ⟨rfl, rfl, rfl⟩, ⟨ae, rfl, p2⟩, ⟨mi, rfl⟩, ⟨ao, _, rfl, p3⟩, ⟨at_, _, rfl, p4⟩, ⟨s20, rfl⟩, ⟨s22, rfl⟩, ⟨s21, v21, h21, z21, rfl, p7, p5⟩, s23, v23, h23, z23, rfl, p8, p6⟩
end
