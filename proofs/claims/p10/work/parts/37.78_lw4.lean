section
section
variable {g : RO} {Q : Ot → Hw → Prop} {w : Hw} {x nA cA lA y nM o : Nat} {kn km th : Int32} {s s2 : AS}
set_option maxHeartbeats 4000000 in
theorem gL_which {a0 : Int32} (hR : RG g) (hL : LW g w x nA cA lA y nM o kn km th s s2) (hQ : ∀ (v : Int32) (w' : Hw), LW g w' x nA cA lA y nM o kn km th s s2 → Q (.inl (some (.int v))) w') : WP (ML_which g) Q (0, [some (.ref x), some (.int a0), some (.ref o), none], [], w, 0, 0) := by
  simp only [eL_which_0, wt_nil, wt_ref, Nat.zero_add, Nat.add_zero]
  with_reducible refine And.intro ?_ ?_
  with_reducible refine LW.gx hL (fun _ => trivial)
  with_reducible refine And.intro ?_ ?_
  omega
  with_reducible refine And.intro ?_ ?_
  omega
  with_reducible refine And.intro ?_ ?_
  omega
  with_reducible refine sX1_which hL.cc ?_ (fun _ => ?_)
  simp only [kx_r]
  ((with_reducible refine isHgo ?_); refine hgo_h (HH := [(0, 10, 13, 28)]) (NN := [(28, "java/lang/IllegalArgumentException")]) (h := 13) (E := "java/lang/IllegalArgumentException") rfl rfl (by decide +kernel) (by decide) (fun _ => ?_))
  simp only [eL_which_13, nl_ref]
  with_reducible refine And.intro ?_ ?_
  omega
  with_reducible refine And.intro ?_ ?_
  omega
  with_reducible exact hQ _ _ hL
  simp only [eL_which_6, eL_which_10, kx_l, tl_s, nf_l, true_and]
  with_reducible refine go_OF (by first | assumption | exact hL | exact hL.ext (by assumption)) (fun _ _ hw => ?_)
  with_reducible refine And.intro ?_ ?_
  simp only [List.length_cons, List.length_nil, Nat.zero_add]
  omega
  with_reducible refine And.intro ?_ ?_
  omega
  with_reducible refine And.intro ?_ ?_
  omega
  simp only [List.set_cons_zero]
  with_reducible exact hQ _ _ (hw _ _)
set_option maxHeartbeats 4000000 in
theorem fL_areSame {a0 a1 : Int32} (hL : LW g w x nA cA lA y nM o kn km th s s2) (hX : ¬ (okC a0 ∧ okC a1) → Q (.inl (some (.int 1))) w) (hS : okC a0 → okC a1 → (s.2.1 a0.toNatClampNeg = none ∨ s.2.1 a1.toNatClampNeg = none) → Q (.inl (some (.int 2))) w) (hT : okC a0 → okC a1 → ∀ r q, s.2.1 a0.toNatClampNeg = some r → s.2.1 a1.toNatClampNeg = some q → mP r q → ∀ w', LW g w' x nA cA lA y nM o kn km th s s2 → outN w' o (1) → Q (.inl (some (.int 0))) w') (hF : okC a0 → okC a1 → ∀ r q, s.2.1 a0.toNatClampNeg = some r → s.2.1 a1.toNatClampNeg = some q → ¬ mP r q → ∀ w', LW g w' x nA cA lA y nM o kn km th s s2 → outN w' o (0) → Q (.inl (some (.int 0))) w') : WP (ML_areSame g) Q (0, [some (.ref x), some (.int a0), some (.int a1), some (.ref o), none], [], w, 0, 0) := by
  have ho := hL.2.1
  simp only [eL_areSame_0, wt_nil, wt_ref, Nat.zero_add, Nat.add_zero]
  with_reducible refine And.intro ?_ ?_
  with_reducible refine LW.gx hL (fun _ => trivial)
  with_reducible refine And.intro ?_ ?_
  omega
  with_reducible refine And.intro ?_ ?_
  omega
  with_reducible refine And.intro ?_ ?_
  omega
  with_reducible refine fX1_areSame hL.cs (fun hXc0 => ?_) (fun hSc0 hSc1 hSc2 => ?_) (fun hTc0 hTc1 hTr hTq hTc2 hTc3 hTc4 => ?_) (fun hFc0 hFc1 hFr hFq hFc2 hFc3 hFc4 => ?_)
  simp only [kx_r]
  ((with_reducible refine isHgo ?_); refine hgo_h (HH := [(0, 18, 21, 19), (0, 18, 25, 74)]) (NN := [(19, "java/lang/IndexOutOfBoundsException"), (74, "java/lang/IllegalStateException")]) (h := 21) (E := "java/lang/IndexOutOfBoundsException") rfl rfl (by decide +kernel) (by decide) (fun _ => ?_))
  simp only [eL_areSame_21, nl_ref]
  with_reducible refine And.intro ?_ ?_
  omega
  with_reducible refine And.intro ?_ ?_
  omega
  with_reducible exact hX hXc0
  simp only [kx_r]
  ((with_reducible refine isHgo ?_); refine hgo_h (HH := [(0, 18, 21, 19), (0, 18, 25, 74)]) (NN := [(19, "java/lang/IndexOutOfBoundsException"), (74, "java/lang/IllegalStateException")]) (h := 25) (E := "java/lang/IllegalStateException") rfl rfl (by decide +kernel) (by decide) (fun _ => ?_))
  simp only [eL_areSame_25, nl_ref]
  with_reducible refine And.intro ?_ ?_
  omega
  with_reducible refine And.intro ?_ ?_
  omega
  with_reducible exact hS hSc0 hSc1 hSc2
  simp only [eL_areSame_7, eL_areSame_10, eL_areSame_14, eL_areSame_15, eL_areSame_18, i10, kx_l, tl_s, nf_l, true_and, if_false]
  with_reducible refine go_OF hL (fun _ _ hw => ?_)
  with_reducible refine And.intro ?_ ?_
  simp only [List.length_cons, List.length_nil, Nat.zero_add]
  omega
  with_reducible refine And.intro ?_ ?_
  omega
  with_reducible refine And.intro ?_ ?_
  omega
  simp only [List.set_cons_zero]
  with_reducible exact hT hTc0 hTc1 hTr hTq hTc2 hTc3 hTc4 _ (hw _ _) outN.mk
  simp only [eL_areSame_7, eL_areSame_10, eL_areSame_14, eL_areSame_15, eL_areSame_18, kx_l, tl_s, nf_l, true_and, if_true]
  with_reducible refine go_OF hL (fun _ _ hw => ?_)
  with_reducible refine And.intro ?_ ?_
  simp only [List.length_cons, List.length_nil, Nat.zero_add]
  omega
  with_reducible refine And.intro ?_ ?_
  omega
  with_reducible refine And.intro ?_ ?_
  omega
  simp only [List.set_cons_zero]
  with_reducible exact hF hFc0 hFc1 hFr hFq hFc2 hFc3 hFc4 _ (hw _ _) outN.mk
set_option maxHeartbeats 4000000 in
theorem gL_isSameAs {a0 a1 : Int32} (hR : RG g) (hL : LW g w x nA cA lA y nM o kn km th s s2) (hQ : ∀ (v : Int32) (w' : Hw), LW g w' x nA cA lA y nM o kn km th s s2 → Q (.inl (some (.int v))) w') : WP (ML_isSameAs g) Q (0, [some (.ref x), some (.int a0), some (.int a1), some (.ref o), none], [], w, 0, 0) := by
  simp only [eL_isSameAs_0, wt_nil, wt_ref, Nat.zero_add, Nat.add_zero]
  with_reducible refine And.intro ?_ ?_
  with_reducible refine LW.gx hL (fun _ => trivial)
  with_reducible refine And.intro ?_ ?_
  omega
  with_reducible refine And.intro ?_ ?_
  omega
  with_reducible refine And.intro ?_ ?_
  omega
  with_reducible refine sX1_isSameAs hL.cc ?_ ?_ ?_ (fun _ _ _ => ?_)
  simp only [kx_r]
  ((with_reducible refine isHgo ?_); refine hgo_h (HH := [(0, 18, 21, 19), (0, 18, 25, 28), (0, 18, 29, 74)]) (NN := [(19, "java/lang/IndexOutOfBoundsException"), (28, "java/lang/IllegalArgumentException"), (74, "java/lang/IllegalStateException")]) (h := 21) (E := "java/lang/IndexOutOfBoundsException") rfl rfl (by decide +kernel) (by decide) (fun _ => ?_))
  simp only [eL_isSameAs_21, nl_ref]
  with_reducible refine And.intro ?_ ?_
  omega
  with_reducible refine And.intro ?_ ?_
  omega
  with_reducible exact hQ _ _ hL
  simp only [kx_r]
  ((with_reducible refine isHgo ?_); refine hgo_h (HH := [(0, 18, 21, 19), (0, 18, 25, 28), (0, 18, 29, 74)]) (NN := [(19, "java/lang/IndexOutOfBoundsException"), (28, "java/lang/IllegalArgumentException"), (74, "java/lang/IllegalStateException")]) (h := 25) (E := "java/lang/IllegalArgumentException") rfl rfl (by decide +kernel) (by decide) (fun _ => ?_))
  simp only [eL_isSameAs_25, nl_ref]
  with_reducible refine And.intro ?_ ?_
  omega
  with_reducible refine And.intro ?_ ?_
  omega
  with_reducible exact hQ _ _ hL
  simp only [kx_r]
  ((with_reducible refine isHgo ?_); refine hgo_h (HH := [(0, 18, 21, 19), (0, 18, 25, 28), (0, 18, 29, 74)]) (NN := [(19, "java/lang/IndexOutOfBoundsException"), (28, "java/lang/IllegalArgumentException"), (74, "java/lang/IllegalStateException")]) (h := 29) (E := "java/lang/IllegalStateException") rfl rfl (by decide +kernel) (by decide) (fun _ => ?_))
  simp only [eL_isSameAs_29, nl_ref]
  with_reducible refine And.intro ?_ ?_
  omega
  with_reducible refine And.intro ?_ ?_
  omega
  with_reducible exact hQ _ _ hL
  simp only [eL_isSameAs_7, eL_isSameAs_10, eL_isSameAs_14, eL_isSameAs_15, eL_isSameAs_18, kx_l, tl_s, nf_l, true_and]
  split
  with_reducible refine go_OF (by first | assumption | exact hL | exact hL.ext (by assumption)) (fun _ _ hw => ?_)
  with_reducible refine And.intro ?_ ?_
  simp only [List.length_cons, List.length_nil, Nat.zero_add]
  omega
  with_reducible refine And.intro ?_ ?_
  omega
  with_reducible refine And.intro ?_ ?_
  omega
  simp only [List.set_cons_zero]
  with_reducible exact hQ _ _ (hw _ _)
  with_reducible refine go_OF (by first | assumption | exact hL | exact hL.ext (by assumption)) (fun _ _ hw => ?_)
  with_reducible refine And.intro ?_ ?_
  simp only [List.length_cons, List.length_nil, Nat.zero_add]
  omega
  with_reducible refine And.intro ?_ ?_
  omega
  with_reducible refine And.intro ?_ ?_
  omega
  simp only [List.set_cons_zero]
  with_reducible exact hQ _ _ (hw _ _)
set_option maxHeartbeats 4000000 in
theorem gL_likes {a0 : Int32} (hR : RG g) (hL : LW g w x nA cA lA y nM o kn km th s s2) (hQ : ∀ (v : Int32) (w' : Hw), LW g w' x nA cA lA y nM o kn km th s s2 → Q (.inl (some (.int v))) w') : WP (ML_likes g) Q (0, [some (.ref x), some (.int a0), some (.ref o), none], [], w, 0, 0) := by
  simp only [eL_likes_0, wt_nil, wt_ref, Nat.zero_add, Nat.add_zero]
  with_reducible refine And.intro ?_ ?_
  with_reducible refine LW.gx hL (fun _ => trivial)
  with_reducible refine And.intro ?_ ?_
  omega
  with_reducible refine And.intro ?_ ?_
  omega
  with_reducible refine And.intro ?_ ?_
  omega
  with_reducible refine sX1_likes hL.cc ?_ ?_ (fun _ => ?_)
  simp only [kx_r]
  ((with_reducible refine isHgo ?_); refine hgo_h (HH := [(0, 10, 13, 19), (0, 10, 16, 74)]) (NN := [(19, "java/lang/IndexOutOfBoundsException"), (74, "java/lang/IllegalStateException")]) (h := 13) (E := "java/lang/IndexOutOfBoundsException") rfl rfl (by decide +kernel) (by decide) (fun _ => ?_))
  simp only [eL_likes_13, nl_ref]
  with_reducible refine And.intro ?_ ?_
  omega
  with_reducible refine And.intro ?_ ?_
  omega
  with_reducible exact hQ _ _ hL
  simp only [kx_r]
  ((with_reducible refine isHgo ?_); refine hgo_h (HH := [(0, 10, 13, 19), (0, 10, 16, 74)]) (NN := [(19, "java/lang/IndexOutOfBoundsException"), (74, "java/lang/IllegalStateException")]) (h := 16) (E := "java/lang/IllegalStateException") rfl rfl (by decide +kernel) (by decide) (fun _ => ?_))
  simp only [eL_likes_16, nl_ref]
  with_reducible refine And.intro ?_ ?_
  omega
  with_reducible refine And.intro ?_ ?_
  omega
  with_reducible exact hQ _ _ hL
  simp only [eL_likes_6, eL_likes_10, kx_l, tl_s, nf_l, true_and]
  with_reducible refine go_OF (by first | assumption | exact hL | exact hL.ext (by assumption)) (fun _ _ hw => ?_)
  with_reducible refine And.intro ?_ ?_
  simp only [List.length_cons, List.length_nil, Nat.zero_add]
  omega
  with_reducible refine And.intro ?_ ?_
  omega
  with_reducible refine And.intro ?_ ?_
  omega
  simp only [List.set_cons_zero]
  with_reducible exact hQ _ _ (hw _ _)
set_option maxHeartbeats 4000000 in
theorem fL_lay {a0 : Int32} (hL : LW g w x nA cA lA y nM o kn km th s s2) (hX : ¬ okC a0 → Q (.inl (some (.int 1))) w) (hS : okC a0 → s.2.1 a0.toNatClampNeg = none → Q (.inl (some (.int 2))) w) (hF : okC a0 → ∀ r, s.2.1 a0.toNatClampNeg = some r → ¬ s.2.2.1 < 12 → ∀ w', LW g w' x nA cA lA y nM o kn km th (sRf s) s2 → outN w' o ((-9 : Int32).toInt64) → Q (.inl (some (.int 0))) w') (hQ : okC a0 → ∀ r, s.2.1 a0.toNatClampNeg = some r → s.2.2.1 < 12 → ∀ w', LW g w' x nA cA lA y nM o kn km th (sP_ s (s.2.2.1 + 1) (va_up s.2.2.2.1 s.2.2.1.toNatClampNeg r)) s2 → outN w' o ((s.2.2.1 + 1).toInt64) → Q (.inl (some (.int 0))) w') : WP (ML_lay g) Q (0, [some (.ref x), some (.int a0), some (.ref o), none], [], w, 0, 0) := by
  have ho := hL.2.1
  simp only [eL_lay_0, wt_nil, wt_ref, Nat.zero_add, Nat.add_zero]
  with_reducible refine And.intro ?_ ?_
  with_reducible refine LW.gx hL (fun _ => trivial)
  with_reducible refine And.intro ?_ ?_
  omega
  with_reducible refine And.intro ?_ ?_
  omega
  with_reducible refine And.intro ?_ ?_
  omega
  with_reducible refine fX1_lay hL.cs (fun hXc0 => ?_) (fun hSc0 hSc1 => ?_) (fun hFc0 hFr hFc1 hFc2 hFw hFh => ?_) (fun hQc0 hQr hQc1 hQc2 hQw hQh => ?_)
  simp only [kx_r]
  ((with_reducible refine isHgo ?_); refine hgo_h (HH := [(0, 10, 13, 19), (0, 10, 16, 74)]) (NN := [(19, "java/lang/IndexOutOfBoundsException"), (74, "java/lang/IllegalStateException")]) (h := 13) (E := "java/lang/IndexOutOfBoundsException") rfl rfl (by decide +kernel) (by decide) (fun _ => ?_))
  simp only [eL_lay_13, nl_ref]
  with_reducible refine And.intro ?_ ?_
  omega
  with_reducible refine And.intro ?_ ?_
  omega
  with_reducible exact hX hXc0
  simp only [kx_r]
  ((with_reducible refine isHgo ?_); refine hgo_h (HH := [(0, 10, 13, 19), (0, 10, 16, 74)]) (NN := [(19, "java/lang/IndexOutOfBoundsException"), (74, "java/lang/IllegalStateException")]) (h := 16) (E := "java/lang/IllegalStateException") rfl rfl (by decide +kernel) (by decide) (fun _ => ?_))
  simp only [eL_lay_16, nl_ref]
  with_reducible refine And.intro ?_ ?_
  omega
  with_reducible refine And.intro ?_ ?_
  omega
  with_reducible exact hS hSc0 hSc1
  simp only [eL_lay_6, eL_lay_10, kx_l, tl_s, nf_l, true_and]
  with_reducible refine go_OF (LW.of hL hFh (by first | with_reducible exact ho | with_reducible exact ho.num | with_reducible exact ho.rf | with_reducible exact ho.mk (by assumption) | with_reducible exact ho.mk (ho.c' (by assumption) (by assumption)) | with_reducible exact ho.mkO (by assumption) (by assumption) | with_reducible exact ho.card0 | with_reducible exact ho.card (ho.c' (by assumption) (by assumption)) | with_reducible exact ho.card (ho.p' (by assumption)) | with_reducible exact ho.lay (ho.c' (by assumption) (by assumption)) (by assumption) | with_reducible exact ho.gap (by assumption) | with_reducible exact ho.tur | with_reducible exact ho.zero)) (fun _ _ hw => ?_)
  with_reducible refine And.intro ?_ ?_
  simp only [List.length_cons, List.length_nil, Nat.zero_add]
  omega
  with_reducible refine And.intro ?_ ?_
  omega
  with_reducible refine And.intro ?_ ?_
  omega
  simp only [List.set_cons_zero]
  with_reducible exact hF hFc0 hFr hFc1 hFc2 _ (hw _ _) outN.mk
  simp only [eL_lay_6, eL_lay_10, kx_l, tl_s, nf_l, true_and]
  with_reducible refine go_OF (LW.of hL hQh (by first | with_reducible exact ho | with_reducible exact ho.num | with_reducible exact ho.rf | with_reducible exact ho.mk (by assumption) | with_reducible exact ho.mk (ho.c' (by assumption) (by assumption)) | with_reducible exact ho.mkO (by assumption) (by assumption) | with_reducible exact ho.card0 | with_reducible exact ho.card (ho.c' (by assumption) (by assumption)) | with_reducible exact ho.card (ho.p' (by assumption)) | with_reducible exact ho.lay (ho.c' (by assumption) (by assumption)) (by assumption) | with_reducible exact ho.gap (by assumption) | with_reducible exact ho.tur | with_reducible exact ho.zero)) (fun _ _ hw => ?_)
  with_reducible refine And.intro ?_ ?_
  simp only [List.length_cons, List.length_nil, Nat.zero_add]
  omega
  with_reducible refine And.intro ?_ ?_
  omega
  with_reducible refine And.intro ?_ ?_
  omega
  simp only [List.set_cons_zero]
  with_reducible exact hQ hQc0 hQr hQc1 hQc2 _ (hw _ _) outN.mk
set_option maxHeartbeats 4000000 in
theorem fL_seek {a0 a1 : Int32} (hL : LW g w x nA cA lA y nM o kn km th s s2) (hX : ¬ okC a0 → Q (.inl (some (.int 1))) w) (hS : okC a0 → s.2.1 a0.toNatClampNeg = none → Q (.inl (some (.int 2))) w) (hN : okC a0 → ∀ r, s.2.1 a0.toNatClampNeg = some r → (∀ i, i < s.2.2.1.toInt.toNat → ¬ mP r (s.2.2.2.1 i)) → ∀ w', LW g w' x nA cA lA y nM o kn km th s s2 → outN w' o ((-1 : Int32).toInt64) → Q (.inl (some (.int 0))) w') (hF : a1 = 0 → okC a0 → ∀ r, s.2.1 a0.toNatClampNeg = some r → ∀ i, i < s.2.2.1.toInt.toNat → mP r (s.2.2.2.1 i) → (∀ k, k < i → ¬ mP r (s.2.2.2.1 k)) → ∀ w', LW g w' x nA cA lA y nM o kn km th s s2 → outN w' o ((Int32.ofNat i).toInt64) → Q (.inl (some (.int 0))) w') (hLL : ¬ a1 = 0 → okC a0 → ∀ r, s.2.1 a0.toNatClampNeg = some r → ∀ i, i < s.2.2.1.toInt.toNat → mP r (s.2.2.2.1 i) → (∀ k, i + 1 ≤ k → k < s.2.2.1.toInt.toNat → ¬ mP r (s.2.2.2.1 k)) → ∀ w', LW g w' x nA cA lA y nM o kn km th s s2 → outN w' o ((Int32.ofNat i).toInt64) → Q (.inl (some (.int 0))) w') : WP (ML_seek g) Q (0, [some (.ref x), some (.int a0), some (.int a1), some (.ref o), none], [], w, 0, 0) := by
  have ho := hL.2.1
  simp only [eL_seek_0, wt_nil, wt_ref, Nat.zero_add, Nat.add_zero]
  with_reducible refine And.intro ?_ ?_
  with_reducible refine LW.gx hL (fun _ => trivial)
  with_reducible refine And.intro ?_ ?_
  omega
  with_reducible refine And.intro ?_ ?_
  omega
  with_reducible refine And.intro ?_ ?_
  omega
  with_reducible refine fX1_seek hL.cs (fun hXc0 => ?_) (fun hSc0 hSc1 => ?_) (fun hNc0 hNr hNc1 hNc2 => ?_) (fun hFc0 hFc1 hFr hFc2 hFi hFc3 hFc4 hFc5 => ?_) (fun hLLc0 hLLc1 hLLr hLLc2 hLLi hLLc3 hLLc4 hLLc5 => ?_)
  simp only [kx_r]
  ((with_reducible refine isHgo ?_); refine hgo_h (HH := [(0, 11, 14, 19), (0, 11, 18, 74)]) (NN := [(19, "java/lang/IndexOutOfBoundsException"), (74, "java/lang/IllegalStateException")]) (h := 14) (E := "java/lang/IndexOutOfBoundsException") rfl rfl (by decide +kernel) (by decide) (fun _ => ?_))
  simp only [eL_seek_14, nl_ref]
  with_reducible refine And.intro ?_ ?_
  omega
  with_reducible refine And.intro ?_ ?_
  omega
  with_reducible exact hX hXc0
  simp only [kx_r]
  ((with_reducible refine isHgo ?_); refine hgo_h (HH := [(0, 11, 14, 19), (0, 11, 18, 74)]) (NN := [(19, "java/lang/IndexOutOfBoundsException"), (74, "java/lang/IllegalStateException")]) (h := 18) (E := "java/lang/IllegalStateException") rfl rfl (by decide +kernel) (by decide) (fun _ => ?_))
  simp only [eL_seek_18, nl_ref]
  with_reducible refine And.intro ?_ ?_
  omega
  with_reducible refine And.intro ?_ ?_
  omega
  with_reducible exact hS hSc0 hSc1
  simp only [eL_seek_7, eL_seek_11, kx_l, tl_s, nf_l, true_and]
  with_reducible refine go_OF hL (fun _ _ hw => ?_)
  with_reducible refine And.intro ?_ ?_
  simp only [List.length_cons, List.length_nil, Nat.zero_add]
  omega
  with_reducible refine And.intro ?_ ?_
  omega
  with_reducible refine And.intro ?_ ?_
  omega
  simp only [List.set_cons_zero]
  with_reducible exact hN hNc0 hNr hNc1 hNc2 _ (hw _ _) outN.mk
  simp only [eL_seek_7, eL_seek_11, kx_l, tl_s, nf_l, true_and]
  with_reducible refine go_OF hL (fun _ _ hw => ?_)
  with_reducible refine And.intro ?_ ?_
  simp only [List.length_cons, List.length_nil, Nat.zero_add]
  omega
  with_reducible refine And.intro ?_ ?_
  omega
  with_reducible refine And.intro ?_ ?_
  omega
  simp only [List.set_cons_zero]
  with_reducible exact hF hFc0 hFc1 hFr hFc2 hFi hFc3 hFc4 hFc5 _ (hw _ _) outN.mk
  simp only [eL_seek_7, eL_seek_11, kx_l, tl_s, nf_l, true_and]
  with_reducible refine go_OF hL (fun _ _ hw => ?_)
  with_reducible refine And.intro ?_ ?_
  simp only [List.length_cons, List.length_nil, Nat.zero_add]
  omega
  with_reducible refine And.intro ?_ ?_
  omega
  with_reducible refine And.intro ?_ ?_
  omega
  simp only [List.set_cons_zero]
  with_reducible exact hLL hLLc0 hLLc1 hLLr hLLc2 hLLi hLLc3 hLLc4 hLLc5 _ (hw _ _) outN.mk
set_option maxHeartbeats 4000000 in
theorem fL_howOften {a0 : Int32} (hL : LW g w x nA cA lA y nM o kn km th s s2) (hX : ¬ okC a0 → Q (.inl (some (.int 1))) w) (hS : okC a0 → s.2.1 a0.toNatClampNeg = none → Q (.inl (some (.int 2))) w) (hQ : okC a0 → ∀ r, s.2.1 a0.toNatClampNeg = some r → ∀ w', LW g w' x nA cA lA y nM o kn km th s s2 → outN w' o ((fsum (fun j => bI (decide (mP r (s.2.2.2.1 j)))) s.2.2.1.toInt.toNat).toInt64) → Q (.inl (some (.int 0))) w') : WP (ML_howOften g) Q (0, [some (.ref x), some (.int a0), some (.ref o), none], [], w, 0, 0) := by
  have ho := hL.2.1
  simp only [eL_howOften_0, wt_nil, wt_ref, Nat.zero_add, Nat.add_zero]
  with_reducible refine And.intro ?_ ?_
  with_reducible refine LW.gx hL (fun _ => trivial)
  with_reducible refine And.intro ?_ ?_
  omega
  with_reducible refine And.intro ?_ ?_
  omega
  with_reducible refine And.intro ?_ ?_
  omega
  with_reducible refine fX1_howOften hL.cs (fun hXc0 => ?_) (fun hSc0 hSc1 => ?_) (fun hQc0 hQr hQc1 => ?_)
  simp only [kx_r]
  ((with_reducible refine isHgo ?_); refine hgo_h (HH := [(0, 10, 13, 19), (0, 10, 16, 74)]) (NN := [(19, "java/lang/IndexOutOfBoundsException"), (74, "java/lang/IllegalStateException")]) (h := 13) (E := "java/lang/IndexOutOfBoundsException") rfl rfl (by decide +kernel) (by decide) (fun _ => ?_))
  simp only [eL_howOften_13, nl_ref]
  with_reducible refine And.intro ?_ ?_
  omega
  with_reducible refine And.intro ?_ ?_
  omega
  with_reducible exact hX hXc0
  simp only [kx_r]
  ((with_reducible refine isHgo ?_); refine hgo_h (HH := [(0, 10, 13, 19), (0, 10, 16, 74)]) (NN := [(19, "java/lang/IndexOutOfBoundsException"), (74, "java/lang/IllegalStateException")]) (h := 16) (E := "java/lang/IllegalStateException") rfl rfl (by decide +kernel) (by decide) (fun _ => ?_))
  simp only [eL_howOften_16, nl_ref]
  with_reducible refine And.intro ?_ ?_
  omega
  with_reducible refine And.intro ?_ ?_
  omega
  with_reducible exact hS hSc0 hSc1
  simp only [eL_howOften_6, eL_howOften_10, kx_l, tl_s, nf_l, true_and]
  with_reducible refine go_OF hL (fun _ _ hw => ?_)
  with_reducible refine And.intro ?_ ?_
  simp only [List.length_cons, List.length_nil, Nat.zero_add]
  omega
  with_reducible refine And.intro ?_ ?_
  omega
  with_reducible refine And.intro ?_ ?_
  omega
  simp only [List.set_cons_zero]
  with_reducible exact hQ hQc0 hQr hQc1 _ (hw _ _) outN.mk
set_option maxHeartbeats 4000000 in
theorem fL_lift {a0 : Int32} (hL : LW g w x nA cA lA y nM o kn km th s s2) (hX : ¬ okC a0 → Q (.inl (some (.int 1))) w) (hS : okC a0 → s.2.1 a0.toNatClampNeg = none → Q (.inl (some (.int 2))) w) (hN : okC a0 → ∀ r, s.2.1 a0.toNatClampNeg = some r → (∀ i, i < s.2.2.1.toInt.toNat → ¬ mP r (s.2.2.2.1 i)) → ∀ w', LW g w' x nA cA lA y nM o kn km th s s2 → outN w' o ((0 : Int32).toInt64) → Q (.inl (some (.int 0))) w') (hQ : okC a0 → ∀ r, s.2.1 a0.toNatClampNeg = some r → ∀ i, i < s.2.2.1.toInt.toNat → mP r (s.2.2.2.1 i) → (∀ k, k < i → ¬ mP r (s.2.2.2.1 k)) → ∀ w', LW g w' x nA cA lA y nM o kn km th (sP_ s (s.2.2.1 - 1) (rmv s.2.2.2.1 i)) s2 → outN w' o ((1 : Int32).toInt64) → Q (.inl (some (.int 0))) w') : WP (ML_lift g) Q (0, [some (.ref x), some (.int a0), some (.ref o), none], [], w, 0, 0) := by
  have ho := hL.2.1
  simp only [eL_lift_0, wt_nil, wt_ref, Nat.zero_add, Nat.add_zero]
  with_reducible refine And.intro ?_ ?_
  with_reducible refine LW.gx hL (fun _ => trivial)
  with_reducible refine And.intro ?_ ?_
  omega
  with_reducible refine And.intro ?_ ?_
  omega
  with_reducible refine And.intro ?_ ?_
  omega
  with_reducible refine fX1_lift hL.cs (fun hXc0 => ?_) (fun hSc0 hSc1 => ?_) (fun hNc0 hNr hNc1 hNc2 => ?_) (fun hQc0 hQr hQc1 hQi hQc2 hQc3 hQc4 hQw hQh => ?_)
  simp only [kx_r]
  ((with_reducible refine isHgo ?_); refine hgo_h (HH := [(0, 10, 13, 19), (0, 10, 16, 74)]) (NN := [(19, "java/lang/IndexOutOfBoundsException"), (74, "java/lang/IllegalStateException")]) (h := 13) (E := "java/lang/IndexOutOfBoundsException") rfl rfl (by decide +kernel) (by decide) (fun _ => ?_))
  simp only [eL_lift_13, nl_ref]
  with_reducible refine And.intro ?_ ?_
  omega
  with_reducible refine And.intro ?_ ?_
  omega
  with_reducible exact hX hXc0
  simp only [kx_r]
  ((with_reducible refine isHgo ?_); refine hgo_h (HH := [(0, 10, 13, 19), (0, 10, 16, 74)]) (NN := [(19, "java/lang/IndexOutOfBoundsException"), (74, "java/lang/IllegalStateException")]) (h := 16) (E := "java/lang/IllegalStateException") rfl rfl (by decide +kernel) (by decide) (fun _ => ?_))
  simp only [eL_lift_16, nl_ref]
  with_reducible refine And.intro ?_ ?_
  omega
  with_reducible refine And.intro ?_ ?_
  omega
  with_reducible exact hS hSc0 hSc1
  simp only [eL_lift_6, eL_lift_10, kx_l, tl_s, nf_l, true_and]
  with_reducible refine go_OF hL (fun _ _ hw => ?_)
  with_reducible refine And.intro ?_ ?_
  simp only [List.length_cons, List.length_nil, Nat.zero_add]
  omega
  with_reducible refine And.intro ?_ ?_
  omega
  with_reducible refine And.intro ?_ ?_
  omega
  simp only [List.set_cons_zero]
  with_reducible exact hN hNc0 hNr hNc1 hNc2 _ (hw _ _) outN.mk
  simp only [eL_lift_6, eL_lift_10, kx_l, tl_s, nf_l, true_and]
  with_reducible refine go_OF (LW.of hL hQh (by first | with_reducible exact ho | with_reducible exact ho.num | with_reducible exact ho.rf | with_reducible exact ho.mk (by assumption) | with_reducible exact ho.mk (ho.c' (by assumption) (by assumption)) | with_reducible exact ho.mkO (by assumption) (by assumption) | with_reducible exact ho.card0 | with_reducible exact ho.card (ho.c' (by assumption) (by assumption)) | with_reducible exact ho.card (ho.p' (by assumption)) | with_reducible exact ho.lay (ho.c' (by assumption) (by assumption)) (by assumption) | with_reducible exact ho.gap (by assumption) | with_reducible exact ho.tur | with_reducible exact ho.zero)) (fun _ _ hw => ?_)
  with_reducible refine And.intro ?_ ?_
  simp only [List.length_cons, List.length_nil, Nat.zero_add]
  omega
  with_reducible refine And.intro ?_ ?_
  omega
  with_reducible refine And.intro ?_ ?_
  omega
  simp only [List.set_cons_zero]
  with_reducible exact hQ hQc0 hQr hQc1 hQi hQc2 hQc3 hQc4 _ (hw _ _) outN.mk
set_option maxHeartbeats 4000000 in
theorem fL_pick {a0 a1 : Int32} (hL : LW g w x nA cA lA y nM o kn km th s s2) (hX : ¬ (okP s.2.2.1 a0 ∧ okC a1) → Q (.inl (some (.int 1))) w) (hN : okP s.2.2.1 a0 → okC a1 → s.2.1 a1.toNatClampNeg = none → ∀ w', LW g w' x nA cA lA y nM o kn km th (sC s (va_up s.2.1 a1.toNatClampNeg (some (s.2.2.2.1 a0.toNatClampNeg)))) s2 → outN w' o ((0 : Int32).toInt64) → Q (.inl (some (.int 0))) w') (hS : okP s.2.2.1 a0 → okC a1 → ∀ r, s.2.1 a1.toNatClampNeg = some r → ∀ w', LW g w' x nA cA lA y nM o kn km th (sC s (va_up s.2.1 a1.toNatClampNeg (some (s.2.2.2.1 a0.toNatClampNeg)))) s2 → outN w' o ((1 : Int32).toInt64) → Q (.inl (some (.int 0))) w') : WP (ML_pick g) Q (0, [some (.ref x), some (.int a0), some (.int a1), some (.ref o), none], [], w, 0, 0) := by
  have ho := hL.2.1
  simp only [eL_pick_0, wt_nil, wt_ref, Nat.zero_add, Nat.add_zero]
  with_reducible refine And.intro ?_ ?_
  with_reducible refine LW.gx hL (fun _ => trivial)
  with_reducible refine And.intro ?_ ?_
  omega
  with_reducible refine And.intro ?_ ?_
  omega
  with_reducible refine And.intro ?_ ?_
  omega
  with_reducible refine fX1_pick hL.cs (fun hXc0 => ?_) (fun hNc0 hNc1 hNc2 hNw hNh => ?_) (fun hSc0 hSc1 hSr hSc2 hSw hSh => ?_)
  simp only [kx_r]
  ((with_reducible refine isHgo ?_); refine hgo_h (HH := [(0, 11, 14, 19)]) (NN := [(19, "java/lang/IndexOutOfBoundsException")]) (h := 14) (E := "java/lang/IndexOutOfBoundsException") rfl rfl (by decide +kernel) (by decide) (fun _ => ?_))
  simp only [eL_pick_14, nl_ref]
  with_reducible refine And.intro ?_ ?_
  omega
  with_reducible refine And.intro ?_ ?_
  omega
  with_reducible exact hX hXc0
  simp only [eL_pick_7, eL_pick_11, kx_l, tl_s, nf_l, true_and]
  with_reducible refine go_OF (LW.of hL hNh (by first | with_reducible exact ho | with_reducible exact ho.num | with_reducible exact ho.rf | with_reducible exact ho.mk (by assumption) | with_reducible exact ho.mk (ho.c' (by assumption) (by assumption)) | with_reducible exact ho.mkO (by assumption) (by assumption) | with_reducible exact ho.card0 | with_reducible exact ho.card (ho.c' (by assumption) (by assumption)) | with_reducible exact ho.card (ho.p' (by assumption)) | with_reducible exact ho.lay (ho.c' (by assumption) (by assumption)) (by assumption) | with_reducible exact ho.gap (by assumption) | with_reducible exact ho.tur | with_reducible exact ho.zero)) (fun _ _ hw => ?_)
  with_reducible refine And.intro ?_ ?_
  simp only [List.length_cons, List.length_nil, Nat.zero_add]
  omega
  with_reducible refine And.intro ?_ ?_
  omega
  with_reducible refine And.intro ?_ ?_
  omega
  simp only [List.set_cons_zero]
  with_reducible exact hN hNc0 hNc1 hNc2 _ (hw _ _) outN.mk
  simp only [eL_pick_7, eL_pick_11, kx_l, tl_s, nf_l, true_and]
  with_reducible refine go_OF (LW.of hL hSh (by first | with_reducible exact ho | with_reducible exact ho.num | with_reducible exact ho.rf | with_reducible exact ho.mk (by assumption) | with_reducible exact ho.mk (ho.c' (by assumption) (by assumption)) | with_reducible exact ho.mkO (by assumption) (by assumption) | with_reducible exact ho.card0 | with_reducible exact ho.card (ho.c' (by assumption) (by assumption)) | with_reducible exact ho.card (ho.p' (by assumption)) | with_reducible exact ho.lay (ho.c' (by assumption) (by assumption)) (by assumption) | with_reducible exact ho.gap (by assumption) | with_reducible exact ho.tur | with_reducible exact ho.zero)) (fun _ _ hw => ?_)
  with_reducible refine And.intro ?_ ?_
  simp only [List.length_cons, List.length_nil, Nat.zero_add]
  omega
  with_reducible refine And.intro ?_ ?_
  omega
  with_reducible refine And.intro ?_ ?_
  omega
  simp only [List.set_cons_zero]
  with_reducible exact hS hSc0 hSc1 hSr hSc2 _ (hw _ _) outN.mk
set_option maxHeartbeats 4000000 in
theorem gL_pile {a0 a1 : Int32} (hR : RG g) (hL : LW g w x nA cA lA y nM o kn km th s s2) (hQ : ∀ (v : Int32) (w' : Hw), LW g w' x nA cA lA y nM o kn km th s s2 → Q (.inl (some (.int v))) w') : WP (ML_pile g) Q (0, [some (.ref x), some (.int a0), some (.int a1), some (.ref o), none], [], w, 0, 0) := by
  simp only [eL_pile_0, wt_nil, wt_ref, Nat.zero_add, Nat.add_zero]
  with_reducible refine And.intro ?_ ?_
  with_reducible refine LW.gx hL (fun _ => trivial)
  with_reducible refine And.intro ?_ ?_
  omega
  with_reducible refine And.intro ?_ ?_
  omega
  with_reducible refine And.intro ?_ ?_
  omega
  with_reducible refine sX1_pile hL.cc ?_ ?_ (fun _ => ?_)
  simp only [kx_r]
  ((with_reducible refine isHgo ?_); refine hgo_h (HH := [(0, 11, 14, 19), (0, 11, 18, 28)]) (NN := [(19, "java/lang/IndexOutOfBoundsException"), (28, "java/lang/IllegalArgumentException")]) (h := 14) (E := "java/lang/IndexOutOfBoundsException") rfl rfl (by decide +kernel) (by decide) (fun _ => ?_))
  simp only [eL_pile_14, nl_ref]
  with_reducible refine And.intro ?_ ?_
  omega
  with_reducible refine And.intro ?_ ?_
  omega
  with_reducible exact hQ _ _ hL
  simp only [kx_r]
  ((with_reducible refine isHgo ?_); refine hgo_h (HH := [(0, 11, 14, 19), (0, 11, 18, 28)]) (NN := [(19, "java/lang/IndexOutOfBoundsException"), (28, "java/lang/IllegalArgumentException")]) (h := 18) (E := "java/lang/IllegalArgumentException") rfl rfl (by decide +kernel) (by decide) (fun _ => ?_))
  simp only [eL_pile_18, nl_ref]
  with_reducible refine And.intro ?_ ?_
  omega
  with_reducible refine And.intro ?_ ?_
  omega
  with_reducible exact hQ _ _ hL
  simp only [eL_pile_7, eL_pile_11, kx_l, tl_s, nf_l, true_and]
  with_reducible refine go_OF (by first | assumption | exact hL | exact hL.ext (by assumption)) (fun _ _ hw => ?_)
  with_reducible refine And.intro ?_ ?_
  simp only [List.length_cons, List.length_nil, Nat.zero_add]
  omega
  with_reducible refine And.intro ?_ ?_
  omega
  with_reducible refine And.intro ?_ ?_
  omega
  simp only [List.set_cons_zero]
  with_reducible exact hQ _ _ (hw _ _)
set_option maxHeartbeats 4000000 in
theorem gL_house {a0 : Int32} (hR : RG g) (hL : LW g w x nA cA lA y nM o kn km th s s2) (hQ : ∀ (v : Int32) (w' : Hw), LW g w' x nA cA lA y nM o kn km th s s2 → Q (.inl (some (.int v))) w') : WP (ML_house g) Q (0, [some (.ref x), some (.int a0), some (.ref o), none], [], w, 0, 0) := by
  repeat' first
    | with_reducible assumption
    | with_reducible refine And.intro ?_ ?_
    | with_reducible refine LW.gx hL (fun _ => trivial)
    | with_reducible refine sX1_house hL.cc ?_ (fun _ => ?_)
    | ((with_reducible refine isHgo ?_); refine hgo_h (HH := [(0, 10, 13, 28)]) (NN := [(28, "java/lang/IllegalArgumentException")]) (h := 13) (E := "java/lang/IllegalArgumentException") rfl rfl (by decide +kernel) (by decide) (fun _ => ?_))
    | with_reducible refine go_OF (by first | assumption | exact hL | exact hL.ext (by assumption)) (fun _ _ hw => ?_)
    | with_reducible exact hQ _ _ (hw _ _)
    | with_reducible exact hQ _ _ hL
    | simp only [eL_house_0, eL_house_0N, eL_house_1, eL_house_1N, eL_house_2, eL_house_6, eL_house_10, eL_house_13, eL_house_13N, eL_house_14, ite_le, n45, n54, true_or, or_true, false_or, or_false, false_and, and_false, kx_l, kx_r, go_s, gl_s, gi_s, gb_s2, gb_s3, gq_s, wt_nil, wt_int, wt_long, wt_ref, wt_null, nl_int, nl_long, nl_ref, nl_null, nl_none, rf_n, rf_s, rf_st, tl_s, tl_n, g0, gS, ex1, nb_b, nb_0, nb_1, nf_i, nf_l, nf_ra, nf_ro, nf_na, nf_no, nf_b0, nf_z0, t45_4, t45_5, true_and, and_true, List.set_cons_zero, List.set_cons_succ, List.length_cons, List.length_nil, rd_s, upw_s, ne_eq, not_false_eq_true, Nat.zero_add, Nat.add_zero, if_true, if_false, eq_self, tyX2]
    | split
    | with_reducible intro _
    | omega
end
end
