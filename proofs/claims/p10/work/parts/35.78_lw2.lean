section
section
variable {g : RO} {Q : Ot → Hw → Prop} {w : Hw} {x nA cA lA y nM o : Nat} {kn km th : Int32} {s s2 : AS}
set_option maxHeartbeats 4000000 in
theorem fL_twoSmall {a0 a1 a2 : Int32} (hL : LW g w x nA cA lA y nM o kn km th s s2) (hX : ¬ (okC a0) → Q (.inl (some (.int 1))) w) (hT : okC a0 → oP (a1.toInt64) (a1.toInt64) (a2.toInt64) (a2.toInt64) → ∀ w', LW g w' x nA cA lA y nM o kn km th (sMk s a0.toNatClampNeg (a1.toInt64, a1.toInt64, a2.toInt64, a2.toInt64)) s2 → outN w' o ((1 : Int32).toInt64) → Q (.inl (some (.int 0))) w') (hF : okC a0 → ¬ oP (a1.toInt64) (a1.toInt64) (a2.toInt64) (a2.toInt64) → ∀ w', LW g w' x nA cA lA y nM o kn km th (sRf s) s2 → outN w' o ((-9 : Int32).toInt64) → Q (.inl (some (.int 0))) w') : WP (ML_twoSmall g) Q (0, [some (.ref x), some (.int a0), some (.int a1), some (.int a2), some (.ref o), none], [], w, 0, 0) := by
  have ho := hL.2.1
  simp only [eL_twoSmall_0, wt_nil, wt_ref, Nat.zero_add, Nat.add_zero]
  with_reducible refine And.intro ?_ ?_
  with_reducible refine LW.gx hL (fun _ => trivial)
  with_reducible refine And.intro ?_ ?_
  omega
  with_reducible refine And.intro ?_ ?_
  omega
  with_reducible refine And.intro ?_ ?_
  omega
  with_reducible refine fX1_twoSmall hL.cs (fun hXc0 => ?_) (fun hTc0 hTc1 hTw hTh => ?_) (fun hFc0 hFc1 hFw hFh => ?_)
  simp only [kx_r]
  ((with_reducible refine isHgo ?_); refine hgo_h (HH := [(0, 13, 16, 19)]) (NN := [(19, "java/lang/IndexOutOfBoundsException")]) (h := 16) (E := "java/lang/IndexOutOfBoundsException") rfl rfl (by decide +kernel) (by decide) (fun _ => ?_))
  simp only [eL_twoSmall_16, nl_ref]
  with_reducible refine And.intro ?_ ?_
  omega
  with_reducible refine And.intro ?_ ?_
  omega
  with_reducible exact hX hXc0
  simp only [eL_twoSmall_9, eL_twoSmall_13, kx_l, tl_s, nf_l, true_and]
  with_reducible refine go_OF (LW.of hL hTh (by first | with_reducible exact ho | with_reducible exact ho.num | with_reducible exact ho.rf | with_reducible exact ho.mk (by assumption) | with_reducible exact ho.mk (ho.c' (by assumption) (by assumption)) | with_reducible exact ho.mkO (by assumption) (by assumption) | with_reducible exact ho.card0 | with_reducible exact ho.card (ho.c' (by assumption) (by assumption)) | with_reducible exact ho.card (ho.p' (by assumption)) | with_reducible exact ho.lay (ho.c' (by assumption) (by assumption)) (by assumption) | with_reducible exact ho.gap (by assumption) | with_reducible exact ho.tur | with_reducible exact ho.zero)) (fun _ _ hw => ?_)
  with_reducible refine And.intro ?_ ?_
  simp only [List.length_cons, List.length_nil, Nat.zero_add]
  omega
  with_reducible refine And.intro ?_ ?_
  omega
  with_reducible refine And.intro ?_ ?_
  omega
  simp only [List.set_cons_zero]
  with_reducible exact hT hTc0 hTc1 _ (hw _ _) outN.mk
  simp only [eL_twoSmall_9, eL_twoSmall_13, kx_l, tl_s, nf_l, true_and]
  with_reducible refine go_OF (LW.of hL hFh (by first | with_reducible exact ho | with_reducible exact ho.num | with_reducible exact ho.rf | with_reducible exact ho.mk (by assumption) | with_reducible exact ho.mk (ho.c' (by assumption) (by assumption)) | with_reducible exact ho.mkO (by assumption) (by assumption) | with_reducible exact ho.card0 | with_reducible exact ho.card (ho.c' (by assumption) (by assumption)) | with_reducible exact ho.card (ho.p' (by assumption)) | with_reducible exact ho.lay (ho.c' (by assumption) (by assumption)) (by assumption) | with_reducible exact ho.gap (by assumption) | with_reducible exact ho.tur | with_reducible exact ho.zero)) (fun _ _ hw => ?_)
  with_reducible refine And.intro ?_ ?_
  simp only [List.length_cons, List.length_nil, Nat.zero_add]
  omega
  with_reducible refine And.intro ?_ ?_
  omega
  with_reducible refine And.intro ?_ ?_
  omega
  simp only [List.set_cons_zero]
  with_reducible exact hF hFc0 hFc1 _ (hw _ _) outN.mk
set_option maxHeartbeats 4000000 in
theorem fL_threeSmall {a0 a1 a2 a3 : Int32} (hL : LW g w x nA cA lA y nM o kn km th s s2) (hX : ¬ (okC a0) → Q (.inl (some (.int 1))) w) (hT : okC a0 → oP (a1.toInt64) (a1.toInt64) (a2.toInt64) (a3.toInt64) → ∀ w', LW g w' x nA cA lA y nM o kn km th (sMk s a0.toNatClampNeg (a1.toInt64, a1.toInt64, a2.toInt64, a3.toInt64)) s2 → outN w' o ((1 : Int32).toInt64) → Q (.inl (some (.int 0))) w') (hF : okC a0 → ¬ oP (a1.toInt64) (a1.toInt64) (a2.toInt64) (a3.toInt64) → ∀ w', LW g w' x nA cA lA y nM o kn km th (sRf s) s2 → outN w' o ((-9 : Int32).toInt64) → Q (.inl (some (.int 0))) w') : WP (ML_threeSmall g) Q (0, [some (.ref x), some (.int a0), some (.int a1), some (.int a2), some (.int a3), some (.ref o), none], [], w, 0, 0) := by
  have ho := hL.2.1
  simp only [eL_threeSmall_0, wt_nil, wt_ref, Nat.zero_add, Nat.add_zero]
  with_reducible refine And.intro ?_ ?_
  with_reducible refine LW.gx hL (fun _ => trivial)
  with_reducible refine And.intro ?_ ?_
  omega
  with_reducible refine And.intro ?_ ?_
  omega
  with_reducible refine And.intro ?_ ?_
  omega
  with_reducible refine fX1_threeSmall hL.cs (fun hXc0 => ?_) (fun hTc0 hTc1 hTw hTh => ?_) (fun hFc0 hFc1 hFw hFh => ?_)
  simp only [kx_r]
  ((with_reducible refine isHgo ?_); refine hgo_h (HH := [(0, 15, 18, 19)]) (NN := [(19, "java/lang/IndexOutOfBoundsException")]) (h := 18) (E := "java/lang/IndexOutOfBoundsException") rfl rfl (by decide +kernel) (by decide) (fun _ => ?_))
  simp only [eL_threeSmall_18, nl_ref]
  with_reducible refine And.intro ?_ ?_
  omega
  with_reducible refine And.intro ?_ ?_
  omega
  with_reducible exact hX hXc0
  simp only [eL_threeSmall_11, eL_threeSmall_15, kx_l, tl_s, nf_l, true_and]
  with_reducible refine go_OF (LW.of hL hTh (by first | with_reducible exact ho | with_reducible exact ho.num | with_reducible exact ho.rf | with_reducible exact ho.mk (by assumption) | with_reducible exact ho.mk (ho.c' (by assumption) (by assumption)) | with_reducible exact ho.mkO (by assumption) (by assumption) | with_reducible exact ho.card0 | with_reducible exact ho.card (ho.c' (by assumption) (by assumption)) | with_reducible exact ho.card (ho.p' (by assumption)) | with_reducible exact ho.lay (ho.c' (by assumption) (by assumption)) (by assumption) | with_reducible exact ho.gap (by assumption) | with_reducible exact ho.tur | with_reducible exact ho.zero)) (fun _ _ hw => ?_)
  with_reducible refine And.intro ?_ ?_
  simp only [List.length_cons, List.length_nil, Nat.zero_add]
  omega
  with_reducible refine And.intro ?_ ?_
  omega
  with_reducible refine And.intro ?_ ?_
  omega
  simp only [List.set_cons_zero]
  with_reducible exact hT hTc0 hTc1 _ (hw _ _) outN.mk
  simp only [eL_threeSmall_11, eL_threeSmall_15, kx_l, tl_s, nf_l, true_and]
  with_reducible refine go_OF (LW.of hL hFh (by first | with_reducible exact ho | with_reducible exact ho.num | with_reducible exact ho.rf | with_reducible exact ho.mk (by assumption) | with_reducible exact ho.mk (ho.c' (by assumption) (by assumption)) | with_reducible exact ho.mkO (by assumption) (by assumption) | with_reducible exact ho.card0 | with_reducible exact ho.card (ho.c' (by assumption) (by assumption)) | with_reducible exact ho.card (ho.p' (by assumption)) | with_reducible exact ho.lay (ho.c' (by assumption) (by assumption)) (by assumption) | with_reducible exact ho.gap (by assumption) | with_reducible exact ho.tur | with_reducible exact ho.zero)) (fun _ _ hw => ?_)
  with_reducible refine And.intro ?_ ?_
  simp only [List.length_cons, List.length_nil, Nat.zero_add]
  omega
  with_reducible refine And.intro ?_ ?_
  omega
  with_reducible refine And.intro ?_ ?_
  omega
  simp only [List.set_cons_zero]
  with_reducible exact hF hFc0 hFc1 _ (hw _ _) outN.mk
set_option maxHeartbeats 4000000 in
theorem fL_fourSmall {a0 a1 a2 a3 a4 : Int32} (hL : LW g w x nA cA lA y nM o kn km th s s2) (hX : ¬ (okC a0) → Q (.inl (some (.int 1))) w) (hT : okC a0 → oP (a1.toInt64) (a2.toInt64) (a3.toInt64) (a4.toInt64) → ∀ w', LW g w' x nA cA lA y nM o kn km th (sMk s a0.toNatClampNeg (a1.toInt64, a2.toInt64, a3.toInt64, a4.toInt64)) s2 → outN w' o ((1 : Int32).toInt64) → Q (.inl (some (.int 0))) w') (hF : okC a0 → ¬ oP (a1.toInt64) (a2.toInt64) (a3.toInt64) (a4.toInt64) → ∀ w', LW g w' x nA cA lA y nM o kn km th (sRf s) s2 → outN w' o ((-9 : Int32).toInt64) → Q (.inl (some (.int 0))) w') : WP (ML_fourSmall g) Q (0, [some (.ref x), some (.int a0), some (.int a1), some (.int a2), some (.int a3), some (.int a4), some (.ref o), none], [], w, 0, 0) := by
  have ho := hL.2.1
  simp only [eL_fourSmall_0, wt_nil, wt_ref, Nat.zero_add, Nat.add_zero]
  with_reducible refine And.intro ?_ ?_
  with_reducible refine LW.gx hL (fun _ => trivial)
  with_reducible refine And.intro ?_ ?_
  omega
  with_reducible refine And.intro ?_ ?_
  omega
  with_reducible refine And.intro ?_ ?_
  omega
  with_reducible refine fX1_fourSmall hL.cs (fun hXc0 => ?_) (fun hTc0 hTc1 hTw hTh => ?_) (fun hFc0 hFc1 hFw hFh => ?_)
  simp only [kx_r]
  ((with_reducible refine isHgo ?_); refine hgo_h (HH := [(0, 17, 20, 19)]) (NN := [(19, "java/lang/IndexOutOfBoundsException")]) (h := 20) (E := "java/lang/IndexOutOfBoundsException") rfl rfl (by decide +kernel) (by decide) (fun _ => ?_))
  simp only [eL_fourSmall_20, nl_ref]
  with_reducible refine And.intro ?_ ?_
  omega
  with_reducible refine And.intro ?_ ?_
  omega
  with_reducible exact hX hXc0
  simp only [eL_fourSmall_13, eL_fourSmall_17, kx_l, tl_s, nf_l, true_and]
  with_reducible refine go_OF (LW.of hL hTh (by first | with_reducible exact ho | with_reducible exact ho.num | with_reducible exact ho.rf | with_reducible exact ho.mk (by assumption) | with_reducible exact ho.mk (ho.c' (by assumption) (by assumption)) | with_reducible exact ho.mkO (by assumption) (by assumption) | with_reducible exact ho.card0 | with_reducible exact ho.card (ho.c' (by assumption) (by assumption)) | with_reducible exact ho.card (ho.p' (by assumption)) | with_reducible exact ho.lay (ho.c' (by assumption) (by assumption)) (by assumption) | with_reducible exact ho.gap (by assumption) | with_reducible exact ho.tur | with_reducible exact ho.zero)) (fun _ _ hw => ?_)
  with_reducible refine And.intro ?_ ?_
  simp only [List.length_cons, List.length_nil, Nat.zero_add]
  omega
  with_reducible refine And.intro ?_ ?_
  omega
  with_reducible refine And.intro ?_ ?_
  omega
  simp only [List.set_cons_zero]
  with_reducible exact hT hTc0 hTc1 _ (hw _ _) outN.mk
  simp only [eL_fourSmall_13, eL_fourSmall_17, kx_l, tl_s, nf_l, true_and]
  with_reducible refine go_OF (LW.of hL hFh (by first | with_reducible exact ho | with_reducible exact ho.num | with_reducible exact ho.rf | with_reducible exact ho.mk (by assumption) | with_reducible exact ho.mk (ho.c' (by assumption) (by assumption)) | with_reducible exact ho.mkO (by assumption) (by assumption) | with_reducible exact ho.card0 | with_reducible exact ho.card (ho.c' (by assumption) (by assumption)) | with_reducible exact ho.card (ho.p' (by assumption)) | with_reducible exact ho.lay (ho.c' (by assumption) (by assumption)) (by assumption) | with_reducible exact ho.gap (by assumption) | with_reducible exact ho.tur | with_reducible exact ho.zero)) (fun _ _ hw => ?_)
  with_reducible refine And.intro ?_ ?_
  simp only [List.length_cons, List.length_nil, Nat.zero_add]
  omega
  with_reducible refine And.intro ?_ ?_
  omega
  with_reducible refine And.intro ?_ ?_
  omega
  simp only [List.set_cons_zero]
  with_reducible exact hF hFc0 hFc1 _ (hw _ _) outN.mk
set_option maxHeartbeats 4000000 in
theorem fL_again {a0 a1 : Int32} (hL : LW g w x nA cA lA y nM o kn km th s s2) (hX : ¬ (okC a0 ∧ okC a1) → Q (.inl (some (.int 1))) w) (hS : okC a0 → okC a1 → s.2.1 a1.toNatClampNeg = none → Q (.inl (some (.int 2))) w) (hQ : okC a0 → okC a1 → ∀ r, s.2.1 a1.toNatClampNeg = some r → ∀ w', LW g w' x nA cA lA y nM o kn km th (sMk s a0.toNatClampNeg r) s2 → outN w' o ((seV r).toInt64) → Q (.inl (some (.int 0))) w') : WP (ML_again g) Q (0, [some (.ref x), some (.int a0), some (.int a1), some (.ref o), none], [], w, 0, 0) := by
  have ho := hL.2.1
  simp only [eL_again_0, wt_nil, wt_ref, Nat.zero_add, Nat.add_zero]
  with_reducible refine And.intro ?_ ?_
  with_reducible refine LW.gx hL (fun _ => trivial)
  with_reducible refine And.intro ?_ ?_
  omega
  with_reducible refine And.intro ?_ ?_
  omega
  with_reducible refine And.intro ?_ ?_
  omega
  with_reducible refine fX1_again hL.cs ho (fun hXc0 => ?_) (fun hSc0 hSc1 hSc2 => ?_) (fun hQc0 hQc1 hQr hQc2 hQw hQh => ?_)
  simp only [kx_r]
  ((with_reducible refine isHgo ?_); refine hgo_h (HH := [(0, 11, 14, 19), (0, 11, 18, 74)]) (NN := [(19, "java/lang/IndexOutOfBoundsException"), (74, "java/lang/IllegalStateException")]) (h := 14) (E := "java/lang/IndexOutOfBoundsException") rfl rfl (by decide +kernel) (by decide) (fun _ => ?_))
  simp only [eL_again_14, nl_ref]
  with_reducible refine And.intro ?_ ?_
  omega
  with_reducible refine And.intro ?_ ?_
  omega
  with_reducible exact hX hXc0
  simp only [kx_r]
  ((with_reducible refine isHgo ?_); refine hgo_h (HH := [(0, 11, 14, 19), (0, 11, 18, 74)]) (NN := [(19, "java/lang/IndexOutOfBoundsException"), (74, "java/lang/IllegalStateException")]) (h := 18) (E := "java/lang/IllegalStateException") rfl rfl (by decide +kernel) (by decide) (fun _ => ?_))
  simp only [eL_again_18, nl_ref]
  with_reducible refine And.intro ?_ ?_
  omega
  with_reducible refine And.intro ?_ ?_
  omega
  with_reducible exact hS hSc0 hSc1 hSc2
  simp only [eL_again_7, eL_again_11, kx_l, tl_s, nf_l, true_and]
  with_reducible refine go_OF (LW.of hL hQh (by first | with_reducible exact ho | with_reducible exact ho.num | with_reducible exact ho.rf | with_reducible exact ho.mk (by assumption) | with_reducible exact ho.mk (ho.c' (by assumption) (by assumption)) | with_reducible exact ho.mkO (by assumption) (by assumption) | with_reducible exact ho.card0 | with_reducible exact ho.card (ho.c' (by assumption) (by assumption)) | with_reducible exact ho.card (ho.p' (by assumption)) | with_reducible exact ho.lay (ho.c' (by assumption) (by assumption)) (by assumption) | with_reducible exact ho.gap (by assumption) | with_reducible exact ho.tur | with_reducible exact ho.zero)) (fun _ _ hw => ?_)
  with_reducible refine And.intro ?_ ?_
  simp only [List.length_cons, List.length_nil, Nat.zero_add]
  omega
  with_reducible refine And.intro ?_ ?_
  omega
  with_reducible refine And.intro ?_ ?_
  omega
  simp only [List.set_cons_zero]
  with_reducible exact hQ hQc0 hQc1 hQr hQc2 _ (hw _ _) outN.mk
set_option maxHeartbeats 4000000 in
theorem fL_same {a0 a1 : Int32} (hL : LW g w x nA cA lA y nM o kn km th s s2) (hX : ¬ (okC a0 ∧ okC a1) → Q (.inl (some (.int 1))) w) (hS : okC a0 → okC a1 → s.2.1 a1.toNatClampNeg = none → Q (.inl (some (.int 2))) w) (hN : okC a0 → okC a1 → ∀ r, s.2.1 a1.toNatClampNeg = some r → s.2.1 a0.toNatClampNeg = none → ∀ w', LW g w' x nA cA lA y nM o kn km th (sC s (va_up s.2.1 a0.toNatClampNeg (some r))) s2 → outN w' o ((-1 : Int32).toInt64) → Q (.inl (some (.int 0))) w') (hT : okC a0 → okC a1 → ∀ r, s.2.1 a1.toNatClampNeg = some r → ∀ q, s.2.1 a0.toNatClampNeg = some q → mP q r → ∀ w', LW g w' x nA cA lA y nM o kn km th (sC s (va_up s.2.1 a0.toNatClampNeg (some r))) s2 → outN w' o ((1 : Int32).toInt64) → Q (.inl (some (.int 0))) w') (hF : okC a0 → okC a1 → ∀ r, s.2.1 a1.toNatClampNeg = some r → ∀ q, s.2.1 a0.toNatClampNeg = some q → ¬ mP q r → ∀ w', LW g w' x nA cA lA y nM o kn km th (sC s (va_up s.2.1 a0.toNatClampNeg (some r))) s2 → outN w' o ((0 : Int32).toInt64) → Q (.inl (some (.int 0))) w') : WP (ML_same g) Q (0, [some (.ref x), some (.int a0), some (.int a1), some (.ref o), none], [], w, 0, 0) := by
  have ho := hL.2.1
  simp only [eL_same_0, wt_nil, wt_ref, Nat.zero_add, Nat.add_zero]
  with_reducible refine And.intro ?_ ?_
  with_reducible refine LW.gx hL (fun _ => trivial)
  with_reducible refine And.intro ?_ ?_
  omega
  with_reducible refine And.intro ?_ ?_
  omega
  with_reducible refine And.intro ?_ ?_
  omega
  with_reducible refine fX1_same hL.cs (fun hXc0 => ?_) (fun hSc0 hSc1 hSc2 => ?_) (fun hNc0 hNc1 hNr hNc2 hNc3 hNw hNh => ?_) (fun hTc0 hTc1 hTr hTc2 hTq hTc3 hTc4 hTw hTh => ?_) (fun hFc0 hFc1 hFr hFc2 hFq hFc3 hFc4 hFw hFh => ?_)
  simp only [kx_r]
  ((with_reducible refine isHgo ?_); refine hgo_h (HH := [(0, 11, 14, 19), (0, 11, 18, 74)]) (NN := [(19, "java/lang/IndexOutOfBoundsException"), (74, "java/lang/IllegalStateException")]) (h := 14) (E := "java/lang/IndexOutOfBoundsException") rfl rfl (by decide +kernel) (by decide) (fun _ => ?_))
  simp only [eL_same_14, nl_ref]
  with_reducible refine And.intro ?_ ?_
  omega
  with_reducible refine And.intro ?_ ?_
  omega
  with_reducible exact hX hXc0
  simp only [kx_r]
  ((with_reducible refine isHgo ?_); refine hgo_h (HH := [(0, 11, 14, 19), (0, 11, 18, 74)]) (NN := [(19, "java/lang/IndexOutOfBoundsException"), (74, "java/lang/IllegalStateException")]) (h := 18) (E := "java/lang/IllegalStateException") rfl rfl (by decide +kernel) (by decide) (fun _ => ?_))
  simp only [eL_same_18, nl_ref]
  with_reducible refine And.intro ?_ ?_
  omega
  with_reducible refine And.intro ?_ ?_
  omega
  with_reducible exact hS hSc0 hSc1 hSc2
  simp only [eL_same_7, eL_same_11, kx_l, tl_s, nf_l, true_and]
  with_reducible refine go_OF (LW.of hL hNh (by first | with_reducible exact ho | with_reducible exact ho.num | with_reducible exact ho.rf | with_reducible exact ho.mk (by assumption) | with_reducible exact ho.mk (ho.c' (by assumption) (by assumption)) | with_reducible exact ho.mkO (by assumption) (by assumption) | with_reducible exact ho.card0 | with_reducible exact ho.card (ho.c' (by assumption) (by assumption)) | with_reducible exact ho.card (ho.p' (by assumption)) | with_reducible exact ho.lay (ho.c' (by assumption) (by assumption)) (by assumption) | with_reducible exact ho.gap (by assumption) | with_reducible exact ho.tur | with_reducible exact ho.zero)) (fun _ _ hw => ?_)
  with_reducible refine And.intro ?_ ?_
  simp only [List.length_cons, List.length_nil, Nat.zero_add]
  omega
  with_reducible refine And.intro ?_ ?_
  omega
  with_reducible refine And.intro ?_ ?_
  omega
  simp only [List.set_cons_zero]
  with_reducible exact hN hNc0 hNc1 hNr hNc2 hNc3 _ (hw _ _) outN.mk
  simp only [eL_same_7, eL_same_11, kx_l, tl_s, nf_l, true_and]
  with_reducible refine go_OF (LW.of hL hTh (by first | with_reducible exact ho | with_reducible exact ho.num | with_reducible exact ho.rf | with_reducible exact ho.mk (by assumption) | with_reducible exact ho.mk (ho.c' (by assumption) (by assumption)) | with_reducible exact ho.mkO (by assumption) (by assumption) | with_reducible exact ho.card0 | with_reducible exact ho.card (ho.c' (by assumption) (by assumption)) | with_reducible exact ho.card (ho.p' (by assumption)) | with_reducible exact ho.lay (ho.c' (by assumption) (by assumption)) (by assumption) | with_reducible exact ho.gap (by assumption) | with_reducible exact ho.tur | with_reducible exact ho.zero)) (fun _ _ hw => ?_)
  with_reducible refine And.intro ?_ ?_
  simp only [List.length_cons, List.length_nil, Nat.zero_add]
  omega
  with_reducible refine And.intro ?_ ?_
  omega
  with_reducible refine And.intro ?_ ?_
  omega
  simp only [List.set_cons_zero]
  with_reducible exact hT hTc0 hTc1 hTr hTc2 hTq hTc3 hTc4 _ (hw _ _) outN.mk
  simp only [eL_same_7, eL_same_11, kx_l, tl_s, nf_l, true_and]
  with_reducible refine go_OF (LW.of hL hFh (by first | with_reducible exact ho | with_reducible exact ho.num | with_reducible exact ho.rf | with_reducible exact ho.mk (by assumption) | with_reducible exact ho.mk (ho.c' (by assumption) (by assumption)) | with_reducible exact ho.mkO (by assumption) (by assumption) | with_reducible exact ho.card0 | with_reducible exact ho.card (ho.c' (by assumption) (by assumption)) | with_reducible exact ho.card (ho.p' (by assumption)) | with_reducible exact ho.lay (ho.c' (by assumption) (by assumption)) (by assumption) | with_reducible exact ho.gap (by assumption) | with_reducible exact ho.tur | with_reducible exact ho.zero)) (fun _ _ hw => ?_)
  with_reducible refine And.intro ?_ ?_
  simp only [List.length_cons, List.length_nil, Nat.zero_add]
  omega
  with_reducible refine And.intro ?_ ?_
  omega
  with_reducible refine And.intro ?_ ?_
  omega
  simp only [List.set_cons_zero]
  with_reducible exact hF hFc0 hFc1 hFr hFc2 hFq hFc3 hFc4 _ (hw _ _) outN.mk
set_option maxHeartbeats 4000000 in
theorem fL_outer {a0 a1 : Int32} (hL : LW g w x nA cA lA y nM o kn km th s s2) (hX : ¬ (okC a0 ∧ okC a1) → Q (.inl (some (.int 1))) w) (hS : okC a0 → okC a1 → s.2.1 a1.toNatClampNeg = none → Q (.inl (some (.int 2))) w) (hT : okC a0 → okC a1 → ∀ r, s.2.1 a1.toNatClampNeg = some r → fP r → ∀ w', LW g w' x nA cA lA y nM o kn km th (sMk s a0.toNatClampNeg (r.1, r.1, r.2.2.2, r.2.2.2)) s2 → outN w' o ((1 : Int32).toInt64) → Q (.inl (some (.int 0))) w') (hF : okC a0 → okC a1 → ∀ r, s.2.1 a1.toNatClampNeg = some r → ¬ fP r → ∀ w', LW g w' x nA cA lA y nM o kn km th (sMk s a0.toNatClampNeg (r.1, r.1, r.2.2.2, r.2.2.2)) s2 → outN w' o ((0 : Int32).toInt64) → Q (.inl (some (.int 0))) w') : WP (ML_outer g) Q (0, [some (.ref x), some (.int a0), some (.int a1), some (.ref o), none], [], w, 0, 0) := by
  have ho := hL.2.1
  simp only [eL_outer_0, wt_nil, wt_ref, Nat.zero_add, Nat.add_zero]
  with_reducible refine And.intro ?_ ?_
  with_reducible refine LW.gx hL (fun _ => trivial)
  with_reducible refine And.intro ?_ ?_
  omega
  with_reducible refine And.intro ?_ ?_
  omega
  with_reducible refine And.intro ?_ ?_
  omega
  with_reducible refine fX1_outer hL.cs ho (fun hXc0 => ?_) (fun hSc0 hSc1 hSc2 => ?_) (fun hTc0 hTc1 hTr hTc2 hTc3 hTw hTh => ?_) (fun hFc0 hFc1 hFr hFc2 hFc3 hFw hFh => ?_)
  simp only [kx_r]
  ((with_reducible refine isHgo ?_); refine hgo_h (HH := [(0, 11, 14, 19), (0, 11, 18, 74)]) (NN := [(19, "java/lang/IndexOutOfBoundsException"), (74, "java/lang/IllegalStateException")]) (h := 14) (E := "java/lang/IndexOutOfBoundsException") rfl rfl (by decide +kernel) (by decide) (fun _ => ?_))
  simp only [eL_outer_14, nl_ref]
  with_reducible refine And.intro ?_ ?_
  omega
  with_reducible refine And.intro ?_ ?_
  omega
  with_reducible exact hX hXc0
  simp only [kx_r]
  ((with_reducible refine isHgo ?_); refine hgo_h (HH := [(0, 11, 14, 19), (0, 11, 18, 74)]) (NN := [(19, "java/lang/IndexOutOfBoundsException"), (74, "java/lang/IllegalStateException")]) (h := 18) (E := "java/lang/IllegalStateException") rfl rfl (by decide +kernel) (by decide) (fun _ => ?_))
  simp only [eL_outer_18, nl_ref]
  with_reducible refine And.intro ?_ ?_
  omega
  with_reducible refine And.intro ?_ ?_
  omega
  with_reducible exact hS hSc0 hSc1 hSc2
  simp only [eL_outer_7, eL_outer_11, kx_l, tl_s, nf_l, true_and]
  with_reducible refine go_OF (LW.of hL hTh (by first | with_reducible exact ho | with_reducible exact ho.num | with_reducible exact ho.rf | with_reducible exact ho.mk (by assumption) | with_reducible exact ho.mk (ho.c' (by assumption) (by assumption)) | with_reducible exact ho.mkO (by assumption) (by assumption) | with_reducible exact ho.card0 | with_reducible exact ho.card (ho.c' (by assumption) (by assumption)) | with_reducible exact ho.card (ho.p' (by assumption)) | with_reducible exact ho.lay (ho.c' (by assumption) (by assumption)) (by assumption) | with_reducible exact ho.gap (by assumption) | with_reducible exact ho.tur | with_reducible exact ho.zero)) (fun _ _ hw => ?_)
  with_reducible refine And.intro ?_ ?_
  simp only [List.length_cons, List.length_nil, Nat.zero_add]
  omega
  with_reducible refine And.intro ?_ ?_
  omega
  with_reducible refine And.intro ?_ ?_
  omega
  simp only [List.set_cons_zero]
  with_reducible exact hT hTc0 hTc1 hTr hTc2 hTc3 _ (hw _ _) outN.mk
  simp only [eL_outer_7, eL_outer_11, kx_l, tl_s, nf_l, true_and]
  with_reducible refine go_OF (LW.of hL hFh (by first | with_reducible exact ho | with_reducible exact ho.num | with_reducible exact ho.rf | with_reducible exact ho.mk (by assumption) | with_reducible exact ho.mk (ho.c' (by assumption) (by assumption)) | with_reducible exact ho.mkO (by assumption) (by assumption) | with_reducible exact ho.card0 | with_reducible exact ho.card (ho.c' (by assumption) (by assumption)) | with_reducible exact ho.card (ho.p' (by assumption)) | with_reducible exact ho.lay (ho.c' (by assumption) (by assumption)) (by assumption) | with_reducible exact ho.gap (by assumption) | with_reducible exact ho.tur | with_reducible exact ho.zero)) (fun _ _ hw => ?_)
  with_reducible refine And.intro ?_ ?_
  simp only [List.length_cons, List.length_nil, Nat.zero_add]
  omega
  with_reducible refine And.intro ?_ ?_
  omega
  with_reducible refine And.intro ?_ ?_
  omega
  simp only [List.set_cons_zero]
  with_reducible exact hF hFc0 hFc1 hFr hFc2 hFc3 _ (hw _ _) outN.mk
set_option maxHeartbeats 4000000 in
theorem fL_inner {a0 a1 : Int32} (hL : LW g w x nA cA lA y nM o kn km th s s2) (hX : ¬ (okC a0 ∧ okC a1) → Q (.inl (some (.int 1))) w) (hS : okC a0 → okC a1 → s.2.1 a1.toNatClampNeg = none → Q (.inl (some (.int 2))) w) (hT : okC a0 → okC a1 → ∀ r, s.2.1 a1.toNatClampNeg = some r → oP r.2.1 r.2.1 r.2.2.1 r.2.2.1 → ∀ w', LW g w' x nA cA lA y nM o kn km th (sMk s a0.toNatClampNeg (r.2.1, r.2.1, r.2.2.1, r.2.2.1)) s2 → outN w' o ((1 : Int32).toInt64) → Q (.inl (some (.int 0))) w') (hF : okC a0 → okC a1 → ∀ r, s.2.1 a1.toNatClampNeg = some r → ¬ oP r.2.1 r.2.1 r.2.2.1 r.2.2.1 → ∀ w', LW g w' x nA cA lA y nM o kn km th (sRf s) s2 → outN w' o ((-9 : Int32).toInt64) → Q (.inl (some (.int 0))) w') : WP (ML_inner g) Q (0, [some (.ref x), some (.int a0), some (.int a1), some (.ref o), none], [], w, 0, 0) := by
  have ho := hL.2.1
  simp only [eL_inner_0, wt_nil, wt_ref, Nat.zero_add, Nat.add_zero]
  with_reducible refine And.intro ?_ ?_
  with_reducible refine LW.gx hL (fun _ => trivial)
  with_reducible refine And.intro ?_ ?_
  omega
  with_reducible refine And.intro ?_ ?_
  omega
  with_reducible refine And.intro ?_ ?_
  omega
  with_reducible refine fX1_inner hL.cs (fun hXc0 => ?_) (fun hSc0 hSc1 hSc2 => ?_) (fun hTc0 hTc1 hTr hTc2 hTc3 hTw hTh => ?_) (fun hFc0 hFc1 hFr hFc2 hFc3 hFw hFh => ?_)
  simp only [kx_r]
  ((with_reducible refine isHgo ?_); refine hgo_h (HH := [(0, 11, 14, 19), (0, 11, 18, 74)]) (NN := [(19, "java/lang/IndexOutOfBoundsException"), (74, "java/lang/IllegalStateException")]) (h := 14) (E := "java/lang/IndexOutOfBoundsException") rfl rfl (by decide +kernel) (by decide) (fun _ => ?_))
  simp only [eL_inner_14, nl_ref]
  with_reducible refine And.intro ?_ ?_
  omega
  with_reducible refine And.intro ?_ ?_
  omega
  with_reducible exact hX hXc0
  simp only [kx_r]
  ((with_reducible refine isHgo ?_); refine hgo_h (HH := [(0, 11, 14, 19), (0, 11, 18, 74)]) (NN := [(19, "java/lang/IndexOutOfBoundsException"), (74, "java/lang/IllegalStateException")]) (h := 18) (E := "java/lang/IllegalStateException") rfl rfl (by decide +kernel) (by decide) (fun _ => ?_))
  simp only [eL_inner_18, nl_ref]
  with_reducible refine And.intro ?_ ?_
  omega
  with_reducible refine And.intro ?_ ?_
  omega
  with_reducible exact hS hSc0 hSc1 hSc2
  simp only [eL_inner_7, eL_inner_11, kx_l, tl_s, nf_l, true_and]
  with_reducible refine go_OF (LW.of hL hTh (by first | with_reducible exact ho | with_reducible exact ho.num | with_reducible exact ho.rf | with_reducible exact ho.mk (by assumption) | with_reducible exact ho.mk (ho.c' (by assumption) (by assumption)) | with_reducible exact ho.mkO (by assumption) (by assumption) | with_reducible exact ho.card0 | with_reducible exact ho.card (ho.c' (by assumption) (by assumption)) | with_reducible exact ho.card (ho.p' (by assumption)) | with_reducible exact ho.lay (ho.c' (by assumption) (by assumption)) (by assumption) | with_reducible exact ho.gap (by assumption) | with_reducible exact ho.tur | with_reducible exact ho.zero)) (fun _ _ hw => ?_)
  with_reducible refine And.intro ?_ ?_
  simp only [List.length_cons, List.length_nil, Nat.zero_add]
  omega
  with_reducible refine And.intro ?_ ?_
  omega
  with_reducible refine And.intro ?_ ?_
  omega
  simp only [List.set_cons_zero]
  with_reducible exact hT hTc0 hTc1 hTr hTc2 hTc3 _ (hw _ _) outN.mk
  simp only [eL_inner_7, eL_inner_11, kx_l, tl_s, nf_l, true_and]
  with_reducible refine go_OF (LW.of hL hFh (by first | with_reducible exact ho | with_reducible exact ho.num | with_reducible exact ho.rf | with_reducible exact ho.mk (by assumption) | with_reducible exact ho.mk (ho.c' (by assumption) (by assumption)) | with_reducible exact ho.mkO (by assumption) (by assumption) | with_reducible exact ho.card0 | with_reducible exact ho.card (ho.c' (by assumption) (by assumption)) | with_reducible exact ho.card (ho.p' (by assumption)) | with_reducible exact ho.lay (ho.c' (by assumption) (by assumption)) (by assumption) | with_reducible exact ho.gap (by assumption) | with_reducible exact ho.tur | with_reducible exact ho.zero)) (fun _ _ hw => ?_)
  with_reducible refine And.intro ?_ ?_
  simp only [List.length_cons, List.length_nil, Nat.zero_add]
  omega
  with_reducible refine And.intro ?_ ?_
  omega
  with_reducible refine And.intro ?_ ?_
  omega
  simp only [List.set_cons_zero]
  with_reducible exact hF hFc0 hFc1 hFr hFc2 hFc3 _ (hw _ _) outN.mk
set_option maxHeartbeats 4000000 in
theorem fL_span {a0 a1 a2 : Int32} (hL : LW g w x nA cA lA y nM o kn km th s s2) (hX : ¬ (okC a0 ∧ okC a1 ∧ okC a2) → Q (.inl (some (.int 1))) w) (hS : okC a0 → okC a1 → okC a2 → (s.2.1 a1.toNatClampNeg = none ∨ s.2.1 a2.toNatClampNeg = none) → Q (.inl (some (.int 2))) w) (hT : okC a0 → okC a1 → okC a2 → ∀ r q, s.2.1 a1.toNatClampNeg = some r → s.2.1 a2.toNatClampNeg = some q → oP r.1 r.2.1 q.2.2.1 q.2.2.2 → ∀ w', LW g w' x nA cA lA y nM o kn km th (sMk s a0.toNatClampNeg (r.1, r.2.1, q.2.2.1, q.2.2.2)) s2 → outN w' o ((1 : Int32).toInt64) → Q (.inl (some (.int 0))) w') (hF : okC a0 → okC a1 → okC a2 → ∀ r q, s.2.1 a1.toNatClampNeg = some r → s.2.1 a2.toNatClampNeg = some q → ¬ oP r.1 r.2.1 q.2.2.1 q.2.2.2 → ∀ w', LW g w' x nA cA lA y nM o kn km th (sRf s) s2 → outN w' o ((-9 : Int32).toInt64) → Q (.inl (some (.int 0))) w') : WP (ML_span g) Q (0, [some (.ref x), some (.int a0), some (.int a1), some (.int a2), some (.ref o), none], [], w, 0, 0) := by
  have ho := hL.2.1
  simp only [eL_span_0, wt_nil, wt_ref, Nat.zero_add, Nat.add_zero]
  with_reducible refine And.intro ?_ ?_
  with_reducible refine LW.gx hL (fun _ => trivial)
  with_reducible refine And.intro ?_ ?_
  omega
  with_reducible refine And.intro ?_ ?_
  omega
  with_reducible refine And.intro ?_ ?_
  omega
  with_reducible refine fX1_span hL.cs (fun hXc0 => ?_) (fun hSc0 hSc1 hSc2 hSc3 => ?_) (fun hTc0 hTc1 hTc2 hTr hTq hTc3 hTc4 hTc5 hTw hTh => ?_) (fun hFc0 hFc1 hFc2 hFr hFq hFc3 hFc4 hFc5 hFw hFh => ?_)
  simp only [kx_r]
  ((with_reducible refine isHgo ?_); refine hgo_h (HH := [(0, 13, 16, 19), (0, 13, 20, 74)]) (NN := [(19, "java/lang/IndexOutOfBoundsException"), (74, "java/lang/IllegalStateException")]) (h := 16) (E := "java/lang/IndexOutOfBoundsException") rfl rfl (by decide +kernel) (by decide) (fun _ => ?_))
  simp only [eL_span_16, nl_ref]
  with_reducible refine And.intro ?_ ?_
  omega
  with_reducible refine And.intro ?_ ?_
  omega
  with_reducible exact hX hXc0
  simp only [kx_r]
  ((with_reducible refine isHgo ?_); refine hgo_h (HH := [(0, 13, 16, 19), (0, 13, 20, 74)]) (NN := [(19, "java/lang/IndexOutOfBoundsException"), (74, "java/lang/IllegalStateException")]) (h := 20) (E := "java/lang/IllegalStateException") rfl rfl (by decide +kernel) (by decide) (fun _ => ?_))
  simp only [eL_span_20, nl_ref]
  with_reducible refine And.intro ?_ ?_
  omega
  with_reducible refine And.intro ?_ ?_
  omega
  with_reducible exact hS hSc0 hSc1 hSc2 hSc3
  simp only [eL_span_9, eL_span_13, kx_l, tl_s, nf_l, true_and]
  with_reducible refine go_OF (LW.of hL hTh (by first | with_reducible exact ho | with_reducible exact ho.num | with_reducible exact ho.rf | with_reducible exact ho.mk (by assumption) | with_reducible exact ho.mk (ho.c' (by assumption) (by assumption)) | with_reducible exact ho.mkO (by assumption) (by assumption) | with_reducible exact ho.card0 | with_reducible exact ho.card (ho.c' (by assumption) (by assumption)) | with_reducible exact ho.card (ho.p' (by assumption)) | with_reducible exact ho.lay (ho.c' (by assumption) (by assumption)) (by assumption) | with_reducible exact ho.gap (by assumption) | with_reducible exact ho.tur | with_reducible exact ho.zero)) (fun _ _ hw => ?_)
  with_reducible refine And.intro ?_ ?_
  simp only [List.length_cons, List.length_nil, Nat.zero_add]
  omega
  with_reducible refine And.intro ?_ ?_
  omega
  with_reducible refine And.intro ?_ ?_
  omega
  simp only [List.set_cons_zero]
  with_reducible exact hT hTc0 hTc1 hTc2 hTr hTq hTc3 hTc4 hTc5 _ (hw _ _) outN.mk
  simp only [eL_span_9, eL_span_13, kx_l, tl_s, nf_l, true_and]
  with_reducible refine go_OF (LW.of hL hFh (by first | with_reducible exact ho | with_reducible exact ho.num | with_reducible exact ho.rf | with_reducible exact ho.mk (by assumption) | with_reducible exact ho.mk (ho.c' (by assumption) (by assumption)) | with_reducible exact ho.mkO (by assumption) (by assumption) | with_reducible exact ho.card0 | with_reducible exact ho.card (ho.c' (by assumption) (by assumption)) | with_reducible exact ho.card (ho.p' (by assumption)) | with_reducible exact ho.lay (ho.c' (by assumption) (by assumption)) (by assumption) | with_reducible exact ho.gap (by assumption) | with_reducible exact ho.tur | with_reducible exact ho.zero)) (fun _ _ hw => ?_)
  with_reducible refine And.intro ?_ ?_
  simp only [List.length_cons, List.length_nil, Nat.zero_add]
  omega
  with_reducible refine And.intro ?_ ?_
  omega
  with_reducible refine And.intro ?_ ?_
  omega
  simp only [List.set_cons_zero]
  with_reducible exact hF hFc0 hFc1 hFc2 hFr hFq hFc3 hFc4 hFc5 _ (hw _ _) outN.mk
set_option maxHeartbeats 4000000 in
theorem fL_shift {a0 a1 : Int32} (hL : LW g w x nA cA lA y nM o kn km th s s2) (hX : ¬ okC a0 → Q (.inl (some (.int 1))) w) (hS : okC a0 → s.2.1 a0.toNatClampNeg = none → Q (.inl (some (.int 2))) w) (hT : okC a0 → ∀ r, s.2.1 a0.toNatClampNeg = some r → oP (r.1 + a1.toInt64) (r.2.1 + a1.toInt64) (r.2.2.1 + a1.toInt64) (r.2.2.2 + a1.toInt64) → ∀ w', LW g w' x nA cA lA y nM o kn km th (sMk s a0.toNatClampNeg (r.1 + a1.toInt64, r.2.1 + a1.toInt64, r.2.2.1 + a1.toInt64, r.2.2.2 + a1.toInt64)) s2 → outN w' o ((1 : Int32).toInt64) → Q (.inl (some (.int 0))) w') (hF : okC a0 → ∀ r, s.2.1 a0.toNatClampNeg = some r → ¬ oP (r.1 + a1.toInt64) (r.2.1 + a1.toInt64) (r.2.2.1 + a1.toInt64) (r.2.2.2 + a1.toInt64) → ∀ w', LW g w' x nA cA lA y nM o kn km th (sRf s) s2 → outN w' o ((-9 : Int32).toInt64) → Q (.inl (some (.int 0))) w') : WP (ML_shift g) Q (0, [some (.ref x), some (.int a0), some (.int a1), some (.ref o), none], [], w, 0, 0) := by
  have ho := hL.2.1
  simp only [eL_shift_0, wt_nil, wt_ref, Nat.zero_add, Nat.add_zero]
  with_reducible refine And.intro ?_ ?_
  with_reducible refine LW.gx hL (fun _ => trivial)
  with_reducible refine And.intro ?_ ?_
  omega
  with_reducible refine And.intro ?_ ?_
  omega
  with_reducible refine And.intro ?_ ?_
  omega
  with_reducible refine fX1_shift hL.cs (fun hXc0 => ?_) (fun hSc0 hSc1 => ?_) (fun hTc0 hTr hTc1 hTc2 hTw hTh => ?_) (fun hFc0 hFr hFc1 hFc2 hFw hFh => ?_)
  simp only [kx_r]
  ((with_reducible refine isHgo ?_); refine hgo_h (HH := [(0, 11, 14, 19), (0, 11, 18, 74)]) (NN := [(19, "java/lang/IndexOutOfBoundsException"), (74, "java/lang/IllegalStateException")]) (h := 14) (E := "java/lang/IndexOutOfBoundsException") rfl rfl (by decide +kernel) (by decide) (fun _ => ?_))
  simp only [eL_shift_14, nl_ref]
  with_reducible refine And.intro ?_ ?_
  omega
  with_reducible refine And.intro ?_ ?_
  omega
  with_reducible exact hX hXc0
  simp only [kx_r]
  ((with_reducible refine isHgo ?_); refine hgo_h (HH := [(0, 11, 14, 19), (0, 11, 18, 74)]) (NN := [(19, "java/lang/IndexOutOfBoundsException"), (74, "java/lang/IllegalStateException")]) (h := 18) (E := "java/lang/IllegalStateException") rfl rfl (by decide +kernel) (by decide) (fun _ => ?_))
  simp only [eL_shift_18, nl_ref]
  with_reducible refine And.intro ?_ ?_
  omega
  with_reducible refine And.intro ?_ ?_
  omega
  with_reducible exact hS hSc0 hSc1
  simp only [eL_shift_7, eL_shift_11, kx_l, tl_s, nf_l, true_and]
  with_reducible refine go_OF (LW.of hL hTh (by first | with_reducible exact ho | with_reducible exact ho.num | with_reducible exact ho.rf | with_reducible exact ho.mk (by assumption) | with_reducible exact ho.mk (ho.c' (by assumption) (by assumption)) | with_reducible exact ho.mkO (by assumption) (by assumption) | with_reducible exact ho.card0 | with_reducible exact ho.card (ho.c' (by assumption) (by assumption)) | with_reducible exact ho.card (ho.p' (by assumption)) | with_reducible exact ho.lay (ho.c' (by assumption) (by assumption)) (by assumption) | with_reducible exact ho.gap (by assumption) | with_reducible exact ho.tur | with_reducible exact ho.zero)) (fun _ _ hw => ?_)
  with_reducible refine And.intro ?_ ?_
  simp only [List.length_cons, List.length_nil, Nat.zero_add]
  omega
  with_reducible refine And.intro ?_ ?_
  omega
  with_reducible refine And.intro ?_ ?_
  omega
  simp only [List.set_cons_zero]
  with_reducible exact hT hTc0 hTr hTc1 hTc2 _ (hw _ _) outN.mk
  simp only [eL_shift_7, eL_shift_11, kx_l, tl_s, nf_l, true_and]
  with_reducible refine go_OF (LW.of hL hFh (by first | with_reducible exact ho | with_reducible exact ho.num | with_reducible exact ho.rf | with_reducible exact ho.mk (by assumption) | with_reducible exact ho.mk (ho.c' (by assumption) (by assumption)) | with_reducible exact ho.mkO (by assumption) (by assumption) | with_reducible exact ho.card0 | with_reducible exact ho.card (ho.c' (by assumption) (by assumption)) | with_reducible exact ho.card (ho.p' (by assumption)) | with_reducible exact ho.lay (ho.c' (by assumption) (by assumption)) (by assumption) | with_reducible exact ho.gap (by assumption) | with_reducible exact ho.tur | with_reducible exact ho.zero)) (fun _ _ hw => ?_)
  with_reducible refine And.intro ?_ ?_
  simp only [List.length_cons, List.length_nil, Nat.zero_add]
  omega
  with_reducible refine And.intro ?_ ?_
  omega
  with_reducible refine And.intro ?_ ?_
  omega
  simp only [List.set_cons_zero]
  with_reducible exact hF hFc0 hFr hFc1 hFc2 _ (hw _ _) outN.mk
set_option maxHeartbeats 4000000 in
theorem fL_drop {a0 : Int32} (hL : LW g w x nA cA lA y nM o kn km th s s2) (hX : ¬ okC a0 → Q (.inl (some (.int 1))) w) (hN : okC a0 → s.2.1 a0.toNatClampNeg = none → ∀ w', LW g w' x nA cA lA y nM o kn km th (sC s (va_up s.2.1 a0.toNatClampNeg none)) s2 → outN w' o ((0 : Int32).toInt64) → Q (.inl (some (.int 0))) w') (hS : okC a0 → ∀ r, s.2.1 a0.toNatClampNeg = some r → ∀ w', LW g w' x nA cA lA y nM o kn km th (sC s (va_up s.2.1 a0.toNatClampNeg none)) s2 → outN w' o ((1 : Int32).toInt64) → Q (.inl (some (.int 0))) w') : WP (ML_drop g) Q (0, [some (.ref x), some (.int a0), some (.ref o), none], [], w, 0, 0) := by
  have ho := hL.2.1
  simp only [eL_drop_0, wt_nil, wt_ref, Nat.zero_add, Nat.add_zero]
  with_reducible refine And.intro ?_ ?_
  with_reducible refine LW.gx hL (fun _ => trivial)
  with_reducible refine And.intro ?_ ?_
  omega
  with_reducible refine And.intro ?_ ?_
  omega
  with_reducible refine And.intro ?_ ?_
  omega
  with_reducible refine fX1_drop hL.cs (fun hXc0 => ?_) (fun hNc0 hNc1 hNw hNh => ?_) (fun hSc0 hSr hSc1 hSw hSh => ?_)
  simp only [kx_r]
  ((with_reducible refine isHgo ?_); refine hgo_h (HH := [(0, 10, 13, 19)]) (NN := [(19, "java/lang/IndexOutOfBoundsException")]) (h := 13) (E := "java/lang/IndexOutOfBoundsException") rfl rfl (by decide +kernel) (by decide) (fun _ => ?_))
  simp only [eL_drop_13, nl_ref]
  with_reducible refine And.intro ?_ ?_
  omega
  with_reducible refine And.intro ?_ ?_
  omega
  with_reducible exact hX hXc0
  simp only [eL_drop_6, eL_drop_10, kx_l, tl_s, nf_l, true_and]
  with_reducible refine go_OF (LW.of hL hNh (by first | with_reducible exact ho | with_reducible exact ho.num | with_reducible exact ho.rf | with_reducible exact ho.mk (by assumption) | with_reducible exact ho.mk (ho.c' (by assumption) (by assumption)) | with_reducible exact ho.mkO (by assumption) (by assumption) | with_reducible exact ho.card0 | with_reducible exact ho.card (ho.c' (by assumption) (by assumption)) | with_reducible exact ho.card (ho.p' (by assumption)) | with_reducible exact ho.lay (ho.c' (by assumption) (by assumption)) (by assumption) | with_reducible exact ho.gap (by assumption) | with_reducible exact ho.tur | with_reducible exact ho.zero)) (fun _ _ hw => ?_)
  with_reducible refine And.intro ?_ ?_
  simp only [List.length_cons, List.length_nil, Nat.zero_add]
  omega
  with_reducible refine And.intro ?_ ?_
  omega
  with_reducible refine And.intro ?_ ?_
  omega
  simp only [List.set_cons_zero]
  with_reducible exact hN hNc0 hNc1 _ (hw _ _) outN.mk
  simp only [eL_drop_6, eL_drop_10, kx_l, tl_s, nf_l, true_and]
  with_reducible refine go_OF (LW.of hL hSh (by first | with_reducible exact ho | with_reducible exact ho.num | with_reducible exact ho.rf | with_reducible exact ho.mk (by assumption) | with_reducible exact ho.mk (ho.c' (by assumption) (by assumption)) | with_reducible exact ho.mkO (by assumption) (by assumption) | with_reducible exact ho.card0 | with_reducible exact ho.card (ho.c' (by assumption) (by assumption)) | with_reducible exact ho.card (ho.p' (by assumption)) | with_reducible exact ho.lay (ho.c' (by assumption) (by assumption)) (by assumption) | with_reducible exact ho.gap (by assumption) | with_reducible exact ho.tur | with_reducible exact ho.zero)) (fun _ _ hw => ?_)
  with_reducible refine And.intro ?_ ?_
  simp only [List.length_cons, List.length_nil, Nat.zero_add]
  omega
  with_reducible refine And.intro ?_ ?_
  omega
  with_reducible refine And.intro ?_ ?_
  omega
  simp only [List.set_cons_zero]
  with_reducible exact hS hSc0 hSr hSc1 _ (hw _ _) outN.mk
set_option maxHeartbeats 4000000 in
theorem fL_isThere {a0 : Int32} (hL : LW g w x nA cA lA y nM o kn km th s s2) (hX : ¬ okC a0 → Q (.inl (some (.int 1))) w) (hF : okC a0 → s.2.1 a0.toNatClampNeg = none → ∀ w', LW g w' x nA cA lA y nM o kn km th s s2 → outN w' o (0) → Q (.inl (some (.int 0))) w') (hT : okC a0 → ∀ r, s.2.1 a0.toNatClampNeg = some r → ∀ w', LW g w' x nA cA lA y nM o kn km th s s2 → outN w' o (1) → Q (.inl (some (.int 0))) w') : WP (ML_isThere g) Q (0, [some (.ref x), some (.int a0), some (.ref o), none], [], w, 0, 0) := by
  have ho := hL.2.1
  simp only [eL_isThere_0, wt_nil, wt_ref, Nat.zero_add, Nat.add_zero]
  with_reducible refine And.intro ?_ ?_
  with_reducible refine LW.gx hL (fun _ => trivial)
  with_reducible refine And.intro ?_ ?_
  omega
  with_reducible refine And.intro ?_ ?_
  omega
  with_reducible refine And.intro ?_ ?_
  omega
  with_reducible refine fX1_isThere hL.cs (fun hXc0 => ?_) (fun hFc0 hFc1 => ?_) (fun hTc0 hTr hTc1 => ?_)
  simp only [kx_r]
  ((with_reducible refine isHgo ?_); refine hgo_h (HH := [(0, 17, 20, 19)]) (NN := [(19, "java/lang/IndexOutOfBoundsException")]) (h := 20) (E := "java/lang/IndexOutOfBoundsException") rfl rfl (by decide +kernel) (by decide) (fun _ => ?_))
  simp only [eL_isThere_20, nl_ref]
  with_reducible refine And.intro ?_ ?_
  omega
  with_reducible refine And.intro ?_ ?_
  omega
  with_reducible exact hX hXc0
  simp only [eL_isThere_6, eL_isThere_9, eL_isThere_13, eL_isThere_14, eL_isThere_17, kx_l, tl_s, nf_l, true_and, if_true]
  with_reducible refine go_OF hL (fun _ _ hw => ?_)
  with_reducible refine And.intro ?_ ?_
  simp only [List.length_cons, List.length_nil, Nat.zero_add]
  omega
  with_reducible refine And.intro ?_ ?_
  omega
  with_reducible refine And.intro ?_ ?_
  omega
  simp only [List.set_cons_zero]
  with_reducible exact hF hFc0 hFc1 _ (hw _ _) outN.mk
  simp only [eL_isThere_6, eL_isThere_9, eL_isThere_13, eL_isThere_14, eL_isThere_17, i10, kx_l, tl_s, nf_l, true_and, if_false]
  with_reducible refine go_OF hL (fun _ _ hw => ?_)
  with_reducible refine And.intro ?_ ?_
  simp only [List.length_cons, List.length_nil, Nat.zero_add]
  omega
  with_reducible refine And.intro ?_ ?_
  omega
  with_reducible refine And.intro ?_ ?_
  omega
  simp only [List.set_cons_zero]
  with_reducible exact hT hTc0 hTr hTc1 _ (hw _ _) outN.mk
end
end
