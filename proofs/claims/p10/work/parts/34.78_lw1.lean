section
section
variable {g : RO} {Q : Ot → Hw → Prop} {w : Hw} {x nA cA lA y nM o : Nat} {kn km th : Int32} {s s2 : AS}
set_option maxHeartbeats 4000000 in
theorem fL_set {a0 a1 a2 : Int32} (hL : LW g w x nA cA lA y nM o kn km th s s2) (hX : ¬ okN a0 → Q (.inl (some (.int 1))) w) (hQ : okN a0 → ∀ w', LW g w' x nA cA lA y nM o kn km th (sN s (vp_updL s.1 a0.toNatClampNeg (stV a1 a2))) s2 → outN w' o ((hiV (s.1 a0.toNatClampNeg)).toInt64) → Q (.inl (some (.int 0))) w') : WP (ML_set g) Q (0, [some (.ref x), some (.int a0), some (.int a1), some (.int a2), some (.ref o), none], [], w, 0, 0) := by
  have ho := hL.2.1
  simp only [eL_set_0, wt_nil, wt_ref, Nat.zero_add, Nat.add_zero]
  with_reducible refine And.intro ?_ ?_
  with_reducible refine LW.gx hL (fun _ => trivial)
  with_reducible refine And.intro ?_ ?_
  omega
  with_reducible refine And.intro ?_ ?_
  omega
  with_reducible refine And.intro ?_ ?_
  omega
  with_reducible refine fX1_set hL.cs (fun hXc0 => ?_) (fun hQc0 hQw hQh => ?_)
  simp only [kx_r]
  ((with_reducible refine isHgo ?_); refine hgo_h (HH := [(0, 13, 16, 19)]) (NN := [(19, "java/lang/IndexOutOfBoundsException")]) (h := 16) (E := "java/lang/IndexOutOfBoundsException") rfl rfl (by decide +kernel) (by decide) (fun _ => ?_))
  simp only [eL_set_16, nl_ref]
  with_reducible refine And.intro ?_ ?_
  omega
  with_reducible refine And.intro ?_ ?_
  omega
  with_reducible exact hX hXc0
  simp only [eL_set_9, eL_set_13, kx_l, tl_s, nf_l, true_and]
  with_reducible refine go_OF (LW.of hL hQh (by first | with_reducible exact ho | with_reducible exact ho.num | with_reducible exact ho.rf | with_reducible exact ho.mk (by assumption) | with_reducible exact ho.mk (ho.c' (by assumption) (by assumption)) | with_reducible exact ho.mkO (by assumption) (by assumption) | with_reducible exact ho.card0 | with_reducible exact ho.card (ho.c' (by assumption) (by assumption)) | with_reducible exact ho.card (ho.p' (by assumption)) | with_reducible exact ho.lay (ho.c' (by assumption) (by assumption)) (by assumption) | with_reducible exact ho.gap (by assumption) | with_reducible exact ho.tur | with_reducible exact ho.zero)) (fun _ _ hw => ?_)
  with_reducible refine And.intro ?_ ?_
  simp only [List.length_cons, List.length_nil, Nat.zero_add]
  omega
  with_reducible refine And.intro ?_ ?_
  omega
  with_reducible refine And.intro ?_ ?_
  omega
  simp only [List.set_cons_zero]
  with_reducible exact hQ hQc0 _ (hw _ _) outN.mk
set_option maxHeartbeats 4000000 in
theorem fL_setSmall {a0 a1 : Int32} (hL : LW g w x nA cA lA y nM o kn km th s s2) (hX : ¬ okN a0 → Q (.inl (some (.int 1))) w) (hQ : okN a0 → ∀ w', LW g w' x nA cA lA y nM o kn km th (sN s (vp_updL s.1 a0.toNatClampNeg a1.toInt64)) s2 → outN w' o ((loV (s.1 a0.toNatClampNeg)).toInt64) → Q (.inl (some (.int 0))) w') : WP (ML_setSmall g) Q (0, [some (.ref x), some (.int a0), some (.int a1), some (.ref o), none], [], w, 0, 0) := by
  have ho := hL.2.1
  simp only [eL_setSmall_0, wt_nil, wt_ref, Nat.zero_add, Nat.add_zero]
  with_reducible refine And.intro ?_ ?_
  with_reducible refine LW.gx hL (fun _ => trivial)
  with_reducible refine And.intro ?_ ?_
  omega
  with_reducible refine And.intro ?_ ?_
  omega
  with_reducible refine And.intro ?_ ?_
  omega
  with_reducible refine fX1_setSmall hL.cs (fun hXc0 => ?_) (fun hQc0 hQw hQh => ?_)
  simp only [kx_r]
  ((with_reducible refine isHgo ?_); refine hgo_h (HH := [(0, 11, 14, 19)]) (NN := [(19, "java/lang/IndexOutOfBoundsException")]) (h := 14) (E := "java/lang/IndexOutOfBoundsException") rfl rfl (by decide +kernel) (by decide) (fun _ => ?_))
  simp only [eL_setSmall_14, nl_ref]
  with_reducible refine And.intro ?_ ?_
  omega
  with_reducible refine And.intro ?_ ?_
  omega
  with_reducible exact hX hXc0
  simp only [eL_setSmall_7, eL_setSmall_11, kx_l, tl_s, nf_l, true_and]
  with_reducible refine go_OF (LW.of hL hQh (by first | with_reducible exact ho | with_reducible exact ho.num | with_reducible exact ho.rf | with_reducible exact ho.mk (by assumption) | with_reducible exact ho.mk (ho.c' (by assumption) (by assumption)) | with_reducible exact ho.mkO (by assumption) (by assumption) | with_reducible exact ho.card0 | with_reducible exact ho.card (ho.c' (by assumption) (by assumption)) | with_reducible exact ho.card (ho.p' (by assumption)) | with_reducible exact ho.lay (ho.c' (by assumption) (by assumption)) (by assumption) | with_reducible exact ho.gap (by assumption) | with_reducible exact ho.tur | with_reducible exact ho.zero)) (fun _ _ hw => ?_)
  with_reducible refine And.intro ?_ ?_
  simp only [List.length_cons, List.length_nil, Nat.zero_add]
  omega
  with_reducible refine And.intro ?_ ?_
  omega
  with_reducible refine And.intro ?_ ?_
  omega
  simp only [List.set_cons_zero]
  with_reducible exact hQ hQc0 _ (hw _ _) outN.mk
set_option maxHeartbeats 4000000 in
theorem fL_setEnd {a0 a1 : Int32} (hL : LW g w x nA cA lA y nM o kn km th s s2) (hX : ¬ okN a0 → Q (.inl (some (.int 1))) w) (hW : okN a0 → ¬ okW a1 3 → Q (.inl (some (.int 2))) w) (hQ : okN a0 → okW a1 3 → ∀ w', LW g w' x nA cA lA y nM o kn km th (sN s (vp_updL s.1 a0.toNatClampNeg (frV a1))) s2 → outN w' o ((loV (frV a1)).toInt64) → Q (.inl (some (.int 0))) w') : WP (ML_setEnd g) Q (0, [some (.ref x), some (.int a0), some (.int a1), some (.ref o), none], [], w, 0, 0) := by
  have ho := hL.2.1
  simp only [eL_setEnd_0, wt_nil, wt_ref, Nat.zero_add, Nat.add_zero]
  with_reducible refine And.intro ?_ ?_
  with_reducible refine LW.gx hL (fun _ => trivial)
  with_reducible refine And.intro ?_ ?_
  omega
  with_reducible refine And.intro ?_ ?_
  omega
  with_reducible refine And.intro ?_ ?_
  omega
  with_reducible refine fX1_setEnd hL.cs (fun hXc0 => ?_) (fun hWc0 hWc1 => ?_) (fun hQc0 hQc1 hQw hQh => ?_)
  simp only [kx_r]
  ((with_reducible refine isHgo ?_); refine hgo_h (HH := [(0, 11, 14, 19), (0, 11, 18, 28)]) (NN := [(19, "java/lang/IndexOutOfBoundsException"), (28, "java/lang/IllegalArgumentException")]) (h := 14) (E := "java/lang/IndexOutOfBoundsException") rfl rfl (by decide +kernel) (by decide) (fun _ => ?_))
  simp only [eL_setEnd_14, nl_ref]
  with_reducible refine And.intro ?_ ?_
  omega
  with_reducible refine And.intro ?_ ?_
  omega
  with_reducible exact hX hXc0
  simp only [kx_r]
  ((with_reducible refine isHgo ?_); refine hgo_h (HH := [(0, 11, 14, 19), (0, 11, 18, 28)]) (NN := [(19, "java/lang/IndexOutOfBoundsException"), (28, "java/lang/IllegalArgumentException")]) (h := 18) (E := "java/lang/IllegalArgumentException") rfl rfl (by decide +kernel) (by decide) (fun _ => ?_))
  simp only [eL_setEnd_18, nl_ref]
  with_reducible refine And.intro ?_ ?_
  omega
  with_reducible refine And.intro ?_ ?_
  omega
  with_reducible exact hW hWc0 hWc1
  simp only [eL_setEnd_7, eL_setEnd_11, kx_l, tl_s, nf_l, true_and]
  with_reducible refine go_OF (LW.of hL hQh (by first | with_reducible exact ho | with_reducible exact ho.num | with_reducible exact ho.rf | with_reducible exact ho.mk (by assumption) | with_reducible exact ho.mk (ho.c' (by assumption) (by assumption)) | with_reducible exact ho.mkO (by assumption) (by assumption) | with_reducible exact ho.card0 | with_reducible exact ho.card (ho.c' (by assumption) (by assumption)) | with_reducible exact ho.card (ho.p' (by assumption)) | with_reducible exact ho.lay (ho.c' (by assumption) (by assumption)) (by assumption) | with_reducible exact ho.gap (by assumption) | with_reducible exact ho.tur | with_reducible exact ho.zero)) (fun _ _ hw => ?_)
  with_reducible refine And.intro ?_ ?_
  simp only [List.length_cons, List.length_nil, Nat.zero_add]
  omega
  with_reducible refine And.intro ?_ ?_
  omega
  with_reducible refine And.intro ?_ ?_
  omega
  simp only [List.set_cons_zero]
  with_reducible exact hQ hQc0 hQc1 _ (hw _ _) outN.mk
set_option maxHeartbeats 4000000 in
theorem fL_move {a0 a1 : Int32} (hL : LW g w x nA cA lA y nM o kn km th s s2) (hX : ¬ okN a0 → Q (.inl (some (.int 1))) w) (hQ : okN a0 → ∀ w', LW g w' x nA cA lA y nM o kn km th (sN s (vp_updL s.1 a0.toNatClampNeg (s.1 a0.toNatClampNeg + a1.toInt64))) s2 → outN w' o ((loV (s.1 a0.toNatClampNeg + a1.toInt64)).toInt64) → Q (.inl (some (.int 0))) w') : WP (ML_move g) Q (0, [some (.ref x), some (.int a0), some (.int a1), some (.ref o), none], [], w, 0, 0) := by
  have ho := hL.2.1
  simp only [eL_move_0, wt_nil, wt_ref, Nat.zero_add, Nat.add_zero]
  with_reducible refine And.intro ?_ ?_
  with_reducible refine LW.gx hL (fun _ => trivial)
  with_reducible refine And.intro ?_ ?_
  omega
  with_reducible refine And.intro ?_ ?_
  omega
  with_reducible refine And.intro ?_ ?_
  omega
  with_reducible refine fX1_move hL.cs (fun hXc0 => ?_) (fun hQc0 hQw hQh => ?_)
  simp only [kx_r]
  ((with_reducible refine isHgo ?_); refine hgo_h (HH := [(0, 11, 14, 19)]) (NN := [(19, "java/lang/IndexOutOfBoundsException")]) (h := 14) (E := "java/lang/IndexOutOfBoundsException") rfl rfl (by decide +kernel) (by decide) (fun _ => ?_))
  simp only [eL_move_14, nl_ref]
  with_reducible refine And.intro ?_ ?_
  omega
  with_reducible refine And.intro ?_ ?_
  omega
  with_reducible exact hX hXc0
  simp only [eL_move_7, eL_move_11, kx_l, tl_s, nf_l, true_and]
  with_reducible refine go_OF (LW.of hL hQh (by first | with_reducible exact ho | with_reducible exact ho.num | with_reducible exact ho.rf | with_reducible exact ho.mk (by assumption) | with_reducible exact ho.mk (ho.c' (by assumption) (by assumption)) | with_reducible exact ho.mkO (by assumption) (by assumption) | with_reducible exact ho.card0 | with_reducible exact ho.card (ho.c' (by assumption) (by assumption)) | with_reducible exact ho.card (ho.p' (by assumption)) | with_reducible exact ho.lay (ho.c' (by assumption) (by assumption)) (by assumption) | with_reducible exact ho.gap (by assumption) | with_reducible exact ho.tur | with_reducible exact ho.zero)) (fun _ _ hw => ?_)
  with_reducible refine And.intro ?_ ?_
  simp only [List.length_cons, List.length_nil, Nat.zero_add]
  omega
  with_reducible refine And.intro ?_ ?_
  omega
  with_reducible refine And.intro ?_ ?_
  omega
  simp only [List.set_cons_zero]
  with_reducible exact hQ hQc0 _ (hw _ _) outN.mk
set_option maxHeartbeats 4000000 in
theorem fL_copy {a0 a1 : Int32} (hL : LW g w x nA cA lA y nM o kn km th s s2) (hX : ¬ (okN a0 ∧ okN a1) → Q (.inl (some (.int 1))) w) (hQ : okN a0 → okN a1 → ∀ w', LW g w' x nA cA lA y nM o kn km th (sN s (vp_updL s.1 a0.toNatClampNeg (s.1 a1.toNatClampNeg))) s2 → outN w' o ((loV (s.1 a1.toNatClampNeg)).toInt64) → Q (.inl (some (.int 0))) w') : WP (ML_copy g) Q (0, [some (.ref x), some (.int a0), some (.int a1), some (.ref o), none], [], w, 0, 0) := by
  have ho := hL.2.1
  simp only [eL_copy_0, wt_nil, wt_ref, Nat.zero_add, Nat.add_zero]
  with_reducible refine And.intro ?_ ?_
  with_reducible refine LW.gx hL (fun _ => trivial)
  with_reducible refine And.intro ?_ ?_
  omega
  with_reducible refine And.intro ?_ ?_
  omega
  with_reducible refine And.intro ?_ ?_
  omega
  with_reducible refine fX1_copy hL.cs (fun hXc0 => ?_) (fun hQc0 hQc1 hQw hQh => ?_)
  simp only [kx_r]
  ((with_reducible refine isHgo ?_); refine hgo_h (HH := [(0, 11, 14, 19)]) (NN := [(19, "java/lang/IndexOutOfBoundsException")]) (h := 14) (E := "java/lang/IndexOutOfBoundsException") rfl rfl (by decide +kernel) (by decide) (fun _ => ?_))
  simp only [eL_copy_14, nl_ref]
  with_reducible refine And.intro ?_ ?_
  omega
  with_reducible refine And.intro ?_ ?_
  omega
  with_reducible exact hX hXc0
  simp only [eL_copy_7, eL_copy_11, kx_l, tl_s, nf_l, true_and]
  with_reducible refine go_OF (LW.of hL hQh (by first | with_reducible exact ho | with_reducible exact ho.num | with_reducible exact ho.rf | with_reducible exact ho.mk (by assumption) | with_reducible exact ho.mk (ho.c' (by assumption) (by assumption)) | with_reducible exact ho.mkO (by assumption) (by assumption) | with_reducible exact ho.card0 | with_reducible exact ho.card (ho.c' (by assumption) (by assumption)) | with_reducible exact ho.card (ho.p' (by assumption)) | with_reducible exact ho.lay (ho.c' (by assumption) (by assumption)) (by assumption) | with_reducible exact ho.gap (by assumption) | with_reducible exact ho.tur | with_reducible exact ho.zero)) (fun _ _ hw => ?_)
  with_reducible refine And.intro ?_ ?_
  simp only [List.length_cons, List.length_nil, Nat.zero_add]
  omega
  with_reducible refine And.intro ?_ ?_
  omega
  with_reducible refine And.intro ?_ ?_
  omega
  simp only [List.set_cons_zero]
  with_reducible exact hQ hQc0 hQc1 _ (hw _ _) outN.mk
set_option maxHeartbeats 4000000 in
theorem fL_ofNumber {a0 a1 : Int32} (hL : LW g w x nA cA lA y nM o kn km th s s2) (hX : ¬ okN a0 → Q (.inl (some (.int 1))) w) (hQ : okN a0 → ∀ w', LW g w' x nA cA lA y nM o kn km th s s2 → outN w' o ((hfV (s.1 a0.toNatClampNeg) a1).toInt64) → Q (.inl (some (.int 0))) w') : WP (ML_ofNumber g) Q (0, [some (.ref x), some (.int a0), some (.int a1), some (.ref o), none], [], w, 0, 0) := by
  have ho := hL.2.1
  simp only [eL_ofNumber_0, wt_nil, wt_ref, Nat.zero_add, Nat.add_zero]
  with_reducible refine And.intro ?_ ?_
  with_reducible refine LW.gx hL (fun _ => trivial)
  with_reducible refine And.intro ?_ ?_
  omega
  with_reducible refine And.intro ?_ ?_
  omega
  with_reducible refine And.intro ?_ ?_
  omega
  with_reducible refine fX1_ofNumber hL.cs (fun hXc0 => ?_) (fun hQc0 => ?_)
  simp only [kx_r]
  ((with_reducible refine isHgo ?_); refine hgo_h (HH := [(0, 11, 14, 19)]) (NN := [(19, "java/lang/IndexOutOfBoundsException")]) (h := 14) (E := "java/lang/IndexOutOfBoundsException") rfl rfl (by decide +kernel) (by decide) (fun _ => ?_))
  simp only [eL_ofNumber_14, nl_ref]
  with_reducible refine And.intro ?_ ?_
  omega
  with_reducible refine And.intro ?_ ?_
  omega
  with_reducible exact hX hXc0
  simp only [eL_ofNumber_7, eL_ofNumber_11, kx_l, tl_s, nf_l, true_and]
  with_reducible refine go_OF hL (fun _ _ hw => ?_)
  with_reducible refine And.intro ?_ ?_
  simp only [List.length_cons, List.length_nil, Nat.zero_add]
  omega
  with_reducible refine And.intro ?_ ?_
  omega
  with_reducible refine And.intro ?_ ?_
  omega
  simp only [List.set_cons_zero]
  with_reducible exact hQ hQc0 _ (hw _ _) outN.mk
set_option maxHeartbeats 4000000 in
theorem gL_numberText {a0 : Int32} (hR : RG g) (hL : LW g w x nA cA lA y nM o kn km th s s2) (hQ : ∀ (v : Int32) (w' : Hw), LW g w' x nA cA lA y nM o kn km th s s2 → Q (.inl (some (.int v))) w') : WP (ML_numberText g) Q (0, [some (.ref x), some (.int a0), some (.ref o), none], [], w, 0, 0) := by
  simp only [eL_numberText_0, wt_nil, wt_ref, Nat.zero_add, Nat.add_zero]
  with_reducible refine And.intro ?_ ?_
  with_reducible refine LW.gx hL (fun _ => trivial)
  with_reducible refine And.intro ?_ ?_
  omega
  with_reducible refine And.intro ?_ ?_
  omega
  with_reducible refine And.intro ?_ ?_
  omega
  with_reducible refine sX1_numberText hL.cc hR.sg (hR.dg hL.ro) ?_ (fun _ _ _ => ?_)
  simp only [kx_r]
  ((with_reducible refine isHgo ?_); refine hgo_h (HH := [(0, 9, 12, 19)]) (NN := [(19, "java/lang/IndexOutOfBoundsException")]) (h := 12) (E := "java/lang/IndexOutOfBoundsException") rfl rfl (by decide +kernel) (by decide) (fun _ => ?_))
  simp only [eL_numberText_12, nl_ref]
  with_reducible refine And.intro ?_ ?_
  omega
  with_reducible refine And.intro ?_ ?_
  omega
  with_reducible exact hQ _ _ hL
  simp only [eL_numberText_6, eL_numberText_9, kx_l, tl_s, nf_ro, true_and, tyX2]
  with_reducible refine go_OF (by first | assumption | exact hL | exact hL.ext (by assumption)) (fun _ _ hw => ?_)
  with_reducible refine And.intro ?_ ?_
  simp only [List.length_cons, List.length_nil, Nat.zero_add]
  omega
  with_reducible refine And.intro ?_ ?_
  omega
  with_reducible refine And.intro ?_ ?_
  omega
  simp only [List.set_cons_zero, List.set_cons_succ]
  with_reducible exact hQ _ _ (hw _ _)
set_option maxHeartbeats 4000000 in
theorem fL_order {a0 a1 : Int32} (hL : LW g w x nA cA lA y nM o kn km th s s2) (hX : ¬ (okN a0 ∧ okN a1) → Q (.inl (some (.int 1))) w) (hQ : okN a0 → okN a1 → ∀ w', LW g w' x nA cA lA y nM o kn km th s s2 → outN w' o ((orV (s.1 a0.toNatClampNeg) (s.1 a1.toNatClampNeg)).toInt64) → Q (.inl (some (.int 0))) w') : WP (ML_order g) Q (0, [some (.ref x), some (.int a0), some (.int a1), some (.ref o), none], [], w, 0, 0) := by
  have ho := hL.2.1
  simp only [eL_order_0, wt_nil, wt_ref, Nat.zero_add, Nat.add_zero]
  with_reducible refine And.intro ?_ ?_
  with_reducible refine LW.gx hL (fun _ => trivial)
  with_reducible refine And.intro ?_ ?_
  omega
  with_reducible refine And.intro ?_ ?_
  omega
  with_reducible refine And.intro ?_ ?_
  omega
  with_reducible refine fX1_order hL.cs (fun hXc0 => ?_) (fun hQc0 hQc1 => ?_)
  simp only [kx_r]
  ((with_reducible refine isHgo ?_); refine hgo_h (HH := [(0, 11, 14, 19)]) (NN := [(19, "java/lang/IndexOutOfBoundsException")]) (h := 14) (E := "java/lang/IndexOutOfBoundsException") rfl rfl (by decide +kernel) (by decide) (fun _ => ?_))
  simp only [eL_order_14, nl_ref]
  with_reducible refine And.intro ?_ ?_
  omega
  with_reducible refine And.intro ?_ ?_
  omega
  with_reducible exact hX hXc0
  simp only [eL_order_7, eL_order_11, kx_l, tl_s, nf_l, true_and]
  with_reducible refine go_OF hL (fun _ _ hw => ?_)
  with_reducible refine And.intro ?_ ?_
  simp only [List.length_cons, List.length_nil, Nat.zero_add]
  omega
  with_reducible refine And.intro ?_ ?_
  omega
  with_reducible refine And.intro ?_ ?_
  omega
  simp only [List.set_cons_zero]
  with_reducible exact hQ hQc0 hQc1 _ (hw _ _) outN.mk
set_option maxHeartbeats 4000000 in
theorem fL_two {a0 a1 a2 : Int32} (hL : LW g w x nA cA lA y nM o kn km th s s2) (hX : ¬ (okC a0 ∧ okN a1 ∧ okN a2) → Q (.inl (some (.int 1))) w) (hT : okC a0 → okN a1 → okN a2 → oP (s.1 a1.toNatClampNeg) (s.1 a1.toNatClampNeg) (s.1 a2.toNatClampNeg) (s.1 a2.toNatClampNeg) → ∀ w', LW g w' x nA cA lA y nM o kn km th (sMk s a0.toNatClampNeg (s.1 a1.toNatClampNeg, s.1 a1.toNatClampNeg, s.1 a2.toNatClampNeg, s.1 a2.toNatClampNeg)) s2 → outN w' o ((1 : Int32).toInt64) → Q (.inl (some (.int 0))) w') (hF : okC a0 → okN a1 → okN a2 → ¬ oP (s.1 a1.toNatClampNeg) (s.1 a1.toNatClampNeg) (s.1 a2.toNatClampNeg) (s.1 a2.toNatClampNeg) → ∀ w', LW g w' x nA cA lA y nM o kn km th (sRf s) s2 → outN w' o ((-9 : Int32).toInt64) → Q (.inl (some (.int 0))) w') : WP (ML_two g) Q (0, [some (.ref x), some (.int a0), some (.int a1), some (.int a2), some (.ref o), none], [], w, 0, 0) := by
  have ho := hL.2.1
  simp only [eL_two_0, wt_nil, wt_ref, Nat.zero_add, Nat.add_zero]
  with_reducible refine And.intro ?_ ?_
  with_reducible refine LW.gx hL (fun _ => trivial)
  with_reducible refine And.intro ?_ ?_
  omega
  with_reducible refine And.intro ?_ ?_
  omega
  with_reducible refine And.intro ?_ ?_
  omega
  with_reducible refine fX1_two hL.cs (fun hXc0 => ?_) (fun hTc0 hTc1 hTc2 hTc3 hTw hTh => ?_) (fun hFc0 hFc1 hFc2 hFc3 hFw hFh => ?_)
  simp only [kx_r]
  ((with_reducible refine isHgo ?_); refine hgo_h (HH := [(0, 13, 16, 19)]) (NN := [(19, "java/lang/IndexOutOfBoundsException")]) (h := 16) (E := "java/lang/IndexOutOfBoundsException") rfl rfl (by decide +kernel) (by decide) (fun _ => ?_))
  simp only [eL_two_16, nl_ref]
  with_reducible refine And.intro ?_ ?_
  omega
  with_reducible refine And.intro ?_ ?_
  omega
  with_reducible exact hX hXc0
  simp only [eL_two_9, eL_two_13, kx_l, tl_s, nf_l, true_and]
  with_reducible refine go_OF (LW.of hL hTh (by first | with_reducible exact ho | with_reducible exact ho.num | with_reducible exact ho.rf | with_reducible exact ho.mk (by assumption) | with_reducible exact ho.mk (ho.c' (by assumption) (by assumption)) | with_reducible exact ho.mkO (by assumption) (by assumption) | with_reducible exact ho.card0 | with_reducible exact ho.card (ho.c' (by assumption) (by assumption)) | with_reducible exact ho.card (ho.p' (by assumption)) | with_reducible exact ho.lay (ho.c' (by assumption) (by assumption)) (by assumption) | with_reducible exact ho.gap (by assumption) | with_reducible exact ho.tur | with_reducible exact ho.zero)) (fun _ _ hw => ?_)
  with_reducible refine And.intro ?_ ?_
  simp only [List.length_cons, List.length_nil, Nat.zero_add]
  omega
  with_reducible refine And.intro ?_ ?_
  omega
  with_reducible refine And.intro ?_ ?_
  omega
  simp only [List.set_cons_zero]
  with_reducible exact hT hTc0 hTc1 hTc2 hTc3 _ (hw _ _) outN.mk
  simp only [eL_two_9, eL_two_13, kx_l, tl_s, nf_l, true_and]
  with_reducible refine go_OF (LW.of hL hFh (by first | with_reducible exact ho | with_reducible exact ho.num | with_reducible exact ho.rf | with_reducible exact ho.mk (by assumption) | with_reducible exact ho.mk (ho.c' (by assumption) (by assumption)) | with_reducible exact ho.mkO (by assumption) (by assumption) | with_reducible exact ho.card0 | with_reducible exact ho.card (ho.c' (by assumption) (by assumption)) | with_reducible exact ho.card (ho.p' (by assumption)) | with_reducible exact ho.lay (ho.c' (by assumption) (by assumption)) (by assumption) | with_reducible exact ho.gap (by assumption) | with_reducible exact ho.tur | with_reducible exact ho.zero)) (fun _ _ hw => ?_)
  with_reducible refine And.intro ?_ ?_
  simp only [List.length_cons, List.length_nil, Nat.zero_add]
  omega
  with_reducible refine And.intro ?_ ?_
  omega
  with_reducible refine And.intro ?_ ?_
  omega
  simp only [List.set_cons_zero]
  with_reducible exact hF hFc0 hFc1 hFc2 hFc3 _ (hw _ _) outN.mk
set_option maxHeartbeats 4000000 in
theorem fL_three {a0 a1 a2 a3 : Int32} (hL : LW g w x nA cA lA y nM o kn km th s s2) (hX : ¬ (okC a0 ∧ okN a1 ∧ okN a2 ∧ okN a3) → Q (.inl (some (.int 1))) w) (hT : okC a0 → okN a1 → okN a2 → okN a3 → oP (s.1 a1.toNatClampNeg) (s.1 a1.toNatClampNeg) (s.1 a2.toNatClampNeg) (s.1 a3.toNatClampNeg) → ∀ w', LW g w' x nA cA lA y nM o kn km th (sMk s a0.toNatClampNeg (s.1 a1.toNatClampNeg, s.1 a1.toNatClampNeg, s.1 a2.toNatClampNeg, s.1 a3.toNatClampNeg)) s2 → outN w' o ((1 : Int32).toInt64) → Q (.inl (some (.int 0))) w') (hF : okC a0 → okN a1 → okN a2 → okN a3 → ¬ oP (s.1 a1.toNatClampNeg) (s.1 a1.toNatClampNeg) (s.1 a2.toNatClampNeg) (s.1 a3.toNatClampNeg) → ∀ w', LW g w' x nA cA lA y nM o kn km th (sRf s) s2 → outN w' o ((-9 : Int32).toInt64) → Q (.inl (some (.int 0))) w') : WP (ML_three g) Q (0, [some (.ref x), some (.int a0), some (.int a1), some (.int a2), some (.int a3), some (.ref o), none], [], w, 0, 0) := by
  have ho := hL.2.1
  simp only [eL_three_0, wt_nil, wt_ref, Nat.zero_add, Nat.add_zero]
  with_reducible refine And.intro ?_ ?_
  with_reducible refine LW.gx hL (fun _ => trivial)
  with_reducible refine And.intro ?_ ?_
  omega
  with_reducible refine And.intro ?_ ?_
  omega
  with_reducible refine And.intro ?_ ?_
  omega
  with_reducible refine fX1_three hL.cs (fun hXc0 => ?_) (fun hTc0 hTc1 hTc2 hTc3 hTc4 hTw hTh => ?_) (fun hFc0 hFc1 hFc2 hFc3 hFc4 hFw hFh => ?_)
  simp only [kx_r]
  ((with_reducible refine isHgo ?_); refine hgo_h (HH := [(0, 15, 18, 19)]) (NN := [(19, "java/lang/IndexOutOfBoundsException")]) (h := 18) (E := "java/lang/IndexOutOfBoundsException") rfl rfl (by decide +kernel) (by decide) (fun _ => ?_))
  simp only [eL_three_18, nl_ref]
  with_reducible refine And.intro ?_ ?_
  omega
  with_reducible refine And.intro ?_ ?_
  omega
  with_reducible exact hX hXc0
  simp only [eL_three_11, eL_three_15, kx_l, tl_s, nf_l, true_and]
  with_reducible refine go_OF (LW.of hL hTh (by first | with_reducible exact ho | with_reducible exact ho.num | with_reducible exact ho.rf | with_reducible exact ho.mk (by assumption) | with_reducible exact ho.mk (ho.c' (by assumption) (by assumption)) | with_reducible exact ho.mkO (by assumption) (by assumption) | with_reducible exact ho.card0 | with_reducible exact ho.card (ho.c' (by assumption) (by assumption)) | with_reducible exact ho.card (ho.p' (by assumption)) | with_reducible exact ho.lay (ho.c' (by assumption) (by assumption)) (by assumption) | with_reducible exact ho.gap (by assumption) | with_reducible exact ho.tur | with_reducible exact ho.zero)) (fun _ _ hw => ?_)
  with_reducible refine And.intro ?_ ?_
  simp only [List.length_cons, List.length_nil, Nat.zero_add]
  omega
  with_reducible refine And.intro ?_ ?_
  omega
  with_reducible refine And.intro ?_ ?_
  omega
  simp only [List.set_cons_zero]
  with_reducible exact hT hTc0 hTc1 hTc2 hTc3 hTc4 _ (hw _ _) outN.mk
  simp only [eL_three_11, eL_three_15, kx_l, tl_s, nf_l, true_and]
  with_reducible refine go_OF (LW.of hL hFh (by first | with_reducible exact ho | with_reducible exact ho.num | with_reducible exact ho.rf | with_reducible exact ho.mk (by assumption) | with_reducible exact ho.mk (ho.c' (by assumption) (by assumption)) | with_reducible exact ho.mkO (by assumption) (by assumption) | with_reducible exact ho.card0 | with_reducible exact ho.card (ho.c' (by assumption) (by assumption)) | with_reducible exact ho.card (ho.p' (by assumption)) | with_reducible exact ho.lay (ho.c' (by assumption) (by assumption)) (by assumption) | with_reducible exact ho.gap (by assumption) | with_reducible exact ho.tur | with_reducible exact ho.zero)) (fun _ _ hw => ?_)
  with_reducible refine And.intro ?_ ?_
  simp only [List.length_cons, List.length_nil, Nat.zero_add]
  omega
  with_reducible refine And.intro ?_ ?_
  omega
  with_reducible refine And.intro ?_ ?_
  omega
  simp only [List.set_cons_zero]
  with_reducible exact hF hFc0 hFc1 hFc2 hFc3 hFc4 _ (hw _ _) outN.mk
set_option maxHeartbeats 4000000 in
theorem fL_four {a0 a1 a2 a3 a4 : Int32} (hL : LW g w x nA cA lA y nM o kn km th s s2) (hX : ¬ (okC a0 ∧ okN a1 ∧ okN a2 ∧ okN a3 ∧ okN a4) → Q (.inl (some (.int 1))) w) (hT : okC a0 → okN a1 → okN a2 → okN a3 → okN a4 → oP (s.1 a1.toNatClampNeg) (s.1 a2.toNatClampNeg) (s.1 a3.toNatClampNeg) (s.1 a4.toNatClampNeg) → ∀ w', LW g w' x nA cA lA y nM o kn km th (sMk s a0.toNatClampNeg (s.1 a1.toNatClampNeg, s.1 a2.toNatClampNeg, s.1 a3.toNatClampNeg, s.1 a4.toNatClampNeg)) s2 → outN w' o ((1 : Int32).toInt64) → Q (.inl (some (.int 0))) w') (hF : okC a0 → okN a1 → okN a2 → okN a3 → okN a4 → ¬ oP (s.1 a1.toNatClampNeg) (s.1 a2.toNatClampNeg) (s.1 a3.toNatClampNeg) (s.1 a4.toNatClampNeg) → ∀ w', LW g w' x nA cA lA y nM o kn km th (sRf s) s2 → outN w' o ((-9 : Int32).toInt64) → Q (.inl (some (.int 0))) w') : WP (ML_four g) Q (0, [some (.ref x), some (.int a0), some (.int a1), some (.int a2), some (.int a3), some (.int a4), some (.ref o), none], [], w, 0, 0) := by
  have ho := hL.2.1
  simp only [eL_four_0, wt_nil, wt_ref, Nat.zero_add, Nat.add_zero]
  with_reducible refine And.intro ?_ ?_
  with_reducible refine LW.gx hL (fun _ => trivial)
  with_reducible refine And.intro ?_ ?_
  omega
  with_reducible refine And.intro ?_ ?_
  omega
  with_reducible refine And.intro ?_ ?_
  omega
  with_reducible refine fX1_four hL.cs (fun hXc0 => ?_) (fun hTc0 hTc1 hTc2 hTc3 hTc4 hTc5 hTw hTh => ?_) (fun hFc0 hFc1 hFc2 hFc3 hFc4 hFc5 hFw hFh => ?_)
  simp only [kx_r]
  ((with_reducible refine isHgo ?_); refine hgo_h (HH := [(0, 17, 20, 19)]) (NN := [(19, "java/lang/IndexOutOfBoundsException")]) (h := 20) (E := "java/lang/IndexOutOfBoundsException") rfl rfl (by decide +kernel) (by decide) (fun _ => ?_))
  simp only [eL_four_20, nl_ref]
  with_reducible refine And.intro ?_ ?_
  omega
  with_reducible refine And.intro ?_ ?_
  omega
  with_reducible exact hX hXc0
  simp only [eL_four_13, eL_four_17, kx_l, tl_s, nf_l, true_and]
  with_reducible refine go_OF (LW.of hL hTh (by first | with_reducible exact ho | with_reducible exact ho.num | with_reducible exact ho.rf | with_reducible exact ho.mk (by assumption) | with_reducible exact ho.mk (ho.c' (by assumption) (by assumption)) | with_reducible exact ho.mkO (by assumption) (by assumption) | with_reducible exact ho.card0 | with_reducible exact ho.card (ho.c' (by assumption) (by assumption)) | with_reducible exact ho.card (ho.p' (by assumption)) | with_reducible exact ho.lay (ho.c' (by assumption) (by assumption)) (by assumption) | with_reducible exact ho.gap (by assumption) | with_reducible exact ho.tur | with_reducible exact ho.zero)) (fun _ _ hw => ?_)
  with_reducible refine And.intro ?_ ?_
  simp only [List.length_cons, List.length_nil, Nat.zero_add]
  omega
  with_reducible refine And.intro ?_ ?_
  omega
  with_reducible refine And.intro ?_ ?_
  omega
  simp only [List.set_cons_zero]
  with_reducible exact hT hTc0 hTc1 hTc2 hTc3 hTc4 hTc5 _ (hw _ _) outN.mk
  simp only [eL_four_13, eL_four_17, kx_l, tl_s, nf_l, true_and]
  with_reducible refine go_OF (LW.of hL hFh (by first | with_reducible exact ho | with_reducible exact ho.num | with_reducible exact ho.rf | with_reducible exact ho.mk (by assumption) | with_reducible exact ho.mk (ho.c' (by assumption) (by assumption)) | with_reducible exact ho.mkO (by assumption) (by assumption) | with_reducible exact ho.card0 | with_reducible exact ho.card (ho.c' (by assumption) (by assumption)) | with_reducible exact ho.card (ho.p' (by assumption)) | with_reducible exact ho.lay (ho.c' (by assumption) (by assumption)) (by assumption) | with_reducible exact ho.gap (by assumption) | with_reducible exact ho.tur | with_reducible exact ho.zero)) (fun _ _ hw => ?_)
  with_reducible refine And.intro ?_ ?_
  simp only [List.length_cons, List.length_nil, Nat.zero_add]
  omega
  with_reducible refine And.intro ?_ ?_
  omega
  with_reducible refine And.intro ?_ ?_
  omega
  simp only [List.set_cons_zero]
  with_reducible exact hF hFc0 hFc1 hFc2 hFc3 hFc4 hFc5 _ (hw _ _) outN.mk
end
end
