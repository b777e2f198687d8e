section
section
variable {g : RO} {Q : Ot → Hw → Prop} {w0 w : Hw} {x nA cA lA : Nat} {kn : Int32}
set_option maxHeartbeats 4000000 in
theorem fX1_take {s : AS} {a0 a1 a2 : Int32} (hC : CS g w0 x nA cA lA kn s w) (hX : ¬ (okC a0 ∧ okN a2) → (Q (.inr "java/lang/IndexOutOfBoundsException") w)) (hW : okC a0 → okN a2 → ¬ okW a1 3 → (Q (.inr "java/lang/IllegalArgumentException") w)) (hS : okC a0 → okN a2 → okW a1 3 → s.2.1 a0.toNatClampNeg = none → (Q (.inr "java/lang/IllegalStateException") w)) (hQ : okC a0 → okN a2 → okW a1 3 → ∀ r, s.2.1 a0.toNatClampNeg = some r → ∀ w', CS g w0 x nA cA lA kn (sN s (vp_updL s.1 a2.toNatClampNeg (eV r a1))) w' → Q (.inl (some (.int (loV (eV r a1))))) w') : WP (MX1_take g) Q (0, [some (.ref x), some (.int a0), some (.int a1), some (.int a2)], [], w, 0, 0) := by
  obtain ⟨gc, gl, ⟨hx, hn, hc, hl, hgc, hgl, hn0, hn1, rx, rn, rc, rl, ⟨d1, d2, d3, d4, d5, d6⟩, ⟨d7, d8, d9, d10, d11, d12⟩⟩, hcd, hpl⟩ := hC.1.opn g
  simp only [eX1_take_0, eX1_take_4, eX1_take_8, eX1_take_13, eX1_take_20, wt_nil, wt_int, wt_ref, Nat.zero_add]
  with_reducible refine And.intro ?_ ?_
  omega
  with_reducible refine And.intro ?_ ?_
  omega
  with_reducible refine And.intro ?_ ?_
  omega
  with_reducible refine fX1_needCard (a0 := a0) (fun _ => ?_) (fun k0 => ?_)
  simp only [kx_r]
  with_reducible exact hX (fun h => absurd h.1 (by assumption))
  simp only [kx_l, wt_nil, tl_n]
  with_reducible refine And.intro ?_ ?_
  omega
  with_reducible refine And.intro ?_ ?_
  omega
  with_reducible refine And.intro ?_ ?_
  omega
  with_reducible refine fX1_needNumber (a0 := a2) (fun _ => ?_) (fun k2 => ?_)
  simp only [kx_r]
  with_reducible exact hX (fun h => absurd h.2 (by assumption))
  simp only [kx_l, wt_nil, tl_n]
  with_reducible refine And.intro ?_ ?_
  omega
  with_reducible refine And.intro ?_ ?_
  omega
  with_reducible refine And.intro ?_ ?_
  omega
  with_reducible refine fX1_needChoice (fun hnw => ?_) (fun hw => ?_)
  simp only [kx_r]
  with_reducible exact hW k0 k2 hnw
  simp only [rx, kx_l, go_s, wt_nil, tl_n, true_and, Nat.add_zero]
  with_reducible refine And.intro ?_ ?_
  omega
  with_reducible refine And.intro ?_ ?_
  omega
  with_reducible refine And.intro ?_ ?_
  omega
  with_reducible refine fX1_rangeOf (a0 := a0) hC (fun _ => ?_) (fun _ e1 => ?_) (fun _ p r e1 hp => ?_)
  simp only [kx_r]
  with_reducible exact hX (fun h => absurd h.1 (by assumption))
  simp only [kx_r]
  with_reducible exact hS k0 k2 hw e1
  simp only [eX1_take_21, kx_l, wt_nil, wt_int, wt_ref, tl_s, Nat.add_zero]
  with_reducible refine And.intro ?_ ?_
  with_reducible refine go_F hp ?_
  with_reducible exact trivial
  with_reducible refine And.intro ?_ ?_
  omega
  with_reducible refine And.intro ?_ ?_
  omega
  with_reducible refine And.intro ?_ ?_
  omega
  with_reducible refine fX0_endAt hp ?_
  simp only [eX1_take_24, rx, kx_l, go_s, wt_nil, tl_s, true_and, Nat.add_zero]
  with_reducible refine And.intro ?_ ?_
  omega
  with_reducible refine And.intro ?_ ?_
  omega
  with_reducible refine And.intro ?_ ?_
  omega
  with_reducible refine fX1_putNumber hC k2.1 k2.2 (fun w1 g1 => ?_)
  simp only [eX1_take_27, kx_l, tl_s]
  with_reducible refine And.intro ?_ ?_
  omega
  with_reducible refine And.intro ?_ ?_
  omega
  with_reducible exact hQ k0 k2 hw r e1 w1 g1
set_option maxHeartbeats 4000000 in
theorem fX1_end {s : AS} {a0 a1 a2 : Int32} (hC : CS g w0 x nA cA lA kn s w) (hX : ¬ okC a0 → (Q (.inr "java/lang/IndexOutOfBoundsException") w)) (hW : okC a0 → ¬ okW a1 3 → (Q (.inr "java/lang/IllegalArgumentException") w)) (hS : okC a0 → okW a1 3 → s.2.1 a0.toNatClampNeg = none → (Q (.inr "java/lang/IllegalStateException") w)) (hQ : okC a0 → okW a1 3 → ∀ r, s.2.1 a0.toNatClampNeg = some r → Q (.inl (some (.int (hfV (eV r a1) a2)))) w) : WP (MX1_end g) Q (0, [some (.ref x), some (.int a0), some (.int a1), some (.int a2)], [], w, 0, 0) := by
  obtain ⟨gc, gl, ⟨hx, hn, hc, hl, hgc, hgl, hn0, hn1, rx, rn, rc, rl, ⟨d1, d2, d3, d4, d5, d6⟩, ⟨d7, d8, d9, d10, d11, d12⟩⟩, hcd, hpl⟩ := hC.1.opn g
  simp only [eX1_end_0, eX1_end_4, eX1_end_9, eX1_end_14, wt_nil, Nat.zero_add]
  with_reducible refine And.intro ?_ ?_
  omega
  with_reducible refine And.intro ?_ ?_
  omega
  with_reducible refine And.intro ?_ ?_
  omega
  with_reducible refine fX1_needCard (a0 := a0) (fun _ => ?_) (fun k0 => ?_)
  simp only [kx_r]
  with_reducible exact hX (by assumption)
  simp only [kx_l, wt_nil, tl_n]
  with_reducible refine And.intro ?_ ?_
  omega
  with_reducible refine And.intro ?_ ?_
  omega
  with_reducible refine And.intro ?_ ?_
  omega
  with_reducible refine fX1_needChoice (fun hnw => ?_) (fun hw => ?_)
  simp only [kx_r]
  with_reducible exact hW k0 hnw
  simp only [rx, kx_l, go_s, wt_nil, tl_n, true_and]
  with_reducible refine And.intro ?_ ?_
  omega
  with_reducible refine And.intro ?_ ?_
  omega
  with_reducible refine And.intro ?_ ?_
  omega
  with_reducible refine fX1_rangeOf (a0 := a0) hC (fun _ => ?_) (fun _ e1 => ?_) (fun _ p r e1 hp => ?_)
  simp only [kx_r]
  with_reducible exact hX (by assumption)
  simp only [kx_r]
  with_reducible exact hS k0 hw e1
  simp only [eX1_end_15, eX1_end_18, kx_l, wt_nil, tl_s, Nat.add_zero]
  with_reducible refine And.intro ?_ ?_
  with_reducible refine go_F hp ?_
  with_reducible exact trivial
  with_reducible refine And.intro ?_ ?_
  omega
  with_reducible refine And.intro ?_ ?_
  omega
  with_reducible refine And.intro ?_ ?_
  omega
  with_reducible refine fX0_endAt hp ?_
  simp only [eX1_end_19, kx_l, wt_nil, tl_s, Nat.add_zero]
  with_reducible refine And.intro ?_ ?_
  omega
  with_reducible refine And.intro ?_ ?_
  omega
  with_reducible refine And.intro ?_ ?_
  omega
  with_reducible refine fX1_halfOf ?_
  simp only [eX1_end_22, kx_l, tl_s]
  with_reducible refine And.intro ?_ ?_
  omega
  with_reducible refine And.intro ?_ ?_
  omega
  with_reducible exact hQ k0 hw r e1
set_option maxHeartbeats 4000000 in
theorem fX1_isThere {s : AS} {a0 : Int32} (hC : CS g w0 x nA cA lA kn s w) (hX : ¬ okC a0 → (Q (.inr "java/lang/IndexOutOfBoundsException") w)) (hF : okC a0 → s.2.1 a0.toNatClampNeg = none → Q (.inl (some (.int 0))) w) (hT : okC a0 → ∀ r, s.2.1 a0.toNatClampNeg = some r → Q (.inl (some (.int 1))) w) : WP (MX1_isThere g) Q (0, [some (.ref x), some (.int a0)], [], w, 0, 0) := by
  obtain ⟨gc, gl, ⟨hx, hn, hc, hl, hgc, hgl, hn0, hn1, rx, rn, rc, rl, ⟨d1, d2, d3, d4, d5, d6⟩, ⟨d7, d8, d9, d10, d11, d12⟩⟩, hcd, hpl⟩ := hC.1.opn g
  simp only [eX1_isThere_0, eX1_isThere_4, eX1_isThere_8, wt_nil, Nat.zero_add]
  with_reducible refine And.intro ?_ ?_
  omega
  with_reducible refine And.intro ?_ ?_
  omega
  with_reducible refine And.intro ?_ ?_
  omega
  with_reducible refine fX1_needCard (a0 := a0) (fun _ => ?_) (fun k0 => ?_)
  simp only [kx_r]
  with_reducible exact hX (by assumption)
  simp only [eX1_isThere_9, eX1_isThere_10R, eX1_isThere_10N, eX1_isThere_13, eX1_isThere_17, eX1_isThere_18, rx, rc, n45, or_false, kx_l, go_s, gq_s, rf_st, tl_n, g0, gS, ex1, nb_0, nb_1, true_and]
  with_reducible refine And.intro ?_ ?_
  with_reducible exact vpi6 k0.1 k0.2
  with_reducible refine And.intro ?_ ?_
  with_reducible intro _
  with_reducible refine And.intro ?_ ?_
  omega
  with_reducible refine And.intro ?_ ?_
  omega
  with_reducible exact hF k0 (cdN hcd k0 (by assumption))
  with_reducible intro _
  with_reducible intro _
  with_reducible refine And.intro ?_ ?_
  omega
  with_reducible refine And.intro ?_ ?_
  omega
  with_reducible exact (cdS hcd k0 (by assumption)).elim (fun r h => hT k0 r h.1)
set_option maxHeartbeats 4000000 in
theorem fX1_isFixed {s : AS} {a0 : Int32} (hC : CS g w0 x nA cA lA kn s w) (hX : ¬ okC a0 → (Q (.inr "java/lang/IndexOutOfBoundsException") w)) (hS : okC a0 → s.2.1 a0.toNatClampNeg = none → (Q (.inr "java/lang/IllegalStateException") w)) (hT : okC a0 → ∀ r, s.2.1 a0.toNatClampNeg = some r → fP r → Q (.inl (some (.int 1))) w) (hF : okC a0 → ∀ r, s.2.1 a0.toNatClampNeg = some r → ¬ (fP r) → Q (.inl (some (.int 0))) w) : WP (MX1_isFixed g) Q (0, [some (.ref x), some (.int a0)], [], w, 0, 0) := by
  obtain ⟨gc, gl, ⟨hx, hn, hc, hl, hgc, hgl, hn0, hn1, rx, rn, rc, rl, ⟨d1, d2, d3, d4, d5, d6⟩, ⟨d7, d8, d9, d10, d11, d12⟩⟩, hcd, hpl⟩ := hC.1.opn g
  simp only [eX1_isFixed_0, rx, go_s, wt_nil, true_and, Nat.zero_add]
  with_reducible refine And.intro ?_ ?_
  omega
  with_reducible refine And.intro ?_ ?_
  omega
  with_reducible refine And.intro ?_ ?_
  omega
  with_reducible refine fX1_rangeOf (a0 := a0) hC (fun _ => ?_) (fun k0 e1 => ?_) (fun k0 p r e1 hp => ?_)
  simp only [kx_r]
  with_reducible exact hX (by assumption)
  simp only [kx_r]
  with_reducible exact hS k0 e1
  simp only [eX1_isFixed_5, kx_l, wt_nil, tl_s, Nat.add_zero]
  with_reducible refine And.intro ?_ ?_
  with_reducible refine go_F hp ?_
  with_reducible exact trivial
  with_reducible refine And.intro ?_ ?_
  omega
  with_reducible refine And.intro ?_ ?_
  omega
  with_reducible refine And.intro ?_ ?_
  omega
  with_reducible refine fX0_isSettled hp (fun hm => ?_) (fun hm => ?_)
  simp only [eX1_isFixed_8, kx_l, tl_s, nb_1, true_and]
  with_reducible refine And.intro ?_ ?_
  omega
  with_reducible refine And.intro ?_ ?_
  omega
  with_reducible exact hT k0 r e1 hm
  simp only [eX1_isFixed_8, kx_l, tl_s, nb_0, true_and]
  with_reducible refine And.intro ?_ ?_
  omega
  with_reducible refine And.intro ?_ ?_
  omega
  with_reducible exact hF k0 r e1 hm
set_option maxHeartbeats 4000000 in
theorem fX1_isSmall {s : AS} {a0 : Int32} (hC : CS g w0 x nA cA lA kn s w) (hX : ¬ okC a0 → (Q (.inr "java/lang/IndexOutOfBoundsException") w)) (hS : okC a0 → s.2.1 a0.toNatClampNeg = none → (Q (.inr "java/lang/IllegalStateException") w)) (hT : okC a0 → ∀ r, s.2.1 a0.toNatClampNeg = some r → sP r → Q (.inl (some (.int 1))) w) (hF : okC a0 → ∀ r, s.2.1 a0.toNatClampNeg = some r → ¬ (sP r) → Q (.inl (some (.int 0))) w) : WP (MX1_isSmall g) Q (0, [some (.ref x), some (.int a0)], [], w, 0, 0) := by
  obtain ⟨gc, gl, ⟨hx, hn, hc, hl, hgc, hgl, hn0, hn1, rx, rn, rc, rl, ⟨d1, d2, d3, d4, d5, d6⟩, ⟨d7, d8, d9, d10, d11, d12⟩⟩, hcd, hpl⟩ := hC.1.opn g
  simp only [eX1_isSmall_0, rx, go_s, wt_nil, true_and, Nat.zero_add]
  with_reducible refine And.intro ?_ ?_
  omega
  with_reducible refine And.intro ?_ ?_
  omega
  with_reducible refine And.intro ?_ ?_
  omega
  with_reducible refine fX1_rangeOf (a0 := a0) hC (fun _ => ?_) (fun k0 e1 => ?_) (fun k0 p r e1 hp => ?_)
  simp only [kx_r]
  with_reducible exact hX (by assumption)
  simp only [kx_r]
  with_reducible exact hS k0 e1
  simp only [eX1_isSmall_5, kx_l, wt_nil, tl_s, Nat.add_zero]
  with_reducible refine And.intro ?_ ?_
  with_reducible refine go_F hp ?_
  with_reducible exact trivial
  with_reducible refine And.intro ?_ ?_
  omega
  with_reducible refine And.intro ?_ ?_
  omega
  with_reducible refine And.intro ?_ ?_
  omega
  with_reducible refine fX0_fitsSmall hp (fun hm => ?_) (fun hm => ?_)
  simp only [eX1_isSmall_8, kx_l, tl_s, nb_1, true_and]
  with_reducible refine And.intro ?_ ?_
  omega
  with_reducible refine And.intro ?_ ?_
  omega
  with_reducible exact hT k0 r e1 hm
  simp only [eX1_isSmall_8, kx_l, tl_s, nb_0, true_and]
  with_reducible refine And.intro ?_ ?_
  omega
  with_reducible refine And.intro ?_ ?_
  omega
  with_reducible exact hF k0 r e1 hm
set_option maxHeartbeats 4000000 in
theorem fX1_isValid {s : AS} {a0 a1 : Int32} (hC : CS g w0 x nA cA lA kn s w) (hX : ¬ (okC a0 ∧ okN a1) → (Q (.inr "java/lang/IndexOutOfBoundsException") w)) (hS : okC a0 → okN a1 → s.2.1 a0.toNatClampNeg = none → (Q (.inr "java/lang/IllegalStateException") w)) (hT : okC a0 → okN a1 → ∀ r, s.2.1 a0.toNatClampNeg = some r → hP r (s.1 a1.toNatClampNeg) → Q (.inl (some (.int 1))) w) (hF : okC a0 → okN a1 → ∀ r, s.2.1 a0.toNatClampNeg = some r → ¬ (hP r (s.1 a1.toNatClampNeg)) → Q (.inl (some (.int 0))) w) : WP (MX1_isValid g) Q (0, [some (.ref x), some (.int a0), some (.int a1)], [], w, 0, 0) := by
  obtain ⟨gc, gl, ⟨hx, hn, hc, hl, hgc, hgl, hn0, hn1, rx, rn, rc, rl, ⟨d1, d2, d3, d4, d5, d6⟩, ⟨d7, d8, d9, d10, d11, d12⟩⟩, hcd, hpl⟩ := hC.1.opn g
  simp only [eX1_isValid_0, eX1_isValid_4, eX1_isValid_8, eX1_isValid_13, eX1_isValid_17, wt_nil, Nat.zero_add]
  with_reducible refine And.intro ?_ ?_
  omega
  with_reducible refine And.intro ?_ ?_
  omega
  with_reducible refine And.intro ?_ ?_
  omega
  with_reducible refine fX1_needCard (a0 := a0) (fun _ => ?_) (fun k0 => ?_)
  simp only [kx_r]
  with_reducible exact hX (fun h => absurd h.1 (by assumption))
  simp only [kx_l, wt_nil, tl_n]
  with_reducible refine And.intro ?_ ?_
  omega
  with_reducible refine And.intro ?_ ?_
  omega
  with_reducible refine And.intro ?_ ?_
  omega
  with_reducible refine fX1_needNumber (a0 := a1) (fun _ => ?_) (fun k1 => ?_)
  simp only [kx_r]
  with_reducible exact hX (fun h => absurd h.2 (by assumption))
  simp only [rx, kx_l, go_s, wt_nil, tl_n, true_and]
  with_reducible refine And.intro ?_ ?_
  omega
  with_reducible refine And.intro ?_ ?_
  omega
  with_reducible refine And.intro ?_ ?_
  omega
  with_reducible refine fX1_rangeOf (a0 := a0) hC (fun _ => ?_) (fun _ e1 => ?_) (fun _ p r e1 hp => ?_)
  simp only [kx_r]
  with_reducible exact hX (fun h => absurd h.1 (by assumption))
  simp only [kx_r]
  with_reducible exact hS k0 k1 e1
  simp only [eX1_isValid_18, eX1_isValid_19, rx, rn, kx_l, go_s, gl_s, wt_nil, tl_s, g0, ex1, Nat.add_zero]
  with_reducible refine And.intro ?_ ?_
  with_reducible exact vpi8 k1.1 k1.2
  with_reducible refine And.intro ?_ ?_
  with_reducible refine go_F hp ?_
  with_reducible exact trivial
  with_reducible refine And.intro ?_ ?_
  omega
  with_reducible refine And.intro ?_ ?_
  omega
  with_reducible refine And.intro ?_ ?_
  omega
  with_reducible refine fX0_holds hp (fun hm => ?_) (fun hm => ?_)
  simp only [eX1_isValid_22, kx_l, tl_s, nb_1, true_and]
  with_reducible refine And.intro ?_ ?_
  omega
  with_reducible refine And.intro ?_ ?_
  omega
  with_reducible exact hT k0 k1 r e1 hm
  simp only [eX1_isValid_22, kx_l, tl_s, nb_0, true_and]
  with_reducible refine And.intro ?_ ?_
  omega
  with_reducible refine And.intro ?_ ?_
  omega
  with_reducible exact hF k0 k1 r e1 hm
set_option maxHeartbeats 4000000 in
theorem fX1_isValidSmall {s : AS} {a0 a1 : Int32} (hC : CS g w0 x nA cA lA kn s w) (hX : ¬ (okC a0 ∧ okN a1) → (Q (.inr "java/lang/IndexOutOfBoundsException") w)) (hS : okC a0 → okN a1 → s.2.1 a0.toNatClampNeg = none → (Q (.inr "java/lang/IllegalStateException") w)) (hT : okC a0 → okN a1 → ∀ r, s.2.1 a0.toNatClampNeg = some r → (sP r ∧ hP r (s.1 a1.toNatClampNeg)) → Q (.inl (some (.int 1))) w) (hF : okC a0 → okN a1 → ∀ r, s.2.1 a0.toNatClampNeg = some r → ¬ ((sP r ∧ hP r (s.1 a1.toNatClampNeg))) → Q (.inl (some (.int 0))) w) : WP (MX1_isValidSmall g) Q (0, [some (.ref x), some (.int a0), some (.int a1)], [], w, 0, 0) := by
  obtain ⟨gc, gl, ⟨hx, hn, hc, hl, hgc, hgl, hn0, hn1, rx, rn, rc, rl, ⟨d1, d2, d3, d4, d5, d6⟩, ⟨d7, d8, d9, d10, d11, d12⟩⟩, hcd, hpl⟩ := hC.1.opn g
  simp only [eX1_isValidSmall_0, eX1_isValidSmall_4, eX1_isValidSmall_8, eX1_isValidSmall_13, eX1_isValidSmall_17, wt_nil, Nat.zero_add]
  with_reducible refine And.intro ?_ ?_
  omega
  with_reducible refine And.intro ?_ ?_
  omega
  with_reducible refine And.intro ?_ ?_
  omega
  with_reducible refine fX1_needCard (a0 := a0) (fun _ => ?_) (fun k0 => ?_)
  simp only [kx_r]
  with_reducible exact hX (fun h => absurd h.1 (by assumption))
  simp only [kx_l, wt_nil, tl_n]
  with_reducible refine And.intro ?_ ?_
  omega
  with_reducible refine And.intro ?_ ?_
  omega
  with_reducible refine And.intro ?_ ?_
  omega
  with_reducible refine fX1_needNumber (a0 := a1) (fun _ => ?_) (fun k1 => ?_)
  simp only [kx_r]
  with_reducible exact hX (fun h => absurd h.2 (by assumption))
  simp only [rx, kx_l, go_s, wt_nil, tl_n, true_and]
  with_reducible refine And.intro ?_ ?_
  omega
  with_reducible refine And.intro ?_ ?_
  omega
  with_reducible refine And.intro ?_ ?_
  omega
  with_reducible refine fX1_rangeOf (a0 := a0) hC (fun _ => ?_) (fun _ e1 => ?_) (fun _ p r e1 hp => ?_)
  simp only [kx_r]
  with_reducible exact hX (fun h => absurd h.1 (by assumption))
  simp only [kx_r]
  with_reducible exact hS k0 k1 e1
  simp only [eX1_isValidSmall_18, eX1_isValidSmall_19, rx, rn, kx_l, go_s, gl_s, wt_nil, tl_s, g0, ex1, Nat.add_zero]
  with_reducible refine And.intro ?_ ?_
  with_reducible exact vpi8 k1.1 k1.2
  with_reducible refine And.intro ?_ ?_
  with_reducible refine go_F hp ?_
  with_reducible exact trivial
  with_reducible refine And.intro ?_ ?_
  omega
  with_reducible refine And.intro ?_ ?_
  omega
  with_reducible refine And.intro ?_ ?_
  omega
  with_reducible refine fX0_holdsAsSmall hp (fun hm => ?_) (fun hm => ?_)
  simp only [eX1_isValidSmall_22, kx_l, tl_s, nb_1, true_and]
  with_reducible refine And.intro ?_ ?_
  omega
  with_reducible refine And.intro ?_ ?_
  omega
  with_reducible exact hT k0 k1 r e1 hm
  simp only [eX1_isValidSmall_22, kx_l, tl_s, nb_0, true_and]
  with_reducible refine And.intro ?_ ?_
  omega
  with_reducible refine And.intro ?_ ?_
  omega
  with_reducible exact hF k0 k1 r e1 hm
def wV (r : R4) (v : Int64) : Int32 := bI (decide (hP r v)) + bI (decide (sP r ∧ hP r v))
def nV (r : R4) (v : Int64) (a : Int32) : Int32 := bI (decide ((a = 0 ∨ sP r) ∧ hP r (v - 1))) + 2 * bI (decide ((a = 0 ∨ sP r) ∧ hP r v)) + 4 * bI (decide ((a = 0 ∨ sP r) ∧ hP r (v + 1)))
set_option maxHeartbeats 4000000 in
theorem fX1_validityIn {p : Nat} {r : R4} {a0 : Int64} (hp : rAt w p r) (hQ : Q (.inl (some (.int (wV r a0)))) w) : WP (MX1_validityIn g) Q (0, [some (.ref p), some (.long a0), none], [], w, 0, 0) := by
  simp only [eX1_validityIn_0, wt_nil, Nat.add_zero]
  with_reducible refine And.intro ?_ ?_
  with_reducible exact go_F (by assumption) trivial
  with_reducible refine And.intro ?_ ?_
  omega
  with_reducible refine And.intro ?_ ?_
  omega
  with_reducible refine And.intro ?_ ?_
  omega
  with_reducible refine vX0_holds hp ?_
  simp only [eX1_validityIn_5, eX1_validityIn_8, kx_l, wt_nil, tl_s, Nat.add_zero]
  with_reducible refine And.intro ?_ ?_
  omega
  with_reducible refine And.intro ?_ ?_
  omega
  with_reducible refine And.intro ?_ ?_
  omega
  with_reducible refine fX1_asNumber (bI01 _) ?_
  simp only [kx_l, wt_nil, wt_int, tl_s, Nat.add_zero]
  with_reducible refine And.intro ?_ ?_
  with_reducible exact go_F (by assumption) trivial
  with_reducible refine And.intro ?_ ?_
  omega
  with_reducible refine And.intro ?_ ?_
  omega
  with_reducible refine And.intro ?_ ?_
  omega
  with_reducible refine vX0_holdsAsSmall hp ?_
  simp only [eX1_validityIn_13, kx_l, wt_nil, wt_int, tl_s, Nat.add_zero]
  with_reducible refine And.intro ?_ ?_
  omega
  with_reducible refine And.intro ?_ ?_
  omega
  with_reducible refine And.intro ?_ ?_
  omega
  with_reducible refine fX1_asNumber (bI01 _) ?_
  simp only [eX1_validityIn_16, kx_l, tl_s]
  with_reducible refine And.intro ?_ ?_
  omega
  with_reducible refine And.intro ?_ ?_
  omega
  ((with_reducible refine isQ (Q := Q) ?_); exact hQ)
set_option maxHeartbeats 4000000 in
theorem fX1_neighboursIn {p : Nat} {r : R4} {a0 : Int64} {a1 : Int32} (hp : rAt w p r) (hQ : Q (.inl (some (.int (nV r a0 a1)))) w) : WP (MX1_neighboursIn g) Q (0, [some (.ref p), some (.long a0), none, some (.int a1)], [], w, 0, 0) := by
  simp only [eX1_neighboursIn_0, wt_nil, Nat.add_zero]
  with_reducible refine And.intro ?_ ?_
  with_reducible exact go_F (by assumption) trivial
  with_reducible refine And.intro ?_ ?_
  omega
  with_reducible refine And.intro ?_ ?_
  omega
  with_reducible refine And.intro ?_ ?_
  omega
  with_reducible refine vX0_holdsAs hp ?_
  simp only [eX1_neighboursIn_8, eX1_neighboursIn_11, kx_l, wt_nil, wt_int, tl_s, Nat.add_zero]
  with_reducible refine And.intro ?_ ?_
  omega
  with_reducible refine And.intro ?_ ?_
  omega
  with_reducible refine And.intro ?_ ?_
  omega
  with_reducible refine fX1_asNumber (bI01 _) ?_
  simp only [kx_l, wt_nil, wt_int, tl_s, Nat.add_zero]
  with_reducible refine And.intro ?_ ?_
  with_reducible exact go_F (by assumption) trivial
  with_reducible refine And.intro ?_ ?_
  omega
  with_reducible refine And.intro ?_ ?_
  omega
  with_reducible refine And.intro ?_ ?_
  omega
  with_reducible refine vX0_holdsAs hp ?_
  simp only [eX1_neighboursIn_18, kx_l, wt_nil, wt_int, tl_s, Nat.add_zero]
  with_reducible refine And.intro ?_ ?_
  omega
  with_reducible refine And.intro ?_ ?_
  omega
  with_reducible refine And.intro ?_ ?_
  omega
  with_reducible refine fX1_asNumber (bI01 _) ?_
  simp only [eX1_neighboursIn_21, kx_l, wt_nil, wt_int, tl_s, Nat.add_zero]
  with_reducible refine And.intro ?_ ?_
  with_reducible exact go_F (by assumption) trivial
  with_reducible refine And.intro ?_ ?_
  omega
  with_reducible refine And.intro ?_ ?_
  omega
  with_reducible refine And.intro ?_ ?_
  omega
  with_reducible refine vX0_holdsAs hp ?_
  simp only [eX1_neighboursIn_32, kx_l, wt_nil, wt_int, tl_s, Nat.add_zero]
  with_reducible refine And.intro ?_ ?_
  omega
  with_reducible refine And.intro ?_ ?_
  omega
  with_reducible refine And.intro ?_ ?_
  omega
  with_reducible refine fX1_asNumber (bI01 _) ?_
  simp only [eX1_neighboursIn_35, kx_l, tl_s]
  with_reducible refine And.intro ?_ ?_
  omega
  with_reducible refine And.intro ?_ ?_
  omega
  ((with_reducible refine isQ (Q := Q) ?_); exact hQ)
set_option maxHeartbeats 4000000 in
theorem fX1_whichValid {s : AS} {a0 a1 : Int32} (hC : CS g w0 x nA cA lA kn s w) (hX : ¬ okC a0 → (Q (.inr "java/lang/IndexOutOfBoundsException") w)) (hS : okC a0 → s.2.1 a0.toNatClampNeg = none → (Q (.inr "java/lang/IllegalStateException") w)) (hQ : okC a0 → ∀ r, s.2.1 a0.toNatClampNeg = some r → Q (.inl (some (.int (wV r a1.toInt64)))) w) : WP (MX1_whichValid g) Q (0, [some (.ref x), some (.int a0), some (.int a1)], [], w, 0, 0) := by
  obtain ⟨gc, gl, ⟨hx, hn, hc, hl, hgc, hgl, hn0, hn1, rx, rn, rc, rl, ⟨d1, d2, d3, d4, d5, d6⟩, ⟨d7, d8, d9, d10, d11, d12⟩⟩, hcd, hpl⟩ := hC.1.opn g
  simp only [eX1_whichValid_0, eX1_whichValid_5, rx, go_s, wt_nil, true_and, Nat.zero_add]
  with_reducible refine And.intro ?_ ?_
  omega
  with_reducible refine And.intro ?_ ?_
  omega
  with_reducible refine And.intro ?_ ?_
  omega
  with_reducible refine fX1_rangeOf (a0 := a0) hC (fun _ => ?_) (fun k0 e1 => ?_) (fun k0 p r e1 hp => ?_)
  simp only [kx_r]
  with_reducible exact hX (by assumption)
  simp only [kx_r]
  with_reducible exact hS k0 e1
  simp only [eX1_whichValid_7R, kx_l, wt_nil, tl_s, Nat.add_zero]
  with_reducible refine And.intro ?_ ?_
  omega
  with_reducible refine And.intro ?_ ?_
  omega
  with_reducible refine And.intro ?_ ?_
  omega
  with_reducible refine fX1_validityIn hp ?_
  simp only [eX1_whichValid_10, kx_l, tl_s]
  with_reducible refine And.intro ?_ ?_
  omega
  with_reducible refine And.intro ?_ ?_
  omega
  with_reducible exact hQ k0 r e1
set_option maxHeartbeats 4000000 in
theorem fX1_around {s : AS} {a0 a1 a2 : Int32} (hC : CS g w0 x nA cA lA kn s w) (hX : ¬ okC a0 → (Q (.inr "java/lang/IndexOutOfBoundsException") w)) (hW : okC a0 → ¬ okW a1 3 → (Q (.inr "java/lang/IllegalArgumentException") w)) (hS : okC a0 → okW a1 3 → s.2.1 a0.toNatClampNeg = none → (Q (.inr "java/lang/IllegalStateException") w)) (hQ : okC a0 → okW a1 3 → ∀ r, s.2.1 a0.toNatClampNeg = some r → Q (.inl (some (.int (nV r (eV r a1) a2)))) w) : WP (MX1_around g) Q (0, [some (.ref x), some (.int a0), some (.int a1), some (.int a2), none], [], w, 0, 0) := by
  obtain ⟨gc, gl, ⟨hx, hn, hc, hl, hgc, hgl, hn0, hn1, rx, rn, rc, rl, ⟨d1, d2, d3, d4, d5, d6⟩, ⟨d7, d8, d9, d10, d11, d12⟩⟩, hcd, hpl⟩ := hC.1.opn g
  simp only [eX1_around_0, eX1_around_4, eX1_around_9, wt_nil, Nat.zero_add]
  with_reducible refine And.intro ?_ ?_
  omega
  with_reducible refine And.intro ?_ ?_
  omega
  with_reducible refine And.intro ?_ ?_
  omega
  with_reducible refine fX1_needCard (a0 := a0) (fun _ => ?_) (fun k0 => ?_)
  simp only [kx_r]
  with_reducible exact hX (by assumption)
  simp only [kx_l, wt_nil, tl_n]
  with_reducible refine And.intro ?_ ?_
  omega
  with_reducible refine And.intro ?_ ?_
  omega
  with_reducible refine And.intro ?_ ?_
  omega
  with_reducible refine fX1_needChoice (fun hnw => ?_) (fun hw => ?_)
  simp only [kx_r]
  with_reducible exact hW k0 hnw
  simp only [rx, kx_l, go_s, wt_nil, tl_n, true_and]
  with_reducible refine And.intro ?_ ?_
  omega
  with_reducible refine And.intro ?_ ?_
  omega
  with_reducible refine And.intro ?_ ?_
  omega
  with_reducible refine fX1_rangeOf (a0 := a0) hC (fun _ => ?_) (fun _ e1 => ?_) (fun _ p r e1 hp => ?_)
  simp only [kx_r]
  with_reducible exact hX (by assumption)
  simp only [kx_r]
  with_reducible exact hS k0 hw e1
  simp only [eX1_around_14, eX1_around_24, kx_l, wt_nil, wt_ref, nl_int, tl_s, Nat.add_zero]
  with_reducible refine And.intro ?_ ?_
  with_reducible refine go_F hp ?_
  with_reducible exact trivial
  with_reducible refine And.intro ?_ ?_
  omega
  with_reducible refine And.intro ?_ ?_
  omega
  with_reducible refine And.intro ?_ ?_
  omega
  with_reducible refine fX0_endAt hp ?_
  simp only [eX1_around_25R, kx_l, wt_nil, tl_s, Nat.add_zero]
  with_reducible refine And.intro ?_ ?_
  omega
  with_reducible refine And.intro ?_ ?_
  omega
  with_reducible refine And.intro ?_ ?_
  omega
  with_reducible refine fX1_neighboursIn hp ?_
  simp only [eX1_around_28, kx_l, tl_s]
  with_reducible refine And.intro ?_ ?_
  omega
  with_reducible refine And.intro ?_ ?_
  omega
  with_reducible exact hQ k0 hw r e1
set_option maxHeartbeats 4000000 in
theorem fX1_areSame {s : AS} {a0 a1 : Int32} (hC : CS g w0 x nA cA lA kn s w) (hX : ¬ (okC a0 ∧ okC a1) → (Q (.inr "java/lang/IndexOutOfBoundsException") w)) (hS : okC a0 → okC a1 → (s.2.1 a0.toNatClampNeg = none ∨ s.2.1 a1.toNatClampNeg = none) → (Q (.inr "java/lang/IllegalStateException") w)) (hT : okC a0 → okC a1 → ∀ r q, s.2.1 a0.toNatClampNeg = some r → s.2.1 a1.toNatClampNeg = some q → mP r q → Q (.inl (some (.int 1))) w) (hF : okC a0 → okC a1 → ∀ r q, s.2.1 a0.toNatClampNeg = some r → s.2.1 a1.toNatClampNeg = some q → ¬ mP r q → Q (.inl (some (.int 0))) w) : WP (MX1_areSame g) Q (0, [some (.ref x), some (.int a0), some (.int a1)], [], w, 0, 0) := by
  obtain ⟨gc, gl, ⟨hx, hn, hc, hl, hgc, hgl, hn0, hn1, rx, rn, rc, rl, ⟨d1, d2, d3, d4, d5, d6⟩, ⟨d7, d8, d9, d10, d11, d12⟩⟩, hcd, hpl⟩ := hC.1.opn g
  simp only [eX1_areSame_0, eX1_areSame_4, eX1_areSame_8, eX1_areSame_13, wt_nil, Nat.zero_add]
  with_reducible refine And.intro ?_ ?_
  omega
  with_reducible refine And.intro ?_ ?_
  omega
  with_reducible refine And.intro ?_ ?_
  omega
  with_reducible refine fX1_needCard (a0 := a0) (fun _ => ?_) (fun k0 => ?_)
  simp only [kx_r]
  with_reducible exact hX (fun h => absurd h.1 (by assumption))
  simp only [kx_l, wt_nil, tl_n]
  with_reducible refine And.intro ?_ ?_
  omega
  with_reducible refine And.intro ?_ ?_
  omega
  with_reducible refine And.intro ?_ ?_
  omega
  with_reducible refine fX1_needCard (a0 := a1) (fun _ => ?_) (fun k1 => ?_)
  simp only [kx_r]
  with_reducible exact hX (fun h => absurd h.2 (by assumption))
  simp only [rx, kx_l, go_s, wt_nil, tl_n, true_and]
  with_reducible refine And.intro ?_ ?_
  omega
  with_reducible refine And.intro ?_ ?_
  omega
  with_reducible refine And.intro ?_ ?_
  omega
  with_reducible refine fX1_rangeOf (a0 := a0) hC (fun _ => ?_) (fun _ e1 => ?_) (fun _ p r e1 hp => ?_)
  simp only [kx_r]
  with_reducible exact hX (fun h => absurd h.1 (by assumption))
  simp only [kx_r]
  with_reducible exact hS k0 k1 (Or.inl e1)
  simp only [rx, kx_l, go_s, wt_nil, wt_ref, tl_s, true_and, Nat.add_zero]
  with_reducible refine And.intro ?_ ?_
  omega
  with_reducible refine And.intro ?_ ?_
  omega
  with_reducible refine And.intro ?_ ?_
  omega
  with_reducible refine fX1_rangeOf (a0 := a1) hC (fun _ => ?_) (fun _ e2 => ?_) (fun _ p2 r2 e2 hp2 => ?_)
  simp only [kx_r]
  with_reducible exact hX (fun h => absurd h.2 (by assumption))
  simp only [kx_r]
  with_reducible exact hS k0 k1 (Or.inr e2)
  simp only [eX1_areSame_18R, kx_l, wt_nil, tl_s, Nat.add_zero]
  with_reducible refine And.intro ?_ ?_
  with_reducible refine go_F hp ?_
  with_reducible exact trivial
  with_reducible refine And.intro ?_ ?_
  omega
  with_reducible refine And.intro ?_ ?_
  omega
  with_reducible refine And.intro ?_ ?_
  omega
  with_reducible refine fX0_matchesR hp hp2 (fun hm => ?_) (fun hm => ?_)
  simp only [eX1_areSame_21, kx_l, tl_s, nb_1, true_and]
  with_reducible refine And.intro ?_ ?_
  omega
  with_reducible refine And.intro ?_ ?_
  omega
  with_reducible exact hT k0 k1 r r2 e1 e2 hm
  simp only [eX1_areSame_21, kx_l, tl_s, nb_0, true_and]
  with_reducible refine And.intro ?_ ?_
  omega
  with_reducible refine And.intro ?_ ?_
  omega
  with_reducible exact hF k0 k1 r r2 e1 e2 hm
end
end
