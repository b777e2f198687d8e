section
section
variable {g : RO} {Q : Ot → Hw → Prop} {w0 w : Hw} {x nA cA lA : Nat} {kn : Int32}
theorem sOk.c {s : AS} {a : Int32} {r : R4} (h : sOk s) (k : okC a) (e : s.2.1 a.toNatClampNeg = some r) : rOk r := h.1 _ _ (c6 k) e
theorem oOut {r : R4} (h : rOk r) : oP r.1 r.1 r.2.2.2 r.2.2.2 := by
  obtain ⟨h1, h2, h3, h4⟩ := h
  exact ⟨Int.le_refl _, Int.le_refl _, by omega, by omega⟩
theorem mOut {r : R4} (h : mP r (r.1, r.1, r.2.2.2, r.2.2.2)) : fP r := ⟨h.2.1.symm, h.2.2.1⟩
theorem mOutN {r : R4} (h : ¬ mP r (r.1, r.1, r.2.2.2, r.2.2.2)) : ¬ fP r := fun k => h ⟨rfl, k.1.symm, k.2, rfl⟩
set_option maxHeartbeats 4000000 in
theorem fX1_again {s : AS} {a0 a1 : Int32} (hC : CS g w0 x nA cA lA kn s w) (ho : sOk s) (hX : ¬ (okC a0 ∧ okC a1) → (Q (.inr "java/lang/IndexOutOfBoundsException") w)) (hS : okC a0 → okC a1 → s.2.1 a1.toNatClampNeg = none → (Q (.inr "java/lang/IllegalStateException") w)) (hQ : okC a0 → okC a1 → ∀ r, s.2.1 a1.toNatClampNeg = some r → ∀ w', CS g w0 x nA cA lA kn (sMk s a0.toNatClampNeg r) w' → Q (.inl (some (.int (seV r)))) w') : WP (MX1_again g) Q (0, [some (.ref x), some (.int a0), some (.int a1), none], [], w, 0, 0) := by
  obtain ⟨gc, gl, ⟨hx, hn, hc, hl, hgc, hgl, hn0, hn1, rx, rn, rc, rl, ⟨d1, d2, d3, d4, d5, d6⟩, ⟨d7, d8, d9, d10, d11, d12⟩⟩, hcd, hpl⟩ := hC.1.opn g
  simp only [eX1_again_0, eX1_again_4, wt_nil, Nat.zero_add]
  with_reducible refine And.intro ?_ ?_
  omega
  with_reducible refine And.intro ?_ ?_
  omega
  with_reducible refine And.intro ?_ ?_
  omega
  with_reducible refine fX1_needCard (a0 := a0) (fun _ => ?_) (fun k0 => ?_)
  simp only [kx_r]
  with_reducible exact hX (fun h => absurd h.1 (by assumption))
  simp only [rx, kx_l, go_s, wt_nil, tl_n, true_and]
  with_reducible refine And.intro ?_ ?_
  omega
  with_reducible refine And.intro ?_ ?_
  omega
  with_reducible refine And.intro ?_ ?_
  omega
  with_reducible refine fX1_rangeOf (a0 := a1) hC (fun _ => ?_) (fun k1 e1 => ?_) (fun k1 p r e1 hp => ?_)
  simp only [kx_r]
  with_reducible exact hX (fun h => absurd h.2 (by assumption))
  simp only [kx_r]
  with_reducible exact hS k0 k1 e1
  simp only [eX1_again_9, kx_l, wt_nil, wt_int, wt_ref, nl_int, tl_s, Nat.add_zero]
  with_reducible refine And.intro ?_ ?_
  omega
  with_reducible refine And.intro ?_ ?_
  omega
  with_reducible refine And.intro ?_ ?_
  omega
  with_reducible refine fX1_copyOf hp (fun hno => ?_) (fun hyes q hq => ?_)
  with_reducible exact absurd (ho.c k1 e1) hno
  simp only [eX1_again_16R, kx_l, wt_nil, tl_s, Nat.add_zero]
  with_reducible refine And.intro ?_ ?_
  with_reducible exact go_5 (hC.ext (ext_up2 ext.rf hq))
  with_reducible refine And.intro ?_ ?_
  omega
  with_reducible refine And.intro ?_ ?_
  omega
  with_reducible refine And.intro ?_ ?_
  omega
  with_reducible refine fX1_giveR (hC.ext (ext_up2 ext.rf hq)) rAt_new k0.1 k0.2 (fun w1 g1 g2 => ?_)
  simp only [eX1_again_19, kx_l, wt_nil, tl_s, Nat.add_zero]
  with_reducible refine And.intro ?_ ?_
  omega
  with_reducible refine And.intro ?_ ?_
  omega
  with_reducible refine And.intro ?_ ?_
  omega
  with_reducible refine fX1_smallEnds (g2 _ _ (hp.ext (ext_up2 ext.rf hq))) ?_
  simp only [eX1_again_24, kx_l, tl_s]
  with_reducible refine And.intro ?_ ?_
  omega
  with_reducible refine And.intro ?_ ?_
  omega
  ((with_reducible refine isQ (Q := Q) ?_); exact hQ k0 k1 r e1 w1 g1)
set_option maxHeartbeats 4000000 in
theorem fX1_outer {s : AS} {a0 a1 : Int32} (hC : CS g w0 x nA cA lA kn s w) (ho : sOk s) (hX : ¬ (okC a0 ∧ okC a1) → (Q (.inr "java/lang/IndexOutOfBoundsException") w)) (hS : okC a0 → okC a1 → s.2.1 a1.toNatClampNeg = none → (Q (.inr "java/lang/IllegalStateException") w)) (hT : okC a0 → okC a1 → ∀ r, s.2.1 a1.toNatClampNeg = some r → fP r → ∀ w', CS g w0 x nA cA lA kn (sMk s a0.toNatClampNeg (r.1, r.1, r.2.2.2, r.2.2.2)) w' → Q (.inl (some (.int 1))) w') (hF : okC a0 → okC a1 → ∀ r, s.2.1 a1.toNatClampNeg = some r → ¬ fP r → ∀ w', CS g w0 x nA cA lA kn (sMk s a0.toNatClampNeg (r.1, r.1, r.2.2.2, r.2.2.2)) w' → Q (.inl (some (.int 0))) w') : WP (MX1_outer g) Q (0, [some (.ref x), some (.int a0), some (.int a1), none, none], [], w, 0, 0) := by
  obtain ⟨gc, gl, ⟨hx, hn, hc, hl, hgc, hgl, hn0, hn1, rx, rn, rc, rl, ⟨d1, d2, d3, d4, d5, d6⟩, ⟨d7, d8, d9, d10, d11, d12⟩⟩, hcd, hpl⟩ := hC.1.opn g
  simp only [eX1_outer_0, eX1_outer_4, wt_nil, Nat.zero_add]
  with_reducible refine And.intro ?_ ?_
  omega
  with_reducible refine And.intro ?_ ?_
  omega
  with_reducible refine And.intro ?_ ?_
  omega
  with_reducible refine fX1_needCard (a0 := a0) (fun _ => ?_) (fun k0 => ?_)
  simp only [kx_r]
  with_reducible exact hX (fun h => absurd h.1 (by assumption))
  simp only [rx, kx_l, go_s, wt_nil, tl_n, true_and]
  with_reducible refine And.intro ?_ ?_
  omega
  with_reducible refine And.intro ?_ ?_
  omega
  with_reducible refine And.intro ?_ ?_
  omega
  with_reducible refine fX1_rangeOf (a0 := a1) hC (fun _ => ?_) (fun k1 e1 => ?_) (fun k1 p r e1 hp => ?_)
  simp only [kx_r]
  with_reducible exact hX (fun h => absurd h.2 (by assumption))
  simp only [kx_r]
  with_reducible exact hS k0 k1 e1
  simp only [eX1_outer_9, kx_l, wt_nil, nl_int, tl_s]
  with_reducible refine And.intro ?_ ?_
  omega
  with_reducible refine And.intro ?_ ?_
  omega
  with_reducible refine And.intro ?_ ?_
  omega
  with_reducible refine fX1_outerOf hp (fun hno => ?_) (fun hyes q hq => ?_)
  with_reducible exact absurd (oOut (ho.c k1 e1)) hno
  simp only [eX1_outer_14, kx_l, wt_nil, nl_ref, tl_s, Nat.add_zero]
  with_reducible refine And.intro ?_ ?_
  with_reducible exact go_5 (hC.ext (ext_up2 ext.rf hq))
  with_reducible refine And.intro ?_ ?_
  omega
  with_reducible refine And.intro ?_ ?_
  omega
  with_reducible refine And.intro ?_ ?_
  omega
  with_reducible refine fX1_giveR (hC.ext (ext_up2 ext.rf hq)) rAt_new k0.1 k0.2 (fun w1 g1 g2 => ?_)
  simp only [eX1_outer_23, kx_l, wt_nil, tl_s, Nat.add_zero]
  with_reducible refine And.intro ?_ ?_
  with_reducible exact go_F (g2 _ _ (hp.ext (ext_up2 ext.rf hq))) trivial
  with_reducible refine And.intro ?_ ?_
  omega
  with_reducible refine And.intro ?_ ?_
  omega
  with_reducible refine And.intro ?_ ?_
  omega
  with_reducible refine fX0_matchesR (g2 _ _ (hp.ext (ext_up2 ext.rf hq))) (g2 _ _ rAt_new) (fun hm => ?_) (fun hm => ?_)
  simp only [eX1_outer_30, eX1_outer_33, eX1_outer_37, eX1_outer_38, i10, if_false, kx_l, tl_s]
  with_reducible refine And.intro ?_ ?_
  omega
  with_reducible refine And.intro ?_ ?_
  omega
  with_reducible exact hT k0 k1 r e1 (mOut hm) w1 g1
  simp only [eX1_outer_30, eX1_outer_33, eX1_outer_37, eX1_outer_38, if_true, kx_l, tl_s]
  with_reducible refine And.intro ?_ ?_
  omega
  with_reducible refine And.intro ?_ ?_
  omega
  with_reducible exact hF k0 k1 r e1 (mOutN hm) w1 g1
set_option maxHeartbeats 4000000 in
theorem fX1_same {s : AS} {a0 a1 : Int32} (hC : CS g w0 x nA cA lA kn s w) (hX : ¬ (okC a0 ∧ okC a1) → (Q (.inr "java/lang/IndexOutOfBoundsException") w)) (hS : okC a0 → okC a1 → s.2.1 a1.toNatClampNeg = none → (Q (.inr "java/lang/IllegalStateException") w)) (hN : okC a0 → okC a1 → ∀ r, s.2.1 a1.toNatClampNeg = some r → s.2.1 a0.toNatClampNeg = none → ∀ w', CS g w0 x nA cA lA kn (sC s (va_up s.2.1 a0.toNatClampNeg (some r))) w' → Q (.inl (some (.int (-1)))) w') (hT : okC a0 → okC a1 → ∀ r, s.2.1 a1.toNatClampNeg = some r → ∀ q, s.2.1 a0.toNatClampNeg = some q → mP q r → ∀ w', CS g w0 x nA cA lA kn (sC s (va_up s.2.1 a0.toNatClampNeg (some r))) w' → Q (.inl (some (.int 1))) w') (hF : okC a0 → okC a1 → ∀ r, s.2.1 a1.toNatClampNeg = some r → ∀ q, s.2.1 a0.toNatClampNeg = some q → ¬ mP q r → ∀ w', CS g w0 x nA cA lA kn (sC s (va_up s.2.1 a0.toNatClampNeg (some r))) w' → Q (.inl (some (.int 0))) w') : WP (MX1_same g) Q (0, [some (.ref x), some (.int a0), some (.int a1), none, none], [], w, 0, 0) := by
  obtain ⟨gc, gl, ⟨hx, hn, hc, hl, hgc, hgl, hn0, hn1, rx, rn, rc, rl, ⟨d1, d2, d3, d4, d5, d6⟩, ⟨d7, d8, d9, d10, d11, d12⟩⟩, hcd, hpl⟩ := hC.1.opn g
  simp only [eX1_same_0, eX1_same_4, wt_nil, Nat.zero_add]
  with_reducible refine And.intro ?_ ?_
  omega
  with_reducible refine And.intro ?_ ?_
  omega
  with_reducible refine And.intro ?_ ?_
  omega
  with_reducible refine fX1_needCard (a0 := a0) (fun _ => ?_) (fun k0 => ?_)
  simp only [kx_r]
  with_reducible exact hX (fun h => absurd h.1 (by assumption))
  simp only [rx, kx_l, go_s, wt_nil, tl_n, true_and]
  with_reducible refine And.intro ?_ ?_
  omega
  with_reducible refine And.intro ?_ ?_
  omega
  with_reducible refine And.intro ?_ ?_
  omega
  with_reducible refine fX1_rangeOf (a0 := a1) hC (fun _ => ?_) (fun k1 e1 => ?_) (fun k1 p r e1 hp => ?_)
  simp only [kx_r]
  with_reducible exact hX (fun h => absurd h.2 (by assumption))
  simp only [kx_r]
  with_reducible exact hS k0 k1 e1
  simp only [eX1_same_9, eX1_same_14, eX1_same_16, eX1_same_16N, eX1_same_18, eX1_same_22, eX1_same_25, eX1_same_25N, eX1_same_27R, eX1_same_27N, eX1_same_30, eX1_same_32, rx, rc, hc, n45, or_false, false_and, kx_l, go_s, gq_s, wt_nil, nl_int, nl_ref, rf_st, tl_s, g0, gS, ex1, true_and, Nat.add_zero]
  with_reducible refine And.intro ?_ ?_
  with_reducible exact vpi6 k0.1 k0.2
  with_reducible refine And.intro ?_ ?_
  with_reducible intro _
  with_reducible refine And.intro ?_ ?_
  with_reducible exact vpi6 k0.1 k0.2
  with_reducible refine And.intro ?_ ?_
  with_reducible exact go_Fw hp trivial
  with_reducible refine And.intro ?_ ?_
  omega
  with_reducible refine And.intro ?_ ?_
  omega
  ((with_reducible refine isQ (Q := Q) ?_); exact hN k0 k1 r e1 (cdN hcd k0 (by assumption)) _ (hC.card gc hc a0.toNatClampNeg (some p) (some r) hp))
  with_reducible intro _
  with_reducible intro _
  with_reducible refine And.intro ?_ ?_
  with_reducible exact vpi6 k0.1 k0.2
  with_reducible refine And.intro ?_ ?_
  with_reducible exact go_Fw hp trivial
  with_reducible refine And.intro ?_ ?_
  (obtain ⟨q0, e0, hq0⟩ := cdS hcd k0 (by assumption); with_reducible exact go_F (rAt_up2 hq0 hc (by simp)) trivial)
  with_reducible refine And.intro ?_ ?_
  omega
  with_reducible refine And.intro ?_ ?_
  omega
  with_reducible refine And.intro ?_ ?_
  omega
  (obtain ⟨q0, e0, hq0⟩ := cdS hcd k0 (by assumption); with_reducible refine fX0_matchesR (rAt_up2 hq0 hc (by simp)) (rAt_up2 hp hc (by simp)) (fun hm => ?_) (fun hm => ?_))
  simp only [eX1_same_38, eX1_same_41, eX1_same_45, eX1_same_46, i10, if_false, kx_l, tl_s]
  with_reducible refine And.intro ?_ ?_
  omega
  with_reducible refine And.intro ?_ ?_
  omega
  ((with_reducible refine isQ (Q := Q) ?_); exact hT k0 k1 r e1 q0 e0 hm _ (hC.card gc hc a0.toNatClampNeg (some p) (some r) hp))
  simp only [eX1_same_38, eX1_same_41, eX1_same_45, eX1_same_46, if_true, kx_l, tl_s]
  with_reducible refine And.intro ?_ ?_
  omega
  with_reducible refine And.intro ?_ ?_
  omega
  ((with_reducible refine isQ (Q := Q) ?_); exact hF k0 k1 r e1 q0 e0 hm _ (hC.card gc hc a0.toNatClampNeg (some p) (some r) hp))
set_option maxHeartbeats 4000000 in
theorem fX1_drop {s : AS} {a0 : Int32} (hC : CS g w0 x nA cA lA kn s w) (hX : ¬ okC a0 → (Q (.inr "java/lang/IndexOutOfBoundsException") w)) (hN : okC a0 → s.2.1 a0.toNatClampNeg = none → ∀ w', CS g w0 x nA cA lA kn (sC s (va_up s.2.1 a0.toNatClampNeg none)) w' → Q (.inl (some (.int 0))) w') (hS : okC a0 → ∀ r, s.2.1 a0.toNatClampNeg = some r → ∀ w', CS g w0 x nA cA lA kn (sC s (va_up s.2.1 a0.toNatClampNeg none)) w' → Q (.inl (some (.int 1))) w') : WP (MX1_drop g) Q (0, [some (.ref x), some (.int a0), none], [], w, 0, 0) := by
  obtain ⟨gc, gl, ⟨hx, hn, hc, hl, hgc, hgl, hn0, hn1, rx, rn, rc, rl, ⟨d1, d2, d3, d4, d5, d6⟩, ⟨d7, d8, d9, d10, d11, d12⟩⟩, hcd, hpl⟩ := hC.1.opn g
  simp only [eX1_drop_0, eX1_drop_4, eX1_drop_8, wt_nil, Nat.zero_add]
  with_reducible refine And.intro ?_ ?_
  omega
  with_reducible refine And.intro ?_ ?_
  omega
  with_reducible refine And.intro ?_ ?_
  omega
  with_reducible refine fX1_needCard (a0 := a0) (fun _ => ?_) (fun k0 => ?_)
  simp only [kx_r]
  with_reducible exact hX (by assumption)
  simp only [eX1_drop_9, eX1_drop_10R, eX1_drop_10N, eX1_drop_13, eX1_drop_17, eX1_drop_18, rx, rc, n45, or_false, kx_l, go_s, gq_s, wt_nil, rf_st, tl_n, g0, gS, ex1, true_and, Nat.add_zero]
  with_reducible refine And.intro ?_ ?_
  with_reducible exact vpi6 k0.1 k0.2
  with_reducible refine And.intro ?_ ?_
  with_reducible intro _
  with_reducible refine And.intro ?_ ?_
  omega
  with_reducible refine And.intro ?_ ?_
  omega
  with_reducible refine And.intro ?_ ?_
  omega
  with_reducible refine fX1_asNumber (Or.inl rfl) ?_
  simp only [eX1_drop_21, eX1_drop_26, eX1_drop_29, rx, hc, n45, or_false, kx_l, go_s, gq_s, nl_int, tl_s, g0, gS, ex1, true_and]
  with_reducible refine And.intro ?_ ?_
  with_reducible exact vpi6 k0.1 k0.2
  with_reducible refine And.intro ?_ ?_
  omega
  with_reducible refine And.intro ?_ ?_
  omega
  ((with_reducible refine isQ (Q := Q) ?_); exact hN k0 (cdN hcd k0 (by assumption)) _ (hC.card gc hc a0.toNatClampNeg none none trivial))
  with_reducible intro _
  with_reducible intro _
  with_reducible refine And.intro ?_ ?_
  omega
  with_reducible refine And.intro ?_ ?_
  omega
  with_reducible refine And.intro ?_ ?_
  omega
  with_reducible refine fX1_asNumber (Or.inr rfl) ?_
  simp only [eX1_drop_21, eX1_drop_26, eX1_drop_29, rx, hc, n45, or_false, kx_l, go_s, gq_s, nl_int, tl_s, g0, gS, ex1, true_and]
  with_reducible refine And.intro ?_ ?_
  with_reducible exact vpi6 k0.1 k0.2
  with_reducible refine And.intro ?_ ?_
  omega
  with_reducible refine And.intro ?_ ?_
  omega
  ((with_reducible refine isQ (Q := Q) ?_); exact (cdS hcd k0 (by assumption)).elim (fun r h => hS k0 r h.1 _ (hC.card gc hc a0.toNatClampNeg none none trivial)))
end
end
