section
section
variable {g : RO} {Q : Ot → Hw → Prop} {w0 w : Hw} {x nA cA lA : Nat} {kn : Int32}
theorem rAt_new {q : Nat} {a b c d : Int64} : rAt (upw w q (.inr (4, [.long a, .long b, .long c, .long d]))) q (a, b, c, d) := upw_s _ _ _
theorem go_5 {s : AS} (h : CS g w0 x nA cA lA kn s w) : go (rd g w x) 5 fun _ => True := by
  obtain ⟨gc, gl, h1, -⟩ := h.1.opn g
  rw [h1.2.2.2.2.2.2.2.2.1, go_s]
  trivial
/-- a card gets the range (refused: counted) -/
abbrev sMk (s : AS) (j : Nat) (r : R4) : AS := sM_ (sC s (va_up s.2.1 j (some r))) (s.2.2.2.2.2 + 1)
abbrev sRf (s : AS) : AS := sR_ s (s.2.2.2.2.1 + 1)
set_option maxHeartbeats 4000000 in
theorem fX1_two {s : AS} {a0 : Int32} {a1 : Int32} {a2 : Int32} (hC : CS g w0 x nA cA lA kn s w) (hX : ¬ (okC a0 ∧ okN a1 ∧ okN a2) → (Q (.inr "java/lang/IndexOutOfBoundsException") w)) (hT : okC a0 → okN a1 → okN a2 → oP (s.1 a1.toNatClampNeg) (s.1 a1.toNatClampNeg) (s.1 a2.toNatClampNeg) (s.1 a2.toNatClampNeg) → ∀ w', CS g w0 x nA cA lA kn (sMk s a0.toNatClampNeg (s.1 a1.toNatClampNeg, s.1 a1.toNatClampNeg, s.1 a2.toNatClampNeg, s.1 a2.toNatClampNeg)) w' → Q (.inl (some (.int 1))) w') (hF : okC a0 → okN a1 → okN a2 → ¬ oP (s.1 a1.toNatClampNeg) (s.1 a1.toNatClampNeg) (s.1 a2.toNatClampNeg) (s.1 a2.toNatClampNeg) → ∀ w', CS g w0 x nA cA lA kn (sRf s) w' → Q (.inl (some (.int (-9)))) w') : WP (MX1_two g) Q (0, [some (.ref x), some (.int a0), some (.int a1), some (.int a2)], [], w, 0, 0) := by
  obtain ⟨gc, gl, ⟨hx, hn, hc, hl, hgc, hgl, hn0, hn1, rx, rn, rc, rl, ⟨d1, d2, d3, d4, d5, d6⟩, ⟨d7, d8, d9, d10, d11, d12⟩⟩, hcd, hpl⟩ := hC.1.opn g
  simp only [eX1_two_0, eX1_two_4, eX1_two_8, eX1_two_12, eX1_two_18, wt_nil, Nat.zero_add]
  with_reducible refine And.intro ?_ ?_
  omega
  with_reducible refine And.intro ?_ ?_
  omega
  with_reducible refine And.intro ?_ ?_
  omega
  with_reducible refine fX1_needCard (a0 := a0) (fun _ => ?_) (fun k0 => ?_)
  simp only [kx_r]
  with_reducible exact hX (fun h => absurd h.1 (by assumption))
  simp only [kx_l, wt_nil, tl_n]
  with_reducible refine And.intro ?_ ?_
  omega
  with_reducible refine And.intro ?_ ?_
  omega
  with_reducible refine And.intro ?_ ?_
  omega
  with_reducible refine fX1_needNumber (a0 := a1) (fun _ => ?_) (fun k1 => ?_)
  simp only [kx_r]
  with_reducible exact hX (fun h => absurd h.2.1 (by assumption))
  simp only [kx_l, wt_nil, tl_n]
  with_reducible refine And.intro ?_ ?_
  omega
  with_reducible refine And.intro ?_ ?_
  omega
  with_reducible refine And.intro ?_ ?_
  omega
  with_reducible refine fX1_needNumber (a0 := a2) (fun _ => ?_) (fun k2 => ?_)
  simp only [kx_r]
  with_reducible exact hX (fun h => absurd h.2.2 (by assumption))
  simp only [eX1_two_19, eX1_two_20, eX1_two_24, eX1_two_26, rx, rn, kx_l, go_s, gl_s, wt_nil, wt_int, wt_ref, tl_n, g0, ex1, Nat.add_zero]
  with_reducible refine And.intro ?_ ?_
  with_reducible exact vpi8 k1.1 k1.2
  with_reducible refine And.intro ?_ ?_
  with_reducible exact vpi8 k2.1 k2.2
  with_reducible refine And.intro ?_ ?_
  omega
  with_reducible refine And.intro ?_ ?_
  omega
  with_reducible refine And.intro ?_ ?_
  omega
  with_reducible refine fX0_ofTwo (fun hno => ?_) (fun hyes q hq => ?_)
  simp only [eX1_two_29N, rx, kx_l, go_s, wt_nil, tl_s, true_and, Nat.add_zero]
  with_reducible refine And.intro ?_ ?_
  omega
  with_reducible refine And.intro ?_ ?_
  omega
  with_reducible refine And.intro ?_ ?_
  omega
  with_reducible refine fX1_giveN hC (fun w1 g1 g2 => ?_)
  simp only [eX1_two_32, kx_l, tl_s]
  with_reducible refine And.intro ?_ ?_
  omega
  with_reducible refine And.intro ?_ ?_
  omega
  with_reducible exact hF k0 k1 k2 hno w1 g1
  simp only [eX1_two_29R, kx_l, wt_nil, tl_s, Nat.add_zero]
  with_reducible refine And.intro ?_ ?_
  with_reducible exact go_5 (hC.ext (ext_up2 ext.rf hq))
  with_reducible refine And.intro ?_ ?_
  omega
  with_reducible refine And.intro ?_ ?_
  omega
  with_reducible refine And.intro ?_ ?_
  omega
  with_reducible refine fX1_giveR (hC.ext (ext_up2 ext.rf hq)) rAt_new k0.1 k0.2 (fun w1 g1 g2 => ?_)
  simp only [eX1_two_32, kx_l, tl_s]
  with_reducible refine And.intro ?_ ?_
  omega
  with_reducible refine And.intro ?_ ?_
  omega
  with_reducible exact hT k0 k1 k2 hyes w1 g1
set_option maxHeartbeats 4000000 in
theorem fX1_three {s : AS} {a0 : Int32} {a1 : Int32} {a2 : Int32} {a3 : Int32} (hC : CS g w0 x nA cA lA kn s w) (hX : ¬ (okC a0 ∧ okN a1 ∧ okN a2 ∧ okN a3) → (Q (.inr "java/lang/IndexOutOfBoundsException") w)) (hT : okC a0 → okN a1 → okN a2 → okN a3 → oP (s.1 a1.toNatClampNeg) (s.1 a1.toNatClampNeg) (s.1 a2.toNatClampNeg) (s.1 a3.toNatClampNeg) → ∀ w', CS g w0 x nA cA lA kn (sMk s a0.toNatClampNeg (s.1 a1.toNatClampNeg, s.1 a1.toNatClampNeg, s.1 a2.toNatClampNeg, s.1 a3.toNatClampNeg)) w' → Q (.inl (some (.int 1))) w') (hF : okC a0 → okN a1 → okN a2 → okN a3 → ¬ oP (s.1 a1.toNatClampNeg) (s.1 a1.toNatClampNeg) (s.1 a2.toNatClampNeg) (s.1 a3.toNatClampNeg) → ∀ w', CS g w0 x nA cA lA kn (sRf s) w' → Q (.inl (some (.int (-9)))) w') : WP (MX1_three g) Q (0, [some (.ref x), some (.int a0), some (.int a1), some (.int a2), some (.int a3)], [], w, 0, 0) := by
  obtain ⟨gc, gl, ⟨hx, hn, hc, hl, hgc, hgl, hn0, hn1, rx, rn, rc, rl, ⟨d1, d2, d3, d4, d5, d6⟩, ⟨d7, d8, d9, d10, d11, d12⟩⟩, hcd, hpl⟩ := hC.1.opn g
  simp only [eX1_three_0, eX1_three_4, eX1_three_8, eX1_three_12, eX1_three_17, eX1_three_23, wt_nil, Nat.zero_add]
  with_reducible refine And.intro ?_ ?_
  omega
  with_reducible refine And.intro ?_ ?_
  omega
  with_reducible refine And.intro ?_ ?_
  omega
  with_reducible refine fX1_needCard (a0 := a0) (fun _ => ?_) (fun k0 => ?_)
  simp only [kx_r]
  with_reducible exact hX (fun h => absurd h.1 (by assumption))
  simp only [kx_l, wt_nil, tl_n]
  with_reducible refine And.intro ?_ ?_
  omega
  with_reducible refine And.intro ?_ ?_
  omega
  with_reducible refine And.intro ?_ ?_
  omega
  with_reducible refine fX1_needNumber (a0 := a1) (fun _ => ?_) (fun k1 => ?_)
  simp only [kx_r]
  with_reducible exact hX (fun h => absurd h.2.1 (by assumption))
  simp only [kx_l, wt_nil, tl_n]
  with_reducible refine And.intro ?_ ?_
  omega
  with_reducible refine And.intro ?_ ?_
  omega
  with_reducible refine And.intro ?_ ?_
  omega
  with_reducible refine fX1_needNumber (a0 := a2) (fun _ => ?_) (fun k2 => ?_)
  simp only [kx_r]
  with_reducible exact hX (fun h => absurd h.2.2.1 (by assumption))
  simp only [kx_l, wt_nil, tl_n]
  with_reducible refine And.intro ?_ ?_
  omega
  with_reducible refine And.intro ?_ ?_
  omega
  with_reducible refine And.intro ?_ ?_
  omega
  with_reducible refine fX1_needNumber (a0 := a3) (fun _ => ?_) (fun k3 => ?_)
  simp only [kx_r]
  with_reducible exact hX (fun h => absurd h.2.2.2 (by assumption))
  simp only [eX1_three_24, eX1_three_25, eX1_three_29, eX1_three_31, eX1_three_35, eX1_three_38, rx, rn, kx_l, go_s, gl_s, wt_nil, wt_int, wt_ref, tl_n, g0, ex1, Nat.add_zero]
  with_reducible refine And.intro ?_ ?_
  with_reducible exact vpi8 k1.1 k1.2
  with_reducible refine And.intro ?_ ?_
  with_reducible exact vpi8 k2.1 k2.2
  with_reducible refine And.intro ?_ ?_
  with_reducible exact vpi8 k3.1 k3.2
  with_reducible refine And.intro ?_ ?_
  omega
  with_reducible refine And.intro ?_ ?_
  omega
  with_reducible refine And.intro ?_ ?_
  omega
  with_reducible refine fX0_ofThree (fun hno => ?_) (fun hyes q hq => ?_)
  simp only [eX1_three_41N, rx, kx_l, go_s, wt_nil, tl_s, true_and, Nat.add_zero]
  with_reducible refine And.intro ?_ ?_
  omega
  with_reducible refine And.intro ?_ ?_
  omega
  with_reducible refine And.intro ?_ ?_
  omega
  with_reducible refine fX1_giveN hC (fun w1 g1 g2 => ?_)
  simp only [eX1_three_44, kx_l, tl_s]
  with_reducible refine And.intro ?_ ?_
  omega
  with_reducible refine And.intro ?_ ?_
  omega
  with_reducible exact hF k0 k1 k2 k3 hno w1 g1
  simp only [eX1_three_41R, kx_l, wt_nil, tl_s, Nat.add_zero]
  with_reducible refine And.intro ?_ ?_
  with_reducible exact go_5 (hC.ext (ext_up2 ext.rf hq))
  with_reducible refine And.intro ?_ ?_
  omega
  with_reducible refine And.intro ?_ ?_
  omega
  with_reducible refine And.intro ?_ ?_
  omega
  with_reducible refine fX1_giveR (hC.ext (ext_up2 ext.rf hq)) rAt_new k0.1 k0.2 (fun w1 g1 g2 => ?_)
  simp only [eX1_three_44, kx_l, tl_s]
  with_reducible refine And.intro ?_ ?_
  omega
  with_reducible refine And.intro ?_ ?_
  omega
  with_reducible exact hT k0 k1 k2 k3 hyes w1 g1
set_option maxHeartbeats 4000000 in
theorem fX1_four {s : AS} {a0 : Int32} {a1 : Int32} {a2 : Int32} {a3 : Int32} {a4 : Int32} (hC : CS g w0 x nA cA lA kn s w) (hX : ¬ (okC a0 ∧ okN a1 ∧ okN a2 ∧ okN a3 ∧ okN a4) → (Q (.inr "java/lang/IndexOutOfBoundsException") w)) (hT : okC a0 → okN a1 → okN a2 → okN a3 → okN a4 → oP (s.1 a1.toNatClampNeg) (s.1 a2.toNatClampNeg) (s.1 a3.toNatClampNeg) (s.1 a4.toNatClampNeg) → ∀ w', CS g w0 x nA cA lA kn (sMk s a0.toNatClampNeg (s.1 a1.toNatClampNeg, s.1 a2.toNatClampNeg, s.1 a3.toNatClampNeg, s.1 a4.toNatClampNeg)) w' → Q (.inl (some (.int 1))) w') (hF : okC a0 → okN a1 → okN a2 → okN a3 → okN a4 → ¬ oP (s.1 a1.toNatClampNeg) (s.1 a2.toNatClampNeg) (s.1 a3.toNatClampNeg) (s.1 a4.toNatClampNeg) → ∀ w', CS g w0 x nA cA lA kn (sRf s) w' → Q (.inl (some (.int (-9)))) w') : WP (MX1_four g) Q (0, [some (.ref x), some (.int a0), some (.int a1), some (.int a2), some (.int a3), some (.int a4)], [], w, 0, 0) := by
  obtain ⟨gc, gl, ⟨hx, hn, hc, hl, hgc, hgl, hn0, hn1, rx, rn, rc, rl, ⟨d1, d2, d3, d4, d5, d6⟩, ⟨d7, d8, d9, d10, d11, d12⟩⟩, hcd, hpl⟩ := hC.1.opn g
  simp only [eX1_four_0, eX1_four_4, eX1_four_8, eX1_four_12, eX1_four_17, eX1_four_22, eX1_four_28, wt_nil, Nat.zero_add]
  with_reducible refine And.intro ?_ ?_
  omega
  with_reducible refine And.intro ?_ ?_
  omega
  with_reducible refine And.intro ?_ ?_
  omega
  with_reducible refine fX1_needCard (a0 := a0) (fun _ => ?_) (fun k0 => ?_)
  simp only [kx_r]
  with_reducible exact hX (fun h => absurd h.1 (by assumption))
  simp only [kx_l, wt_nil, tl_n]
  with_reducible refine And.intro ?_ ?_
  omega
  with_reducible refine And.intro ?_ ?_
  omega
  with_reducible refine And.intro ?_ ?_
  omega
  with_reducible refine fX1_needNumber (a0 := a1) (fun _ => ?_) (fun k1 => ?_)
  simp only [kx_r]
  with_reducible exact hX (fun h => absurd h.2.1 (by assumption))
  simp only [kx_l, wt_nil, tl_n]
  with_reducible refine And.intro ?_ ?_
  omega
  with_reducible refine And.intro ?_ ?_
  omega
  with_reducible refine And.intro ?_ ?_
  omega
  with_reducible refine fX1_needNumber (a0 := a2) (fun _ => ?_) (fun k2 => ?_)
  simp only [kx_r]
  with_reducible exact hX (fun h => absurd h.2.2.1 (by assumption))
  simp only [kx_l, wt_nil, tl_n]
  with_reducible refine And.intro ?_ ?_
  omega
  with_reducible refine And.intro ?_ ?_
  omega
  with_reducible refine And.intro ?_ ?_
  omega
  with_reducible refine fX1_needNumber (a0 := a3) (fun _ => ?_) (fun k3 => ?_)
  simp only [kx_r]
  with_reducible exact hX (fun h => absurd h.2.2.2.1 (by assumption))
  simp only [kx_l, wt_nil, tl_n]
  with_reducible refine And.intro ?_ ?_
  omega
  with_reducible refine And.intro ?_ ?_
  omega
  with_reducible refine And.intro ?_ ?_
  omega
  with_reducible refine fX1_needNumber (a0 := a4) (fun _ => ?_) (fun k4 => ?_)
  simp only [kx_r]
  with_reducible exact hX (fun h => absurd h.2.2.2.2 (by assumption))
  simp only [eX1_four_29, eX1_four_30, eX1_four_34, eX1_four_36, eX1_four_40, eX1_four_43, eX1_four_47, eX1_four_50, rx, rn, kx_l, go_s, gl_s, wt_nil, wt_int, wt_ref, tl_n, g0, ex1, Nat.add_zero]
  with_reducible refine And.intro ?_ ?_
  with_reducible exact vpi8 k1.1 k1.2
  with_reducible refine And.intro ?_ ?_
  with_reducible exact vpi8 k2.1 k2.2
  with_reducible refine And.intro ?_ ?_
  with_reducible exact vpi8 k3.1 k3.2
  with_reducible refine And.intro ?_ ?_
  with_reducible exact vpi8 k4.1 k4.2
  with_reducible refine And.intro ?_ ?_
  omega
  with_reducible refine And.intro ?_ ?_
  omega
  with_reducible refine And.intro ?_ ?_
  omega
  with_reducible refine fX0_ofFour (fun hno => ?_) (fun hyes q hq => ?_)
  simp only [eX1_four_53N, rx, kx_l, go_s, wt_nil, tl_s, true_and, Nat.add_zero]
  with_reducible refine And.intro ?_ ?_
  omega
  with_reducible refine And.intro ?_ ?_
  omega
  with_reducible refine And.intro ?_ ?_
  omega
  with_reducible refine fX1_giveN hC (fun w1 g1 g2 => ?_)
  simp only [eX1_four_56, kx_l, tl_s]
  with_reducible refine And.intro ?_ ?_
  omega
  with_reducible refine And.intro ?_ ?_
  omega
  with_reducible exact hF k0 k1 k2 k3 k4 hno w1 g1
  simp only [eX1_four_53R, kx_l, wt_nil, tl_s, Nat.add_zero]
  with_reducible refine And.intro ?_ ?_
  with_reducible exact go_5 (hC.ext (ext_up2 ext.rf hq))
  with_reducible refine And.intro ?_ ?_
  omega
  with_reducible refine And.intro ?_ ?_
  omega
  with_reducible refine And.intro ?_ ?_
  omega
  with_reducible refine fX1_giveR (hC.ext (ext_up2 ext.rf hq)) rAt_new k0.1 k0.2 (fun w1 g1 g2 => ?_)
  simp only [eX1_four_56, kx_l, tl_s]
  with_reducible refine And.intro ?_ ?_
  omega
  with_reducible refine And.intro ?_ ?_
  omega
  with_reducible exact hT k0 k1 k2 k3 k4 hyes w1 g1
set_option maxHeartbeats 4000000 in
theorem fX1_twoSmall {s : AS} {a0 : Int32} {a1 : Int32} {a2 : Int32} (hC : CS g w0 x nA cA lA kn s w) (hX : ¬ (okC a0) → (Q (.inr "java/lang/IndexOutOfBoundsException") w)) (hT : okC a0 → oP (a1.toInt64) (a1.toInt64) (a2.toInt64) (a2.toInt64) → ∀ w', CS g w0 x nA cA lA kn (sMk s a0.toNatClampNeg (a1.toInt64, a1.toInt64, a2.toInt64, a2.toInt64)) w' → Q (.inl (some (.int 1))) w') (hF : okC a0 → ¬ oP (a1.toInt64) (a1.toInt64) (a2.toInt64) (a2.toInt64) → ∀ w', CS g w0 x nA cA lA kn (sRf s) w' → Q (.inl (some (.int (-9)))) w') : WP (MX1_twoSmall g) Q (0, [some (.ref x), some (.int a0), some (.int a1), some (.int a2)], [], w, 0, 0) := by
  obtain ⟨gc, gl, ⟨hx, hn, hc, hl, hgc, hgl, hn0, hn1, rx, rn, rc, rl, ⟨d1, d2, d3, d4, d5, d6⟩, ⟨d7, d8, d9, d10, d11, d12⟩⟩, hcd, hpl⟩ := hC.1.opn g
  simp only [eX1_twoSmall_0, eX1_twoSmall_4, wt_nil, wt_int, wt_ref, Nat.zero_add]
  with_reducible refine And.intro ?_ ?_
  omega
  with_reducible refine And.intro ?_ ?_
  omega
  with_reducible refine And.intro ?_ ?_
  omega
  with_reducible refine fX1_needCard (a0 := a0) (fun _ => ?_) (fun k0 => ?_)
  simp only [kx_r]
  with_reducible exact hX (fun h => absurd h (by assumption))
  simp only [kx_l, wt_nil, tl_n, Nat.add_zero]
  with_reducible refine And.intro ?_ ?_
  omega
  with_reducible refine And.intro ?_ ?_
  omega
  with_reducible refine And.intro ?_ ?_
  omega
  with_reducible refine fX0_ofTwo (fun hno => ?_) (fun hyes q hq => ?_)
  simp only [eX1_twoSmall_13N, rx, kx_l, go_s, wt_nil, tl_s, true_and, Nat.add_zero]
  with_reducible refine And.intro ?_ ?_
  omega
  with_reducible refine And.intro ?_ ?_
  omega
  with_reducible refine And.intro ?_ ?_
  omega
  with_reducible refine fX1_giveN hC (fun w1 g1 g2 => ?_)
  simp only [eX1_twoSmall_16, kx_l, tl_s]
  with_reducible refine And.intro ?_ ?_
  omega
  with_reducible refine And.intro ?_ ?_
  omega
  with_reducible exact hF k0 hno w1 g1
  simp only [eX1_twoSmall_13R, kx_l, wt_nil, tl_s, Nat.add_zero]
  with_reducible refine And.intro ?_ ?_
  with_reducible exact go_5 (hC.ext (ext_up2 ext.rf hq))
  with_reducible refine And.intro ?_ ?_
  omega
  with_reducible refine And.intro ?_ ?_
  omega
  with_reducible refine And.intro ?_ ?_
  omega
  with_reducible refine fX1_giveR (hC.ext (ext_up2 ext.rf hq)) rAt_new k0.1 k0.2 (fun w1 g1 g2 => ?_)
  simp only [eX1_twoSmall_16, kx_l, tl_s]
  with_reducible refine And.intro ?_ ?_
  omega
  with_reducible refine And.intro ?_ ?_
  omega
  with_reducible exact hT k0 hyes w1 g1
set_option maxHeartbeats 4000000 in
theorem fX1_threeSmall {s : AS} {a0 : Int32} {a1 : Int32} {a2 : Int32} {a3 : Int32} (hC : CS g w0 x nA cA lA kn s w) (hX : ¬ (okC a0) → (Q (.inr "java/lang/IndexOutOfBoundsException") w)) (hT : okC a0 → oP (a1.toInt64) (a1.toInt64) (a2.toInt64) (a3.toInt64) → ∀ w', CS g w0 x nA cA lA kn (sMk s a0.toNatClampNeg (a1.toInt64, a1.toInt64, a2.toInt64, a3.toInt64)) w' → Q (.inl (some (.int 1))) w') (hF : okC a0 → ¬ oP (a1.toInt64) (a1.toInt64) (a2.toInt64) (a3.toInt64) → ∀ w', CS g w0 x nA cA lA kn (sRf s) w' → Q (.inl (some (.int (-9)))) w') : WP (MX1_threeSmall g) Q (0, [some (.ref x), some (.int a0), some (.int a1), some (.int a2), some (.int a3)], [], w, 0, 0) := by
  obtain ⟨gc, gl, ⟨hx, hn, hc, hl, hgc, hgl, hn0, hn1, rx, rn, rc, rl, ⟨d1, d2, d3, d4, d5, d6⟩, ⟨d7, d8, d9, d10, d11, d12⟩⟩, hcd, hpl⟩ := hC.1.opn g
  simp only [eX1_threeSmall_0, eX1_threeSmall_4, wt_nil, wt_int, wt_ref, Nat.zero_add]
  with_reducible refine And.intro ?_ ?_
  omega
  with_reducible refine And.intro ?_ ?_
  omega
  with_reducible refine And.intro ?_ ?_
  omega
  with_reducible refine fX1_needCard (a0 := a0) (fun _ => ?_) (fun k0 => ?_)
  simp only [kx_r]
  with_reducible exact hX (fun h => absurd h (by assumption))
  simp only [kx_l, wt_nil, tl_n, Nat.add_zero]
  with_reducible refine And.intro ?_ ?_
  omega
  with_reducible refine And.intro ?_ ?_
  omega
  with_reducible refine And.intro ?_ ?_
  omega
  with_reducible refine fX0_ofThree (fun hno => ?_) (fun hyes q hq => ?_)
  simp only [eX1_threeSmall_16N, rx, kx_l, go_s, wt_nil, tl_s, true_and, Nat.add_zero]
  with_reducible refine And.intro ?_ ?_
  omega
  with_reducible refine And.intro ?_ ?_
  omega
  with_reducible refine And.intro ?_ ?_
  omega
  with_reducible refine fX1_giveN hC (fun w1 g1 g2 => ?_)
  simp only [eX1_threeSmall_19, kx_l, tl_s]
  with_reducible refine And.intro ?_ ?_
  omega
  with_reducible refine And.intro ?_ ?_
  omega
  with_reducible exact hF k0 hno w1 g1
  simp only [eX1_threeSmall_16R, kx_l, wt_nil, tl_s, Nat.add_zero]
  with_reducible refine And.intro ?_ ?_
  with_reducible exact go_5 (hC.ext (ext_up2 ext.rf hq))
  with_reducible refine And.intro ?_ ?_
  omega
  with_reducible refine And.intro ?_ ?_
  omega
  with_reducible refine And.intro ?_ ?_
  omega
  with_reducible refine fX1_giveR (hC.ext (ext_up2 ext.rf hq)) rAt_new k0.1 k0.2 (fun w1 g1 g2 => ?_)
  simp only [eX1_threeSmall_19, kx_l, tl_s]
  with_reducible refine And.intro ?_ ?_
  omega
  with_reducible refine And.intro ?_ ?_
  omega
  with_reducible exact hT k0 hyes w1 g1
set_option maxHeartbeats 4000000 in
theorem fX1_fourSmall {s : AS} {a0 : Int32} {a1 : Int32} {a2 : Int32} {a3 : Int32} {a4 : Int32} (hC : CS g w0 x nA cA lA kn s w) (hX : ¬ (okC a0) → (Q (.inr "java/lang/IndexOutOfBoundsException") w)) (hT : okC a0 → oP (a1.toInt64) (a2.toInt64) (a3.toInt64) (a4.toInt64) → ∀ w', CS g w0 x nA cA lA kn (sMk s a0.toNatClampNeg (a1.toInt64, a2.toInt64, a3.toInt64, a4.toInt64)) w' → Q (.inl (some (.int 1))) w') (hF : okC a0 → ¬ oP (a1.toInt64) (a2.toInt64) (a3.toInt64) (a4.toInt64) → ∀ w', CS g w0 x nA cA lA kn (sRf s) w' → Q (.inl (some (.int (-9)))) w') : WP (MX1_fourSmall g) Q (0, [some (.ref x), some (.int a0), some (.int a1), some (.int a2), some (.int a3), some (.int a4)], [], w, 0, 0) := by
  obtain ⟨gc, gl, ⟨hx, hn, hc, hl, hgc, hgl, hn0, hn1, rx, rn, rc, rl, ⟨d1, d2, d3, d4, d5, d6⟩, ⟨d7, d8, d9, d10, d11, d12⟩⟩, hcd, hpl⟩ := hC.1.opn g
  simp only [eX1_fourSmall_0, eX1_fourSmall_4, wt_nil, wt_int, wt_ref, Nat.zero_add]
  with_reducible refine And.intro ?_ ?_
  omega
  with_reducible refine And.intro ?_ ?_
  omega
  with_reducible refine And.intro ?_ ?_
  omega
  with_reducible refine fX1_needCard (a0 := a0) (fun _ => ?_) (fun k0 => ?_)
  simp only [kx_r]
  with_reducible exact hX (fun h => absurd h (by assumption))
  simp only [kx_l, wt_nil, tl_n, Nat.add_zero]
  with_reducible refine And.intro ?_ ?_
  omega
  with_reducible refine And.intro ?_ ?_
  omega
  with_reducible refine And.intro ?_ ?_
  omega
  with_reducible refine fX0_ofFour (fun hno => ?_) (fun hyes q hq => ?_)
  simp only [eX1_fourSmall_19N, rx, kx_l, go_s, wt_nil, tl_s, true_and, Nat.add_zero]
  with_reducible refine And.intro ?_ ?_
  omega
  with_reducible refine And.intro ?_ ?_
  omega
  with_reducible refine And.intro ?_ ?_
  omega
  with_reducible refine fX1_giveN hC (fun w1 g1 g2 => ?_)
  simp only [eX1_fourSmall_22, kx_l, tl_s]
  with_reducible refine And.intro ?_ ?_
  omega
  with_reducible refine And.intro ?_ ?_
  omega
  with_reducible exact hF k0 hno w1 g1
  simp only [eX1_fourSmall_19R, kx_l, wt_nil, tl_s, Nat.add_zero]
  with_reducible refine And.intro ?_ ?_
  with_reducible exact go_5 (hC.ext (ext_up2 ext.rf hq))
  with_reducible refine And.intro ?_ ?_
  omega
  with_reducible refine And.intro ?_ ?_
  omega
  with_reducible refine And.intro ?_ ?_
  omega
  with_reducible refine fX1_giveR (hC.ext (ext_up2 ext.rf hq)) rAt_new k0.1 k0.2 (fun w1 g1 g2 => ?_)
  simp only [eX1_fourSmall_22, kx_l, tl_s]
  with_reducible refine And.intro ?_ ?_
  omega
  with_reducible refine And.intro ?_ ?_
  omega
  with_reducible exact hT k0 hyes w1 g1
set_option maxHeartbeats 4000000 in
theorem fX1_copyOf {p : Nat} {r : R4} (hp : rAt w p r) (hN : ¬ rOk r → Q (.inl (some .null)) w) (hQ : rOk r → ∀ q, rd g w q = none → Q (.inl (some (.ref q))) (upw w q (.inr (4, [.long r.1, .long r.2.1, .long r.2.2.1, .long r.2.2.2])))) : WP (MX1_copyOf g) Q (0, [some (.ref p)], [], w, 0, 0) := by
  simp only [eX1_copyOf_0, eX1_copyOf_4, eX1_copyOf_8, eX1_copyOf_12]
  with_reducible refine go_F (by assumption) ?_
  simp only [g0, ex1]
  with_reducible refine go_F (by assumption) ?_
  simp only [g0, gS, ex1]
  with_reducible refine go_F (by assumption) ?_
  simp only [g0, gS, ex1]
  with_reducible refine go_F (by assumption) ?_
  simp only [eX1_copyOf_16, wt_nil, g0, gS, ex1, Nat.zero_add]
  with_reducible refine And.intro ?_ ?_
  omega
  with_reducible refine And.intro ?_ ?_
  omega
  with_reducible refine And.intro ?_ ?_
  omega
  with_reducible refine fX0_ofFour (fun hno => ?_) (fun hyes q hq => ?_)
  simp only [eX1_copyOf_19N, kx_l, tl_s]
  with_reducible refine And.intro ?_ ?_
  omega
  with_reducible refine And.intro ?_ ?_
  omega
  with_reducible exact hN hno
  simp only [eX1_copyOf_19, kx_l, tl_s]
  with_reducible refine And.intro ?_ ?_
  omega
  with_reducible refine And.intro ?_ ?_
  omega
  with_reducible exact hQ hyes q hq
set_option maxHeartbeats 4000000 in
theorem fX1_outerOf {p : Nat} {r : R4} (hp : rAt w p r) (hN : ¬ oP r.1 r.1 r.2.2.2 r.2.2.2 → Q (.inl (some .null)) w) (hQ : oP r.1 r.1 r.2.2.2 r.2.2.2 → ∀ q, rd g w q = none → Q (.inl (some (.ref q))) (upw w q (.inr (4, [.long r.1, .long r.1, .long r.2.2.2, .long r.2.2.2])))) : WP (MX1_outerOf g) Q (0, [some (.ref p)], [], w, 0, 0) := by
  simp only [eX1_outerOf_0, eX1_outerOf_4]
  with_reducible refine go_F (by assumption) ?_
  simp only [g0, ex1]
  with_reducible refine go_F (by assumption) ?_
  simp only [eX1_outerOf_8, wt_nil, g0, gS, ex1, Nat.zero_add]
  with_reducible refine And.intro ?_ ?_
  omega
  with_reducible refine And.intro ?_ ?_
  omega
  with_reducible refine And.intro ?_ ?_
  omega
  with_reducible refine fX0_ofTwo (fun hno => ?_) (fun hyes q hq => ?_)
  simp only [eX1_outerOf_11N, kx_l, tl_s]
  with_reducible refine And.intro ?_ ?_
  omega
  with_reducible refine And.intro ?_ ?_
  omega
  with_reducible exact hN hno
  simp only [eX1_outerOf_11, kx_l, tl_s]
  with_reducible refine And.intro ?_ ?_
  omega
  with_reducible refine And.intro ?_ ?_
  omega
  with_reducible exact hQ hyes q hq
set_option maxHeartbeats 4000000 in
theorem fX1_inner {s : AS} {a0 a1 : Int32} (hC : CS g w0 x nA cA lA kn s w) (hX : ¬ (okC a0 ∧ okC a1) → (Q (.inr "java/lang/IndexOutOfBoundsException") w)) (hS : okC a0 → okC a1 → s.2.1 a1.toNatClampNeg = none → (Q (.inr "java/lang/IllegalStateException") w)) (hT : okC a0 → okC a1 → ∀ r, s.2.1 a1.toNatClampNeg = some r → oP r.2.1 r.2.1 r.2.2.1 r.2.2.1 → ∀ w', CS g w0 x nA cA lA kn (sMk s a0.toNatClampNeg (r.2.1, r.2.1, r.2.2.1, r.2.2.1)) w' → Q (.inl (some (.int 1))) w') (hF : okC a0 → okC a1 → ∀ r, s.2.1 a1.toNatClampNeg = some r → ¬ oP r.2.1 r.2.1 r.2.2.1 r.2.2.1 → ∀ w', CS g w0 x nA cA lA kn (sRf s) w' → Q (.inl (some (.int (-9)))) w') : WP (MX1_inner g) Q (0, [some (.ref x), some (.int a0), some (.int a1), none], [], w, 0, 0) := by
  obtain ⟨gc, gl, ⟨hx, hn, hc, hl, hgc, hgl, hn0, hn1, rx, rn, rc, rl, ⟨d1, d2, d3, d4, d5, d6⟩, ⟨d7, d8, d9, d10, d11, d12⟩⟩, hcd, hpl⟩ := hC.1.opn g
  simp only [eX1_inner_0, eX1_inner_4, wt_nil, Nat.zero_add]
  with_reducible refine And.intro ?_ ?_
  omega
  with_reducible refine And.intro ?_ ?_
  omega
  with_reducible refine And.intro ?_ ?_
  omega
  with_reducible refine fX1_needCard (a0 := a0) (fun _ => ?_) (fun k0 => ?_)
  simp only [kx_r]
  with_reducible exact hX (fun h => absurd h.1 (by assumption))
  simp only [rx, kx_l, go_s, wt_nil, tl_n, true_and]
  with_reducible refine And.intro ?_ ?_
  omega
  with_reducible refine And.intro ?_ ?_
  omega
  with_reducible refine And.intro ?_ ?_
  omega
  with_reducible refine fX1_rangeOf hC (fun _ => ?_) (fun k1 e1 => ?_) (fun k1 p r e1 hp => ?_)
  simp only [kx_r]
  with_reducible exact hX (fun h => absurd h.2 (by assumption))
  simp only [kx_r]
  with_reducible exact hS k0 k1 e1
  simp only [eX1_inner_9, eX1_inner_16, kx_l, nl_int, tl_s]
  with_reducible refine go_F hp ?_
  simp only [g0, gS, ex1]
  with_reducible refine go_F hp ?_
  simp only [eX1_inner_20, wt_nil, wt_int, wt_ref, g0, gS, ex1, Nat.add_zero]
  with_reducible refine And.intro ?_ ?_
  omega
  with_reducible refine And.intro ?_ ?_
  omega
  with_reducible refine And.intro ?_ ?_
  omega
  with_reducible refine fX0_ofTwo (fun hno => ?_) (fun hyes q hq => ?_)
  simp only [eX1_inner_23N, rx, kx_l, go_s, wt_nil, tl_s, true_and, Nat.add_zero]
  with_reducible refine And.intro ?_ ?_
  omega
  with_reducible refine And.intro ?_ ?_
  omega
  with_reducible refine And.intro ?_ ?_
  omega
  with_reducible refine fX1_giveN hC (fun w1 g1 g2 => ?_)
  simp only [eX1_inner_26, kx_l, tl_s]
  with_reducible refine And.intro ?_ ?_
  omega
  with_reducible refine And.intro ?_ ?_
  omega
  with_reducible exact hF k0 k1 r e1 hno w1 g1
  simp only [eX1_inner_23R, kx_l, wt_nil, tl_s, Nat.add_zero]
  with_reducible refine And.intro ?_ ?_
  with_reducible exact go_5 (hC.ext (ext_up2 ext.rf hq))
  with_reducible refine And.intro ?_ ?_
  omega
  with_reducible refine And.intro ?_ ?_
  omega
  with_reducible refine And.intro ?_ ?_
  omega
  with_reducible refine fX1_giveR (hC.ext (ext_up2 ext.rf hq)) rAt_new k0.1 k0.2 (fun w1 g1 g2 => ?_)
  simp only [eX1_inner_26, kx_l, tl_s]
  with_reducible refine And.intro ?_ ?_
  omega
  with_reducible refine And.intro ?_ ?_
  omega
  with_reducible exact hT k0 k1 r e1 hyes w1 g1
set_option maxHeartbeats 4000000 in
theorem fX1_shift {s : AS} {a0 a1 : Int32} (hC : CS g w0 x nA cA lA kn s w) (hX : ¬ okC a0 → (Q (.inr "java/lang/IndexOutOfBoundsException") w)) (hS : okC a0 → s.2.1 a0.toNatClampNeg = none → (Q (.inr "java/lang/IllegalStateException") w)) (hT : okC a0 → ∀ r, s.2.1 a0.toNatClampNeg = some r → oP (r.1 + a1.toInt64) (r.2.1 + a1.toInt64) (r.2.2.1 + a1.toInt64) (r.2.2.2 + a1.toInt64) → ∀ w', CS g w0 x nA cA lA kn (sMk s a0.toNatClampNeg (r.1 + a1.toInt64, r.2.1 + a1.toInt64, r.2.2.1 + a1.toInt64, r.2.2.2 + a1.toInt64)) w' → Q (.inl (some (.int 1))) w') (hF : okC a0 → ∀ r, s.2.1 a0.toNatClampNeg = some r → ¬ oP (r.1 + a1.toInt64) (r.2.1 + a1.toInt64) (r.2.2.1 + a1.toInt64) (r.2.2.2 + a1.toInt64) → ∀ w', CS g w0 x nA cA lA kn (sRf s) w' → Q (.inl (some (.int (-9)))) w') : WP (MX1_shift g) Q (0, [some (.ref x), some (.int a0), some (.int a1), none], [], w, 0, 0) := by
  obtain ⟨gc, gl, ⟨hx, hn, hc, hl, hgc, hgl, hn0, hn1, rx, rn, rc, rl, ⟨d1, d2, d3, d4, d5, d6⟩, ⟨d7, d8, d9, d10, d11, d12⟩⟩, hcd, hpl⟩ := hC.1.opn g
  simp only [eX1_shift_0, rx, go_s, wt_nil, true_and, Nat.zero_add]
  with_reducible refine And.intro ?_ ?_
  omega
  with_reducible refine And.intro ?_ ?_
  omega
  with_reducible refine And.intro ?_ ?_
  omega
  with_reducible refine fX1_rangeOf hC (fun _ => ?_) (fun k0 e1 => ?_) (fun k0 p r e1 hp => ?_)
  simp only [kx_r]
  with_reducible exact hX (by assumption)
  simp only [kx_r]
  with_reducible exact hS k0 e1
  simp only [eX1_shift_5, eX1_shift_12, kx_l, nl_int, tl_s]
  with_reducible refine go_F hp ?_
  simp only [eX1_shift_14, eX1_shift_19, g0, ex1]
  with_reducible refine go_F hp ?_
  simp only [eX1_shift_21, eX1_shift_26, g0, gS, ex1]
  with_reducible refine go_F hp ?_
  simp only [eX1_shift_28, eX1_shift_33, g0, gS, ex1]
  with_reducible refine go_F hp ?_
  simp only [eX1_shift_35, wt_nil, wt_int, wt_ref, g0, gS, ex1, Nat.add_zero]
  with_reducible refine And.intro ?_ ?_
  omega
  with_reducible refine And.intro ?_ ?_
  omega
  with_reducible refine And.intro ?_ ?_
  omega
  with_reducible refine fX0_ofFour (fun hno => ?_) (fun hyes q hq => ?_)
  simp only [eX1_shift_39N, rx, kx_l, go_s, wt_nil, tl_s, true_and, Nat.add_zero]
  with_reducible refine And.intro ?_ ?_
  omega
  with_reducible refine And.intro ?_ ?_
  omega
  with_reducible refine And.intro ?_ ?_
  omega
  with_reducible refine fX1_giveN hC (fun w1 g1 g2 => ?_)
  simp only [eX1_shift_42, kx_l, tl_s]
  with_reducible refine And.intro ?_ ?_
  omega
  with_reducible refine And.intro ?_ ?_
  omega
  with_reducible exact hF k0 r e1 hno w1 g1
  simp only [eX1_shift_39R, kx_l, wt_nil, tl_s, Nat.add_zero]
  with_reducible refine And.intro ?_ ?_
  with_reducible exact go_5 (hC.ext (ext_up2 ext.rf hq))
  with_reducible refine And.intro ?_ ?_
  omega
  with_reducible refine And.intro ?_ ?_
  omega
  with_reducible refine And.intro ?_ ?_
  omega
  with_reducible refine fX1_giveR (hC.ext (ext_up2 ext.rf hq)) rAt_new k0.1 k0.2 (fun w1 g1 g2 => ?_)
  simp only [eX1_shift_42, kx_l, tl_s]
  with_reducible refine And.intro ?_ ?_
  omega
  with_reducible refine And.intro ?_ ?_
  omega
  with_reducible exact hT k0 r e1 hyes w1 g1
set_option maxHeartbeats 4000000 in
theorem fX1_span {s : AS} {a0 a1 a2 : Int32} (hC : CS g w0 x nA cA lA kn s w) (hX : ¬ (okC a0 ∧ okC a1 ∧ okC a2) → (Q (.inr "java/lang/IndexOutOfBoundsException") w)) (hS : okC a0 → okC a1 → okC a2 → (s.2.1 a1.toNatClampNeg = none ∨ s.2.1 a2.toNatClampNeg = none) → (Q (.inr "java/lang/IllegalStateException") w)) (hT : okC a0 → okC a1 → okC a2 → ∀ r q, s.2.1 a1.toNatClampNeg = some r → s.2.1 a2.toNatClampNeg = some q → oP r.1 r.2.1 q.2.2.1 q.2.2.2 → ∀ w', CS g w0 x nA cA lA kn (sMk s a0.toNatClampNeg (r.1, r.2.1, q.2.2.1, q.2.2.2)) w' → Q (.inl (some (.int 1))) w') (hF : okC a0 → okC a1 → okC a2 → ∀ r q, s.2.1 a1.toNatClampNeg = some r → s.2.1 a2.toNatClampNeg = some q → ¬ oP r.1 r.2.1 q.2.2.1 q.2.2.2 → ∀ w', CS g w0 x nA cA lA kn (sRf s) w' → Q (.inl (some (.int (-9)))) w') : WP (MX1_span g) Q (0, [some (.ref x), some (.int a0), some (.int a1), some (.int a2), none, none], [], w, 0, 0) := by
  obtain ⟨gc, gl, ⟨hx, hn, hc, hl, hgc, hgl, hn0, hn1, rx, rn, rc, rl, ⟨d1, d2, d3, d4, d5, d6⟩, ⟨d7, d8, d9, d10, d11, d12⟩⟩, hcd, hpl⟩ := hC.1.opn g
  simp only [eX1_span_0, eX1_span_4, eX1_span_8, eX1_span_12, wt_nil, Nat.zero_add]
  with_reducible refine And.intro ?_ ?_
  omega
  with_reducible refine And.intro ?_ ?_
  omega
  with_reducible refine And.intro ?_ ?_
  omega
  with_reducible refine fX1_needCard (a0 := a0) (fun _ => ?_) (fun k0 => ?_)
  simp only [kx_r]
  with_reducible exact hX (fun h => absurd h.1 (by assumption))
  simp only [kx_l, wt_nil, tl_n]
  with_reducible refine And.intro ?_ ?_
  omega
  with_reducible refine And.intro ?_ ?_
  omega
  with_reducible refine And.intro ?_ ?_
  omega
  with_reducible refine fX1_needCard (a0 := a1) (fun _ => ?_) (fun k1 => ?_)
  simp only [kx_r]
  with_reducible exact hX (fun h => absurd h.2.1 (by assumption))
  simp only [kx_l, wt_nil, tl_n]
  with_reducible refine And.intro ?_ ?_
  omega
  with_reducible refine And.intro ?_ ?_
  omega
  with_reducible refine And.intro ?_ ?_
  omega
  with_reducible refine fX1_needCard (a0 := a2) (fun _ => ?_) (fun k2 => ?_)
  simp only [kx_r]
  with_reducible exact hX (fun h => absurd h.2.2 (by assumption))
  simp only [rx, kx_l, go_s, wt_nil, tl_n, true_and]
  with_reducible refine And.intro ?_ ?_
  omega
  with_reducible refine And.intro ?_ ?_
  omega
  with_reducible refine And.intro ?_ ?_
  omega
  with_reducible refine fX1_rangeOf (a0 := a1) hC (fun _ => ?_) (fun _ e1 => ?_) (fun _ p r e1 hp => ?_)
  simp only [kx_r]
  with_reducible exact hX (fun h => absurd h.2.1 (by assumption))
  simp only [kx_r]
  with_reducible exact hS k0 k1 k2 (Or.inl e1)
  simp only [eX1_span_17, eX1_span_20, rx, kx_l, go_s, wt_nil, nl_int, tl_s, true_and]
  with_reducible refine And.intro ?_ ?_
  omega
  with_reducible refine And.intro ?_ ?_
  omega
  with_reducible refine And.intro ?_ ?_
  omega
  with_reducible refine fX1_rangeOf (a0 := a2) hC (fun _ => ?_) (fun _ e2 => ?_) (fun _ p2 r2 e2 hp2 => ?_)
  simp only [kx_r]
  with_reducible exact hX (fun h => absurd h.2.2 (by assumption))
  simp only [kx_r]
  with_reducible exact hS k0 k1 k2 (Or.inr e2)
  simp only [eX1_span_24, eX1_span_28, eX1_span_33, eX1_span_38, eX1_span_43, kx_l, nl_ref, tl_s]
  with_reducible refine go_F hp ?_
  simp only [g0, ex1]
  with_reducible refine go_F hp ?_
  simp only [g0, gS, ex1]
  with_reducible refine go_F hp2 ?_
  simp only [g0, gS, ex1]
  with_reducible refine go_F hp2 ?_
  simp only [eX1_span_48, wt_nil, wt_int, wt_ref, g0, gS, ex1, Nat.add_zero]
  with_reducible refine And.intro ?_ ?_
  omega
  with_reducible refine And.intro ?_ ?_
  omega
  with_reducible refine And.intro ?_ ?_
  omega
  with_reducible refine fX0_ofFour (fun hno => ?_) (fun hyes q hq => ?_)
  simp only [eX1_span_51N, rx, kx_l, go_s, wt_nil, tl_s, true_and, Nat.add_zero]
  with_reducible refine And.intro ?_ ?_
  omega
  with_reducible refine And.intro ?_ ?_
  omega
  with_reducible refine And.intro ?_ ?_
  omega
  with_reducible refine fX1_giveN hC (fun w1 g1 g2 => ?_)
  simp only [eX1_span_54, kx_l, tl_s]
  with_reducible refine And.intro ?_ ?_
  omega
  with_reducible refine And.intro ?_ ?_
  omega
  with_reducible exact hF k0 k1 k2 r r2 e1 e2 hno w1 g1
  simp only [eX1_span_51R, kx_l, wt_nil, tl_s, Nat.add_zero]
  with_reducible refine And.intro ?_ ?_
  with_reducible exact go_5 (hC.ext (ext_up2 ext.rf hq))
  with_reducible refine And.intro ?_ ?_
  omega
  with_reducible refine And.intro ?_ ?_
  omega
  with_reducible refine And.intro ?_ ?_
  omega
  with_reducible refine fX1_giveR (hC.ext (ext_up2 ext.rf hq)) rAt_new k0.1 k0.2 (fun w1 g1 g2 => ?_)
  simp only [eX1_span_54, kx_l, tl_s]
  with_reducible refine And.intro ?_ ?_
  omega
  with_reducible refine And.intro ?_ ?_
  omega
  with_reducible exact hT k0 k1 k2 r r2 e1 e2 hyes w1 g1
end
end
