section
section
variable {g : RO} {Q : Ot → Hw → Prop} {w0 w : Hw} {x nA cA lA : Nat} {kn : Int32}
abbrev okN (a : Int32) : Prop := ¬ a < 0 ∧ a < 8
abbrev okC (a : Int32) : Prop := ¬ a < 0 ∧ a < 6
abbrev okW (a m : Int32) : Prop := ¬ a < 0 ∧ ¬ m < a
def hiV (a : Int64) : Int32 := (a >>> ((32 : Int32).toInt64 &&& 63)).toInt32
def loV (a : Int64) : Int32 := a.toInt32
def hfV (a : Int64) (h : Int32) : Int32 := if h = 0 then loV a else hiV a
def stV (h l : Int32) : Int64 := (h.toInt64 <<< ((32 : Int32).toInt64 &&& 63)) ||| (l.toInt64 &&& 4294967295)
def frV (a : Int32) : Int64 := if a = 0 then -9223372036854775808 else if a = 1 then 9223372036854775807 else if a = 2 then -2147483648 else 2147483647
theorem frV_d {a : Int32} (h : a.toInt < 0 ∨ 2 < a.toInt) : frV a = 2147483647 := by
  unfold frV
  rw [if_neg, if_neg, if_neg]
  all_goals
    rintro rfl
    revert h
    decide
theorem hfV_n {a : Int64} {h : Int32} (k : ¬ h = 0) : hfV a h = hiV a := if_neg k
set_option maxHeartbeats 4000000 in
theorem fX1_needNumber {a0 : Int32} (hX : ¬ okN a0 → (Q (.inr "java/lang/IndexOutOfBoundsException") w)) (hQ : okN a0 → Q (.inl none) w) : WP (MX1_needNumber g) Q (0, [some (.int a0)], [], w, 0, 0) := by
  simp only [eX1_needNumber_0, eX1_needNumber_4, eX1_needNumber_10, eX1_needNumber_20, wt_nil, Nat.zero_add]
  split
  with_reducible refine And.intro ?_ ?_
  omega
  with_reducible refine And.intro ?_ ?_
  omega
  with_reducible refine And.intro ?_ ?_
  omega
  with_reducible refine And.intro ?_ ?_
  omega
  with_reducible exact hX (fun h => absurd (by assumption) h.1)
  split
  with_reducible refine And.intro ?_ ?_
  omega
  with_reducible refine And.intro ?_ ?_
  omega
  with_reducible exact hQ ⟨by assumption, by assumption⟩
  with_reducible refine And.intro ?_ ?_
  omega
  with_reducible refine And.intro ?_ ?_
  omega
  with_reducible refine And.intro ?_ ?_
  omega
  with_reducible refine And.intro ?_ ?_
  omega
  with_reducible exact hX (fun h => absurd h.2 (by assumption))
set_option maxHeartbeats 4000000 in
theorem fX1_needCard {a0 : Int32} (hX : ¬ okC a0 → (Q (.inr "java/lang/IndexOutOfBoundsException") w)) (hQ : okC a0 → Q (.inl none) w) : WP (MX1_needCard g) Q (0, [some (.int a0)], [], w, 0, 0) := by
  simp only [eX1_needCard_0, eX1_needCard_4, eX1_needCard_10, eX1_needCard_20, wt_nil, Nat.zero_add]
  split
  with_reducible refine And.intro ?_ ?_
  omega
  with_reducible refine And.intro ?_ ?_
  omega
  with_reducible refine And.intro ?_ ?_
  omega
  with_reducible refine And.intro ?_ ?_
  omega
  with_reducible exact hX (fun h => absurd (by assumption) h.1)
  split
  with_reducible refine And.intro ?_ ?_
  omega
  with_reducible refine And.intro ?_ ?_
  omega
  with_reducible exact hQ ⟨by assumption, by assumption⟩
  with_reducible refine And.intro ?_ ?_
  omega
  with_reducible refine And.intro ?_ ?_
  omega
  with_reducible refine And.intro ?_ ?_
  omega
  with_reducible refine And.intro ?_ ?_
  omega
  with_reducible exact hX (fun h => absurd h.2 (by assumption))
set_option maxHeartbeats 4000000 in
theorem fX1_needChoice {a0 a1 : Int32} (hX : ¬ okW a0 a1 → (Q (.inr "java/lang/IllegalArgumentException") w)) (hQ : okW a0 a1 → Q (.inl none) w) : WP (MX1_needChoice g) Q (0, [some (.int a0), some (.int a1)], [], w, 0, 0) := by
  simp only [eX1_needChoice_0, eX1_needChoice_4, eX1_needChoice_9, eX1_needChoice_19, ite_le, wt_nil, Nat.zero_add]
  split
  with_reducible refine And.intro ?_ ?_
  omega
  with_reducible refine And.intro ?_ ?_
  omega
  with_reducible refine And.intro ?_ ?_
  omega
  with_reducible refine And.intro ?_ ?_
  omega
  with_reducible exact hX (fun h => absurd (by assumption) h.1)
  split
  with_reducible refine And.intro ?_ ?_
  omega
  with_reducible refine And.intro ?_ ?_
  omega
  with_reducible refine And.intro ?_ ?_
  omega
  with_reducible refine And.intro ?_ ?_
  omega
  with_reducible exact hX (fun h => absurd (by assumption) h.2)
  with_reducible refine And.intro ?_ ?_
  omega
  with_reducible refine And.intro ?_ ?_
  omega
  with_reducible exact hQ ⟨by assumption, by assumption⟩
set_option maxHeartbeats 4000000 in
theorem fX1_highOf {a0 : Int64}  (hQ : Q (.inl (some (.int (hiV a0)))) w) : WP (MX1_highOf g) Q (0, [some (.long a0), none], [], w, 0, 0) := by
  simp only [eX1_highOf_0]
  with_reducible refine And.intro ?_ ?_
  omega
  with_reducible refine And.intro ?_ ?_
  omega
  ((with_reducible refine isQ (Q := Q) ?_); exact hQ)
set_option maxHeartbeats 4000000 in
theorem fX1_lowOf {a0 : Int64}  (hQ : Q (.inl (some (.int (loV a0)))) w) : WP (MX1_lowOf g) Q (0, [some (.long a0), none], [], w, 0, 0) := by
  simp only [eX1_lowOf_0]
  with_reducible refine And.intro ?_ ?_
  omega
  with_reducible refine And.intro ?_ ?_
  omega
  ((with_reducible refine isQ (Q := Q) ?_); exact hQ)
set_option maxHeartbeats 4000000 in
theorem fX1_halfOf {a0 : Int64} {a1 : Int32}  (hQ : Q (.inl (some (.int (hfV a0 a1)))) w) : WP (MX1_halfOf g) Q (0, [some (.long a0), none, some (.int a1)], [], w, 0, 0) := by
  simp only [eX1_halfOf_0, eX1_halfOf_4, eX1_halfOf_8, eX1_halfOf_11, wt_nil, Nat.add_zero]
  split
  with_reducible refine And.intro ?_ ?_
  omega
  with_reducible refine And.intro ?_ ?_
  omega
  with_reducible refine And.intro ?_ ?_
  omega
  with_reducible refine fX1_lowOf ?_
  simp only [eX1_halfOf_15, kx_l, tl_s]
  with_reducible refine And.intro ?_ ?_
  omega
  with_reducible refine And.intro ?_ ?_
  omega
  (subst_vars; exact hQ)
  with_reducible refine And.intro ?_ ?_
  omega
  with_reducible refine And.intro ?_ ?_
  omega
  with_reducible refine And.intro ?_ ?_
  omega
  with_reducible refine fX1_highOf ?_
  simp only [eX1_halfOf_15, kx_l, tl_s]
  with_reducible refine And.intro ?_ ?_
  omega
  with_reducible refine And.intro ?_ ?_
  omega
  (rw [hfV_n (by assumption)] at hQ; exact hQ)
set_option maxHeartbeats 4000000 in
theorem fX1_isSmallNumber {a0 : Int64}  (hT : (-2147483648 ≤ a0.toInt ∧ a0.toInt ≤ 2147483647) → Q (.inl (some (.int 1))) w) (hF : ¬ (-2147483648 ≤ a0.toInt ∧ a0.toInt ≤ 2147483647) → Q (.inl (some (.int 0))) w) : WP (MX1_isSmallNumber g) Q (0, [some (.long a0), none], [], w, 0, 0) := by
  simp only [eX1_isSmallNumber_0, eX1_isSmallNumber_8, eX1_isSmallNumber_16, eX1_isSmallNumber_20, eX1_isSmallNumber_21, lgp, lgn, lmi, lmx, nb_0, nb_1, true_and]
  split
  with_reducible refine And.intro ?_ ?_
  omega
  with_reducible refine And.intro ?_ ?_
  omega
  with_reducible exact hF (by omega)
  split
  with_reducible refine And.intro ?_ ?_
  omega
  with_reducible refine And.intro ?_ ?_
  omega
  with_reducible exact hF (by omega)
  with_reducible refine And.intro ?_ ?_
  omega
  with_reducible refine And.intro ?_ ?_
  omega
  with_reducible exact hT (by omega)
set_option maxHeartbeats 4000000 in
theorem fX1_asNumber {a0 : Int32} (h0 : a0 = 0 ∨ a0 = 1) (hQ : Q (.inl (some (.int a0))) w) : WP (MX1_asNumber g) Q (0, [some (.int a0)], [], w, 0, 0) := by
  rcases h0 with rfl | rfl
  · skip
    simp only [eX1_asNumber_0, eX1_asNumber_4, eX1_asNumber_8, eX1_asNumber_9, if_true]
    with_reducible refine And.intro ?_ ?_
    omega
    with_reducible refine And.intro ?_ ?_
    omega
    with_reducible assumption
  · skip
    simp only [eX1_asNumber_0, eX1_asNumber_4, eX1_asNumber_8, eX1_asNumber_9, i10, if_false]
    with_reducible refine And.intro ?_ ?_
    omega
    with_reducible refine And.intro ?_ ?_
    omega
    with_reducible assumption
set_option maxHeartbeats 4000000 in
theorem fX1_farNumber {a0 : Int32} (hQ : Q (.inl (some (.long (frV a0)))) w) : WP (MX1_farNumber g) Q (0, [some (.int a0)], [], w, 0, 0) := by
  rcases sw02 a0 with rfl | rfl | rfl | hsw
  · skip
    simp only [eX1_farNumber_0, eX1_farNumber_1_0, eX1_farNumber_28]
    with_reducible refine And.intro ?_ ?_
    omega
    with_reducible refine And.intro ?_ ?_
    omega
    ((with_reducible refine isQ (Q := Q) ?_); exact hQ)
  · skip
    simp only [eX1_farNumber_0, eX1_farNumber_1_1, eX1_farNumber_32]
    with_reducible refine And.intro ?_ ?_
    omega
    with_reducible refine And.intro ?_ ?_
    omega
    ((with_reducible refine isQ (Q := Q) ?_); exact hQ)
  · skip
    simp only [eX1_farNumber_0, eX1_farNumber_1_2, eX1_farNumber_36]
    with_reducible refine And.intro ?_ ?_
    omega
    with_reducible refine And.intro ?_ ?_
    omega
    ((with_reducible refine isQ (Q := Q) ?_); exact hQ)
  · rw [frV_d hsw] at hQ
    simp only [eX1_farNumber_0, eX1_farNumber_40, eX1_farNumber_1_d hsw]
    with_reducible refine And.intro ?_ ?_
    omega
    with_reducible refine And.intro ?_ ?_
    omega
    with_reducible assumption
set_option maxHeartbeats 4000000 in
theorem fX1_putNumber {s : AS} {a0 : Int32} {a1 : Int64} (hC : CS g w0 x nA cA lA kn s w) (k0 : ¬ a0 < 0) (k1 : a0 < 8) (hQ : ∀ w', CS g w0 x nA cA lA kn (sN s (vp_updL s.1 a0.toNatClampNeg a1)) w' → Q (.inl (some (.int (loV a1)))) w') : WP (MX1_putNumber g) Q (0, [some (.ref x), some (.int a0), some (.long a1), none], [], w, 0, 0) := by
  obtain ⟨gc, gl, ⟨hx, hn, hc, hl, hgc, hgl, hn0, hn1, rx, rn, rc, rl, ⟨d1, d2, d3, d4, d5, d6⟩, ⟨d7, d8, d9, d10, d11, d12⟩⟩, hcd, hpl⟩ := hC.1.opn g
  simp only [eX1_putNumber_0, eX1_putNumber_4, eX1_putNumber_7, rx, hn, go_s, gl_s, wt_nil, g0, ex1, Nat.add_zero]
  with_reducible refine And.intro ?_ ?_
  with_reducible exact vpi8 (by assumption) (by assumption)
  with_reducible refine And.intro ?_ ?_
  omega
  with_reducible refine And.intro ?_ ?_
  omega
  with_reducible refine And.intro ?_ ?_
  omega
  with_reducible refine fX1_lowOf ?_
  simp only [eX1_putNumber_11, kx_l, tl_s]
  with_reducible refine And.intro ?_ ?_
  omega
  with_reducible refine And.intro ?_ ?_
  omega
  with_reducible exact hQ _ (hC.num _)
set_option maxHeartbeats 4000000 in
theorem fX1_set {s : AS} {a0 a1 a2 : Int32} (hC : CS g w0 x nA cA lA kn s w) (hX : ¬ okN a0 → (Q (.inr "java/lang/IndexOutOfBoundsException") w)) (hQ : okN a0 → ∀ w', CS g w0 x nA cA lA kn (sN s (vp_updL s.1 a0.toNatClampNeg (stV a1 a2))) w' → Q (.inl (some (.int (hiV (s.1 a0.toNatClampNeg))))) w') : WP (MX1_set g) Q (0, [some (.ref x), some (.int a0), some (.int a1), some (.int a2), none], [], w, 0, 0) := by
  obtain ⟨gc, gl, ⟨hx, hn, hc, hl, hgc, hgl, hn0, hn1, rx, rn, rc, rl, ⟨d1, d2, d3, d4, d5, d6⟩, ⟨d7, d8, d9, d10, d11, d12⟩⟩, hcd, hpl⟩ := hC.1.opn g
  simp only [eX1_set_0, eX1_set_4, eX1_set_8, wt_nil, Nat.zero_add]
  with_reducible refine And.intro ?_ ?_
  omega
  with_reducible refine And.intro ?_ ?_
  omega
  with_reducible refine And.intro ?_ ?_
  omega
  with_reducible refine fX1_needNumber (fun _ => ?_) (fun hok => ?_)
  simp only [kx_r]
  with_reducible exact hX (by assumption)
  simp only [eX1_set_9, eX1_set_10, rx, rn, kx_l, go_s, gl_s, wt_nil, tl_n, g0, ex1, Nat.add_zero]
  with_reducible refine And.intro ?_ ?_
  with_reducible exact vpi8 hok.1 hok.2
  with_reducible refine And.intro ?_ ?_
  omega
  with_reducible refine And.intro ?_ ?_
  omega
  with_reducible refine And.intro ?_ ?_
  omega
  with_reducible refine fX1_highOf ?_
  simp only [eX1_set_13, eX1_set_19, eX1_set_33, rx, hn, kx_l, go_s, gl_s, nl_int, tl_s, g0, ex1]
  with_reducible refine And.intro ?_ ?_
  with_reducible exact vpi8 hok.1 hok.2
  with_reducible refine And.intro ?_ ?_
  omega
  with_reducible refine And.intro ?_ ?_
  omega
  with_reducible exact hQ hok _ (hC.num _)
set_option maxHeartbeats 4000000 in
theorem fX1_setSmall {s : AS} {a0 a1 : Int32} (hC : CS g w0 x nA cA lA kn s w) (hX : ¬ okN a0 → (Q (.inr "java/lang/IndexOutOfBoundsException") w)) (hQ : okN a0 → ∀ w', CS g w0 x nA cA lA kn (sN s (vp_updL s.1 a0.toNatClampNeg a1.toInt64)) w' → Q (.inl (some (.int (loV (s.1 a0.toNatClampNeg))))) w') : WP (MX1_setSmall g) Q (0, [some (.ref x), some (.int a0), some (.int a1), none], [], w, 0, 0) := by
  obtain ⟨gc, gl, ⟨hx, hn, hc, hl, hgc, hgl, hn0, hn1, rx, rn, rc, rl, ⟨d1, d2, d3, d4, d5, d6⟩, ⟨d7, d8, d9, d10, d11, d12⟩⟩, hcd, hpl⟩ := hC.1.opn g
  simp only [eX1_setSmall_0, eX1_setSmall_4, eX1_setSmall_8, wt_nil, Nat.zero_add]
  with_reducible refine And.intro ?_ ?_
  omega
  with_reducible refine And.intro ?_ ?_
  omega
  with_reducible refine And.intro ?_ ?_
  omega
  with_reducible refine fX1_needNumber (fun _ => ?_) (fun hok => ?_)
  simp only [kx_r]
  with_reducible exact hX (by assumption)
  simp only [eX1_setSmall_9, eX1_setSmall_10, rx, rn, kx_l, go_s, gl_s, wt_nil, tl_n, g0, ex1, Nat.add_zero]
  with_reducible refine And.intro ?_ ?_
  with_reducible exact vpi8 hok.1 hok.2
  with_reducible refine And.intro ?_ ?_
  omega
  with_reducible refine And.intro ?_ ?_
  omega
  with_reducible refine And.intro ?_ ?_
  omega
  with_reducible refine fX1_lowOf ?_
  simp only [eX1_setSmall_13, eX1_setSmall_18, eX1_setSmall_22, rx, hn, kx_l, go_s, gl_s, nl_int, tl_s, g0, ex1]
  with_reducible refine And.intro ?_ ?_
  with_reducible exact vpi8 hok.1 hok.2
  with_reducible refine And.intro ?_ ?_
  omega
  with_reducible refine And.intro ?_ ?_
  omega
  with_reducible exact hQ hok _ (hC.num _)
end
end
