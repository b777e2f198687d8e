section
section
variable {g : RO} {Q : Ot → Hw → Prop} {w0 w : Hw} {x nA cA lA : Nat} {kn : Int32}
theorem CS.opnP {s : AS} {n : Int32} {F : Nat → R4} (h : CS g w0 x nA cA lA kn (sP_ s n F) w) : ∃ gc gl : Nat → Option Nat, RO5 g w x nA cA lA n s.2.2.2.2.1 kn s.2.2.2.2.2 s.1 gc gl ∧ (∀ i, i < 6 → cM w (gc i) (s.2.1 i)) ∧ ∀ i : Nat, (i : Int) < n.toInt → ∃ b, gl i = some b ∧ rAt w b (F i) := h.1.opn g
theorem CS.pcg {s : AS} {n : Int32} {F G : Nat → R4} (h : CS g w0 x nA cA lA kn (sP_ s n F) w) (e : ∀ i : Nat, (i : Int) < n.toInt → F i = G i) : CS g w0 x nA cA lA kn (sP_ s n G) w := by
  obtain ⟨⟨gc, gl, h1, k1, k2⟩, hf⟩ := h
  exact ⟨⟨gc, gl, h1, k1, fun i hi => by
    obtain ⟨b, z1, z2⟩ := k2 i hi
    have z3 : rAt w b (F i) := z2
    rw [e i hi] at z3
    exact ⟨b, z1, z3⟩⟩, hf⟩
/-- the laid row gets another content -/
theorem CS.ll {s : AS} {gl gl' : Nat → Option Nat} {F : Nat → R4} (h : CS g w0 x nA cA lA kn s w) (hl : w lA = some (.inl (4, 12, qc gl))) (h6 : ∀ i c, gl' i = some c → isR w c) (k : ∀ i : Nat, (i : Int) < s.2.2.1.toInt → ∃ c, gl' i = some c ∧ rAt w c (F i)) : CS g w0 x nA cA lA kn (sP_ s s.2.2.1 F) (upw w lA (.inl (4, 12, qc gl'))) := by
  obtain ⟨gc, gl0, ⟨h1, h2, h3, h4, h5, -, h7, h8, -, -, -, -, ⟨d1, d2, d3, d4, d5, d6⟩, ⟨d7, d8, d9, d10, d11, d12⟩⟩, k1, k2⟩ := h.1.opn (fun _ => .null, fun _ => none)
  exact ⟨⟨gc, gl', ⟨by rw [upw_n d3]; exact h1, by rw [upw_n d6]; exact h2, by rw [upw_n d9]; exact h3, upw_s _ _ _, fun i b z => isR_up2 (h5 i b z) hl (by simp), fun i b z => isR_up2 (h6 i b z) hl (by simp), h7, h8⟩, fun i hi => (k1 i hi).mp fun b r hb => rAt_up2 hb hl (by simp), fun i hi => (k i hi).imp fun b z => ⟨z.1, rAt_up2 z.2 hl (by simp)⟩⟩, h.2.up hl (Or.inr rfl)⟩
/-- the laid row and how many are laid -/
theorem CS.xl {s : AS} {gl gl' : Nat → Option Nat} {F : Nat → R4} {n' : Int32} (h : CS g w0 x nA cA lA kn s w) (hl : w lA = some (.inl (4, 12, qc gl))) (h6 : ∀ i c, gl' i = some c → isR w c) (h7 : ¬ n' < 0) (h8 : ¬ 12 < n') (k : ∀ i : Nat, (i : Int) < n'.toInt → ∃ c, gl' i = some c ∧ rAt w c (F i)) : CS g w0 x nA cA lA kn (sP_ s n' F) (upw (upw w x (.inr (5, [.ref nA, .ref cA, .ref lA, .int n', .int s.2.2.2.2.1, .int kn, .int s.2.2.2.2.2]))) lA (.inl (4, 12, qc gl'))) := by
  obtain ⟨gc, gl0, ⟨h1, h2, h3, h4, h5, -, -, -, -, -, -, -, ⟨d1, d2, d3, d4, d5, d6⟩, ⟨d7, d8, d9, d10, d11, d12⟩⟩, k1, k2⟩ := h.1.opn (fun _ => .null, fun _ => none)
  have hl' : upw w x (.inr (5, [.ref nA, .ref cA, .ref lA, .int n', .int s.2.2.2.2.1, .int kn, .int s.2.2.2.2.2])) lA = some (.inl (4, 12, qc gl)) := by rw [upw_n d10]; exact hl
  have R : ∀ c q, rAt w c q → rAt (upw (upw w x (.inr (5, [.ref nA, .ref cA, .ref lA, .int n', .int s.2.2.2.2.1, .int kn, .int s.2.2.2.2.2]))) lA (.inl (4, 12, qc gl'))) c q := fun c q hc => rAt_up2 (rAt_up2 hc h1 (by simp)) hl' (by simp)
  have RR : ∀ c, isR w c → isR (upw (upw w x (.inr (5, [.ref nA, .ref cA, .ref lA, .int n', .int s.2.2.2.2.1, .int kn, .int s.2.2.2.2.2]))) lA (.inl (4, 12, qc gl'))) c := fun c hc => isR_up2 (isR_up2 hc h1 (by simp)) hl' (by simp)
  exact ⟨⟨gc, gl', ⟨by rw [upw_n d3]; exact upw_s _ _ _, by rw [upw_n d6, upw_n d4]; exact h2, by rw [upw_n d9, upw_n d7]; exact h3, upw_s _ _ _, fun i b z => RR b (h5 i b z), fun i b z => RR b (h6 i b z), h7, h8⟩, fun i hi => (k1 i hi).mp R, fun i hi => (k i hi).imp fun b z => ⟨z.1, R _ _ z.2⟩⟩, (h.2.up h1 (Or.inr rfl)).up hl' (Or.inr rfl)⟩
theorem CS.laid {s : AS} {gl : Nat → Option Nat} {b : Nat} {r : R4} (h : CS g w0 x nA cA lA kn s w) (hl : w lA = some (.inl (4, 12, qc gl))) (hgl : ∀ i c, gl i = some c → isR w c) (k : ∀ i : Nat, (i : Int) < s.2.2.1.toInt → ∃ c, gl i = some c ∧ rAt w c (s.2.2.2.1 i)) (hb : rAt w b r) (j : Nat) : CS g w0 x nA cA lA kn (sP_ s s.2.2.1 (va_up s.2.2.2.1 j r)) (upw w lA (.inl (4, 12, qc (va_up gl j (some b))))) := by
  refine h.ll hl (up_ok hgl fun c e => by cases e; exact hb.isR) fun i hi => ?_
  unfold va_up
  by_cases e : i = j
  · rw [if_pos e, if_pos e]
    exact ⟨b, rfl, hb⟩
  · rw [if_neg e, if_neg e]
    exact k i hi
/-- the pile with the gap at p closed up to e -/
def shf (f : Nat → R4) (p e : Nat) : Nat → R4 := fun i => if p ≤ i ∧ i < e then f (i + 1) else f i
/-- the pile without the place p -/
def rmv (f : Nat → R4) (p : Nat) : Nat → R4 := fun i => if i < p then f i else f (i + 1)
theorem shf_0 {f : Nat → R4} {p : Nat} : shf f p p = f := funext fun i => if_neg (by omega)
theorem shf_s {f : Nat → R4} {p e : Nat} (h : p ≤ e) : va_up (shf f p e) e (shf f p e (e + 1)) = shf f p (e + 1) := funext fun i => by
  unfold va_up shf
  by_cases k : i = e
  · subst k
    rw [if_pos rfl, if_neg (by omega), if_pos (by omega)]
  · rw [if_neg k]
    by_cases z : p ≤ i ∧ i < e
    · rw [if_pos z, if_pos (by omega)]
    · rw [if_neg z, if_neg (by omega)]
theorem shf_r {f : Nat → R4} {p e i : Nat} (h : i < e) : shf f p e i = rmv f p i := by
  unfold shf rmv
  by_cases z : i < p
  · rw [if_neg (by omega), if_pos z]
  · rw [if_pos (by omega), if_neg z]
theorem CS.gapS {s : AS} {n : Int32} {f : Nat → R4} {p e b : Nat} {gl : Nat → Option Nat} (h : CS g w0 x nA cA lA kn (sP_ s n (shf f p e)) w) (hl : w lA = some (.inl (4, 12, qc gl))) (hgl : ∀ i c, gl i = some c → isR w c) (k : ∀ i : Nat, (i : Int) < n.toInt → ∃ c, gl i = some c ∧ rAt w c (shf f p e i)) (hb : rAt w b (shf f p e (e + 1))) (hpe : p ≤ e) : CS g w0 x nA cA lA kn (sP_ s n (shf f p (e + 1))) (upw w lA (.inl (4, 12, qc (va_up gl e (some b))))) := by
  have z : CS g w0 x nA cA lA kn (sP_ s n (va_up (shf f p e) e (shf f p e (e + 1)))) (upw w lA (.inl (4, 12, qc (va_up gl e (some b))))) := CS.laid h hl hgl k hb e
  rw [shf_s hpe] at z
  exact z
theorem CS.gapE {s : AS} {n : Int32} {f : Nat → R4} {p e : Nat} {gl : Nat → Option Nat} (h : CS g w0 x nA cA lA kn (sP_ s n (shf f p e)) w) (hl : w lA = some (.inl (4, 12, qc gl))) (hgl : ∀ i c, gl i = some c → isR w c) (k : ∀ i : Nat, (i : Int) < n.toInt → ∃ c, gl i = some c ∧ rAt w c (shf f p e i)) (h0 : 0 < n) (h8 : ¬ 12 < n) (he : n.toInt = ((e + 1 : Nat) : Int)) : CS g w0 x nA cA lA kn (sP_ s (n - 1) (rmv f p)) (upw (upw w x (.inr (5, [.ref nA, .ref cA, .ref lA, .int (n - 1), .int s.2.2.2.2.1, .int kn, .int s.2.2.2.2.2]))) lA (.inl (4, 12, qc (va_up gl (n - 1).toNatClampNeg none)))) := by
  have e1 := cg_sub h0
  have e2 : (n - 1).toNatClampNeg = (n - 1).toInt.toNat := rfl
  refine CS.xl (s := sP_ s n (shf f p e)) (F := rmv f p) h hl (up_ok hgl fun c e => by cases e) (cg3 h0) (cg4 h0 h8) fun i hi => ?_
  rw [show va_up gl (n - 1).toNatClampNeg none i = gl i from if_neg (by omega), ← shf_r (f := f) (p := p) (e := e) (i := i) (by omega)]
  exact k i (by omega)
set_option maxHeartbeats 4000000 in
theorem flX1_closeGap_4 {s : AS} {a0 : Int32} {f : Nat → R4} {n : Int32} {p N : Nat} (he : n.toInt = (N : Int)) (h12 : N ≤ 12) (hp0 : 0 < n) (hQ : ∀ w', CS g w0 x nA cA lA kn (sP_ s (n - 1) (rmv f p)) w' → Q (.inl none) w') : ∀ (d e : Nat) (w : Hw) (k m : Nat), e + 1 + d = N → p ≤ e → CS g w0 x nA cA lA kn (sP_ s n (shf f p e)) w → k ≤ 0 → m ≤ 0 → WP (MX1_closeGap g) Q (4, [some (.ref x), some (.int a0), some (.int (Int32.ofNat (e + 1)))], [], w, k, m) := by
  intro d
  induction d with
  | zero =>
    intro e w k m hjd hpe hC hk hm
    obtain ⟨gc, gl, ⟨hx, hn, hc, hl, hgc, hgl, hn0, hn1, rx, rn, rc, rl, ⟨d1, d2, d3, d4, d5, d6⟩, ⟨d7, d8, d9, d10, d11, d12⟩⟩, hcd, hpl⟩ := hC.opnP
    have h9 : e + 1 < 1000 := by omega
    have hlt : ¬ Int32.ofNat (e + 1) < n := oNg h9 he (by omega)
    rw [eX1_closeGap_4]
    simp only [eX1_closeGap_5, eX1_closeGap_9, eX1_closeGap_12, eX1_closeGap_16, eX1_closeGap_23, eX1_closeGap_25N, eX1_closeGap_25R, eX1_closeGap_26, eX1_closeGap_32, eX1_closeGap_37, eX1_closeGap_42, eX1_closeGap_46, eX1_closeGap_50, eX1_closeGap_52, if_false, not_false_eq_true, rx, rl, hx, hl, d10, upw_n, hlt, ite_le, n45, or_false, false_and, go_s, gq_s, nl_int, rf_st, g0, gS, ex1, nf_i, true_and, List.set_cons_zero, List.set_cons_succ, List.length_cons, List.length_nil, rd_s, ne_eq, not_false_eq_true, Nat.zero_add]
    with_reducible refine And.intro ?_ ?_
    omega
    with_reducible refine And.intro ?_ ?_
    with_reducible exact cg2 hp0 hn1
    with_reducible refine And.intro ?_ ?_
    with_reducible assumption
    with_reducible refine And.intro ?_ ?_
    with_reducible assumption
    ((with_reducible refine isQ (Q := Q) ?_); exact hQ _ (hC.gapE hl hgl hpl hp0 hn1 (by omega)))
  | succ d ih =>
    intro e w k m hjd hpe hC hk hm
    obtain ⟨gc, gl, ⟨hx, hn, hc, hl, hgc, hgl, hn0, hn1, rx, rn, rc, rl, ⟨d1, d2, d3, d4, d5, d6⟩, ⟨d7, d8, d9, d10, d11, d12⟩⟩, hcd, hpl⟩ := hC.opnP
    have h9 : e + 1 < 1000 := by omega
    have hlt : Int32.ofNat (e + 1) < n := oNl h9 he (by omega)
    have hms := oMs h9
    have hcl := oNc h9
    have hcm := oNc (j := e) (by omega)
    obtain ⟨b, hb, hrb⟩ := hpl (e + 1) (by omega)
    rw [eX1_closeGap_4]
    simp only [eX1_closeGap_5, eX1_closeGap_9, eX1_closeGap_12, eX1_closeGap_16, eX1_closeGap_23, eX1_closeGap_25R, eX1_closeGap_26, eX1_closeGap_32, eX1_closeGap_37, eX1_closeGap_42, eX1_closeGap_46, eX1_closeGap_50, eX1_closeGap_52, if_true, not_false_eq_true, rx, rl, hx, hl, d10, upw_n, hlt, hms, hcl, hcm, hb, sal, snn, ite_le, n45, or_false, false_and, go_s, gq_s, nl_int, rf_st, g0, gS, ex1, nf_i, true_and, List.set_cons_zero, List.set_cons_succ, List.length_cons, List.length_nil, rd_s, ne_eq, not_false_eq_true, Nat.zero_add]
    with_reducible refine And.intro ?_ ?_
    with_reducible exact vpj (by omega)
    with_reducible refine And.intro ?_ ?_
    with_reducible exact vpj (by omega)
    with_reducible refine And.intro ?_ ?_
    with_reducible exact go_Fw hrb trivial
    (rw [oN1]; exact ih (e + 1) _ _ _ (by omega) (by omega) (hC.gapS hl hgl hpl hrb hpe) (by first | assumption | omega) (by first | assumption | omega))
theorem n0p {n : Int32} {p : Nat} (h : p < n.toInt.toNat) : 0 < n := i32_of_lt (by
  show (0 : Int) < n.toInt
  omega)
theorem oN9 {i : Nat} (h : i < 1000) : ¬ Int32.ofNat i = -1 := fun e => oN0 h (by rw [e]; decide)
set_option maxHeartbeats 4000000 in
theorem fX1_closeGap {s : AS} {p : Nat} (hC : CS g w0 x nA cA lA kn s w) (hp : p < s.2.2.1.toInt.toNat) (hQ : ∀ w', CS g w0 x nA cA lA kn (sP_ s (s.2.2.1 - 1) (rmv s.2.2.2.1 p)) w' → Q (.inl none) w') : WP (MX1_closeGap g) Q (0, [some (.ref x), some (.int (Int32.ofNat p)), none], [], w, 0, 0) := by
  obtain ⟨gc, gl, ⟨hx, hn, hc, hl, hgc, hgl, hn0, hn1, rx, rn, rc, rl, ⟨d1, d2, d3, d4, d5, d6⟩, ⟨d7, d8, d9, d10, d11, d12⟩⟩, hcd, hpl⟩ := hC.1.opn g
  simp only [eX1_closeGap_0, nl_int]
  (rw [oN1]; exact flX1_closeGap_4 (s := s) (f := s.2.2.2.1) (n := s.2.2.1) (p := p) (cnt12 hn0 hn1).1 (cnt12 hn0 hn1).2 (n0p hp) hQ (s.2.2.1.toInt.toNat - (p + 1)) p w 0 0 (by omega) (Nat.le_refl p) (by rw [shf_0]; exact hC) (by decide) (by decide))
set_option maxHeartbeats 4000000 in
theorem fX1_lift {s : AS} {a0 : Int32} (hC : CS g w0 x nA cA lA kn s w) (hX : ¬ okC a0 → (Q (.inr "java/lang/IndexOutOfBoundsException") w)) (hS : okC a0 → s.2.1 a0.toNatClampNeg = none → (Q (.inr "java/lang/IllegalStateException") w)) (hN : okC a0 → ∀ r, s.2.1 a0.toNatClampNeg = some r → (∀ i, i < s.2.2.1.toInt.toNat → ¬ mP r (s.2.2.2.1 i)) → Q (.inl (some (.int 0))) w) (hQ : okC a0 → ∀ r, s.2.1 a0.toNatClampNeg = some r → ∀ i, i < s.2.2.1.toInt.toNat → mP r (s.2.2.2.1 i) → (∀ k, k < i → ¬ mP r (s.2.2.2.1 k)) → ∀ w', CS g w0 x nA cA lA kn (sP_ s (s.2.2.1 - 1) (rmv s.2.2.2.1 i)) w' → Q (.inl (some (.int 1))) w') : WP (MX1_lift g) Q (0, [some (.ref x), some (.int a0), none], [], w, 0, 0) := by
  obtain ⟨gc, gl, ⟨hx, hn, hc, hl, hgc, hgl, hn0, hn1, rx, rn, rc, rl, ⟨d1, d2, d3, d4, d5, d6⟩, ⟨d7, d8, d9, d10, d11, d12⟩⟩, hcd, hpl⟩ := hC.1.opn g
  simp only [eX1_lift_0, rx, go_s, wt_nil, wt_ref, true_and, Nat.zero_add, Nat.add_zero]
  with_reducible refine And.intro ?_ ?_
  omega
  with_reducible refine And.intro ?_ ?_
  omega
  with_reducible refine And.intro ?_ ?_
  omega
  with_reducible refine fX1_rangeOf (a0 := a0) hC (fun _ => ?_) (fun k0 e1 => ?_) (fun k0 p r e1 hp => ?_)
  simp only [kx_r]
  with_reducible exact hX (by assumption)
  simp only [kx_r]
  with_reducible exact hS k0 e1
  simp only [eX1_lift_6R, rx, kx_l, go_s, wt_nil, tl_s, true_and, Nat.add_zero]
  with_reducible refine And.intro ?_ ?_
  omega
  with_reducible refine And.intro ?_ ?_
  omega
  with_reducible refine And.intro ?_ ?_
  omega
  with_reducible refine fX1_firstPlaceOf hC hp (fun z1 => ?_) (fun i z1 z2 z3 => ?_)
  simp only [eX1_lift_9, eX1_lift_15, eX1_lift_17, eX1_lift_22, if_true, rx, kx_l, go_s, wt_nil, nl_int, tl_s, true_and, Nat.add_zero]
  with_reducible refine And.intro ?_ ?_
  omega
  with_reducible refine And.intro ?_ ?_
  omega
  with_reducible exact hN k0 r e1 z1
  simp only [eX1_lift_9, eX1_lift_15, eX1_lift_17, eX1_lift_22, rx, kx_l, go_s, wt_nil, nl_int, tl_s, true_and, Nat.add_zero]
  split
  with_reducible refine And.intro ?_ ?_
  with_reducible exact absurd (by assumption) (oN9 (i := i) (by have := (cnt12 hn0 hn1).2; omega))
  with_reducible refine And.intro ?_ ?_
  with_reducible exact absurd (by assumption) (oN9 (i := i) (by have := (cnt12 hn0 hn1).2; omega))
  with_reducible exact absurd (by assumption) (oN9 (i := i) (by have := (cnt12 hn0 hn1).2; omega))
  with_reducible refine And.intro ?_ ?_
  omega
  with_reducible refine And.intro ?_ ?_
  omega
  with_reducible refine And.intro ?_ ?_
  omega
  with_reducible refine fX1_closeGap hC z1 (fun w1 g1 => ?_)
  simp only [eX1_lift_23, kx_l, tl_n]
  with_reducible refine And.intro ?_ ?_
  omega
  with_reducible refine And.intro ?_ ?_
  omega
  with_reducible exact hQ k0 r e1 i z1 z2 z3 w1 g1
end
end
