section
section
variable {g : RO} {Q : Ot → Hw → Prop} {w0 w : Hw} {x nA cA lA : Nat} {kn : Int32}
def tur (f : Nat → R4) (N j : Nat) : Nat → R4 := fun i => if i < j ∨ (N - j ≤ i ∧ i < N) then f (N - 1 - i) else f i
def rev (f : Nat → R4) (N : Nat) : Nat → R4 := fun i => f (N - 1 - i)
theorem tur_0 {f : Nat → R4} {N : Nat} : tur f N 0 = f := funext fun i => if_neg (by omega)
theorem tur_s {f : Nat → R4} {N j : Nat} (h : 2 * j + 2 ≤ N) : va_up (va_up (tur f N j) j (tur f N j (N - 1 - j))) (N - 1 - j) (tur f N j j) = tur f N (j + 1) := funext fun i => by
  unfold va_up tur
  rw [if_neg (show ¬ (N - 1 - j < j ∨ (N - j ≤ N - 1 - j ∧ N - 1 - j < N)) by omega), if_neg (show ¬ (j < j ∨ (N - j ≤ j ∧ j < N)) by omega)]
  by_cases k : i = N - 1 - j
  · rw [if_pos k, if_pos (by omega)]
    exact congrArg f (by omega)
  · rw [if_neg k]
    by_cases z : i = j
    · rw [if_pos z, if_pos (by omega)]
      exact congrArg f (by omega)
    · rw [if_neg z]
      by_cases y : i < j ∨ (N - j ≤ i ∧ i < N)
      · rw [if_pos y, if_pos (by omega)]
      · rw [if_neg y, if_neg (by omega)]
theorem tur_e {f : Nat → R4} {N i : Nat} (h : i < N) : tur f N (N / 2) i = rev f N i := by
  unfold tur rev
  by_cases y : i < N / 2 ∨ (N - N / 2 ≤ i ∧ i < N)
  · rw [if_pos y]
  · rw [if_neg y]
    exact congrArg f (by omega)
theorem hlfE {n : Int32} (h0 : ¬ n < 0) (h1 : ¬ 12 < n) : (n / 2).toInt = ((n.toInt.toNat / 2 : Nat) : Int) := by
  have e12 : (12 : Int32).toInt = 12 := rfl
  rcases sw_0 n 12 (by decide) with ⟨k, h, rfl⟩ | h
  · match k, h with
    | 0, _ => decide
    | 1, _ => decide
    | 2, _ => decide
    | 3, _ => decide
    | 4, _ => decide
    | 5, _ => decide
    | 6, _ => decide
    | 7, _ => decide
    | 8, _ => decide
    | 9, _ => decide
    | 10, _ => decide
    | 11, _ => decide
    | 12, _ => decide
  · exfalso
    have a := i32_0 h0
    have b := i32_nlt h1
    omega
theorem acE {n : Int32} {N j : Nat} (he : n.toInt = (N : Int)) (h12 : N ≤ 12) (h : j < N) : n - 1 - Int32.ofNat j = Int32.ofNat (N - 1 - j) := by
  have e1 : (1 : Int32).toInt = 1 := rfl
  have a1 := oNt (j := j) (by omega)
  have a2 := oNt (j := N - 1 - j) (by omega)
  have s1 : (n - 1).toInt = n.toInt - 1 := by rw [i32_sub (by omega) (by omega), e1]
  refine Int32.toInt_inj.1 ?_
  rw [i32_sub (by omega) (by omega), s1, a1, a2]
  omega
theorem CS.turS {s : AS} {n : Int32} {f : Nat → R4} {N j b1 b2 : Nat} {gl : Nat → Option Nat} (h : CS g w0 x nA cA lA kn (sP_ s n (tur f N j)) w) (hl : w lA = some (.inl (4, 12, qc gl))) (hgl : ∀ i c, gl i = some c → isR w c) (k : ∀ i : Nat, (i : Int) < n.toInt → ∃ c, gl i = some c ∧ rAt w c (tur f N j i)) (h1 : rAt w b1 (tur f N j j)) (h2 : rAt w b2 (tur f N j (N - 1 - j))) (hj : 2 * j + 2 ≤ N) : CS g w0 x nA cA lA kn (sP_ s n (tur f N (j + 1))) (upw (upw w lA (.inl (4, 12, qc (va_up gl j (some b2))))) lA (.inl (4, 12, qc (va_up (va_up gl j (some b2)) (N - 1 - j) (some b1))))) := by
  have z : CS g w0 x nA cA lA kn (sP_ s n (va_up (tur f N j) j (tur f N j (N - 1 - j)))) (upw w lA (.inl (4, 12, qc (va_up gl j (some b2))))) := CS.laid h hl hgl k h2 j
  have y : CS g w0 x nA cA lA kn (sP_ s n (va_up (va_up (tur f N j) j (tur f N j (N - 1 - j))) (N - 1 - j) (tur f N j j))) (upw (upw w lA (.inl (4, 12, qc (va_up gl j (some b2))))) lA (.inl (4, 12, qc (va_up (va_up gl j (some b2)) (N - 1 - j) (some b1))))) := CS.laid z (upw_s _ _ _) (fun i c e => isR_up2 (up_ok hgl (fun c e => by cases e; exact h2.isR) i c e) hl (by simp)) (fun i hi => by
    obtain ⟨c, c1, c2⟩ := k i hi
    show ∃ c, va_up gl j (some b2) i = some c ∧ rAt _ c (va_up (tur f N j) j (tur f N j (N - 1 - j)) i)
    unfold va_up
    by_cases e : i = j
    · rw [if_pos e, if_pos e]
      exact ⟨b2, rfl, rAt_up2 h2 hl (by simp)⟩
    · rw [if_neg e, if_neg e]
      exact ⟨c, c1, rAt_up2 c2 hl (by simp)⟩) (rAt_up2 h1 hl (by simp)) (N - 1 - j)
  rw [tur_s hj] at y
  exact y
theorem CS.turE {s : AS} {n : Int32} {f : Nat → R4} {N j : Nat} (h : CS g w0 x nA cA lA kn (sP_ s n (tur f N j)) w) (he : n.toInt = (N : Int)) (hj : j = N / 2) : CS g w0 x nA cA lA kn (sP_ s n (rev f N)) w := by
  subst hj
  exact h.pcg fun i hi => tur_e (by omega)
set_option maxHeartbeats 4000000 in
theorem flX1_turn_2 {s : AS} {f : Nat → R4} {n : Int32} {N : Nat} (he : n.toInt = (N : Int)) (h12 : N ≤ 12) (hv : (n / 2).toInt = ((N / 2 : Nat) : Int)) (hQ : ∀ w', CS g w0 x nA cA lA kn (sP_ s n (rev f N)) w' → Q (.inl (some (.int n))) w') : ∀ (d j : Nat) (i2 i3 : Option Value) (w : Hw) (k m : Nat), j + d = N / 2 → CS g w0 x nA cA lA kn (sP_ s n (tur f N j)) w → k ≤ 0 → m ≤ 0 → WP (MX1_turn g) Q (2, [some (.ref x), some (.int (Int32.ofNat j)), i2, i3], [], w, k, m) := by
  intro d
  induction d with
  | zero =>
    intro j i2 i3 w k m hjd hC hk hm
    obtain ⟨gc, gl, ⟨hx, hn, hc, hl, hgc, hgl, hn0, hn1, rx, rn, rc, rl, ⟨d1, d2, d3, d4, d5, d6⟩, ⟨d7, d8, d9, d10, d11, d12⟩⟩, hcd, hpl⟩ := hC.opnP
    have h9 : j < 1000 := by omega
    have hlt : ¬ Int32.ofNat j < n / 2 := oNg h9 hv (by omega)
    rw [eX1_turn_2]
    simp only [eX1_turn_3, eX1_turn_7, eX1_turn_9, eX1_turn_12, eX1_turn_16, eX1_turn_25, eX1_turn_27, eX1_turn_27N, eX1_turn_28, eX1_turn_32, eX1_turn_37, eX1_turn_39N, eX1_turn_39R, eX1_turn_40, eX1_turn_44, eX1_turn_45, eX1_turn_45N, eX1_turn_46N, eX1_turn_46R, eX1_turn_47, eX1_turn_53, eX1_turn_57, if_false, not_false_eq_true, rx, rl, hl, d3, rd_n, hlt, tn_2, ite_le, n45, or_false, false_and, go_s, gq_s, nl_int, nl_ref, rf_st, g0, gS, ex1, true_and, upw_s, ne_eq, not_false_eq_true]
    with_reducible refine And.intro ?_ ?_
    with_reducible assumption
    with_reducible refine And.intro ?_ ?_
    with_reducible assumption
    ((with_reducible refine isQ (Q := Q) ?_); exact hQ _ (hC.turE he (by omega)))
  | succ d ih =>
    intro j i2 i3 w k m hjd hC hk hm
    obtain ⟨gc, gl, ⟨hx, hn, hc, hl, hgc, hgl, hn0, hn1, rx, rn, rc, rl, ⟨d1, d2, d3, d4, d5, d6⟩, ⟨d7, d8, d9, d10, d11, d12⟩⟩, hcd, hpl⟩ := hC.opnP
    have h9 : j < 1000 := by omega
    have hlt : Int32.ofNat j < n / 2 := oNl h9 hv (by omega)
    have hac := acE (j := j) he h12 (by omega)
    have hcl := oNc h9
    have hcm := oNc (j := N - 1 - j) (by omega)
    obtain ⟨b1, hb1, hr1⟩ := hpl j (by omega)
    obtain ⟨b2, hb2, hr2⟩ := hpl (N - 1 - j) (by omega)
    rw [eX1_turn_2]
    simp only [eX1_turn_3, eX1_turn_7, eX1_turn_9, eX1_turn_12, eX1_turn_16, eX1_turn_25, eX1_turn_27, eX1_turn_27N, eX1_turn_28, eX1_turn_32, eX1_turn_37, eX1_turn_39R, eX1_turn_40, eX1_turn_44, eX1_turn_45, eX1_turn_45N, eX1_turn_46N, eX1_turn_46R, eX1_turn_47, eX1_turn_53, eX1_turn_57, if_true, not_false_eq_true, rx, rl, hl, d3, rd_n, hlt, tn_2, hac, hcl, hcm, hb1, hb2, sal, snn, ite_le, n45, or_false, false_and, go_s, gq_s, nl_int, nl_ref, rf_st, g0, gS, ex1, true_and, upw_s, ne_eq, not_false_eq_true]
    with_reducible refine And.intro ?_ ?_
    with_reducible exact vpj (by omega)
    with_reducible refine And.intro ?_ ?_
    with_reducible exact vpj (by omega)
    with_reducible refine And.intro ?_ ?_
    with_reducible exact vpj (by omega)
    with_reducible refine And.intro ?_ ?_
    with_reducible exact go_Fw hr2 trivial
    with_reducible refine And.intro ?_ ?_
    with_reducible exact vpj (by omega)
    with_reducible refine And.intro ?_ ?_
    with_reducible exact go_Fw (rAt_up2 hr1 hl (by simp)) trivial
    (rw [oN1]; exact ih (j + 1) _ _ _ _ _ (by omega) (hC.turS hl hgl hpl hr1 hr2 (by omega)) (by first | assumption | omega) (by first | assumption | omega))
set_option maxHeartbeats 4000000 in
theorem fX1_turn {s : AS} (hC : CS g w0 x nA cA lA kn s w) (hQ : ∀ w', CS g w0 x nA cA lA kn (sP_ s s.2.2.1 (rev s.2.2.2.1 s.2.2.1.toInt.toNat)) w' → Q (.inl (some (.int s.2.2.1))) w') : WP (MX1_turn g) Q (0, [some (.ref x), none, none, none], [], w, 0, 0) := by
  obtain ⟨gc, gl, ⟨hx, hn, hc, hl, hgc, hgl, hn0, hn1, rx, rn, rc, rl, ⟨d1, d2, d3, d4, d5, d6⟩, ⟨d7, d8, d9, d10, d11, d12⟩⟩, hcd, hpl⟩ := hC.1.opn g
  simp only [eX1_turn_0, nl_ref]
  ((with_reducible refine isWP (pc := 2) ?_); exact flX1_turn_2 (s := s) (f := s.2.2.2.1) (n := s.2.2.1) (cnt12 hn0 hn1).1 (cnt12 hn0 hn1).2 (hlfE hn0 hn1) hQ (s.2.2.1.toInt.toNat / 2) 0 _ _ w 0 0 (by omega) (by rw [tur_0]; exact hC) (by decide) (by decide))
theorem upw_upw {w : Hw} {a : Nat} {o o' : Ob} : upw (upw w a o) a o' = upw w a o' := funext fun c => by
  by_cases e : c = a
  · subst e
    rw [upw_s, upw_s]
  · rw [upw_n e, upw_n e, upw_n e]
theorem upw_id {w : Hw} {a : Nat} {o : Ob} (h : w a = some o) : upw w a o = w := funext fun c => by
  by_cases e : c = a
  · subst e
    rw [upw_s, h]
  · rw [upw_n e]
/-- while the pile is swept: the rest is as it was -/
def SW (g : RO) (w0 : Hw) (x nA cA lA : Nat) (kn : Int32) (s : AS) (w1 : Hw) : Prop := ∃ (w : Hw) (gl gl1 : Nat → Option Nat), CS g w0 x nA cA lA kn s w ∧ w lA = some (.inl (4, 12, qc gl)) ∧ (∀ i b, gl1 i = some b → isR w b) ∧ w1 = upw w lA (.inl (4, 12, qc gl1))
theorem SW.of {s : AS} (h : CS g w0 x nA cA lA kn s w) : SW g w0 x nA cA lA kn s w := by
  obtain ⟨gc, gl, ⟨h1, h2, h3, h4, h5, h6, -⟩, -⟩ := h.1.opn g
  exact ⟨w, gl, gl, h, h4, h6, (upw_id h4).symm⟩
theorem SW.opn {s : AS} (h : SW g w0 x nA cA lA kn s w) : ∃ gc gl : Nat → Option Nat, RO5 g w x nA cA lA s.2.2.1 s.2.2.2.2.1 kn s.2.2.2.2.2 s.1 gc gl := by
  obtain ⟨w, gl, gl1, hC, hl, h6', rfl⟩ := h
  obtain ⟨gc, gl', ⟨h1, h2, h3, h4, h5, h6, h7, h8, -, -, -, -, ⟨d1, d2, d3, d4, d5, d6⟩, ⟨d7, d8, d9, d10, d11, d12⟩⟩, -⟩ := hC.1.opn g
  have g1 := (upw_n (o := .inl (4, 12, qc gl1)) d3).trans h1
  have g2 := (upw_n (o := .inl (4, 12, qc gl1)) d6).trans h2
  have g3 := (upw_n (o := .inl (4, 12, qc gl1)) d9).trans h3
  have g4 := upw_s w lA (.inl (4, 12, qc gl1))
  exact ⟨gc, gl1, g1, g2, g3, g4, fun i b z => isR_up2 (h5 i b z) hl (by simp), fun i b z => isR_up2 (h6' i b z) hl (by simp), h7, h8, rd_e g1, rd_e g2, rd_e g3, rd_e g4, ⟨d1, d2, d3, d4, d5, d6⟩, ⟨d7, d8, d9, d10, d11, d12⟩⟩
theorem SW.nul {s : AS} {gl : Nat → Option Nat} (h : SW g w0 x nA cA lA kn s w) (hl : w lA = some (.inl (4, 12, qc gl))) (j : Nat) : SW g w0 x nA cA lA kn s (upw w lA (.inl (4, 12, qc (va_up gl j none)))) := by
  obtain ⟨w, gl', gl1, hC, hl', h6, rfl⟩ := h
  rw [upw_s] at hl
  cases hl
  exact ⟨w, gl', va_up gl j none, hC, hl', up_ok h6 (fun c e => by cases e), upw_upw⟩
theorem SW.fin {s : AS} (h : SW g w0 x nA cA lA kn s w) (F : Nat → R4) : CS g w0 x nA cA lA kn (sP_ s 0 F) (upw w x (.inr (5, [.ref nA, .ref cA, .ref lA, .int 0, .int s.2.2.2.2.1, .int kn, .int s.2.2.2.2.2]))) := by
  obtain ⟨w, gl', gl1, hC, hl, h6, rfl⟩ := h
  obtain ⟨gc, gl', ⟨h1, h2, h3, h4, h5, -, -, -, -, -, -, -, ⟨d1, d2, d3, d4, d5, d6⟩, ⟨d7, d8, d9, d10, d11, d12⟩⟩, k1, k2⟩ := hC.1.opn g
  have hx' := (upw_n (o := .inl (4, 12, qc gl1)) d3).trans h1
  have R : ∀ c q, rAt w c q → rAt (upw (upw w lA (.inl (4, 12, qc gl1))) x (.inr (5, [.ref nA, .ref cA, .ref lA, .int 0, .int s.2.2.2.2.1, .int kn, .int s.2.2.2.2.2]))) c q := fun c q hc => rAt_up2 (rAt_up2 hc hl (by simp)) hx' (by simp)
  have RR : ∀ c, isR w c → isR (upw (upw w lA (.inl (4, 12, qc gl1))) x (.inr (5, [.ref nA, .ref cA, .ref lA, .int 0, .int s.2.2.2.2.1, .int kn, .int s.2.2.2.2.2]))) c := fun c hc => isR_up2 (isR_up2 hc hl (by simp)) hx' (by simp)
  exact ⟨⟨gc, gl1, ⟨upw_s _ _ _, by rw [upw_n d4, upw_n d6]; exact h2, by rw [upw_n d7, upw_n d9]; exact h3, by rw [upw_n d10]; exact upw_s _ _ _, fun i c z => RR c (h5 i c z), fun i c z => RR c (h6 i c z), show ¬ (0 : Int32) < 0 by decide, show ¬ (12 : Int32) < 0 by decide⟩, fun i hi => (k1 i hi).mp R, fun i hi => by
    have hi' : (i : Int) < (0 : Int32).toInt := hi
    have e0 : (0 : Int32).toInt = 0 := rfl
    omega⟩, (hC.2.up hl (Or.inr rfl)).up hx' (Or.inr rfl)⟩
set_option maxHeartbeats 4000000 in
theorem flX1_sweep_7 {s : AS} (hQ : ∀ w', (∀ F, CS g w0 x nA cA lA kn (sP_ s 0 F) w') → Q (.inl (some (.int s.2.2.1))) w') : ∀ (d j : Nat) (w : Hw) (k m : Nat), j + d = 12 → SW g w0 x nA cA lA kn s w → k ≤ 0 → m ≤ 0 → WP (MX1_sweep g) Q (7, [some (.ref x), some (.int s.2.2.1), some (.int (Int32.ofNat j))], [], w, k, m) := by
  intro d
  induction d with
  | zero =>
    intro j w k m hjd hC hk hm
    obtain ⟨gc, gl, hx, hn, hc, hl, hgc, hgl, hn0, hn1, rx, rn, rc, rl, ⟨d1, d2, d3, d4, d5, d6⟩, ⟨d7, d8, d9, d10, d11, d12⟩⟩ := hC.opn
    have h9 : j < 1000 := by omega
    have hlt : ¬ Int32.ofNat j < 12 := oNg (B := 12) h9 rfl (by omega)
    rw [eX1_sweep_7]
    simp only [eX1_sweep_8, eX1_sweep_12, eX1_sweep_13, eX1_sweep_16, eX1_sweep_20, eX1_sweep_23, eX1_sweep_29, eX1_sweep_34, if_false, rx, rl, hx, hl, hlt, exal, o12, ite_le, n45, or_false, go_s, gq_s, nl_int, g0, gS, ex1, nf_i, true_and, List.set_cons_zero, List.set_cons_succ, List.length_cons, List.length_nil, Nat.zero_add]
    with_reducible refine And.intro ?_ ?_
    omega
    with_reducible refine And.intro ?_ ?_
    omega
    with_reducible refine And.intro ?_ ?_
    with_reducible assumption
    with_reducible refine And.intro ?_ ?_
    with_reducible assumption
    ((with_reducible refine isQ (Q := Q) ?_); exact hQ _ (fun F => hC.fin F))
  | succ d ih =>
    intro j w k m hjd hC hk hm
    obtain ⟨gc, gl, hx, hn, hc, hl, hgc, hgl, hn0, hn1, rx, rn, rc, rl, ⟨d1, d2, d3, d4, d5, d6⟩, ⟨d7, d8, d9, d10, d11, d12⟩⟩ := hC.opn
    have h9 : j < 1000 := by omega
    have hlt : Int32.ofNat j < 12 := oNl (B := 12) h9 rfl (by omega)
    have hcl := oNc h9
    rw [eX1_sweep_7]
    simp only [eX1_sweep_8, eX1_sweep_12, eX1_sweep_13, eX1_sweep_16, eX1_sweep_20, eX1_sweep_23, eX1_sweep_29, eX1_sweep_34, if_true, rx, rl, hx, hl, hlt, hcl, exal, o12, ite_le, n45, or_false, go_s, gq_s, nl_int, g0, gS, ex1, nf_i, true_and, List.set_cons_zero, List.set_cons_succ, List.length_cons, List.length_nil, Nat.zero_add]
    with_reducible refine And.intro ?_ ?_
    omega
    with_reducible refine And.intro ?_ ?_
    with_reducible exact vpj (by omega)
    (rw [oN1]; exact ih (j + 1) _ _ _ (by omega) (hC.nul hl _) (by first | assumption | omega) (by first | assumption | omega))
set_option maxHeartbeats 4000000 in
theorem fX1_sweep {s : AS} (hC : CS g w0 x nA cA lA kn s w) (hQ : ∀ w', (∀ F, CS g w0 x nA cA lA kn (sP_ s 0 F) w') → Q (.inl (some (.int s.2.2.1))) w') : WP (MX1_sweep g) Q (0, [some (.ref x), none, none], [], w, 0, 0) := by
  obtain ⟨gc, gl, ⟨hx, hn, hc, hl, hgc, hgl, hn0, hn1, rx, rn, rc, rl, ⟨d1, d2, d3, d4, d5, d6⟩, ⟨d7, d8, d9, d10, d11, d12⟩⟩, hcd, hpl⟩ := hC.1.opn g
  simp only [eX1_sweep_0, eX1_sweep_4, rx, go_s, nl_int, nl_ref, g0, gS, ex1]
  ((with_reducible refine isWP (pc := 7) ?_); exact flX1_sweep_7 hQ 12 0 w 0 0 rfl (SW.of hC) (by decide) (by decide))
end
end
