/-! 71.fna.lean.txt -/
section
section
variable {g : RO} {Q : Ot → Hw → Prop} {w0 w : Hw} {x nA cA lA : Nat} {kn : Int32}
/-! FUNCTIONAL SPECS, 10: the pile, written -/
theorem CS.opnP {s : AS} {n : Int32} {F : Nat → R4} (h : CS g w0 x nA cA lA kn (sP_ s n F) w) : ∃ gc gl : Nat → Option Nat, RO5 g w x nA cA lA n s.2.2.2.2.1 kn s.2.2.2.2.2 s.1 gc gl ∧ (∀ i, i < 6 → cM w (gc i) (s.2.1 i)) ∧ ∀ i : Nat, (i : Int) < n.toInt → ∃ b, gl i = some b ∧ rAt w b (F i) := h.1.opn g
theorem CS.pcg {s : AS} {n : Int32} {F G : Nat → R4} (h : CS g w0 x nA cA lA kn (sP_ s n F) w) (e : ∀ i : Nat, (i : Int) < n.toInt → F i = G i) : CS g w0 x nA cA lA kn (sP_ s n G) w := by
  obtain ⟨⟨gc, gl, h1, k1, k2⟩, hf⟩ := h
  exact ⟨⟨gc, gl, h1, k1, fun i hi => by
    obtain ⟨b, z1, z2⟩ := k2 i hi
    have z3 : rAt w b (F i) := z2
    rw [e i hi] at z3
    exact ⟨b, z1, z3⟩⟩, hf⟩
/-- the laid row gets another content -/
theorem CS.ll {s : AS} {gl gl' : Nat → Option Nat} {F : Nat → R4} (h : CS g w0 x nA cA lA kn s w) (hl : w lA = some (.inl (4, 12, qc gl))) (h6 : ∀ i c, gl' i = some c → isR w c) (k : ∀ i : Nat, (i : Int) < s.2.2.1.toInt → ∃ c, gl' i = some c ∧ rAt w c (F i)) : CS g w0 x nA cA lA kn (sP_ s s.2.2.1 F) (upw w lA (.inl (4, 12, qc gl'))) := by
  obtain ⟨gc, gl0, ⟨h1, h2, h3, h4, h5, -, h7, h8, -, -, -, -, ⟨d1, d2, d3, d4, d5, d6⟩, ⟨d7, d8, d9, d10, d11, d12⟩⟩, k1, k2⟩ := h.1.opn (fun _ => .null, fun _ => none)
  exact ⟨⟨gc, gl', ⟨by rw [upw_n d3]; exact h1, by rw [upw_n d6]; exact h2, by rw [upw_n d9]; exact h3, upw_s _ _ _, fun i b z => isR_up2 (h5 i b z) hl (by simp), fun i b z => isR_up2 (h6 i b z) hl (by simp), h7, h8⟩, fun i hi => (k1 i hi).mp fun b r hb => rAt_up2 hb hl (by simp), fun i hi => (k i hi).imp fun b z => ⟨z.1, rAt_up2 z.2 hl (by simp)⟩⟩, h.2.up hl (Or.inr rfl)⟩
/-- the laid row and how many are laid -/
theorem CS.xl {s : AS} {gl gl' : Nat → Option Nat} {F : Nat → R4} {n' : Int32} (h : CS g w0 x nA cA lA kn s w) (hl : w lA = some (.inl (4, 12, qc gl))) (h6 : ∀ i c, gl' i = some c → isR w c) (h7 : ¬ n' < 0) (h8 : ¬ 12 < n') (k : ∀ i : Nat, (i : Int) < n'.toInt → ∃ c, gl' i = some c ∧ rAt w c (F i)) : CS g w0 x nA cA lA kn (sP_ s n' F) (upw (upw w x (.inr (5, [.ref nA, .ref cA, .ref lA, .int n', .int s.2.2.2.2.1, .int kn, .int s.2.2.2.2.2]))) lA (.inl (4, 12, qc gl'))) := by
  obtain ⟨gc, gl0, ⟨h1, h2, h3, h4, h5, -, -, -, -, -, -, -, ⟨d1, d2, d3, d4, d5, d6⟩, ⟨d7, d8, d9, d10, d11, d12⟩⟩, k1, k2⟩ := h.1.opn (fun _ => .null, fun _ => none)
  have hl' : upw w x (.inr (5, [.ref nA, .ref cA, .ref lA, .int n', .int s.2.2.2.2.1, .int kn, .int s.2.2.2.2.2])) lA = some (.inl (4, 12, qc gl)) := by rw [upw_n d10]; exact hl
  have R : ∀ c q, rAt w c q → rAt (upw (upw w x (.inr (5, [.ref nA, .ref cA, .ref lA, .int n', .int s.2.2.2.2.1, .int kn, .int s.2.2.2.2.2]))) lA (.inl (4, 12, qc gl'))) c q := fun c q hc => rAt_up2 (rAt_up2 hc h1 (by simp)) hl' (by simp)
  have RR : ∀ c, isR w c → isR (upw (upw w x (.inr (5, [.ref nA, .ref cA, .ref lA, .int n', .int s.2.2.2.2.1, .int kn, .int s.2.2.2.2.2]))) lA (.inl (4, 12, qc gl'))) c := fun c hc => isR_up2 (isR_up2 hc h1 (by simp)) hl' (by simp)
  exact ⟨⟨gc, gl', ⟨by rw [upw_n d3]; exact upw_s _ _ _, by rw [upw_n d6, upw_n d4]; exact h2, by rw [upw_n d9, upw_n d7]; exact h3, upw_s _ _ _, fun i b z => RR b (h5 i b z), fun i b z => RR b (h6 i b z), h7, h8⟩, fun i hi => (k1 i hi).mp R, fun i hi => (k i hi).imp fun b z => ⟨z.1, R _ _ z.2⟩⟩, (h.2.up h1 (Or.inr rfl)).up hl' (Or.inr rfl)⟩
theorem CS.laid {s : AS} {gl : Nat → Option Nat} {b : Nat} {r : R4} (h : CS g w0 x nA cA lA kn s w) (hl : w lA = some (.inl (4, 12, qc gl))) (hgl : ∀ i c, gl i = some c → isR w c) (k : ∀ i : Nat, (i : Int) < s.2.2.1.toInt → ∃ c, gl i = some c ∧ rAt w c (s.2.2.2.1 i)) (hb : rAt w b r) (j : Nat) : CS g w0 x nA cA lA kn (sP_ s s.2.2.1 (va_up s.2.2.2.1 j r)) (upw w lA (.inl (4, 12, qc (va_up gl j (some b))))) := by
  refine h.ll hl (up_ok hgl fun c e => by cases e; exact hb.isR) fun i hi => ?_
  unfold va_up
  by_cases e : i = j
  · rw [if_pos e, if_pos e]
    exact ⟨b, rfl, hb⟩
  · rw [if_neg e, if_neg e]
    exact k i hi
/-- the pile with the gap at p closed up to e -/
def shf (f : Nat → R4) (p e : Nat) : Nat → R4 := fun i => if p ≤ i ∧ i < e then f (i + 1) else f i
/-- the pile without the place p -/
def rmv (f : Nat → R4) (p : Nat) : Nat → R4 := fun i => if i < p then f i else f (i + 1)
theorem shf_0 {f : Nat → R4} {p : Nat} : shf f p p = f := funext fun i => if_neg (by omega)
theorem shf_s {f : Nat → R4} {p e : Nat} (h : p ≤ e) : va_up (shf f p e) e (shf f p e (e + 1)) = shf f p (e + 1) := funext fun i => by
  unfold va_up shf
  by_cases k : i = e
  · subst k
    rw [if_pos rfl, if_neg (by omega), if_pos (by omega)]
  · rw [if_neg k]
    by_cases z : p ≤ i ∧ i < e
    · rw [if_pos z, if_pos (by omega)]
    · rw [if_neg z, if_neg (by omega)]
theorem shf_r {f : Nat → R4} {p e i : Nat} (h : i < e) : shf f p e i = rmv f p i := by
  unfold shf rmv
  by_cases z : i < p
  · rw [if_neg (by omega), if_pos z]
  · rw [if_pos (by omega), if_neg z]
theorem CS.gapS {s : AS} {n : Int32} {f : Nat → R4} {p e b : Nat} {gl : Nat → Option Nat} (h : CS g w0 x nA cA lA kn (sP_ s n (shf f p e)) w) (hl : w lA = some (.inl (4, 12, qc gl))) (hgl : ∀ i c, gl i = some c → isR w c) (k : ∀ i : Nat, (i : Int) < n.toInt → ∃ c, gl i = some c ∧ rAt w c (shf f p e i)) (hb : rAt w b (shf f p e (e + 1))) (hpe : p ≤ e) : CS g w0 x nA cA lA kn (sP_ s n (shf f p (e + 1))) (upw w lA (.inl (4, 12, qc (va_up gl e (some b))))) := by
  have z : CS g w0 x nA cA lA kn (sP_ s n (va_up (shf f p e) e (shf f p e (e + 1)))) (upw w lA (.inl (4, 12, qc (va_up gl e (some b))))) := CS.laid h hl hgl k hb e
  rw [shf_s hpe] at z
  exact z
theorem CS.gapE {s : AS} {n : Int32} {f : Nat → R4} {p e : Nat} {gl : Nat → Option Nat} (h : CS g w0 x nA cA lA kn (sP_ s n (shf f p e)) w) (hl : w lA = some (.inl (4, 12, qc gl))) (hgl : ∀ i c, gl i = some c → isR w c) (k : ∀ i : Nat, (i : Int) < n.toInt → ∃ c, gl i = some c ∧ rAt w c (shf f p e i)) (h0 : 0 < n) (h8 : ¬ 12 < n) (he : n.toInt = ((e + 1 : Nat) : Int)) : CS g w0 x nA cA lA kn (sP_ s (n - 1) (rmv f p)) (upw (upw w x (.inr (5, [.ref nA, .ref cA, .ref lA, .int (n - 1), .int s.2.2.2.2.1, .int kn, .int s.2.2.2.2.2]))) lA (.inl (4, 12, qc (va_up gl (n - 1).toNatClampNeg none)))) := by
  have e1 := cg_sub h0
  have e2 : (n - 1).toNatClampNeg = (n - 1).toInt.toNat := rfl
  refine CS.xl (s := sP_ s n (shf f p e)) (F := rmv f p) h hl (up_ok hgl fun c e => by cases e) (cg3 h0) (cg4 h0 h8) fun i hi => ?_
  rw [show va_up gl (n - 1).toNatClampNeg none i = gl i from if_neg (by omega), ← shf_r (f := f) (p := p) (e := e) (i := i) (by omega)]
  exact k i (by omega)
set_option maxHeartbeats 4000000 in
theorem flX1_closeGap_4 {s : AS} {a0 : Int32} {f : Nat → R4} {n : Int32} {p N : Nat} (he : n.toInt = (N : Int)) (h12 : N ≤ 12) (hp0 : 0 < n) (hQ : ∀ w', CS g w0 x nA cA lA kn (sP_ s (n - 1) (rmv f p)) w' → Q (.inl none) w') : ∀ (d e : Nat) (w : Hw) (k m : Nat), e + 1 + d = N → p ≤ e → CS g w0 x nA cA lA kn (sP_ s n (shf f p e)) w → k ≤ 0 → m ≤ 0 → WP (MX1_closeGap g) Q (4, [some (.ref x), some (.int a0), some (.int (Int32.ofNat (e + 1)))], [], w, k, m) := by
  intro d
  induction d with
  | zero =>
    intro e w k m hjd hpe hC hk hm
    obtain ⟨gc, gl, ⟨hx, hn, hc, hl, hgc, hgl, hn0, hn1, rx, rn, rc, rl, ⟨d1, d2, d3, d4, d5, d6⟩, ⟨d7, d8, d9, d10, d11, d12⟩⟩, hcd, hpl⟩ := hC.opnP
    have h9 : e + 1 < 1000 := by omega
    have hlt : ¬ Int32.ofNat (e + 1) < n := oNg h9 he (by omega)
    rw [eX1_closeGap_4]
    repeat' first
      | with_reducible assumption
      | with_reducible refine And.intro ?_ ?_
      | with_reducible exact vpi6 (by assumption) (by assumption)
      | with_reducible exact vpi8 (by assumption) (by assumption)
      | with_reducible exact trivial
      | with_reducible exact cg2 hp0 hn1
      | ((with_reducible refine isQ (Q := Q) ?_); exact hQ _ (hC.gapE hl hgl hpl hp0 hn1 (by omega)))
      | simp only [eX1_closeGap_0, eX1_closeGap_1, eX1_closeGap_2, eX1_closeGap_3, eX1_closeGap_5, eX1_closeGap_5N, eX1_closeGap_6, eX1_closeGap_9, eX1_closeGap_12, eX1_closeGap_12N, eX1_closeGap_13, eX1_closeGap_16, eX1_closeGap_17, eX1_closeGap_18, eX1_closeGap_19, eX1_closeGap_19N, eX1_closeGap_20, eX1_closeGap_23, eX1_closeGap_24, eX1_closeGap_25N, eX1_closeGap_25R, eX1_closeGap_26, eX1_closeGap_29, eX1_closeGap_32, eX1_closeGap_32N, eX1_closeGap_33, eX1_closeGap_33R, eX1_closeGap_34, eX1_closeGap_37, eX1_closeGap_38, eX1_closeGap_39, eX1_closeGap_42, eX1_closeGap_42N, eX1_closeGap_43, eX1_closeGap_46, eX1_closeGap_46N, eX1_closeGap_47, eX1_closeGap_50, eX1_closeGap_51N, eX1_closeGap_51R, eX1_closeGap_52, lgp, lgn, lgz, i10, i00, if_true, if_false, eq_self, not_true, not_false_eq_true, rx, rn, rc, rl, hx, hn, hc, hl, d1, d2, d3, d4, d5, d6, d7, d8, d9, d10, d11, d12, rd_n, upw_n, hlt, ite_le, n45, n54, true_or, or_true, false_or, or_false, false_and, and_false, kx_l, kx_r, go_s, gl_s, gi_s, gb_s2, gb_s3, gq_s, wt_nil, wt_int, wt_long, wt_ref, wt_null, nl_int, nl_long, nl_ref, nl_null, nl_none, rf_n, rf_s, rf_st, tl_s, tl_n, g0, gS, ex1, nb_b, nb_0, nb_1, nf_i, nf_l, nf_ra, nf_ro, nf_na, nf_no, nf_b0, nf_z0, t45_4, t45_5, true_and, and_true, List.set_cons_zero, List.set_cons_succ, List.length_cons, List.length_nil, rd_s, upw_s, ne_eq, not_false_eq_true, Nat.zero_add, Nat.add_zero]
      | split
      | with_reducible intro _
      | omega
  | succ d ih =>
    intro e w k m hjd hpe hC hk hm
    obtain ⟨gc, gl, ⟨hx, hn, hc, hl, hgc, hgl, hn0, hn1, rx, rn, rc, rl, ⟨d1, d2, d3, d4, d5, d6⟩, ⟨d7, d8, d9, d10, d11, d12⟩⟩, hcd, hpl⟩ := hC.opnP
    have h9 : e + 1 < 1000 := by omega
    have hlt : Int32.ofNat (e + 1) < n := oNl h9 he (by omega)
    have hms := oMs h9
    have hcl := oNc h9
    have hcm := oNc (j := e) (by omega)
    obtain ⟨b, hb, hrb⟩ := hpl (e + 1) (by omega)
    rw [eX1_closeGap_4]
    repeat' first
      | with_reducible assumption
      | with_reducible refine And.intro ?_ ?_
      | with_reducible exact vpi6 (by assumption) (by assumption)
      | with_reducible exact vpi8 (by assumption) (by assumption)
      | with_reducible exact trivial
      | with_reducible exact vpj (by omega)
      | with_reducible refine Or.inl ?_
      | with_reducible exact go_Fw hrb trivial
      | (rw [oN1]; exact ih (e + 1) _ _ _ (by omega) (by omega) (hC.gapS hl hgl hpl hrb hpe) (by first | assumption | omega) (by first | assumption | omega))
      | simp only [eX1_closeGap_0, eX1_closeGap_1, eX1_closeGap_2, eX1_closeGap_3, eX1_closeGap_5, eX1_closeGap_5N, eX1_closeGap_6, eX1_closeGap_9, eX1_closeGap_12, eX1_closeGap_12N, eX1_closeGap_13, eX1_closeGap_16, eX1_closeGap_17, eX1_closeGap_18, eX1_closeGap_19, eX1_closeGap_19N, eX1_closeGap_20, eX1_closeGap_23, eX1_closeGap_24, eX1_closeGap_25N, eX1_closeGap_25R, eX1_closeGap_26, eX1_closeGap_29, eX1_closeGap_32, eX1_closeGap_32N, eX1_closeGap_33, eX1_closeGap_33R, eX1_closeGap_34, eX1_closeGap_37, eX1_closeGap_38, eX1_closeGap_39, eX1_closeGap_42, eX1_closeGap_42N, eX1_closeGap_43, eX1_closeGap_46, eX1_closeGap_46N, eX1_closeGap_47, eX1_closeGap_50, eX1_closeGap_51N, eX1_closeGap_51R, eX1_closeGap_52, lgp, lgn, lgz, i10, i00, if_true, if_false, eq_self, not_true, not_false_eq_true, rx, rn, rc, rl, hx, hn, hc, hl, d1, d2, d3, d4, d5, d6, d7, d8, d9, d10, d11, d12, rd_n, upw_n, hlt, hms, hcl, hcm, hb, sal, snn, ite_le, n45, n54, true_or, or_true, false_or, or_false, false_and, and_false, kx_l, kx_r, go_s, gl_s, gi_s, gb_s2, gb_s3, gq_s, wt_nil, wt_int, wt_long, wt_ref, wt_null, nl_int, nl_long, nl_ref, nl_null, nl_none, rf_n, rf_s, rf_st, tl_s, tl_n, g0, gS, ex1, nb_b, nb_0, nb_1, nf_i, nf_l, nf_ra, nf_ro, nf_na, nf_no, nf_b0, nf_z0, t45_4, t45_5, true_and, and_true, List.set_cons_zero, List.set_cons_succ, List.length_cons, List.length_nil, rd_s, upw_s, ne_eq, not_false_eq_true, Nat.zero_add, Nat.add_zero]
      | split
      | with_reducible intro _
      | omega
theorem n0p {n : Int32} {p : Nat} (h : p < n.toInt.toNat) : 0 < n := i32_of_lt (by
  show (0 : Int) < n.toInt
  omega)
theorem oN9 {i : Nat} (h : i < 1000) : ¬ Int32.ofNat i = -1 := fun e => oN0 h (by rw [e]; decide)
set_option maxHeartbeats 4000000 in
theorem fX1_closeGap {s : AS} {p : Nat} (hC : CS g w0 x nA cA lA kn s w) (hp : p < s.2.2.1.toInt.toNat) (hQ : ∀ w', CS g w0 x nA cA lA kn (sP_ s (s.2.2.1 - 1) (rmv s.2.2.2.1 p)) w' → Q (.inl none) w') : WP (MX1_closeGap g) Q (0, [some (.ref x), some (.int (Int32.ofNat p)), none], [], w, 0, 0) := by
  obtain ⟨gc, gl, ⟨hx, hn, hc, hl, hgc, hgl, hn0, hn1, rx, rn, rc, rl, ⟨d1, d2, d3, d4, d5, d6⟩, ⟨d7, d8, d9, d10, d11, d12⟩⟩, hcd, hpl⟩ := hC.1.opn g
  repeat' first
    | with_reducible assumption
    | with_reducible refine And.intro ?_ ?_
    | with_reducible exact vpi6 (by assumption) (by assumption)
    | with_reducible exact vpi8 (by assumption) (by assumption)
    | with_reducible exact trivial
    | (rw [oN1]; exact flX1_closeGap_4 (s := s) (f := s.2.2.2.1) (n := s.2.2.1) (p := p) (cnt12 hn0 hn1).1 (cnt12 hn0 hn1).2 (n0p hp) hQ (s.2.2.1.toInt.toNat - (p + 1)) p w 0 0 (by omega) (Nat.le_refl p) (by rw [shf_0]; exact hC) (by decide) (by decide))
    | simp only [eX1_closeGap_0, eX1_closeGap_1, eX1_closeGap_2, eX1_closeGap_3, eX1_closeGap_5, eX1_closeGap_5N, eX1_closeGap_6, eX1_closeGap_9, eX1_closeGap_12, eX1_closeGap_12N, eX1_closeGap_13, eX1_closeGap_16, eX1_closeGap_17, eX1_closeGap_18, eX1_closeGap_19, eX1_closeGap_19N, eX1_closeGap_20, eX1_closeGap_23, eX1_closeGap_24, eX1_closeGap_25N, eX1_closeGap_25R, eX1_closeGap_26, eX1_closeGap_29, eX1_closeGap_32, eX1_closeGap_32N, eX1_closeGap_33, eX1_closeGap_33R, eX1_closeGap_34, eX1_closeGap_37, eX1_closeGap_38, eX1_closeGap_39, eX1_closeGap_42, eX1_closeGap_42N, eX1_closeGap_43, eX1_closeGap_46, eX1_closeGap_46N, eX1_closeGap_47, eX1_closeGap_50, eX1_closeGap_51N, eX1_closeGap_51R, eX1_closeGap_52, lgp, lgn, lgz, i10, i00, if_true, if_false, eq_self, not_true, not_false_eq_true, rx, rn, rc, rl, hx, hn, hc, hl, d1, d2, d3, d4, d5, d6, d7, d8, d9, d10, d11, d12, rd_n, upw_n, ite_le, n45, n54, true_or, or_true, false_or, or_false, false_and, and_false, kx_l, kx_r, go_s, gl_s, gi_s, gb_s2, gb_s3, gq_s, wt_nil, wt_int, wt_long, wt_ref, wt_null, nl_int, nl_long, nl_ref, nl_null, nl_none, rf_n, rf_s, rf_st, tl_s, tl_n, g0, gS, ex1, nb_b, nb_0, nb_1, nf_i, nf_l, nf_ra, nf_ro, nf_na, nf_no, nf_b0, nf_z0, t45_4, t45_5, true_and, and_true, List.set_cons_zero, List.set_cons_succ, List.length_cons, List.length_nil, rd_s, upw_s, ne_eq, not_false_eq_true, Nat.zero_add, Nat.add_zero]
    | split
    | with_reducible intro _
    | omega
theorem m11 : ((-1 : Int32) = -1) = True := eq_true rfl
set_option maxHeartbeats 4000000 in
theorem fX1_lift {s : AS} {a0 : Int32} (hC : CS g w0 x nA cA lA kn s w) (hX : ¬ okC a0 → (Q (.inr "java/lang/IndexOutOfBoundsException") w)) (hS : okC a0 → s.2.1 a0.toNatClampNeg = none → (Q (.inr "java/lang/IllegalStateException") w)) (hN : okC a0 → ∀ r, s.2.1 a0.toNatClampNeg = some r → (∀ i, i < s.2.2.1.toInt.toNat → ¬ mP r (s.2.2.2.1 i)) → Q (.inl (some (.int 0))) w) (hQ : okC a0 → ∀ r, s.2.1 a0.toNatClampNeg = some r → ∀ i, i < s.2.2.1.toInt.toNat → mP r (s.2.2.2.1 i) → (∀ k, k < i → ¬ mP r (s.2.2.2.1 k)) → ∀ w', CS g w0 x nA cA lA kn (sP_ s (s.2.2.1 - 1) (rmv s.2.2.2.1 i)) w' → Q (.inl (some (.int 1))) w') : WP (MX1_lift g) Q (0, [some (.ref x), some (.int a0), none], [], w, 0, 0) := by
  obtain ⟨gc, gl, ⟨hx, hn, hc, hl, hgc, hgl, hn0, hn1, rx, rn, rc, rl, ⟨d1, d2, d3, d4, d5, d6⟩, ⟨d7, d8, d9, d10, d11, d12⟩⟩, hcd, hpl⟩ := hC.1.opn g
  repeat' first
    | with_reducible assumption
    | with_reducible refine And.intro ?_ ?_
    | with_reducible exact vpi6 (by assumption) (by assumption)
    | with_reducible exact vpi8 (by assumption) (by assumption)
    | with_reducible exact trivial
    | with_reducible exact hX (by assumption)
    | with_reducible refine fX1_rangeOf (a0 := a0) hC (fun _ => ?_) (fun k0 e1 => ?_) (fun k0 p r e1 hp => ?_)
    | with_reducible refine go_F hp ?_
    | with_reducible exact go_F hp trivial
    | with_reducible exact hS k0 e1
    | with_reducible refine fX1_firstPlaceOf hC hp (fun z1 => ?_) (fun i z1 z2 z3 => ?_)
    | with_reducible exact hN k0 r e1 z1
    | with_reducible exact absurd (by assumption) (oN9 (i := i) (by have := (cnt12 hn0 hn1).2; omega))
    | with_reducible refine fX1_closeGap hC z1 (fun w1 g1 => ?_)
    | with_reducible exact hQ k0 r e1 i z1 z2 z3 w1 g1
    | simp only [eX1_lift_0, eX1_lift_0N, eX1_lift_1, eX1_lift_1N, eX1_lift_2, eX1_lift_3, eX1_lift_6R, eX1_lift_6N, eX1_lift_9, eX1_lift_10, eX1_lift_11, eX1_lift_12, eX1_lift_15, eX1_lift_16, eX1_lift_17, eX1_lift_17N, eX1_lift_18, eX1_lift_19, eX1_lift_22, eX1_lift_23, lgp, lgn, lgz, i10, i00, if_true, if_false, eq_self, not_true, not_false_eq_true, rx, rn, rc, rl, hx, hn, hc, hl, d1, d2, d3, d4, d5, d6, d7, d8, d9, d10, d11, d12, rd_n, upw_n, m11, ite_le, n45, n54, true_or, or_true, false_or, or_false, false_and, and_false, kx_l, kx_r, go_s, gl_s, gi_s, gb_s2, gb_s3, gq_s, wt_nil, wt_int, wt_long, wt_ref, wt_null, nl_int, nl_long, nl_ref, nl_null, nl_none, rf_n, rf_s, rf_st, tl_s, tl_n, g0, gS, ex1, nb_b, nb_0, nb_1, nf_i, nf_l, nf_ra, nf_ro, nf_na, nf_no, nf_b0, nf_z0, t45_4, t45_5, true_and, and_true, List.set_cons_zero, List.set_cons_succ, List.length_cons, List.length_nil, rd_s, upw_s, ne_eq, not_false_eq_true, Nat.zero_add, Nat.add_zero]
    | split
    | with_reducible intro _
    | omega
end
end
/-! 71.fnb.lean.txt -/
section
section
variable {g : RO} {Q : Ot → Hw → Prop} {w0 w : Hw} {x nA cA lA : Nat} {kn : Int32}
/-! FUNCTIONAL SPECS, 11: the pile turned and swept -/
def tur (f : Nat → R4) (N j : Nat) : Nat → R4 := fun i => if i < j ∨ (N - j ≤ i ∧ i < N) then f (N - 1 - i) else f i
def rev (f : Nat → R4) (N : Nat) : Nat → R4 := fun i => f (N - 1 - i)
theorem tur_0 {f : Nat → R4} {N : Nat} : tur f N 0 = f := funext fun i => if_neg (by omega)
theorem tur_s {f : Nat → R4} {N j : Nat} (h : 2 * j + 2 ≤ N) : va_up (va_up (tur f N j) j (tur f N j (N - 1 - j))) (N - 1 - j) (tur f N j j) = tur f N (j + 1) := funext fun i => by
  unfold va_up tur
  rw [if_neg (show ¬ (N - 1 - j < j ∨ (N - j ≤ N - 1 - j ∧ N - 1 - j < N)) by omega), if_neg (show ¬ (j < j ∨ (N - j ≤ j ∧ j < N)) by omega)]
  by_cases k : i = N - 1 - j
  · rw [if_pos k, if_pos (by omega)]
    exact congrArg f (by omega)
  · rw [if_neg k]
    by_cases z : i = j
    · rw [if_pos z, if_pos (by omega)]
      exact congrArg f (by omega)
    · rw [if_neg z]
      by_cases y : i < j ∨ (N - j ≤ i ∧ i < N)
      · rw [if_pos y, if_pos (by omega)]
      · rw [if_neg y, if_neg (by omega)]
theorem tur_e {f : Nat → R4} {N i : Nat} (h : i < N) : tur f N (N / 2) i = rev f N i := by
  unfold tur rev
  by_cases y : i < N / 2 ∨ (N - N / 2 ≤ i ∧ i < N)
  · rw [if_pos y]
  · rw [if_neg y]
    exact congrArg f (by omega)
theorem hlfE {n : Int32} (h0 : ¬ n < 0) (h1 : ¬ 12 < n) : (n / 2).toInt = ((n.toInt.toNat / 2 : Nat) : Int) := by
  have e12 : (12 : Int32).toInt = 12 := rfl
  rcases sw_0 n 12 (by decide) with ⟨k, h, rfl⟩ | h
  · match k, h with
    | 0, _ => decide
    | 1, _ => decide
    | 2, _ => decide
    | 3, _ => decide
    | 4, _ => decide
    | 5, _ => decide
    | 6, _ => decide
    | 7, _ => decide
    | 8, _ => decide
    | 9, _ => decide
    | 10, _ => decide
    | 11, _ => decide
    | 12, _ => decide
  · exfalso
    have a := i32_0 h0
    have b := i32_nlt h1
    omega
theorem acE {n : Int32} {N j : Nat} (he : n.toInt = (N : Int)) (h12 : N ≤ 12) (h : j < N) : n - 1 - Int32.ofNat j = Int32.ofNat (N - 1 - j) := by
  have e1 : (1 : Int32).toInt = 1 := rfl
  have a1 := oNt (j := j) (by omega)
  have a2 := oNt (j := N - 1 - j) (by omega)
  have s1 : (n - 1).toInt = n.toInt - 1 := by rw [i32_sub (by omega) (by omega), e1]
  refine Int32.toInt_inj.1 ?_
  rw [i32_sub (by omega) (by omega), s1, a1, a2]
  omega
theorem CS.turS {s : AS} {n : Int32} {f : Nat → R4} {N j b1 b2 : Nat} {gl : Nat → Option Nat} (h : CS g w0 x nA cA lA kn (sP_ s n (tur f N j)) w) (hl : w lA = some (.inl (4, 12, qc gl))) (hgl : ∀ i c, gl i = some c → isR w c) (k : ∀ i : Nat, (i : Int) < n.toInt → ∃ c, gl i = some c ∧ rAt w c (tur f N j i)) (h1 : rAt w b1 (tur f N j j)) (h2 : rAt w b2 (tur f N j (N - 1 - j))) (hj : 2 * j + 2 ≤ N) : CS g w0 x nA cA lA kn (sP_ s n (tur f N (j + 1))) (upw (upw w lA (.inl (4, 12, qc (va_up gl j (some b2))))) lA (.inl (4, 12, qc (va_up (va_up gl j (some b2)) (N - 1 - j) (some b1))))) := by
  have z : CS g w0 x nA cA lA kn (sP_ s n (va_up (tur f N j) j (tur f N j (N - 1 - j)))) (upw w lA (.inl (4, 12, qc (va_up gl j (some b2))))) := CS.laid h hl hgl k h2 j
  have y : CS g w0 x nA cA lA kn (sP_ s n (va_up (va_up (tur f N j) j (tur f N j (N - 1 - j))) (N - 1 - j) (tur f N j j))) (upw (upw w lA (.inl (4, 12, qc (va_up gl j (some b2))))) lA (.inl (4, 12, qc (va_up (va_up gl j (some b2)) (N - 1 - j) (some b1))))) := CS.laid z (upw_s _ _ _) (fun i c e => isR_up2 (up_ok hgl (fun c e => by cases e; exact h2.isR) i c e) hl (by simp)) (fun i hi => by
    obtain ⟨c, c1, c2⟩ := k i hi
    show ∃ c, va_up gl j (some b2) i = some c ∧ rAt _ c (va_up (tur f N j) j (tur f N j (N - 1 - j)) i)
    unfold va_up
    by_cases e : i = j
    · rw [if_pos e, if_pos e]
      exact ⟨b2, rfl, rAt_up2 h2 hl (by simp)⟩
    · rw [if_neg e, if_neg e]
      exact ⟨c, c1, rAt_up2 c2 hl (by simp)⟩) (rAt_up2 h1 hl (by simp)) (N - 1 - j)
  rw [tur_s hj] at y
  exact y
theorem CS.turE {s : AS} {n : Int32} {f : Nat → R4} {N j : Nat} (h : CS g w0 x nA cA lA kn (sP_ s n (tur f N j)) w) (he : n.toInt = (N : Int)) (hj : j = N / 2) : CS g w0 x nA cA lA kn (sP_ s n (rev f N)) w := by
  subst hj
  exact h.pcg fun i hi => tur_e (by omega)
set_option maxHeartbeats 4000000 in
theorem flX1_turn_2 {s : AS} {f : Nat → R4} {n : Int32} {N : Nat} (he : n.toInt = (N : Int)) (h12 : N ≤ 12) (hv : (n / 2).toInt = ((N / 2 : Nat) : Int)) (hQ : ∀ w', CS g w0 x nA cA lA kn (sP_ s n (rev f N)) w' → Q (.inl (some (.int n))) w') : ∀ (d j : Nat) (i2 i3 : Option Value) (w : Hw) (k m : Nat), j + d = N / 2 → CS g w0 x nA cA lA kn (sP_ s n (tur f N j)) w → k ≤ 0 → m ≤ 0 → WP (MX1_turn g) Q (2, [some (.ref x), some (.int (Int32.ofNat j)), i2, i3], [], w, k, m) := by
  intro d
  induction d with
  | zero =>
    intro j i2 i3 w k m hjd hC hk hm
    obtain ⟨gc, gl, ⟨hx, hn, hc, hl, hgc, hgl, hn0, hn1, rx, rn, rc, rl, ⟨d1, d2, d3, d4, d5, d6⟩, ⟨d7, d8, d9, d10, d11, d12⟩⟩, hcd, hpl⟩ := hC.opnP
    have h9 : j < 1000 := by omega
    have hlt : ¬ Int32.ofNat j < n / 2 := oNg h9 hv (by omega)
    rw [eX1_turn_2]
    repeat' first
      | with_reducible assumption
      | with_reducible refine And.intro ?_ ?_
      | with_reducible exact vpi6 (by assumption) (by assumption)
      | with_reducible exact vpi8 (by assumption) (by assumption)
      | with_reducible exact trivial
      | ((with_reducible refine isQ (Q := Q) ?_); exact hQ _ (hC.turE he (by omega)))
      | simp only [eX1_turn_0, eX1_turn_1, eX1_turn_3, eX1_turn_3N, eX1_turn_4, eX1_turn_7, eX1_turn_8, eX1_turn_9, eX1_turn_12, eX1_turn_12N, eX1_turn_13, eX1_turn_16, eX1_turn_17, eX1_turn_18, eX1_turn_19, eX1_turn_20, eX1_turn_21, eX1_turn_21N, eX1_turn_22, eX1_turn_25, eX1_turn_26, eX1_turn_27, eX1_turn_27N, eX1_turn_28, eX1_turn_28N, eX1_turn_29, eX1_turn_32, eX1_turn_33, eX1_turn_33N, eX1_turn_34, eX1_turn_37, eX1_turn_38, eX1_turn_39N, eX1_turn_39R, eX1_turn_40, eX1_turn_40N, eX1_turn_41, eX1_turn_44, eX1_turn_45, eX1_turn_45N, eX1_turn_46N, eX1_turn_46R, eX1_turn_47, eX1_turn_50, eX1_turn_53, eX1_turn_53N, eX1_turn_54, eX1_turn_57, lgp, lgn, lgz, i10, i00, if_true, if_false, eq_self, not_true, not_false_eq_true, rx, rn, rc, rl, hx, hn, hc, hl, d1, d2, d3, d4, d5, d6, d7, d8, d9, d10, d11, d12, rd_n, upw_n, hlt, tn_2, ite_le, n45, n54, true_or, or_true, false_or, or_false, false_and, and_false, kx_l, kx_r, go_s, gl_s, gi_s, gb_s2, gb_s3, gq_s, wt_nil, wt_int, wt_long, wt_ref, wt_null, nl_int, nl_long, nl_ref, nl_null, nl_none, rf_n, rf_s, rf_st, tl_s, tl_n, g0, gS, ex1, nb_b, nb_0, nb_1, nf_i, nf_l, nf_ra, nf_ro, nf_na, nf_no, nf_b0, nf_z0, t45_4, t45_5, true_and, and_true, List.set_cons_zero, List.set_cons_succ, List.length_cons, List.length_nil, rd_s, upw_s, ne_eq, not_false_eq_true, Nat.zero_add, Nat.add_zero]
      | split
      | with_reducible intro _
      | omega
  | succ d ih =>
    intro j i2 i3 w k m hjd hC hk hm
    obtain ⟨gc, gl, ⟨hx, hn, hc, hl, hgc, hgl, hn0, hn1, rx, rn, rc, rl, ⟨d1, d2, d3, d4, d5, d6⟩, ⟨d7, d8, d9, d10, d11, d12⟩⟩, hcd, hpl⟩ := hC.opnP
    have h9 : j < 1000 := by omega
    have hlt : Int32.ofNat j < n / 2 := oNl h9 hv (by omega)
    have hac := acE (j := j) he h12 (by omega)
    have hcl := oNc h9
    have hcm := oNc (j := N - 1 - j) (by omega)
    obtain ⟨b1, hb1, hr1⟩ := hpl j (by omega)
    obtain ⟨b2, hb2, hr2⟩ := hpl (N - 1 - j) (by omega)
    rw [eX1_turn_2]
    repeat' first
      | with_reducible assumption
      | with_reducible refine And.intro ?_ ?_
      | with_reducible exact vpi6 (by assumption) (by assumption)
      | with_reducible exact vpi8 (by assumption) (by assumption)
      | with_reducible exact trivial
      | with_reducible exact vpj (by omega)
      | with_reducible refine Or.inl ?_
      | with_reducible exact go_Fw hr2 trivial
      | with_reducible exact go_Fw (rAt_up2 hr1 hl (by simp)) trivial
      | (rw [oN1]; exact ih (j + 1) _ _ _ _ _ (by omega) (hC.turS hl hgl hpl hr1 hr2 (by omega)) (by first | assumption | omega) (by first | assumption | omega))
      | simp only [eX1_turn_0, eX1_turn_1, eX1_turn_3, eX1_turn_3N, eX1_turn_4, eX1_turn_7, eX1_turn_8, eX1_turn_9, eX1_turn_12, eX1_turn_12N, eX1_turn_13, eX1_turn_16, eX1_turn_17, eX1_turn_18, eX1_turn_19, eX1_turn_20, eX1_turn_21, eX1_turn_21N, eX1_turn_22, eX1_turn_25, eX1_turn_26, eX1_turn_27, eX1_turn_27N, eX1_turn_28, eX1_turn_28N, eX1_turn_29, eX1_turn_32, eX1_turn_33, eX1_turn_33N, eX1_turn_34, eX1_turn_37, eX1_turn_38, eX1_turn_39N, eX1_turn_39R, eX1_turn_40, eX1_turn_40N, eX1_turn_41, eX1_turn_44, eX1_turn_45, eX1_turn_45N, eX1_turn_46N, eX1_turn_46R, eX1_turn_47, eX1_turn_50, eX1_turn_53, eX1_turn_53N, eX1_turn_54, eX1_turn_57, lgp, lgn, lgz, i10, i00, if_true, if_false, eq_self, not_true, not_false_eq_true, rx, rn, rc, rl, hx, hn, hc, hl, d1, d2, d3, d4, d5, d6, d7, d8, d9, d10, d11, d12, rd_n, upw_n, hlt, tn_2, hac, hcl, hcm, hb1, hb2, sal, snn, ite_le, n45, n54, true_or, or_true, false_or, or_false, false_and, and_false, kx_l, kx_r, go_s, gl_s, gi_s, gb_s2, gb_s3, gq_s, wt_nil, wt_int, wt_long, wt_ref, wt_null, nl_int, nl_long, nl_ref, nl_null, nl_none, rf_n, rf_s, rf_st, tl_s, tl_n, g0, gS, ex1, nb_b, nb_0, nb_1, nf_i, nf_l, nf_ra, nf_ro, nf_na, nf_no, nf_b0, nf_z0, t45_4, t45_5, true_and, and_true, List.set_cons_zero, List.set_cons_succ, List.length_cons, List.length_nil, rd_s, upw_s, ne_eq, not_false_eq_true, Nat.zero_add, Nat.add_zero]
      | split
      | with_reducible intro _
      | omega
set_option maxHeartbeats 4000000 in
theorem fX1_turn {s : AS} (hC : CS g w0 x nA cA lA kn s w) (hQ : ∀ w', CS g w0 x nA cA lA kn (sP_ s s.2.2.1 (rev s.2.2.2.1 s.2.2.1.toInt.toNat)) w' → Q (.inl (some (.int s.2.2.1))) w') : WP (MX1_turn g) Q (0, [some (.ref x), none, none, none], [], w, 0, 0) := by
  obtain ⟨gc, gl, ⟨hx, hn, hc, hl, hgc, hgl, hn0, hn1, rx, rn, rc, rl, ⟨d1, d2, d3, d4, d5, d6⟩, ⟨d7, d8, d9, d10, d11, d12⟩⟩, hcd, hpl⟩ := hC.1.opn g
  repeat' first
    | with_reducible assumption
    | with_reducible refine And.intro ?_ ?_
    | with_reducible exact vpi6 (by assumption) (by assumption)
    | with_reducible exact vpi8 (by assumption) (by assumption)
    | with_reducible exact trivial
    | ((with_reducible refine isWP (pc := 2) ?_); exact flX1_turn_2 (s := s) (f := s.2.2.2.1) (n := s.2.2.1) (cnt12 hn0 hn1).1 (cnt12 hn0 hn1).2 (hlfE hn0 hn1) hQ (s.2.2.1.toInt.toNat / 2) 0 _ _ w 0 0 (by omega) (by rw [tur_0]; exact hC) (by decide) (by decide))
    | simp only [eX1_turn_0, eX1_turn_1, eX1_turn_3, eX1_turn_3N, eX1_turn_4, eX1_turn_7, eX1_turn_8, eX1_turn_9, eX1_turn_12, eX1_turn_12N, eX1_turn_13, eX1_turn_16, eX1_turn_17, eX1_turn_18, eX1_turn_19, eX1_turn_20, eX1_turn_21, eX1_turn_21N, eX1_turn_22, eX1_turn_25, eX1_turn_26, eX1_turn_27, eX1_turn_27N, eX1_turn_28, eX1_turn_28N, eX1_turn_29, eX1_turn_32, eX1_turn_33, eX1_turn_33N, eX1_turn_34, eX1_turn_37, eX1_turn_38, eX1_turn_39N, eX1_turn_39R, eX1_turn_40, eX1_turn_40N, eX1_turn_41, eX1_turn_44, eX1_turn_45, eX1_turn_45N, eX1_turn_46N, eX1_turn_46R, eX1_turn_47, eX1_turn_50, eX1_turn_53, eX1_turn_53N, eX1_turn_54, eX1_turn_57, lgp, lgn, lgz, i10, i00, if_true, if_false, eq_self, not_true, not_false_eq_true, rx, rn, rc, rl, hx, hn, hc, hl, d1, d2, d3, d4, d5, d6, d7, d8, d9, d10, d11, d12, rd_n, upw_n, ite_le, n45, n54, true_or, or_true, false_or, or_false, false_and, and_false, kx_l, kx_r, go_s, gl_s, gi_s, gb_s2, gb_s3, gq_s, wt_nil, wt_int, wt_long, wt_ref, wt_null, nl_int, nl_long, nl_ref, nl_null, nl_none, rf_n, rf_s, rf_st, tl_s, tl_n, g0, gS, ex1, nb_b, nb_0, nb_1, nf_i, nf_l, nf_ra, nf_ro, nf_na, nf_no, nf_b0, nf_z0, t45_4, t45_5, true_and, and_true, List.set_cons_zero, List.set_cons_succ, List.length_cons, List.length_nil, rd_s, upw_s, ne_eq, not_false_eq_true, Nat.zero_add, Nat.add_zero]
    | split
    | with_reducible intro _
    | omega
theorem upw_upw {w : Hw} {a : Nat} {o o' : Ob} : upw (upw w a o) a o' = upw w a o' := funext fun c => by
  by_cases e : c = a
  · subst e
    rw [upw_s, upw_s]
  · rw [upw_n e, upw_n e, upw_n e]
theorem upw_id {w : Hw} {a : Nat} {o : Ob} (h : w a = some o) : upw w a o = w := funext fun c => by
  by_cases e : c = a
  · subst e
    rw [upw_s, h]
  · rw [upw_n e]
/-- while the pile is swept: the rest is as it was -/
def SW (g : RO) (w0 : Hw) (x nA cA lA : Nat) (kn : Int32) (s : AS) (w1 : Hw) : Prop := ∃ (w : Hw) (gl gl1 : Nat → Option Nat), CS g w0 x nA cA lA kn s w ∧ w lA = some (.inl (4, 12, qc gl)) ∧ (∀ i b, gl1 i = some b → isR w b) ∧ w1 = upw w lA (.inl (4, 12, qc gl1))
theorem SW.of {s : AS} (h : CS g w0 x nA cA lA kn s w) : SW g w0 x nA cA lA kn s w := by
  obtain ⟨gc, gl, ⟨h1, h2, h3, h4, h5, h6, -⟩, -⟩ := h.1.opn g
  exact ⟨w, gl, gl, h, h4, h6, (upw_id h4).symm⟩
theorem SW.opn {s : AS} (h : SW g w0 x nA cA lA kn s w) : ∃ gc gl : Nat → Option Nat, RO5 g w x nA cA lA s.2.2.1 s.2.2.2.2.1 kn s.2.2.2.2.2 s.1 gc gl := by
  obtain ⟨w, gl, gl1, hC, hl, h6', rfl⟩ := h
  obtain ⟨gc, gl', ⟨h1, h2, h3, h4, h5, h6, h7, h8, -, -, -, -, ⟨d1, d2, d3, d4, d5, d6⟩, ⟨d7, d8, d9, d10, d11, d12⟩⟩, -⟩ := hC.1.opn g
  have g1 := (upw_n (o := .inl (4, 12, qc gl1)) d3).trans h1
  have g2 := (upw_n (o := .inl (4, 12, qc gl1)) d6).trans h2
  have g3 := (upw_n (o := .inl (4, 12, qc gl1)) d9).trans h3
  have g4 := upw_s w lA (.inl (4, 12, qc gl1))
  exact ⟨gc, gl1, g1, g2, g3, g4, fun i b z => isR_up2 (h5 i b z) hl (by simp), fun i b z => isR_up2 (h6' i b z) hl (by simp), h7, h8, rd_e g1, rd_e g2, rd_e g3, rd_e g4, ⟨d1, d2, d3, d4, d5, d6⟩, ⟨d7, d8, d9, d10, d11, d12⟩⟩
theorem SW.nul {s : AS} {gl : Nat → Option Nat} (h : SW g w0 x nA cA lA kn s w) (hl : w lA = some (.inl (4, 12, qc gl))) (j : Nat) : SW g w0 x nA cA lA kn s (upw w lA (.inl (4, 12, qc (va_up gl j none)))) := by
  obtain ⟨w, gl', gl1, hC, hl', h6, rfl⟩ := h
  rw [upw_s] at hl
  cases hl
  exact ⟨w, gl', va_up gl j none, hC, hl', up_ok h6 (fun c e => by cases e), upw_upw⟩
theorem SW.fin {s : AS} (h : SW g w0 x nA cA lA kn s w) (F : Nat → R4) : CS g w0 x nA cA lA kn (sP_ s 0 F) (upw w x (.inr (5, [.ref nA, .ref cA, .ref lA, .int 0, .int s.2.2.2.2.1, .int kn, .int s.2.2.2.2.2]))) := by
  obtain ⟨w, gl', gl1, hC, hl, h6, rfl⟩ := h
  obtain ⟨gc, gl', ⟨h1, h2, h3, h4, h5, -, -, -, -, -, -, -, ⟨d1, d2, d3, d4, d5, d6⟩, ⟨d7, d8, d9, d10, d11, d12⟩⟩, k1, k2⟩ := hC.1.opn g
  have hx' := (upw_n (o := .inl (4, 12, qc gl1)) d3).trans h1
  have R : ∀ c q, rAt w c q → rAt (upw (upw w lA (.inl (4, 12, qc gl1))) x (.inr (5, [.ref nA, .ref cA, .ref lA, .int 0, .int s.2.2.2.2.1, .int kn, .int s.2.2.2.2.2]))) c q := fun c q hc => rAt_up2 (rAt_up2 hc hl (by simp)) hx' (by simp)
  have RR : ∀ c, isR w c → isR (upw (upw w lA (.inl (4, 12, qc gl1))) x (.inr (5, [.ref nA, .ref cA, .ref lA, .int 0, .int s.2.2.2.2.1, .int kn, .int s.2.2.2.2.2]))) c := fun c hc => isR_up2 (isR_up2 hc hl (by simp)) hx' (by simp)
  exact ⟨⟨gc, gl1, ⟨upw_s _ _ _, by rw [upw_n d4, upw_n d6]; exact h2, by rw [upw_n d7, upw_n d9]; exact h3, by rw [upw_n d10]; exact upw_s _ _ _, fun i c z => RR c (h5 i c z), fun i c z => RR c (h6 i c z), show ¬ (0 : Int32) < 0 by decide, show ¬ (12 : Int32) < 0 by decide⟩, fun i hi => (k1 i hi).mp R, fun i hi => by
    have hi' : (i : Int) < (0 : Int32).toInt := hi
    have e0 : (0 : Int32).toInt = 0 := rfl
    omega⟩, (hC.2.up hl (Or.inr rfl)).up hx' (Or.inr rfl)⟩
set_option maxHeartbeats 4000000 in
theorem flX1_sweep_7 {s : AS} (hQ : ∀ w', (∀ F, CS g w0 x nA cA lA kn (sP_ s 0 F) w') → Q (.inl (some (.int s.2.2.1))) w') : ∀ (d j : Nat) (w : Hw) (k m : Nat), j + d = 12 → SW g w0 x nA cA lA kn s w → k ≤ 0 → m ≤ 0 → WP (MX1_sweep g) Q (7, [some (.ref x), some (.int s.2.2.1), some (.int (Int32.ofNat j))], [], w, k, m) := by
  intro d
  induction d with
  | zero =>
    intro j w k m hjd hC hk hm
    obtain ⟨gc, gl, hx, hn, hc, hl, hgc, hgl, hn0, hn1, rx, rn, rc, rl, ⟨d1, d2, d3, d4, d5, d6⟩, ⟨d7, d8, d9, d10, d11, d12⟩⟩ := hC.opn
    have h9 : j < 1000 := by omega
    have hlt : ¬ Int32.ofNat j < 12 := oNg (B := 12) h9 rfl (by omega)
    rw [eX1_sweep_7]
    repeat' first
      | with_reducible assumption
      | with_reducible refine And.intro ?_ ?_
      | with_reducible exact vpi6 (by assumption) (by assumption)
      | with_reducible exact vpi8 (by assumption) (by assumption)
      | with_reducible exact trivial
      | ((with_reducible refine isQ (Q := Q) ?_); exact hQ _ (fun F => hC.fin F))
      | simp only [eX1_sweep_0, eX1_sweep_0N, eX1_sweep_1, eX1_sweep_4, eX1_sweep_5, eX1_sweep_6, eX1_sweep_8, eX1_sweep_8N, eX1_sweep_9, eX1_sweep_12, eX1_sweep_13, eX1_sweep_16, eX1_sweep_16N, eX1_sweep_17, eX1_sweep_20, eX1_sweep_21, eX1_sweep_22N, eX1_sweep_22R, eX1_sweep_23, eX1_sweep_26, eX1_sweep_29, eX1_sweep_29N, eX1_sweep_30, eX1_sweep_31, eX1_sweep_34, eX1_sweep_35, lgp, lgn, lgz, i10, i00, if_true, if_false, eq_self, not_true, not_false_eq_true, rx, rn, rc, rl, hx, hn, hc, hl, d1, d2, d3, d4, d5, d6, d7, d8, d9, d10, d11, d12, rd_n, upw_n, hlt, exal, o12, ite_le, n45, n54, true_or, or_true, false_or, or_false, false_and, and_false, kx_l, kx_r, go_s, gl_s, gi_s, gb_s2, gb_s3, gq_s, wt_nil, wt_int, wt_long, wt_ref, wt_null, nl_int, nl_long, nl_ref, nl_null, nl_none, rf_n, rf_s, rf_st, tl_s, tl_n, g0, gS, ex1, nb_b, nb_0, nb_1, nf_i, nf_l, nf_ra, nf_ro, nf_na, nf_no, nf_b0, nf_z0, t45_4, t45_5, true_and, and_true, List.set_cons_zero, List.set_cons_succ, List.length_cons, List.length_nil, rd_s, upw_s, ne_eq, not_false_eq_true, Nat.zero_add, Nat.add_zero]
      | split
      | with_reducible intro _
      | omega
  | succ d ih =>
    intro j w k m hjd hC hk hm
    obtain ⟨gc, gl, hx, hn, hc, hl, hgc, hgl, hn0, hn1, rx, rn, rc, rl, ⟨d1, d2, d3, d4, d5, d6⟩, ⟨d7, d8, d9, d10, d11, d12⟩⟩ := hC.opn
    have h9 : j < 1000 := by omega
    have hlt : Int32.ofNat j < 12 := oNl (B := 12) h9 rfl (by omega)
    have hcl := oNc h9
    rw [eX1_sweep_7]
    repeat' first
      | with_reducible assumption
      | with_reducible refine And.intro ?_ ?_
      | with_reducible exact vpi6 (by assumption) (by assumption)
      | with_reducible exact vpi8 (by assumption) (by assumption)
      | with_reducible exact trivial
      | with_reducible exact vpj (by omega)
      | (rw [oN1]; exact ih (j + 1) _ _ _ (by omega) (hC.nul hl _) (by first | assumption | omega) (by first | assumption | omega))
      | simp only [eX1_sweep_0, eX1_sweep_0N, eX1_sweep_1, eX1_sweep_4, eX1_sweep_5, eX1_sweep_6, eX1_sweep_8, eX1_sweep_8N, eX1_sweep_9, eX1_sweep_12, eX1_sweep_13, eX1_sweep_16, eX1_sweep_16N, eX1_sweep_17, eX1_sweep_20, eX1_sweep_21, eX1_sweep_22N, eX1_sweep_22R, eX1_sweep_23, eX1_sweep_26, eX1_sweep_29, eX1_sweep_29N, eX1_sweep_30, eX1_sweep_31, eX1_sweep_34, eX1_sweep_35, lgp, lgn, lgz, i10, i00, if_true, if_false, eq_self, not_true, not_false_eq_true, rx, rn, rc, rl, hx, hn, hc, hl, d1, d2, d3, d4, d5, d6, d7, d8, d9, d10, d11, d12, rd_n, upw_n, hlt, hcl, exal, o12, ite_le, n45, n54, true_or, or_true, false_or, or_false, false_and, and_false, kx_l, kx_r, go_s, gl_s, gi_s, gb_s2, gb_s3, gq_s, wt_nil, wt_int, wt_long, wt_ref, wt_null, nl_int, nl_long, nl_ref, nl_null, nl_none, rf_n, rf_s, rf_st, tl_s, tl_n, g0, gS, ex1, nb_b, nb_0, nb_1, nf_i, nf_l, nf_ra, nf_ro, nf_na, nf_no, nf_b0, nf_z0, t45_4, t45_5, true_and, and_true, List.set_cons_zero, List.set_cons_succ, List.length_cons, List.length_nil, rd_s, upw_s, ne_eq, not_false_eq_true, Nat.zero_add, Nat.add_zero]
      | split
      | with_reducible intro _
      | omega
set_option maxHeartbeats 4000000 in
theorem fX1_sweep {s : AS} (hC : CS g w0 x nA cA lA kn s w) (hQ : ∀ w', (∀ F, CS g w0 x nA cA lA kn (sP_ s 0 F) w') → Q (.inl (some (.int s.2.2.1))) w') : WP (MX1_sweep g) Q (0, [some (.ref x), none, none], [], w, 0, 0) := by
  obtain ⟨gc, gl, ⟨hx, hn, hc, hl, hgc, hgl, hn0, hn1, rx, rn, rc, rl, ⟨d1, d2, d3, d4, d5, d6⟩, ⟨d7, d8, d9, d10, d11, d12⟩⟩, hcd, hpl⟩ := hC.1.opn g
  repeat' first
    | with_reducible assumption
    | with_reducible refine And.intro ?_ ?_
    | with_reducible exact vpi6 (by assumption) (by assumption)
    | with_reducible exact vpi8 (by assumption) (by assumption)
    | with_reducible exact trivial
    | ((with_reducible refine isWP (pc := 7) ?_); exact flX1_sweep_7 hQ 12 0 w 0 0 rfl (SW.of hC) (by decide) (by decide))
    | simp only [eX1_sweep_0, eX1_sweep_0N, eX1_sweep_1, eX1_sweep_4, eX1_sweep_5, eX1_sweep_6, eX1_sweep_8, eX1_sweep_8N, eX1_sweep_9, eX1_sweep_12, eX1_sweep_13, eX1_sweep_16, eX1_sweep_16N, eX1_sweep_17, eX1_sweep_20, eX1_sweep_21, eX1_sweep_22N, eX1_sweep_22R, eX1_sweep_23, eX1_sweep_26, eX1_sweep_29, eX1_sweep_29N, eX1_sweep_30, eX1_sweep_31, eX1_sweep_34, eX1_sweep_35, lgp, lgn, lgz, i10, i00, if_true, if_false, eq_self, not_true, not_false_eq_true, rx, rn, rc, rl, hx, hn, hc, hl, d1, d2, d3, d4, d5, d6, d7, d8, d9, d10, d11, d12, rd_n, upw_n, ite_le, n45, n54, true_or, or_true, false_or, or_false, false_and, and_false, kx_l, kx_r, go_s, gl_s, gi_s, gb_s2, gb_s3, gq_s, wt_nil, wt_int, wt_long, wt_ref, wt_null, nl_int, nl_long, nl_ref, nl_null, nl_none, rf_n, rf_s, rf_st, tl_s, tl_n, g0, gS, ex1, nb_b, nb_0, nb_1, nf_i, nf_l, nf_ra, nf_ro, nf_na, nf_no, nf_b0, nf_z0, t45_4, t45_5, true_and, and_true, List.set_cons_zero, List.set_cons_succ, List.length_cons, List.length_nil, rd_s, upw_s, ne_eq, not_false_eq_true, Nat.zero_add, Nat.add_zero]
    | split
    | with_reducible intro _
    | omega
end
end
