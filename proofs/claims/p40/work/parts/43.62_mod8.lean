section
section
variable {g : RO} {Q : Ot → Hw → Prop} {w0 w : Hw}
variable {y nM : Nat} {kd : Int32}
/-- the object's parts -/
def isY (w : Hw) (y nM cL pL : Nat) : Prop := ∃ th rf kd md : Int32, w y = some (.inr (7, [.int th, .ref nM, .ref cL, .ref pL, .int rf, .int kd, .int md]))
theorem isY.ext {cL pL : Nat} {w' : Hw} (h : isY w y nM cL pL) (k : ext g w w') : isY w' y nM cL pL := by
  obtain ⟨a, b, c, d, h⟩ := h
  exact ⟨a, b, c, d, k.1 _ _ h⟩
theorem isY.s {cL pL : Nat} {th rf kd0 md : Int32} : isY (upw w y (.inr (7, [.int th, .ref nM, .ref cL, .ref pL, .int rf, .int kd0, .int md]))) y nM cL pL := ⟨_, _, _, _, upw_s _ _ _⟩
theorem isY.fr {cL pL q : Nat} {o : Ob} (h : isY w y nM cL pL) (hq : rd g w q = none) : isY (upw w q o) y nM cL pL := h.ext (ext_up2 ext.rf hq)
theorem isY.un {cL pL nM' cL' pL' : Nat} (h : isY w y nM cL pL) (k : isY w y nM' cL' pL') : nM' = nM ∧ cL' = cL ∧ pL' = pL := by
  obtain ⟨a, b, c, d, h⟩ := h
  obtain ⟨a', b', c', d', k⟩ := k
  rw [h] at k
  cases k
  exact ⟨rfl, rfl, rfl⟩
theorem go_Y {K : List Value → Prop} (h : MM g w0 y nM kd w) (k : ∀ (cL pL : Nat) (th rf md : Int32), isY w y nM cL pL → K [.int th, .ref nM, .ref cL, .ref pL, .int rf, .int kd, .int md]) : go (rd g w y) 7 K := by
  obtain ⟨cL, pL, D1, D2, c1, c2, th, rf, md, n, f, h1, h2, hy, hn, ry, rn, -⟩ := h.1.opn g
  rw [ry, go_s]
  exact k _ _ _ _ _ ⟨_, _, _, _, hy⟩
theorem MM.yC {cL pL : Nat} (h : MM g w0 y nM kd w) (hY : isY w y nM cL pL) : ∃ (D1 D2 c1 c2 : Nat) (th rf md n : Int32) (f : Nat → Int64) (h1 h2 : Nat → Option Nat), w y = some (.inr (7, [.int th, .ref nM, .ref cL, .ref pL, .int rf, .int kd, .int md])) ∧ w nM = some (.inl (0, 8, .inr (.inl f))) ∧ LL g w cL D1 c1 6 h1 ∧ (∀ i b, h1 i = some b → isRow w b) ∧ LL g w pL D2 c2 n h2 ∧ (∀ i b, h2 i = some b → isRow w b) ∧ n.toInt ≤ 12 ∧ cL ≠ pL ∧ D1 ≠ D2 ∧ (∀ i : Nat, (i : Int) < n.toInt → ∃ b, h2 i = some b) ∧ w D1 = some (.inl (5, c1, qc h1)) ∧ (c1 = 10 ∨ c1 = 15) := by
  obtain ⟨cL1, pL1, D1, D2, c1, c2, th, rf, md, n, f, h1, h2, a1, a2, a3, a4, a5, a6, a7, a8, a9, b1⟩ := h.1
  obtain ⟨-, e1, e2⟩ := hY.un ⟨_, _, _, _, a1⟩
  subst e1 e2
  refine ⟨D1, D2, c1, c2, th, rf, md, n, f, h1, h2, a1, a2, a3, a4, a5, a6, a7, a8, a9, b1, ?_⟩
  rcases a3.2.1 with k | ⟨k, -⟩
  · exact k
  · have k2 := a3.2.2.2
    have e6 : (6 : Int32).toInt = 6 := rfl
    omega
theorem gtC {cL pL : Nat} (h : MM g w0 y nM kd w) (hY : isY w y nM cL pL) : go (rd g w cL) 3 fun _ => True := by
  obtain ⟨D1, D2, c1, c2, th, rf, md, n, f, h1, h2, a1, a2, a3, a4, a5, -⟩ := h.yC hY
  exact a3.gt
theorem gtP {cL pL : Nat} (h : MM g w0 y nM kd w) (hY : isY w y nM cL pL) : go (rd g w pL) 3 fun _ => True := by
  obtain ⟨D1, D2, c1, c2, th, rf, md, n, f, h1, h2, a1, a2, a3, a4, a5, -⟩ := h.yC hY
  exact a5.gt
theorem sGetY {cL pL b : Nat} {i : Int32} (hC : CAt g w y i (some b)) (hY : isY w y nM cL pL) (k0 : ¬ i < 0) (k1 : ¬ 5 < i) (hQ : Q (.inl (some (.ref b))) w) : WP (MJx4a65c_get_915e3 g) Q (0, [some (.ref cL), some (.int i)], [], w, 0, 0) := by
  obtain ⟨nM1, cL1, pL1, D, c, th1, rf1, kd1, md1, hh, a1, a2, a3, a4⟩ := hC
  obtain ⟨-, e1, e2⟩ := hY.un ⟨_, _, _, _, a1⟩
  subst e1 e2
  exact sGetC a2 a4 k0 k1 hQ
/-- the cards' array written -/
theorem MM.crd {cL pL D1 D2 c1 c2 : Nat} {th rf md n : Int32} {f : Nat → Int64} {h1 h2 h' : Nat → Option Nat} (h : MM g w0 y nM kd w) (a1 : w y = some (.inr (7, [.int th, .ref nM, .ref cL, .ref pL, .int rf, .int kd, .int md]))) (a2 : w nM = some (.inl (0, 8, .inr (.inl f)))) (a3 : LL g w cL D1 c1 6 h1) (a5 : LL g w pL D2 c2 n h2) (a6 : ∀ i b, h2 i = some b → isRow w b) (a7 : n.toInt ≤ 12) (a8 : cL ≠ pL) (a9 : D1 ≠ D2) (b1 : ∀ i : Nat, (i : Int) < n.toInt → ∃ b, h2 i = some b) (hD : w D1 = some (.inl (5, c1, qc h1))) (hc : c1 = 10 ∨ c1 = 15) (hr : ∀ i b, h' i = some b → isRow w b) : MM g w0 y nM kd (upw w D1 (.inl (5, c1, qc h'))) := by
  obtain ⟨⟨mc, hL⟩, -, h3, h4⟩ := a3
  refine ⟨⟨cL, pL, D1, D2, c1, c2, th, rf, md, n, f, h', h2, ?_, ?_, ⟨⟨mc, ?_⟩, Or.inl ⟨upw_s _ _ _, hc⟩, h3, h4⟩, fun i b z => isRow_up (hr i b z) hD (fun _ e => by cases e), ?_, fun i b z => isRow_up (a6 i b z) hD (fun _ e => by cases e), a7, a8, a9, b1⟩, h.2.up hD (Or.inr rfl)⟩
  · rw [upw_n (ne_of a1 hD (fun e => by cases e))]
    exact a1
  · rw [upw_n (ne_of a2 hD (fun e => by cases e))]
    exact a2
  · rw [upw_n (ne_of hL hD (fun e => by cases e))]
    exact hL
  · refine a5.kp (fun fs e => ?_) (fun z e => ?_) (fun o _ e => ?_)
    · rw [upw_n (ne_of e hD (fun e => by cases e))]
      exact e
    · rw [upw_n (Ne.symm a9)]
      exact e
    · rw [upw_n (Ne.symm a9)]
      exact e
theorem n4e : (4 : Int32).toNatClampNeg = 4 := rfl
theorem vpi4n {a : Int32} (h0 : ¬ a < 0) (h1 : ¬ 3 < a) : vp_in a 4 := vpiM (i32_0 h0) (by
  have h := i32_nlt h1
  have e : (3 : Int32).toInt = 3 := rfl
  omega)
end
end
