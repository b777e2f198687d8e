section
section
variable {g : RO} {Q : Ot → Hw → Prop} {w0 w : Hw}
variable {y nM : Nat} {kd : Int32}
/-- the pile's size is n -/
def PN (g : RO) (w : Hw) (y : Nat) (n : Int32) : Prop := ∃ (nM cL pL D c : Nat) (h : Nat → Option Nat), isY w y nM cL pL ∧ LL g w pL D c n h ∧ (∀ i b, h i = some b → isRow w b) ∧ n.toInt ≤ 12 ∧ ∀ i : Nat, (i : Int) < n.toInt → ∃ b, h i = some b
theorem PN.ofM (h : MM g w0 y nM kd w) : ∃ n, PN g w y n := by
  obtain ⟨cL, pL, D1, D2, c1, c2, th, rf, md, n, f, h1, h2, a1, a2, a3, a4, a5, a6, a7, a8, a9, b1⟩ := h.1
  exact ⟨n, nM, cL, pL, D2, c2, h2, ⟨_, _, _, _, a1⟩, a5, a6, a7, b1⟩
theorem PN.bd {n : Int32} (h : PN g w y n) : 0 ≤ n.toInt ∧ n.toInt ≤ 12 := by
  obtain ⟨nM, cL, pL, D, c, h, h1, h2, h3, h4, h5⟩ := h
  exact ⟨h2.2.2.1, h4⟩
theorem PN.m {n : Int32} (h : PN g w y n) : (n : Int32).toInt - (0 : Int32).toInt ≤ ((70 : Nat) : Int) := by
  have k := h.bd
  have e : (0 : Int32).toInt = 0 := rfl
  omega
theorem PN.set {n : Int32} {nM' cL pL : Nat} {th rf md kd0 th' rf' md' kd' : Int32} (h : PN g w y n) (hy : w y = some (.inr (7, [.int th, .ref nM', .ref cL, .ref pL, .int rf, .int kd0, .int md]))) : PN g (upw w y (.inr (7, [.int th', .ref nM', .ref cL, .ref pL, .int rf', .int kd', .int md']))) y n := by
  obtain ⟨nM1, cL1, pL1, D, c, hh, h1, h2, h3, h4, h5⟩ := h
  obtain ⟨e0, e1, e2⟩ := h1.un ⟨_, _, _, _, hy⟩
  subst e0 e1 e2
  exact ⟨_, _, _, D, c, hh, ⟨_, _, _, _, upw_s _ _ _⟩, h2.up hy (fun _ e => by cases e) (fun _ e => by cases e), fun i b z => isRow_up (h3 i b z) hy (fun _ e => by cases e), h4, h5⟩
theorem PN.ext {n : Int32} {w' : Hw} (h : PN g w y n) (k : ext g w w') : PN g w' y n := by
  obtain ⟨nM1, cL1, pL1, D, c, hh, h1, h2, h3, h4, h5⟩ := h
  exact ⟨_, _, _, D, c, hh, h1.ext k, h2.kp (fun fs e => k.1 _ _ e) (fun z e => k.1 _ _ e) (fun o e1 e2 => k.2 _ o e1 e2), fun i b z => (h3 i b z).ext k, h4, h5⟩
theorem sSizeY {n : Int32} {nM' cL pL : Nat} (hP : PN g w y n) (hY : isY w y nM' cL pL) (hQ : Q (.inl (some (.int n))) w) : WP (MJx4a65c_size_8abf5 g) Q (0, [some (.ref pL)], [], w, 0, 0) := by
  obtain ⟨nM1, cL1, pL1, D, c, hh, h1, h2, h3, h4, h5⟩ := hP
  obtain ⟨-, -, e2⟩ := h1.un hY
  subst e2
  exact sJx4a65c_size h2 hQ
theorem sSizeM {cL pL : Nat} (hM : MM g w0 y nM kd w) (hY : isY w y nM cL pL) (hQ : ∀ n, PN g w y n → Q (.inl (some (.int n))) w) : WP (MJx4a65c_size_8abf5 g) Q (0, [some (.ref pL)], [], w, 0, 0) := by
  obtain ⟨n, hP⟩ := PN.ofM hM
  exact sSizeY hP hY (hQ _ hP)
theorem sGetP {n i : Int32} {nM' cL pL : Nat} (hP : PN g w y n) (hY : isY w y nM' cL pL) (k0 : ¬ i < 0) (k1 : i < n) (hQ : ∀ b, isRow w b → Q (.inl (some (.ref b))) w) : WP (MJx4a65c_get_915e3 g) Q (0, [some (.ref pL), some (.int i)], [], w, 0, 0) := by
  obtain ⟨nM1, cL1, pL1, D, c, hh, h1, h2, h3, h4, h5⟩ := hP
  obtain ⟨-, -, e2⟩ := h1.un hY
  subst e2
  have q0 := i32_0 k0
  have q1 := i32_lt k1
  refine sJx4a65c_get h2 q0 q1 (fun e => ?_) (fun b e => hQ b (h3 _ _ e))
  obtain ⟨b, hb⟩ := h5 i.toNatClampNeg (by
    have t : i.toNatClampNeg = i.toInt.toNat := rfl
    omega)
  rw [hb] at e
  cases e
theorem MM.eg (h : MM g w0 y nM kd w) (hE : EG g w0) : EG g w := ⟨hE.1.imp fun e z => ⟨z.1, z.2.1, h.2.2 e _ z.2.1 z.2.2⟩, hE.2⟩
/-- the pile's list another: one row more or less -/
theorem MM.lpo {cL pL D1 D2 c1 c2 : Nat} {th rf md n n' : Int32} {f : Nat → Int64} {h1 h2 : Nat → Option Nat} {w' : Hw} {H : (Nat → Option Nat) → Prop} (h : MM g w0 y nM kd w) (a1 : w y = some (.inr (7, [.int th, .ref nM, .ref cL, .ref pL, .int rf, .int kd, .int md]))) (a2 : w nM = some (.inl (0, 8, .inr (.inl f)))) (a3 : LL g w cL D1 c1 6 h1) (a4 : ∀ i b, h1 i = some b → isRow w b) (a5 : LL g w pL D2 c2 n h2) (a8 : cL ≠ pL) (a9 : D1 ≠ D2) (hD : w D1 = some (.inl (5, c1, qc h1))) (hl : LPo g w w' pL D2 n' H) (hn : n'.toInt ≤ 12) (hH : ∀ h', H h' → ∀ i : Nat, (i : Int) < n'.toInt → ∃ b, h' i = some b) : MM g w0 y nM kd w' := by
  obtain ⟨D', c', h', l1, l2, f1, f2, fD, hh⟩ := hl
  have hL := a5.1
  obtain ⟨mcp, hL⟩ := hL
  have nD : ∀ {a : Nat} {o : Ob}, w a = some o → (∀ z, o ≠ .inl (5, z)) → a ≠ D2 := fun ha ho e => by
    rcases a5.2.1 with ⟨k, -⟩ | ⟨-, -, k, -⟩
    · rw [e, k] at ha
      cases ha
      exact ho _ rfl
    · rw [e, k] at ha
      cases ha
  have mv : ∀ {a : Nat} {o : Ob}, w a = some o → (∀ z, o ≠ .inl (5, z)) → (∀ fs, o ≠ .inr (3, fs)) → w' a = some o := fun ha h5 h3 => f1 _ _ ha (ne_of ha hL (h3 _)) (nD ha h5)
  have rw1 : ∀ b, isRow w b → isRow w' b := fun b ⟨f0, hb⟩ => ⟨f0, mv hb (fun _ e => by cases e) (fun _ e => by cases e)⟩
  refine ⟨⟨cL, pL, D1, D', c1, c', th, rf, md, n', f, h1, h', mv a1 (fun _ e => by cases e) (fun _ e => by cases e), mv a2 (fun _ e => by cases e) (fun _ e => by cases e), ?_, fun i b z => rw1 b (a4 i b z), l1, l2, hn, a8, ?_, hH h' hh⟩, h.2.tr ⟨fun a o e1 e2 e3 => ?_, f2⟩⟩
  · refine a3.kp (fun fs e => f1 _ _ e a8 (nD e (fun _ e => by cases e))) (fun z e => f1 _ _ e (ne_of e hL (fun e => by cases e)) a9) (fun o e1 e2 => f2 _ _ e1 e2)
  · rcases fD with rfl | ⟨fD, -⟩
    · exact a9
    · intro e
      rw [e, fD] at hD
      cases hD
  · refine mv e1 (fun z e => ?_) (fun fs e => ?_)
    · subst e
      cases e3
    · subst e
      cases e3
end
end
