section
variable {g : RO} {Q : Ot → Hw → Prop} {w : Hw} {x nA cA lA y nM o : Nat} {kn km : Int32}
/-! THE LAW: its state -/
/-- the object, the reference, what is handed between them; nothing old is written -/
def LWS (g : RO) (w : Hw) (x nA cA lA y nM o : Nat) (kn km : Int32) : Prop := RC w x nA cA lA kn ∧ RMo g w y nM km ∧ nA ≠ nM ∧ (∃ a b : Value, w o = some (.inr (6, [a, b]))) ∧ ∀ (a : Nat) (z : Ob), g.2 a = some z → w a = none
theorem hgo_h {M : MT} {P : St → Prop} {pc : Nat} {L : List (Option Value)} {E : String} {k n h : Nat} {HH : List (Nat × Nat × Nat × Nat)} {NN : List (Nat × String)} (e1 : M.hh = HH) (e2 : M.hnm = NN) (h1 : hfind NN pc E HH = some h) (h2 : E ∈ EX3) (kk : ∀ q : Nat, P (h, L, [.ref q], w, k, n)) : hgo M Q P pc L E w k n := by
  refine ⟨Or.inr h2, ?_⟩
  rw [e1, e2, h1]
  exact kk
theorem LWS.cc (h : LWS g w x nA cA lA y nM o kn km) : CC g w x nA cA lA kn w := ⟨h.1, FC.rf⟩
theorem LWS.mm (h : LWS g w x nA cA lA y nM o kn km) : MM g w y nM km w := ⟨h.2.1, FM.rf⟩
theorem LWS.of {kn' : Int32} {w' : Hw} (h : LWS g w x nA cA lA y nM o kn km) (k : CC g w x nA cA lA kn' w') : LWS g w' x nA cA lA y nM o kn' km := by
  obtain ⟨h1, h2, h3, ⟨a, b, h4⟩, h5⟩ := h
  obtain ⟨n, rf, md, f, gc, gl, r1, r2, -⟩ := h1
  exact ⟨k.1, h2.FC k.2 r2 h3.symm, h3, ⟨a, b, k.2.ne r2 h4 (fun e => by cases e) rfl⟩, fun a z e => k.2.2 a z e (h5 a z e)⟩
theorem LWS.ofM {km' : Int32} {w' : Hw} (h : LWS g w x nA cA lA y nM o kn km) (k : MM g w y nM km' w') : LWS g w' x nA cA lA y nM o kn km' := by
  obtain ⟨h1, h2, h3, ⟨a, b, h4⟩, h5⟩ := h
  obtain ⟨cL, pL, D1, D2, c1, c2, th, rf, md, n, f, q1, q2, a1, a2, -⟩ := h2
  refine ⟨h1.FM k.2 ⟨f, a2⟩ h3, k.1, h3, ⟨a, b, k.2.1 _ _ h4 (ne_of h4 a2 (fun e => by cases e)) rfl⟩, fun a z e => k.2.2 a z e (h5 a z e)⟩
theorem LWS.ext {w' : Hw} (h : LWS g w x nA cA lA y nM o kn km) (k : ext g w w') : LWS g w' x nA cA lA y nM o kn km := h.of (h.cc.ext k)
/-- what is handed on is written -/
theorem LWS.out {a b a' b' : Value} (h : LWS g w x nA cA lA y nM o kn km) (ho : w o = some (.inr (6, [a, b]))) : LWS g (upw w o (.inr (6, [a', b']))) x nA cA lA y nM o kn km := by
  obtain ⟨h1, h2, h3, -, h5⟩ := h
  obtain ⟨n, rf, md, f, gc, gl, r1, r2, r3, r4, r5, r6, r7⟩ := h1
  obtain ⟨cL, pL, D1, D2, c1, c2, th, rf', md', n', f', q1, q2, a1, a2, a3, a4, a5, a6, a7⟩ := h2
  have mv : ∀ {a : Nat} {z : Ob}, w a = some z → (∀ fs, z ≠ .inr (6, fs)) → upw w o (.inr (6, [a', b'])) a = some z := fun e n => by
    rw [upw_n (ne_of e ho (n _))]
    exact e
  have rr : ∀ b, isR w b → isR (upw w o (.inr (6, [a', b']))) b := fun b ⟨r0, r1, r2, r3, hb⟩ => ⟨r0, r1, r2, r3, mv hb (fun _ e => by cases e)⟩
  refine ⟨⟨n, rf, md, f, gc, gl, mv r1 (fun _ e => by cases e), mv r2 (fun _ e => by cases e), mv r3 (fun _ e => by cases e), mv r4 (fun _ e => by cases e), fun i b z => rr b (r5 i b z), fun i b z => rr b (r6 i b z), r7⟩, ⟨cL, pL, D1, D2, c1, c2, th, rf', md', n', f', q1, q2, mv a1 (fun _ e => by cases e), mv a2 (fun _ e => by cases e), a3.up ho (fun _ e => by cases e) (fun _ e => by cases e), fun i b z => isRow_up (a4 i b z) ho (fun _ e => by cases e), a5.up ho (fun _ e => by cases e) (fun _ e => by cases e), fun i b z => isRow_up (a6 i b z) ho (fun _ e => by cases e), a7⟩, h3, ⟨a', b', upw_s _ _ _⟩, fun a z e => ?_⟩
  rw [upw_n]
  · exact h5 a z e
  · rintro rfl
    rw [h5 _ _ e] at ho
    cases ho
theorem go_Ow {K : List Value → Prop} (h : LWS g w x nA cA lA y nM o kn km) (k : ∀ a b : Value, (∀ a' b' : Value, LWS g (upw w o (.inr (6, [a', b']))) x nA cA lA y nM o kn km) → K [a, b]) : go (w o) 6 K := by
  obtain ⟨a, b, ho⟩ := h.2.2.2.1
  rw [ho, go_s]
  exact k a b (fun _ _ => h.out ho)
theorem go_X {K : List Value → Prop} (h : LWS g w x nA cA lA y nM o kn km) (k : ∀ fs, K fs) : go (rd g w x) 5 K := by
  obtain ⟨n, rf, md, f, gc, gl, r1, -⟩ := h.1
  rw [rd_e r1, go_s]
  exact k _
theorem go_Z {K : List Value → Prop} (h : LWS g w x nA cA lA y nM o kn km) (k : ∀ fs, K fs) : go (rd g w y) 7 K := by
  obtain ⟨cL, pL, D1, D2, c1, c2, th, rf', md', n', f', q1, q2, a1, -⟩ := h.2.1
  rw [rd_e a1, go_s]
  exact k _
/-- what the old cells and numbers hold -/
def RG (g : RO) : Prop := SG g ∧ ((∃ e : Nat, g.1 0 = .ref e ∧ g.2 e = some (.inl (5, 0, qc fun _ => none))) ∧ ∃ mi : Nat, g.1 10 = .ref mi) ∧ ((∃ (a : Nat) (f : Nat → Int32), g.1 2 = .ref a ∧ g.2 a = some (.inl (2, 100, .inl f))) ∧ ∃ (a : Nat) (f : Nat → Int32), g.1 3 = .ref a ∧ g.2 a = some (.inl (2, 100, .inl f))) ∧ (∃ s, g.1 20 = .ref s) ∧ (∃ s, g.1 22 = .ref s) ∧ (∃ s, g.1 21 = .ref s ∧ (∃ (v M : Nat) (f : Nat → Int32) (h z : Value), g.2 s = some (.inr (0, [.ref v, .int 0, h, z])) ∧ g.2 v = some (.inl (2, M, .inl f)) ∧ bOK M f ∧ M ≤ 8) ∧ STB g s 0) ∧ ∃ s, g.1 23 = .ref s ∧ (∃ (v M : Nat) (f : Nat → Int32) (h z : Value), g.2 s = some (.inr (0, [.ref v, .int 0, h, z])) ∧ g.2 v = some (.inl (2, M, .inl f)) ∧ bOK M f ∧ M ≤ 8) ∧ STB g s 1
theorem RG.eg (h : RG g) (k : ∀ (a : Nat) (z : Ob), g.2 a = some z → w a = none) : EG g w := ⟨h.2.1.1.imp fun _ z => ⟨z.1, z.2, k _ _ z.2⟩, h.2.1.2⟩
theorem RG.dg (h : RG g) (k : ∀ (a : Nat) (z : Ob), g.2 a = some z → w a = none) : DG g w := ⟨h.1.1, h.2.2.1.1.imp fun _ z => z.imp fun _ z => ⟨z.1, z.2, k _ _ z.2⟩, h.2.2.1.2.imp fun _ z => z.imp fun _ z => ⟨z.1, z.2, k _ _ z.2⟩⟩
theorem RG.tx (h : RG g) (k : ∀ (a : Nat) (z : Ob), g.2 a = some z → w a = none) : TXT g w := by
  obtain ⟨-, -, -, -, h22, ⟨s, e1, ⟨v, M, f, h, z, q1, q2, q3, q4⟩, e3⟩, s', e1', ⟨v', M', f', h', z', q1', q2', q3', q4'⟩, e3'⟩ := h
  exact ⟨⟨s, e1, ⟨v, M, f, h, z, q1, k _ _ q1, q2, k _ _ q2, q3, q4⟩, e3⟩, h22, s', e1', ⟨v', M', f', h', z', q1', k _ _ q1', q2', k _ _ q2', q3', q4'⟩, e3'⟩
theorem RG.sg (h : RG g) : SG g := h.1
theorem RG.r20 (h : RG g) : ∃ s, g.1 20 = .ref s := h.2.2.2.1
theorem LWS.ro (h : LWS g w x nA cA lA y nM o kn km) : ∀ (a : Nat) (z : Ob), g.2 a = some z → w a = none := h.2.2.2.2
end
