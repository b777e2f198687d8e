section
variable {g : RO} {Q : Ot → Hw → Prop} {w : Hw} {x nA cA lA y nM o : Nat} {kn km : Int32}
/-! THE LAW: its state, the class's ranges in order -/
def PO (o : Ob) : Prop := (∃ fs, o = .inr (5, fs)) ∨ (∃ fs, o = .inr (4, fs)) ∨ ∃ z, o = .inl (4, z)
theorem RFO.mv {w' : Hw} (h : RFO w x nA cA lA kn) (m : ∀ (a : Nat) (z : Ob), w a = some z → PO z → w' a = some z) (mN : ∀ f : Nat → Int64, w nA = some (.inl (0, 8, .inr (.inl f))) → w' nA = some (.inl (0, 8, .inr (.inl f)))) : RFO w' x nA cA lA kn := by
  obtain ⟨s, ho, gc, gl, ⟨h1, h2, h3, h4, h5, h6, h7⟩, k1, k2⟩ := h
  have r : ∀ b q, rAt w b q → rAt w' b q := fun b q hb => m _ _ hb (Or.inr (Or.inl ⟨_, rfl⟩))
  have rr : ∀ b, isR w b → isR w' b := fun b ⟨r0, r1, r2, r3, hb⟩ => ⟨r0, r1, r2, r3, m _ _ hb (Or.inr (Or.inl ⟨_, rfl⟩))⟩
  exact ⟨s, ho, gc, gl, ⟨m _ _ h1 (Or.inl ⟨_, rfl⟩), mN _ h2, m _ _ h3 (Or.inr (Or.inr ⟨_, rfl⟩)), m _ _ h4 (Or.inr (Or.inr ⟨_, rfl⟩)), fun i b z => rr b (h5 i b z), fun i b z => rr b (h6 i b z), h7⟩, fun i hi => (k1 i hi).mp r, fun i hi => (k2 i hi).imp fun b z => ⟨z.1, r _ _ z.2⟩⟩
theorem RFO.FM {w' : Hw} (h : RFO w x nA cA lA kn) (k : FM g nM w w') (hM : ∃ f : Nat → Int64, w nM = some (.inl (0, 8, .inr (.inl f)))) (hne : nA ≠ nM) : RFO w' x nA cA lA kn := by
  obtain ⟨fM, hM⟩ := hM
  refine h.mv (fun a z ha hP => k.1 a z ha (fun e => ?_) ?_) (fun f hf => k.1 _ _ hf hne rfl)
  · subst e
    rw [hM] at ha
    cases ha
    rcases hP with ⟨_, e⟩ | ⟨_, e⟩ | ⟨_, e⟩ <;> cases e
  · rcases hP with ⟨_, rfl⟩ | ⟨_, rfl⟩ | ⟨_, rfl⟩ <;> rfl
def LWO (g : RO) (w : Hw) (x nA cA lA y nM o : Nat) (kn km : Int32) : Prop := RFO w x nA cA lA kn ∧ RMo g w y nM km ∧ nA ≠ nM ∧ (∃ a b : Value, w o = some (.inr (6, [a, b]))) ∧ ∀ (a : Nat) (z : Ob), g.2 a = some z → w a = none
theorem LWO.l (h : LWO g w x nA cA lA y nM o kn km) : LWS g w x nA cA lA y nM o kn km := ⟨h.1.rc, h.2⟩
theorem LWO.cc (h : LWO g w x nA cA lA y nM o kn km) : CC g w x nA cA lA kn w := h.l.cc
theorem LWO.co (h : LWO g w x nA cA lA y nM o kn km) : CO g w x nA cA lA kn w := h.1.co
theorem LWO.mm (h : LWO g w x nA cA lA y nM o kn km) : MM g w y nM km w := h.l.mm
theorem LWO.of {kn' : Int32} {w' : Hw} (h : LWO g w x nA cA lA y nM o kn km) (k : CO g w x nA cA lA kn' w') : LWO g w' x nA cA lA y nM o kn' km := ⟨k.rfo, (h.l.of k.cc).2⟩
theorem LWO.ofM {km' : Int32} {w' : Hw} (h : LWO g w x nA cA lA y nM o kn km) (k : MM g w y nM km' w') : LWO g w' x nA cA lA y nM o kn km' := by
  have hl := (h.l.ofM k).2
  obtain ⟨h1, h2, h3, -⟩ := h
  obtain ⟨cL, pL, D1, D2, c1, c2, th, rf, md, n, f, q1, q2, a1, a2, -⟩ := h2
  exact ⟨h1.FM k.2 ⟨f, a2⟩ h3, hl⟩
theorem LWO.ext {w' : Hw} (h : LWO g w x nA cA lA y nM o kn km) (k : ext g w w') : LWO g w' x nA cA lA y nM o kn km := h.of (h.co.ext k)
theorem LWO.out {a b a' b' : Value} (h : LWO g w x nA cA lA y nM o kn km) (ho : w o = some (.inr (6, [a, b]))) : LWO g (upw w o (.inr (6, [a', b']))) x nA cA lA y nM o kn km := by
  refine ⟨h.1.mv (fun c z hc hP => ?_) (fun f hf => ?_), (h.l.out ho).2⟩
  · rw [upw_n]
    · exact hc
    · rintro rfl
      rw [ho] at hc
      cases hc
      rcases hP with ⟨_, e⟩ | ⟨_, e⟩ | ⟨_, e⟩ <;> cases e
  · rw [upw_n (ne_of hf ho (fun e => by cases e))]
    exact hf
theorem go_OwO {K : List Value → Prop} (h : LWO g w x nA cA lA y nM o kn km) (k : ∀ a b : Value, (∀ a' b' : Value, LWO g (upw w o (.inr (6, [a', b']))) x nA cA lA y nM o kn km) → K [a, b]) : go (w o) 6 K := by
  obtain ⟨a, b, ho⟩ := h.2.2.2.1
  rw [ho, go_s]
  exact k a b (fun _ _ => h.out ho)
theorem LWO.ro (h : LWO g w x nA cA lA y nM o kn km) : ∀ (a : Nat) (z : Ob), g.2 a = some z → w a = none := h.2.2.2.2
end
