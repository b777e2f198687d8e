section
section
variable {g : RO} {Q : Ot → Hw → Prop} {w0 w : Hw} {x nA cA lA : Nat} {kn : Int32}
abbrev AS : Type := (Nat → Int64) × (Nat → Option R4) × Int32 × (Nat → R4) × Int32 × Int32
def cM (w : Hw) : Option Nat → Option R4 → Prop
  | none, none => True
  | some b, some r => rAt w b r
  | _, _ => False
theorem cM.s {b : Nat} {o : Option R4} (h : cM w (some b) o) : ∃ r, o = some r ∧ rAt w b r := by
  cases o with
  | none => exact (h : False).elim
  | some r => exact ⟨r, rfl, h⟩
theorem cM.n {o : Option R4} (h : cM w none o) : o = none := by
  cases o with
  | none => rfl
  | some r => exact (h : False).elim
theorem cM.mp {w' : Hw} {q : Option Nat} {o : Option R4} (h : cM w q o) (k : ∀ b r, rAt w b r → rAt w' b r) : cM w' q o := by
  cases q <;> cases o <;> first | exact h | exact k _ _ h
/-- the class's cells hold the state s -/
def RF (w : Hw) (x nA cA lA : Nat) (kn : Int32) (s : AS) : Prop := ∃ gc gl : Nat → Option Nat,
  (w x = some (.inr (5, [.ref nA, .ref cA, .ref lA, .int s.2.2.1, .int s.2.2.2.2.1, .int kn, .int s.2.2.2.2.2])) ∧ w nA = some (.inl (0, 8, .inr (.inl s.1))) ∧ w cA = some (.inl (4, 6, qc gc)) ∧ w lA = some (.inl (4, 12, qc gl)) ∧
  (∀ (i b : Nat), gc i = some b → isR w b) ∧ (∀ (i b : Nat), gl i = some b → isR w b) ∧ ¬ s.2.2.1 < 0 ∧ ¬ 12 < s.2.2.1) ∧
  (∀ i, i < 6 → cM w (gc i) (s.2.1 i)) ∧ ∀ i : Nat, (i : Int) < s.2.2.1.toInt → ∃ b, gl i = some b ∧ rAt w b (s.2.2.2.1 i)
/-- what is always so of a state: its ranges are in order -/
def sOk (s : AS) : Prop := (∀ i r, i < 6 → s.2.1 i = some r → rOk r) ∧ (∀ i : Nat, (i : Int) < s.2.2.1.toInt → rOk (s.2.2.2.1 i)) ∧ ¬ s.2.2.1 < 0 ∧ ¬ 12 < s.2.2.1
theorem RF.rc {s : AS} (h : RF w x nA cA lA kn s) : RC w x nA cA lA kn := by
  obtain ⟨gc, gl, ⟨h1, h2, h3, h4, h5, h6, h7, h8⟩, -⟩ := h
  exact ⟨_, _, _, _, gc, gl, h1, h2, h3, h4, h5, h6, h7, h8⟩
def CS (g : RO) (w0 : Hw) (x nA cA lA : Nat) (kn : Int32) (s : AS) (w : Hw) : Prop := RF w x nA cA lA kn s ∧ FC g nA w0 w
theorem CS.cc {s : AS} (h : CS g w0 x nA cA lA kn s w) : CC g w0 x nA cA lA kn w := ⟨h.1.rc, h.2⟩
theorem rAt_up2 {a b : Nat} {r : R4} {o1 o2 : Ob} (h : rAt w b r) (ha : w a = some o1) (ho : ∀ fs, o1 ≠ .inr (4, fs)) : rAt (upw w a o2) b r := by
  unfold rAt
  rw [upw_n]
  · exact h
  · rintro rfl
    rw [h] at ha
    cases ha
    exact ho _ rfl
/-- the class's cells, as they are read and written -/
theorem RF.opn (g : RO) {s : AS} (h : RF w x nA cA lA kn s) : ∃ gc gl : Nat → Option Nat, RO5 g w x nA cA lA s.2.2.1 s.2.2.2.2.1 kn s.2.2.2.2.2 s.1 gc gl ∧ (∀ i, i < 6 → cM w (gc i) (s.2.1 i)) ∧ ∀ i : Nat, (i : Int) < s.2.2.1.toInt → ∃ b, gl i = some b ∧ rAt w b (s.2.2.2.1 i) := by
  obtain ⟨gc, gl, ⟨h1, h2, h3, h4, h5, h6, h7, h8⟩, k1, k2⟩ := h
  have e : ∀ {a b : Nat} {o1 o2 : Ob}, w a = some o1 → w b = some o2 → o1 ≠ o2 → a ≠ b := fun {a b o1 o2} z1 z2 z3 z4 => by
    subst z4
    exact z3 (Option.some.inj (z1.symm.trans z2))
  exact ⟨gc, gl, ⟨h1, h2, h3, h4, h5, h6, h7, h8, rd_e h1, rd_e h2, rd_e h3, rd_e h4, ⟨e h1 h2 (by simp), e h1 h3 (by simp), e h1 h4 (by simp), e h2 h1 (by simp), e h2 h3 (by simp), e h2 h4 (by simp)⟩, ⟨e h3 h1 (by simp), e h3 h2 (by simp), e h3 h4 (by simp), e h4 h1 (by simp), e h4 h2 (by simp), e h4 h3 (by simp)⟩⟩, k1, k2⟩
theorem CS.ext {s : AS} {w' : Hw} (h : CS g w0 x nA cA lA kn s w) (k : ext g w w') : CS g w0 x nA cA lA kn s w' := by
  obtain ⟨⟨gc, gl, ⟨h1, h2, h3, h4, h5, h6, h7⟩, k1, k2⟩, hf⟩ := h
  exact ⟨⟨gc, gl, ⟨k.1 _ _ h1, k.1 _ _ h2, k.1 _ _ h3, k.1 _ _ h4, fun i b z => (h5 i b z).ext k, fun i b z => (h6 i b z).ext k, h7⟩, fun i hi => (k1 i hi).mp fun b r hb => hb.ext k, fun i hi => (k2 i hi).imp fun b z => ⟨z.1, z.2.ext k⟩⟩, hf.ext k⟩
abbrev sN (s : AS) (f : Nat → Int64) : AS := (f, s.2)
abbrev sC (s : AS) (f : Nat → Option R4) : AS := (s.1, f, s.2.2)
abbrev sP_ (s : AS) (n : Int32) (f : Nat → R4) : AS := (s.1, s.2.1, n, f, s.2.2.2.2)
abbrev sR_ (s : AS) (r : Int32) : AS := (s.1, s.2.1, s.2.2.1, s.2.2.2.1, r, s.2.2.2.2.2)
abbrev sM_ (s : AS) (m : Int32) : AS := (s.1, s.2.1, s.2.2.1, s.2.2.2.1, s.2.2.2.2.1, m)
theorem CS.num {s : AS} (h : CS g w0 x nA cA lA kn s w) (f' : Nat → Int64) : CS g w0 x nA cA lA kn (sN s f') (upw w nA (.inl (0, 8, .inr (.inl f')))) := by
  obtain ⟨gc, gl, ⟨h1, h2, h3, h4, h5, h6, h7, h8, -, -, -, -, ⟨d1, d2, d3, d4, d5, d6⟩, ⟨d7, d8, d9, d10, d11, d12⟩⟩, k1, k2⟩ := h.1.opn (fun _ => .null, fun _ => none)
  exact ⟨⟨gc, gl, ⟨by rw [upw_n d1]; exact h1, upw_s _ _ _, by rw [upw_n d8]; exact h3, by rw [upw_n d11]; exact h4, fun i b z => isR_up2 (h5 i b z) h2 (by simp), fun i b z => isR_up2 (h6 i b z) h2 (by simp), h7, h8⟩, fun i hi => (k1 i hi).mp fun b r hb => rAt_up2 hb h2 (by simp), fun i hi => (k2 i hi).imp fun b z => ⟨z.1, rAt_up2 z.2 h2 (by simp)⟩⟩, h.2.up h2 (Or.inl rfl)⟩
/-- a card gets what stands at q (or nothing) -/
theorem CS.card {s : AS} (h : CS g w0 x nA cA lA kn s w) (gc : Nat → Option Nat) (hc : w cA = some (.inl (4, 6, qc gc))) (j : Nat) (q : Option Nat) (o : Option R4) (hq : cM w q o) : CS g w0 x nA cA lA kn (sC s (va_up s.2.1 j o)) (upw w cA (.inl (4, 6, qc (va_up gc j q)))) := by
  obtain ⟨gc', gl, ⟨h1, h2, h3, h4, h5, h6, h7, h8, -, -, -, -, ⟨d1, d2, d3, d4, d5, d6⟩, ⟨d7, d8, d9, d10, d11, d12⟩⟩, k1, k2⟩ := h.1.opn (fun _ => .null, fun _ => none)
  rw [hc] at h3
  cases h3
  refine ⟨⟨_, gl, ⟨by rw [upw_n d2]; exact h1, by rw [upw_n d5]; exact h2, upw_s _ _ _, by rw [upw_n d12]; exact h4, fun i b z => isR_up2 ?_ hc (by simp), fun i b z => isR_up2 (h6 i b z) hc (by simp), h7, h8⟩, fun i hi => cM.mp ?_ (fun b r hb => rAt_up2 hb hc (by simp)), fun i hi => (k2 i hi).imp fun b z => ⟨z.1, rAt_up2 z.2 hc (by simp)⟩⟩, h.2.up hc (Or.inr rfl)⟩
  · unfold va_up at z
    split at z
    · subst z
      obtain ⟨r, -, hr⟩ := hq.s
      exact hr.isR
    · exact h5 i b z
  · show cM w (va_up gc j q i) (va_up s.2.1 j o i)
    unfold va_up
    split
    · exact hq
    · exact k1 i hi
theorem CS.obj {s : AS} (h : CS g w0 x nA cA lA kn s w) (rf' kn' md' : Int32) : CS g w0 x nA cA lA kn' (sM_ (sR_ s rf') md') (upw w x (.inr (5, [.ref nA, .ref cA, .ref lA, .int s.2.2.1, .int rf', .int kn', .int md']))) := by
  obtain ⟨gc, gl, ⟨h1, h2, h3, h4, h5, h6, h7, h8, -, -, -, -, ⟨d1, d2, d3, d4, d5, d6⟩, ⟨d7, d8, d9, d10, d11, d12⟩⟩, k1, k2⟩ := h.1.opn (fun _ => .null, fun _ => none)
  exact ⟨⟨gc, gl, ⟨upw_s _ _ _, by rw [upw_n d4]; exact h2, by rw [upw_n d7]; exact h3, by rw [upw_n d10]; exact h4, fun i b z => isR_up2 (h5 i b z) h1 (by simp), fun i b z => isR_up2 (h6 i b z) h1 (by simp), h7, h8⟩, fun i hi => (k1 i hi).mp fun b r hb => rAt_up2 hb h1 (by simp), fun i hi => (k2 i hi).imp fun b z => ⟨z.1, rAt_up2 z.2 h1 (by simp)⟩⟩, h.2.up h1 (Or.inr rfl)⟩
end
end
