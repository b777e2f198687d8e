section
section
variable {g : RO} {Q : Ot → Hw → Prop} {w0 w : Hw}
def isMo : Ob → Bool
  | .inr (7, _) => true
  | .inr (3, _) => true
  | .inr (2, _) => true
  | .inl (5, _) => true
  | _ => false
/-- what the model leaves alone -/
def FM (g : RO) (nM : Nat) (w w' : Hw) : Prop := (∀ (a : Nat) (o : Ob), w a = some o → a ≠ nM → isMo o = false → w' a = some o) ∧ ∀ (a : Nat) (o : Ob), g.2 a = some o → w a = none → w' a = none
theorem FM.rf {nM : Nat} : FM g nM w w := ⟨fun _ _ h _ _ => h, fun _ _ _ h => h⟩
theorem FM.ext {nM : Nat} {w' : Hw} (h : FM g nM w0 w) (k : ext g w w') : FM g nM w0 w' := ⟨fun a o h1 h2 h3 => k.1 a o (h.1 a o h1 h2 h3), fun a o z1 z2 => k.2 a o z1 (h.2 a o z1 z2)⟩
theorem FM.tr {nM : Nat} {w' : Hw} (h : FM g nM w0 w) (k : FM g nM w w') : FM g nM w0 w' := ⟨fun a o h1 h2 h3 => k.1 a o (h.1 a o h1 h2 h3) h2 h3, fun a o z1 z2 => k.2 a o z1 (h.2 a o z1 z2)⟩
/-- the model's state: knocked is kd -/
def RMo (g : RO) (w : Hw) (y nM : Nat) (kd : Int32) : Prop := ∃ (cL pL D1 D2 c1 c2 : Nat) (th rf md n : Int32) (f : Nat → Int64) (h1 h2 : Nat → Option Nat), w y = some (.inr (7, [.int th, .ref nM, .ref cL, .ref pL, .int rf, .int kd, .int md])) ∧ w nM = some (.inl (0, 8, .inr (.inl f))) ∧ LL g w cL D1 c1 6 h1 ∧ (∀ i b, h1 i = some b → isRow w b) ∧ LL g w pL D2 c2 n h2 ∧ (∀ i b, h2 i = some b → isRow w b) ∧ n.toInt ≤ 12 ∧ cL ≠ pL ∧ D1 ≠ D2 ∧ ∀ i : Nat, (i : Int) < n.toInt → ∃ b, h2 i = some b
theorem LL.kp {w' : Hw} {L D cap : Nat} {n : Int32} {h : Nat → Option Nat} (hl : LL g w L D cap n h) (k1 : ∀ fs, w L = some (.inr (3, fs)) → w' L = some (.inr (3, fs))) (k2 : ∀ z, w D = some (.inl (5, z)) → w' D = some (.inl (5, z))) (k3 : ∀ o, g.2 D = some o → w D = none → w' D = none) : LL g w' L D cap n h := by
  obtain ⟨⟨mc, h1⟩, h2, h3, h4⟩ := hl
  refine ⟨⟨mc, k1 _ h1⟩, ?_, h3, h4⟩
  rcases h2 with ⟨h2, h5⟩ | ⟨h5, h6, h7, h8⟩
  · exact Or.inl ⟨k2 _ h2, h5⟩
  · exact Or.inr ⟨h5, h6, k3 _ h8 h7, h8⟩
theorem FC.ne {nA : Nat} {w' : Hw} {fA : Nat → Int64} {a : Nat} {o : Ob} (k : FC g nA w w') (hA : w nA = some (.inl (0, 8, .inr (.inl fA)))) (h : w a = some o) (ho : o ≠ .inl (0, 8, .inr (.inl fA))) (hc : isC o = false) : w' a = some o := k.1 a o h (by
  rintro rfl
  rw [hA] at h
  cases h
  exact ho rfl) hc
theorem FC.row {nA : Nat} {w' : Hw} {fA : Nat → Int64} {b : Nat} (k : FC g nA w w') (hA : w nA = some (.inl (0, 8, .inr (.inl fA)))) (h : isRow w b) : isRow w' b := by
  obtain ⟨f, h⟩ := h
  exact ⟨f, k.ne hA h (fun e => by cases e) rfl⟩
theorem RMo.FC {nA : Nat} {w' : Hw} {fA : Nat → Int64} {y nM : Nat} {kd : Int32} (h : RMo g w y nM kd) (k : FC g nA w w') (hA : w nA = some (.inl (0, 8, .inr (.inl fA)))) (hne : nM ≠ nA) : RMo g w' y nM kd := by
  obtain ⟨cL, pL, D1, D2, c1, c2, th, rf, md, n, f, h1, h2, a1, a2, a3, a4, a5, a6, a7⟩ := h
  have ll : ∀ {L D cap : Nat} {n : Int32} {h : Nat → Option Nat}, LL g w L D cap n h → LL g w' L D cap n h := fun hl => hl.kp (fun fs e => k.ne hA e (fun e => by cases e) rfl) (fun z e => k.ne hA e (fun e => by cases e) rfl) (fun o e1 e2 => k.2 _ o e1 e2)
  exact ⟨cL, pL, D1, D2, c1, c2, th, rf, md, n, f, h1, h2, k.ne hA a1 (fun e => by cases e) rfl, k.1 _ _ a2 hne rfl, ll a3, fun i b z => k.row hA (a4 i b z), ll a5, fun i b z => k.row hA (a6 i b z), a7⟩
theorem RC.FM {nM : Nat} {w' : Hw} {x nA cA lA : Nat} {kn : Int32} (h : RC w x nA cA lA kn) (k : FM g nM w w') (hM : ∃ f : Nat → Int64, w nM = some (.inl (0, 8, .inr (.inl f)))) (hne : nA ≠ nM) : RC w' x nA cA lA kn := by
  obtain ⟨fM, hM⟩ := hM
  have kk : ∀ (a : Nat) (o : Ob), w a = some o → o ≠ .inl (0, 8, .inr (.inl fM)) → isMo o = false → w' a = some o := fun a o h ho hc => k.1 a o h (by
    rintro rfl
    rw [hM] at h
    cases h
    exact ho rfl) hc
  have rr : ∀ b, isR w b → isR w' b := fun b hb => by
    obtain ⟨r0, r1, r2, r3, hb⟩ := hb
    exact ⟨r0, r1, r2, r3, kk _ _ hb (fun e => by cases e) rfl⟩
  obtain ⟨n, rf, md, f, gc, gl, h1, h2, h3, h4, h5, h6, h7⟩ := h
  exact ⟨n, rf, md, f, gc, gl, kk _ _ h1 (fun e => by cases e) rfl, k.1 _ _ h2 hne rfl, kk _ _ h3 (fun e => by cases e) rfl, kk _ _ h4 (fun e => by cases e) rfl, fun i b z => rr b (h5 i b z), fun i b z => rr b (h6 i b z), h7⟩
/-- the model's state at w, come from w0 -/
def MM (g : RO) (w0 : Hw) (y nM : Nat) (kd : Int32) (w : Hw) : Prop := RMo g w y nM kd ∧ FM g nM w0 w
theorem ne_of {a b : Nat} {o1 o2 : Ob} (h1 : w a = some o1) (h2 : w b = some o2) (h : o1 ≠ o2) : a ≠ b := fun e => by
  rw [e, h2] at h1
  cases h1
  exact h rfl
theorem LL.up {L D cap a : Nat} {n : Int32} {h : Nat → Option Nat} {o1 o2 : Ob} (hl : LL g w L D cap n h) (ha : w a = some o1) (h3 : ∀ fs, o1 ≠ .inr (3, fs)) (h5 : ∀ z, o1 ≠ .inl (5, z)) : LL g (upw w a o2) L D cap n h := hl.kp (fun fs e => by
    rw [upw_n (ne_of e ha (fun z => h3 fs z.symm))]
    exact e) (fun z e => by
    rw [upw_n (ne_of e ha (fun q => h5 z q.symm))]
    exact e) (fun o _ e => by
    rw [upw_n]
    · exact e
    · rintro rfl
      rw [ha] at e
      cases e)
theorem FM.up {nM a : Nat} {o1 o2 : Ob} (h : FM g nM w0 w) (ha : w a = some o1) (h2 : a = nM ∨ isMo o1 = true) : FM g nM w0 (upw w a o2) := by
  refine ⟨fun b o e1 e2 e3 => ?_, fun b o e1 e2 => ?_⟩
  · have e4 := h.1 b o e1 e2 e3
    rw [upw_n]
    · exact e4
    · rintro rfl
      rcases h2 with rfl | h2
      · exact e2 rfl
      · rw [ha] at e4
        cases e4
        rw [e3] at h2
        cases h2
  · have e4 := h.2 b o e1 e2
    rw [upw_n]
    · exact e4
    · rintro rfl
      rw [ha] at e4
      cases e4
/-- its own numbers set -/
theorem RMo.set {y nM cL pL : Nat} {kd kd' th' rf' md' th0 rf0 md0 : Int32} (h : RMo g w y nM kd) (hy : w y = some (.inr (7, [.int th0, .ref nM, .ref cL, .ref pL, .int rf0, .int kd, .int md0]))) : RMo g (upw w y (.inr (7, [.int th', .ref nM, .ref cL, .ref pL, .int rf', .int kd', .int md']))) y nM kd' := by
  obtain ⟨cL1, pL1, D1, D2, c1, c2, th, rf, md, n, f, h1, h2, a1, a2, a3, a4, a5, a6, a7⟩ := h
  rw [hy] at a1
  cases a1
  exact ⟨cL, pL, D1, D2, c1, c2, th', rf', md', n, f, h1, h2, upw_s _ _ _, by rw [upw_n (ne_of a2 hy (fun e => by cases e))]; exact a2, a3.up hy (fun _ e => by cases e) (fun _ e => by cases e), fun i b z => isRow_up (a4 i b z) hy (fun _ e => by cases e), a5.up hy (fun _ e => by cases e) (fun _ e => by cases e), fun i b z => isRow_up (a6 i b z) hy (fun _ e => by cases e), a7⟩
theorem RMo.num {y nM : Nat} {kd : Int32} {f f' : Nat → Int64} (h : RMo g w y nM kd) (hn : w nM = some (.inl (0, 8, .inr (.inl f)))) : RMo g (upw w nM (.inl (0, 8, .inr (.inl f')))) y nM kd := by
  obtain ⟨cL, pL, D1, D2, c1, c2, th, rf, md, n, f, h1, h2, a1, a2, a3, a4, a5, a6, a7⟩ := h
  exact ⟨cL, pL, D1, D2, c1, c2, th, rf, md, n, f', h1, h2, by rw [upw_n (ne_of a1 hn (fun e => by cases e))]; exact a1, upw_s _ _ _, a3.up hn (fun _ e => by cases e) (fun _ e => by cases e), fun i b z => isRow_up (a4 i b z) hn (fun _ e => by cases e), a5.up hn (fun _ e => by cases e) (fun _ e => by cases e), fun i b z => isRow_up (a6 i b z) hn (fun _ e => by cases e), a7⟩
theorem RMo.opn {y nM : Nat} {kd : Int32} (g : RO) (h : RMo g w y nM kd) : ∃ (cL pL D1 D2 c1 c2 : Nat) (th rf md n : Int32) (f : Nat → Int64) (h1 h2 : Nat → Option Nat), w y = some (.inr (7, [.int th, .ref nM, .ref cL, .ref pL, .int rf, .int kd, .int md])) ∧ w nM = some (.inl (0, 8, .inr (.inl f))) ∧ rd g w y = some (.inr (7, [.int th, .ref nM, .ref cL, .ref pL, .int rf, .int kd, .int md])) ∧ rd g w nM = some (.inl (0, 8, .inr (.inl f))) ∧ y ≠ nM ∧ nM ≠ y ∧ LL g w cL D1 c1 6 h1 ∧ (∀ i b, h1 i = some b → isRow w b) ∧ LL g w pL D2 c2 n h2 ∧ (∀ i b, h2 i = some b → isRow w b) ∧ n.toInt ≤ 12 ∧ cL ≠ pL ∧ D1 ≠ D2 ∧ ∀ i : Nat, (i : Int) < n.toInt → ∃ b, h2 i = some b := by
  obtain ⟨cL, pL, D1, D2, c1, c2, th, rf, md, n, f, h1, h2, a1, a2, a3, a4, a5, a6, a7⟩ := h
  have ne := ne_of a1 a2 (fun e => by cases e)
  exact ⟨cL, pL, D1, D2, c1, c2, th, rf, md, n, f, h1, h2, a1, a2, rd_e a1, rd_e a2, ne, ne.symm, a3, a4, a5, a6, a7⟩
theorem MM.set {y nM cL pL : Nat} {kd kd' th' rf' md' th0 rf0 md0 : Int32} (h : MM g w0 y nM kd w) (hy : w y = some (.inr (7, [.int th0, .ref nM, .ref cL, .ref pL, .int rf0, .int kd, .int md0]))) : MM g w0 y nM kd' (upw w y (.inr (7, [.int th', .ref nM, .ref cL, .ref pL, .int rf', .int kd', .int md']))) := ⟨h.1.set hy, h.2.up hy (Or.inr rfl)⟩
theorem MM.num {y nM : Nat} {kd : Int32} {f f' : Nat → Int64} (h : MM g w0 y nM kd w) (hn : w nM = some (.inl (0, 8, .inr (.inl f)))) : MM g w0 y nM kd (upw w nM (.inl (0, 8, .inr (.inl f')))) := ⟨h.1.num hn, h.2.up hn (Or.inl rfl)⟩
end
end
