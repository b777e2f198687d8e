section
section
variable {g : RO} {Q : Ot → Hw → Prop} {w : Hw} {x nA cA lA y nM o : Nat} {kn km th : Int32} {s s2 : AS}
def LW (g : RO) (w : Hw) (x nA cA lA y nM o : Nat) (kn km th : Int32) (s s2 : AS) : Prop := RF w x nA cA lA kn s ∧ sOk s ∧ MF g w y nM km th s2 ∧ nA ≠ nM ∧ (∃ a b : Value, w o = some (.inr (6, [a, b]))) ∧ ∀ (a : Nat) (z : Ob), g.2 a = some z → w a = none
def PO4 (o : Ob) : Prop := (∃ fs, o = .inr (5, fs)) ∨ (∃ fs, o = .inr (4, fs)) ∨ ∃ z, o = .inl (4, z)
theorem RF.mv {w' : Hw} (h : RF w x nA cA lA kn s) (m : ∀ (a : Nat) (z : Ob), w a = some z → PO4 z → w' a = some z) (mN : ∀ f : Nat → Int64, w nA = some (.inl (0, 8, .inr (.inl f))) → w' nA = some (.inl (0, 8, .inr (.inl f)))) : RF w' x nA cA lA kn s := by
  obtain ⟨gc, gl, ⟨h1, h2, h3, h4, h5, h6, h7⟩, k1, k2⟩ := h
  have r : ∀ b q, rAt w b q → rAt w' b q := fun b q hb => m _ _ hb (Or.inr (Or.inl ⟨_, rfl⟩))
  have rr : ∀ b, isR w b → isR w' b := fun b ⟨r0, r1, r2, r3, hb⟩ => ⟨r0, r1, r2, r3, m _ _ hb (Or.inr (Or.inl ⟨_, rfl⟩))⟩
  exact ⟨gc, gl, ⟨m _ _ h1 (Or.inl ⟨_, rfl⟩), mN _ h2, m _ _ h3 (Or.inr (Or.inr ⟨_, rfl⟩)), m _ _ h4 (Or.inr (Or.inr ⟨_, rfl⟩)), fun i b z => rr b (h5 i b z), fun i b z => rr b (h6 i b z), h7⟩, fun i hi => (k1 i hi).mp r, fun i hi => (k2 i hi).imp fun b z => ⟨z.1, r _ _ z.2⟩⟩
theorem RF.FM {w' : Hw} (h : RF w x nA cA lA kn s) (k : FM g nM w w') (hM : ∃ f : Nat → Int64, w nM = some (.inl (0, 8, .inr (.inl f)))) (hne : nA ≠ nM) : RF w' x nA cA lA kn s := by
  obtain ⟨fM, hM⟩ := hM
  refine h.mv (fun a z ha hP => k.1 a z ha (fun e => ?_) ?_) (fun f hf => k.1 _ _ hf hne rfl)
  · subst e
    rw [hM] at ha
    cases ha
    rcases hP with ⟨_, e⟩ | ⟨_, e⟩ | ⟨_, e⟩ <;> cases e
  · rcases hP with ⟨_, rfl⟩ | ⟨_, rfl⟩ | ⟨_, rfl⟩ <;> rfl
theorem MF.FC {w' : Hw} {fA : Nat → Int64} (h : MF g w y nM km th s2) (k : FC g nA w w') (hA : w nA = some (.inl (0, 8, .inr (.inl fA)))) (hne : nM ≠ nA) : MF g w' y nM km th s2 := by
  obtain ⟨cL, pL, D1, D2, c1, c2, h1, h2, a1, a2, a3, a4, a5, a6, a7, a8, a9, b1, b2⟩ := h
  have ll : ∀ {L D cap : Nat} {n : Int32} {h : Nat → Option Nat}, LL g w L D cap n h → LL g w' L D cap n h := fun hl => hl.kp (fun fs e => k.ne hA e (fun e => by cases e) rfl) (fun z e => k.ne hA e (fun e => by cases e) rfl) (fun o e1 e2 => k.2 _ o e1 e2)
  have rr : ∀ b r, rowA w b r → rowA w' b r := fun b r hb => k.ne hA hb (fun e => by cases e) rfl
  exact ⟨cL, pL, D1, D2, c1, c2, h1, h2, k.ne hA a1 (fun e => by cases e) rfl, k.1 _ _ a2 hne rfl, ll a3, fun i b z => k.row hA (a4 i b z), ll a5, fun i b z => k.row hA (a6 i b z), a7, a8, a9, fun i hi => (b1 i hi).mp rr, fun i hi => (b2 i hi).imp fun b z => ⟨z.1, rr _ _ z.2⟩⟩
theorem LW.cs (h : LW g w x nA cA lA y nM o kn km th s s2) : CS g w x nA cA lA kn s w := ⟨h.1, FC.rf⟩
theorem LW.cc (h : LW g w x nA cA lA y nM o kn km th s s2) : CC g w x nA cA lA kn w := h.cs.cc
theorem LW.ok (h : LW g w x nA cA lA y nM o kn km th s s2) : sOk s := h.2.1
theorem LW.ms (h : LW g w x nA cA lA y nM o kn km th s s2) : MS g w y nM km th s2 w := ⟨h.2.2.1, FM.rf⟩
theorem LW.ro (h : LW g w x nA cA lA y nM o kn km th s s2) : ∀ (a : Nat) (z : Ob), g.2 a = some z → w a = none := h.2.2.2.2.2
theorem LW.of {kn' : Int32} {s' : AS} {w' : Hw} (h : LW g w x nA cA lA y nM o kn km th s s2) (k : CS g w x nA cA lA kn' s' w') (ho : sOk s') : LW g w' x nA cA lA y nM o kn' km th s' s2 := by
  obtain ⟨h1, -, h2, h3, ⟨a, b, h4⟩, h5⟩ := h
  obtain ⟨gc, gl, ⟨r1, r2, -⟩, -⟩ := h1
  exact ⟨k.1, ho, h2.FC k.2 r2 h3.symm, h3, ⟨a, b, k.2.ne r2 h4 (fun e => by cases e) rfl⟩, fun a z e => k.2.2 a z e (h5 a z e)⟩
theorem LW.ofM {km' th' : Int32} {s2' : AS} {w' : Hw} (h : LW g w x nA cA lA y nM o kn km th s s2) (k : MS g w y nM km' th' s2' w') : LW g w' x nA cA lA y nM o kn km' th' s s2' := by
  obtain ⟨h1, ho, h2, h3, ⟨a, b, h4⟩, h5⟩ := h
  obtain ⟨cL, pL, D1, D2, c1, c2, h1', h2', a1, a2, -⟩ := h2
  exact ⟨h1.FM k.2 ⟨_, a2⟩ h3, ho, k.1, h3, ⟨a, b, k.2.1 _ _ h4 (ne_of h4 a2 (fun e => by cases e)) rfl⟩, fun a z e => k.2.2 a z e (h5 a z e)⟩
theorem LW.ext {w' : Hw} (h : LW g w x nA cA lA y nM o kn km th s s2) (k : ext g w w') : LW g w' x nA cA lA y nM o kn km th s s2 := h.of (h.cs.ext k) h.2.1
theorem LW.out {a b a' b' : Value} (h : LW g w x nA cA lA y nM o kn km th s s2) (ho : w o = some (.inr (6, [a, b]))) : LW g (upw w o (.inr (6, [a', b']))) x nA cA lA y nM o kn km th s s2 := by
  obtain ⟨h1, hk, h2, h3, -, h5⟩ := h
  obtain ⟨cL, pL, D1, D2, c1, c2, g1, g2, a1, a2, a3, a4, a5, a6, a7, a8, a9, b1, b2⟩ := h2
  refine ⟨h1.mv (fun c z hc hP => ?_) (fun f hf => ?_), hk, ⟨cL, pL, D1, D2, c1, c2, g1, g2, ?_, ?_, a3.up ho (fun _ e => by cases e) (fun _ e => by cases e), fun i b z => isRow_up (a4 i b z) ho (fun _ e => by cases e), a5.up ho (fun _ e => by cases e) (fun _ e => by cases e), fun i b z => isRow_up (a6 i b z) ho (fun _ e => by cases e), a7, a8, a9, fun i hi => (b1 i hi).mp fun _ _ z => rowA_up z ho (fun _ e => by cases e), fun i hi => (b2 i hi).imp fun _ z => ⟨z.1, rowA_up z.2 ho (fun _ e => by cases e)⟩⟩, h3, ⟨a', b', upw_s _ _ _⟩, fun a z e => ?_⟩
  · rw [upw_n]
    · exact hc
    · rintro rfl
      rw [ho] at hc
      cases hc
      rcases hP with ⟨_, e⟩ | ⟨_, e⟩ | ⟨_, e⟩ <;> cases e
  · rw [upw_n (ne_of hf ho (fun e => by cases e))]
    exact hf
  · rw [upw_n (ne_of a1 ho (fun e => by cases e))]
    exact a1
  · rw [upw_n (ne_of a2 ho (fun e => by cases e))]
    exact a2
  · rw [upw_n]
    · exact h5 a z e
    · rintro rfl
      rw [h5 _ _ e] at ho
      cases ho
theorem go_OF {K : List Value → Prop} (h : LW g w x nA cA lA y nM o kn km th s s2) (k : ∀ a b : Value, (∀ a' b' : Value, LW g (upw w o (.inr (6, [a', b']))) x nA cA lA y nM o kn km th s s2) → K [a, b]) : go (w o) 6 K := by
  obtain ⟨a, b, ho⟩ := h.2.2.2.2.1
  rw [ho, go_s]
  exact k a b (fun _ _ => h.out ho)
theorem LW.gx {K : List Value → Prop} (h : LW g w x nA cA lA y nM o kn km th s s2) (k : ∀ fs, K fs) : go (rd g w x) 5 K := by
  obtain ⟨gc, gl, ⟨r1, -⟩, -⟩ := h.1
  rw [rd_e r1, go_s]
  exact k _
theorem LW.gz {K : List Value → Prop} (h : LW g w x nA cA lA y nM o kn km th s s2) (k : ∀ fs, K fs) : go (rd g w y) 7 K := by
  obtain ⟨cL, pL, D1, D2, c1, c2, h1, h2, a1, -⟩ := h.2.2.1
  rw [rd_e a1, go_s]
  exact k _
/-- what is handed on -/
def outN (w : Hw) (o : Nat) (v : Int64) : Prop := ∃ b, w o = some (.inr (6, [.long v, b]))
theorem outN.mk {v : Int64} {b : Value} : outN (upw w o (.inr (6, [.long v, b]))) o v := ⟨b, upw_s _ _ _⟩
theorem outN.mv {v : Int64} {km' th' : Int32} {s2' : AS} {w' : Hw} (h : outN w o v) (hL : LW g w x nA cA lA y nM o kn km th s s2) (k : MS g w y nM km' th' s2' w') : outN w' o v := by
  obtain ⟨b, h⟩ := h
  obtain ⟨cL, pL, D1, D2, c1, c2, h1', h2', a1, a2, -⟩ := hL.2.2.1
  exact ⟨b, k.2.1 _ _ h (ne_of h a2 (fun e => by cases e)) rfl⟩
theorem go_ON {v : Int64} {K : List Value → Prop} (h : outN w o v) (k : ∀ b, K [.long v, b]) : go (rd g w o) 6 K := by
  obtain ⟨b, h⟩ := h
  rw [rd_e h, go_s]
  exact k b
theorem LW.rb {b : Nat} {z : Ob} (h : LW g w x nA cA lA y nM o kn km th s s2) (hb : g.2 b = some z) : rd g w b = some z := by
  unfold rd
  rw [h.ro b z hb]
  exact hb
theorem gi_W {b L : Nat} {xs : Nat → Int32} {K : Nat → (Nat → Int32) → Prop} (h : LW g w x nA cA lA y nM o kn km th s s2) (hb : g.2 b = some (.inl (1, L, .inl xs))) (k : K L xs) : gi (rd g w b) 1 K := by
  rw [h.rb hb]
  exact ⟨rfl, k⟩
theorem nsC {q : Option R4} {r : R4} (h : q = none) (k : q = some r) : False := by
  rw [h] at k
  cases k
theorem fstU {f : Nat → R4} {r : R4} {i j : Nat} (h1 : mP r (f i)) (h2 : ∀ k, k < i → ¬ mP r (f k)) (k1 : mP r (f j)) (k2 : ∀ k, k < j → ¬ mP r (f k)) : i = j := by
  rcases Nat.lt_trichotomy i j with q | q | q
  · exact absurd h1 (k2 i q)
  · exact q
  · exact absurd k1 (h2 j q)
end
end
