section
section
variable {g : RO} {Q : Ot → Hw → Prop} {w0 w : Hw} {y nM : Nat} {kd th : Int32} {s : AS}
def rV (r : R4) : Nat → Int64 := vp_updL (vp_updL (vp_updL (vp_updL (fun _ => 0) 0 r.1) 1 r.2.1) 2 r.2.2.1) 3 r.2.2.2
/-- a row's cells: its four numbers -/
def rowA (w : Hw) (b : Nat) (r : R4) : Prop := w b = some (.inl (0, 4, .inr (.inl (rV r))))
theorem rowA.row {b : Nat} {r : R4} (h : rowA w b r) : isRow w b := ⟨_, h⟩
theorem rowA.ext {b : Nat} {r : R4} {w' : Hw} (h : rowA w b r) (k : ext g w w') : rowA w' b r := k.1 _ _ h
theorem rowA.ca {b : Nat} {r : R4} (h : rowA w b r) : ∃ x, w b = some (.inl (0, x)) := ⟨_, h⟩
theorem rowA_up {a b : Nat} {r : R4} {o1 o2 : Ob} (h : rowA w b r) (ha : w a = some o1) (ho : ∀ z, o1 ≠ .inl (0, 4, z)) : rowA (upw w a o2) b r := by
  unfold rowA
  rw [upw_n]
  · exact h
  · rintro rfl
    rw [h] at ha
    cases ha
    exact ho _ rfl
theorem gl_A {b : Nat} {r : R4} {K : Nat → (Nat → Int64) → Prop} (h : rowA w b r) (k : K 4 (rV r)) : gl (rd g w b) 0 K := by
  rw [rd_e h, gl_s]
  exact k
theorem rv0 {r : R4} : rV r (0 : Int32).toNatClampNeg = r.1 := Eq.trans rfl rfl
theorem rv1 {r : R4} : rV r (1 : Int32).toNatClampNeg = r.2.1 := Eq.trans rfl rfl
theorem rv2 {r : R4} : rV r (2 : Int32).toNatClampNeg = r.2.2.1 := Eq.trans rfl rfl
theorem rv3 {r : R4} : rV r (3 : Int32).toNatClampNeg = r.2.2.2 := Eq.trans rfl rfl
theorem rvE {r : R4} {a : Int32} (h0 : ¬ a < 0) (h1 : ¬ 3 < a) : rV r a.toNatClampNeg = eV r a := by
  rcases sw02 a with rfl | rfl | rfl | h
  · rfl
  · rfl
  · rfl
  · have e3 : (3 : Int32).toInt = 3 := rfl
    have e0 := i32_0 h0
    have e1 := i32_nlt h1
    obtain rfl : a = 3 := i32_eq (by omega)
    rfl
theorem rvj {r : R4} {j : Nat} (h : j < 4) : rV r j = eV r (Int32.ofNat j) := by
  match j, h with
  | 0, _ => rfl
  | 1, _ => rfl
  | 2, _ => rfl
  | 3, _ => rfl
  | j + 4, h => exact absurd h (by omega)
def cR (w : Hw) : Option Nat → Option R4 → Prop
  | none, none => True
  | some b, some r => rowA w b r
  | _, _ => False
theorem cR.sm {b : Nat} {o : Option R4} (h : cR w (some b) o) : ∃ r, o = some r ∧ rowA w b r := by
  cases o with
  | none => exact (h : False).elim
  | some r => exact ⟨r, rfl, h⟩
theorem cR.n {o : Option R4} (h : cR w none o) : o = none := by
  cases o with
  | none => rfl
  | some r => exact (h : False).elim
theorem cR.mp {w' : Hw} {q : Option Nat} {o : Option R4} (h : cR w q o) (k : ∀ b r, rowA w b r → rowA w' b r) : cR w' q o := by
  cases q <;> cases o <;> first | exact h | exact k _ _ h
/-- the model's cells hold the state s -/
def MF (g : RO) (w : Hw) (y nM : Nat) (kd th : Int32) (s : AS) : Prop := ∃ (cL pL D1 D2 c1 c2 : Nat) (h1 h2 : Nat → Option Nat),
  w y = some (.inr (7, [.int th, .ref nM, .ref cL, .ref pL, .int s.2.2.2.2.1, .int kd, .int s.2.2.2.2.2])) ∧ w nM = some (.inl (0, 8, .inr (.inl s.1))) ∧ LL g w cL D1 c1 6 h1 ∧ (∀ i b, h1 i = some b → isRow w b) ∧ LL g w pL D2 c2 s.2.2.1 h2 ∧ (∀ i b, h2 i = some b → isRow w b) ∧ s.2.2.1.toInt ≤ 12 ∧ cL ≠ pL ∧ D1 ≠ D2 ∧
  (∀ i, i < 6 → cR w (h1 i) (s.2.1 i)) ∧ ∀ i : Nat, (i : Int) < s.2.2.1.toInt → ∃ b, h2 i = some b ∧ rowA w b (s.2.2.2.1 i)
theorem MF.rmo (h : MF g w y nM kd th s) : RMo g w y nM kd := by
  obtain ⟨cL, pL, D1, D2, c1, c2, h1, h2, a1, a2, a3, a4, a5, a6, a7, a8, a9, b1, b2⟩ := h
  exact ⟨cL, pL, D1, D2, c1, c2, th, _, _, _, _, h1, h2, a1, a2, a3, a4, a5, a6, a7, a8, a9, fun i hi => (b2 i hi).imp fun _ z => z.1⟩
def MS (g : RO) (w0 : Hw) (y nM : Nat) (kd th : Int32) (s : AS) (w : Hw) : Prop := MF g w y nM kd th s ∧ FM g nM w0 w
theorem MS.mm (h : MS g w0 y nM kd th s w) : MM g w0 y nM kd w := ⟨h.1.rmo, h.2⟩
theorem MF.ext {w' : Hw} (h : MF g w y nM kd th s) (k : ext g w w') : MF g w' y nM kd th s := by
  obtain ⟨cL, pL, D1, D2, c1, c2, h1, h2, a1, a2, a3, a4, a5, a6, a7, a8, a9, b1, b2⟩ := h
  exact ⟨cL, pL, D1, D2, c1, c2, h1, h2, k.1 _ _ a1, k.1 _ _ a2, a3.ext k, fun i b z => (a4 i b z).ext k, a5.ext k, fun i b z => (a6 i b z).ext k, a7, a8, a9, fun i hi => (b1 i hi).mp fun _ _ z => z.ext k, fun i hi => (b2 i hi).imp fun _ z => ⟨z.1, z.2.ext k⟩⟩
theorem MS.ext {w' : Hw} (h : MS g w0 y nM kd th s w) (k : ext g w w') : MS g w0 y nM kd th s w' := ⟨h.1.ext k, h.2.ext k⟩
theorem MS.fr {q : Nat} {o : Ob} (h : MS g w0 y nM kd th s w) (hq : rd g w q = none) : MS g w0 y nM kd th s (upw w q o) := h.ext (ext_up2 ext.rf hq)
theorem MS.st (h : MS g w0 y nM kd th s w) : MS g w y nM kd th s w := ⟨h.1, FM.rf⟩
theorem MS.cat {kd' th' : Int32} {s' : AS} {w' : Hw} (h : MS g w0 y nM kd th s w) (k : MS g w y nM kd' th' s' w') : MS g w0 y nM kd' th' s' w' := ⟨k.1, h.2.tr k.2⟩
theorem MS.rA {b : Nat} {r : R4} {kd' th' : Int32} {s' : AS} {w' : Hw} (h : MS g w0 y nM kd th s w) (k : MS g w y nM kd' th' s' w') (hb : rowA w b r) : rowA w' b r := by
  obtain ⟨cL, pL, D1, D2, c1, c2, h1, h2, a1, a2, -⟩ := h.1
  exact k.2.1 _ _ hb (fun e => by
    subst e
    rw [hb] at a2
    cases a2) rfl
theorem MF.set {cL pL : Nat} {th0 kd' th' rf' md' rf0 md0 : Int32} (h : MF g w y nM kd th s) (hy : w y = some (.inr (7, [.int th0, .ref nM, .ref cL, .ref pL, .int rf0, .int kd, .int md0]))) : MF g (upw w y (.inr (7, [.int th', .ref nM, .ref cL, .ref pL, .int rf', .int kd', .int md']))) y nM kd' th' (sM_ (sR_ s rf') md') := by
  obtain ⟨cL1, pL1, D1, D2, c1, c2, h1, h2, a1, a2, a3, a4, a5, a6, a7, a8, a9, b1, b2⟩ := h
  rw [hy] at a1
  cases a1
  exact ⟨cL, pL, D1, D2, c1, c2, h1, h2, upw_s _ _ _, by rw [upw_n (ne_of a2 hy (fun e => by cases e))]; exact a2, a3.up hy (fun _ e => by cases e) (fun _ e => by cases e), fun i b z => isRow_up (a4 i b z) hy (fun _ e => by cases e), a5.up hy (fun _ e => by cases e) (fun _ e => by cases e), fun i b z => isRow_up (a6 i b z) hy (fun _ e => by cases e), a7, a8, a9, fun i hi => (b1 i hi).mp fun _ _ z => rowA_up z hy (fun _ e => by cases e), fun i hi => (b2 i hi).imp fun _ z => ⟨z.1, rowA_up z.2 hy (fun _ e => by cases e)⟩⟩
theorem MS.set {cL pL : Nat} {th0 kd' th' rf' md' rf0 md0 : Int32} (h : MS g w0 y nM kd th s w) (hy : w y = some (.inr (7, [.int th0, .ref nM, .ref cL, .ref pL, .int rf0, .int kd, .int md0]))) : MS g w0 y nM kd' th' (sM_ (sR_ s rf') md') (upw w y (.inr (7, [.int th', .ref nM, .ref cL, .ref pL, .int rf', .int kd', .int md']))) := ⟨h.1.set hy, h.2.up hy (Or.inr rfl)⟩
theorem MS.num (h : MS g w0 y nM kd th s w) (f' : Nat → Int64) : MS g w0 y nM kd th (sN s f') (upw w nM (.inl (0, 8, .inr (.inl f')))) := by
  obtain ⟨⟨cL, pL, D1, D2, c1, c2, h1, h2, a1, a2, a3, a4, a5, a6, a7, a8, a9, b1, b2⟩, hf⟩ := h
  exact ⟨⟨cL, pL, D1, D2, c1, c2, h1, h2, by rw [upw_n (ne_of a1 a2 (fun e => by cases e))]; exact a1, upw_s _ _ _, a3.up a2 (fun _ e => by cases e) (fun _ e => by cases e), fun i b z => isRow_up (a4 i b z) a2 (fun _ e => by cases e), a5.up a2 (fun _ e => by cases e) (fun _ e => by cases e), fun i b z => isRow_up (a6 i b z) a2 (fun _ e => by cases e), a7, a8, a9, fun i hi => (b1 i hi).mp fun _ _ z => rowA_up z a2 (fun _ e => by cases e), fun i hi => (b2 i hi).imp fun _ z => ⟨z.1, rowA_up z.2 a2 (fun _ e => by cases e)⟩⟩, hf.up a2 (Or.inl rfl)⟩
theorem go_S {K : List Value → Prop} (h : MS g w0 y nM kd th s w) (k : ∀ cL pL : Nat, isY w y nM cL pL → K [.int th, .ref nM, .ref cL, .ref pL, .int s.2.2.2.2.1, .int kd, .int s.2.2.2.2.2]) : go (rd g w y) 7 K := by
  obtain ⟨cL, pL, D1, D2, c1, c2, h1, h2, a1, -⟩ := h.1
  rw [rd_e a1, go_s]
  exact k _ _ ⟨_, _, _, _, a1⟩
theorem go_Sw {K : List Value → Prop} (h : MS g w0 y nM kd th s w) (k : ∀ cL pL : Nat, isY w y nM cL pL → (∀ th' rf' kd' md' : Int32, MS g w0 y nM kd' th' (sM_ (sR_ s rf') md') (upw w y (.inr (7, [.int th', .ref nM, .ref cL, .ref pL, .int rf', .int kd', .int md'])))) → K [.int th, .ref nM, .ref cL, .ref pL, .int s.2.2.2.2.1, .int kd, .int s.2.2.2.2.2]) : go (w y) 7 K := by
  have h0 := h.1
  obtain ⟨cL, pL, D1, D2, c1, c2, h1, h2, a1, -⟩ := h0
  rw [a1, go_s]
  exact k _ _ ⟨_, _, _, _, a1⟩ (fun _ _ _ _ => h.set a1)
theorem gl_S {K : Nat → (Nat → Int64) → Prop} (h : MS g w0 y nM kd th s w) (k : K 8 s.1) : gl (rd g w nM) 0 K := by
  obtain ⟨cL, pL, D1, D2, c1, c2, h1, h2, a1, a2, -⟩ := h.1
  rw [rd_e a2, gl_s]
  exact k
theorem gl_Sw {K : Nat → (Nat → Int64) → Prop} (h : MS g w0 y nM kd th s w) (k : (∀ f', MS g w0 y nM kd th (sN s f') (upw w nM (.inl (0, 8, .inr (.inl f'))))) → K 8 s.1) : gl (w nM) 0 K := by
  have h0 := h.1
  obtain ⟨cL, pL, D1, D2, c1, c2, h1, h2, a1, a2, -⟩ := h0
  rw [a2, gl_s]
  exact k (fun _ => h.num _)
theorem MF.yS {cL pL : Nat} (h : MF g w y nM kd th s) (hY : isY w y nM cL pL) : ∃ (D1 D2 c1 c2 : Nat) (h1 h2 : Nat → Option Nat), w y = some (.inr (7, [.int th, .ref nM, .ref cL, .ref pL, .int s.2.2.2.2.1, .int kd, .int s.2.2.2.2.2])) ∧ w nM = some (.inl (0, 8, .inr (.inl s.1))) ∧ LL g w cL D1 c1 6 h1 ∧ (∀ i b, h1 i = some b → isRow w b) ∧ LL g w pL D2 c2 s.2.2.1 h2 ∧ (∀ i b, h2 i = some b → isRow w b) ∧ s.2.2.1.toInt ≤ 12 ∧ cL ≠ pL ∧ D1 ≠ D2 ∧ (∀ i, i < 6 → cR w (h1 i) (s.2.1 i)) ∧ (∀ i : Nat, (i : Int) < s.2.2.1.toInt → ∃ b, h2 i = some b ∧ rowA w b (s.2.2.2.1 i)) ∧ w D1 = some (.inl (5, c1, qc h1)) ∧ (c1 = 10 ∨ c1 = 15) := by
  obtain ⟨cL1, pL1, D1, D2, c1, c2, h1, h2, a1, a2, a3, a4, a5, a6, a7, a8, a9, b1, b2⟩ := h
  obtain ⟨-, e1, e2⟩ := hY.un ⟨_, _, _, _, a1⟩
  subst e1 e2
  refine ⟨D1, D2, c1, c2, h1, h2, a1, a2, a3, a4, a5, a6, a7, a8, a9, b1, b2, ?_⟩
  rcases a3.2.1 with k | ⟨k, -⟩
  · exact k
  · have k2 := a3.2.2.2
    have e6 : (6 : Int32).toInt = 6 := rfl
    omega
theorem MS.gC {cL pL : Nat} (h : MS g w0 y nM kd th s w) (hY : isY w y nM cL pL) : go (rd g w cL) 3 fun _ => True := gtC h.mm hY
theorem MS.gP {cL pL : Nat} (h : MS g w0 y nM kd th s w) (hY : isY w y nM cL pL) : go (rd g w pL) 3 fun _ => True := gtP h.mm hY
theorem lt6c {a : Int32} (h : okC a) : a.toInt < (6 : Int32).toInt := i32_lt h.2
/-- what stands at a card -/
theorem sGetF {cL pL : Nat} {i : Int32} (hM : MS g w0 y nM kd th s w) (hY : isY w y nM cL pL) (k : okC i) (hN : s.2.1 i.toNatClampNeg = none → Q (.inl (some .null)) w) (hR : ∀ b r, s.2.1 i.toNatClampNeg = some r → rowA w b r → Q (.inl (some (.ref b))) w) : WP (MJx4a65c_get_915e3 g) Q (0, [some (.ref cL), some (.int i)], [], w, 0, 0) := by
  obtain ⟨D1, D2, c1, c2, h1, h2, a1, a2, a3, a4, a5, a6, a7, a8, a9, b1, b2, hD, hc⟩ := hM.1.yS hY
  have kk := b1 _ (c6 k)
  refine sJx4a65c_get a3 (i32_0 k.1) (lt6c k) (fun e => ?_) (fun b e => ?_)
  · rw [e] at kk
    exact hN kk.n
  · rw [e] at kk
    obtain ⟨r, e1, e2⟩ := kk.sm
    exact hR b r e1 e2
theorem sGetK {cL pL : Nat} {i : Int32} {r : R4} (hM : MS g w0 y nM kd th s w) (hY : isY w y nM cL pL) (k : okC i) (e : s.2.1 i.toNatClampNeg = some r) (hR : ∀ b, rowA w b r → Q (.inl (some (.ref b))) w) : WP (MJx4a65c_get_915e3 g) Q (0, [some (.ref cL), some (.int i)], [], w, 0, 0) := sGetF hM hY k (fun h => by
  rw [e] at h
  cases h) (fun b r' h hb => by
  rw [e] at h
  cases h
  exact hR b hb)
/-- the cards' array written -/
theorem MS.crd {cL pL D1 D2 c1 c2 j : Nat} {h1 h2 : Nat → Option Nat} {q : Option Nat} {o : Option R4} (h : MS g w0 y nM kd th s w) (a1 : w y = some (.inr (7, [.int th, .ref nM, .ref cL, .ref pL, .int s.2.2.2.2.1, .int kd, .int s.2.2.2.2.2]))) (a2 : w nM = some (.inl (0, 8, .inr (.inl s.1)))) (a3 : LL g w cL D1 c1 6 h1) (a4 : ∀ i b, h1 i = some b → isRow w b) (a5 : LL g w pL D2 c2 s.2.2.1 h2) (a6 : ∀ i b, h2 i = some b → isRow w b) (a7 : s.2.2.1.toInt ≤ 12) (a8 : cL ≠ pL) (a9 : D1 ≠ D2) (b1 : ∀ i, i < 6 → cR w (h1 i) (s.2.1 i)) (b2 : ∀ i : Nat, (i : Int) < s.2.2.1.toInt → ∃ b, h2 i = some b ∧ rowA w b (s.2.2.2.1 i)) (hD : w D1 = some (.inl (5, c1, qc h1))) (hc : c1 = 10 ∨ c1 = 15) (hq : cR w q o) : MS g w0 y nM kd th (sC s (va_up s.2.1 j o)) (upw w D1 (.inl (5, c1, qc (va_up h1 j q)))) := by
  have hr : ∀ i b, va_up h1 j q i = some b → isRow w b := va_up_row a4 (fun b0 e => by
    subst e
    obtain ⟨r, -, hr⟩ := hq.sm
    exact hr.row)
  obtain ⟨⟨mc, hL⟩, -, h3, h4⟩ := a3
  have up : ∀ b r, rowA w b r → rowA (upw w D1 (.inl (5, c1, qc (va_up h1 j q)))) b r := fun b r hb => rowA_up hb hD (fun _ e => by cases e)
  refine ⟨⟨cL, pL, D1, D2, c1, c2, _, h2, ?_, ?_, ⟨⟨mc, ?_⟩, Or.inl ⟨upw_s _ _ _, hc⟩, h3, h4⟩, fun i b z => isRow_up (hr i b z) hD (fun _ e => by cases e), ?_, fun i b z => isRow_up (a6 i b z) hD (fun _ e => by cases e), a7, a8, a9, fun i hi => cR.mp ?_ up, fun i hi => (b2 i hi).imp fun _ z => ⟨z.1, up _ _ z.2⟩⟩, h.2.up hD (Or.inr rfl)⟩
  · rw [upw_n (ne_of a1 hD (fun e => by cases e))]
    exact a1
  · rw [upw_n (ne_of a2 hD (fun e => by cases e))]
    exact a2
  · rw [upw_n (ne_of hL hD (fun e => by cases e))]
    exact hL
  · refine a5.kp (fun fs e => ?_) (fun z e => ?_) (fun o _ e => ?_)
    · rw [upw_n (ne_of e hD (fun e => by cases e))]
      exact e
    · rw [upw_n (Ne.symm a9)]
      exact e
    · rw [upw_n (Ne.symm a9)]
      exact e
  · show cR w (va_up h1 j q i) (va_up s.2.1 j o i)
    unfold va_up
    split
    · exact hq
    · exact b1 i hi
theorem sSetFR {cL pL b : Nat} {i : Int32} {r : R4} (hM : MS g w0 y nM kd th s w) (hY : isY w y nM cL pL) (hb : rowA w b r) (k : okC i) (hN : ∀ w', MS g w0 y nM kd th (sC s (va_up s.2.1 i.toNatClampNeg (some r))) w' → Q (.inl (some .null)) w') (hR : ∀ b0 w', MS g w0 y nM kd th (sC s (va_up s.2.1 i.toNatClampNeg (some r))) w' → Q (.inl (some (.ref b0))) w') : WP (MJx4a65c_set_bcc79 g) Q (0, [some (.ref cL), some (.int i), some (.ref b), none], [], w, 0, 0) := by
  obtain ⟨D1, D2, c1, c2, h1, h2, a1, a2, a3, a4, a5, a6, a7, a8, a9, b1, b2, hD, hc⟩ := hM.1.yS hY
  have hX := hM.crd a1 a2 a3 a4 a5 a6 a7 a8 a9 b1 b2 hD hc (j := i.toNatClampNeg) (q := some b) (o := some r) hb
  exact sJx4a65c_setR hb.row a3 hD (i32_0 k.1) (lt6c k) (fun _ => hN _ hX) (fun b0 _ => hR b0 _ hX)
theorem sSetFN {cL pL : Nat} {i : Int32} (hM : MS g w0 y nM kd th s w) (hY : isY w y nM cL pL) (k : okC i) (hN : ∀ w', MS g w0 y nM kd th (sC s (va_up s.2.1 i.toNatClampNeg none)) w' → Q (.inl (some .null)) w') (hR : ∀ b0 w', MS g w0 y nM kd th (sC s (va_up s.2.1 i.toNatClampNeg none)) w' → Q (.inl (some (.ref b0))) w') : WP (MJx4a65c_set_bcc79 g) Q (0, [some (.ref cL), some (.int i), some .null, none], [], w, 0, 0) := by
  obtain ⟨D1, D2, c1, c2, h1, h2, a1, a2, a3, a4, a5, a6, a7, a8, a9, b1, b2, hD, hc⟩ := hM.1.yS hY
  have hX := hM.crd a1 a2 a3 a4 a5 a6 a7 a8 a9 b1 b2 hD hc (j := i.toNatClampNeg) (q := none) (o := none) trivial
  exact sJx4a65c_setN a3 hD (i32_0 k.1) (lt6c k) (fun _ => hN _ hX) (fun b0 _ => hR b0 _ hX)
end
end
