/-! 71.fnd.lean.txt -/
section
section
variable {g : RO} {Q : Ot → Hw → Prop} {w0 w : Hw} {x nA cA lA : Nat} {kn : Int32}
/-! FUNCTIONAL SPECS, 13: all that writes keeps the ranges in order -/
/-- the class stands in some state whose ranges are in order -/
def CO (g : RO) (w0 : Hw) (x nA cA lA : Nat) (kn : Int32) (w : Hw) : Prop := ∃ s, sOk s ∧ CS g w0 x nA cA lA kn s w
theorem CO.cc (h : CO g w0 x nA cA lA kn w) : CC g w0 x nA cA lA kn w := by
  obtain ⟨s, -, h⟩ := h
  exact h.cc
theorem CO.ext {w' : Hw} (h : CO g w0 x nA cA lA kn w) (k : ext g w w') : CO g w0 x nA cA lA kn w' := by
  obtain ⟨s, ho, h⟩ := h
  exact ⟨s, ho, h.ext k⟩
theorem CO.mk {s : AS} (h : CS g w0 x nA cA lA kn s w) (ho : sOk s) : CO g w0 x nA cA lA kn w := ⟨s, ho, h⟩
theorem sOk.c' {s : AS} {a : Int32} {r : R4} (h : sOk s) (e : s.2.1 a.toNatClampNeg = some r) (k : okC a) : rOk r := h.c k e
theorem sOk.p' {s : AS} {a : Int32} (h : sOk s) (k : okP s.2.2.1 a) : rOk (s.2.2.2.1 a.toNatClampNeg) := h.2.1 _ (plB k)
theorem sOk.num {s : AS} {f : Nat → Int64} (h : sOk s) : sOk (sN s f) := h
theorem sOk.rf {s : AS} (h : sOk s) : sOk (sRf s) := h
theorem sOk.card {s : AS} {j : Nat} {r : R4} (h : sOk s) (hr : rOk r) : sOk (sC s (va_up s.2.1 j (some r))) := by
  refine ⟨fun i q hi e => ?_, h.2⟩
  have e' : va_up s.2.1 j (some r) i = some q := e
  unfold va_up at e'
  by_cases k : i = j
  · rw [if_pos k] at e'
    cases e'
    exact hr
  · rw [if_neg k] at e'
    exact h.1 i q hi e'
theorem sOk.card0 {s : AS} {j : Nat} (h : sOk s) : sOk (sC s (va_up s.2.1 j none)) := by
  refine ⟨fun i q hi e => ?_, h.2⟩
  have e' : va_up s.2.1 j none i = some q := e
  unfold va_up at e'
  by_cases k : i = j
  · rw [if_pos k] at e'
    cases e'
  · rw [if_neg k] at e'
    exact h.1 i q hi e'
theorem sOk.mk {s : AS} {j : Nat} {r : R4} (h : sOk s) (hr : rOk r) : sOk (sMk s j r) := h.card hr
theorem sOk.mkO {s : AS} {j : Nat} {a : Int32} {r : R4} (h : sOk s) (e : s.2.1 a.toNatClampNeg = some r) (k : okC a) : sOk (sMk s j (r.1, r.1, r.2.2.2, r.2.2.2)) := h.mk (oOut (r := r) (h.c k e))
theorem sOk.lay {s : AS} {r : R4} (h : sOk s) (hr : rOk r) (h11 : s.2.2.1 < 12) : sOk (sP_ s (s.2.2.1 + 1) (va_up s.2.2.2.1 s.2.2.1.toNatClampNeg r)) := by
  have q0 := i32_0 h.2.2.1
  have q1 := i32_lt h11
  have z : (12 : Int32).toInt = 12 := rfl
  have e1 : (s.2.2.1 + 1).toInt = s.2.2.1.toInt + 1 := i32p1 q0 (by omega)
  have t : s.2.2.1.toNatClampNeg = s.2.2.1.toInt.toNat := rfl
  refine ⟨h.1, fun i hi => ?_, i32_of_nlt (by show (0 : Int) ≤ (s.2.2.1 + 1).toInt; omega), i32_of_nlt (by show (s.2.2.1 + 1).toInt ≤ (12 : Int); omega)⟩
  have hi2 : (i : Int) < (s.2.2.1 + 1).toInt := hi
  show rOk (va_up s.2.2.2.1 s.2.2.1.toNatClampNeg r i)
  unfold va_up
  by_cases e : i = s.2.2.1.toNatClampNeg
  · rw [if_pos e]
    exact hr
  · rw [if_neg e]
    exact h.2.1 i (by omega)
theorem sOk.gap {s : AS} {p : Nat} (h : sOk s) (hp : p < s.2.2.1.toInt.toNat) : sOk (sP_ s (s.2.2.1 - 1) (rmv s.2.2.2.1 p)) := by
  have h0 := n0p hp
  have e1 := cg_sub h0
  refine ⟨h.1, fun i hi => ?_, cg3 h0, cg4 h0 h.2.2.2⟩
  have hi2 : (i : Int) < (s.2.2.1 - 1).toInt := hi
  show rOk (rmv s.2.2.2.1 p i)
  unfold rmv
  by_cases e : i < p
  · rw [if_pos e]
    exact h.2.1 i (by omega)
  · rw [if_neg e]
    exact h.2.1 (i + 1) (by omega)
theorem sOk.tur {s : AS} (h : sOk s) : sOk (sP_ s s.2.2.1 (rev s.2.2.2.1 s.2.2.1.toInt.toNat)) := by
  refine ⟨h.1, fun i hi => ?_, h.2.2⟩
  have hi2 : (i : Int) < s.2.2.1.toInt := hi
  exact h.2.1 (s.2.2.1.toInt.toNat - 1 - i) (by omega)
theorem sOk.zero {s : AS} {F : Nat → R4} (h : sOk s) : sOk (sP_ s 0 F) := by
  refine ⟨h.1, fun i hi => ?_, show ¬ (0 : Int32) < 0 by decide, show ¬ (12 : Int32) < 0 by decide⟩
  have hi2 : (i : Int) < (0 : Int32).toInt := hi
  have e0 : (0 : Int32).toInt = 0 := rfl
  omega
end
end
/-! 71.fne.lean.txt -/
section
section
variable {g : RO} {Q : Ot → Hw → Prop} {w0 w : Hw} {x nA cA lA : Nat} {kn : Int32}
/-! FUNCTIONAL SPECS, 14: a new object's state; the state by itself -/
def RFO (w : Hw) (x nA cA lA : Nat) (kn : Int32) : Prop := ∃ s, sOk s ∧ RF w x nA cA lA kn s
theorem RFO.rc (h : RFO w x nA cA lA kn) : RC w x nA cA lA kn := by
  obtain ⟨s, -, h⟩ := h
  exact h.rc
theorem z32 {i : Nat} (h : (i : Int) < (0 : Int32).toInt) : False := by
  have e0 : (0 : Int32).toInt = 0 := rfl
  omega
abbrev S00 : AS := (fun _ => 0, fun _ => none, 0, fun _ => (0, 0, 0, 0), 0, 0)
theorem S00_n {i : Nat} {r : R4} (e : S00.2.1 i = some r) : False := by
  have e' : (none : Option R4) = some r := e
  cases e'
theorem S00_ok : sOk S00 := ⟨fun i r hi e => (S00_n e).elim, fun i hi => (z32 hi).elim, show ¬ (0 : Int32) < 0 by decide, show ¬ (12 : Int32) < 0 by decide⟩
end
end
/-! 72.fq0.lean.txt -/
section
section
variable {g : RO} {Q : Ot → Hw → Prop} {w0 w : Hw} {x nA cA lA : Nat} {kn : Int32}
/-! FUNCTIONAL SPECS, 15: cards counted -/
/-- the cards of which P is so, as bits -/
def cfold (o : Nat → Option R4) (P : R4 → Bool) : Nat → Int32
  | 0 => 0
  | j + 1 => if (o j).isSome && P (cD (o j)) then cfold o P j + ((1 : Int32) <<< (Int32.ofNat j &&& 31)) else cfold o P j
def liP (q r : R4) : Bool := decide (mP q r)
end
end
/-! 75.mf0.lean.txt -/
section
section
variable {g : RO} {Q : Ot → Hw → Prop} {w0 w : Hw} {y nM : Nat} {kd th : Int32} {s : AS}
/-! MODEL, FUNCTIONAL, 1: its rows, its state -/
def rV (r : R4) : Nat → Int64 := vp_updL (vp_updL (vp_updL (vp_updL (fun _ => 0) 0 r.1) 1 r.2.1) 2 r.2.2.1) 3 r.2.2.2
/-- a row's cells: its four numbers -/
def rowA (w : Hw) (b : Nat) (r : R4) : Prop := w b = some (.inl (0, 4, .inr (.inl (rV r))))
theorem rowA.row {b : Nat} {r : R4} (h : rowA w b r) : isRow w b := ⟨_, h⟩
theorem rowA.ext {b : Nat} {r : R4} {w' : Hw} (h : rowA w b r) (k : ext g w w') : rowA w' b r := k.1 _ _ h
theorem rowA.ca {b : Nat} {r : R4} (h : rowA w b r) : ∃ x, w b = some (.inl (0, x)) := ⟨_, h⟩
theorem rowA_up {a b : Nat} {r : R4} {o1 o2 : Ob} (h : rowA w b r) (ha : w a = some o1) (ho : ∀ z, o1 ≠ .inl (0, 4, z)) : rowA (upw w a o2) b r := by
  unfold rowA
  rw [upw_n]
  · exact h
  · rintro rfl
    rw [h] at ha
    cases ha
    exact ho _ rfl
theorem gl_A {b : Nat} {r : R4} {K : Nat → (Nat → Int64) → Prop} (h : rowA w b r) (k : K 4 (rV r)) : gl (rd g w b) 0 K := by
  rw [rd_e h, gl_s]
  exact k
theorem rv0 {r : R4} : rV r (0 : Int32).toNatClampNeg = r.1 := Eq.trans rfl rfl
theorem rv1 {r : R4} : rV r (1 : Int32).toNatClampNeg = r.2.1 := Eq.trans rfl rfl
theorem rv2 {r : R4} : rV r (2 : Int32).toNatClampNeg = r.2.2.1 := Eq.trans rfl rfl
theorem rv3 {r : R4} : rV r (3 : Int32).toNatClampNeg = r.2.2.2 := Eq.trans rfl rfl
theorem rvE {r : R4} {a : Int32} (h0 : ¬ a < 0) (h1 : ¬ 3 < a) : rV r a.toNatClampNeg = eV r a := by
  rcases sw02 a with rfl | rfl | rfl | h
  · rfl
  · rfl
  · rfl
  · have e3 : (3 : Int32).toInt = 3 := rfl
    have e0 := i32_0 h0
    have e1 := i32_nlt h1
    obtain rfl : a = 3 := i32_eq (by omega)
    rfl
theorem rvj {r : R4} {j : Nat} (h : j < 4) : rV r j = eV r (Int32.ofNat j) := by
  match j, h with
  | 0, _ => rfl
  | 1, _ => rfl
  | 2, _ => rfl
  | 3, _ => rfl
  | j + 4, h => exact absurd h (by omega)
def cR (w : Hw) : Option Nat → Option R4 → Prop
  | none, none => True
  | some b, some r => rowA w b r
  | _, _ => False
theorem cR.sm {b : Nat} {o : Option R4} (h : cR w (some b) o) : ∃ r, o = some r ∧ rowA w b r := by
  cases o with
  | none => exact (h : False).elim
  | some r => exact ⟨r, rfl, h⟩
theorem cR.n {o : Option R4} (h : cR w none o) : o = none := by
  cases o with
  | none => rfl
  | some r => exact (h : False).elim
theorem cR.mp {w' : Hw} {q : Option Nat} {o : Option R4} (h : cR w q o) (k : ∀ b r, rowA w b r → rowA w' b r) : cR w' q o := by
  cases q <;> cases o <;> first | exact h | exact k _ _ h
/-- the model's cells hold the state s -/
def MF (g : RO) (w : Hw) (y nM : Nat) (kd th : Int32) (s : AS) : Prop := ∃ (cL pL D1 D2 c1 c2 : Nat) (h1 h2 : Nat → Option Nat),
  w y = some (.inr (7, [.int th, .ref nM, .ref cL, .ref pL, .int s.2.2.2.2.1, .int kd, .int s.2.2.2.2.2])) ∧ w nM = some (.inl (0, 8, .inr (.inl s.1))) ∧ LL g w cL D1 c1 6 h1 ∧ (∀ i b, h1 i = some b → isRow w b) ∧ LL g w pL D2 c2 s.2.2.1 h2 ∧ (∀ i b, h2 i = some b → isRow w b) ∧ s.2.2.1.toInt ≤ 12 ∧ cL ≠ pL ∧ D1 ≠ D2 ∧
  (∀ i, i < 6 → cR w (h1 i) (s.2.1 i)) ∧ ∀ i : Nat, (i : Int) < s.2.2.1.toInt → ∃ b, h2 i = some b ∧ rowA w b (s.2.2.2.1 i)
theorem MF.rmo (h : MF g w y nM kd th s) : RMo g w y nM kd := by
  obtain ⟨cL, pL, D1, D2, c1, c2, h1, h2, a1, a2, a3, a4, a5, a6, a7, a8, a9, b1, b2⟩ := h
  exact ⟨cL, pL, D1, D2, c1, c2, th, _, _, _, _, h1, h2, a1, a2, a3, a4, a5, a6, a7, a8, a9, fun i hi => (b2 i hi).imp fun _ z => z.1⟩
def MS (g : RO) (w0 : Hw) (y nM : Nat) (kd th : Int32) (s : AS) (w : Hw) : Prop := MF g w y nM kd th s ∧ FM g nM w0 w
theorem MS.mm (h : MS g w0 y nM kd th s w) : MM g w0 y nM kd w := ⟨h.1.rmo, h.2⟩
theorem MF.ext {w' : Hw} (h : MF g w y nM kd th s) (k : ext g w w') : MF g w' y nM kd th s := by
  obtain ⟨cL, pL, D1, D2, c1, c2, h1, h2, a1, a2, a3, a4, a5, a6, a7, a8, a9, b1, b2⟩ := h
  exact ⟨cL, pL, D1, D2, c1, c2, h1, h2, k.1 _ _ a1, k.1 _ _ a2, a3.ext k, fun i b z => (a4 i b z).ext k, a5.ext k, fun i b z => (a6 i b z).ext k, a7, a8, a9, fun i hi => (b1 i hi).mp fun _ _ z => z.ext k, fun i hi => (b2 i hi).imp fun _ z => ⟨z.1, z.2.ext k⟩⟩
theorem MS.ext {w' : Hw} (h : MS g w0 y nM kd th s w) (k : ext g w w') : MS g w0 y nM kd th s w' := ⟨h.1.ext k, h.2.ext k⟩
theorem MS.fr {q : Nat} {o : Ob} (h : MS g w0 y nM kd th s w) (hq : rd g w q = none) : MS g w0 y nM kd th s (upw w q o) := h.ext (ext_up2 ext.rf hq)
theorem MS.st (h : MS g w0 y nM kd th s w) : MS g w y nM kd th s w := ⟨h.1, FM.rf⟩
theorem MS.cat {kd' th' : Int32} {s' : AS} {w' : Hw} (h : MS g w0 y nM kd th s w) (k : MS g w y nM kd' th' s' w') : MS g w0 y nM kd' th' s' w' := ⟨k.1, h.2.tr k.2⟩
theorem MS.rA {b : Nat} {r : R4} {kd' th' : Int32} {s' : AS} {w' : Hw} (h : MS g w0 y nM kd th s w) (k : MS g w y nM kd' th' s' w') (hb : rowA w b r) : rowA w' b r := by
  obtain ⟨cL, pL, D1, D2, c1, c2, h1, h2, a1, a2, -⟩ := h.1
  exact k.2.1 _ _ hb (fun e => by
    subst e
    rw [hb] at a2
    cases a2) rfl
theorem MF.set {cL pL : Nat} {th0 kd' th' rf' md' rf0 md0 : Int32} (h : MF g w y nM kd th s) (hy : w y = some (.inr (7, [.int th0, .ref nM, .ref cL, .ref pL, .int rf0, .int kd, .int md0]))) : MF g (upw w y (.inr (7, [.int th', .ref nM, .ref cL, .ref pL, .int rf', .int kd', .int md']))) y nM kd' th' (sM_ (sR_ s rf') md') := by
  obtain ⟨cL1, pL1, D1, D2, c1, c2, h1, h2, a1, a2, a3, a4, a5, a6, a7, a8, a9, b1, b2⟩ := h
  rw [hy] at a1
  cases a1
  exact ⟨cL, pL, D1, D2, c1, c2, h1, h2, upw_s _ _ _, by rw [upw_n (ne_of a2 hy (fun e => by cases e))]; exact a2, a3.up hy (fun _ e => by cases e) (fun _ e => by cases e), fun i b z => isRow_up (a4 i b z) hy (fun _ e => by cases e), a5.up hy (fun _ e => by cases e) (fun _ e => by cases e), fun i b z => isRow_up (a6 i b z) hy (fun _ e => by cases e), a7, a8, a9, fun i hi => (b1 i hi).mp fun _ _ z => rowA_up z hy (fun _ e => by cases e), fun i hi => (b2 i hi).imp fun _ z => ⟨z.1, rowA_up z.2 hy (fun _ e => by cases e)⟩⟩
theorem MS.set {cL pL : Nat} {th0 kd' th' rf' md' rf0 md0 : Int32} (h : MS g w0 y nM kd th s w) (hy : w y = some (.inr (7, [.int th0, .ref nM, .ref cL, .ref pL, .int rf0, .int kd, .int md0]))) : MS g w0 y nM kd' th' (sM_ (sR_ s rf') md') (upw w y (.inr (7, [.int th', .ref nM, .ref cL, .ref pL, .int rf', .int kd', .int md']))) := ⟨h.1.set hy, h.2.up hy (Or.inr rfl)⟩
theorem MS.num (h : MS g w0 y nM kd th s w) (f' : Nat → Int64) : MS g w0 y nM kd th (sN s f') (upw w nM (.inl (0, 8, .inr (.inl f')))) := by
  obtain ⟨⟨cL, pL, D1, D2, c1, c2, h1, h2, a1, a2, a3, a4, a5, a6, a7, a8, a9, b1, b2⟩, hf⟩ := h
  exact ⟨⟨cL, pL, D1, D2, c1, c2, h1, h2, by rw [upw_n (ne_of a1 a2 (fun e => by cases e))]; exact a1, upw_s _ _ _, a3.up a2 (fun _ e => by cases e) (fun _ e => by cases e), fun i b z => isRow_up (a4 i b z) a2 (fun _ e => by cases e), a5.up a2 (fun _ e => by cases e) (fun _ e => by cases e), fun i b z => isRow_up (a6 i b z) a2 (fun _ e => by cases e), a7, a8, a9, fun i hi => (b1 i hi).mp fun _ _ z => rowA_up z a2 (fun _ e => by cases e), fun i hi => (b2 i hi).imp fun _ z => ⟨z.1, rowA_up z.2 a2 (fun _ e => by cases e)⟩⟩, hf.up a2 (Or.inl rfl)⟩
theorem go_S {K : List Value → Prop} (h : MS g w0 y nM kd th s w) (k : ∀ cL pL : Nat, isY w y nM cL pL → K [.int th, .ref nM, .ref cL, .ref pL, .int s.2.2.2.2.1, .int kd, .int s.2.2.2.2.2]) : go (rd g w y) 7 K := by
  obtain ⟨cL, pL, D1, D2, c1, c2, h1, h2, a1, -⟩ := h.1
  rw [rd_e a1, go_s]
  exact k _ _ ⟨_, _, _, _, a1⟩
theorem go_Sw {K : List Value → Prop} (h : MS g w0 y nM kd th s w) (k : ∀ cL pL : Nat, isY w y nM cL pL → (∀ th' rf' kd' md' : Int32, MS g w0 y nM kd' th' (sM_ (sR_ s rf') md') (upw w y (.inr (7, [.int th', .ref nM, .ref cL, .ref pL, .int rf', .int kd', .int md'])))) → K [.int th, .ref nM, .ref cL, .ref pL, .int s.2.2.2.2.1, .int kd, .int s.2.2.2.2.2]) : go (w y) 7 K := by
  have h0 := h.1
  obtain ⟨cL, pL, D1, D2, c1, c2, h1, h2, a1, -⟩ := h0
  rw [a1, go_s]
  exact k _ _ ⟨_, _, _, _, a1⟩ (fun _ _ _ _ => h.set a1)
theorem gl_S {K : Nat → (Nat → Int64) → Prop} (h : MS g w0 y nM kd th s w) (k : K 8 s.1) : gl (rd g w nM) 0 K := by
  obtain ⟨cL, pL, D1, D2, c1, c2, h1, h2, a1, a2, -⟩ := h.1
  rw [rd_e a2, gl_s]
  exact k
theorem gl_Sw {K : Nat → (Nat → Int64) → Prop} (h : MS g w0 y nM kd th s w) (k : (∀ f', MS g w0 y nM kd th (sN s f') (upw w nM (.inl (0, 8, .inr (.inl f'))))) → K 8 s.1) : gl (w nM) 0 K := by
  have h0 := h.1
  obtain ⟨cL, pL, D1, D2, c1, c2, h1, h2, a1, a2, -⟩ := h0
  rw [a2, gl_s]
  exact k (fun _ => h.num _)
theorem MF.yS {cL pL : Nat} (h : MF g w y nM kd th s) (hY : isY w y nM cL pL) : ∃ (D1 D2 c1 c2 : Nat) (h1 h2 : Nat → Option Nat), w y = some (.inr (7, [.int th, .ref nM, .ref cL, .ref pL, .int s.2.2.2.2.1, .int kd, .int s.2.2.2.2.2])) ∧ w nM = some (.inl (0, 8, .inr (.inl s.1))) ∧ LL g w cL D1 c1 6 h1 ∧ (∀ i b, h1 i = some b → isRow w b) ∧ LL g w pL D2 c2 s.2.2.1 h2 ∧ (∀ i b, h2 i = some b → isRow w b) ∧ s.2.2.1.toInt ≤ 12 ∧ cL ≠ pL ∧ D1 ≠ D2 ∧ (∀ i, i < 6 → cR w (h1 i) (s.2.1 i)) ∧ (∀ i : Nat, (i : Int) < s.2.2.1.toInt → ∃ b, h2 i = some b ∧ rowA w b (s.2.2.2.1 i)) ∧ w D1 = some (.inl (5, c1, qc h1)) ∧ (c1 = 10 ∨ c1 = 15) := by
  obtain ⟨cL1, pL1, D1, D2, c1, c2, h1, h2, a1, a2, a3, a4, a5, a6, a7, a8, a9, b1, b2⟩ := h
  obtain ⟨-, e1, e2⟩ := hY.un ⟨_, _, _, _, a1⟩
  subst e1 e2
  refine ⟨D1, D2, c1, c2, h1, h2, a1, a2, a3, a4, a5, a6, a7, a8, a9, b1, b2, ?_⟩
  rcases a3.2.1 with k | ⟨k, -⟩
  · exact k
  · have k2 := a3.2.2.2
    have e6 : (6 : Int32).toInt = 6 := rfl
    omega
theorem MS.gC {cL pL : Nat} (h : MS g w0 y nM kd th s w) (hY : isY w y nM cL pL) : go (rd g w cL) 3 fun _ => True := gtC h.mm hY
theorem MS.gP {cL pL : Nat} (h : MS g w0 y nM kd th s w) (hY : isY w y nM cL pL) : go (rd g w pL) 3 fun _ => True := gtP h.mm hY
theorem lt6c {a : Int32} (h : okC a) : a.toInt < (6 : Int32).toInt := i32_lt h.2
/-- what stands at a card -/
theorem sGetF {cL pL : Nat} {i : Int32} (hM : MS g w0 y nM kd th s w) (hY : isY w y nM cL pL) (k : okC i) (hN : s.2.1 i.toNatClampNeg = none → Q (.inl (some .null)) w) (hR : ∀ b r, s.2.1 i.toNatClampNeg = some r → rowA w b r → Q (.inl (some (.ref b))) w) : WP (MJx4a65c_get_915e3 g) Q (0, [some (.ref cL), some (.int i)], [], w, 0, 0) := by
  obtain ⟨D1, D2, c1, c2, h1, h2, a1, a2, a3, a4, a5, a6, a7, a8, a9, b1, b2, hD, hc⟩ := hM.1.yS hY
  have kk := b1 _ (c6 k)
  refine sJx4a65c_get a3 (i32_0 k.1) (lt6c k) (fun e => ?_) (fun b e => ?_)
  · rw [e] at kk
    exact hN kk.n
  · rw [e] at kk
    obtain ⟨r, e1, e2⟩ := kk.sm
    exact hR b r e1 e2
theorem sGetK {cL pL : Nat} {i : Int32} {r : R4} (hM : MS g w0 y nM kd th s w) (hY : isY w y nM cL pL) (k : okC i) (e : s.2.1 i.toNatClampNeg = some r) (hR : ∀ b, rowA w b r → Q (.inl (some (.ref b))) w) : WP (MJx4a65c_get_915e3 g) Q (0, [some (.ref cL), some (.int i)], [], w, 0, 0) := sGetF hM hY k (fun h => by
  rw [e] at h
  cases h) (fun b r' h hb => by
  rw [e] at h
  cases h
  exact hR b hb)
/-- the cards' array written -/
theorem MS.crd {cL pL D1 D2 c1 c2 j : Nat} {h1 h2 : Nat → Option Nat} {q : Option Nat} {o : Option R4} (h : MS g w0 y nM kd th s w) (a1 : w y = some (.inr (7, [.int th, .ref nM, .ref cL, .ref pL, .int s.2.2.2.2.1, .int kd, .int s.2.2.2.2.2]))) (a2 : w nM = some (.inl (0, 8, .inr (.inl s.1)))) (a3 : LL g w cL D1 c1 6 h1) (a4 : ∀ i b, h1 i = some b → isRow w b) (a5 : LL g w pL D2 c2 s.2.2.1 h2) (a6 : ∀ i b, h2 i = some b → isRow w b) (a7 : s.2.2.1.toInt ≤ 12) (a8 : cL ≠ pL) (a9 : D1 ≠ D2) (b1 : ∀ i, i < 6 → cR w (h1 i) (s.2.1 i)) (b2 : ∀ i : Nat, (i : Int) < s.2.2.1.toInt → ∃ b, h2 i = some b ∧ rowA w b (s.2.2.2.1 i)) (hD : w D1 = some (.inl (5, c1, qc h1))) (hc : c1 = 10 ∨ c1 = 15) (hq : cR w q o) : MS g w0 y nM kd th (sC s (va_up s.2.1 j o)) (upw w D1 (.inl (5, c1, qc (va_up h1 j q)))) := by
  have hr : ∀ i b, va_up h1 j q i = some b → isRow w b := va_up_row a4 (fun b0 e => by
    subst e
    obtain ⟨r, -, hr⟩ := hq.sm
    exact hr.row)
  obtain ⟨⟨mc, hL⟩, -, h3, h4⟩ := a3
  have up : ∀ b r, rowA w b r → rowA (upw w D1 (.inl (5, c1, qc (va_up h1 j q)))) b r := fun b r hb => rowA_up hb hD (fun _ e => by cases e)
  refine ⟨⟨cL, pL, D1, D2, c1, c2, _, h2, ?_, ?_, ⟨⟨mc, ?_⟩, Or.inl ⟨upw_s _ _ _, hc⟩, h3, h4⟩, fun i b z => isRow_up (hr i b z) hD (fun _ e => by cases e), ?_, fun i b z => isRow_up (a6 i b z) hD (fun _ e => by cases e), a7, a8, a9, fun i hi => cR.mp ?_ up, fun i hi => (b2 i hi).imp fun _ z => ⟨z.1, up _ _ z.2⟩⟩, h.2.up hD (Or.inr rfl)⟩
  · rw [upw_n (ne_of a1 hD (fun e => by cases e))]
    exact a1
  · rw [upw_n (ne_of a2 hD (fun e => by cases e))]
    exact a2
  · rw [upw_n (ne_of hL hD (fun e => by cases e))]
    exact hL
  · refine a5.kp (fun fs e => ?_) (fun z e => ?_) (fun o _ e => ?_)
    · rw [upw_n (ne_of e hD (fun e => by cases e))]
      exact e
    · rw [upw_n (Ne.symm a9)]
      exact e
    · rw [upw_n (Ne.symm a9)]
      exact e
  · show cR w (va_up h1 j q i) (va_up s.2.1 j o i)
    unfold va_up
    split
    · exact hq
    · exact b1 i hi
theorem sSetFR {cL pL b : Nat} {i : Int32} {r : R4} (hM : MS g w0 y nM kd th s w) (hY : isY w y nM cL pL) (hb : rowA w b r) (k : okC i) (hN : ∀ w', MS g w0 y nM kd th (sC s (va_up s.2.1 i.toNatClampNeg (some r))) w' → Q (.inl (some .null)) w') (hR : ∀ b0 w', MS g w0 y nM kd th (sC s (va_up s.2.1 i.toNatClampNeg (some r))) w' → Q (.inl (some (.ref b0))) w') : WP (MJx4a65c_set_bcc79 g) Q (0, [some (.ref cL), some (.int i), some (.ref b), none], [], w, 0, 0) := by
  obtain ⟨D1, D2, c1, c2, h1, h2, a1, a2, a3, a4, a5, a6, a7, a8, a9, b1, b2, hD, hc⟩ := hM.1.yS hY
  have hX := hM.crd a1 a2 a3 a4 a5 a6 a7 a8 a9 b1 b2 hD hc (j := i.toNatClampNeg) (q := some b) (o := some r) hb
  exact sJx4a65c_setR hb.row a3 hD (i32_0 k.1) (lt6c k) (fun _ => hN _ hX) (fun b0 _ => hR b0 _ hX)
theorem sSetFN {cL pL : Nat} {i : Int32} (hM : MS g w0 y nM kd th s w) (hY : isY w y nM cL pL) (k : okC i) (hN : ∀ w', MS g w0 y nM kd th (sC s (va_up s.2.1 i.toNatClampNeg none)) w' → Q (.inl (some .null)) w') (hR : ∀ b0 w', MS g w0 y nM kd th (sC s (va_up s.2.1 i.toNatClampNeg none)) w' → Q (.inl (some (.ref b0))) w') : WP (MJx4a65c_set_bcc79 g) Q (0, [some (.ref cL), some (.int i), some .null, none], [], w, 0, 0) := by
  obtain ⟨D1, D2, c1, c2, h1, h2, a1, a2, a3, a4, a5, a6, a7, a8, a9, b1, b2, hD, hc⟩ := hM.1.yS hY
  have hX := hM.crd a1 a2 a3 a4 a5 a6 a7 a8 a9 b1 b2 hD hc (j := i.toNatClampNeg) (q := none) (o := none) trivial
  exact sJx4a65c_setN a3 hD (i32_0 k.1) (lt6c k) (fun _ => hN _ hX) (fun b0 _ => hR b0 _ hX)
end
end
/-! 75.mf1.lean.txt -/
section
section
variable {g : RO} {Q : Ot → Hw → Prop} {w0 w : Hw} {y nM : Nat} {kd th : Int32} {s : AS}
/-! MODEL, FUNCTIONAL, 2: its pile -/
theorem MS.n0 (h : MS g w0 y nM kd th s w) : 0 ≤ s.2.2.1.toInt ∧ s.2.2.1.toInt ≤ 12 := by
  obtain ⟨cL, pL, D1, D2, c1, c2, h1, h2, a1, a2, a3, a4, a5, a6, a7, -⟩ := h.1
  exact ⟨a5.2.2.1, a7⟩
theorem MS.nn (h : MS g w0 y nM kd th s w) : s.2.2.1.toInt = ((s.2.2.1.toInt.toNat : Nat) : Int) ∧ s.2.2.1.toInt.toNat ≤ 12 := by
  have k := h.n0
  omega
theorem sSizeF {cL pL : Nat} (hM : MS g w0 y nM kd th s w) (hY : isY w y nM cL pL) (hQ : Q (.inl (some (.int s.2.2.1))) w) : WP (MJx4a65c_size_8abf5 g) Q (0, [some (.ref pL)], [], w, 0, 0) := by
  obtain ⟨D1, D2, c1, c2, h1, h2, a1, a2, a3, a4, a5, -⟩ := hM.1.yS hY
  exact sJx4a65c_size a5 hQ
theorem sGetPF {cL pL : Nat} {i : Int32} (hM : MS g w0 y nM kd th s w) (hY : isY w y nM cL pL) (k : okP s.2.2.1 i) (hQ : ∀ b, rowA w b (s.2.2.2.1 i.toNatClampNeg) → Q (.inl (some (.ref b))) w) : WP (MJx4a65c_get_915e3 g) Q (0, [some (.ref pL), some (.int i)], [], w, 0, 0) := by
  obtain ⟨D1, D2, c1, c2, h1, h2, a1, a2, a3, a4, a5, a6, a7, a8, a9, b1, b2, hD, hc⟩ := hM.1.yS hY
  obtain ⟨b, hb, hr⟩ := b2 i.toNatClampNeg (plB k)
  refine sJx4a65c_get a5 (i32_0 k.1) (i32_lt k.2) (fun e => ?_) (fun b' e => ?_)
  · rw [hb] at e
    cases e
  · rw [hb] at e
    cases e
    exact hQ b hr
/-- the pile's list another -/
theorem MS.lpo {cL pL D1 D2 c1 c2 : Nat} {n' : Int32} {h1 h2 : Nat → Option Nat} {w' : Hw} {F : Nat → R4} {H : (Nat → Option Nat) → Prop} (h : MS g w0 y nM kd th s w) (a1 : w y = some (.inr (7, [.int th, .ref nM, .ref cL, .ref pL, .int s.2.2.2.2.1, .int kd, .int s.2.2.2.2.2]))) (a2 : w nM = some (.inl (0, 8, .inr (.inl s.1)))) (a3 : LL g w cL D1 c1 6 h1) (a4 : ∀ i b, h1 i = some b → isRow w b) (a5 : LL g w pL D2 c2 s.2.2.1 h2) (a8 : cL ≠ pL) (a9 : D1 ≠ D2) (b1 : ∀ i, i < 6 → cR w (h1 i) (s.2.1 i)) (hD : w D1 = some (.inl (5, c1, qc h1))) (hl : LPo g w w' pL D2 n' H) (hn : n'.toInt ≤ 12) (hH : ∀ h', H h' → ∀ i : Nat, (i : Int) < n'.toInt → ∃ b, h' i = some b ∧ rowA w b (F i)) : MS g w0 y nM kd th (sP_ s n' F) w' := by
  obtain ⟨D', c', h', l1, l2, f1, f2, fD, hh⟩ := hl
  have hL := a5.1
  obtain ⟨mcp, hL⟩ := hL
  have nD : ∀ {a : Nat} {o : Ob}, w a = some o → (∀ z, o ≠ .inl (5, z)) → a ≠ D2 := fun ha ho e => by
    rcases a5.2.1 with ⟨k, -⟩ | ⟨-, -, k, -⟩
    · rw [e, k] at ha
      cases ha
      exact ho _ rfl
    · rw [e, k] at ha
      cases ha
  have mv : ∀ {a : Nat} {o : Ob}, w a = some o → (∀ z, o ≠ .inl (5, z)) → (∀ fs, o ≠ .inr (3, fs)) → w' a = some o := fun ha h5 h3 => f1 _ _ ha (ne_of ha hL (h3 _)) (nD ha h5)
  have rw1 : ∀ b, isRow w b → isRow w' b := fun b ⟨f0, hb⟩ => ⟨f0, mv hb (fun _ e => by cases e) (fun _ e => by cases e)⟩
  have rw2 : ∀ b r, rowA w b r → rowA w' b r := fun b r hb => mv hb (fun _ e => by cases e) (fun _ e => by cases e)
  refine ⟨⟨cL, pL, D1, D', c1, c', h1, h', mv a1 (fun _ e => by cases e) (fun _ e => by cases e), mv a2 (fun _ e => by cases e) (fun _ e => by cases e), ?_, fun i b z => rw1 b (a4 i b z), l1, l2, hn, a8, ?_, fun i hi => (b1 i hi).mp rw2, fun i hi => (hH h' hh i hi).imp fun _ z => ⟨z.1, rw2 _ _ z.2⟩⟩, h.2.tr ⟨fun a o e1 e2 e3 => ?_, f2⟩⟩
  · refine a3.kp (fun fs e => f1 _ _ e a8 (nD e (fun _ e => by cases e))) (fun z e => f1 _ _ e (ne_of e hL (fun e => by cases e)) a9) (fun o e1 e2 => f2 _ _ e1 e2)
  · rcases fD with rfl | ⟨fD, -⟩
    · exact a9
    · intro e
      rw [e, fD] at hD
      cases hD
  · refine mv e1 (fun z e => ?_) (fun fs e => ?_)
    · subst e
      cases e3
    · subst e
      cases e3
theorem va_up4 {f : Nat → R4} {k : Nat} {r : R4} : va_up f k r k = r := by
  unfold va_up
  rw [if_pos rfl]
theorem va_up4o {f : Nat → R4} {k j : Nat} {r : R4} (e : j ≠ k) : va_up f k r j = f j := by
  unfold va_up
  rw [if_neg e]
theorem sAddF {cL pL b : Nat} {r : R4} (hM : MS g w0 y nM kd th s w) (hY : isY w y nM cL pL) (hE : EG g w0) (hS : SG g) (hb : rowA w b r) (hn : s.2.2.1 < 12) (hQ : ∀ w', MS g w0 y nM kd th (sP_ s (s.2.2.1 + 1) (va_up s.2.2.2.1 s.2.2.1.toNatClampNeg r)) w' → Q (.inl (some (.int 1))) w') : WP (MJx4a65c_add_9ea2d g) Q (0, [some (.ref pL), some (.ref b)], [], w, 0, 0) := by
  obtain ⟨D1, D2, c1, c2, h1, h2, a1, a2, a3, a4, a5, a6, a7, a8, a9, b1, b2, hD, hc⟩ := hM.1.yS hY
  have hlt := i32_lt hn
  have e12 : (12 : Int32).toInt = 12 := rfl
  have n0 := a5.2.2.1
  have e1 := i32p1 (c := s.2.2.1) n0 (by omega)
  refine sJx4a65c_add_9ea2dR hb.row (hM.mm.eg hE) hS a5 a6 (by omega) (fun w' hl => hQ _ (hM.lpo a1 a2 a3 a4 a5 a8 a9 b1 hD hl (by omega) (fun h' hh i hi => ?_)))
  have t : s.2.2.1.toNatClampNeg = s.2.2.1.toInt.toNat := rfl
  rcases Nat.lt_or_ge i s.2.2.1.toNatClampNeg with q | q
  · rw [hh.1 i q, va_up4o (by omega)]
    exact b2 i (by omega)
  · have : i = s.2.2.1.toNatClampNeg := by omega
    subst this
    rw [va_up4]
    exact ⟨b, hh.2, hb⟩
theorem sRemF {cL pL p : Nat} (hM : MS g w0 y nM kd th s w) (hY : isY w y nM cL pL) (hp : p < s.2.2.1.toInt.toNat) (hQ : ∀ b w', MS g w0 y nM kd th (sP_ s (s.2.2.1 - 1) (rmv s.2.2.2.1 p)) w' → Q (.inl (some (.ref b))) w') : WP (MJx4a65c_remove_915e3 g) Q (0, [some (.ref pL), some (.int (Int32.ofNat p)), none, none], [], w, 0, 0) := by
  have nn := hM.n0
  obtain ⟨D1, D2, c1, c2, h1, h2, a1, a2, a3, a4, a5, a6, a7, a8, a9, b1, b2, hD, hc⟩ := hM.1.yS hY
  have z1' : (1 : Int32).toInt = 1 := rfl
  have ep : (Int32.ofNat p).toInt = (p : Int) := oNt (by omega)
  have ec : (Int32.ofNat p).toNatClampNeg = p := oNc (by omega)
  have e1 : (s.2.2.1 - 1).toInt = s.2.2.1.toInt - 1 := by rw [i32_sub (by omega) (by omega), z1']
  have t : s.2.2.1.toNatClampNeg = s.2.2.1.toInt.toNat := rfl
  have hX : ∀ w', LPo g w w' pL D2 (s.2.2.1 - 1) (HRm h2 s.2.2.1.toNatClampNeg (Int32.ofNat p).toNatClampNeg) → MS g w0 y nM kd th (sP_ s (s.2.2.1 - 1) (rmv s.2.2.2.1 p)) w' := fun w' hl => hM.lpo a1 a2 a3 a4 a5 a8 a9 b1 hD hl (by omega) (fun h' hh i hi => by
    rw [ec] at hh
    unfold rmv
    rcases Nat.lt_or_ge i p with q | q
    · rw [hh.1 i q, if_pos q]
      exact b2 i (by omega)
    · rw [hh.2 i q (by omega), if_neg (by omega)]
      exact b2 (i + 1) (by omega))
  refine sJx4a65c_remove_915e3 a5 a6 (by omega) (by omega) (fun e => ?_) (fun b _ w' hl => hQ b w' (hX w' hl))
  rw [ec] at e
  obtain ⟨b, hb, -⟩ := b2 p (by omega)
  rw [hb] at e
  cases e
theorem rowA_cg {b : Nat} {r r' : R4} (h : rowA w b r) (e : r = r') : rowA w b r' := by
  rw [← e]
  exact h
theorem MS.pcg {n : Int32} {F G : Nat → R4} (h : MS g w0 y nM kd th (sP_ s n F) w) (e : ∀ i : Nat, (i : Int) < n.toInt → F i = G i) : MS g w0 y nM kd th (sP_ s n G) w := by
  obtain ⟨⟨cL, pL, D1, D2, c1, c2, h1, h2, a1, a2, a3, a4, a5, a6, a7, a8, a9, b1, b2⟩, hf⟩ := h
  exact ⟨⟨cL, pL, D1, D2, c1, c2, h1, h2, a1, a2, a3, a4, a5, a6, a7, a8, a9, b1, fun i hi => (b2 i hi).imp fun _ z => ⟨z.1, rowA_cg z.2 (e i hi)⟩⟩, hf⟩
end
end
/-! 75.mf2.lean.txt -/
section
section
variable {g : RO} {Q : Ot → Hw → Prop} {w0 w : Hw} {y nM : Nat} {kd th : Int32} {s : AS}
/-! MODEL, FUNCTIONAL, 3: guards, numbers -/
theorem itx {c : Prop} {i : Decidable c} {A B : Prop} (h1 : c → A) (h2 : ¬ c → B) : @ite Prop c i A B := by
  by_cases h : c
  · rw [if_pos h]
    exact h1 h
  · rw [if_neg h]
    exact h2 h
theorem n00x {P : Prop} (h : ¬ (0 : Int32) = 0) : P := absurd rfl h
theorem lt8m {a : Int32} (h : ¬ 7 < a) : a < 8 := by
  have k := i32_nlt h
  have e7 : (7 : Int32).toInt = 7 := rfl
  have e8 : (8 : Int32).toInt = 8 := rfl
  exact i32_of_lt (by omega)
theorem lt6m {a : Int32} (h : ¬ 5 < a) : a < 6 := by
  have k := i32_nlt h
  have e7 : (5 : Int32).toInt = 5 := rfl
  have e8 : (6 : Int32).toInt = 6 := rfl
  exact i32_of_lt (by omega)
theorem nokN {a : Int32} (h : a < 0 ∨ 7 < a) : ¬ okN a := fun k => by
  rcases h with h | h
  · exact k.1 h
  · have q := i32_lt h
    have q2 := i32_lt k.2
    have e7 : (7 : Int32).toInt = 7 := rfl
    have e8 : (8 : Int32).toInt = 8 := rfl
    omega
theorem nokC {a : Int32} (h : a < 0 ∨ 5 < a) : ¬ okC a := fun k => by
  rcases h with h | h
  · exact k.1 h
  · have q := i32_lt h
    have q2 := i32_lt k.2
    have e7 : (5 : Int32).toInt = 5 := rfl
    have e8 : (6 : Int32).toInt = 6 := rfl
    omega
theorem nokW {a m : Int32} (h : a < 0 ∨ m < a) : ¬ okW a m := fun k => h.elim k.1 k.2
theorem vpi8k {a : Int32} (h : okN a) : vp_in a 8 := vpi8 h.1 h.2
theorem vpi6k {a : Int32} (h : okC a) : vp_in a 6 := vpi6 h.1 h.2
theorem vpi4k {a : Int32} (h : okW a 3) : vp_in a 4 := vpi4n h.1 h.2
theorem tdE (V : Int) : V.tdiv 4294967296 = if 0 ≤ V then V / 4294967296 else -((-V) / 4294967296) := by
  split
  · rename_i h
    exact Int.tdiv_eq_ediv_of_nonneg h
  · rename_i h
    obtain ⟨W, e⟩ : ∃ W, V = -W := ⟨-V, by omega⟩
    subst e
    rw [Int.neg_tdiv, Int.tdiv_eq_ediv_of_nonneg (by omega), Int.neg_neg]
theorem eT : (4294967296 : Int64).toInt = 4294967296 := by decide
theorem jadd {x y : Int64} (h1 : -9223372036854775808 ≤ x.toInt + y.toInt) (h2 : x.toInt + y.toInt < 9223372036854775808) : (x + y).toInt = x.toInt + y.toInt := by
  rw [Int64.toInt_add]
  exact Int.bmod_eq_of_le (by omega) (by omega)
theorem jsub {x y : Int64} (h1 : -9223372036854775808 ≤ x.toInt - y.toInt) (h2 : x.toInt - y.toInt < 9223372036854775808) : (x - y).toInt = x.toInt - y.toInt := by
  rw [Int64.toInt_sub]
  exact Int.bmod_eq_of_le (by omega) (by omega)
theorem jint {x : Int64} (h1 : -2147483648 ≤ x.toInt) (h2 : x.toInt < 2147483648) : x.toInt32.toInt = x.toInt := by
  rw [Int64.toInt_toInt32]
  exact Int.bmod_eq_of_le (by omega) (by omega)
theorem muT {x : Int64} (h1 : -2147483648 ≤ x.toInt) (h2 : x.toInt < 2147483648) : (x * 4294967296).toInt = x.toInt * 4294967296 := by
  rw [Int64.toInt_mul, eT]
  exact Int.bmod_eq_of_le (by omega) (by omega)
theorem dvT {x : Int64} : (x / 4294967296).toInt = if 0 ≤ x.toInt then x.toInt / 4294967296 else -((-x.toInt) / 4294967296) := by
  rw [Int64.toInt_div_of_ne_right _ _ (by decide), eT, tdE]
theorem rmT {x : Int64} : (x - x / 4294967296 * 4294967296).toInt = if 0 ≤ x.toInt then x.toInt % 4294967296 else -((-x.toInt) % 4294967296) := by
  have l0 : -9223372036854775808 ≤ x.toInt := x.le_toInt
  have l1 : x.toInt < 9223372036854775808 := x.toInt_lt
  have d := dvT (x := x)
  have b : -2147483648 ≤ (x / 4294967296).toInt ∧ (x / 4294967296).toInt < 2147483648 := by
    rw [d]
    split <;> omega
  have m := muT b.1 b.2
  rw [d] at m
  have q : (x - x / 4294967296 * 4294967296).toInt = x.toInt - (x / 4294967296 * 4294967296).toInt := jsub (by rw [m]; split <;> omega) (by rw [m]; split <;> omega)
  rw [q, m]
  split <;> omega
/-- the lower half, not below 0 -/
theorem mdT {v : Int64} : ((v - v / 4294967296 * 4294967296 + 4294967296) - (v - v / 4294967296 * 4294967296 + 4294967296) / 4294967296 * 4294967296).toInt = v.toInt % 4294967296 := by
  have h1 := rmT (x := v)
  obtain ⟨x1, e1⟩ : ∃ x1, v - v / 4294967296 * 4294967296 = x1 := ⟨_, rfl⟩
  rw [e1] at h1 ⊢
  have b : -4294967296 < x1.toInt ∧ x1.toInt < 4294967296 := by
    rw [h1]
    split <;> omega
  have h2 : (x1 + 4294967296).toInt = x1.toInt + 4294967296 := by
    rw [jadd (by rw [eT]; omega) (by rw [eT]; omega), eT]
  have h3 := rmT (x := x1 + 4294967296)
  rw [h2, if_pos (by omega)] at h3
  rw [h3, h1]
  split <;> omega
theorem shT {v : Int64} : (v >>> ((32 : Int32).toInt64 &&& 63)).toInt = v.toInt / 4294967296 := by
  have e : (((32 : Int32).toInt64 &&& 63).toBitVec.smod 64) = 32#64 := by decide
  show (v.toBitVec.sshiftRight' (((32 : Int32).toInt64 &&& 63).toBitVec.smod 64)).toInt = _
  rw [e, BitVec.toInt_sshiftRight', Int.shiftRight_eq_div_pow]
  rfl
theorem hiE {v : Int64} : ((v - ((v - v / 4294967296 * 4294967296 + 4294967296) - (v - v / 4294967296 * 4294967296 + 4294967296) / 4294967296 * 4294967296)) / 4294967296).toInt32 = hiV v := by
  have m := mdT (v := v)
  obtain ⟨x2, e2⟩ : ∃ x2, (v - v / 4294967296 * 4294967296 + 4294967296) - (v - v / 4294967296 * 4294967296 + 4294967296) / 4294967296 * 4294967296 = x2 := ⟨_, rfl⟩
  rw [e2] at m ⊢
  have l0 : -9223372036854775808 ≤ v.toInt := v.le_toInt
  have l1 : v.toInt < 9223372036854775808 := v.toInt_lt
  have h1 : (v - x2).toInt = v.toInt - v.toInt % 4294967296 := by
    rw [jsub (by rw [m]; omega) (by rw [m]; omega), m]
  have h2 := dvT (x := v - x2)
  rw [h1] at h2
  have h4 : ((v - x2) / 4294967296).toInt = v.toInt / 4294967296 := by
    rw [h2]
    split <;> omega
  have h3 := shT (v := v)
  apply Int32.toInt_inj.mp
  unfold hiV
  rw [jint (by rw [h4]; omega) (by rw [h4]; omega), jint (by rw [h3]; omega) (by rw [h3]; omega), h4, h3]
theorem loE {v : Int64} : ((v - v / 4294967296 * 4294967296 + 4294967296) - (v - v / 4294967296 * 4294967296 + 4294967296) / 4294967296 * 4294967296).toInt32 = loV v := by
  apply Int32.toInt_inj.mp
  unfold loV
  rw [Int64.toInt_toInt32, Int64.toInt_toInt32, mdT]
  have t : ((2 ^ 32 : Nat) : Int) = 4294967296 := by decide
  rw [← t]
  exact Int.emod_bmod ..
theorem loS {x : Int64} (h : -9223372032559808512 ≤ x.toInt) : (x - 4294967296).toInt32 = x.toInt32 := by
  apply Int32.toInt_inj.mp
  rw [Int64.toInt_toInt32, Int64.toInt_toInt32, jsub (by rw [eT]; omega) (by rw [eT]; have : x.toInt < 9223372036854775808 := x.toInt_lt; omega), eT]
  have t : ((2 ^ 32 : Nat) : Int) = 4294967296 := by decide
  rw [← t]
  exact Int.sub_bmod_right ..
theorem loE2 {v : Int64} : (((v - v / 4294967296 * 4294967296 + 4294967296) - (v - v / 4294967296 * 4294967296 + 4294967296) / 4294967296 * 4294967296) - 4294967296).toInt32 = loV v := by
  rw [loS (by rw [mdT]; omega), loE]
theorem slT {x : Int64} : x <<< ((32 : Int32).toInt64 &&& 63) = x * 4294967296 := by
  apply Int64.toBitVec_inj.mp
  have e : (((32 : Int32).toInt64 &&& 63).toBitVec.smod 64) = 32#64 := by decide
  show x.toBitVec <<< (((32 : Int32).toInt64 &&& 63).toBitVec.smod 64) = x.toBitVec * 4294967296#64
  rw [e]
  show x.toBitVec <<< (32 : Nat) = _
  rw [BitVec.shiftLeft_eq_mul_twoPow]
  rfl
theorem mkT {x : Int64} : (x &&& 4294967295).toInt = x.toInt % 4294967296 := by
  have e1 : (x &&& 4294967295).toBitVec.toNat = x.toBitVec.toNat % 4294967296 := by
    show (x.toBitVec &&& 4294967295#64).toNat = _
    rw [BitVec.toNat_and]
    exact Nat.and_two_pow_sub_one_eq_mod _ 32
  have e2 : (x &&& 4294967295).toInt = (x &&& 4294967295).toBitVec.toInt := rfl
  have e3 : x.toInt = x.toBitVec.toInt := rfl
  have lt := x.toBitVec.isLt
  rw [e2, e3, BitVec.toInt_eq_toNat_cond, BitVec.toInt_eq_toNat_cond, e1]
  split <;> split <;> omega
theorem stA {a b : BitVec 64} : (a <<< (32 : Nat)) &&& (b &&& 4294967295#64) = 0#64 := by
  apply BitVec.eq_of_getLsbD_eq
  intro i hi
  have e : (4294967295#64).getLsbD i = decide (i < 32) := Nat.testBit_two_pow_sub_one 32 i
  rw [BitVec.getLsbD_and, BitVec.getLsbD_and, BitVec.getLsbD_shiftLeft, e]
  by_cases h : i < 32 <;> simp [h]
theorem stO {h l : Int32} : stV h l = h.toInt64 * 4294967296 + (l.toInt64 &&& 4294967295) := by
  rw [← slT]
  apply Int64.toBitVec_inj.mp
  unfold stV
  have e : (((32 : Int32).toInt64 &&& 63).toBitVec.smod 64) = 32#64 := by decide
  show (h.toInt64.toBitVec <<< (((32 : Int32).toInt64 &&& 63).toBitVec.smod 64)) ||| (l.toInt64.toBitVec &&& 4294967295#64) = (h.toInt64.toBitVec <<< (((32 : Int32).toInt64 &&& 63).toBitVec.smod 64)) + (l.toInt64.toBitVec &&& 4294967295#64)
  rw [e]
  exact (BitVec.add_eq_or_of_and_eq_zero _ _ (stA (a := h.toInt64.toBitVec) (b := l.toInt64.toBitVec))).symm
theorem i64i (x : Int32) : x.toInt64.toInt = x.toInt := Int32.toInt_toInt64 x
theorem stI {h l : Int32} : (stV h l).toInt = h.toInt * 4294967296 + l.toInt % 4294967296 := by
  have b0 : -2147483648 ≤ h.toInt := h.le_toInt
  have b1 : h.toInt < 2147483648 := h.toInt_lt
  have a1 := muT (x := h.toInt64) (by rw [i64i]; exact b0) (by rw [i64i]; exact b1)
  have a2 := mkT (x := l.toInt64)
  rw [i64i] at a1 a2
  rw [stO, jadd (by rw [a1, a2]; omega) (by rw [a1, a2]; omega), a1, a2]
theorem stN {h l : Int32} (k : l < 0) : h.toInt64 * 4294967296 + (l.toInt64 + 4294967296) = stV h l := by
  apply Int64.toInt_inj.mp
  have b0 : -2147483648 ≤ h.toInt := h.le_toInt
  have b1 : h.toInt < 2147483648 := h.toInt_lt
  have c0 : -2147483648 ≤ l.toInt := l.le_toInt
  have k1 := i32_lt k
  have e0 : (0 : Int32).toInt = 0 := rfl
  have m := muT (x := h.toInt64) (by rw [i64i]; exact b0) (by rw [i64i]; exact b1)
  rw [i64i] at m
  have a : (l.toInt64 + 4294967296).toInt = l.toInt + 4294967296 := by rw [jadd (by rw [i64i, eT]; omega) (by rw [i64i, eT]; omega), i64i, eT]
  rw [stI, jadd (by rw [m, a]; omega) (by rw [m, a]; omega), m, a]
  omega
theorem stP {h l : Int32} (k : ¬ l < 0) : h.toInt64 * 4294967296 + l.toInt64 = stV h l := by
  apply Int64.toInt_inj.mp
  have b0 : -2147483648 ≤ h.toInt := h.le_toInt
  have b1 : h.toInt < 2147483648 := h.toInt_lt
  have c0 : l.toInt < 2147483648 := l.toInt_lt
  have k1 := i32_nlt k
  have e0 : (0 : Int32).toInt = 0 := rfl
  have m := muT (x := h.toInt64) (by rw [i64i]; exact b0) (by rw [i64i]; exact b1)
  rw [i64i] at m
  rw [stI, jadd (by rw [m, i64i]; omega) (by rw [m, i64i]; omega), m, i64i]
  omega
theorem hfV_e {a : Int64} {h : Int32} (k : h = 0) : hfV a h = loV a := if_pos k
set_option maxHeartbeats 4000000 in
theorem fX3_isIn {a b c : Int32} (h1 : ¬ a < b → ¬ c < a → Q (.inl (some (.int 1))) w) (h0 : (a < b ∨ c < a) → Q (.inl (some (.int 0))) w) : WP (MX3_isIn g) Q (0, [some (.int a), some (.int b), some (.int c)], [], w, 0, 0) := by
  repeat' first
    | with_reducible assumption
    | with_reducible refine And.intro ?_ ?_
    | with_reducible exact vpi6 (by assumption) (by assumption)
    | with_reducible exact vpi8 (by assumption) (by assumption)
    | with_reducible exact trivial
    | with_reducible exact absurd (by assumption) n10'
    | with_reducible exact n00x (by assumption)
    | with_reducible exact h1 (by assumption) (by assumption)
    | with_reducible exact h0 (Or.inl (by assumption))
    | with_reducible exact h0 (Or.inr (by assumption))
    | simp only [eX3_isIn_0, eX3_isIn_1, eX3_isIn_2, eX3_isIn_5, eX3_isIn_6, eX3_isIn_7, eX3_isIn_10, eX3_isIn_11, eX3_isIn_14, eX3_isIn_15, lgp, lgn, lgz, i10, i00, if_true, if_false, eq_self, not_true, not_false_eq_true, m10, n4e, upw2q, rv0, rv1, rv2, rv3, lmi, lmx, ite_le, n45, n54, true_or, or_true, false_or, or_false, false_and, and_false, kx_l, kx_r, go_s, gl_s, gi_s, gb_s2, gb_s3, gq_s, wt_nil, wt_int, wt_long, wt_ref, wt_null, nl_int, nl_long, nl_ref, nl_null, nl_none, rf_n, rf_s, rf_st, tl_s, tl_n, g0, gS, ex1, nb_b, nb_0, nb_1, nf_i, nf_l, nf_ra, nf_ro, nf_na, nf_no, nf_b0, nf_z0, t45_4, t45_5, true_and, and_true, List.set_cons_zero, List.set_cons_succ, List.length_cons, List.length_nil, rd_s, upw_s, ne_eq, not_false_eq_true, Nat.zero_add, Nat.add_zero]
    | with_reducible refine itx (fun _ => ?_) (fun _ => ?_)
    | split
    | with_reducible intro _
    | omega
set_option maxHeartbeats 4000000 in
theorem fX3_isNoNumber {a : Int32} (h1 : ¬ okN a → Q (.inl (some (.int 1))) w) (h0 : okN a → Q (.inl (some (.int 0))) w) : WP (MX3_isNoNumber g) Q (0, [some (.int a)], [], w, 0, 0) := by
  repeat' first
    | with_reducible assumption
    | with_reducible refine And.intro ?_ ?_
    | with_reducible exact vpi6 (by assumption) (by assumption)
    | with_reducible exact vpi8 (by assumption) (by assumption)
    | with_reducible exact trivial
    | with_reducible exact absurd (by assumption) n10'
    | with_reducible exact n00x (by assumption)
    | with_reducible refine fX3_isIn (fun _ _ => ?_) (fun _ => ?_)
    | with_reducible exact h0 ⟨by assumption, lt8m (by assumption)⟩
    | with_reducible exact h1 (nokN (by assumption))
    | simp only [eX3_isNoNumber_0, eX3_isNoNumber_1, eX3_isNoNumber_2, eX3_isNoNumber_4, eX3_isNoNumber_7, eX3_isNoNumber_10, eX3_isNoNumber_11, eX3_isNoNumber_14, eX3_isNoNumber_15, lgp, lgn, lgz, i10, i00, if_true, if_false, eq_self, not_true, not_false_eq_true, m10, n4e, upw2q, rv0, rv1, rv2, rv3, lmi, lmx, ite_le, n45, n54, true_or, or_true, false_or, or_false, false_and, and_false, kx_l, kx_r, go_s, gl_s, gi_s, gb_s2, gb_s3, gq_s, wt_nil, wt_int, wt_long, wt_ref, wt_null, nl_int, nl_long, nl_ref, nl_null, nl_none, rf_n, rf_s, rf_st, tl_s, tl_n, g0, gS, ex1, nb_b, nb_0, nb_1, nf_i, nf_l, nf_ra, nf_ro, nf_na, nf_no, nf_b0, nf_z0, t45_4, t45_5, true_and, and_true, List.set_cons_zero, List.set_cons_succ, List.length_cons, List.length_nil, rd_s, upw_s, ne_eq, not_false_eq_true, Nat.zero_add, Nat.add_zero]
    | with_reducible refine itx (fun _ => ?_) (fun _ => ?_)
    | split
    | with_reducible intro _
    | omega
set_option maxHeartbeats 4000000 in
theorem fX3_isNoCard {a : Int32} (h1 : ¬ okC a → Q (.inl (some (.int 1))) w) (h0 : okC a → Q (.inl (some (.int 0))) w) : WP (MX3_isNoCard g) Q (0, [some (.int a)], [], w, 0, 0) := by
  repeat' first
    | with_reducible assumption
    | with_reducible refine And.intro ?_ ?_
    | with_reducible exact vpi6 (by assumption) (by assumption)
    | with_reducible exact vpi8 (by assumption) (by assumption)
    | with_reducible exact trivial
    | with_reducible exact absurd (by assumption) n10'
    | with_reducible exact n00x (by assumption)
    | with_reducible refine fX3_isIn (fun _ _ => ?_) (fun _ => ?_)
    | with_reducible exact h0 ⟨by assumption, lt6m (by assumption)⟩
    | with_reducible exact h1 (nokC (by assumption))
    | simp only [eX3_isNoCard_0, eX3_isNoCard_1, eX3_isNoCard_2, eX3_isNoCard_3, eX3_isNoCard_6, eX3_isNoCard_9, eX3_isNoCard_10, eX3_isNoCard_13, eX3_isNoCard_14, lgp, lgn, lgz, i10, i00, if_true, if_false, eq_self, not_true, not_false_eq_true, m10, n4e, upw2q, rv0, rv1, rv2, rv3, lmi, lmx, ite_le, n45, n54, true_or, or_true, false_or, or_false, false_and, and_false, kx_l, kx_r, go_s, gl_s, gi_s, gb_s2, gb_s3, gq_s, wt_nil, wt_int, wt_long, wt_ref, wt_null, nl_int, nl_long, nl_ref, nl_null, nl_none, rf_n, rf_s, rf_st, tl_s, tl_n, g0, gS, ex1, nb_b, nb_0, nb_1, nf_i, nf_l, nf_ra, nf_ro, nf_na, nf_no, nf_b0, nf_z0, t45_4, t45_5, true_and, and_true, List.set_cons_zero, List.set_cons_succ, List.length_cons, List.length_nil, rd_s, upw_s, ne_eq, not_false_eq_true, Nat.zero_add, Nat.add_zero]
    | with_reducible refine itx (fun _ => ?_) (fun _ => ?_)
    | split
    | with_reducible intro _
    | omega
set_option maxHeartbeats 4000000 in
theorem fX3_isNoEnd {a : Int32} (h1 : ¬ okW a 3 → Q (.inl (some (.int 1))) w) (h0 : okW a 3 → Q (.inl (some (.int 0))) w) : WP (MX3_isNoEnd g) Q (0, [some (.int a)], [], w, 0, 0) := by
  repeat' first
    | with_reducible assumption
    | with_reducible refine And.intro ?_ ?_
    | with_reducible exact vpi6 (by assumption) (by assumption)
    | with_reducible exact vpi8 (by assumption) (by assumption)
    | with_reducible exact trivial
    | with_reducible exact absurd (by assumption) n10'
    | with_reducible exact n00x (by assumption)
    | with_reducible refine fX3_isIn (fun _ _ => ?_) (fun _ => ?_)
    | with_reducible exact h0 ⟨by assumption, by assumption⟩
    | with_reducible exact h1 (nokW (by assumption))
    | simp only [eX3_isNoEnd_0, eX3_isNoEnd_1, eX3_isNoEnd_2, eX3_isNoEnd_3, eX3_isNoEnd_6, eX3_isNoEnd_9, eX3_isNoEnd_10, eX3_isNoEnd_13, eX3_isNoEnd_14, lgp, lgn, lgz, i10, i00, if_true, if_false, eq_self, not_true, not_false_eq_true, m10, n4e, upw2q, rv0, rv1, rv2, rv3, lmi, lmx, ite_le, n45, n54, true_or, or_true, false_or, or_false, false_and, and_false, kx_l, kx_r, go_s, gl_s, gi_s, gb_s2, gb_s3, gq_s, wt_nil, wt_int, wt_long, wt_ref, wt_null, nl_int, nl_long, nl_ref, nl_null, nl_none, rf_n, rf_s, rf_st, tl_s, tl_n, g0, gS, ex1, nb_b, nb_0, nb_1, nf_i, nf_l, nf_ra, nf_ro, nf_na, nf_no, nf_b0, nf_z0, t45_4, t45_5, true_and, and_true, List.set_cons_zero, List.set_cons_succ, List.length_cons, List.length_nil, rd_s, upw_s, ne_eq, not_false_eq_true, Nat.zero_add, Nat.add_zero]
    | with_reducible refine itx (fun _ => ?_) (fun _ => ?_)
    | split
    | with_reducible intro _
    | omega
theorem MF.op (h : MF g w y nM kd th s) : ∃ cL pL : Nat, w y = some (.inr (7, [.int th, .ref nM, .ref cL, .ref pL, .int s.2.2.2.2.1, .int kd, .int s.2.2.2.2.2])) ∧ rd g w y = some (.inr (7, [.int th, .ref nM, .ref cL, .ref pL, .int s.2.2.2.2.1, .int kd, .int s.2.2.2.2.2])) := by
  obtain ⟨cL, pL, D1, D2, c1, c2, h1, h2, a1, -⟩ := h
  exact ⟨cL, pL, a1, rd_e a1⟩
set_option maxHeartbeats 4000000 in
theorem fX3_refuse {a c : Int32} (hM : MS g w0 y nM kd 0 s w) (hc : 0 < c) (h0 : a = 0 → Q (.inl (some (.int 0))) w) (h1 : ¬ a = 0 → ∀ w', MS g w0 y nM kd c s w' → Q (.inl (some (.int 1))) w') : WP (MX3_refuse g) Q (0, [some (.ref y), some (.int a), some (.int c)], [], w, 0, 0) := by
  obtain ⟨cL, pL, hy, ry⟩ := hM.1.op
  have q1 : (c ≤ 0) = False := eq_false (fun h => absurd hc (Int32.not_lt.mpr h))
  have q2 : ((0 : Int32) ≤ 0) = True := eq_true (Int32.le_refl _)
  have q3 : ((0 : Int32) < 0) = False := eq_false (by decide)
  have q4 : (0 < c) = True := eq_true hc
  repeat' first
    | with_reducible assumption
    | with_reducible refine And.intro ?_ ?_
    | with_reducible exact vpi6 (by assumption) (by assumption)
    | with_reducible exact vpi8 (by assumption) (by assumption)
    | with_reducible exact trivial
    | with_reducible exact absurd (by assumption) n10'
    | with_reducible exact n00x (by assumption)
    | with_reducible exact h0 (by assumption)
    | ((with_reducible refine isQ (Q := Q) ?_); exact h1 (by assumption) _ (hM.set hy))
    | simp only [eX3_refuse_0, eX3_refuse_1, eX3_refuse_4, eX3_refuse_4N, eX3_refuse_5, eX3_refuse_8, eX3_refuse_11, eX3_refuse_11N, eX3_refuse_12, eX3_refuse_13, eX3_refuse_16, eX3_refuse_16N, eX3_refuse_17, eX3_refuse_20, eX3_refuse_23, eX3_refuse_24, eX3_refuse_27, eX3_refuse_28, lgp, lgn, lgz, i10, i00, if_true, if_false, eq_self, not_true, not_false_eq_true, m10, n4e, upw2q, rv0, rv1, rv2, rv3, lmi, lmx, hy, ry, q1, q2, q3, q4, ite_le, n45, n54, true_or, or_true, false_or, or_false, false_and, and_false, kx_l, kx_r, go_s, gl_s, gi_s, gb_s2, gb_s3, gq_s, wt_nil, wt_int, wt_long, wt_ref, wt_null, nl_int, nl_long, nl_ref, nl_null, nl_none, rf_n, rf_s, rf_st, tl_s, tl_n, g0, gS, ex1, nb_b, nb_0, nb_1, nf_i, nf_l, nf_ra, nf_ro, nf_na, nf_no, nf_b0, nf_z0, t45_4, t45_5, true_and, and_true, List.set_cons_zero, List.set_cons_succ, List.length_cons, List.length_nil, rd_s, upw_s, ne_eq, not_false_eq_true, Nat.zero_add, Nat.add_zero]
    | with_reducible refine itx (fun _ => ?_) (fun _ => ?_)
    | split
    | with_reducible intro _
    | omega
set_option maxHeartbeats 4000000 in
theorem fX3_start {a c : Int32} (hM : MS g w0 y nM kd th s w) (hc : 0 < c) (h0 : a = 0 → ∀ w', MS g w0 y nM kd 0 s w' → Q (.inl (some (.int 0))) w') (h1 : ¬ a = 0 → ∀ w', MS g w0 y nM kd c s w' → Q (.inl (some (.int 1))) w') : WP (MX3_start g) Q (0, [some (.ref y), some (.int a), some (.int c)], [], w, 0, 0) := by
  obtain ⟨cL, pL, hy, ry⟩ := hM.1.op
  have hz : MS g w0 y nM kd 0 s (upw w y (.inr (7, [.int 0, .ref nM, .ref cL, .ref pL, .int s.2.2.2.2.1, .int kd, .int s.2.2.2.2.2]))) := hM.set hy
  repeat' first
    | with_reducible assumption
    | with_reducible refine And.intro ?_ ?_
    | with_reducible exact vpi6 (by assumption) (by assumption)
    | with_reducible exact vpi8 (by assumption) (by assumption)
    | with_reducible exact trivial
    | with_reducible exact absurd (by assumption) n10'
    | with_reducible exact n00x (by assumption)
    | with_reducible refine fX3_refuse hz hc (fun _ => ?_) (fun _ _ _ => ?_)
    | with_reducible exact h0 (by assumption) _ hz
    | with_reducible exact h1 (by assumption) _ (by assumption)
    | simp only [eX3_start_0, eX3_start_0N, eX3_start_1, eX3_start_2, eX3_start_5, eX3_start_5N, eX3_start_6, eX3_start_7, eX3_start_8, eX3_start_11, lgp, lgn, lgz, i10, i00, if_true, if_false, eq_self, not_true, not_false_eq_true, m10, n4e, upw2q, rv0, rv1, rv2, rv3, lmi, lmx, hy, ry, ite_le, n45, n54, true_or, or_true, false_or, or_false, false_and, and_false, kx_l, kx_r, go_s, gl_s, gi_s, gb_s2, gb_s3, gq_s, wt_nil, wt_int, wt_long, wt_ref, wt_null, nl_int, nl_long, nl_ref, nl_null, nl_none, rf_n, rf_s, rf_st, tl_s, tl_n, g0, gS, ex1, nb_b, nb_0, nb_1, nf_i, nf_l, nf_ra, nf_ro, nf_na, nf_no, nf_b0, nf_z0, t45_4, t45_5, true_and, and_true, List.set_cons_zero, List.set_cons_succ, List.length_cons, List.length_nil, rd_s, upw_s, ne_eq, not_false_eq_true, Nat.zero_add, Nat.add_zero]
    | with_reducible refine itx (fun _ => ?_) (fun _ => ?_)
    | split
    | with_reducible intro _
    | omega
set_option maxHeartbeats 4000000 in
theorem fX3_no  (hM : MS g w0 y nM kd th s w) (hQ : ∀ w', MS g w0 y nM kd th (sRf s) w' → Q (.inl (some (.int (-9)))) w') : WP (MX3_no g) Q (0, [some (.ref y)], [], w, 0, 0) := by
  obtain ⟨cL, pL, hy, ry⟩ := hM.1.op
  repeat' first
    | with_reducible assumption
    | with_reducible refine And.intro ?_ ?_
    | with_reducible exact vpi6 (by assumption) (by assumption)
    | with_reducible exact vpi8 (by assumption) (by assumption)
    | with_reducible exact trivial
    | with_reducible exact absurd (by assumption) n10'
    | with_reducible exact n00x (by assumption)
    | ((with_reducible refine isQ (Q := Q) ?_); exact hQ _ (hM.set hy))
    | simp only [eX3_no_0, eX3_no_0N, eX3_no_1, eX3_no_1R, eX3_no_2, eX3_no_5, eX3_no_6, eX3_no_7, eX3_no_10, eX3_no_12, lgp, lgn, lgz, i10, i00, if_true, if_false, eq_self, not_true, not_false_eq_true, m10, n4e, upw2q, rv0, rv1, rv2, rv3, lmi, lmx, hy, ry, ite_le, n45, n54, true_or, or_true, false_or, or_false, false_and, and_false, kx_l, kx_r, go_s, gl_s, gi_s, gb_s2, gb_s3, gq_s, wt_nil, wt_int, wt_long, wt_ref, wt_null, nl_int, nl_long, nl_ref, nl_null, nl_none, rf_n, rf_s, rf_st, tl_s, tl_n, g0, gS, ex1, nb_b, nb_0, nb_1, nf_i, nf_l, nf_ra, nf_ro, nf_na, nf_no, nf_b0, nf_z0, t45_4, t45_5, true_and, and_true, List.set_cons_zero, List.set_cons_succ, List.length_cons, List.length_nil, rd_s, upw_s, ne_eq, not_false_eq_true, Nat.zero_add, Nat.add_zero]
    | with_reducible refine itx (fun _ => ?_) (fun _ => ?_)
    | split
    | with_reducible intro _
    | omega
set_option maxHeartbeats 4000000 in
theorem fX3_knock  (hM : MS g w0 y nM kd th s w) (hQ : ∀ w', MS g w0 y nM (kd + 1) 0 s w' → Q (.inl (some (.int (kd + 1)))) w') : WP (MX3_knock g) Q (0, [some (.ref y)], [], w, 0, 0) := by
  obtain ⟨cL, pL, hy, ry⟩ := hM.1.op
  repeat' first
    | with_reducible assumption
    | with_reducible refine And.intro ?_ ?_
    | with_reducible exact vpi6 (by assumption) (by assumption)
    | with_reducible exact vpi8 (by assumption) (by assumption)
    | with_reducible exact trivial
    | with_reducible exact absurd (by assumption) n10'
    | with_reducible exact n00x (by assumption)
    | ((with_reducible refine isQ (Q := Q) ?_); exact hQ _ (hM.set hy))
    | simp only [eX3_knock_0, eX3_knock_0N, eX3_knock_1, eX3_knock_2, eX3_knock_5, eX3_knock_5N, eX3_knock_6, eX3_knock_6R, eX3_knock_7, eX3_knock_10, eX3_knock_11, eX3_knock_12, eX3_knock_15, eX3_knock_15N, eX3_knock_16, eX3_knock_19, lgp, lgn, lgz, i10, i00, if_true, if_false, eq_self, not_true, not_false_eq_true, m10, n4e, upw2q, rv0, rv1, rv2, rv3, lmi, lmx, hy, ry, ite_le, n45, n54, true_or, or_true, false_or, or_false, false_and, and_false, kx_l, kx_r, go_s, gl_s, gi_s, gb_s2, gb_s3, gq_s, wt_nil, wt_int, wt_long, wt_ref, wt_null, nl_int, nl_long, nl_ref, nl_null, nl_none, rf_n, rf_s, rf_st, tl_s, tl_n, g0, gS, ex1, nb_b, nb_0, nb_1, nf_i, nf_l, nf_ra, nf_ro, nf_na, nf_no, nf_b0, nf_z0, t45_4, t45_5, true_and, and_true, List.set_cons_zero, List.set_cons_succ, List.length_cons, List.length_nil, rd_s, upw_s, ne_eq, not_false_eq_true, Nat.zero_add, Nat.add_zero]
    | with_reducible refine itx (fun _ => ?_) (fun _ => ?_)
    | split
    | with_reducible intro _
    | omega
set_option maxHeartbeats 4000000 in
theorem fX3_isSound  (hM : MS g w0 y nM kd th s w) (hQ : ∀ w', MS g w0 y nM kd 0 s w' → Q (.inl (some (.int 1))) w') : WP (MX3_isSound g) Q (0, [some (.ref y)], [], w, 0, 0) := by
  obtain ⟨cL, pL, hy, ry⟩ := hM.1.op
  repeat' first
    | with_reducible assumption
    | with_reducible refine And.intro ?_ ?_
    | with_reducible exact vpi6 (by assumption) (by assumption)
    | with_reducible exact vpi8 (by assumption) (by assumption)
    | with_reducible exact trivial
    | with_reducible exact absurd (by assumption) n10'
    | with_reducible exact n00x (by assumption)
    | ((with_reducible refine isQ (Q := Q) ?_); exact hQ _ (hM.set hy))
    | simp only [eX3_isSound_0, eX3_isSound_0N, eX3_isSound_1, eX3_isSound_2, eX3_isSound_5, eX3_isSound_6, lgp, lgn, lgz, i10, i00, if_true, if_false, eq_self, not_true, not_false_eq_true, m10, n4e, upw2q, rv0, rv1, rv2, rv3, lmi, lmx, hy, ry, ite_le, n45, n54, true_or, or_true, false_or, or_false, false_and, and_false, kx_l, kx_r, go_s, gl_s, gi_s, gb_s2, gb_s3, gq_s, wt_nil, wt_int, wt_long, wt_ref, wt_null, nl_int, nl_long, nl_ref, nl_null, nl_none, rf_n, rf_s, rf_st, tl_s, tl_n, g0, gS, ex1, nb_b, nb_0, nb_1, nf_i, nf_l, nf_ra, nf_ro, nf_na, nf_no, nf_b0, nf_z0, t45_4, t45_5, true_and, and_true, List.set_cons_zero, List.set_cons_succ, List.length_cons, List.length_nil, rd_s, upw_s, ne_eq, not_false_eq_true, Nat.zero_add, Nat.add_zero]
    | with_reducible refine itx (fun _ => ?_) (fun _ => ?_)
    | split
    | with_reducible intro _
    | omega
set_option maxHeartbeats 4000000 in
theorem fX3_thrown  (hM : MS g w0 y nM kd th s w) (hQ : Q (.inl (some (.int th))) w) : WP (MX3_thrown g) Q (0, [some (.ref y)], [], w, 0, 0) := by
  obtain ⟨cL, pL, hy, ry⟩ := hM.1.op
  repeat' first
    | with_reducible assumption
    | with_reducible refine And.intro ?_ ?_
    | with_reducible exact vpi6 (by assumption) (by assumption)
    | with_reducible exact vpi8 (by assumption) (by assumption)
    | with_reducible exact trivial
    | with_reducible exact absurd (by assumption) n10'
    | with_reducible exact n00x (by assumption)
    | ((with_reducible refine isQ (Q := Q) ?_); exact hQ)
    | simp only [eX3_thrown_0, eX3_thrown_0N, eX3_thrown_1, eX3_thrown_4, lgp, lgn, lgz, i10, i00, if_true, if_false, eq_self, not_true, not_false_eq_true, m10, n4e, upw2q, rv0, rv1, rv2, rv3, lmi, lmx, hy, ry, ite_le, n45, n54, true_or, or_true, false_or, or_false, false_and, and_false, kx_l, kx_r, go_s, gl_s, gi_s, gb_s2, gb_s3, gq_s, wt_nil, wt_int, wt_long, wt_ref, wt_null, nl_int, nl_long, nl_ref, nl_null, nl_none, rf_n, rf_s, rf_st, tl_s, tl_n, g0, gS, ex1, nb_b, nb_0, nb_1, nf_i, nf_l, nf_ra, nf_ro, nf_na, nf_no, nf_b0, nf_z0, t45_4, t45_5, true_and, and_true, List.set_cons_zero, List.set_cons_succ, List.length_cons, List.length_nil, rd_s, upw_s, ne_eq, not_false_eq_true, Nat.zero_add, Nat.add_zero]
    | with_reducible refine itx (fun _ => ?_) (fun _ => ?_)
    | split
    | with_reducible intro _
    | omega
set_option maxHeartbeats 4000000 in
theorem fX3_high {a : Int64} (hQ : Q (.inl (some (.int (hiV a)))) w) : WP (MX3_high g) Q (0, [some (.long a), none], [], w, 0, 0) := by
  repeat' first
    | with_reducible assumption
    | with_reducible refine And.intro ?_ ?_
    | with_reducible exact vpi6 (by assumption) (by assumption)
    | with_reducible exact vpi8 (by assumption) (by assumption)
    | with_reducible exact trivial
    | with_reducible exact absurd (by assumption) n10'
    | with_reducible exact n00x (by assumption)
    | with_reducible exact n4g
    | with_reducible exact hQ
    | simp only [eX3_high_0, eX3_high_1, eX3_high_2, eX3_high_5, eX3_high_6, eX3_high_9, eX3_high_10, eX3_high_13, eX3_high_14, eX3_high_15, eX3_high_18, eX3_high_19, eX3_high_20, lgp, lgn, lgz, i10, i00, if_true, if_false, eq_self, not_true, not_false_eq_true, m10, n4e, upw2q, rv0, rv1, rv2, rv3, lmi, lmx, hiE, ite_le, n45, n54, true_or, or_true, false_or, or_false, false_and, and_false, kx_l, kx_r, go_s, gl_s, gi_s, gb_s2, gb_s3, gq_s, wt_nil, wt_int, wt_long, wt_ref, wt_null, nl_int, nl_long, nl_ref, nl_null, nl_none, rf_n, rf_s, rf_st, tl_s, tl_n, g0, gS, ex1, nb_b, nb_0, nb_1, nf_i, nf_l, nf_ra, nf_ro, nf_na, nf_no, nf_b0, nf_z0, t45_4, t45_5, true_and, and_true, List.set_cons_zero, List.set_cons_succ, List.length_cons, List.length_nil, rd_s, upw_s, ne_eq, not_false_eq_true, Nat.zero_add, Nat.add_zero]
    | with_reducible refine itx (fun _ => ?_) (fun _ => ?_)
    | split
    | with_reducible intro _
    | omega
set_option maxHeartbeats 4000000 in
theorem fX3_low {a : Int64} (hQ : Q (.inl (some (.int (loV a)))) w) : WP (MX3_low g) Q (0, [some (.long a), none, none, none], [], w, 0, 0) := by
  repeat' first
    | with_reducible assumption
    | with_reducible refine And.intro ?_ ?_
    | with_reducible exact vpi6 (by assumption) (by assumption)
    | with_reducible exact vpi8 (by assumption) (by assumption)
    | with_reducible exact trivial
    | with_reducible exact absurd (by assumption) n10'
    | with_reducible exact n00x (by assumption)
    | with_reducible exact n4g
    | with_reducible exact hQ
    | with_reducible refine ite_cs ?_ ?_
    | simp only [eX3_low_0, eX3_low_1, eX3_low_4, eX3_low_5, eX3_low_8, eX3_low_9, eX3_low_12, eX3_low_13, eX3_low_14, eX3_low_15, eX3_low_18, eX3_low_19, eX3_low_22, eX3_low_23, eX3_low_26, eX3_low_27, eX3_low_30, eX3_low_31, eX3_low_32, lgp, lgn, lgz, i10, i00, if_true, if_false, eq_self, not_true, not_false_eq_true, m10, n4e, upw2q, rv0, rv1, rv2, rv3, lmi, lmx, loE2, loE, ite_le, n45, n54, true_or, or_true, false_or, or_false, false_and, and_false, kx_l, kx_r, go_s, gl_s, gi_s, gb_s2, gb_s3, gq_s, wt_nil, wt_int, wt_long, wt_ref, wt_null, nl_int, nl_long, nl_ref, nl_null, nl_none, rf_n, rf_s, rf_st, tl_s, tl_n, g0, gS, ex1, nb_b, nb_0, nb_1, nf_i, nf_l, nf_ra, nf_ro, nf_na, nf_no, nf_b0, nf_z0, t45_4, t45_5, true_and, and_true, List.set_cons_zero, List.set_cons_succ, List.length_cons, List.length_nil, rd_s, upw_s, ne_eq, not_false_eq_true, Nat.zero_add, Nat.add_zero]
    | with_reducible refine itx (fun _ => ?_) (fun _ => ?_)
    | split
    | with_reducible intro _
    | omega
set_option maxHeartbeats 4000000 in
theorem fX3_one {a : Int32} (h0 : a = 0 ∨ a = 1) (hQ : Q (.inl (some (.int a))) w) : WP (MX3_one g) Q (0, [some (.int a)], [], w, 0, 0) := by
  rcases h0 with rfl | rfl
  · skip
    repeat' first
      | with_reducible assumption
      | with_reducible refine And.intro ?_ ?_
      | with_reducible exact vpi6 (by assumption) (by assumption)
      | with_reducible exact vpi8 (by assumption) (by assumption)
      | with_reducible exact hQ
      | simp only [eX3_one_0, eX3_one_1, eX3_one_4, eX3_one_5, eX3_one_8, eX3_one_9, lgp, lgn, lgz, i10, i00, if_true, if_false, eq_self, not_true, not_false_eq_true, m10, n4e, upw2q, rv0, rv1, rv2, rv3, lmi, lmx, ite_le, n45, n54, true_or, or_true, false_or, or_false, false_and, and_false, kx_l, kx_r, go_s, gl_s, gi_s, gb_s2, gb_s3, gq_s, wt_nil, wt_int, wt_long, wt_ref, wt_null, nl_int, nl_long, nl_ref, nl_null, nl_none, rf_n, rf_s, rf_st, tl_s, tl_n, g0, gS, ex1, nb_b, nb_0, nb_1, nf_i, nf_l, nf_ra, nf_ro, nf_na, nf_no, nf_b0, nf_z0, t45_4, t45_5, true_and, and_true, List.set_cons_zero, List.set_cons_succ, List.length_cons, List.length_nil, rd_s, upw_s, ne_eq, not_false_eq_true, Nat.zero_add, Nat.add_zero]
      | with_reducible refine itx (fun _ => ?_) (fun _ => ?_)
      | split
      | with_reducible intro _
      | omega
  · skip
    repeat' first
      | with_reducible assumption
      | with_reducible refine And.intro ?_ ?_
      | with_reducible exact vpi6 (by assumption) (by assumption)
      | with_reducible exact vpi8 (by assumption) (by assumption)
      | with_reducible exact hQ
      | simp only [eX3_one_0, eX3_one_1, eX3_one_4, eX3_one_5, eX3_one_8, eX3_one_9, lgp, lgn, lgz, i10, i00, if_true, if_false, eq_self, not_true, not_false_eq_true, m10, n4e, upw2q, rv0, rv1, rv2, rv3, lmi, lmx, ite_le, n45, n54, true_or, or_true, false_or, or_false, false_and, and_false, kx_l, kx_r, go_s, gl_s, gi_s, gb_s2, gb_s3, gq_s, wt_nil, wt_int, wt_long, wt_ref, wt_null, nl_int, nl_long, nl_ref, nl_null, nl_none, rf_n, rf_s, rf_st, tl_s, tl_n, g0, gS, ex1, nb_b, nb_0, nb_1, nf_i, nf_l, nf_ra, nf_ro, nf_na, nf_no, nf_b0, nf_z0, t45_4, t45_5, true_and, and_true, List.set_cons_zero, List.set_cons_succ, List.length_cons, List.length_nil, rd_s, upw_s, ne_eq, not_false_eq_true, Nat.zero_add, Nat.add_zero]
      | with_reducible refine itx (fun _ => ?_) (fun _ => ?_)
      | split
      | with_reducible intro _
      | omega
set_option maxHeartbeats 4000000 in
theorem fX3_become {a : Int32} {b : Int64} (hM : MS g w0 y nM kd th s w) (k : okN a) (hQ : ∀ w', MS g w0 y nM kd th (sN s (vp_updL s.1 a.toNatClampNeg b)) w' → Q (.inl (some (.int (loV b)))) w') : WP (MX3_become g) Q (0, [some (.ref y), some (.int a), some (.long b), none], [], w, 0, 0) := by
  repeat' first
    | with_reducible assumption
    | with_reducible refine And.intro ?_ ?_
    | with_reducible exact vpi6 (by assumption) (by assumption)
    | with_reducible exact vpi8 (by assumption) (by assumption)
    | with_reducible exact trivial
    | with_reducible exact absurd (by assumption) n10'
    | with_reducible exact n00x (by assumption)
    | with_reducible refine go_S (by assumption) (fun _ _ hY => ?_)
    | with_reducible refine gl_Sw hM (fun hf => ?_)
    | with_reducible exact vpi8k k
    | with_reducible refine fX3_low ?_
    | with_reducible exact hQ _ (hf _)
    | simp only [eX3_become_0, eX3_become_0N, eX3_become_1, eX3_become_4, eX3_become_5, eX3_become_6, eX3_become_7, eX3_become_8, eX3_become_11, lgp, lgn, lgz, i10, i00, if_true, if_false, eq_self, not_true, not_false_eq_true, m10, n4e, upw2q, rv0, rv1, rv2, rv3, lmi, lmx, ite_le, n45, n54, true_or, or_true, false_or, or_false, false_and, and_false, kx_l, kx_r, go_s, gl_s, gi_s, gb_s2, gb_s3, gq_s, wt_nil, wt_int, wt_long, wt_ref, wt_null, nl_int, nl_long, nl_ref, nl_null, nl_none, rf_n, rf_s, rf_st, tl_s, tl_n, g0, gS, ex1, nb_b, nb_0, nb_1, nf_i, nf_l, nf_ra, nf_ro, nf_na, nf_no, nf_b0, nf_z0, t45_4, t45_5, true_and, and_true, List.set_cons_zero, List.set_cons_succ, List.length_cons, List.length_nil, rd_s, upw_s, ne_eq, not_false_eq_true, Nat.zero_add, Nat.add_zero]
    | with_reducible refine itx (fun _ => ?_) (fun _ => ?_)
    | split
    | with_reducible intro _
    | omega
end
end
/-! 75.mf3.lean.txt -/
section
section
variable {g : RO} {Q : Ot → Hw → Prop} {w0 w : Hw} {y nM : Nat} {kd th : Int32} {s : AS}
/-! MODEL, FUNCTIONAL, 4: numbers -/
theorem frE {a : Int32} (h : okW a 3) : vp_updL (vp_updL (vp_updL (vp_updL (fun _ => 0) (0 : Int32).toNatClampNeg (-9223372036854775808)) (1 : Int32).toNatClampNeg 9223372036854775807) (2 : Int32).toNatClampNeg (-2147483648)) (3 : Int32).toNatClampNeg 2147483647 a.toNatClampNeg = frV a := rvE (r := (-9223372036854775808, 9223372036854775807, -2147483648, 2147483647)) h.1 h.2
set_option maxHeartbeats 4000000 in
theorem fX3_set {a0 a1 a2 : Int32} (hM : MS g w0 y nM kd th s w) (hX : ¬ (okN a0) → ∀ w', MS g w0 y nM kd 1 s w' → Q (.inl (some (.int 0))) w') (hQ : okN a0 → ∀ w', MS g w0 y nM kd 0 (sN s (vp_updL s.1 a0.toNatClampNeg (stV a1 a2))) w' → Q (.inl (some (.int (hiV (s.1 a0.toNatClampNeg))))) w') : WP (MX3_set g) Q (0, [some (.ref y), some (.int a0), some (.int a1), some (.int a2), none], [], w, 0, 0) := by
  repeat' first
    | with_reducible assumption
    | with_reducible refine And.intro ?_ ?_
    | with_reducible exact vpi6 (by assumption) (by assumption)
    | with_reducible exact vpi8 (by assumption) (by assumption)
    | with_reducible exact trivial
    | with_reducible exact absurd (by assumption) n10'
    | with_reducible exact n00x (by assumption)
    | with_reducible exact hX (fun h => absurd h (by assumption)) _ (by assumption)
    | with_reducible refine fX3_isNoNumber (fun _ => ?_) (fun _ => ?_)
    | with_reducible refine fX3_start (by assumption) (by decide) (fun _ w1 h1 => ?_) (fun _ w1 h1 => ?_)
    | with_reducible refine go_S (by assumption) (fun _ _ hY => ?_)
    | with_reducible refine gl_S (by assumption) ?_
    | with_reducible exact vpi8k (by assumption)
    | with_reducible exact vpi6k (by assumption)
    | with_reducible exact vpi4k (by assumption)
    | with_reducible refine fX3_high ?_
    | with_reducible refine gl_Sw (by assumption) (fun hf => ?_)
    | (rw [stN (by assumption)]; exact hQ (by assumption) _ (hf _))
    | (rw [stP (by assumption)]; exact hQ (by assumption) _ (hf _))
    | simp only [eX3_set_0, eX3_set_0N, eX3_set_1, eX3_set_2, eX3_set_5, eX3_set_6, eX3_set_9, eX3_set_12, eX3_set_13, eX3_set_14, eX3_set_14N, eX3_set_15, eX3_set_18, eX3_set_19, eX3_set_20, eX3_set_23, eX3_set_25, eX3_set_25N, eX3_set_26, eX3_set_29, eX3_set_30, eX3_set_31, eX3_set_32, eX3_set_35, eX3_set_36, eX3_set_37, eX3_set_40, eX3_set_41, eX3_set_42, eX3_set_45, eX3_set_46, eX3_set_49, eX3_set_50, eX3_set_51, eX3_set_52, eX3_set_53, eX3_set_55, lgp, lgn, lgz, i10, i00, if_true, if_false, eq_self, not_true, not_false_eq_true, m10, n4e, upw2q, rv0, rv1, rv2, rv3, lmi, lmx, ite_le, n45, n54, true_or, or_true, false_or, or_false, false_and, and_false, kx_l, kx_r, go_s, gl_s, gi_s, gb_s2, gb_s3, gq_s, wt_nil, wt_int, wt_long, wt_ref, wt_null, nl_int, nl_long, nl_ref, nl_null, nl_none, rf_n, rf_s, rf_st, tl_s, tl_n, g0, gS, ex1, nb_b, nb_0, nb_1, nf_i, nf_l, nf_ra, nf_ro, nf_na, nf_no, nf_b0, nf_z0, t45_4, t45_5, true_and, and_true, List.set_cons_zero, List.set_cons_succ, List.length_cons, List.length_nil, rd_s, upw_s, ne_eq, not_false_eq_true, Nat.zero_add, Nat.add_zero]
    | with_reducible refine itx (fun _ => ?_) (fun _ => ?_)
    | split
    | with_reducible intro _
    | omega
set_option maxHeartbeats 4000000 in
theorem fX3_setSmall {a0 a1 : Int32} (hM : MS g w0 y nM kd th s w) (hX : ¬ (okN a0) → ∀ w', MS g w0 y nM kd 1 s w' → Q (.inl (some (.int 0))) w') (hQ : okN a0 → ∀ w', MS g w0 y nM kd 0 (sN s (vp_updL s.1 a0.toNatClampNeg a1.toInt64)) w' → Q (.inl (some (.int (loV (s.1 a0.toNatClampNeg))))) w') : WP (MX3_setSmall g) Q (0, [some (.ref y), some (.int a0), some (.int a1), none], [], w, 0, 0) := by
  repeat' first
    | with_reducible assumption
    | with_reducible refine And.intro ?_ ?_
    | with_reducible exact vpi6 (by assumption) (by assumption)
    | with_reducible exact vpi8 (by assumption) (by assumption)
    | with_reducible exact trivial
    | with_reducible exact absurd (by assumption) n10'
    | with_reducible exact n00x (by assumption)
    | with_reducible exact hX (fun h => absurd h (by assumption)) _ (by assumption)
    | with_reducible refine fX3_isNoNumber (fun _ => ?_) (fun _ => ?_)
    | with_reducible refine fX3_start (by assumption) (by decide) (fun _ w1 h1 => ?_) (fun _ w1 h1 => ?_)
    | with_reducible refine go_S (by assumption) (fun _ _ hY => ?_)
    | with_reducible refine gl_S (by assumption) ?_
    | with_reducible exact vpi8k (by assumption)
    | with_reducible exact vpi6k (by assumption)
    | with_reducible exact vpi4k (by assumption)
    | with_reducible refine fX3_low ?_
    | with_reducible refine gl_Sw (by assumption) (fun hf => ?_)
    | with_reducible exact hQ (by assumption) _ (hf _)
    | simp only [eX3_setSmall_0, eX3_setSmall_0N, eX3_setSmall_1, eX3_setSmall_2, eX3_setSmall_5, eX3_setSmall_6, eX3_setSmall_9, eX3_setSmall_12, eX3_setSmall_13, eX3_setSmall_14, eX3_setSmall_14N, eX3_setSmall_15, eX3_setSmall_18, eX3_setSmall_19, eX3_setSmall_20, eX3_setSmall_23, eX3_setSmall_24, eX3_setSmall_24N, eX3_setSmall_25, eX3_setSmall_28, eX3_setSmall_29, eX3_setSmall_30, eX3_setSmall_31, eX3_setSmall_32, eX3_setSmall_33, lgp, lgn, lgz, i10, i00, if_true, if_false, eq_self, not_true, not_false_eq_true, m10, n4e, upw2q, rv0, rv1, rv2, rv3, lmi, lmx, ite_le, n45, n54, true_or, or_true, false_or, or_false, false_and, and_false, kx_l, kx_r, go_s, gl_s, gi_s, gb_s2, gb_s3, gq_s, wt_nil, wt_int, wt_long, wt_ref, wt_null, nl_int, nl_long, nl_ref, nl_null, nl_none, rf_n, rf_s, rf_st, tl_s, tl_n, g0, gS, ex1, nb_b, nb_0, nb_1, nf_i, nf_l, nf_ra, nf_ro, nf_na, nf_no, nf_b0, nf_z0, t45_4, t45_5, true_and, and_true, List.set_cons_zero, List.set_cons_succ, List.length_cons, List.length_nil, rd_s, upw_s, ne_eq, not_false_eq_true, Nat.zero_add, Nat.add_zero]
    | with_reducible refine itx (fun _ => ?_) (fun _ => ?_)
    | split
    | with_reducible intro _
    | omega
set_option maxHeartbeats 4000000 in
theorem fX3_setEnd {a0 a1 : Int32} (hM : MS g w0 y nM kd th s w) (hX : ¬ (okN a0) → ∀ w', MS g w0 y nM kd 1 s w' → Q (.inl (some (.int 0))) w') (hW : okN a0 → ¬ okW a1 3 → ∀ w', MS g w0 y nM kd 2 s w' → Q (.inl (some (.int 0))) w') (hQ : okN a0 → okW a1 3 → ∀ w', MS g w0 y nM kd 0 (sN s (vp_updL s.1 a0.toNatClampNeg (frV a1))) w' → Q (.inl (some (.int (loV (frV a1))))) w') : WP (MX3_setEnd g) Q (0, [some (.ref y), some (.int a0), some (.int a1), none], [], w, 0, 0) := by
  repeat' first
    | with_reducible assumption
    | with_reducible refine And.intro ?_ ?_
    | with_reducible exact vpi6 (by assumption) (by assumption)
    | with_reducible exact vpi8 (by assumption) (by assumption)
    | with_reducible exact trivial
    | with_reducible exact absurd (by assumption) n10'
    | with_reducible exact n00x (by assumption)
    | with_reducible exact hX (fun h => absurd h (by assumption)) _ (by assumption)
    | with_reducible exact hW (by assumption) (nokW (by assumption)) _ (by assumption)
    | with_reducible refine fX3_isNoNumber (fun _ => ?_) (fun _ => ?_)
    | with_reducible refine fX3_start (by assumption) (by decide) (fun _ w1 h1 => ?_) (fun _ w1 h1 => ?_)
    | with_reducible refine go_S (by assumption) (fun _ _ hY => ?_)
    | with_reducible refine gl_S (by assumption) ?_
    | with_reducible exact vpi8k (by assumption)
    | with_reducible exact vpi6k (by assumption)
    | with_reducible exact vpi4k (by assumption)
    | with_reducible refine fX3_refuse (by assumption) (by decide) (fun _ => ?_) (fun _ w2 h2 => ?_)
    | with_reducible refine fX3_isIn (fun _ _ => ?_) (fun _ => ?_)
    | with_reducible exact n4a
    | with_reducible exact n4b
    | with_reducible exact n4c
    | with_reducible exact vpi4n (by assumption) (by assumption)
    | with_reducible exact vpi4.1
    | with_reducible exact vpi4.2.1
    | with_reducible exact vpi4.2.2.1
    | with_reducible exact vpi4.2.2.2
    | (rw [frE ⟨by assumption, by assumption⟩]; refine fX3_become (MS.fr (by assumption) (by assumption)) (by assumption) (fun w3 h3 => ?_))
    | with_reducible exact hQ (by assumption) ⟨by assumption, by assumption⟩ _ (by assumption)
    | with_reducible refine go_S (MS.fr (by assumption) (by assumption)) (fun _ _ hY => ?_)
    | simp only [eX3_setEnd_0, eX3_setEnd_0N, eX3_setEnd_1, eX3_setEnd_2, eX3_setEnd_5, eX3_setEnd_6, eX3_setEnd_9, eX3_setEnd_12, eX3_setEnd_12N, eX3_setEnd_13, eX3_setEnd_14, eX3_setEnd_15, eX3_setEnd_16, eX3_setEnd_19, eX3_setEnd_22, eX3_setEnd_23, eX3_setEnd_26, eX3_setEnd_27, eX3_setEnd_28, eX3_setEnd_31, eX3_setEnd_34, eX3_setEnd_35, eX3_setEnd_36, eX3_setEnd_37, eX3_setEnd_39, eX3_setEnd_39R, eX3_setEnd_40, eX3_setEnd_41, eX3_setEnd_44, eX3_setEnd_45, eX3_setEnd_45R, eX3_setEnd_46, eX3_setEnd_47, eX3_setEnd_50, eX3_setEnd_51, eX3_setEnd_51R, eX3_setEnd_52, eX3_setEnd_53, eX3_setEnd_56, eX3_setEnd_57, eX3_setEnd_57R, eX3_setEnd_58, eX3_setEnd_59, eX3_setEnd_62, eX3_setEnd_63, eX3_setEnd_63N, eX3_setEnd_64, eX3_setEnd_64N, eX3_setEnd_65, eX3_setEnd_66, eX3_setEnd_66N, eX3_setEnd_67, eX3_setEnd_68, eX3_setEnd_69, eX3_setEnd_72, lgp, lgn, lgz, i10, i00, if_true, if_false, eq_self, not_true, not_false_eq_true, m10, n4e, upw2q, rv0, rv1, rv2, rv3, lmi, lmx, ite_le, n45, n54, true_or, or_true, false_or, or_false, false_and, and_false, kx_l, kx_r, go_s, gl_s, gi_s, gb_s2, gb_s3, gq_s, wt_nil, wt_int, wt_long, wt_ref, wt_null, nl_int, nl_long, nl_ref, nl_null, nl_none, rf_n, rf_s, rf_st, tl_s, tl_n, g0, gS, ex1, nb_b, nb_0, nb_1, nf_i, nf_l, nf_ra, nf_ro, nf_na, nf_no, nf_b0, nf_z0, t45_4, t45_5, true_and, and_true, List.set_cons_zero, List.set_cons_succ, List.length_cons, List.length_nil, rd_s, upw_s, ne_eq, not_false_eq_true, Nat.zero_add, Nat.add_zero]
    | with_reducible refine itx (fun _ => ?_) (fun _ => ?_)
    | split
    | with_reducible intro _
    | omega
set_option maxHeartbeats 4000000 in
theorem fX3_move {a0 a1 : Int32} (hM : MS g w0 y nM kd th s w) (hX : ¬ (okN a0) → ∀ w', MS g w0 y nM kd 1 s w' → Q (.inl (some (.int 0))) w') (hQ : okN a0 → ∀ w', MS g w0 y nM kd 0 (sN s (vp_updL s.1 a0.toNatClampNeg (s.1 a0.toNatClampNeg + a1.toInt64))) w' → Q (.inl (some (.int (loV (s.1 a0.toNatClampNeg + a1.toInt64))))) w') : WP (MX3_move g) Q (0, [some (.ref y), some (.int a0), some (.int a1)], [], w, 0, 0) := by
  repeat' first
    | with_reducible assumption
    | with_reducible refine And.intro ?_ ?_
    | with_reducible exact vpi6 (by assumption) (by assumption)
    | with_reducible exact vpi8 (by assumption) (by assumption)
    | with_reducible exact trivial
    | with_reducible exact absurd (by assumption) n10'
    | with_reducible exact n00x (by assumption)
    | with_reducible exact hX (fun h => absurd h (by assumption)) _ (by assumption)
    | with_reducible refine fX3_isNoNumber (fun _ => ?_) (fun _ => ?_)
    | with_reducible refine fX3_start (by assumption) (by decide) (fun _ w1 h1 => ?_) (fun _ w1 h1 => ?_)
    | with_reducible refine go_S (by assumption) (fun _ _ hY => ?_)
    | with_reducible refine gl_S (by assumption) ?_
    | with_reducible exact vpi8k (by assumption)
    | with_reducible exact vpi6k (by assumption)
    | with_reducible exact vpi4k (by assumption)
    | with_reducible refine fX3_become (by assumption) (by assumption) (fun w3 h3 => ?_)
    | with_reducible exact hQ (by assumption) _ (by assumption)
    | simp only [eX3_move_0, eX3_move_0N, eX3_move_1, eX3_move_2, eX3_move_5, eX3_move_6, eX3_move_9, eX3_move_12, eX3_move_13, eX3_move_16, eX3_move_16N, eX3_move_17, eX3_move_18, eX3_move_18N, eX3_move_19, eX3_move_22, eX3_move_23, eX3_move_24, eX3_move_25, eX3_move_26, eX3_move_27, eX3_move_30, lgp, lgn, lgz, i10, i00, if_true, if_false, eq_self, not_true, not_false_eq_true, m10, n4e, upw2q, rv0, rv1, rv2, rv3, lmi, lmx, ite_le, n45, n54, true_or, or_true, false_or, or_false, false_and, and_false, kx_l, kx_r, go_s, gl_s, gi_s, gb_s2, gb_s3, gq_s, wt_nil, wt_int, wt_long, wt_ref, wt_null, nl_int, nl_long, nl_ref, nl_null, nl_none, rf_n, rf_s, rf_st, tl_s, tl_n, g0, gS, ex1, nb_b, nb_0, nb_1, nf_i, nf_l, nf_ra, nf_ro, nf_na, nf_no, nf_b0, nf_z0, t45_4, t45_5, true_and, and_true, List.set_cons_zero, List.set_cons_succ, List.length_cons, List.length_nil, rd_s, upw_s, ne_eq, not_false_eq_true, Nat.zero_add, Nat.add_zero]
    | with_reducible refine itx (fun _ => ?_) (fun _ => ?_)
    | split
    | with_reducible intro _
    | omega
set_option maxHeartbeats 4000000 in
theorem fX3_copy {a0 a1 : Int32} (hM : MS g w0 y nM kd th s w) (hX : ¬ (okN a0 ∧ okN a1) → ∀ w', MS g w0 y nM kd 1 s w' → Q (.inl (some (.int 0))) w') (hQ : okN a0 → okN a1 → ∀ w', MS g w0 y nM kd 0 (sN s (vp_updL s.1 a0.toNatClampNeg (s.1 a1.toNatClampNeg))) w' → Q (.inl (some (.int (loV (s.1 a1.toNatClampNeg))))) w') : WP (MX3_copy g) Q (0, [some (.ref y), some (.int a0), some (.int a1)], [], w, 0, 0) := by
  repeat' first
    | with_reducible assumption
    | with_reducible refine And.intro ?_ ?_
    | with_reducible exact vpi6 (by assumption) (by assumption)
    | with_reducible exact vpi8 (by assumption) (by assumption)
    | with_reducible exact trivial
    | with_reducible exact absurd (by assumption) n10'
    | with_reducible exact n00x (by assumption)
    | with_reducible exact hX (fun h => absurd h.1 (by assumption)) _ (by assumption)
    | with_reducible exact hX (fun h => absurd h.2 (by assumption)) _ (by assumption)
    | with_reducible refine fX3_isNoNumber (fun _ => ?_) (fun _ => ?_)
    | with_reducible refine fX3_start (by assumption) (by decide) (fun _ w1 h1 => ?_) (fun _ w1 h1 => ?_)
    | with_reducible refine go_S (by assumption) (fun _ _ hY => ?_)
    | with_reducible refine gl_S (by assumption) ?_
    | with_reducible exact vpi8k (by assumption)
    | with_reducible exact vpi6k (by assumption)
    | with_reducible exact vpi4k (by assumption)
    | with_reducible refine fX3_become (by assumption) (by assumption) (fun w3 h3 => ?_)
    | with_reducible exact hQ (by assumption) (by assumption) _ (by assumption)
    | simp only [eX3_copy_0, eX3_copy_0N, eX3_copy_1, eX3_copy_2, eX3_copy_5, eX3_copy_8, eX3_copy_9, eX3_copy_12, eX3_copy_15, eX3_copy_16, eX3_copy_19, eX3_copy_20, eX3_copy_21, eX3_copy_24, eX3_copy_27, eX3_copy_28, eX3_copy_31, eX3_copy_31N, eX3_copy_32, eX3_copy_33, eX3_copy_33N, eX3_copy_34, eX3_copy_37, eX3_copy_38, eX3_copy_39, eX3_copy_42, lgp, lgn, lgz, i10, i00, if_true, if_false, eq_self, not_true, not_false_eq_true, m10, n4e, upw2q, rv0, rv1, rv2, rv3, lmi, lmx, ite_le, n45, n54, true_or, or_true, false_or, or_false, false_and, and_false, kx_l, kx_r, go_s, gl_s, gi_s, gb_s2, gb_s3, gq_s, wt_nil, wt_int, wt_long, wt_ref, wt_null, nl_int, nl_long, nl_ref, nl_null, nl_none, rf_n, rf_s, rf_st, tl_s, tl_n, g0, gS, ex1, nb_b, nb_0, nb_1, nf_i, nf_l, nf_ra, nf_ro, nf_na, nf_no, nf_b0, nf_z0, t45_4, t45_5, true_and, and_true, List.set_cons_zero, List.set_cons_succ, List.length_cons, List.length_nil, rd_s, upw_s, ne_eq, not_false_eq_true, Nat.zero_add, Nat.add_zero]
    | with_reducible refine itx (fun _ => ?_) (fun _ => ?_)
    | split
    | with_reducible intro _
    | omega
set_option maxHeartbeats 4000000 in
theorem fX3_ofNumber {a0 a1 : Int32} (hM : MS g w0 y nM kd th s w) (hX : ¬ (okN a0) → ∀ w', MS g w0 y nM kd 1 s w' → Q (.inl (some (.int 0))) w') (hQ : okN a0 → ∀ w', MS g w0 y nM kd 0 s w' → Q (.inl (some (.int (hfV (s.1 a0.toNatClampNeg) a1)))) w') : WP (MX3_ofNumber g) Q (0, [some (.ref y), some (.int a0), some (.int a1)], [], w, 0, 0) := by
  repeat' first
    | with_reducible assumption
    | with_reducible refine And.intro ?_ ?_
    | with_reducible exact vpi6 (by assumption) (by assumption)
    | with_reducible exact vpi8 (by assumption) (by assumption)
    | with_reducible exact trivial
    | with_reducible exact absurd (by assumption) n10'
    | with_reducible exact n00x (by assumption)
    | with_reducible exact hX (fun h => absurd h (by assumption)) _ (by assumption)
    | with_reducible refine fX3_isNoNumber (fun _ => ?_) (fun _ => ?_)
    | with_reducible refine fX3_start (by assumption) (by decide) (fun _ w1 h1 => ?_) (fun _ w1 h1 => ?_)
    | with_reducible refine go_S (by assumption) (fun _ _ hY => ?_)
    | with_reducible refine gl_S (by assumption) ?_
    | with_reducible exact vpi8k (by assumption)
    | with_reducible exact vpi6k (by assumption)
    | with_reducible exact vpi4k (by assumption)
    | with_reducible refine fX3_high ?_
    | with_reducible refine fX3_low ?_
    | (rw [← hfV_n (a := s.1 a0.toNatClampNeg) (h := a1) (by assumption)]; exact hQ (by assumption) _ (by assumption))
    | (rw [← hfV_e (a := s.1 a0.toNatClampNeg) (h := a1) (by assumption)]; exact hQ (by assumption) _ (by assumption))
    | simp only [eX3_ofNumber_0, eX3_ofNumber_0N, eX3_ofNumber_1, eX3_ofNumber_2, eX3_ofNumber_5, eX3_ofNumber_6, eX3_ofNumber_9, eX3_ofNumber_12, eX3_ofNumber_13, eX3_ofNumber_14, eX3_ofNumber_15, eX3_ofNumber_18, eX3_ofNumber_18N, eX3_ofNumber_19, eX3_ofNumber_22, eX3_ofNumber_23, eX3_ofNumber_24, eX3_ofNumber_27, eX3_ofNumber_30, eX3_ofNumber_30N, eX3_ofNumber_31, eX3_ofNumber_34, eX3_ofNumber_35, eX3_ofNumber_36, eX3_ofNumber_39, lgp, lgn, lgz, i10, i00, if_true, if_false, eq_self, not_true, not_false_eq_true, m10, n4e, upw2q, rv0, rv1, rv2, rv3, lmi, lmx, ite_le, n45, n54, true_or, or_true, false_or, or_false, false_and, and_false, kx_l, kx_r, go_s, gl_s, gi_s, gb_s2, gb_s3, gq_s, wt_nil, wt_int, wt_long, wt_ref, wt_null, nl_int, nl_long, nl_ref, nl_null, nl_none, rf_n, rf_s, rf_st, tl_s, tl_n, g0, gS, ex1, nb_b, nb_0, nb_1, nf_i, nf_l, nf_ra, nf_ro, nf_na, nf_no, nf_b0, nf_z0, t45_4, t45_5, true_and, and_true, List.set_cons_zero, List.set_cons_succ, List.length_cons, List.length_nil, rd_s, upw_s, ne_eq, not_false_eq_true, Nat.zero_add, Nat.add_zero]
    | with_reducible refine itx (fun _ => ?_) (fun _ => ?_)
    | split
    | with_reducible intro _
    | omega
set_option maxHeartbeats 4000000 in
theorem fX3_order {a0 a1 : Int32} (hM : MS g w0 y nM kd th s w) (hX : ¬ (okN a0 ∧ okN a1) → ∀ w', MS g w0 y nM kd 1 s w' → Q (.inl (some (.int 0))) w') (hQ : okN a0 → okN a1 → ∀ w', MS g w0 y nM kd 0 s w' → Q (.inl (some (.int (orV (s.1 a0.toNatClampNeg) (s.1 a1.toNatClampNeg))))) w') : WP (MX3_order g) Q (0, [some (.ref y), some (.int a0), some (.int a1)], [], w, 0, 0) := by
  repeat' first
    | with_reducible assumption
    | with_reducible refine And.intro ?_ ?_
    | with_reducible exact vpi6 (by assumption) (by assumption)
    | with_reducible exact vpi8 (by assumption) (by assumption)
    | with_reducible exact trivial
    | with_reducible exact absurd (by assumption) n10'
    | with_reducible exact n00x (by assumption)
    | with_reducible exact hX (fun h => absurd h.1 (by assumption)) _ (by assumption)
    | with_reducible exact hX (fun h => absurd h.2 (by assumption)) _ (by assumption)
    | with_reducible refine fX3_isNoNumber (fun _ => ?_) (fun _ => ?_)
    | with_reducible refine fX3_start (by assumption) (by decide) (fun _ w1 h1 => ?_) (fun _ w1 h1 => ?_)
    | with_reducible refine go_S (by assumption) (fun _ _ hY => ?_)
    | with_reducible refine gl_S (by assumption) ?_
    | with_reducible exact vpi8k (by assumption)
    | with_reducible exact vpi6k (by assumption)
    | with_reducible exact vpi4k (by assumption)
    | with_reducible refine fX3_one (Or.inl rfl) ?_
    | with_reducible refine fX3_one (Or.inr rfl) ?_
    | (rw [← orV_1 (a := s.1 a0.toNatClampNeg) (b := s.1 a1.toNatClampNeg) (by assumption)]; exact hQ (by assumption) (by assumption) _ (by assumption))
    | (rw [← orV_2 (a := s.1 a0.toNatClampNeg) (b := s.1 a1.toNatClampNeg) (by assumption) (by assumption)]; exact hQ (by assumption) (by assumption) _ (by assumption))
    | (rw [← orV_3 (a := s.1 a0.toNatClampNeg) (b := s.1 a1.toNatClampNeg) (by assumption) (by assumption)]; exact hQ (by assumption) (by assumption) _ (by assumption))
    | simp only [eX3_order_0, eX3_order_0N, eX3_order_1, eX3_order_2, eX3_order_5, eX3_order_8, eX3_order_9, eX3_order_12, eX3_order_15, eX3_order_16, eX3_order_19, eX3_order_20, eX3_order_21, eX3_order_24, eX3_order_27, eX3_order_28, eX3_order_29, eX3_order_29N, eX3_order_30, eX3_order_33, eX3_order_34, eX3_order_35, eX3_order_35N, eX3_order_36, eX3_order_39, eX3_order_40, eX3_order_41, eX3_order_42, eX3_order_45, eX3_order_46, eX3_order_49, eX3_order_49N, eX3_order_50, eX3_order_53, eX3_order_54, eX3_order_55, eX3_order_55N, eX3_order_56, eX3_order_59, eX3_order_60, eX3_order_61, eX3_order_62, eX3_order_65, eX3_order_66, eX3_order_69, eX3_order_70, eX3_order_73, lgp, lgn, lgz, i10, i00, if_true, if_false, eq_self, not_true, not_false_eq_true, m10, n4e, upw2q, rv0, rv1, rv2, rv3, lmi, lmx, ite_le, n45, n54, true_or, or_true, false_or, or_false, false_and, and_false, kx_l, kx_r, go_s, gl_s, gi_s, gb_s2, gb_s3, gq_s, wt_nil, wt_int, wt_long, wt_ref, wt_null, nl_int, nl_long, nl_ref, nl_null, nl_none, rf_n, rf_s, rf_st, tl_s, tl_n, g0, gS, ex1, nb_b, nb_0, nb_1, nf_i, nf_l, nf_ra, nf_ro, nf_na, nf_no, nf_b0, nf_z0, t45_4, t45_5, true_and, and_true, List.set_cons_zero, List.set_cons_succ, List.length_cons, List.length_nil, rd_s, upw_s, ne_eq, not_false_eq_true, Nat.zero_add, Nat.add_zero]
    | with_reducible refine itx (fun _ => ?_) (fun _ => ?_)
    | split
    | with_reducible intro _
    | omega
end
end
/-! 75.mf4.lean.txt -/
section
section
variable {g : RO} {Q : Ot → Hw → Prop} {w0 w : Hw} {y nM : Nat} {kd th : Int32} {s : AS}
/-! MODEL, FUNCTIONAL, 5: a row asked; a card given -/
theorem rowA_nw {q : Nat} {a b c d : Int64} : rowA (upw w q (.inl (0, 4, .inr (.inl (vp_updL (vp_updL (vp_updL (vp_updL (fun _ => 0) (0 : Int32).toNatClampNeg a) (1 : Int32).toNatClampNeg b) (2 : Int32).toNatClampNeg c) (3 : Int32).toNatClampNeg d))))) q (a, b, c, d) := upw_s _ _ _
/-- two rows compared: each place so far -/
def eqF (r t : R4) : Nat → Int32
  | 0 => 1
  | j + 1 => eqF r t j &&& (if (rV r j).toInt = (rV t j).toInt then 1 else 0)
theorem eqF_t {r t : R4} {j : Nat} (h : (rV r j).toInt = (rV t j).toInt) : eqF r t j &&& 1 = eqF r t (j + 1) := by
  show _ = eqF r t j &&& (if (rV r j).toInt = (rV t j).toInt then 1 else 0)
  rw [if_pos h]
theorem eqF_f {r t : R4} {j : Nat} (h : ¬ (rV r j).toInt = (rV t j).toInt) : eqF r t j &&& 0 = eqF r t (j + 1) := by
  show _ = eqF r t j &&& (if (rV r j).toInt = (rV t j).toInt then 1 else 0)
  rw [if_neg h]
theorem eqF_4 {r t : R4} : eqF r t 4 = (((1 &&& (if r.1.toInt = t.1.toInt then 1 else 0)) &&& (if r.2.1.toInt = t.2.1.toInt then 1 else 0)) &&& (if r.2.2.1.toInt = t.2.2.1.toInt then 1 else 0)) &&& (if r.2.2.2.toInt = t.2.2.2.toInt then 1 else 0) := rfl
theorem eqF_T {r t : R4} (h : mP r t) : eqF r t 4 = 1 := by
  rw [eqF_4, if_pos h.1, if_pos h.2.1, if_pos h.2.2.1, if_pos h.2.2.2]
  decide
theorem eqF_F {r t : R4} (h : ¬ mP r t) : eqF r t 4 = 0 := by
  rw [eqF_4]
  by_cases h1 : r.1.toInt = t.1.toInt
  · by_cases h2 : r.2.1.toInt = t.2.1.toInt
    · by_cases h3 : r.2.2.1.toInt = t.2.2.1.toInt
      · by_cases h4 : r.2.2.2.toInt = t.2.2.2.toInt
        · exact absurd ⟨h1, h2, h3, h4⟩ h
        · rw [if_pos h1, if_pos h2, if_pos h3, if_neg h4]
          decide
      · rw [if_pos h1, if_pos h2, if_neg h3]
        split <;> decide
    · rw [if_pos h1, if_neg h2]
      split <;> split <;> decide
  · rw [if_neg h1]
    split <;> split <;> split <;> decide
theorem eqF_b {r t : R4} {v : Int32} (h : v = 1 ∨ v = 0) : narrow .boolean (.int v) = .int v := by rcases h with rfl | rfl <;> rfl
theorem eqF_z {r t : R4} : eqF r t 4 = 1 ∨ eqF r t 4 = 0 := by
  by_cases h : mP r t
  · exact Or.inl (eqF_T h)
  · exact Or.inr (eqF_F h)
theorem nbF {r t : R4} : narrow .boolean (.int (eqF r t 4)) = .int (eqF r t 4) := eqF_b (r := r) (t := t) eqF_z
theorem vpi4j {j : Nat} (h : j < 4) : vp_in (Int32.ofNat j) 4 := by
  have h9 : j < 1000 := by omega
  refine vpi (oN0 h9) (i32_of_lt (b := 4) ?_) (by decide)
  rw [oNt h9]
  show (j : Int) < 4
  omega
set_option maxHeartbeats 4000000 in
theorem flX3_same_4 {p q : Nat} {r t : R4} (hp : rowA w p r) (hq : rowA w q t) (hQ : Q (.inl (some (.int (eqF r t 4)))) w) : ∀ (d j : Nat)  (kz mz : Nat), j + d = 4 → kz ≤ 0 → mz ≤ 0 → WP (MX3_same g) Q (4, [some (.ref p), some (.ref q), some (.int (eqF r t j)), some (.int (Int32.ofNat j))], [], w, kz, mz) := by
  intro d
  induction d with
  | zero =>
    intro j  kz mz hjd hkz hmz
    have h9 : j < 1000 := (by omega)
    have hlt : ¬ Int32.ofNat j < 4 := oNg (B := 4) h9 rfl (by omega)
    have hnn := oN0 h9
    have hcl := oNc h9
    obtain rfl : j = 4 := by omega
    rw [eX3_same_4]
    repeat' first
      | with_reducible assumption
      | with_reducible refine And.intro ?_ ?_
      | with_reducible exact vpi6 (by assumption) (by assumption)
      | with_reducible exact vpi8 (by assumption) (by assumption)
      | with_reducible exact trivial
      | with_reducible exact absurd (by assumption) n10'
      | with_reducible exact n00x (by assumption)
      | with_reducible refine gl_A hp ?_
      | with_reducible refine gl_A hq ?_
      | with_reducible exact vpi4j (by omega)
      | with_reducible exact nbF
      | with_reducible exact hQ
      | simp only [eX3_same_0, eX3_same_1, eX3_same_2, eX3_same_3, eX3_same_5, eX3_same_6, eX3_same_9, eX3_same_10, eX3_same_10N, eX3_same_11, eX3_same_12, eX3_same_13, eX3_same_13N, eX3_same_14, eX3_same_15, eX3_same_16, eX3_same_17, eX3_same_20, eX3_same_21, eX3_same_24, eX3_same_25, eX3_same_26, eX3_same_27, eX3_same_30, eX3_same_33, eX3_same_34, lgp, lgn, lgz, i10, i00, if_true, if_false, eq_self, not_true, not_false_eq_true, m10, n4e, upw2q, rv0, rv1, rv2, rv3, lmi, lmx, hlt, hcl, ite_le, n45, n54, true_or, or_true, false_or, or_false, false_and, and_false, kx_l, kx_r, go_s, gl_s, gi_s, gb_s2, gb_s3, gq_s, wt_nil, wt_int, wt_long, wt_ref, wt_null, nl_int, nl_long, nl_ref, nl_null, nl_none, rf_n, rf_s, rf_st, tl_s, tl_n, g0, gS, ex1, nb_b, nb_0, nb_1, nf_i, nf_l, nf_ra, nf_ro, nf_na, nf_no, nf_b0, nf_z0, t45_4, t45_5, true_and, and_true, List.set_cons_zero, List.set_cons_succ, List.length_cons, List.length_nil, rd_s, upw_s, ne_eq, not_false_eq_true, Nat.zero_add, Nat.add_zero]
      | with_reducible refine itx (fun _ => ?_) (fun _ => ?_)
      | split
      | with_reducible intro _
      | omega
  | succ d ih =>
    intro j  kz mz hjd hkz hmz
    have h9 : j < 1000 := (by omega)
    have hlt : Int32.ofNat j < 4 := oNl (B := 4) h9 rfl (by omega)
    have hjN : j < 4 := by omega
    have hnn := oN0 h9
    have hcl := oNc h9
    rw [eX3_same_4]
    repeat' first
      | with_reducible assumption
      | with_reducible refine And.intro ?_ ?_
      | with_reducible exact vpi6 (by assumption) (by assumption)
      | with_reducible exact vpi8 (by assumption) (by assumption)
      | with_reducible exact trivial
      | with_reducible exact absurd (by assumption) n10'
      | with_reducible exact n00x (by assumption)
      | (rw [oN1, eqF_t (by assumption)]; exact ih (j + 1)  _ _ (by omega) (by first | assumption | omega) (by first | assumption | omega))
      | (rw [oN1, eqF_f (by assumption)]; exact ih (j + 1)  _ _ (by omega) (by first | assumption | omega) (by first | assumption | omega))
      | with_reducible refine gl_A hp ?_
      | with_reducible refine gl_A hq ?_
      | with_reducible exact vpi4j (by omega)
      | with_reducible exact nbF
      | with_reducible exact hQ
      | simp only [eX3_same_0, eX3_same_1, eX3_same_2, eX3_same_3, eX3_same_5, eX3_same_6, eX3_same_9, eX3_same_10, eX3_same_10N, eX3_same_11, eX3_same_12, eX3_same_13, eX3_same_13N, eX3_same_14, eX3_same_15, eX3_same_16, eX3_same_17, eX3_same_20, eX3_same_21, eX3_same_24, eX3_same_25, eX3_same_26, eX3_same_27, eX3_same_30, eX3_same_33, eX3_same_34, lgp, lgn, lgz, i10, i00, if_true, if_false, eq_self, not_true, not_false_eq_true, m10, n4e, upw2q, rv0, rv1, rv2, rv3, lmi, lmx, hlt, hcl, ite_le, n45, n54, true_or, or_true, false_or, or_false, false_and, and_false, kx_l, kx_r, go_s, gl_s, gi_s, gb_s2, gb_s3, gq_s, wt_nil, wt_int, wt_long, wt_ref, wt_null, nl_int, nl_long, nl_ref, nl_null, nl_none, rf_n, rf_s, rf_st, tl_s, tl_n, g0, gS, ex1, nb_b, nb_0, nb_1, nf_i, nf_l, nf_ra, nf_ro, nf_na, nf_no, nf_b0, nf_z0, t45_4, t45_5, true_and, and_true, List.set_cons_zero, List.set_cons_succ, List.length_cons, List.length_nil, rd_s, upw_s, ne_eq, not_false_eq_true, Nat.zero_add, Nat.add_zero]
      | with_reducible refine itx (fun _ => ?_) (fun _ => ?_)
      | split
      | with_reducible intro _
      | omega
set_option maxHeartbeats 4000000 in
theorem fX3_same {p q : Nat} {r t : R4} (hp : rowA w p r) (hq : rowA w q t) (hT : mP r t → Q (.inl (some (.int 1))) w) (hF : ¬ mP r t → Q (.inl (some (.int 0))) w) : WP (MX3_same g) Q (0, [some (.ref p), some (.ref q), none, none], [], w, 0, 0) := by
  have hQ : Q (.inl (some (.int (eqF r t 4)))) w := by
    by_cases h : mP r t
    · rw [eqF_T h]
      exact hT h
    · rw [eqF_F h]
      exact hF h
  repeat' first
    | with_reducible assumption
    | with_reducible refine And.intro ?_ ?_
    | with_reducible exact vpi6 (by assumption) (by assumption)
    | with_reducible exact vpi8 (by assumption) (by assumption)
    | ((with_reducible refine isWP (pc := 4) ?_); exact flX3_same_4 hp hq hQ 4 0 _ _ rfl (by decide) (by decide))
    | simp only [eX3_same_0, eX3_same_1, eX3_same_2, eX3_same_3, eX3_same_5, eX3_same_6, eX3_same_9, eX3_same_10, eX3_same_10N, eX3_same_11, eX3_same_12, eX3_same_13, eX3_same_13N, eX3_same_14, eX3_same_15, eX3_same_16, eX3_same_17, eX3_same_20, eX3_same_21, eX3_same_24, eX3_same_25, eX3_same_26, eX3_same_27, eX3_same_30, eX3_same_33, eX3_same_34, lgp, lgn, lgz, i10, i00, if_true, if_false, eq_self, not_true, not_false_eq_true, m10, n4e, upw2q, rv0, rv1, rv2, rv3, lmi, lmx, ite_le, n45, n54, true_or, or_true, false_or, or_false, false_and, and_false, kx_l, kx_r, go_s, gl_s, gi_s, gb_s2, gb_s3, gq_s, wt_nil, wt_int, wt_long, wt_ref, wt_null, nl_int, nl_long, nl_ref, nl_null, nl_none, rf_n, rf_s, rf_st, tl_s, tl_n, g0, gS, ex1, nb_b, nb_0, nb_1, nf_i, nf_l, nf_ra, nf_ro, nf_na, nf_no, nf_b0, nf_z0, t45_4, t45_5, true_and, and_true, List.set_cons_zero, List.set_cons_succ, List.length_cons, List.length_nil, rd_s, upw_s, ne_eq, not_false_eq_true, Nat.zero_add, Nat.add_zero]
    | with_reducible refine itx (fun _ => ?_) (fun _ => ?_)
    | split
    | with_reducible intro _
    | omega
set_option maxHeartbeats 4000000 in
theorem fX3_areInOrder {a0 a1 a2 a3 : Int64}  (hT : oP a0 a1 a2 a3 → Q (.inl (some (.int 1))) w) (hF : ¬ (oP a0 a1 a2 a3) → Q (.inl (some (.int 0))) w) : WP (MX3_areInOrder g) Q (0, [some (.long a0), none, some (.long a1), none, some (.long a2), none, some (.long a3), none], [], w, 0, 0) := by
  repeat' first
    | with_reducible assumption
    | with_reducible refine And.intro ?_ ?_
    | with_reducible exact vpi6 (by assumption) (by assumption)
    | with_reducible exact vpi8 (by assumption) (by assumption)
    | with_reducible exact trivial
    | with_reducible exact hT (by omega)
    | with_reducible exact hF (by omega)
    | simp only [eX3_areInOrder_0, eX3_areInOrder_1, eX3_areInOrder_2, eX3_areInOrder_3, eX3_areInOrder_6, eX3_areInOrder_8, eX3_areInOrder_10, eX3_areInOrder_11, eX3_areInOrder_14, eX3_areInOrder_15, eX3_areInOrder_17, eX3_areInOrder_18, eX3_areInOrder_21, eX3_areInOrder_22, eX3_areInOrder_24, eX3_areInOrder_25, eX3_areInOrder_28, eX3_areInOrder_29, eX3_areInOrder_32, eX3_areInOrder_33, lgp, lgn, lgz, i10, i00, if_true, if_false, eq_self, not_true, not_false_eq_true, m10, n4e, upw2q, rv0, rv1, rv2, rv3, lmi, lmx, ite_le, n45, n54, true_or, or_true, false_or, or_false, false_and, and_false, kx_l, kx_r, go_s, gl_s, gi_s, gb_s2, gb_s3, gq_s, wt_nil, wt_int, wt_long, wt_ref, wt_null, nl_int, nl_long, nl_ref, nl_null, nl_none, rf_n, rf_s, rf_st, tl_s, tl_n, g0, gS, ex1, nb_b, nb_0, nb_1, nf_i, nf_l, nf_ra, nf_ro, nf_na, nf_no, nf_b0, nf_z0, t45_4, t45_5, true_and, and_true, List.set_cons_zero, List.set_cons_succ, List.length_cons, List.length_nil, rd_s, upw_s, ne_eq, not_false_eq_true, Nat.zero_add, Nat.add_zero]
    | with_reducible refine itx (fun _ => ?_) (fun _ => ?_)
    | split
    | with_reducible intro _
    | omega
set_option maxHeartbeats 4000000 in
theorem fX3_fixed {p : Nat} {r : R4} (hp : rowA w p r) (hT : fP r → Q (.inl (some (.int 1))) w) (hF : ¬ (fP r) → Q (.inl (some (.int 0))) w) : WP (MX3_fixed g) Q (0, [some (.ref p)], [], w, 0, 0) := by
  repeat' first
    | with_reducible assumption
    | with_reducible refine And.intro ?_ ?_
    | with_reducible exact vpi6 (by assumption) (by assumption)
    | with_reducible exact vpi8 (by assumption) (by assumption)
    | with_reducible exact trivial
    | with_reducible refine gl_A (by assumption) ?_
    | with_reducible exact vpi4.1
    | with_reducible exact vpi4.2.1
    | with_reducible exact vpi4.2.2.1
    | with_reducible exact vpi4.2.2.2
    | with_reducible exact hT (by omega)
    | with_reducible exact hF (by omega)
    | simp only [eX3_fixed_0, eX3_fixed_0N, eX3_fixed_1, eX3_fixed_2, eX3_fixed_3, eX3_fixed_3N, eX3_fixed_4, eX3_fixed_5, eX3_fixed_6, eX3_fixed_7, eX3_fixed_10, eX3_fixed_10N, eX3_fixed_11, eX3_fixed_12, eX3_fixed_13, eX3_fixed_13N, eX3_fixed_14, eX3_fixed_15, eX3_fixed_16, eX3_fixed_17, eX3_fixed_20, eX3_fixed_21, eX3_fixed_24, eX3_fixed_25, lgp, lgn, lgz, i10, i00, if_true, if_false, eq_self, not_true, not_false_eq_true, m10, n4e, upw2q, rv0, rv1, rv2, rv3, lmi, lmx, ite_le, n45, n54, true_or, or_true, false_or, or_false, false_and, and_false, kx_l, kx_r, go_s, gl_s, gi_s, gb_s2, gb_s3, gq_s, wt_nil, wt_int, wt_long, wt_ref, wt_null, nl_int, nl_long, nl_ref, nl_null, nl_none, rf_n, rf_s, rf_st, tl_s, tl_n, g0, gS, ex1, nb_b, nb_0, nb_1, nf_i, nf_l, nf_ra, nf_ro, nf_na, nf_no, nf_b0, nf_z0, t45_4, t45_5, true_and, and_true, List.set_cons_zero, List.set_cons_succ, List.length_cons, List.length_nil, rd_s, upw_s, ne_eq, not_false_eq_true, Nat.zero_add, Nat.add_zero]
    | with_reducible refine itx (fun _ => ?_) (fun _ => ?_)
    | split
    | with_reducible intro _
    | omega
set_option maxHeartbeats 4000000 in
theorem fX3_small {p : Nat} {r : R4} (hp : rowA w p r) (hT : sP r → Q (.inl (some (.int 1))) w) (hF : ¬ (sP r) → Q (.inl (some (.int 0))) w) : WP (MX3_small g) Q (0, [some (.ref p)], [], w, 0, 0) := by
  repeat' first
    | with_reducible assumption
    | with_reducible refine And.intro ?_ ?_
    | with_reducible exact vpi6 (by assumption) (by assumption)
    | with_reducible exact vpi8 (by assumption) (by assumption)
    | with_reducible exact trivial
    | with_reducible refine gl_A (by assumption) ?_
    | with_reducible exact vpi4.1
    | with_reducible exact vpi4.2.1
    | with_reducible exact vpi4.2.2.1
    | with_reducible exact vpi4.2.2.2
    | with_reducible exact hT (by omega)
    | with_reducible exact hF (by omega)
    | simp only [eX3_small_0, eX3_small_0N, eX3_small_1, eX3_small_2, eX3_small_3, eX3_small_6, eX3_small_7, eX3_small_10, eX3_small_10N, eX3_small_11, eX3_small_12, eX3_small_13, eX3_small_16, eX3_small_17, eX3_small_20, eX3_small_21, eX3_small_24, eX3_small_25, lgp, lgn, lgz, i10, i00, if_true, if_false, eq_self, not_true, not_false_eq_true, m10, n4e, upw2q, rv0, rv1, rv2, rv3, lmi, lmx, ite_le, n45, n54, true_or, or_true, false_or, or_false, false_and, and_false, kx_l, kx_r, go_s, gl_s, gi_s, gb_s2, gb_s3, gq_s, wt_nil, wt_int, wt_long, wt_ref, wt_null, nl_int, nl_long, nl_ref, nl_null, nl_none, rf_n, rf_s, rf_st, tl_s, tl_n, g0, gS, ex1, nb_b, nb_0, nb_1, nf_i, nf_l, nf_ra, nf_ro, nf_na, nf_no, nf_b0, nf_z0, t45_4, t45_5, true_and, and_true, List.set_cons_zero, List.set_cons_succ, List.length_cons, List.length_nil, rd_s, upw_s, ne_eq, not_false_eq_true, Nat.zero_add, Nat.add_zero]
    | with_reducible refine itx (fun _ => ?_) (fun _ => ?_)
    | split
    | with_reducible intro _
    | omega
set_option maxHeartbeats 4000000 in
theorem fX3_valid {p : Nat} {r : R4} {a : Int64} {b : Int32} (hp : rowA w p r) (hT : ((b = 0 ∨ sP r) ∧ hP r a) → Q (.inl (some (.int 1))) w) (hF : ¬ ((b = 0 ∨ sP r) ∧ hP r a) → Q (.inl (some (.int 0))) w) : WP (MX3_valid g) Q (0, [some (.ref p), some (.long a), none, some (.int b)], [], w, 0, 0) := by
  repeat' first
    | with_reducible assumption
    | with_reducible refine And.intro ?_ ?_
    | with_reducible exact vpi6 (by assumption) (by assumption)
    | with_reducible exact vpi8 (by assumption) (by assumption)
    | with_reducible exact trivial
    | with_reducible refine gl_A (by assumption) ?_
    | with_reducible exact vpi4.1
    | with_reducible exact vpi4.2.1
    | with_reducible exact vpi4.2.2.1
    | with_reducible exact vpi4.2.2.2
    | with_reducible refine fX3_small hp (fun _ => ?_) (fun _ => ?_)
    | with_reducible exact hT ⟨Or.inl (by assumption), by omega⟩
    | with_reducible exact hT ⟨Or.inr (by assumption), by omega⟩
    | with_reducible exact hF (fun h => absurd h.2 (by omega))
    | with_reducible exact hF (fun h => h.1.elim (fun e => absurd e (by assumption)) (fun e => absurd e (by assumption)))
    | with_reducible exact hT (by omega)
    | with_reducible exact hF (by omega)
    | simp only [eX3_valid_0, eX3_valid_1, eX3_valid_1N, eX3_valid_2, eX3_valid_3, eX3_valid_4, eX3_valid_5, eX3_valid_8, eX3_valid_9, eX3_valid_9N, eX3_valid_10, eX3_valid_11, eX3_valid_12, eX3_valid_13, eX3_valid_16, eX3_valid_17, eX3_valid_20, eX3_valid_20N, eX3_valid_21R, eX3_valid_21N, eX3_valid_24, eX3_valid_27, eX3_valid_28, eX3_valid_31, eX3_valid_32, lgp, lgn, lgz, i10, i00, if_true, if_false, eq_self, not_true, not_false_eq_true, m10, n4e, upw2q, rv0, rv1, rv2, rv3, lmi, lmx, ite_le, n45, n54, true_or, or_true, false_or, or_false, false_and, and_false, kx_l, kx_r, go_s, gl_s, gi_s, gb_s2, gb_s3, gq_s, wt_nil, wt_int, wt_long, wt_ref, wt_null, nl_int, nl_long, nl_ref, nl_null, nl_none, rf_n, rf_s, rf_st, tl_s, tl_n, g0, gS, ex1, nb_b, nb_0, nb_1, nf_i, nf_l, nf_ra, nf_ro, nf_na, nf_no, nf_b0, nf_z0, t45_4, t45_5, true_and, and_true, List.set_cons_zero, List.set_cons_succ, List.length_cons, List.length_nil, rd_s, upw_s, ne_eq, not_false_eq_true, Nat.zero_add, Nat.add_zero]
    | with_reducible refine itx (fun _ => ?_) (fun _ => ?_)
    | split
    | with_reducible intro _
    | omega
set_option maxHeartbeats 4000000 in
theorem fX3_isBare {a : Int32} (hM : MS g w0 y nM kd th s w) (k : okC a) (h1 : s.2.1 a.toNatClampNeg = none → Q (.inl (some (.int 1))) w) (h0 : ∀ r, s.2.1 a.toNatClampNeg = some r → Q (.inl (some (.int 0))) w) : WP (MX3_isBare g) Q (0, [some (.ref y), some (.int a)], [], w, 0, 0) := by
  repeat' first
    | with_reducible assumption
    | with_reducible refine And.intro ?_ ?_
    | with_reducible exact vpi6 (by assumption) (by assumption)
    | with_reducible exact vpi8 (by assumption) (by assumption)
    | with_reducible exact trivial
    | with_reducible exact absurd (by assumption) n10'
    | with_reducible exact n00x (by assumption)
    | with_reducible refine go_S (by assumption) (fun _ _ hY => ?_)
    | with_reducible exact MS.gC (by assumption) (by assumption)
    | with_reducible exact MS.gP (by assumption) (by assumption)
    | with_reducible refine sGetF (by assumption) (by assumption) k (fun _ => ?_) (fun _ _ _ hb => ?_)
    | with_reducible exact rowA.ca (by assumption)
    | with_reducible exact h1 (by assumption)
    | with_reducible exact h0 _ (by assumption)
    | simp only [eX3_isBare_0, eX3_isBare_0N, eX3_isBare_1, eX3_isBare_4, eX3_isBare_5, eX3_isBare_8R, eX3_isBare_8N, eX3_isBare_11, eX3_isBare_12, eX3_isBare_15, eX3_isBare_16, lgp, lgn, lgz, i10, i00, if_true, if_false, eq_self, not_true, not_false_eq_true, m10, n4e, upw2q, rv0, rv1, rv2, rv3, lmi, lmx, ite_le, n45, n54, true_or, or_true, false_or, or_false, false_and, and_false, kx_l, kx_r, go_s, gl_s, gi_s, gb_s2, gb_s3, gq_s, wt_nil, wt_int, wt_long, wt_ref, wt_null, nl_int, nl_long, nl_ref, nl_null, nl_none, rf_n, rf_s, rf_st, tl_s, tl_n, g0, gS, ex1, nb_b, nb_0, nb_1, nf_i, nf_l, nf_ra, nf_ro, nf_na, nf_no, nf_b0, nf_z0, t45_4, t45_5, true_and, and_true, List.set_cons_zero, List.set_cons_succ, List.length_cons, List.length_nil, rd_s, upw_s, ne_eq, not_false_eq_true, Nat.zero_add, Nat.add_zero]
    | with_reducible refine itx (fun _ => ?_) (fun _ => ?_)
    | split
    | with_reducible intro _
    | omega
set_option maxHeartbeats 4000000 in
theorem fX3_make {a : Int32} {p q r t : Int64} (hM : MS g w0 y nM kd th s w) (k : okC a) (hT : oP p q r t → ∀ w', MS g w0 y nM kd th (sMk s a.toNatClampNeg (p, q, r, t)) w' → Q (.inl (some (.int 1))) w') (hF : ¬ oP p q r t → ∀ w', MS g w0 y nM kd th (sRf s) w' → Q (.inl (some (.int (-9)))) w') : WP (MX3_make g) Q (0, [some (.ref y), some (.int a), some (.long p), none, some (.long q), none, some (.long r), none, some (.long t), none], [], w, 0, 0) := by
  repeat' first
    | with_reducible assumption
    | with_reducible refine And.intro ?_ ?_
    | with_reducible exact vpi6 (by assumption) (by assumption)
    | with_reducible exact vpi8 (by assumption) (by assumption)
    | with_reducible exact trivial
    | with_reducible exact absurd (by assumption) n10'
    | with_reducible exact n00x (by assumption)
    | with_reducible refine fX3_areInOrder (fun hyes => ?_) (fun hno => ?_)
    | with_reducible refine go_S hM (fun _ _ hY => ?_)
    | with_reducible refine fX3_no hM (fun w1 h1 => ?_)
    | with_reducible exact hF hno _ h1
    | with_reducible exact n4a
    | with_reducible exact n4b
    | with_reducible exact n4c
    | with_reducible exact vpi4.1
    | with_reducible exact vpi4.2.1
    | with_reducible exact vpi4.2.2.1
    | with_reducible exact vpi4.2.2.2
    | with_reducible exact MS.gC (MS.fr hM (by assumption)) (isY.fr hY (by assumption))
    | (with_reducible refine sSetFR (MS.fr hM (by assumption)) (isY.fr hY (by assumption)) rowA_nw k (fun w1 h1 => ?_) (fun _ w1 h1 => ?_))
    | with_reducible refine go_S h1 (fun _ _ hY1 => ?_)
    | with_reducible refine go_Sw h1 (fun _ _ _ hw => ?_)
    | ((with_reducible refine isQ (Q := Q) ?_); exact hT hyes _ (hw _ _ _ _))
    | simp only [eX3_make_0, eX3_make_1, eX3_make_3, eX3_make_5, eX3_make_7, eX3_make_10, eX3_make_13, eX3_make_13N, eX3_make_14, eX3_make_17, eX3_make_18, eX3_make_18N, eX3_make_19, eX3_make_22, eX3_make_23, eX3_make_24, eX3_make_26, eX3_make_26R, eX3_make_27, eX3_make_28, eX3_make_29, eX3_make_30, eX3_make_30R, eX3_make_31, eX3_make_32, eX3_make_34, eX3_make_35, eX3_make_35R, eX3_make_36, eX3_make_37, eX3_make_39, eX3_make_40, eX3_make_40R, eX3_make_41, eX3_make_42, eX3_make_44, eX3_make_45R, eX3_make_45N, eX3_make_48, eX3_make_48R, eX3_make_48N, eX3_make_49, eX3_make_49N, eX3_make_50, eX3_make_50R, eX3_make_51, eX3_make_54, eX3_make_55, eX3_make_56, eX3_make_59, eX3_make_60, lgp, lgn, lgz, i10, i00, if_true, if_false, eq_self, not_true, not_false_eq_true, m10, n4e, upw2q, rv0, rv1, rv2, rv3, lmi, lmx, ite_le, n45, n54, true_or, or_true, false_or, or_false, false_and, and_false, kx_l, kx_r, go_s, gl_s, gi_s, gb_s2, gb_s3, gq_s, wt_nil, wt_int, wt_long, wt_ref, wt_null, nl_int, nl_long, nl_ref, nl_null, nl_none, rf_n, rf_s, rf_st, tl_s, tl_n, g0, gS, ex1, nb_b, nb_0, nb_1, nf_i, nf_l, nf_ra, nf_ro, nf_na, nf_no, nf_b0, nf_z0, t45_4, t45_5, true_and, and_true, List.set_cons_zero, List.set_cons_succ, List.length_cons, List.length_nil, rd_s, upw_s, ne_eq, not_false_eq_true, Nat.zero_add, Nat.add_zero]
    | with_reducible refine itx (fun _ => ?_) (fun _ => ?_)
    | split
    | with_reducible intro _
    | omega
theorem fX3_makeR {a : Int32} {p q r t : Int64} (hM : MS g w0 y nM kd th s w) (k : okC a) (hT : oP p q r t → ∀ w', MS g w0 y nM kd th (sMk s a.toNatClampNeg (p, q, r, t)) w' → MS g w y nM kd th (sMk s a.toNatClampNeg (p, q, r, t)) w' → Q (.inl (some (.int 1))) w') (hF : ¬ oP p q r t → ∀ w', MS g w0 y nM kd th (sRf s) w' → Q (.inl (some (.int (-9)))) w') : WP (MX3_make g) Q (0, [some (.ref y), some (.int a), some (.long p), none, some (.long q), none, some (.long r), none, some (.long t), none], [], w, 0, 0) := fX3_make hM.st k (fun e w' h => hT e w' (hM.cat h) h) (fun e w' h => hF e w' (hM.cat h))
set_option maxHeartbeats 4000000 in
theorem fX3_isNoPair {a c : Int32} (hM : MS g w0 y nM kd th s w) (hX : ¬ (okC a ∧ okC c) → ∀ w', MS g w0 y nM kd 1 s w' → Q (.inl (some (.int 1))) w') (hS : okC a → okC c → s.2.1 c.toNatClampNeg = none → ∀ w', MS g w0 y nM kd 2 s w' → Q (.inl (some (.int 1))) w') (hQ : okC a → okC c → ∀ r, s.2.1 c.toNatClampNeg = some r → ∀ w', MS g w0 y nM kd 0 s w' → Q (.inl (some (.int 0))) w') : WP (MX3_isNoPair g) Q (0, [some (.ref y), some (.int a), some (.int c)], [], w, 0, 0) := by
  repeat' first
    | with_reducible assumption
    | with_reducible refine And.intro ?_ ?_
    | with_reducible exact vpi6 (by assumption) (by assumption)
    | with_reducible exact vpi8 (by assumption) (by assumption)
    | with_reducible exact trivial
    | with_reducible exact absurd (by assumption) n10'
    | with_reducible exact n00x (by assumption)
    | with_reducible exact hX (fun h => absurd h.1 (by assumption)) _ (by assumption)
    | with_reducible exact hX (fun h => absurd h.2 (by assumption)) _ (by assumption)
    | with_reducible exact hS (by assumption) (by assumption) (by assumption) _ (by assumption)
    | with_reducible exact hQ (by assumption) (by assumption) _ (by assumption) _ (by assumption)
    | with_reducible refine fX3_isNoNumber (fun _ => ?_) (fun _ => ?_)
    | with_reducible refine fX3_isNoCard (fun _ => ?_) (fun _ => ?_)
    | with_reducible refine fX3_isNoEnd (fun _ => ?_) (fun _ => ?_)
    | with_reducible refine fX3_start (by assumption) (by decide) (fun _ w1 h1 => ?_) (fun _ w1 h1 => ?_)
    | with_reducible refine fX3_refuse (by assumption) (by decide) (fun _ => ?_) (fun _ w2 h2 => ?_)
    | with_reducible refine go_S (by assumption) (fun _ _ hY => ?_)
    | with_reducible refine fX3_isBare (by assumption) (by assumption) (fun _ => ?_) (fun _ _ => ?_)
    | simp only [eX3_isNoPair_0, eX3_isNoPair_0N, eX3_isNoPair_1, eX3_isNoPair_2, eX3_isNoPair_5, eX3_isNoPair_8, eX3_isNoPair_9, eX3_isNoPair_12, eX3_isNoPair_15, eX3_isNoPair_16, eX3_isNoPair_19, eX3_isNoPair_20, eX3_isNoPair_21, eX3_isNoPair_24, eX3_isNoPair_27, eX3_isNoPair_27N, eX3_isNoPair_28, eX3_isNoPair_28N, eX3_isNoPair_29, eX3_isNoPair_30, eX3_isNoPair_33, eX3_isNoPair_34, eX3_isNoPair_37, eX3_isNoPair_40, eX3_isNoPair_41, eX3_isNoPair_44, eX3_isNoPair_45, lgp, lgn, lgz, i10, i00, if_true, if_false, eq_self, not_true, not_false_eq_true, m10, n4e, upw2q, rv0, rv1, rv2, rv3, lmi, lmx, ite_le, n45, n54, true_or, or_true, false_or, or_false, false_and, and_false, kx_l, kx_r, go_s, gl_s, gi_s, gb_s2, gb_s3, gq_s, wt_nil, wt_int, wt_long, wt_ref, wt_null, nl_int, nl_long, nl_ref, nl_null, nl_none, rf_n, rf_s, rf_st, tl_s, tl_n, g0, gS, ex1, nb_b, nb_0, nb_1, nf_i, nf_l, nf_ra, nf_ro, nf_na, nf_no, nf_b0, nf_z0, t45_4, t45_5, true_and, and_true, List.set_cons_zero, List.set_cons_succ, List.length_cons, List.length_nil, rd_s, upw_s, ne_eq, not_false_eq_true, Nat.zero_add, Nat.add_zero]
    | with_reducible refine itx (fun _ => ?_) (fun _ => ?_)
    | split
    | with_reducible intro _
    | omega
set_option maxHeartbeats 4000000 in
theorem fX3_isNone {a : Int32} (hM : MS g w0 y nM kd th s w) (hX : ¬ (okC a) → ∀ w', MS g w0 y nM kd 1 s w' → Q (.inl (some (.int 1))) w') (hS : okC a → s.2.1 a.toNatClampNeg = none → ∀ w', MS g w0 y nM kd 2 s w' → Q (.inl (some (.int 1))) w') (hQ : okC a → ∀ r, s.2.1 a.toNatClampNeg = some r → ∀ w', MS g w0 y nM kd 0 s w' → Q (.inl (some (.int 0))) w') : WP (MX3_isNone g) Q (0, [some (.ref y), some (.int a)], [], w, 0, 0) := by
  repeat' first
    | with_reducible assumption
    | with_reducible refine And.intro ?_ ?_
    | with_reducible exact vpi6 (by assumption) (by assumption)
    | with_reducible exact vpi8 (by assumption) (by assumption)
    | with_reducible exact trivial
    | with_reducible exact absurd (by assumption) n10'
    | with_reducible exact n00x (by assumption)
    | with_reducible exact hX (fun h => absurd h (by assumption)) _ (by assumption)
    | with_reducible exact hS (by assumption) (by assumption) _ (by assumption)
    | with_reducible exact hQ (by assumption) _ (by assumption) _ (by assumption)
    | with_reducible refine fX3_isNoNumber (fun _ => ?_) (fun _ => ?_)
    | with_reducible refine fX3_isNoCard (fun _ => ?_) (fun _ => ?_)
    | with_reducible refine fX3_isNoEnd (fun _ => ?_) (fun _ => ?_)
    | with_reducible refine fX3_start (by assumption) (by decide) (fun _ w1 h1 => ?_) (fun _ w1 h1 => ?_)
    | with_reducible refine fX3_refuse (by assumption) (by decide) (fun _ => ?_) (fun _ w2 h2 => ?_)
    | with_reducible refine go_S (by assumption) (fun _ _ hY => ?_)
    | with_reducible refine fX3_isBare (by assumption) (by assumption) (fun _ => ?_) (fun _ _ => ?_)
    | simp only [eX3_isNone_0, eX3_isNone_0N, eX3_isNone_1, eX3_isNone_2, eX3_isNone_5, eX3_isNone_6, eX3_isNone_9, eX3_isNone_12, eX3_isNone_12N, eX3_isNone_13, eX3_isNone_13N, eX3_isNone_14, eX3_isNone_15, eX3_isNone_18, eX3_isNone_19, eX3_isNone_22, eX3_isNone_25, eX3_isNone_26, eX3_isNone_29, eX3_isNone_30, lgp, lgn, lgz, i10, i00, if_true, if_false, eq_self, not_true, not_false_eq_true, m10, n4e, upw2q, rv0, rv1, rv2, rv3, lmi, lmx, ite_le, n45, n54, true_or, or_true, false_or, or_false, false_and, and_false, kx_l, kx_r, go_s, gl_s, gi_s, gb_s2, gb_s3, gq_s, wt_nil, wt_int, wt_long, wt_ref, wt_null, nl_int, nl_long, nl_ref, nl_null, nl_none, rf_n, rf_s, rf_st, tl_s, tl_n, g0, gS, ex1, nb_b, nb_0, nb_1, nf_i, nf_l, nf_ra, nf_ro, nf_na, nf_no, nf_b0, nf_z0, t45_4, t45_5, true_and, and_true, List.set_cons_zero, List.set_cons_succ, List.length_cons, List.length_nil, rd_s, upw_s, ne_eq, not_false_eq_true, Nat.zero_add, Nat.add_zero]
    | with_reducible refine itx (fun _ => ?_) (fun _ => ?_)
    | split
    | with_reducible intro _
    | omega
set_option maxHeartbeats 4000000 in
theorem fX3_isNoEnd_ {a c : Int32} (hM : MS g w0 y nM kd th s w) (hX : ¬ (okC a) → ∀ w', MS g w0 y nM kd 1 s w' → Q (.inl (some (.int 1))) w') (hW : okC a → ¬ okW c 3 → ∀ w', MS g w0 y nM kd 2 s w' → Q (.inl (some (.int 1))) w') (hS : okC a → okW c 3 → s.2.1 a.toNatClampNeg = none → ∀ w', MS g w0 y nM kd 3 s w' → Q (.inl (some (.int 1))) w') (hQ : okC a → okW c 3 → ∀ r, s.2.1 a.toNatClampNeg = some r → ∀ w', MS g w0 y nM kd 0 s w' → Q (.inl (some (.int 0))) w') : WP (MX3_isNoEnd_ g) Q (0, [some (.ref y), some (.int a), some (.int c)], [], w, 0, 0) := by
  repeat' first
    | with_reducible assumption
    | with_reducible refine And.intro ?_ ?_
    | with_reducible exact vpi6 (by assumption) (by assumption)
    | with_reducible exact vpi8 (by assumption) (by assumption)
    | with_reducible exact trivial
    | with_reducible exact absurd (by assumption) n10'
    | with_reducible exact n00x (by assumption)
    | with_reducible exact hX (fun h => absurd h (by assumption)) _ (by assumption)
    | with_reducible exact hW (by assumption) (by assumption) _ (by assumption)
    | with_reducible exact hS (by assumption) (by assumption) (by assumption) _ (by assumption)
    | with_reducible exact hQ (by assumption) (by assumption) _ (by assumption) _ (by assumption)
    | with_reducible refine fX3_isNoNumber (fun _ => ?_) (fun _ => ?_)
    | with_reducible refine fX3_isNoCard (fun _ => ?_) (fun _ => ?_)
    | with_reducible refine fX3_isNoEnd (fun _ => ?_) (fun _ => ?_)
    | with_reducible refine fX3_start (by assumption) (by decide) (fun _ w1 h1 => ?_) (fun _ w1 h1 => ?_)
    | with_reducible refine fX3_refuse (by assumption) (by decide) (fun _ => ?_) (fun _ w2 h2 => ?_)
    | with_reducible refine go_S (by assumption) (fun _ _ hY => ?_)
    | with_reducible refine fX3_isBare (by assumption) (by assumption) (fun _ => ?_) (fun _ _ => ?_)
    | simp only [eX3_isNoEnd__0, eX3_isNoEnd__0N, eX3_isNoEnd__1, eX3_isNoEnd__2, eX3_isNoEnd__5, eX3_isNoEnd__6, eX3_isNoEnd__9, eX3_isNoEnd__12, eX3_isNoEnd__12N, eX3_isNoEnd__13, eX3_isNoEnd__14, eX3_isNoEnd__17, eX3_isNoEnd__18, eX3_isNoEnd__21, eX3_isNoEnd__24, eX3_isNoEnd__24N, eX3_isNoEnd__25, eX3_isNoEnd__25N, eX3_isNoEnd__26, eX3_isNoEnd__27, eX3_isNoEnd__30, eX3_isNoEnd__31, eX3_isNoEnd__34, eX3_isNoEnd__37, eX3_isNoEnd__38, eX3_isNoEnd__41, eX3_isNoEnd__42, lgp, lgn, lgz, i10, i00, if_true, if_false, eq_self, not_true, not_false_eq_true, m10, n4e, upw2q, rv0, rv1, rv2, rv3, lmi, lmx, ite_le, n45, n54, true_or, or_true, false_or, or_false, false_and, and_false, kx_l, kx_r, go_s, gl_s, gi_s, gb_s2, gb_s3, gq_s, wt_nil, wt_int, wt_long, wt_ref, wt_null, nl_int, nl_long, nl_ref, nl_null, nl_none, rf_n, rf_s, rf_st, tl_s, tl_n, g0, gS, ex1, nb_b, nb_0, nb_1, nf_i, nf_l, nf_ra, nf_ro, nf_na, nf_no, nf_b0, nf_z0, t45_4, t45_5, true_and, and_true, List.set_cons_zero, List.set_cons_succ, List.length_cons, List.length_nil, rd_s, upw_s, ne_eq, not_false_eq_true, Nat.zero_add, Nat.add_zero]
    | with_reducible refine itx (fun _ => ?_) (fun _ => ?_)
    | split
    | with_reducible intro _
    | omega
set_option maxHeartbeats 4000000 in
theorem fX3_isNoAsked {a c : Int32} (hM : MS g w0 y nM kd th s w) (hX : ¬ (okC a ∧ okN c) → ∀ w', MS g w0 y nM kd 1 s w' → Q (.inl (some (.int 1))) w') (hS : okC a → okN c → s.2.1 a.toNatClampNeg = none → ∀ w', MS g w0 y nM kd 2 s w' → Q (.inl (some (.int 1))) w') (hQ : okC a → okN c → ∀ r, s.2.1 a.toNatClampNeg = some r → ∀ w', MS g w0 y nM kd 0 s w' → Q (.inl (some (.int 0))) w') : WP (MX3_isNoAsked g) Q (0, [some (.ref y), some (.int a), some (.int c)], [], w, 0, 0) := by
  repeat' first
    | with_reducible assumption
    | with_reducible refine And.intro ?_ ?_
    | with_reducible exact vpi6 (by assumption) (by assumption)
    | with_reducible exact vpi8 (by assumption) (by assumption)
    | with_reducible exact trivial
    | with_reducible exact absurd (by assumption) n10'
    | with_reducible exact n00x (by assumption)
    | with_reducible exact hX (fun h => absurd h.1 (by assumption)) _ (by assumption)
    | with_reducible exact hX (fun h => absurd h.2 (by assumption)) _ (by assumption)
    | with_reducible exact hS (by assumption) (by assumption) (by assumption) _ (by assumption)
    | with_reducible exact hQ (by assumption) (by assumption) _ (by assumption) _ (by assumption)
    | with_reducible refine fX3_isNoNumber (fun _ => ?_) (fun _ => ?_)
    | with_reducible refine fX3_isNoCard (fun _ => ?_) (fun _ => ?_)
    | with_reducible refine fX3_isNoEnd (fun _ => ?_) (fun _ => ?_)
    | with_reducible refine fX3_start (by assumption) (by decide) (fun _ w1 h1 => ?_) (fun _ w1 h1 => ?_)
    | with_reducible refine fX3_refuse (by assumption) (by decide) (fun _ => ?_) (fun _ w2 h2 => ?_)
    | with_reducible refine go_S (by assumption) (fun _ _ hY => ?_)
    | with_reducible refine fX3_isBare (by assumption) (by assumption) (fun _ => ?_) (fun _ _ => ?_)
    | simp only [eX3_isNoAsked_0, eX3_isNoAsked_0N, eX3_isNoAsked_1, eX3_isNoAsked_2, eX3_isNoAsked_5, eX3_isNoAsked_8, eX3_isNoAsked_9, eX3_isNoAsked_12, eX3_isNoAsked_15, eX3_isNoAsked_16, eX3_isNoAsked_19, eX3_isNoAsked_20, eX3_isNoAsked_21, eX3_isNoAsked_24, eX3_isNoAsked_27, eX3_isNoAsked_27N, eX3_isNoAsked_28, eX3_isNoAsked_28N, eX3_isNoAsked_29, eX3_isNoAsked_30, eX3_isNoAsked_33, eX3_isNoAsked_34, eX3_isNoAsked_37, eX3_isNoAsked_40, eX3_isNoAsked_41, eX3_isNoAsked_44, eX3_isNoAsked_45, lgp, lgn, lgz, i10, i00, if_true, if_false, eq_self, not_true, not_false_eq_true, m10, n4e, upw2q, rv0, rv1, rv2, rv3, lmi, lmx, ite_le, n45, n54, true_or, or_true, false_or, or_false, false_and, and_false, kx_l, kx_r, go_s, gl_s, gi_s, gb_s2, gb_s3, gq_s, wt_nil, wt_int, wt_long, wt_ref, wt_null, nl_int, nl_long, nl_ref, nl_null, nl_none, rf_n, rf_s, rf_st, tl_s, tl_n, g0, gS, ex1, nb_b, nb_0, nb_1, nf_i, nf_l, nf_ra, nf_ro, nf_na, nf_no, nf_b0, nf_z0, t45_4, t45_5, true_and, and_true, List.set_cons_zero, List.set_cons_succ, List.length_cons, List.length_nil, rd_s, upw_s, ne_eq, not_false_eq_true, Nat.zero_add, Nat.add_zero]
    | with_reducible refine itx (fun _ => ?_) (fun _ => ?_)
    | split
    | with_reducible intro _
    | omega
end
end
/-! 75.mf5.lean.txt -/
section
section
variable {g : RO} {Q : Ot → Hw → Prop} {w0 w : Hw} {y nM : Nat} {kd th : Int32} {s : AS}
/-! MODEL, FUNCTIONAL, 6: makers -/
set_option maxHeartbeats 4000000 in
theorem fX3_two {a0 a1 a2 : Int32} (hM : MS g w0 y nM kd th s w) (hX : ¬ (okC a0 ∧ okN a1 ∧ okN a2) → ∀ w', MS g w0 y nM kd 1 s w' → Q (.inl (some (.int 0))) w') (hT : okC a0 → okN a1 → okN a2 → oP (s.1 a1.toNatClampNeg) (s.1 a1.toNatClampNeg) (s.1 a2.toNatClampNeg) (s.1 a2.toNatClampNeg) → ∀ w', MS g w0 y nM kd 0 (sMk s a0.toNatClampNeg (s.1 a1.toNatClampNeg, s.1 a1.toNatClampNeg, s.1 a2.toNatClampNeg, s.1 a2.toNatClampNeg)) w' → Q (.inl (some (.int 1))) w') (hF : okC a0 → okN a1 → okN a2 → ¬ oP (s.1 a1.toNatClampNeg) (s.1 a1.toNatClampNeg) (s.1 a2.toNatClampNeg) (s.1 a2.toNatClampNeg) → ∀ w', MS g w0 y nM kd 0 (sRf s) w' → Q (.inl (some (.int (-9)))) w') : WP (MX3_two g) Q (0, [some (.ref y), some (.int a0), some (.int a1), some (.int a2)], [], w, 0, 0) := by
  repeat' first
    | with_reducible assumption
    | with_reducible refine And.intro ?_ ?_
    | with_reducible exact vpi6 (by assumption) (by assumption)
    | with_reducible exact vpi8 (by assumption) (by assumption)
    | with_reducible exact trivial
    | with_reducible exact absurd (by assumption) n10'
    | with_reducible exact n00x (by assumption)
    | with_reducible exact hX (fun h => absurd h.1 (by assumption)) _ (by assumption)
    | with_reducible exact hX (fun h => absurd h.2.1 (by assumption)) _ (by assumption)
    | with_reducible exact hX (fun h => absurd h.2.2 (by assumption)) _ (by assumption)
    | with_reducible exact hT (by assumption) (by assumption) (by assumption) hyes _ h3
    | with_reducible exact hF (by assumption) (by assumption) (by assumption) hno _ h3
    | with_reducible refine fX3_isNoNumber (fun _ => ?_) (fun _ => ?_)
    | with_reducible refine fX3_isNoCard (fun _ => ?_) (fun _ => ?_)
    | with_reducible refine fX3_start (by assumption) (by decide) (fun _ w1 h1 => ?_) (fun _ w1 h1 => ?_)
    | with_reducible refine go_S (by assumption) (fun _ _ hY => ?_)
    | with_reducible refine gl_S (by assumption) ?_
    | with_reducible exact vpi8k (by assumption)
    | with_reducible exact vpi6k (by assumption)
    | with_reducible exact vpi4k (by assumption)
    | with_reducible refine fX3_make (by assumption) (by assumption) (fun hyes w3 h3 => ?_) (fun hno w3 h3 => ?_)
    | simp only [eX3_two_0, eX3_two_0N, eX3_two_1, eX3_two_2, eX3_two_5, eX3_two_8, eX3_two_9, eX3_two_12, eX3_two_15, eX3_two_16, eX3_two_19, eX3_two_22, eX3_two_23, eX3_two_26, eX3_two_27, eX3_two_28, eX3_two_31, eX3_two_34, eX3_two_35, eX3_two_38, eX3_two_38N, eX3_two_39, eX3_two_40, eX3_two_40N, eX3_two_41, eX3_two_44, eX3_two_45, eX3_two_46, eX3_two_46N, eX3_two_47, eX3_two_50, eX3_two_51, eX3_two_52, eX3_two_52N, eX3_two_53, eX3_two_56, eX3_two_57, eX3_two_58, eX3_two_58N, eX3_two_59, eX3_two_62, eX3_two_63, eX3_two_64, eX3_two_67, lgp, lgn, lgz, i10, i00, if_true, if_false, eq_self, not_true, not_false_eq_true, m10, n4e, upw2q, rv0, rv1, rv2, rv3, lmi, lmx, ite_le, n45, n54, true_or, or_true, false_or, or_false, false_and, and_false, kx_l, kx_r, go_s, gl_s, gi_s, gb_s2, gb_s3, gq_s, wt_nil, wt_int, wt_long, wt_ref, wt_null, nl_int, nl_long, nl_ref, nl_null, nl_none, rf_n, rf_s, rf_st, tl_s, tl_n, g0, gS, ex1, nb_b, nb_0, nb_1, nf_i, nf_l, nf_ra, nf_ro, nf_na, nf_no, nf_b0, nf_z0, t45_4, t45_5, true_and, and_true, List.set_cons_zero, List.set_cons_succ, List.length_cons, List.length_nil, rd_s, upw_s, ne_eq, not_false_eq_true, Nat.zero_add, Nat.add_zero]
    | with_reducible refine itx (fun _ => ?_) (fun _ => ?_)
    | split
    | with_reducible intro _
    | omega
set_option maxHeartbeats 4000000 in
theorem fX3_three {a0 a1 a2 a3 : Int32} (hM : MS g w0 y nM kd th s w) (hX : ¬ (okC a0 ∧ okN a1 ∧ okN a2 ∧ okN a3) → ∀ w', MS g w0 y nM kd 1 s w' → Q (.inl (some (.int 0))) w') (hT : okC a0 → okN a1 → okN a2 → okN a3 → oP (s.1 a1.toNatClampNeg) (s.1 a1.toNatClampNeg) (s.1 a2.toNatClampNeg) (s.1 a3.toNatClampNeg) → ∀ w', MS g w0 y nM kd 0 (sMk s a0.toNatClampNeg (s.1 a1.toNatClampNeg, s.1 a1.toNatClampNeg, s.1 a2.toNatClampNeg, s.1 a3.toNatClampNeg)) w' → Q (.inl (some (.int 1))) w') (hF : okC a0 → okN a1 → okN a2 → okN a3 → ¬ oP (s.1 a1.toNatClampNeg) (s.1 a1.toNatClampNeg) (s.1 a2.toNatClampNeg) (s.1 a3.toNatClampNeg) → ∀ w', MS g w0 y nM kd 0 (sRf s) w' → Q (.inl (some (.int (-9)))) w') : WP (MX3_three g) Q (0, [some (.ref y), some (.int a0), some (.int a1), some (.int a2), some (.int a3)], [], w, 0, 0) := by
  repeat' first
    | with_reducible assumption
    | with_reducible refine And.intro ?_ ?_
    | with_reducible exact vpi6 (by assumption) (by assumption)
    | with_reducible exact vpi8 (by assumption) (by assumption)
    | with_reducible exact trivial
    | with_reducible exact absurd (by assumption) n10'
    | with_reducible exact n00x (by assumption)
    | with_reducible exact hX (fun h => absurd h.1 (by assumption)) _ (by assumption)
    | with_reducible exact hX (fun h => absurd h.2.1 (by assumption)) _ (by assumption)
    | with_reducible exact hX (fun h => absurd h.2.2.1 (by assumption)) _ (by assumption)
    | with_reducible exact hX (fun h => absurd h.2.2.2 (by assumption)) _ (by assumption)
    | with_reducible exact hT (by assumption) (by assumption) (by assumption) (by assumption) hyes _ h3
    | with_reducible exact hF (by assumption) (by assumption) (by assumption) (by assumption) hno _ h3
    | with_reducible refine fX3_isNoNumber (fun _ => ?_) (fun _ => ?_)
    | with_reducible refine fX3_isNoCard (fun _ => ?_) (fun _ => ?_)
    | with_reducible refine fX3_start (by assumption) (by decide) (fun _ w1 h1 => ?_) (fun _ w1 h1 => ?_)
    | with_reducible refine go_S (by assumption) (fun _ _ hY => ?_)
    | with_reducible refine gl_S (by assumption) ?_
    | with_reducible exact vpi8k (by assumption)
    | with_reducible exact vpi6k (by assumption)
    | with_reducible exact vpi4k (by assumption)
    | with_reducible refine fX3_make (by assumption) (by assumption) (fun hyes w3 h3 => ?_) (fun hno w3 h3 => ?_)
    | simp only [eX3_three_0, eX3_three_0N, eX3_three_1, eX3_three_2, eX3_three_5, eX3_three_8, eX3_three_9, eX3_three_12, eX3_three_15, eX3_three_16, eX3_three_19, eX3_three_22, eX3_three_24, eX3_three_27, eX3_three_30, eX3_three_31, eX3_three_34, eX3_three_35, eX3_three_36, eX3_three_39, eX3_three_42, eX3_three_43, eX3_three_46, eX3_three_46N, eX3_three_47, eX3_three_48, eX3_three_48N, eX3_three_49, eX3_three_52, eX3_three_53, eX3_three_54, eX3_three_54N, eX3_three_55, eX3_three_58, eX3_three_59, eX3_three_60, eX3_three_60N, eX3_three_61, eX3_three_64, eX3_three_65, eX3_three_66, eX3_three_66N, eX3_three_67, eX3_three_70, eX3_three_72, eX3_three_73, eX3_three_76, lgp, lgn, lgz, i10, i00, if_true, if_false, eq_self, not_true, not_false_eq_true, m10, n4e, upw2q, rv0, rv1, rv2, rv3, lmi, lmx, ite_le, n45, n54, true_or, or_true, false_or, or_false, false_and, and_false, kx_l, kx_r, go_s, gl_s, gi_s, gb_s2, gb_s3, gq_s, wt_nil, wt_int, wt_long, wt_ref, wt_null, nl_int, nl_long, nl_ref, nl_null, nl_none, rf_n, rf_s, rf_st, tl_s, tl_n, g0, gS, ex1, nb_b, nb_0, nb_1, nf_i, nf_l, nf_ra, nf_ro, nf_na, nf_no, nf_b0, nf_z0, t45_4, t45_5, true_and, and_true, List.set_cons_zero, List.set_cons_succ, List.length_cons, List.length_nil, rd_s, upw_s, ne_eq, not_false_eq_true, Nat.zero_add, Nat.add_zero]
    | with_reducible refine itx (fun _ => ?_) (fun _ => ?_)
    | split
    | with_reducible intro _
    | omega
set_option maxHeartbeats 4000000 in
theorem fX3_four {a0 a1 a2 a3 a4 : Int32} (hM : MS g w0 y nM kd th s w) (hX : ¬ (okC a0 ∧ okN a1 ∧ okN a2 ∧ okN a3 ∧ okN a4) → ∀ w', MS g w0 y nM kd 1 s w' → Q (.inl (some (.int 0))) w') (hT : okC a0 → okN a1 → okN a2 → okN a3 → okN a4 → oP (s.1 a1.toNatClampNeg) (s.1 a2.toNatClampNeg) (s.1 a3.toNatClampNeg) (s.1 a4.toNatClampNeg) → ∀ w', MS g w0 y nM kd 0 (sMk s a0.toNatClampNeg (s.1 a1.toNatClampNeg, s.1 a2.toNatClampNeg, s.1 a3.toNatClampNeg, s.1 a4.toNatClampNeg)) w' → Q (.inl (some (.int 1))) w') (hF : okC a0 → okN a1 → okN a2 → okN a3 → okN a4 → ¬ oP (s.1 a1.toNatClampNeg) (s.1 a2.toNatClampNeg) (s.1 a3.toNatClampNeg) (s.1 a4.toNatClampNeg) → ∀ w', MS g w0 y nM kd 0 (sRf s) w' → Q (.inl (some (.int (-9)))) w') : WP (MX3_four g) Q (0, [some (.ref y), some (.int a0), some (.int a1), some (.int a2), some (.int a3), some (.int a4)], [], w, 0, 0) := by
  repeat' first
    | with_reducible assumption
    | with_reducible refine And.intro ?_ ?_
    | with_reducible exact vpi6 (by assumption) (by assumption)
    | with_reducible exact vpi8 (by assumption) (by assumption)
    | with_reducible exact trivial
    | with_reducible exact absurd (by assumption) n10'
    | with_reducible exact n00x (by assumption)
    | with_reducible exact hX (fun h => absurd h.1 (by assumption)) _ (by assumption)
    | with_reducible exact hX (fun h => absurd h.2.1 (by assumption)) _ (by assumption)
    | with_reducible exact hX (fun h => absurd h.2.2.1 (by assumption)) _ (by assumption)
    | with_reducible exact hX (fun h => absurd h.2.2.2.1 (by assumption)) _ (by assumption)
    | with_reducible exact hX (fun h => absurd h.2.2.2.2 (by assumption)) _ (by assumption)
    | with_reducible exact hT (by assumption) (by assumption) (by assumption) (by assumption) (by assumption) hyes _ h3
    | with_reducible exact hF (by assumption) (by assumption) (by assumption) (by assumption) (by assumption) hno _ h3
    | with_reducible refine fX3_isNoNumber (fun _ => ?_) (fun _ => ?_)
    | with_reducible refine fX3_isNoCard (fun _ => ?_) (fun _ => ?_)
    | with_reducible refine fX3_start (by assumption) (by decide) (fun _ w1 h1 => ?_) (fun _ w1 h1 => ?_)
    | with_reducible refine go_S (by assumption) (fun _ _ hY => ?_)
    | with_reducible refine gl_S (by assumption) ?_
    | with_reducible exact vpi8k (by assumption)
    | with_reducible exact vpi6k (by assumption)
    | with_reducible exact vpi4k (by assumption)
    | with_reducible refine fX3_make (by assumption) (by assumption) (fun hyes w3 h3 => ?_) (fun hno w3 h3 => ?_)
    | simp only [eX3_four_0, eX3_four_0N, eX3_four_1, eX3_four_2, eX3_four_5, eX3_four_8, eX3_four_9, eX3_four_12, eX3_four_15, eX3_four_16, eX3_four_19, eX3_four_22, eX3_four_24, eX3_four_27, eX3_four_30, eX3_four_32, eX3_four_35, eX3_four_38, eX3_four_39, eX3_four_42, eX3_four_43, eX3_four_44, eX3_four_47, eX3_four_50, eX3_four_51, eX3_four_54, eX3_four_54N, eX3_four_55, eX3_four_56, eX3_four_56N, eX3_four_57, eX3_four_60, eX3_four_61, eX3_four_62, eX3_four_62N, eX3_four_63, eX3_four_66, eX3_four_67, eX3_four_68, eX3_four_68N, eX3_four_69, eX3_four_72, eX3_four_74, eX3_four_75, eX3_four_75N, eX3_four_76, eX3_four_79, eX3_four_81, eX3_four_82, eX3_four_85, lgp, lgn, lgz, i10, i00, if_true, if_false, eq_self, not_true, not_false_eq_true, m10, n4e, upw2q, rv0, rv1, rv2, rv3, lmi, lmx, ite_le, n45, n54, true_or, or_true, false_or, or_false, false_and, and_false, kx_l, kx_r, go_s, gl_s, gi_s, gb_s2, gb_s3, gq_s, wt_nil, wt_int, wt_long, wt_ref, wt_null, nl_int, nl_long, nl_ref, nl_null, nl_none, rf_n, rf_s, rf_st, tl_s, tl_n, g0, gS, ex1, nb_b, nb_0, nb_1, nf_i, nf_l, nf_ra, nf_ro, nf_na, nf_no, nf_b0, nf_z0, t45_4, t45_5, true_and, and_true, List.set_cons_zero, List.set_cons_succ, List.length_cons, List.length_nil, rd_s, upw_s, ne_eq, not_false_eq_true, Nat.zero_add, Nat.add_zero]
    | with_reducible refine itx (fun _ => ?_) (fun _ => ?_)
    | split
    | with_reducible intro _
    | omega
set_option maxHeartbeats 4000000 in
theorem fX3_twoSmall {a0 a1 a2 : Int32} (hM : MS g w0 y nM kd th s w) (hX : ¬ (okC a0) → ∀ w', MS g w0 y nM kd 1 s w' → Q (.inl (some (.int 0))) w') (hT : okC a0 → oP (a1.toInt64) (a1.toInt64) (a2.toInt64) (a2.toInt64) → ∀ w', MS g w0 y nM kd 0 (sMk s a0.toNatClampNeg (a1.toInt64, a1.toInt64, a2.toInt64, a2.toInt64)) w' → Q (.inl (some (.int 1))) w') (hF : okC a0 → ¬ oP (a1.toInt64) (a1.toInt64) (a2.toInt64) (a2.toInt64) → ∀ w', MS g w0 y nM kd 0 (sRf s) w' → Q (.inl (some (.int (-9)))) w') : WP (MX3_twoSmall g) Q (0, [some (.ref y), some (.int a0), some (.int a1), some (.int a2)], [], w, 0, 0) := by
  repeat' first
    | with_reducible assumption
    | with_reducible refine And.intro ?_ ?_
    | with_reducible exact vpi6 (by assumption) (by assumption)
    | with_reducible exact vpi8 (by assumption) (by assumption)
    | with_reducible exact trivial
    | with_reducible exact absurd (by assumption) n10'
    | with_reducible exact n00x (by assumption)
    | with_reducible exact hX (fun h => absurd h (by assumption)) _ (by assumption)
    | with_reducible exact hT (by assumption) hyes _ h3
    | with_reducible exact hF (by assumption) hno _ h3
    | with_reducible refine fX3_isNoNumber (fun _ => ?_) (fun _ => ?_)
    | with_reducible refine fX3_isNoCard (fun _ => ?_) (fun _ => ?_)
    | with_reducible refine fX3_start (by assumption) (by decide) (fun _ w1 h1 => ?_) (fun _ w1 h1 => ?_)
    | with_reducible refine go_S (by assumption) (fun _ _ hY => ?_)
    | with_reducible refine gl_S (by assumption) ?_
    | with_reducible exact vpi8k (by assumption)
    | with_reducible exact vpi6k (by assumption)
    | with_reducible exact vpi4k (by assumption)
    | with_reducible refine fX3_make (by assumption) (by assumption) (fun hyes w3 h3 => ?_) (fun hno w3 h3 => ?_)
    | simp only [eX3_twoSmall_0, eX3_twoSmall_0N, eX3_twoSmall_1, eX3_twoSmall_2, eX3_twoSmall_5, eX3_twoSmall_6, eX3_twoSmall_9, eX3_twoSmall_12, eX3_twoSmall_13, eX3_twoSmall_16, eX3_twoSmall_16N, eX3_twoSmall_17, eX3_twoSmall_18, eX3_twoSmall_19, eX3_twoSmall_20, eX3_twoSmall_21, eX3_twoSmall_22, eX3_twoSmall_23, eX3_twoSmall_24, eX3_twoSmall_25, eX3_twoSmall_26, eX3_twoSmall_29, lgp, lgn, lgz, i10, i00, if_true, if_false, eq_self, not_true, not_false_eq_true, m10, n4e, upw2q, rv0, rv1, rv2, rv3, lmi, lmx, ite_le, n45, n54, true_or, or_true, false_or, or_false, false_and, and_false, kx_l, kx_r, go_s, gl_s, gi_s, gb_s2, gb_s3, gq_s, wt_nil, wt_int, wt_long, wt_ref, wt_null, nl_int, nl_long, nl_ref, nl_null, nl_none, rf_n, rf_s, rf_st, tl_s, tl_n, g0, gS, ex1, nb_b, nb_0, nb_1, nf_i, nf_l, nf_ra, nf_ro, nf_na, nf_no, nf_b0, nf_z0, t45_4, t45_5, true_and, and_true, List.set_cons_zero, List.set_cons_succ, List.length_cons, List.length_nil, rd_s, upw_s, ne_eq, not_false_eq_true, Nat.zero_add, Nat.add_zero]
    | with_reducible refine itx (fun _ => ?_) (fun _ => ?_)
    | split
    | with_reducible intro _
    | omega
set_option maxHeartbeats 4000000 in
theorem fX3_threeSmall {a0 a1 a2 a3 : Int32} (hM : MS g w0 y nM kd th s w) (hX : ¬ (okC a0) → ∀ w', MS g w0 y nM kd 1 s w' → Q (.inl (some (.int 0))) w') (hT : okC a0 → oP (a1.toInt64) (a1.toInt64) (a2.toInt64) (a3.toInt64) → ∀ w', MS g w0 y nM kd 0 (sMk s a0.toNatClampNeg (a1.toInt64, a1.toInt64, a2.toInt64, a3.toInt64)) w' → Q (.inl (some (.int 1))) w') (hF : okC a0 → ¬ oP (a1.toInt64) (a1.toInt64) (a2.toInt64) (a3.toInt64) → ∀ w', MS g w0 y nM kd 0 (sRf s) w' → Q (.inl (some (.int (-9)))) w') : WP (MX3_threeSmall g) Q (0, [some (.ref y), some (.int a0), some (.int a1), some (.int a2), some (.int a3)], [], w, 0, 0) := by
  repeat' first
    | with_reducible assumption
    | with_reducible refine And.intro ?_ ?_
    | with_reducible exact vpi6 (by assumption) (by assumption)
    | with_reducible exact vpi8 (by assumption) (by assumption)
    | with_reducible exact trivial
    | with_reducible exact absurd (by assumption) n10'
    | with_reducible exact n00x (by assumption)
    | with_reducible exact hX (fun h => absurd h (by assumption)) _ (by assumption)
    | with_reducible exact hT (by assumption) hyes _ h3
    | with_reducible exact hF (by assumption) hno _ h3
    | with_reducible refine fX3_isNoNumber (fun _ => ?_) (fun _ => ?_)
    | with_reducible refine fX3_isNoCard (fun _ => ?_) (fun _ => ?_)
    | with_reducible refine fX3_start (by assumption) (by decide) (fun _ w1 h1 => ?_) (fun _ w1 h1 => ?_)
    | with_reducible refine go_S (by assumption) (fun _ _ hY => ?_)
    | with_reducible refine gl_S (by assumption) ?_
    | with_reducible exact vpi8k (by assumption)
    | with_reducible exact vpi6k (by assumption)
    | with_reducible exact vpi4k (by assumption)
    | with_reducible refine fX3_make (by assumption) (by assumption) (fun hyes w3 h3 => ?_) (fun hno w3 h3 => ?_)
    | simp only [eX3_threeSmall_0, eX3_threeSmall_0N, eX3_threeSmall_1, eX3_threeSmall_2, eX3_threeSmall_5, eX3_threeSmall_6, eX3_threeSmall_9, eX3_threeSmall_12, eX3_threeSmall_13, eX3_threeSmall_16, eX3_threeSmall_16N, eX3_threeSmall_17, eX3_threeSmall_18, eX3_threeSmall_19, eX3_threeSmall_20, eX3_threeSmall_21, eX3_threeSmall_22, eX3_threeSmall_23, eX3_threeSmall_24, eX3_threeSmall_26, eX3_threeSmall_27, eX3_threeSmall_30, lgp, lgn, lgz, i10, i00, if_true, if_false, eq_self, not_true, not_false_eq_true, m10, n4e, upw2q, rv0, rv1, rv2, rv3, lmi, lmx, ite_le, n45, n54, true_or, or_true, false_or, or_false, false_and, and_false, kx_l, kx_r, go_s, gl_s, gi_s, gb_s2, gb_s3, gq_s, wt_nil, wt_int, wt_long, wt_ref, wt_null, nl_int, nl_long, nl_ref, nl_null, nl_none, rf_n, rf_s, rf_st, tl_s, tl_n, g0, gS, ex1, nb_b, nb_0, nb_1, nf_i, nf_l, nf_ra, nf_ro, nf_na, nf_no, nf_b0, nf_z0, t45_4, t45_5, true_and, and_true, List.set_cons_zero, List.set_cons_succ, List.length_cons, List.length_nil, rd_s, upw_s, ne_eq, not_false_eq_true, Nat.zero_add, Nat.add_zero]
    | with_reducible refine itx (fun _ => ?_) (fun _ => ?_)
    | split
    | with_reducible intro _
    | omega
set_option maxHeartbeats 4000000 in
theorem fX3_fourSmall {a0 a1 a2 a3 a4 : Int32} (hM : MS g w0 y nM kd th s w) (hX : ¬ (okC a0) → ∀ w', MS g w0 y nM kd 1 s w' → Q (.inl (some (.int 0))) w') (hT : okC a0 → oP (a1.toInt64) (a2.toInt64) (a3.toInt64) (a4.toInt64) → ∀ w', MS g w0 y nM kd 0 (sMk s a0.toNatClampNeg (a1.toInt64, a2.toInt64, a3.toInt64, a4.toInt64)) w' → Q (.inl (some (.int 1))) w') (hF : okC a0 → ¬ oP (a1.toInt64) (a2.toInt64) (a3.toInt64) (a4.toInt64) → ∀ w', MS g w0 y nM kd 0 (sRf s) w' → Q (.inl (some (.int (-9)))) w') : WP (MX3_fourSmall g) Q (0, [some (.ref y), some (.int a0), some (.int a1), some (.int a2), some (.int a3), some (.int a4)], [], w, 0, 0) := by
  repeat' first
    | with_reducible assumption
    | with_reducible refine And.intro ?_ ?_
    | with_reducible exact vpi6 (by assumption) (by assumption)
    | with_reducible exact vpi8 (by assumption) (by assumption)
    | with_reducible exact trivial
    | with_reducible exact absurd (by assumption) n10'
    | with_reducible exact n00x (by assumption)
    | with_reducible exact hX (fun h => absurd h (by assumption)) _ (by assumption)
    | with_reducible exact hT (by assumption) hyes _ h3
    | with_reducible exact hF (by assumption) hno _ h3
    | with_reducible refine fX3_isNoNumber (fun _ => ?_) (fun _ => ?_)
    | with_reducible refine fX3_isNoCard (fun _ => ?_) (fun _ => ?_)
    | with_reducible refine fX3_start (by assumption) (by decide) (fun _ w1 h1 => ?_) (fun _ w1 h1 => ?_)
    | with_reducible refine go_S (by assumption) (fun _ _ hY => ?_)
    | with_reducible refine gl_S (by assumption) ?_
    | with_reducible exact vpi8k (by assumption)
    | with_reducible exact vpi6k (by assumption)
    | with_reducible exact vpi4k (by assumption)
    | with_reducible refine fX3_make (by assumption) (by assumption) (fun hyes w3 h3 => ?_) (fun hno w3 h3 => ?_)
    | simp only [eX3_fourSmall_0, eX3_fourSmall_0N, eX3_fourSmall_1, eX3_fourSmall_2, eX3_fourSmall_5, eX3_fourSmall_6, eX3_fourSmall_9, eX3_fourSmall_12, eX3_fourSmall_13, eX3_fourSmall_16, eX3_fourSmall_16N, eX3_fourSmall_17, eX3_fourSmall_18, eX3_fourSmall_19, eX3_fourSmall_20, eX3_fourSmall_21, eX3_fourSmall_22, eX3_fourSmall_24, eX3_fourSmall_25, eX3_fourSmall_27, eX3_fourSmall_28, eX3_fourSmall_31, lgp, lgn, lgz, i10, i00, if_true, if_false, eq_self, not_true, not_false_eq_true, m10, n4e, upw2q, rv0, rv1, rv2, rv3, lmi, lmx, ite_le, n45, n54, true_or, or_true, false_or, or_false, false_and, and_false, kx_l, kx_r, go_s, gl_s, gi_s, gb_s2, gb_s3, gq_s, wt_nil, wt_int, wt_long, wt_ref, wt_null, nl_int, nl_long, nl_ref, nl_null, nl_none, rf_n, rf_s, rf_st, tl_s, tl_n, g0, gS, ex1, nb_b, nb_0, nb_1, nf_i, nf_l, nf_ra, nf_ro, nf_na, nf_no, nf_b0, nf_z0, t45_4, t45_5, true_and, and_true, List.set_cons_zero, List.set_cons_succ, List.length_cons, List.length_nil, rd_s, upw_s, ne_eq, not_false_eq_true, Nat.zero_add, Nat.add_zero]
    | with_reducible refine itx (fun _ => ?_) (fun _ => ?_)
    | split
    | with_reducible intro _
    | omega
end
end
/-! 75.mf6.lean.txt -/
section
section
variable {g : RO} {Q : Ot → Hw → Prop} {w0 w : Hw} {y nM : Nat} {kd th : Int32} {s : AS}
/-! MODEL, FUNCTIONAL, 7: made of cards -/
def smF (r : R4) (j : Nat) : Int32 := bI (decide (-2147483648 ≤ (rV r j).toInt ∧ (rV r j).toInt ≤ 2147483647))
theorem smT {r : R4} {j : Nat} (h : -2147483648 ≤ (rV r j).toInt ∧ (rV r j).toInt ≤ 2147483647) : fsum (smF r) j + 1 = fsum (smF r) (j + 1) := by
  show _ = fsum (smF r) j + smF r j
  unfold smF
  rw [decide_eq_true h]
  rfl
theorem smN {r : R4} {j : Nat} (h : ¬ (-2147483648 ≤ (rV r j).toInt ∧ (rV r j).toInt ≤ 2147483647)) : fsum (smF r) j + 0 = fsum (smF r) (j + 1) := by
  show _ = fsum (smF r) j + smF r j
  unfold smF
  rw [decide_eq_false h]
  rfl
theorem fsum_cg {f f' : Nat → Int32} : ∀ {N : Nat}, (∀ j, j < N → f j = f' j) → fsum f N = fsum f' N
  | 0, _ => rfl
  | N + 1, h => by
    show fsum f N + f N = fsum f' N + f' N
    rw [fsum_cg (fun j hj => h j (by omega)), h N (by omega)]
theorem smE {r : R4} : fsum (smF r) 4 = seV r := fsum_cg (fun j hj => by
  show bI (decide (-2147483648 ≤ (rV r j).toInt ∧ (rV r j).toInt ≤ 2147483647)) = _
  rw [rvj hj])
theorem oEta {r : R4} (h : rOk r) (hno : ¬ oP r.1 r.2.1 r.2.2.1 r.2.2.2) : False := hno h
set_option maxHeartbeats 4000000 in
theorem flX3_again_37 {a c : Int32} {b : Nat} {r : R4} (hM : MS g w0 y nM kd th s w) (hb : rowA w b r) (k : okC a) (ho : rOk r) (hQ : ∀ w', MS g w0 y nM kd th (sMk s a.toNatClampNeg r) w' → Q (.inl (some (.int (seV r)))) w') : ∀ (d j : Nat) (i8 : Option Value) (i9 : Option Value) (kz mz : Nat), j + d = 4 → kz ≤ 0 → mz ≤ 0 → WP (MX3_again g) Q (37, [some (.ref y), some (.int a), some (.int c), some (.ref b), some (.int (fsum (smF r) j)), some (.ref b), some (.int 4), some (.int (Int32.ofNat j)), i8, i9], [], w, kz, mz) := by
  intro d
  induction d with
  | zero =>
    intro j i8 i9 kz mz hjd hkz hmz
    have h9 : j < 1000 := (by omega)
    have hlt : ¬ Int32.ofNat j < 4 := oNg (B := 4) h9 rfl (by omega)
    have hnn := oN0 h9
    have hcl := oNc h9
    obtain rfl : j = 4 := by omega
    rw [eX3_again_37]
    repeat' first
      | with_reducible assumption
      | with_reducible refine And.intro ?_ ?_
      | with_reducible exact vpi6 (by assumption) (by assumption)
      | with_reducible exact vpi8 (by assumption) (by assumption)
      | with_reducible exact trivial
      | with_reducible exact absurd (by assumption) n10'
      | with_reducible exact n00x (by assumption)
      | (simp only [rv0, rv1, rv2, rv3])
      | with_reducible refine gl_A hb ?_
      | with_reducible exact vpi4j (by omega)
      | with_reducible exact vpi4.1
      | with_reducible exact vpi4.2.1
      | with_reducible exact vpi4.2.2.1
      | with_reducible exact vpi4.2.2.2
      | with_reducible refine fX3_one (Or.inl rfl) ?_
      | with_reducible refine fX3_one (Or.inr rfl) ?_
      | with_reducible refine go_S hM (fun _ _ hY => ?_)
      | with_reducible refine fX3_make hM k (fun hyes w3 h3 => ?_) (fun hno w3 h3 => ?_)
      | with_reducible exact (oEta ho hno).elim
      | (rw [smE]; exact hQ _ h3)
      | simp only [eX3_again_0, eX3_again_0N, eX3_again_1, eX3_again_2, eX3_again_3, eX3_again_6, eX3_again_9, eX3_again_10, eX3_again_11, eX3_again_11N, eX3_again_12, eX3_again_15, eX3_again_16, eX3_again_19N, eX3_again_19R, eX3_again_22, eX3_again_22N, eX3_again_23, eX3_again_24, eX3_again_26, eX3_again_26N, eX3_again_27, eX3_again_27N, eX3_again_29, eX3_again_29N, eX3_again_31, eX3_again_32, eX3_again_34, eX3_again_35, eX3_again_39, eX3_again_41, eX3_again_44, eX3_again_44N, eX3_again_46, eX3_again_48, eX3_again_49, eX3_again_51, eX3_again_53, eX3_again_55, eX3_again_58, eX3_again_59, eX3_again_62, eX3_again_64, eX3_again_67, eX3_again_68, eX3_again_71, eX3_again_72, eX3_again_75, eX3_again_76, eX3_again_79, eX3_again_80, eX3_again_82, eX3_again_85, eX3_again_88, eX3_again_88N, eX3_again_89, eX3_again_90, eX3_again_90N, eX3_again_91, eX3_again_92, eX3_again_93, eX3_again_93N, eX3_again_94, eX3_again_95, eX3_again_96, eX3_again_96N, eX3_again_97, eX3_again_98, eX3_again_99, eX3_again_99N, eX3_again_100, eX3_again_101, eX3_again_102, eX3_again_105, eX3_again_105R, eX3_again_105N, eX3_again_106, eX3_again_108, lgp, lgn, lgz, i10, i00, if_true, if_false, eq_self, not_true, not_false_eq_true, m10, n4e, upw2q, rv0, rv1, rv2, rv3, lmi, lmx, hlt, hcl, ite_le, n45, n54, true_or, or_true, false_or, or_false, false_and, and_false, kx_l, kx_r, go_s, gl_s, gi_s, gb_s2, gb_s3, gq_s, wt_nil, wt_int, wt_long, wt_ref, wt_null, nl_int, nl_long, nl_ref, nl_null, nl_none, rf_n, rf_s, rf_st, tl_s, tl_n, g0, gS, ex1, nb_b, nb_0, nb_1, nf_i, nf_l, nf_ra, nf_ro, nf_na, nf_no, nf_b0, nf_z0, t45_4, t45_5, true_and, and_true, List.set_cons_zero, List.set_cons_succ, List.length_cons, List.length_nil, rd_s, upw_s, ne_eq, not_false_eq_true, Nat.zero_add, Nat.add_zero]
      | with_reducible refine itx (fun _ => ?_) (fun _ => ?_)
      | split
      | with_reducible intro _
      | omega
  | succ d ih =>
    intro j i8 i9 kz mz hjd hkz hmz
    have h9 : j < 1000 := (by omega)
    have hlt : Int32.ofNat j < 4 := oNl (B := 4) h9 rfl (by omega)
    have hjN : j < 4 := by omega
    have hnn := oN0 h9
    have hcl := oNc h9
    rw [eX3_again_37]
    repeat' first
      | with_reducible assumption
      | with_reducible refine And.intro ?_ ?_
      | with_reducible exact vpi6 (by assumption) (by assumption)
      | with_reducible exact vpi8 (by assumption) (by assumption)
      | with_reducible exact trivial
      | with_reducible exact absurd (by assumption) n10'
      | with_reducible exact n00x (by assumption)
      | (rw [oN1, smT (r := r) (j := j) (by omega)]; exact ih (j + 1) _ _ _ _ (by omega) (by first | assumption | omega) (by first | assumption | omega))
      | (rw [oN1, smN (r := r) (j := j) (by omega)]; exact ih (j + 1) _ _ _ _ (by omega) (by first | assumption | omega) (by first | assumption | omega))
      | (simp only [rv0, rv1, rv2, rv3])
      | with_reducible refine gl_A hb ?_
      | with_reducible exact vpi4j (by omega)
      | with_reducible exact vpi4.1
      | with_reducible exact vpi4.2.1
      | with_reducible exact vpi4.2.2.1
      | with_reducible exact vpi4.2.2.2
      | with_reducible refine fX3_one (Or.inl rfl) ?_
      | with_reducible refine fX3_one (Or.inr rfl) ?_
      | with_reducible refine go_S hM (fun _ _ hY => ?_)
      | with_reducible refine fX3_make hM k (fun hyes w3 h3 => ?_) (fun hno w3 h3 => ?_)
      | with_reducible exact (oEta ho hno).elim
      | (rw [smE]; exact hQ _ h3)
      | simp only [eX3_again_0, eX3_again_0N, eX3_again_1, eX3_again_2, eX3_again_3, eX3_again_6, eX3_again_9, eX3_again_10, eX3_again_11, eX3_again_11N, eX3_again_12, eX3_again_15, eX3_again_16, eX3_again_19N, eX3_again_19R, eX3_again_22, eX3_again_22N, eX3_again_23, eX3_again_24, eX3_again_26, eX3_again_26N, eX3_again_27, eX3_again_27N, eX3_again_29, eX3_again_29N, eX3_again_31, eX3_again_32, eX3_again_34, eX3_again_35, eX3_again_39, eX3_again_41, eX3_again_44, eX3_again_44N, eX3_again_46, eX3_again_48, eX3_again_49, eX3_again_51, eX3_again_53, eX3_again_55, eX3_again_58, eX3_again_59, eX3_again_62, eX3_again_64, eX3_again_67, eX3_again_68, eX3_again_71, eX3_again_72, eX3_again_75, eX3_again_76, eX3_again_79, eX3_again_80, eX3_again_82, eX3_again_85, eX3_again_88, eX3_again_88N, eX3_again_89, eX3_again_90, eX3_again_90N, eX3_again_91, eX3_again_92, eX3_again_93, eX3_again_93N, eX3_again_94, eX3_again_95, eX3_again_96, eX3_again_96N, eX3_again_97, eX3_again_98, eX3_again_99, eX3_again_99N, eX3_again_100, eX3_again_101, eX3_again_102, eX3_again_105, eX3_again_105R, eX3_again_105N, eX3_again_106, eX3_again_108, lgp, lgn, lgz, i10, i00, if_true, if_false, eq_self, not_true, not_false_eq_true, m10, n4e, upw2q, rv0, rv1, rv2, rv3, lmi, lmx, hlt, hcl, ite_le, n45, n54, true_or, or_true, false_or, or_false, false_and, and_false, kx_l, kx_r, go_s, gl_s, gi_s, gb_s2, gb_s3, gq_s, wt_nil, wt_int, wt_long, wt_ref, wt_null, nl_int, nl_long, nl_ref, nl_null, nl_none, rf_n, rf_s, rf_st, tl_s, tl_n, g0, gS, ex1, nb_b, nb_0, nb_1, nf_i, nf_l, nf_ra, nf_ro, nf_na, nf_no, nf_b0, nf_z0, t45_4, t45_5, true_and, and_true, List.set_cons_zero, List.set_cons_succ, List.length_cons, List.length_nil, rd_s, upw_s, ne_eq, not_false_eq_true, Nat.zero_add, Nat.add_zero]
      | with_reducible refine itx (fun _ => ?_) (fun _ => ?_)
      | split
      | with_reducible intro _
      | omega
theorem al_A {b : Nat} {r : R4} {K : vp_A → Prop} (h : rowA w b r) (k : K (4, .inr (.inl (rV r)))) : ∃ t z, rd g w b = some (.inl (t, z)) ∧ t < 6 ∧ K z := ⟨0, _, rd_e h, by decide, k⟩
set_option maxHeartbeats 4000000 in
theorem fX3_again {a0 a1 : Int32} (hM : MS g w0 y nM kd th s w) (ho : sOk s) (hX : ¬ (okC a0 ∧ okC a1) → ∀ w', MS g w0 y nM kd 1 s w' → Q (.inl (some (.int 0))) w') (hS : okC a0 → okC a1 → s.2.1 a1.toNatClampNeg = none → ∀ w', MS g w0 y nM kd 2 s w' → Q (.inl (some (.int 0))) w') (hQ : okC a0 → okC a1 → ∀ r, s.2.1 a1.toNatClampNeg = some r → ∀ w', MS g w0 y nM kd 0 (sMk s a0.toNatClampNeg r) w' → Q (.inl (some (.int (seV r)))) w') : WP (MX3_again g) Q (0, [some (.ref y), some (.int a0), some (.int a1), none, none, none, none, none, none, none], [], w, 0, 0) := by
  repeat' first
    | with_reducible assumption
    | with_reducible refine And.intro ?_ ?_
    | with_reducible exact vpi6 (by assumption) (by assumption)
    | with_reducible exact vpi8 (by assumption) (by assumption)
    | with_reducible exact trivial
    | with_reducible exact absurd (by assumption) n10'
    | with_reducible exact n00x (by assumption)
    | with_reducible exact hX (by assumption) _ (by assumption)
    | with_reducible exact hX (fun h => absurd h.1 (by assumption)) _ (by assumption)
    | with_reducible exact hX (fun h => absurd h.2 (by assumption)) _ (by assumption)
    | with_reducible exact hS (by assumption) (by assumption) (by assumption) _ (by assumption)
    | with_reducible refine fX3_isNoPair (by assumption) (fun _ w1 h1 => ?_) (fun _ _ _ w1 h1 => ?_) (fun ka kc r e1 w1 h1 => ?_)
    | with_reducible refine go_S (by assumption) (fun _ _ hY => ?_)
    | with_reducible exact MS.gC (by assumption) (by assumption)
    | with_reducible exact MS.gP (by assumption) (by assumption)
    | (simp only [rv0, rv1, rv2, rv3])
    | with_reducible refine sGetK (by assumption) (by assumption) (by assumption) (by assumption) (fun _ hb => ?_)
    | with_reducible exact rowA.ca (by assumption)
    | with_reducible refine gl_A (by assumption) ?_
    | with_reducible exact vpi4.1
    | with_reducible exact vpi4.2.1
    | with_reducible exact vpi4.2.2.1
    | with_reducible exact vpi4.2.2.2
    | with_reducible refine al_A (by assumption) ?_
    | ((with_reducible refine isWP (pc := 37) ?_); exact flX3_again_37 h1 hb ka (ho.c kc e1) (fun w3 h3 => hQ ka kc r e1 w3 h3) 4 0 _ _ _ _ rfl (by decide) (by decide))
    | simp only [eX3_again_0, eX3_again_0N, eX3_again_1, eX3_again_2, eX3_again_3, eX3_again_6, eX3_again_9, eX3_again_10, eX3_again_11, eX3_again_11N, eX3_again_12, eX3_again_15, eX3_again_16, eX3_again_19N, eX3_again_19R, eX3_again_22, eX3_again_22N, eX3_again_23, eX3_again_24, eX3_again_26, eX3_again_26N, eX3_again_27, eX3_again_27N, eX3_again_29, eX3_again_29N, eX3_again_31, eX3_again_32, eX3_again_34, eX3_again_35, eX3_again_39, eX3_again_41, eX3_again_44, eX3_again_44N, eX3_again_46, eX3_again_48, eX3_again_49, eX3_again_51, eX3_again_53, eX3_again_55, eX3_again_58, eX3_again_59, eX3_again_62, eX3_again_64, eX3_again_67, eX3_again_68, eX3_again_71, eX3_again_72, eX3_again_75, eX3_again_76, eX3_again_79, eX3_again_80, eX3_again_82, eX3_again_85, eX3_again_88, eX3_again_88N, eX3_again_89, eX3_again_90, eX3_again_90N, eX3_again_91, eX3_again_92, eX3_again_93, eX3_again_93N, eX3_again_94, eX3_again_95, eX3_again_96, eX3_again_96N, eX3_again_97, eX3_again_98, eX3_again_99, eX3_again_99N, eX3_again_100, eX3_again_101, eX3_again_102, eX3_again_105, eX3_again_105R, eX3_again_105N, eX3_again_106, eX3_again_108, lgp, lgn, lgz, i10, i00, if_true, if_false, eq_self, not_true, not_false_eq_true, m10, n4e, upw2q, rv0, rv1, rv2, rv3, lmi, lmx, of4, ite_le, n45, n54, true_or, or_true, false_or, or_false, false_and, and_false, kx_l, kx_r, go_s, gl_s, gi_s, gb_s2, gb_s3, gq_s, wt_nil, wt_int, wt_long, wt_ref, wt_null, nl_int, nl_long, nl_ref, nl_null, nl_none, rf_n, rf_s, rf_st, tl_s, tl_n, g0, gS, ex1, nb_b, nb_0, nb_1, nf_i, nf_l, nf_ra, nf_ro, nf_na, nf_no, nf_b0, nf_z0, t45_4, t45_5, true_and, and_true, List.set_cons_zero, List.set_cons_succ, List.length_cons, List.length_nil, rd_s, upw_s, ne_eq, not_false_eq_true, Nat.zero_add, Nat.add_zero]
    | with_reducible refine itx (fun _ => ?_) (fun _ => ?_)
    | split
    | with_reducible intro _
    | omega
set_option maxHeartbeats 4000000 in
theorem fX3_outer {a0 a1 : Int32} (hM : MS g w0 y nM kd th s w) (ho : sOk s) (hX : ¬ (okC a0 ∧ okC a1) → ∀ w', MS g w0 y nM kd 1 s w' → Q (.inl (some (.int 0))) w') (hS : okC a0 → okC a1 → s.2.1 a1.toNatClampNeg = none → ∀ w', MS g w0 y nM kd 2 s w' → Q (.inl (some (.int 0))) w') (hT : okC a0 → okC a1 → ∀ r, s.2.1 a1.toNatClampNeg = some r → fP r → ∀ w', MS g w0 y nM kd 0 (sMk s a0.toNatClampNeg (r.1, r.1, r.2.2.2, r.2.2.2)) w' → Q (.inl (some (.int 1))) w') (hF : okC a0 → okC a1 → ∀ r, s.2.1 a1.toNatClampNeg = some r → ¬ fP r → ∀ w', MS g w0 y nM kd 0 (sMk s a0.toNatClampNeg (r.1, r.1, r.2.2.2, r.2.2.2)) w' → Q (.inl (some (.int 0))) w') : WP (MX3_outer g) Q (0, [some (.ref y), some (.int a0), some (.int a1), none], [], w, 0, 0) := by
  repeat' first
    | with_reducible assumption
    | with_reducible refine And.intro ?_ ?_
    | with_reducible exact vpi6 (by assumption) (by assumption)
    | with_reducible exact vpi8 (by assumption) (by assumption)
    | with_reducible exact trivial
    | with_reducible exact absurd (by assumption) n10'
    | with_reducible exact n00x (by assumption)
    | with_reducible exact hX (by assumption) _ (by assumption)
    | with_reducible exact hX (fun h => absurd h.1 (by assumption)) _ (by assumption)
    | with_reducible exact hX (fun h => absurd h.2 (by assumption)) _ (by assumption)
    | with_reducible exact hS (by assumption) (by assumption) (by assumption) _ (by assumption)
    | with_reducible refine fX3_isNoPair (by assumption) (fun _ w1 h1 => ?_) (fun _ _ _ w1 h1 => ?_) (fun ka kc r e1 w1 h1 => ?_)
    | with_reducible refine go_S (by assumption) (fun _ _ hY => ?_)
    | with_reducible exact MS.gC (by assumption) (by assumption)
    | with_reducible exact MS.gP (by assumption) (by assumption)
    | (simp only [rv0, rv1, rv2, rv3])
    | with_reducible refine sGetK (by assumption) (by assumption) (by assumption) (by assumption) (fun _ hb => ?_)
    | with_reducible exact rowA.ca (by assumption)
    | with_reducible refine gl_A (by assumption) ?_
    | with_reducible exact vpi4.1
    | with_reducible exact vpi4.2.1
    | with_reducible exact vpi4.2.2.1
    | with_reducible exact vpi4.2.2.2
    | with_reducible refine fX3_makeR (by assumption) (by assumption) (fun hyes w3 h3 z3 => ?_) (fun hno w3 h3 => ?_)
    | with_reducible exact absurd (oOut (ho.c kc e1)) hno
    | with_reducible refine fX3_fixed (MS.rA h1 z3 hb) (fun hm => ?_) (fun hm => ?_)
    | with_reducible refine fX3_one (Or.inl rfl) ?_
    | with_reducible refine fX3_one (Or.inr rfl) ?_
    | with_reducible exact hT ka kc r e1 hm _ h3
    | with_reducible exact hF ka kc r e1 hm _ h3
    | simp only [eX3_outer_0, eX3_outer_0N, eX3_outer_1, eX3_outer_2, eX3_outer_3, eX3_outer_6, eX3_outer_9, eX3_outer_10, eX3_outer_11, eX3_outer_11N, eX3_outer_12, eX3_outer_15, eX3_outer_16, eX3_outer_19N, eX3_outer_19R, eX3_outer_22, eX3_outer_22N, eX3_outer_23, eX3_outer_23N, eX3_outer_24, eX3_outer_25, eX3_outer_25N, eX3_outer_26, eX3_outer_27, eX3_outer_28, eX3_outer_28N, eX3_outer_29, eX3_outer_30, eX3_outer_31, eX3_outer_31N, eX3_outer_32, eX3_outer_33, eX3_outer_34, eX3_outer_34N, eX3_outer_35, eX3_outer_36, eX3_outer_37, eX3_outer_40, eX3_outer_40R, eX3_outer_40N, eX3_outer_41, eX3_outer_41N, eX3_outer_42R, eX3_outer_42N, eX3_outer_45, eX3_outer_48, lgp, lgn, lgz, i10, i00, if_true, if_false, eq_self, not_true, not_false_eq_true, m10, n4e, upw2q, rv0, rv1, rv2, rv3, lmi, lmx, ite_le, n45, n54, true_or, or_true, false_or, or_false, false_and, and_false, kx_l, kx_r, go_s, gl_s, gi_s, gb_s2, gb_s3, gq_s, wt_nil, wt_int, wt_long, wt_ref, wt_null, nl_int, nl_long, nl_ref, nl_null, nl_none, rf_n, rf_s, rf_st, tl_s, tl_n, g0, gS, ex1, nb_b, nb_0, nb_1, nf_i, nf_l, nf_ra, nf_ro, nf_na, nf_no, nf_b0, nf_z0, t45_4, t45_5, true_and, and_true, List.set_cons_zero, List.set_cons_succ, List.length_cons, List.length_nil, rd_s, upw_s, ne_eq, not_false_eq_true, Nat.zero_add, Nat.add_zero]
    | with_reducible refine itx (fun _ => ?_) (fun _ => ?_)
    | split
    | with_reducible intro _
    | omega
set_option maxHeartbeats 4000000 in
theorem fX3_inner {a0 a1 : Int32} (hM : MS g w0 y nM kd th s w) (hX : ¬ (okC a0 ∧ okC a1) → ∀ w', MS g w0 y nM kd 1 s w' → Q (.inl (some (.int 0))) w') (hS : okC a0 → okC a1 → s.2.1 a1.toNatClampNeg = none → ∀ w', MS g w0 y nM kd 2 s w' → Q (.inl (some (.int 0))) w') (hT : okC a0 → okC a1 → ∀ r, s.2.1 a1.toNatClampNeg = some r → oP r.2.1 r.2.1 r.2.2.1 r.2.2.1 → ∀ w', MS g w0 y nM kd 0 (sMk s a0.toNatClampNeg (r.2.1, r.2.1, r.2.2.1, r.2.2.1)) w' → Q (.inl (some (.int 1))) w') (hF : okC a0 → okC a1 → ∀ r, s.2.1 a1.toNatClampNeg = some r → ¬ oP r.2.1 r.2.1 r.2.2.1 r.2.2.1 → ∀ w', MS g w0 y nM kd 0 (sRf s) w' → Q (.inl (some (.int (-9)))) w') : WP (MX3_inner g) Q (0, [some (.ref y), some (.int a0), some (.int a1), none], [], w, 0, 0) := by
  repeat' first
    | with_reducible assumption
    | with_reducible refine And.intro ?_ ?_
    | with_reducible exact vpi6 (by assumption) (by assumption)
    | with_reducible exact vpi8 (by assumption) (by assumption)
    | with_reducible exact trivial
    | with_reducible exact absurd (by assumption) n10'
    | with_reducible exact n00x (by assumption)
    | with_reducible exact hX (by assumption) _ (by assumption)
    | with_reducible exact hX (fun h => absurd h.1 (by assumption)) _ (by assumption)
    | with_reducible exact hX (fun h => absurd h.2 (by assumption)) _ (by assumption)
    | with_reducible exact hS (by assumption) (by assumption) (by assumption) _ (by assumption)
    | with_reducible refine fX3_isNoPair (by assumption) (fun _ w1 h1 => ?_) (fun _ _ _ w1 h1 => ?_) (fun ka kc r e1 w1 h1 => ?_)
    | with_reducible refine go_S (by assumption) (fun _ _ hY => ?_)
    | with_reducible exact MS.gC (by assumption) (by assumption)
    | with_reducible exact MS.gP (by assumption) (by assumption)
    | (simp only [rv0, rv1, rv2, rv3])
    | with_reducible refine sGetK (by assumption) (by assumption) (by assumption) (by assumption) (fun _ hb => ?_)
    | with_reducible exact rowA.ca (by assumption)
    | with_reducible refine gl_A (by assumption) ?_
    | with_reducible exact vpi4.1
    | with_reducible exact vpi4.2.1
    | with_reducible exact vpi4.2.2.1
    | with_reducible exact vpi4.2.2.2
    | with_reducible refine fX3_make (by assumption) (by assumption) (fun hyes w3 h3 => ?_) (fun hno w3 h3 => ?_)
    | with_reducible exact hT ka kc r e1 hyes _ h3
    | with_reducible exact hF ka kc r e1 hno _ h3
    | simp only [eX3_inner_0, eX3_inner_0N, eX3_inner_1, eX3_inner_2, eX3_inner_3, eX3_inner_6, eX3_inner_9, eX3_inner_10, eX3_inner_11, eX3_inner_11N, eX3_inner_12, eX3_inner_15, eX3_inner_16, eX3_inner_19N, eX3_inner_19R, eX3_inner_22, eX3_inner_22N, eX3_inner_23, eX3_inner_23N, eX3_inner_24, eX3_inner_25, eX3_inner_25N, eX3_inner_26, eX3_inner_27, eX3_inner_28, eX3_inner_28N, eX3_inner_29, eX3_inner_30, eX3_inner_31, eX3_inner_31N, eX3_inner_32, eX3_inner_33, eX3_inner_34, eX3_inner_34N, eX3_inner_35, eX3_inner_36, eX3_inner_37, eX3_inner_40, lgp, lgn, lgz, i10, i00, if_true, if_false, eq_self, not_true, not_false_eq_true, m10, n4e, upw2q, rv0, rv1, rv2, rv3, lmi, lmx, ite_le, n45, n54, true_or, or_true, false_or, or_false, false_and, and_false, kx_l, kx_r, go_s, gl_s, gi_s, gb_s2, gb_s3, gq_s, wt_nil, wt_int, wt_long, wt_ref, wt_null, nl_int, nl_long, nl_ref, nl_null, nl_none, rf_n, rf_s, rf_st, tl_s, tl_n, g0, gS, ex1, nb_b, nb_0, nb_1, nf_i, nf_l, nf_ra, nf_ro, nf_na, nf_no, nf_b0, nf_z0, t45_4, t45_5, true_and, and_true, List.set_cons_zero, List.set_cons_succ, List.length_cons, List.length_nil, rd_s, upw_s, ne_eq, not_false_eq_true, Nat.zero_add, Nat.add_zero]
    | with_reducible refine itx (fun _ => ?_) (fun _ => ?_)
    | split
    | with_reducible intro _
    | omega
set_option maxHeartbeats 4000000 in
theorem fX3_shift {a0 a1 : Int32} (hM : MS g w0 y nM kd th s w) (hX : ¬ (okC a0) → ∀ w', MS g w0 y nM kd 1 s w' → Q (.inl (some (.int 0))) w') (hS : okC a0 → s.2.1 a0.toNatClampNeg = none → ∀ w', MS g w0 y nM kd 2 s w' → Q (.inl (some (.int 0))) w') (hT : okC a0 → ∀ r, s.2.1 a0.toNatClampNeg = some r → oP (r.1 + a1.toInt64) (r.2.1 + a1.toInt64) (r.2.2.1 + a1.toInt64) (r.2.2.2 + a1.toInt64) → ∀ w', MS g w0 y nM kd 0 (sMk s a0.toNatClampNeg (r.1 + a1.toInt64, r.2.1 + a1.toInt64, r.2.2.1 + a1.toInt64, r.2.2.2 + a1.toInt64)) w' → Q (.inl (some (.int 1))) w') (hF : okC a0 → ∀ r, s.2.1 a0.toNatClampNeg = some r → ¬ oP (r.1 + a1.toInt64) (r.2.1 + a1.toInt64) (r.2.2.1 + a1.toInt64) (r.2.2.2 + a1.toInt64) → ∀ w', MS g w0 y nM kd 0 (sRf s) w' → Q (.inl (some (.int (-9)))) w') : WP (MX3_shift g) Q (0, [some (.ref y), some (.int a0), some (.int a1), none], [], w, 0, 0) := by
  repeat' first
    | with_reducible assumption
    | with_reducible refine And.intro ?_ ?_
    | with_reducible exact vpi6 (by assumption) (by assumption)
    | with_reducible exact vpi8 (by assumption) (by assumption)
    | with_reducible exact trivial
    | with_reducible exact absurd (by assumption) n10'
    | with_reducible exact n00x (by assumption)
    | with_reducible exact hX (fun h => absurd h (by assumption)) _ (by assumption)
    | with_reducible exact hS (by assumption) (by assumption) _ (by assumption)
    | with_reducible refine fX3_isNone (by assumption) (fun _ w1 h1 => ?_) (fun _ _ w1 h1 => ?_) (fun ka r e1 w1 h1 => ?_)
    | with_reducible refine go_S (by assumption) (fun _ _ hY => ?_)
    | with_reducible exact MS.gC (by assumption) (by assumption)
    | with_reducible exact MS.gP (by assumption) (by assumption)
    | (simp only [rv0, rv1, rv2, rv3])
    | with_reducible refine sGetK (by assumption) (by assumption) (by assumption) (by assumption) (fun _ hb => ?_)
    | with_reducible exact rowA.ca (by assumption)
    | with_reducible refine gl_A (by assumption) ?_
    | with_reducible exact vpi4.1
    | with_reducible exact vpi4.2.1
    | with_reducible exact vpi4.2.2.1
    | with_reducible exact vpi4.2.2.2
    | with_reducible refine fX3_make (by assumption) (by assumption) (fun hyes w3 h3 => ?_) (fun hno w3 h3 => ?_)
    | with_reducible exact hT ka r e1 hyes _ h3
    | with_reducible exact hF ka r e1 hno _ h3
    | simp only [eX3_shift_0, eX3_shift_0N, eX3_shift_1, eX3_shift_2, eX3_shift_5, eX3_shift_8, eX3_shift_9, eX3_shift_10, eX3_shift_10N, eX3_shift_11, eX3_shift_14, eX3_shift_15, eX3_shift_18N, eX3_shift_18R, eX3_shift_21, eX3_shift_21N, eX3_shift_22, eX3_shift_22N, eX3_shift_23, eX3_shift_24, eX3_shift_24N, eX3_shift_25, eX3_shift_26, eX3_shift_27, eX3_shift_28, eX3_shift_29, eX3_shift_30, eX3_shift_30N, eX3_shift_31, eX3_shift_32, eX3_shift_33, eX3_shift_34, eX3_shift_35, eX3_shift_36, eX3_shift_36N, eX3_shift_37, eX3_shift_38, eX3_shift_39, eX3_shift_40, eX3_shift_41, eX3_shift_42, eX3_shift_42N, eX3_shift_43, eX3_shift_44, eX3_shift_45, eX3_shift_46, eX3_shift_47, eX3_shift_48, eX3_shift_51, lgp, lgn, lgz, i10, i00, if_true, if_false, eq_self, not_true, not_false_eq_true, m10, n4e, upw2q, rv0, rv1, rv2, rv3, lmi, lmx, ite_le, n45, n54, true_or, or_true, false_or, or_false, false_and, and_false, kx_l, kx_r, go_s, gl_s, gi_s, gb_s2, gb_s3, gq_s, wt_nil, wt_int, wt_long, wt_ref, wt_null, nl_int, nl_long, nl_ref, nl_null, nl_none, rf_n, rf_s, rf_st, tl_s, tl_n, g0, gS, ex1, nb_b, nb_0, nb_1, nf_i, nf_l, nf_ra, nf_ro, nf_na, nf_no, nf_b0, nf_z0, t45_4, t45_5, true_and, and_true, List.set_cons_zero, List.set_cons_succ, List.length_cons, List.length_nil, rd_s, upw_s, ne_eq, not_false_eq_true, Nat.zero_add, Nat.add_zero]
    | with_reducible refine itx (fun _ => ?_) (fun _ => ?_)
    | split
    | with_reducible intro _
    | omega
set_option maxHeartbeats 4000000 in
theorem fX3_span {a0 a1 a2 : Int32} (hM : MS g w0 y nM kd th s w) (hX : ¬ (okC a0 ∧ okC a1 ∧ okC a2) → ∀ w', MS g w0 y nM kd 1 s w' → Q (.inl (some (.int 0))) w') (hS : okC a0 → okC a1 → okC a2 → (s.2.1 a1.toNatClampNeg = none ∨ s.2.1 a2.toNatClampNeg = none) → ∀ w', MS g w0 y nM kd 2 s w' → Q (.inl (some (.int 0))) w') (hT : okC a0 → okC a1 → okC a2 → ∀ r q, s.2.1 a1.toNatClampNeg = some r → s.2.1 a2.toNatClampNeg = some q → oP r.1 r.2.1 q.2.2.1 q.2.2.2 → ∀ w', MS g w0 y nM kd 0 (sMk s a0.toNatClampNeg (r.1, r.2.1, q.2.2.1, q.2.2.2)) w' → Q (.inl (some (.int 1))) w') (hF : okC a0 → okC a1 → okC a2 → ∀ r q, s.2.1 a1.toNatClampNeg = some r → s.2.1 a2.toNatClampNeg = some q → ¬ oP r.1 r.2.1 q.2.2.1 q.2.2.2 → ∀ w', MS g w0 y nM kd 0 (sRf s) w' → Q (.inl (some (.int (-9)))) w') : WP (MX3_span g) Q (0, [some (.ref y), some (.int a0), some (.int a1), some (.int a2)], [], w, 0, 0) := by
  repeat' first
    | with_reducible assumption
    | with_reducible refine And.intro ?_ ?_
    | with_reducible exact vpi6 (by assumption) (by assumption)
    | with_reducible exact vpi8 (by assumption) (by assumption)
    | with_reducible exact trivial
    | with_reducible exact absurd (by assumption) n10'
    | with_reducible exact n00x (by assumption)
    | with_reducible exact hX (fun h => absurd h.1 (by assumption)) _ (by assumption)
    | with_reducible exact hX (fun h => absurd h.2.1 (by assumption)) _ (by assumption)
    | with_reducible exact hX (fun h => absurd h.2.2 (by assumption)) _ (by assumption)
    | with_reducible exact hS (by assumption) (by assumption) (by assumption) (Or.inl (by assumption)) _ (by assumption)
    | with_reducible exact hS (by assumption) (by assumption) (by assumption) (Or.inr (by assumption)) _ (by assumption)
    | with_reducible refine fX3_isNoCard (fun _ => ?_) (fun _ => ?_)
    | with_reducible refine fX3_start (by assumption) (by decide) (fun _ w1 h1 => ?_) (fun _ w1 h1 => ?_)
    | with_reducible refine fX3_refuse (by assumption) (by decide) (fun _ => ?_) (fun _ w2 h2 => ?_)
    | with_reducible refine go_S (by assumption) (fun _ _ hY => ?_)
    | with_reducible refine fX3_isBare (by assumption) (by assumption) (fun _ => ?_) (fun _ _ => ?_)
    | with_reducible exact MS.gC (by assumption) (by assumption)
    | with_reducible exact MS.gP (by assumption) (by assumption)
    | (simp only [rv0, rv1, rv2, rv3])
    | with_reducible refine sGetK (by assumption) (by assumption) (by assumption) (by assumption) (fun _ hb => ?_)
    | with_reducible exact rowA.ca (by assumption)
    | with_reducible refine gl_A (by assumption) ?_
    | with_reducible exact vpi4.1
    | with_reducible exact vpi4.2.1
    | with_reducible exact vpi4.2.2.1
    | with_reducible exact vpi4.2.2.2
    | with_reducible refine fX3_make (by assumption) (by assumption) (fun hyes w3 h3 => ?_) (fun hno w3 h3 => ?_)
    | with_reducible exact hT (by assumption) (by assumption) (by assumption) _ _ (by assumption) (by assumption) hyes _ h3
    | with_reducible exact hF (by assumption) (by assumption) (by assumption) _ _ (by assumption) (by assumption) hno _ h3
    | simp only [eX3_span_0, eX3_span_0N, eX3_span_1, eX3_span_2, eX3_span_5, eX3_span_8, eX3_span_9, eX3_span_12, eX3_span_15, eX3_span_16, eX3_span_19, eX3_span_22, eX3_span_23, eX3_span_26, eX3_span_27, eX3_span_28, eX3_span_31, eX3_span_34, eX3_span_34N, eX3_span_35, eX3_span_35N, eX3_span_36, eX3_span_37, eX3_span_40, eX3_span_43, eX3_span_43N, eX3_span_44, eX3_span_45, eX3_span_48, eX3_span_51, eX3_span_52, eX3_span_55, eX3_span_56, eX3_span_57, eX3_span_60, eX3_span_63, eX3_span_64, eX3_span_65, eX3_span_65N, eX3_span_66, eX3_span_67, eX3_span_67N, eX3_span_68, eX3_span_71, eX3_span_72, eX3_span_75N, eX3_span_75R, eX3_span_78, eX3_span_79, eX3_span_80, eX3_span_80N, eX3_span_81, eX3_span_84, eX3_span_85, eX3_span_88N, eX3_span_88R, eX3_span_91, eX3_span_92, eX3_span_93, eX3_span_93N, eX3_span_94, eX3_span_97, eX3_span_98, eX3_span_101N, eX3_span_101R, eX3_span_104, eX3_span_105, eX3_span_106, eX3_span_106N, eX3_span_107, eX3_span_110, eX3_span_111, eX3_span_114N, eX3_span_114R, eX3_span_117, eX3_span_118, eX3_span_119, eX3_span_122, lgp, lgn, lgz, i10, i00, if_true, if_false, eq_self, not_true, not_false_eq_true, m10, n4e, upw2q, rv0, rv1, rv2, rv3, lmi, lmx, ite_le, n45, n54, true_or, or_true, false_or, or_false, false_and, and_false, kx_l, kx_r, go_s, gl_s, gi_s, gb_s2, gb_s3, gq_s, wt_nil, wt_int, wt_long, wt_ref, wt_null, nl_int, nl_long, nl_ref, nl_null, nl_none, rf_n, rf_s, rf_st, tl_s, tl_n, g0, gS, ex1, nb_b, nb_0, nb_1, nf_i, nf_l, nf_ra, nf_ro, nf_na, nf_no, nf_b0, nf_z0, t45_4, t45_5, true_and, and_true, List.set_cons_zero, List.set_cons_succ, List.length_cons, List.length_nil, rd_s, upw_s, ne_eq, not_false_eq_true, Nat.zero_add, Nat.add_zero]
    | with_reducible refine itx (fun _ => ?_) (fun _ => ?_)
    | split
    | with_reducible intro _
    | omega
end
end
