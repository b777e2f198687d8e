section
section
variable {g : RO} {Q : Ot → Hw → Prop} {w0 w : Hw} {x nA cA lA : Nat} {kn : Int32}
/-- the class stands in some state whose ranges are in order -/
def CO (g : RO) (w0 : Hw) (x nA cA lA : Nat) (kn : Int32) (w : Hw) : Prop := ∃ s, sOk s ∧ CS g w0 x nA cA lA kn s w
theorem CO.cc (h : CO g w0 x nA cA lA kn w) : CC g w0 x nA cA lA kn w := by
  obtain ⟨s, -, h⟩ := h
  exact h.cc
theorem CO.ext {w' : Hw} (h : CO g w0 x nA cA lA kn w) (k : ext g w w') : CO g w0 x nA cA lA kn w' := by
  obtain ⟨s, ho, h⟩ := h
  exact ⟨s, ho, h.ext k⟩
theorem CO.mk {s : AS} (h : CS g w0 x nA cA lA kn s w) (ho : sOk s) : CO g w0 x nA cA lA kn w := ⟨s, ho, h⟩
theorem sOk.c' {s : AS} {a : Int32} {r : R4} (h : sOk s) (e : s.2.1 a.toNatClampNeg = some r) (k : okC a) : rOk r := h.c k e
theorem sOk.p' {s : AS} {a : Int32} (h : sOk s) (k : okP s.2.2.1 a) : rOk (s.2.2.2.1 a.toNatClampNeg) := h.2.1 _ (plB k)
theorem sOk.num {s : AS} {f : Nat → Int64} (h : sOk s) : sOk (sN s f) := h
theorem sOk.rf {s : AS} (h : sOk s) : sOk (sRf s) := h
theorem sOk.card {s : AS} {j : Nat} {r : R4} (h : sOk s) (hr : rOk r) : sOk (sC s (va_up s.2.1 j (some r))) := by
  refine ⟨fun i q hi e => ?_, h.2⟩
  have e' : va_up s.2.1 j (some r) i = some q := e
  unfold va_up at e'
  by_cases k : i = j
  · rw [if_pos k] at e'
    cases e'
    exact hr
  · rw [if_neg k] at e'
    exact h.1 i q hi e'
theorem sOk.card0 {s : AS} {j : Nat} (h : sOk s) : sOk (sC s (va_up s.2.1 j none)) := by
  refine ⟨fun i q hi e => ?_, h.2⟩
  have e' : va_up s.2.1 j none i = some q := e
  unfold va_up at e'
  by_cases k : i = j
  · rw [if_pos k] at e'
    cases e'
  · rw [if_neg k] at e'
    exact h.1 i q hi e'
theorem sOk.mk {s : AS} {j : Nat} {r : R4} (h : sOk s) (hr : rOk r) : sOk (sMk s j r) := h.card hr
theorem sOk.mkO {s : AS} {j : Nat} {a : Int32} {r : R4} (h : sOk s) (e : s.2.1 a.toNatClampNeg = some r) (k : okC a) : sOk (sMk s j (r.1, r.1, r.2.2.2, r.2.2.2)) := h.mk (oOut (r := r) (h.c k e))
theorem sOk.lay {s : AS} {r : R4} (h : sOk s) (hr : rOk r) (h11 : s.2.2.1 < 12) : sOk (sP_ s (s.2.2.1 + 1) (va_up s.2.2.2.1 s.2.2.1.toNatClampNeg r)) := by
  have q0 := i32_0 h.2.2.1
  have q1 := i32_lt h11
  have z : (12 : Int32).toInt = 12 := rfl
  have e1 : (s.2.2.1 + 1).toInt = s.2.2.1.toInt + 1 := i32p1 q0 (by omega)
  have t : s.2.2.1.toNatClampNeg = s.2.2.1.toInt.toNat := rfl
  refine ⟨h.1, fun i hi => ?_, i32_of_nlt (by show (0 : Int) ≤ (s.2.2.1 + 1).toInt; omega), i32_of_nlt (by show (s.2.2.1 + 1).toInt ≤ (12 : Int); omega)⟩
  have hi2 : (i : Int) < (s.2.2.1 + 1).toInt := hi
  show rOk (va_up s.2.2.2.1 s.2.2.1.toNatClampNeg r i)
  unfold va_up
  by_cases e : i = s.2.2.1.toNatClampNeg
  · rw [if_pos e]
    exact hr
  · rw [if_neg e]
    exact h.2.1 i (by omega)
theorem sOk.gap {s : AS} {p : Nat} (h : sOk s) (hp : p < s.2.2.1.toInt.toNat) : sOk (sP_ s (s.2.2.1 - 1) (rmv s.2.2.2.1 p)) := by
  have h0 := n0p hp
  have e1 := cg_sub h0
  refine ⟨h.1, fun i hi => ?_, cg3 h0, cg4 h0 h.2.2.2⟩
  have hi2 : (i : Int) < (s.2.2.1 - 1).toInt := hi
  show rOk (rmv s.2.2.2.1 p i)
  unfold rmv
  by_cases e : i < p
  · rw [if_pos e]
    exact h.2.1 i (by omega)
  · rw [if_neg e]
    exact h.2.1 (i + 1) (by omega)
theorem sOk.tur {s : AS} (h : sOk s) : sOk (sP_ s s.2.2.1 (rev s.2.2.2.1 s.2.2.1.toInt.toNat)) := by
  refine ⟨h.1, fun i hi => ?_, h.2.2⟩
  have hi2 : (i : Int) < s.2.2.1.toInt := hi
  exact h.2.1 (s.2.2.1.toInt.toNat - 1 - i) (by omega)
theorem sOk.zero {s : AS} {F : Nat → R4} (h : sOk s) : sOk (sP_ s 0 F) := by
  refine ⟨h.1, fun i hi => ?_, show ¬ (0 : Int32) < 0 by decide, show ¬ (12 : Int32) < 0 by decide⟩
  have hi2 : (i : Int) < (0 : Int32).toInt := hi
  have e0 : (0 : Int32).toInt = 0 := rfl
  omega
end
end
