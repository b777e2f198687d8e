section
section
variable {g : RO} {Q : Ot → Hw → Prop} {w0 w : Hw} {x nA cA lA : Nat} {kn : Int32}
def RFO (w : Hw) (x nA cA lA : Nat) (kn : Int32) : Prop := ∃ s, sOk s ∧ RF w x nA cA lA kn s
theorem RFO.rc (h : RFO w x nA cA lA kn) : RC w x nA cA lA kn := by
  obtain ⟨s, -, h⟩ := h
  exact h.rc
theorem z32 {i : Nat} (h : (i : Int) < (0 : Int32).toInt) : False := by
  have e0 : (0 : Int32).toInt = 0 := rfl
  omega
abbrev S00 : AS := (fun _ => 0, fun _ => none, 0, fun _ => (0, 0, 0, 0), 0, 0)
theorem S00_n {i : Nat} {r : R4} (e : S00.2.1 i = some r) : False := by
  have e' : (none : Option R4) = some r := e
  cases e'
theorem S00_ok : sOk S00 := ⟨fun i r hi e => (S00_n e).elim, fun i hi => (z32 hi).elim, show ¬ (0 : Int32) < 0 by decide, show ¬ (12 : Int32) < 0 by decide⟩
end
end
