section
section
variable {g : RO} {Q : Ot → Hw → Prop} {w0 w : Hw}
variable {y nM : Nat} {kd : Int32}
/-- what the making leaves alone -/
def FI (g : RO) (y : Nat) (w w' : Hw) : Prop := (∀ (a : Nat) (o : Ob), w a = some o → a ≠ y → w' a = some o) ∧ ∀ (a : Nat) (o : Ob), g.2 a = some o → w a = none → w' a = none
theorem FI.ext {y : Nat} {w1 w' : Hw} (h : FI g y w w1) (k : ext g w1 w') : FI g y w w' := ⟨fun a o e n => k.1 _ _ (h.1 a o e n), fun a o e n => k.2 a o e (h.2 a o e n)⟩
theorem FI.up {y : Nat} {w1 : Hw} {o1 o : Ob} (h : FI g y w w1) (hy : w1 y = some o1) : FI g y w (upw w1 y o) := ⟨fun a o e n => by
    rw [upw_n n]
    exact h.1 a o e n, fun a o e n => by
    rw [upw_n]
    · exact h.2 a o e n
    · rintro rfl
      have := h.2 a o e n
      rw [hy] at this
      cases this⟩
theorem FI.eg {y : Nat} {w1 : Hw} (h : FI g y w w1) (hE : EG g w) : EG g w1 := ⟨hE.1.imp fun e z => ⟨z.1, z.2.1, h.2 e _ z.2.1 z.2.2⟩, hE.2⟩
theorem lt66 : ((6 : Int32) < 6) = False := eq_false (by decide)
theorem n8e : (8 : Int32).toNatClampNeg = 8 := rfl
theorem n8a : ¬ (8 : Int32) < 0 := by decide
theorem FI.rf {y : Nat} : FI g y w w := ⟨fun _ _ h _ => h, fun _ _ _ h => h⟩
end
end
