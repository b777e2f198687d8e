section
section
variable {g : RO} {Q : Ot → Hw → Prop} {w0 w : Hw}
variable {y nM : Nat} {kd : Int32}
theorem sGetC {L D cap b : Nat} {i : Int32} {h : Nat → Option Nat} (hl : LL g w L D cap 6 h) (hv : h i.toNatClampNeg = some b) (k0 : ¬ i < 0) (k1 : ¬ 5 < i) (hQ : Q (.inl (some (.ref b))) w) : WP (MJx4a65c_get_915e3 g) Q (0, [some (.ref L), some (.int i)], [], w, 0, 0) := sJx4a65c_get hl (i32_0 k0) (lt6 k1) (fun e => by
  rw [hv] at e
  cases e) (fun c e => by
  rw [hv] at e
  cases e
  exact hQ)
theorem LL.gt {L D cap : Nat} {n : Int32} {h : Nat → Option Nat} (hl : LL g w L D cap n h) : go (rd g w L) 3 fun _ => True := by
  obtain ⟨mc, hL, rL, -⟩ := hl.opn
  rw [rL, go_s]
  trivial
theorem isRow.ca {b : Nat} (h : isRow w b) : ∃ x, w b = some (.inl (0, x)) := by
  obtain ⟨f, h⟩ := h
  exact ⟨_, h⟩
end
end
