section
section
variable {g : RO} {Q : Ot → Hw → Prop} {w0 w : Hw}
variable {y nM : Nat} {kd : Int32}
theorem DG.fm (h : DG g w0) (hM : MM g w0 y nM kd w) : DG g w := ⟨h.1, h.2.1.imp fun a z => z.imp fun f z => ⟨z.1, z.2.1, hM.2.2 _ _ z.2.1 z.2.2⟩, h.2.2.imp fun a z => z.imp fun f z => ⟨z.1, z.2.1, hM.2.2 _ _ z.2.1 z.2.2⟩⟩
theorem STO.fm {s : Nat} (h : STO g w0 s) (hM : MM g w0 y nM kd w) : STO g w s := by
  obtain ⟨v, M, f, h1, z, a, b, c, d, e⟩ := h
  exact ⟨v, M, f, h1, z, a, hM.2.2 _ _ a b, c, hM.2.2 _ _ c d, e⟩
theorem TS.g1 {b d N : Nat} {c : Int32} (hT : TS g w0 b d N c w) : go (rd g w b) 1 fun _ => True := by
  obtain ⟨_, _, hb2, _, _, _, _, rb2, _⟩ := hT.opn g
  rw [rb2, go_s]
  trivial
theorem MM.ts {b d N : Nat} {c : Int32} {w1 : Hw} (hT : TS g w1 b d N c w) (hM : MM g w0 y nM kd w1) : MM g w0 y nM kd w := hM.ext' hT.1
theorem TS.row {b d N p : Nat} {c : Int32} {w1 : Hw} (hT : TS g w1 b d N c w) (h : isRow w1 p) : isRow w p := h.ext hT.1
/-- the model's own texts -/
def TXT (g : RO) (w : Hw) : Prop := (∃ s, g.1 21 = .ref s ∧ STO g w s ∧ STB g s 0) ∧ (∃ s, g.1 22 = .ref s) ∧ ∃ s, g.1 23 = .ref s ∧ STO g w s ∧ STB g s 1
end
end
