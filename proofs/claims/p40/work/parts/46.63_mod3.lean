section
section
variable {g : RO} {Q : Ot → Hw → Prop} {w0 w : Hw}
variable {y nM : Nat} {kd : Int32}
theorem MM.st (h : MM g w0 y nM kd w) : MM g w y nM kd w := ⟨h.1, FM.rf⟩
theorem MM.cat {kd' : Int32} {w' : Hw} (h : MM g w0 y nM kd w) (k : MM g w y nM kd' w') : MM g w0 y nM kd' w' := ⟨k.1, h.2.tr k.2⟩
theorem MM.row {kd' : Int32} {w' : Hw} {b : Nat} (h : MM g w0 y nM kd w) (k : MM g w y nM kd' w') (hb : isRow w b) : isRow w' b := by
  obtain ⟨cL, pL, D1, D2, c1, c2, th, rf, md, n, f, h1, h2, a1, a2, -⟩ := h.1
  obtain ⟨f0, hb⟩ := hb
  exact ⟨f0, k.2.1 _ _ hb (ne_of hb a2 (fun e => by cases e)) rfl⟩
end
end
