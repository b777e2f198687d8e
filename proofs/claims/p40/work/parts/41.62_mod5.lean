section
section
variable {g : RO} {Q : Ot → Hw → Prop} {w0 w : Hw}
variable {y nM : Nat} {kd : Int32}
theorem sX3_isBareM {a : Int32} (hM : MM g w0 y nM kd w) (k0 : ¬ a < 0) (k1 : ¬ 5 < a) (h1 : Q (.inl (some (.int 1))) w) (h0 : ∀ b, CAt g w y a (some b) → Q (.inl (some (.int 0))) w) : WP (MX3_isBare g) Q (0, [some (.ref y), some (.int a)], [], w, 0, 0) := by
  obtain ⟨v, hv⟩ := CAt.ofM (i := a) hM
  exact sX3_isBare hv k0 k1 (fun _ => h1) (fun b e => h0 b (e ▸ hv))
end
end
