section
section
variable {g : RO} {Q : Ot → Hw → Prop} {w0 w : Hw}
variable {y nM : Nat} {kd : Int32}
theorem sX3_seekNowM {a c : Int32} {b : Nat} (hM : MM g w0 y nM kd w) (hC : CAt g w y a (some b)) (k0 : ¬ a < 0) (k1 : ¬ 5 < a) (hQ : ∀ n v : Int32, PN g w y n → (v = -1 ∨ (¬ v < 0 ∧ v < n)) → Q (.inl (some (.int v))) w) : WP (MX3_seekNow g) Q (0, [some (.ref y), some (.int a), some (.int c), none, none], [], w, 0, 0) := by
  obtain ⟨n, hP⟩ := PN.ofM hM
  exact sX3_seekNow hM hC k0 k1 hP (fun v hv => hQ n v hP hv)
end
end
