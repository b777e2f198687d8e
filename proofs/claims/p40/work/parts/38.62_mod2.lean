section
section
variable {g : RO} {Q : Ot → Hw → Prop} {w0 w : Hw}
variable {y nM : Nat} {kd : Int32}
theorem MMz.m (h : MMz g w0 y nM kd w) : MM g w0 y nM kd w := h.1
theorem gl_M {K : Nat → (Nat → Int64) → Prop} (h : MM g w0 y nM kd w) (k : ∀ f, K 8 f) : gl (rd g w nM) 0 K := by
  obtain ⟨cL, pL, D1, D2, c1, c2, th, rf, md, n, f, h1, h2, hy, hn, ry, rn, -⟩ := h.1.opn g
  rw [rn, gl_s]
  exact k _
theorem vpi8n {a : Int32} (h0 : ¬ a < 0) (h1 : ¬ 7 < a) : vp_in a 8 := vpiM (i32_0 h0) (by
  have h := i32_nlt h1
  have e : (7 : Int32).toInt = 7 := rfl
  omega)
theorem vpi6n {a : Int32} (h0 : ¬ a < 0) (h1 : ¬ 5 < a) : vp_in a 6 := vpiM (i32_0 h0) (by
  have h := i32_nlt h1
  have e : (5 : Int32).toInt = 5 := rfl
  omega)
theorem ite_cs {c : Prop} [Decidable c] {A B : Prop} (h1 : A) (h2 : B) : if c then A else B := by split <;> assumption
theorem n4g : (¬ (4294967296 : Int64) = 0) := by decide
theorem n4a : ¬ (4 : Int32) < 0 := by decide
theorem n10' : ¬ (1 : Int32) = 0 := by decide
set_option maxHeartbeats 4000000 in
theorem sX3_high {a : Int64} (hQ : ∀ v : Int32, Q (.inl (some (.int v))) w) : WP (MX3_high g) Q (0, [some (.long a), none], [], w, 0, 0) := by
  simp only [eX3_high_0, eX3_high_6, eX3_high_14, eX3_high_19]
  with_reducible refine And.intro ?_ ?_
  with_reducible exact n4g
  with_reducible refine And.intro ?_ ?_
  with_reducible exact n4g
  with_reducible refine And.intro ?_ ?_
  with_reducible exact n4g
  with_reducible refine And.intro ?_ ?_
  omega
  with_reducible refine And.intro ?_ ?_
  omega
  with_reducible exact hQ _
set_option maxHeartbeats 4000000 in
theorem sX3_low {a : Int64} (hQ : ∀ v : Int32, Q (.inl (some (.int v))) w) : WP (MX3_low g) Q (0, [some (.long a), none, none, none], [], w, 0, 0) := by
  simp only [eX3_low_0, eX3_low_5, eX3_low_13, eX3_low_22, eX3_low_30, eX3_low_31, ite_le, nl_none]
  with_reducible refine And.intro ?_ ?_
  with_reducible exact n4g
  with_reducible refine And.intro ?_ ?_
  with_reducible exact n4g
  with_reducible refine ite_cs ?_ ?_
  with_reducible refine And.intro ?_ ?_
  omega
  with_reducible refine And.intro ?_ ?_
  omega
  with_reducible exact hQ _
  with_reducible refine And.intro ?_ ?_
  omega
  with_reducible refine And.intro ?_ ?_
  omega
  with_reducible exact hQ _
set_option maxHeartbeats 4000000 in
theorem sX3_one {a : Int32} (hQ : ∀ v : Int32, Q (.inl (some (.int v))) w) : WP (MX3_one g) Q (0, [some (.int a)], [], w, 0, 0) := by
  simp only [eX3_one_0, eX3_one_4, eX3_one_8, eX3_one_9]
  with_reducible refine ite_cs ?_ ?_
  with_reducible refine And.intro ?_ ?_
  omega
  with_reducible refine And.intro ?_ ?_
  omega
  with_reducible exact hQ _
  with_reducible refine And.intro ?_ ?_
  omega
  with_reducible refine And.intro ?_ ?_
  omega
  with_reducible exact hQ _
end
end
