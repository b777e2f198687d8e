section
section
variable {g : RO} {Q : Ot → Hw → Prop} {w0 w : Hw} {y nM : Nat} {kd th : Int32} {s : AS}
set_option maxHeartbeats 4000000 in
theorem gX3_digest  (hM : MS g w0 y nM kd th s w) (hQ : ∀ (v : Int64) (th' : Int32) w', MS g w0 y nM kd th' s w' → Q (.inl (some (.long v))) w') : WP (MX3_digest g) Q (0, [some (.ref y), none, none, none, none, none], [], w, 0, 0) := by
  obtain ⟨cL, pL, hy, ry⟩ := hM.1.op
  obtain ⟨w1, hw1⟩ : ∃ w1, upw w y (.inr (7, [.int 0, .ref nM, .ref cL, .ref pL, .int s.2.2.2.2.1, .int kd, .int s.2.2.2.2.2])) = w1 := ⟨_, rfl⟩
  have hM1 : MS g w0 y nM kd 0 s w1 := by
    rw [← hw1]
    exact hM.set hy
  have hy1 : w1 y = some (.inr (7, [.int 0, .ref nM, .ref cL, .ref pL, .int s.2.2.2.2.1, .int kd, .int s.2.2.2.2.2])) := by
    rw [← hw1]
    exact upw_s _ _ _
  simp only [eX3_digest_0, eX3_digest_5, hy, hw1, go_s, nl_ref, nl_none, nf_i, true_and, List.set_cons_zero, List.length_cons, List.length_nil, Nat.zero_add]
  with_reducible refine And.intro ?_ ?_
  omega
  (exact elX3_digest_11 hM1.mm (fun v w2 hk => hQ v 0 w2 (hM1.ext hk)) 70 _ _ _ _ _ _ _ (by decide) ext.rf (by decide) (by decide) (by decide) (by decide))
end
end
