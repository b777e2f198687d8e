section
section
variable {g : RO} {Q : Ot → Hw → Prop} {w0 w : Hw}
/-- a builder: its row of bytes d has N places, c are taken -/
def SBo (w : Hw) (b d N : Nat) (c : Int32) : Prop := ∃ (ml : Int32) (f : Nat → Int32), w b = some (.inr (1, [.ref d, .int 0, .int ml, .int c])) ∧ w d = some (.inl (2, N, .inl f)) ∧ bOK N f ∧ 0 ≤ c.toInt ∧ c.toInt ≤ (N : Int)
/-- .. made since w0 -/
def TS (g : RO) (w0 : Hw) (b d N : Nat) (c : Int32) (w : Hw) : Prop := ext g w0 w ∧ (w0 b = none ∧ w0 d = none ∧ g.2 b = none ∧ g.2 d = none) ∧ SBo w b d N c
theorem ext.own {g : RO} {w0 w : Hw} {a : Nat} {o : Ob} (h : ext g w0 w) (h1 : w0 a = none) (h2 : g.2 a = none) : ext g w0 (upw w a o) := by
  refine ⟨fun q o' z => ?_, fun q o' z1 z2 => ?_⟩
  · rw [upw_n]
    · exact h.1 q o' z
    · rintro rfl
      rw [h1] at z
      cases z
  · rw [upw_n]
    · exact h.2 q o' z1 z2
    · rintro rfl
      rw [h2] at z1
      cases z1
theorem TS.opn {w0 w : Hw} {b d N : Nat} {c : Int32} (g : RO) (h : TS g w0 b d N c w) : ∃ (ml : Int32) (f : Nat → Int32), w b = some (.inr (1, [.ref d, .int 0, .int ml, .int c])) ∧ w d = some (.inl (2, N, .inl f)) ∧ bOK N f ∧ 0 ≤ c.toInt ∧ c.toInt ≤ (N : Int) ∧ rd g w b = some (.inr (1, [.ref d, .int 0, .int ml, .int c])) ∧ rd g w d = some (.inl (2, N, .inl f)) ∧ b ≠ d ∧ d ≠ b := by
  obtain ⟨-, -, ml, f, h1, h2, h3, h4, h5⟩ := h
  have hne : b ≠ d := fun e => by
    rw [e, h2] at h1
    cases h1
  exact ⟨ml, f, h1, h2, h3, h4, h5, rd_e h1, rd_e h2, hne, hne.symm⟩
/-- bytes written, the count set -/
theorem TS.fin {w0 w : Hw} {b d N : Nat} {c c' ml : Int32} {f' : Nat → Int32} (h : TS g w0 b d N c w) (hf : bOK N f') (h0 : 0 ≤ c'.toInt) (h1 : c'.toInt ≤ (N : Int)) : TS g w0 b d N c' (upw (upw w d (.inl (2, N, .inl f'))) b (.inr (1, [.ref d, .int 0, .int ml, .int c']))) := by
  obtain ⟨-, -, -, -, -, -, -, -, -, n1, n2⟩ := h.opn g
  exact ⟨(h.1.own h.2.1.2.1 h.2.1.2.2.2).own h.2.1.1 h.2.1.2.2.1, h.2.1, ml, f', upw_s _ _ _, by rw [upw_n n2]; exact upw_s _ _ _, hf, h0, h1⟩
/-- the count set, then bytes written -/
theorem TS.fin2 {w0 w : Hw} {b d N : Nat} {c c' ml : Int32} {f' : Nat → Int32} (h : TS g w0 b d N c w) (hf : bOK N f') (h0 : 0 ≤ c'.toInt) (h1 : c'.toInt ≤ (N : Int)) : TS g w0 b d N c' (upw (upw w b (.inr (1, [.ref d, .int 0, .int ml, .int c']))) d (.inl (2, N, .inl f'))) := by
  obtain ⟨-, -, -, -, -, -, -, -, -, n1, n2⟩ := h.opn g
  exact ⟨(h.1.own h.2.1.1 h.2.1.2.2.1).own h.2.1.2.1 h.2.1.2.2.2, h.2.1, ml, f', by rw [upw_n n1]; exact upw_s _ _ _, upw_s _ _ _, hf, h0, h1⟩
/-- a wider row of bytes -/
theorem TS.wide {w0 w : Hw} {b d N N' q : Nat} {c ml : Int32} {f' : Nat → Int32} (h : TS g w0 b d N c w) (hq : rd g w q = none) (hf : bOK N' f') (h1 : c.toInt ≤ (N' : Int)) : TS g w0 b q N' c (upw (upw w q (.inl (2, N', .inl f'))) b (.inr (1, [.ref q, .int 0, .int ml, .int c]))) := by
  obtain ⟨ml0, f0, e1, -, -, h0, -, -, -, n1, n2⟩ := h.opn g
  have hqn := rd_none hq
  have hqw : w0 q = none := by
    cases hz : w0 q with
    | none => rfl
    | some o =>
      have := h.1.1 q o hz
      rw [hqn] at this
      cases this
  have hqb : q ≠ b := fun e => by
    rw [e, e1] at hqn
    cases hqn
  exact ⟨(h.1.own hqw (rd_ro hq)).own h.2.1.1 h.2.1.2.2.1, ⟨h.2.1.1, hqw, h.2.1.2.2.1, rd_ro hq⟩, ml, f', upw_s _ _ _, by rw [upw_n hqb]; exact upw_s _ _ _, hf, h0, h1⟩
theorem sbCap_v {w : Hw} {b d N : Nat} {c ml : Int32} {f : Nat → Int32} (h1 : w b = some (.inr (1, [.ref d, .int 0, .int ml, .int c]))) (h2 : w d = some (.inl (2, N, .inl f))) : sbCap w b = N := by
  simp only [sbCap, h1, h2]
theorem sbCnt_v {w : Hw} {b d : Nat} {c ml : Int32} (h1 : w b = some (.inr (1, [.ref d, .int 0, .int ml, .int c]))) : sbCnt w b = c := by
  simp only [sbCnt, h1]
theorem kfE_v {w : Hw} {b : Nat} {m : Int32} : kfE [.ref b, .int m] w = if sbCap w b < m.toNatClampNeg then 1 else 0 := rfl
theorem sfE_v {w : Hw} {b : Nat} {m : Int32} : sfE [.ref b, .int m] w = if sbCap w b < m.toNatClampNeg then max m.toNatClampNeg (2 * sbCap w b + 2) else 0 := rfl
theorem kfI_v {w : Hw} {b : Nat} {m : Int32} : kfI [.ref b, .int m] w = kfE [.ref b, .int (sbCnt w b + 1)] w := rfl
theorem sfI_v {w : Hw} {b : Nat} {m : Int32} : sfI [.ref b, .int m] w = sfE [.ref b, .int (sbCnt w b + 1)] w := rfl
theorem kfG_v {w : Hw} {a : Nat} {v : Int32} : kfG [.ref a, .int v] w = 1 := rfl
theorem sfC_v {w : Hw} {a : Nat} {v : Int32} : sfC [.ref a, .int v] w = v.toNatClampNeg := rfl
set_option maxHeartbeats 4000000 in
theorem sJ5_ensureCapacityInternal_d00df {mc ms : Nat} {b d N : Nat} {c m : Int32} (hS : SG g) (hT : TS g w0 b d N c w) (hN : N ≤ 1000) (h0 : 0 ≤ m.toInt) (h2 : m.toInt ≤ 2000) (hmc : (N : Int) < m.toInt → 1 ≤ mc ∧ max m.toInt (2 * (N : Int) + 2) ≤ (ms : Int)) (hQ1 : m.toInt ≤ (N : Int) → Q (.inl none) w) (hQ2 : ∀ (d' N' : Nat) (w' : Hw), (N : Int) < m.toInt → (N' : Int) = max m.toInt (2 * (N : Int) + 2) → TS g w0 b d' N' c w' → Q (.inl none) w') : WP (MJ5_ensureCapacityInternal_d00df g mc ms) Q (0, [some (.ref b), some (.int m), none], [], w, 0, 0) := by
  obtain ⟨ml, f, hb, hd, hf, hc0, hc1, rb, rdd, n1, n2⟩ := hT.opn g
  have e := ofN (N := N) (by omega)
  have s1 : (m - Int32.ofNat N).toInt = m.toInt - N := by rw [i32_sub (by omega) (by omega), e]
  have z0 : (0 : Int32).toInt = 0 := rfl
  simp only [eJ5_ensureCapacityInternal_d00df_0, eJ5_ensureCapacityInternal_d00df_0N, eJ5_ensureCapacityInternal_d00df_1, eJ5_ensureCapacityInternal_d00df_4, eJ5_ensureCapacityInternal_d00df_5, eJ5_ensureCapacityInternal_d00df_5N, eJ5_ensureCapacityInternal_d00df_6, eJ5_ensureCapacityInternal_d00df_9, eJ5_ensureCapacityInternal_d00df_10, eJ5_ensureCapacityInternal_d00df_11, eJ5_ensureCapacityInternal_d00df_12, eJ5_ensureCapacityInternal_d00df_13, eJ5_ensureCapacityInternal_d00df_14, eJ5_ensureCapacityInternal_d00df_17, eJ5_ensureCapacityInternal_d00df_17N, eJ5_ensureCapacityInternal_d00df_18, eJ5_ensureCapacityInternal_d00df_18N, eJ5_ensureCapacityInternal_d00df_19, eJ5_ensureCapacityInternal_d00df_22, eJ5_ensureCapacityInternal_d00df_22N, eJ5_ensureCapacityInternal_d00df_23, eJ5_ensureCapacityInternal_d00df_24, eJ5_ensureCapacityInternal_d00df_27, eJ5_ensureCapacityInternal_d00df_27N, eJ5_ensureCapacityInternal_d00df_28, eJ5_ensureCapacityInternal_d00df_31, eJ5_ensureCapacityInternal_d00df_32R, eJ5_ensureCapacityInternal_d00df_32N, eJ5_ensureCapacityInternal_d00df_35, eJ5_ensureCapacityInternal_d00df_38, ite_le, n45, n54, true_or, or_true, false_or, or_false, false_and, and_false, kx_l, kx_r, go_s, gl_s, gi_s, gb_s2, gb_s3, gq_s, wt_nil, wt_int, wt_long, wt_ref, wt_null, nl_int, nl_long, nl_ref, nl_null, nl_none, rf_n, rf_s, rf_st, tl_s, tl_n, g0, gS, ex1, nb_b, nb_0, nb_1, nf_i, nf_l, nf_ra, nf_ro, nf_na, nf_no, nf_b0, nf_z0, t45_4, t45_5, true_and, and_true, List.set_cons_zero, List.set_cons_succ, List.length_cons, List.length_nil, rd_s, upw_s, ne_eq, not_false_eq_true, Nat.zero_add, Nat.add_zero, if_true, if_false, rb, rdd, exal, al26, shr0]
  split
  · next hlt =>
    have hlt := i32_lt hlt
    obtain ⟨m1, m2⟩ := hmc (by omega)
    repeat' first | with_reducible refine And.intro ?_ ?_ | omega
    all_goals try exact trivial
    refine sJ5_newCapacity_0f7a4 hS rb rdd hN (by omega) h2 fun v hv => ?_
    simp only [eJ5_ensureCapacityInternal_d00df_0, eJ5_ensureCapacityInternal_d00df_0N, eJ5_ensureCapacityInternal_d00df_1, eJ5_ensureCapacityInternal_d00df_4, eJ5_ensureCapacityInternal_d00df_5, eJ5_ensureCapacityInternal_d00df_5N, eJ5_ensureCapacityInternal_d00df_6, eJ5_ensureCapacityInternal_d00df_9, eJ5_ensureCapacityInternal_d00df_10, eJ5_ensureCapacityInternal_d00df_11, eJ5_ensureCapacityInternal_d00df_12, eJ5_ensureCapacityInternal_d00df_13, eJ5_ensureCapacityInternal_d00df_14, eJ5_ensureCapacityInternal_d00df_17, eJ5_ensureCapacityInternal_d00df_17N, eJ5_ensureCapacityInternal_d00df_18, eJ5_ensureCapacityInternal_d00df_18N, eJ5_ensureCapacityInternal_d00df_19, eJ5_ensureCapacityInternal_d00df_22, eJ5_ensureCapacityInternal_d00df_22N, eJ5_ensureCapacityInternal_d00df_23, eJ5_ensureCapacityInternal_d00df_24, eJ5_ensureCapacityInternal_d00df_27, eJ5_ensureCapacityInternal_d00df_27N, eJ5_ensureCapacityInternal_d00df_28, eJ5_ensureCapacityInternal_d00df_31, eJ5_ensureCapacityInternal_d00df_32R, eJ5_ensureCapacityInternal_d00df_32N, eJ5_ensureCapacityInternal_d00df_35, eJ5_ensureCapacityInternal_d00df_38, ite_le, n45, n54, true_or, or_true, false_or, or_false, false_and, and_false, kx_l, kx_r, go_s, gl_s, gi_s, gb_s2, gb_s3, gq_s, wt_nil, wt_int, wt_long, wt_ref, wt_null, nl_int, nl_long, nl_ref, nl_null, nl_none, rf_n, rf_s, rf_st, tl_s, tl_n, g0, gS, ex1, nb_b, nb_0, nb_1, nf_i, nf_l, nf_ra, nf_ro, nf_na, nf_no, nf_b0, nf_z0, t45_4, t45_5, true_and, and_true, List.set_cons_zero, List.set_cons_succ, List.length_cons, List.length_nil, rd_s, upw_s, ne_eq, not_false_eq_true, Nat.zero_add, Nat.add_zero, if_true, if_false, rb, rdd, shl0, exal, al26]
    repeat' first | with_reducible refine And.intro ?_ ?_ | omega
    all_goals try (rw [kfG_v])
    all_goals try (rw [sfC_v])
    all_goals try (show _ ≤ _; have ev : v.toNatClampNeg = v.toInt.toNat := rfl; omega)
    refine sJ7_copyOf_9075b rdd hf hN (by omega) (by omega) (Nat.le_refl _) (by have ev : v.toNatClampNeg = v.toInt.toNat := rfl; omega) fun q f' hq hf' => ?_
    have hqn := rd_none hq
    have hqb : b ≠ q := fun e => by
      rw [← e, hb] at hqn
      cases hqn
    simp only [eJ5_ensureCapacityInternal_d00df_0, eJ5_ensureCapacityInternal_d00df_0N, eJ5_ensureCapacityInternal_d00df_1, eJ5_ensureCapacityInternal_d00df_4, eJ5_ensureCapacityInternal_d00df_5, eJ5_ensureCapacityInternal_d00df_5N, eJ5_ensureCapacityInternal_d00df_6, eJ5_ensureCapacityInternal_d00df_9, eJ5_ensureCapacityInternal_d00df_10, eJ5_ensureCapacityInternal_d00df_11, eJ5_ensureCapacityInternal_d00df_12, eJ5_ensureCapacityInternal_d00df_13, eJ5_ensureCapacityInternal_d00df_14, eJ5_ensureCapacityInternal_d00df_17, eJ5_ensureCapacityInternal_d00df_17N, eJ5_ensureCapacityInternal_d00df_18, eJ5_ensureCapacityInternal_d00df_18N, eJ5_ensureCapacityInternal_d00df_19, eJ5_ensureCapacityInternal_d00df_22, eJ5_ensureCapacityInternal_d00df_22N, eJ5_ensureCapacityInternal_d00df_23, eJ5_ensureCapacityInternal_d00df_24, eJ5_ensureCapacityInternal_d00df_27, eJ5_ensureCapacityInternal_d00df_27N, eJ5_ensureCapacityInternal_d00df_28, eJ5_ensureCapacityInternal_d00df_31, eJ5_ensureCapacityInternal_d00df_32R, eJ5_ensureCapacityInternal_d00df_32N, eJ5_ensureCapacityInternal_d00df_35, eJ5_ensureCapacityInternal_d00df_38, ite_le, n45, n54, true_or, or_true, false_or, or_false, false_and, and_false, kx_l, kx_r, go_s, gl_s, gi_s, gb_s2, gb_s3, gq_s, wt_nil, wt_int, wt_long, wt_ref, wt_null, nl_int, nl_long, nl_ref, nl_null, nl_none, rf_n, rf_s, rf_st, tl_s, tl_n, g0, gS, ex1, nb_b, nb_0, nb_1, nf_i, nf_l, nf_ra, nf_ro, nf_na, nf_no, nf_b0, nf_z0, t45_4, t45_5, true_and, and_true, List.set_cons_zero, List.set_cons_succ, List.length_cons, List.length_nil, rd_s, upw_s, ne_eq, not_false_eq_true, Nat.zero_add, Nat.add_zero, if_true, if_false, hb, hqb, upw_n, tyJ4, nf_ra]
    repeat' first | with_reducible refine And.intro ?_ ?_ | omega
    all_goals try (have ev : v.toNatClampNeg = v.toInt.toNat := rfl; omega)
    refine hQ2 q v.toNatClampNeg _ (by omega) (by have ev : v.toNatClampNeg = v.toInt.toNat := rfl; omega) (hT.wide hq hf' (by have ev : v.toNatClampNeg = v.toInt.toNat := rfl; omega))
  · next hlt =>
    have hlt := i32_nlt hlt
    repeat' first | with_reducible refine And.intro ?_ ?_ | omega
    exact hQ1 (by omega)
end
end
