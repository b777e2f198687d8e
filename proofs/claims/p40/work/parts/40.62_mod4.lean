section
section
variable {g : RO} {Q : Ot → Hw → Prop} {w0 w : Hw}
variable {y nM : Nat} {kd : Int32}
/-- place i of the cards: v -/
def CAt (g : RO) (w : Hw) (y : Nat) (i : Int32) (v : Option Nat) : Prop := ∃ (nM cL pL D c : Nat) (th rf kd md : Int32) (h : Nat → Option Nat), w y = some (.inr (7, [.int th, .ref nM, .ref cL, .ref pL, .int rf, .int kd, .int md])) ∧ LL g w cL D c 6 h ∧ (∀ i b, h i = some b → isRow w b) ∧ h i.toNatClampNeg = v
theorem CAt.ofM {i : Int32} (h : MM g w0 y nM kd w) : ∃ v, CAt g w y i v := by
  obtain ⟨cL, pL, D1, D2, c1, c2, th, rf, md, n, f, h1, h2, a1, a2, a3, a4, a5, a6, a7⟩ := h.1
  exact ⟨_, nM, cL, pL, D1, c1, th, rf, kd, md, h1, a1, a3, a4, rfl⟩
/-- it stands where the object's numbers are set -/
theorem CAt.set {i : Int32} {v : Option Nat} {nM' cL pL : Nat} {th rf md th' rf' md' kd' : Int32} (h : CAt g w y i v) (hy : w y = some (.inr (7, [.int th, .ref nM', .ref cL, .ref pL, .int rf, .int kd, .int md]))) : CAt g (upw w y (.inr (7, [.int th', .ref nM', .ref cL, .ref pL, .int rf', .int kd', .int md']))) y i v := by
  obtain ⟨nM1, cL1, pL1, D, c, th1, rf1, kd1, md1, hh, a1, a2, a3, a4⟩ := h
  rw [hy] at a1
  cases a1
  exact ⟨_, _, _, D, c, _, _, _, _, hh, upw_s _ _ _, a2.up hy (fun _ e => by cases e) (fun _ e => by cases e), fun i b z => isRow_up (a3 i b z) hy (fun _ e => by cases e), a4⟩
theorem CAt.fr {i : Int32} {v : Option Nat} {q : Nat} {o : Ob} (h : CAt g w y i v) (hq : rd g w q = none) : CAt g (upw w q o) y i v := by
  obtain ⟨nM1, cL1, pL1, D, c, th1, rf1, kd1, md1, hh, a1, a2, a3, a4⟩ := h
  have k : ext g w (upw w q o) := ext_up2 ext.rf hq
  exact ⟨_, _, _, D, c, _, _, _, _, hh, k.1 _ _ a1, a2.kp (fun fs e => k.1 _ _ e) (fun z e => k.1 _ _ e) (fun o e1 e2 => k.2 _ o e1 e2), fun i b z => (a3 i b z).ext k, a4⟩
theorem CAt.row {i : Int32} {b : Nat} (h : CAt g w y i (some b)) : isRow w b := by
  obtain ⟨nM1, cL1, pL1, D, c, th1, rf1, kd1, md1, hh, a1, a2, a3, a4⟩ := h
  exact a3 _ _ a4
theorem lt6 {a : Int32} (h1 : ¬ 5 < a) : a.toInt < (6 : Int32).toInt := by
  have h := i32_nlt h1
  have e : (5 : Int32).toInt = 5 := rfl
  have e6 : (6 : Int32).toInt = 6 := rfl
  omega
set_option maxHeartbeats 4000000 in
theorem sX3_isBare {a : Int32} {v : Option Nat} (hC : CAt g w y a v) (k0 : ¬ a < 0) (k1 : ¬ 5 < a) (h1 : v = none → Q (.inl (some (.int 1))) w) (h0 : ∀ b, v = some b → Q (.inl (some (.int 0))) w) : WP (MX3_isBare g) Q (0, [some (.ref y), some (.int a)], [], w, 0, 0) := by
  obtain ⟨nM1, cL1, pL1, D, c, th1, rf1, kd1, md1, hh, a1, a2, a3, a4⟩ := hC
  have ry := rd_e (g := g) a1
  obtain ⟨mc, hL, rL, rD, -⟩ := a2.opn
  subst a4
  simp only [eX3_isBare_0, eX3_isBare_0N, eX3_isBare_1, eX3_isBare_4, eX3_isBare_5, ite_le, n45, n54, true_or, or_true, false_or, or_false, false_and, and_false, kx_l, kx_r, go_s, gl_s, gi_s, gb_s2, gb_s3, gq_s, wt_nil, wt_int, wt_long, wt_ref, wt_null, nl_int, nl_long, nl_ref, nl_null, nl_none, rf_n, rf_s, rf_st, tl_s, tl_n, g0, gS, ex1, nb_b, nb_0, nb_1, nf_i, nf_l, nf_ra, nf_ro, nf_na, nf_no, nf_b0, nf_z0, t45_4, t45_5, true_and, and_true, List.set_cons_zero, List.set_cons_succ, List.length_cons, List.length_nil, rd_s, upw_s, ne_eq, not_false_eq_true, Nat.zero_add, Nat.add_zero, ry, rL]
  repeat' first | with_reducible refine And.intro ?_ ?_ | omega
  refine sJx4a65c_get a2 (i32_0 k0) (lt6 k1) (fun e => ?_) (fun b e => ?_)
  · simp only [eX3_isBare_0, eX3_isBare_0N, eX3_isBare_1, eX3_isBare_4, eX3_isBare_5, eX3_isBare_8R, eX3_isBare_8N, eX3_isBare_11, eX3_isBare_15, eX3_isBare_16, ite_le, n45, n54, true_or, or_true, false_or, or_false, false_and, and_false, kx_l, kx_r, go_s, gl_s, gi_s, gb_s2, gb_s3, gq_s, wt_nil, wt_int, wt_long, wt_ref, wt_null, nl_int, nl_long, nl_ref, nl_null, nl_none, rf_n, rf_s, rf_st, tl_s, tl_n, g0, gS, ex1, nb_b, nb_0, nb_1, nf_i, nf_l, nf_ra, nf_ro, nf_na, nf_no, nf_b0, nf_z0, t45_4, t45_5, true_and, and_true, List.set_cons_zero, List.set_cons_succ, List.length_cons, List.length_nil, rd_s, upw_s, ne_eq, not_false_eq_true, Nat.zero_add, Nat.add_zero, if_true, if_false, eq_self]
    repeat' first | with_reducible refine And.intro ?_ ?_ | omega
    exact h1 e
  · simp only [eX3_isBare_0, eX3_isBare_0N, eX3_isBare_1, eX3_isBare_4, eX3_isBare_5, eX3_isBare_8R, eX3_isBare_8N, eX3_isBare_11, eX3_isBare_15, eX3_isBare_16, ite_le, n45, n54, true_or, or_true, false_or, or_false, false_and, and_false, kx_l, kx_r, go_s, gl_s, gi_s, gb_s2, gb_s3, gq_s, wt_nil, wt_int, wt_long, wt_ref, wt_null, nl_int, nl_long, nl_ref, nl_null, nl_none, rf_n, rf_s, rf_st, tl_s, tl_n, g0, gS, ex1, nb_b, nb_0, nb_1, nf_i, nf_l, nf_ra, nf_ro, nf_na, nf_no, nf_b0, nf_z0, t45_4, t45_5, true_and, and_true, List.set_cons_zero, List.set_cons_succ, List.length_cons, List.length_nil, rd_s, upw_s, ne_eq, not_false_eq_true, Nat.zero_add, Nat.add_zero, if_true, if_false, eq_self]
    repeat' first | with_reducible refine And.intro ?_ ?_ | omega
    exact h0 b e
end
end
