section
variable {g : RO} {Q : Ot → Hw → Prop} {w0 w : Hw}
variable {y nM : Nat} {kd : Int32}
theorem ext_up3 {w1 : Hw} {q : Nat} {o : Ob} (h : ext g w w1) (hq : rd g w1 q = none) : ext g w (upw w1 q o) := ext_up2 h (by
  have e : w q = none := by
    cases e : w q with
    | none => rfl
    | some o2 =>
      have e2 := rd_none hq
      rw [h.1 _ _ e] at e2
      cases e2
  unfold rd
  rw [e]
  exact rd_ro hq)
theorem ext_n {w' : Hw} {a : Nat} (k : ext g w w') (h : w' a = none) : w a = none := by
  cases e : w a with
  | none => rfl
  | some o =>
    rw [k.1 _ _ e] at h
    cases h
set_option maxHeartbeats 4000000 in
theorem sX3_turn  (hM : MM g w0 y nM kd w) (hE : EG g w0) (hS : SG g) (hQ : ∀ (v : Int32) w', MM g w0 y nM kd w' → Q (.inl (some (.int v))) w') : WP (MX3_turn g) Q (0, [some (.ref y), none, none, none], [], w, 0, 0) := by
  obtain ⟨cL, pL, D1, D2, c1, c2, th, rf, md, n, f, hh1, hh2, hy, hn, ry, rn, e1, e2, -⟩ := hM.1.opn g
  obtain ⟨w1, hw1⟩ : ∃ w1, upw w y (.inr (7, [.int 0, .ref nM, .ref cL, .ref pL, .int rf, .int kd, .int md])) = w1 := ⟨_, rfl⟩
  have hM1 : MM g w0 y nM kd w1 := by
    rw [← hw1]
    exact hM.set hy
  have hy1 : w1 y = some (.inr (7, [.int 0, .ref nM, .ref cL, .ref pL, .int rf, .int kd, .int md])) := by
    rw [← hw1]
    exact upw_s _ _ _
  obtain ⟨D1, D2, c1, c2, th, rf, md, n, f, h1, h2, a1, a2, a3, a4, a5, a6, a7, a8, a9, b1, hD, hc⟩ := hM1.yC ⟨_, _, _, _, hy1⟩
  obtain ⟨mc0, hL1⟩ := a5.1
  have z0 : (0 : Int32).toInt = 0 := rfl
  have n0 := a5.n0
  repeat' first
    | with_reducible assumption
    | with_reducible refine And.intro ?_ ?_
    | with_reducible refine sInitF (hM1.eg hE) (by assumption) (fun D9 w9 hk9 hl9 hd9 => ?_)
    | with_reducible refine go_YE (hk9.k1 hy1) ?_
    | with_reducible exact (a5.ext hk9).gt
    | with_reducible refine sIter1 (a5.ext hk9) (hk9.k1 hL1) (fun q9 hq9 => ?_)
    | with_reducible exact lX3_turn_21 (hM1.eg hE) hS hM1 hL1 a5 a6 b1 a7 (ext_n hk9 (rd_none hq9)) (rd_ro hq9) (rd_none (by assumption)) hQ 70 _ _ _ _ _ _ _ _ _ (ext_up3 hk9 hq9) (upw_s _ _ _) (hl9.nq hq9 _) nr0 nn0 hd9 (by omega) (by omega) (by omega) (by omega)
    | simp only [eX3_turn_0, eX3_turn_0N, eX3_turn_1, eX3_turn_2, eX3_turn_5, eX3_turn_8, eX3_turn_8R, eX3_turn_9, eX3_turn_12, eX3_turn_12N, eX3_turn_13, eX3_turn_13N, eX3_turn_14, eX3_turn_17, eX3_turn_20, eX3_turn_20N, eX3_turn_22, eX3_turn_27, eX3_turn_30, eX3_turn_30N, eX3_turn_31, eX3_turn_36N, eX3_turn_36R, eX3_turn_39, eX3_turn_39N, eX3_turn_40, eX3_turn_40N, eX3_turn_41, eX3_turn_42, eX3_turn_42N, eX3_turn_43R, eX3_turn_43N, eX3_turn_46, eX3_turn_49, eX3_turn_49N, eX3_turn_50, eX3_turn_50N, eX3_turn_51, eX3_turn_54, eX3_turn_54N, eX3_turn_55, eX3_turn_58, eX3_turn_61, ite_le, n45, n54, true_or, or_true, false_or, or_false, false_and, and_false, kx_l, kx_r, go_s, gl_s, gi_s, gb_s2, gb_s3, gq_s, wt_nil, wt_int, wt_long, wt_ref, wt_null, nl_int, nl_long, nl_ref, nl_null, nl_none, rf_n, rf_s, rf_st, tl_s, tl_n, g0, gS, ex1, nb_b, nb_0, nb_1, nf_i, nf_l, nf_ra, nf_ro, nf_na, nf_no, nf_b0, nf_z0, t45_4, t45_5, true_and, and_true, List.set_cons_zero, List.set_cons_succ, List.length_cons, List.length_nil, rd_s, upw_s, ne_eq, not_false_eq_true, Nat.zero_add, Nat.add_zero, if_true, if_false, eq_self, m10, hy, hw1]
    | split
    | with_reducible intro _
    | omega
theorem pz1 {i n : Int32} {k : Nat} (h : i < n) (hk : (k : Int) ≤ i.toInt) (hn : 0 ≤ n.toInt ∧ n.toInt ≤ 12) : k + 1 ≤ 12 := by
  have := i32_lt h
  omega
theorem pz6 {i n : Int32} {k : Nat} (h : i < n) (hk : (k : Int) ≤ 6 * i.toInt) (hn : 0 ≤ n.toInt ∧ n.toInt ≤ 12) : k + 6 ≤ 72 := by
  have := i32_lt h
  omega
theorem pz1e {i n : Int32} {k : Nat} (h : ¬ i < n) (hn : 0 ≤ n.toInt ∧ n.toInt ≤ 12) (hi : i.toInt ≤ n.toInt) (hk : (k : Int) ≤ i.toInt) : k ≤ 12 := by
  omega
theorem pz6e {i n : Int32} {k : Nat} (h : ¬ i < n) (hn : 0 ≤ n.toInt ∧ n.toInt ≤ 12) (hi : i.toInt ≤ n.toInt) (hk : (k : Int) ≤ 6 * i.toInt) : k ≤ 72 := by
  omega
theorem pz_n {i n : Int32} (h : i < n) : (i + 1).toInt ≤ n.toInt := by
  rw [i32_s h]
  have := i32_lt h
  omega
theorem n6e : (6 : Int32).toNatClampNeg = 6 := rfl
theorem n6a : ¬ (6 : Int32) < 0 := by decide
theorem vpi6x : vp_in 0 6 ∧ vp_in 1 6 ∧ vp_in 2 6 ∧ vp_in 3 6 ∧ vp_in 4 6 ∧ vp_in 5 6 := ⟨vpiM (by decide) (by decide), vpiM (by decide) (by decide), vpiM (by decide) (by decide), vpiM (by decide) (by decide), vpiM (by decide) (by decide), vpiM (by decide) (by decide)⟩
theorem n5e : (5 : Int32).toNatClampNeg = 5 := rfl
theorem n5a : ¬ (5 : Int32) < 0 := by decide
theorem vpi5x : vp_in 0 5 ∧ vp_in 1 5 ∧ vp_in 2 5 ∧ vp_in 3 5 ∧ vp_in 4 5 := ⟨vpiM (by decide) (by decide), vpiM (by decide) (by decide), vpiM (by decide) (by decide), vpiM (by decide) (by decide), vpiM (by decide) (by decide)⟩
theorem vpi5n {a : Int32} (h0 : ¬ a < 0) (h1 : ¬ 4 < a) : vp_in a 5 := vpiM (i32_0 h0) (by
  have h := i32_nlt h1
  have e : (4 : Int32).toInt = 4 := rfl
  omega)
set_option maxHeartbeats 8000000 in
theorem lX3_pileNow_5 {a c n : Int32} (hM : MM g w0 y nM kd w) (hP : PN g w y n) (k0 : ¬ a < 0) (k1 : ¬ 7 < a) (c0 : ¬ c < 0) (c1 : ¬ 5 < c) (hQ : ∀ (v : Int32) w', ext g w w' → Q (.inl (some (.int v))) w') : ∀ (d : Nat) (i3 i4 : Int32) (o5 o6 : Option Value) (w' : Hw) (k m : Nat), ¬ i4 < 0 → ext g w w' → n.toInt - i4.toInt ≤ (d : Int) → i4.toInt ≤ n.toInt → (k : Int) ≤ i4.toInt → (m : Int) ≤ 6 * i4.toInt → WP (MX3_pileNow g) Q (5, [some (.ref y), some (.int a), some (.int c), some (.int i3), some (.int i4), o5, o6], [], w', k, m) := by
  have hnb := hP.bd
  intro d
  induction d with
  | zero =>
    intro i3 i4 o5 o6 w' k m z0 hk hm hi km mm
    rw [eX3_pileNow_5]
    repeat' first
      | with_reducible assumption
      | with_reducible refine And.intro ?_ ?_
      | with_reducible exact (ic_z (by assumption) (by assumption)).elim
      | with_reducible refine sSizeY (hP.ext (by first | assumption | exact ext.rf | exact ext_up2 ext.rf (by assumption) | exact ext_up3 (by assumption) (by assumption) | exact ext_up3 (ext_up2 ext.rf (by assumption)) (by assumption))) (by first | assumption | exact isY.s | exact isY.fr (by assumption) (by assumption)) ?_
      | with_reducible refine sGetP (hP.ext (by first | assumption | exact ext.rf | exact ext_up2 ext.rf (by assumption) | exact ext_up3 (by assumption) (by assumption) | exact ext_up3 (ext_up2 ext.rf (by assumption)) (by assumption))) (by first | assumption | exact isY.s | exact isY.fr (by assumption) (by assumption)) (by assumption) (by assumption) (fun _ _ => ?_)
      | with_reducible refine sX3_isAhead (hM.ext' (by first | assumption | exact ext.rf | exact ext_up2 ext.rf (by assumption) | exact ext_up3 (by assumption) (by assumption) | exact ext_up3 (ext_up2 ext.rf (by assumption)) (by assumption))) (hP.ext (by first | assumption | exact ext.rf | exact ext_up2 ext.rf (by assumption) | exact ext_up3 (by assumption) (by assumption) | exact ext_up3 (ext_up2 ext.rf (by assumption)) (by assumption))) (by assumption) (by assumption) (fun _ => ?_)
      | with_reducible refine go_Y (hM.ext' (by first | assumption | exact ext.rf | exact ext_up2 ext.rf (by assumption) | exact ext_up3 (by assumption) (by assumption) | exact ext_up3 (ext_up2 ext.rf (by assumption)) (by assumption))) (fun _ _ _ _ _ _ => ?_)
      | with_reducible exact gtP (hM.ext' (by first | assumption | exact ext.rf | exact ext_up2 ext.rf (by assumption) | exact ext_up3 (by assumption) (by assumption) | exact ext_up3 (ext_up2 ext.rf (by assumption)) (by assumption))) (by first | assumption | exact isY.s | exact isY.fr (by assumption) (by assumption))
      | with_reducible refine gl_M (hM.ext' (by first | assumption | exact ext.rf | exact ext_up2 ext.rf (by assumption) | exact ext_up3 (by assumption) (by assumption) | exact ext_up3 (ext_up2 ext.rf (by assumption)) (by assumption))) ?_
      | with_reducible exact vpi8n k0 k1
      | with_reducible exact vpi6n c0 c1
      | with_reducible exact vpi6x.1
      | with_reducible exact vpi6x.2.1
      | with_reducible exact vpi6x.2.2.1
      | with_reducible exact vpi6x.2.2.2.1
      | with_reducible exact vpi6x.2.2.2.2.1
      | with_reducible exact vpi6x.2.2.2.2.2
      | with_reducible exact isRow.ca (by first | assumption | exact isRow.ext (by assumption) (ext_up2 ext.rf (by assumption)))
      | with_reducible refine sX3_valid (by first | assumption | exact isRow.ext (by assumption) (ext_up2 ext.rf (by assumption))) ?_ ?_
      | with_reducible refine sX3_fixed (by first | assumption | exact isRow.ext (by assumption) (ext_up2 ext.rf (by assumption))) ?_ ?_
      | with_reducible refine sX3_small (by first | assumption | exact isRow.ext (by assumption) (ext_up2 ext.rf (by assumption))) ?_ ?_
      | with_reducible refine sX3_one (fun _ => ?_)
      | with_reducible exact hQ _ _ (by first | assumption | exact ext.rf | exact ext_up2 ext.rf (by assumption) | exact ext_up3 (by assumption) (by assumption) | exact ext_up3 (ext_up2 ext.rf (by assumption)) (by assumption))
      | with_reducible exact n6a
      | with_reducible exact pz1 (by assumption) (by assumption) hnb
      | with_reducible exact pz6 (by assumption) (by assumption) hnb
      | with_reducible exact pz1e (by assumption) hnb (by assumption) (by assumption)
      | with_reducible exact pz6e (by assumption) hnb (by assumption) (by assumption)
      | simp only [eX3_pileNow_0, eX3_pileNow_1, eX3_pileNow_2, eX3_pileNow_3, eX3_pileNow_7, eX3_pileNow_7N, eX3_pileNow_8, eX3_pileNow_11, eX3_pileNow_14, eX3_pileNow_17, eX3_pileNow_17N, eX3_pileNow_18, eX3_pileNow_21, eX3_pileNow_23, eX3_pileNow_26N, eX3_pileNow_26R, eX3_pileNow_29, eX3_pileNow_29N, eX3_pileNow_31, eX3_pileNow_33, eX3_pileNow_35, eX3_pileNow_35R, eX3_pileNow_36, eX3_pileNow_37, eX3_pileNow_38, eX3_pileNow_39, eX3_pileNow_39R, eX3_pileNow_40, eX3_pileNow_41, eX3_pileNow_41N, eX3_pileNow_43, eX3_pileNow_43N, eX3_pileNow_44, eX3_pileNow_47, eX3_pileNow_48, eX3_pileNow_49, eX3_pileNow_50R, eX3_pileNow_50N, eX3_pileNow_53, eX3_pileNow_54, eX3_pileNow_54R, eX3_pileNow_55, eX3_pileNow_56, eX3_pileNow_56N, eX3_pileNow_58, eX3_pileNow_58N, eX3_pileNow_59, eX3_pileNow_62, eX3_pileNow_63, eX3_pileNow_64, eX3_pileNow_65R, eX3_pileNow_65N, eX3_pileNow_68, eX3_pileNow_69, eX3_pileNow_69R, eX3_pileNow_70, eX3_pileNow_71, eX3_pileNow_71N, eX3_pileNow_73R, eX3_pileNow_73N, eX3_pileNow_76, eX3_pileNow_77, eX3_pileNow_77R, eX3_pileNow_78, eX3_pileNow_79, eX3_pileNow_79N, eX3_pileNow_81R, eX3_pileNow_81N, eX3_pileNow_84, eX3_pileNow_85, eX3_pileNow_85R, eX3_pileNow_86, eX3_pileNow_87, eX3_pileNow_87N, eX3_pileNow_88, eX3_pileNow_90, eX3_pileNow_93, eX3_pileNow_94, eX3_pileNow_94N, eX3_pileNow_96, eX3_pileNow_97, eX3_pileNow_97N, eX3_pileNow_99, eX3_pileNow_100, eX3_pileNow_101, eX3_pileNow_104, eX3_pileNow_105, eX3_pileNow_106, eX3_pileNow_109, eX3_pileNow_112, eX3_pileNow_113, ite_le, n45, n54, true_or, or_true, false_or, or_false, false_and, and_false, kx_l, kx_r, go_s, gl_s, gi_s, gb_s2, gb_s3, gq_s, wt_nil, wt_int, wt_long, wt_ref, wt_null, nl_int, nl_long, nl_ref, nl_null, nl_none, rf_n, rf_s, rf_st, tl_s, tl_n, g0, gS, ex1, nb_b, nb_0, nb_1, nf_i, nf_l, nf_ra, nf_ro, nf_na, nf_no, nf_b0, nf_z0, t45_4, t45_5, true_and, and_true, List.set_cons_zero, List.set_cons_succ, List.length_cons, List.length_nil, rd_s, upw_s, ne_eq, not_false_eq_true, Nat.zero_add, Nat.add_zero, if_true, if_false, eq_self, m10, n6e, upw2q]
      | split
      | with_reducible intro _
      | omega
  | succ d ih =>
    intro i3 i4 o5 o6 w' k m z0 hk hm hi km mm
    rw [eX3_pileNow_5]
    repeat' first
      | with_reducible assumption
      | with_reducible refine And.intro ?_ ?_
      | with_reducible exact ih _ _ _ _ _ _ _ (ic_p (by assumption) (by assumption)) (by first | assumption | exact ext.rf | exact ext_up2 ext.rf (by assumption) | exact ext_up3 (by assumption) (by assumption) | exact ext_up3 (ext_up2 ext.rf (by assumption)) (by assumption)) (ic_s (by assumption) (by assumption)) (pz_n (by assumption)) (by rw [i32_s (by assumption)]; omega) (by rw [i32_s (by assumption)]; omega)
      | with_reducible refine sSizeY (hP.ext (by first | assumption | exact ext.rf | exact ext_up2 ext.rf (by assumption) | exact ext_up3 (by assumption) (by assumption) | exact ext_up3 (ext_up2 ext.rf (by assumption)) (by assumption))) (by first | assumption | exact isY.s | exact isY.fr (by assumption) (by assumption)) ?_
      | with_reducible refine sGetP (hP.ext (by first | assumption | exact ext.rf | exact ext_up2 ext.rf (by assumption) | exact ext_up3 (by assumption) (by assumption) | exact ext_up3 (ext_up2 ext.rf (by assumption)) (by assumption))) (by first | assumption | exact isY.s | exact isY.fr (by assumption) (by assumption)) (by assumption) (by assumption) (fun _ _ => ?_)
      | with_reducible refine sX3_isAhead (hM.ext' (by first | assumption | exact ext.rf | exact ext_up2 ext.rf (by assumption) | exact ext_up3 (by assumption) (by assumption) | exact ext_up3 (ext_up2 ext.rf (by assumption)) (by assumption))) (hP.ext (by first | assumption | exact ext.rf | exact ext_up2 ext.rf (by assumption) | exact ext_up3 (by assumption) (by assumption) | exact ext_up3 (ext_up2 ext.rf (by assumption)) (by assumption))) (by assumption) (by assumption) (fun _ => ?_)
      | with_reducible refine go_Y (hM.ext' (by first | assumption | exact ext.rf | exact ext_up2 ext.rf (by assumption) | exact ext_up3 (by assumption) (by assumption) | exact ext_up3 (ext_up2 ext.rf (by assumption)) (by assumption))) (fun _ _ _ _ _ _ => ?_)
      | with_reducible exact gtP (hM.ext' (by first | assumption | exact ext.rf | exact ext_up2 ext.rf (by assumption) | exact ext_up3 (by assumption) (by assumption) | exact ext_up3 (ext_up2 ext.rf (by assumption)) (by assumption))) (by first | assumption | exact isY.s | exact isY.fr (by assumption) (by assumption))
      | with_reducible refine gl_M (hM.ext' (by first | assumption | exact ext.rf | exact ext_up2 ext.rf (by assumption) | exact ext_up3 (by assumption) (by assumption) | exact ext_up3 (ext_up2 ext.rf (by assumption)) (by assumption))) ?_
      | with_reducible exact vpi8n k0 k1
      | with_reducible exact vpi6n c0 c1
      | with_reducible exact vpi6x.1
      | with_reducible exact vpi6x.2.1
      | with_reducible exact vpi6x.2.2.1
      | with_reducible exact vpi6x.2.2.2.1
      | with_reducible exact vpi6x.2.2.2.2.1
      | with_reducible exact vpi6x.2.2.2.2.2
      | with_reducible exact isRow.ca (by first | assumption | exact isRow.ext (by assumption) (ext_up2 ext.rf (by assumption)))
      | with_reducible refine sX3_valid (by first | assumption | exact isRow.ext (by assumption) (ext_up2 ext.rf (by assumption))) ?_ ?_
      | with_reducible refine sX3_fixed (by first | assumption | exact isRow.ext (by assumption) (ext_up2 ext.rf (by assumption))) ?_ ?_
      | with_reducible refine sX3_small (by first | assumption | exact isRow.ext (by assumption) (ext_up2 ext.rf (by assumption))) ?_ ?_
      | with_reducible refine sX3_one (fun _ => ?_)
      | with_reducible exact hQ _ _ (by first | assumption | exact ext.rf | exact ext_up2 ext.rf (by assumption) | exact ext_up3 (by assumption) (by assumption) | exact ext_up3 (ext_up2 ext.rf (by assumption)) (by assumption))
      | with_reducible exact n6a
      | with_reducible exact pz1 (by assumption) (by assumption) hnb
      | with_reducible exact pz6 (by assumption) (by assumption) hnb
      | with_reducible exact pz1e (by assumption) hnb (by assumption) (by assumption)
      | with_reducible exact pz6e (by assumption) hnb (by assumption) (by assumption)
      | simp only [eX3_pileNow_0, eX3_pileNow_1, eX3_pileNow_2, eX3_pileNow_3, eX3_pileNow_7, eX3_pileNow_7N, eX3_pileNow_8, eX3_pileNow_11, eX3_pileNow_14, eX3_pileNow_17, eX3_pileNow_17N, eX3_pileNow_18, eX3_pileNow_21, eX3_pileNow_23, eX3_pileNow_26N, eX3_pileNow_26R, eX3_pileNow_29, eX3_pileNow_29N, eX3_pileNow_31, eX3_pileNow_33, eX3_pileNow_35, eX3_pileNow_35R, eX3_pileNow_36, eX3_pileNow_37, eX3_pileNow_38, eX3_pileNow_39, eX3_pileNow_39R, eX3_pileNow_40, eX3_pileNow_41, eX3_pileNow_41N, eX3_pileNow_43, eX3_pileNow_43N, eX3_pileNow_44, eX3_pileNow_47, eX3_pileNow_48, eX3_pileNow_49, eX3_pileNow_50R, eX3_pileNow_50N, eX3_pileNow_53, eX3_pileNow_54, eX3_pileNow_54R, eX3_pileNow_55, eX3_pileNow_56, eX3_pileNow_56N, eX3_pileNow_58, eX3_pileNow_58N, eX3_pileNow_59, eX3_pileNow_62, eX3_pileNow_63, eX3_pileNow_64, eX3_pileNow_65R, eX3_pileNow_65N, eX3_pileNow_68, eX3_pileNow_69, eX3_pileNow_69R, eX3_pileNow_70, eX3_pileNow_71, eX3_pileNow_71N, eX3_pileNow_73R, eX3_pileNow_73N, eX3_pileNow_76, eX3_pileNow_77, eX3_pileNow_77R, eX3_pileNow_78, eX3_pileNow_79, eX3_pileNow_79N, eX3_pileNow_81R, eX3_pileNow_81N, eX3_pileNow_84, eX3_pileNow_85, eX3_pileNow_85R, eX3_pileNow_86, eX3_pileNow_87, eX3_pileNow_87N, eX3_pileNow_88, eX3_pileNow_90, eX3_pileNow_93, eX3_pileNow_94, eX3_pileNow_94N, eX3_pileNow_96, eX3_pileNow_97, eX3_pileNow_97N, eX3_pileNow_99, eX3_pileNow_100, eX3_pileNow_101, eX3_pileNow_104, eX3_pileNow_105, eX3_pileNow_106, eX3_pileNow_109, eX3_pileNow_112, eX3_pileNow_113, ite_le, n45, n54, true_or, or_true, false_or, or_false, false_and, and_false, kx_l, kx_r, go_s, gl_s, gi_s, gb_s2, gb_s3, gq_s, wt_nil, wt_int, wt_long, wt_ref, wt_null, nl_int, nl_long, nl_ref, nl_null, nl_none, rf_n, rf_s, rf_st, tl_s, tl_n, g0, gS, ex1, nb_b, nb_0, nb_1, nf_i, nf_l, nf_ra, nf_ro, nf_na, nf_no, nf_b0, nf_z0, t45_4, t45_5, true_and, and_true, List.set_cons_zero, List.set_cons_succ, List.length_cons, List.length_nil, rd_s, upw_s, ne_eq, not_false_eq_true, Nat.zero_add, Nat.add_zero, if_true, if_false, eq_self, m10, n6e, upw2q]
      | split
      | with_reducible intro _
      | omega
set_option maxHeartbeats 4000000 in
theorem sX3_pileNow {a c n : Int32} (hM : MM g w0 y nM kd w) (hP : PN g w y n) (k0 : ¬ a < 0) (k1 : ¬ 7 < a) (c0 : ¬ c < 0) (c1 : ¬ 5 < c) (hQ : ∀ (v : Int32) w', ext g w w' → Q (.inl (some (.int v))) w') : WP (MX3_pileNow g) Q (0, [some (.ref y), some (.int a), some (.int c), none, none, none, none], [], w, 0, 0) := by
  have hnb := hP.bd
  repeat' first
    | with_reducible assumption
    | with_reducible refine And.intro ?_ ?_
    | with_reducible exact lX3_pileNow_5 hM hP k0 k1 c0 c1 hQ 70 _ _ _ _ _ _ _ (by decide) ext.rf hP.m (by have z : (0 : Int32).toInt = 0 := rfl; omega) (by decide) (by decide)
    | simp only [eX3_pileNow_0, eX3_pileNow_1, eX3_pileNow_2, eX3_pileNow_3, eX3_pileNow_7, eX3_pileNow_7N, eX3_pileNow_8, eX3_pileNow_11, eX3_pileNow_14, eX3_pileNow_17, eX3_pileNow_17N, eX3_pileNow_18, eX3_pileNow_21, eX3_pileNow_23, eX3_pileNow_26N, eX3_pileNow_26R, eX3_pileNow_29, eX3_pileNow_29N, eX3_pileNow_31, eX3_pileNow_33, eX3_pileNow_35, eX3_pileNow_35R, eX3_pileNow_36, eX3_pileNow_37, eX3_pileNow_38, eX3_pileNow_39, eX3_pileNow_39R, eX3_pileNow_40, eX3_pileNow_41, eX3_pileNow_41N, eX3_pileNow_43, eX3_pileNow_43N, eX3_pileNow_44, eX3_pileNow_47, eX3_pileNow_48, eX3_pileNow_49, eX3_pileNow_50R, eX3_pileNow_50N, eX3_pileNow_53, eX3_pileNow_54, eX3_pileNow_54R, eX3_pileNow_55, eX3_pileNow_56, eX3_pileNow_56N, eX3_pileNow_58, eX3_pileNow_58N, eX3_pileNow_59, eX3_pileNow_62, eX3_pileNow_63, eX3_pileNow_64, eX3_pileNow_65R, eX3_pileNow_65N, eX3_pileNow_68, eX3_pileNow_69, eX3_pileNow_69R, eX3_pileNow_70, eX3_pileNow_71, eX3_pileNow_71N, eX3_pileNow_73R, eX3_pileNow_73N, eX3_pileNow_76, eX3_pileNow_77, eX3_pileNow_77R, eX3_pileNow_78, eX3_pileNow_79, eX3_pileNow_79N, eX3_pileNow_81R, eX3_pileNow_81N, eX3_pileNow_84, eX3_pileNow_85, eX3_pileNow_85R, eX3_pileNow_86, eX3_pileNow_87, eX3_pileNow_87N, eX3_pileNow_88, eX3_pileNow_90, eX3_pileNow_93, eX3_pileNow_94, eX3_pileNow_94N, eX3_pileNow_96, eX3_pileNow_97, eX3_pileNow_97N, eX3_pileNow_99, eX3_pileNow_100, eX3_pileNow_101, eX3_pileNow_104, eX3_pileNow_105, eX3_pileNow_106, eX3_pileNow_109, eX3_pileNow_112, eX3_pileNow_113, ite_le, n45, n54, true_or, or_true, false_or, or_false, false_and, and_false, kx_l, kx_r, go_s, gl_s, gi_s, gb_s2, gb_s3, gq_s, wt_nil, wt_int, wt_long, wt_ref, wt_null, nl_int, nl_long, nl_ref, nl_null, nl_none, rf_n, rf_s, rf_st, tl_s, tl_n, g0, gS, ex1, nb_b, nb_0, nb_1, nf_i, nf_l, nf_ra, nf_ro, nf_na, nf_no, nf_b0, nf_z0, t45_4, t45_5, true_and, and_true, List.set_cons_zero, List.set_cons_succ, List.length_cons, List.length_nil, rd_s, upw_s, ne_eq, not_false_eq_true, Nat.zero_add, Nat.add_zero, if_true, if_false, eq_self, m10]
    | split
    | with_reducible intro _
    | omega
theorem sX3_pileNowM {a c : Int32} (hM : MM g w0 y nM kd w) (k0 : ¬ a < 0) (k1 : ¬ 7 < a) (c0 : ¬ c < 0) (c1 : ¬ 5 < c) (hQ : ∀ (v : Int32) w', ext g w w' → Q (.inl (some (.int v))) w') : WP (MX3_pileNow g) Q (0, [some (.ref y), some (.int a), some (.int c), none, none, none, none], [], w, 0, 0) := by
  obtain ⟨n, hP⟩ := PN.ofM hM
  exact sX3_pileNow hM hP k0 k1 c0 c1 hQ
set_option maxHeartbeats 4000000 in
theorem sX3_pile {a0 : Int32} {a1 : Int32} (hM : MM g w0 y nM kd w) (hQ : ∀ (v : Int32) w', MM g w0 y nM kd w' → Q (.inl (some (.int v))) w') : WP (MX3_pile g) Q (0, [some (.ref y), some (.int a0), some (.int a1)], [], w, 0, 0) := by
  repeat' first
    | with_reducible assumption
    | with_reducible refine And.intro ?_ ?_
    | with_reducible exact absurd (by assumption) n10'
    | with_reducible refine sX3_isNoNumber ?_ (fun _ _ => ?_)
    | with_reducible refine sX3_isNoCard ?_ (fun _ _ => ?_)
    | with_reducible refine sX3_isNoEnd ?_ (fun _ _ => ?_)
    | with_reducible refine sX3_isIn (fun _ _ => ?_) ?_
    | with_reducible refine sX3_start (by first | assumption | exact MMz.m (by assumption) | exact MM.fr (by first | assumption | exact MMz.m (by assumption)) (by assumption) | exact MM.ext' (by assumption) (by assumption) | exact (by assumption : ∀ f', MM g w0 y nM kd (upw _ nM (.inl (0, 8, .inr (.inl f'))))) _ | exact (by assumption : ∀ (th' rf' md' : Int32), MM g w0 y nM kd (upw _ y (.inr (7, [.int th', .ref nM, .ref _, .ref _, .int rf', .int kd, .int md'])))) _ _ _) (by decide) (fun _ _ _ => ?_) (fun _ _ => ?_)
    | with_reducible refine sX3_refuse (by assumption) (by decide) (fun _ => ?_) (fun _ _ => ?_)
    | with_reducible refine sX3_isBareM (by first | assumption | exact MMz.m (by assumption) | exact MM.fr (by first | assumption | exact MMz.m (by assumption)) (by assumption) | exact MM.ext' (by assumption) (by assumption) | exact (by assumption : ∀ f', MM g w0 y nM kd (upw _ nM (.inl (0, 8, .inr (.inl f'))))) _ | exact (by assumption : ∀ (th' rf' md' : Int32), MM g w0 y nM kd (upw _ y (.inr (7, [.int th', .ref nM, .ref _, .ref _, .int rf', .int kd, .int md'])))) _ _ _) (by assumption) (by first | assumption | exact lt65 (by assumption)) ?_ (fun _ _ => ?_)
    | with_reducible refine sX3_isNone (by first | assumption | exact MMz.m (by assumption) | exact MM.fr (by first | assumption | exact MMz.m (by assumption)) (by assumption) | exact MM.ext' (by assumption) (by assumption) | exact (by assumption : ∀ f', MM g w0 y nM kd (upw _ nM (.inl (0, 8, .inr (.inl f'))))) _ | exact (by assumption : ∀ (th' rf' md' : Int32), MM g w0 y nM kd (upw _ y (.inr (7, [.int th', .ref nM, .ref _, .ref _, .int rf', .int kd, .int md'])))) _ _ _) (fun _ _ => ?_) (fun _ _ _ _ _ _ => ?_)
    | with_reducible exact vpi8n (by assumption) (by assumption)
    | with_reducible exact vpi4n (by assumption) (by assumption)
    | with_reducible exact vpi4.1
    | with_reducible exact vpi4.2.1
    | with_reducible exact vpi4.2.2.1
    | with_reducible exact vpi4.2.2.2
    | with_reducible refine go_Y (by first | assumption | exact MMz.m (by assumption) | exact MM.fr (by first | assumption | exact MMz.m (by assumption)) (by assumption) | exact MM.ext' (by assumption) (by assumption) | exact (by assumption : ∀ f', MM g w0 y nM kd (upw _ nM (.inl (0, 8, .inr (.inl f'))))) _ | exact (by assumption : ∀ (th' rf' md' : Int32), MM g w0 y nM kd (upw _ y (.inr (7, [.int th', .ref nM, .ref _, .ref _, .int rf', .int kd, .int md'])))) _ _ _) (fun _ _ _ _ _ _ => ?_)
    | with_reducible refine go_Yw (by first | assumption | exact MMz.m (by assumption) | exact MM.fr (by first | assumption | exact MMz.m (by assumption)) (by assumption) | exact MM.ext' (by assumption) (by assumption) | exact (by assumption : ∀ f', MM g w0 y nM kd (upw _ nM (.inl (0, 8, .inr (.inl f'))))) _ | exact (by assumption : ∀ (th' rf' md' : Int32), MM g w0 y nM kd (upw _ y (.inr (7, [.int th', .ref nM, .ref _, .ref _, .int rf', .int kd, .int md'])))) _ _ _) (fun _ _ _ _ _ _ => ?_)
    | with_reducible refine gl_M (by first | assumption | exact MMz.m (by assumption) | exact MM.fr (by first | assumption | exact MMz.m (by assumption)) (by assumption) | exact MM.ext' (by assumption) (by assumption) | exact (by assumption : ∀ f', MM g w0 y nM kd (upw _ nM (.inl (0, 8, .inr (.inl f'))))) _ | exact (by assumption : ∀ (th' rf' md' : Int32), MM g w0 y nM kd (upw _ y (.inr (7, [.int th', .ref nM, .ref _, .ref _, .int rf', .int kd, .int md'])))) _ _ _) ?_
    | with_reducible refine gl_Mw (by first | assumption | exact MMz.m (by assumption) | exact MM.fr (by first | assumption | exact MMz.m (by assumption)) (by assumption) | exact MM.ext' (by assumption) (by assumption) | exact (by assumption : ∀ f', MM g w0 y nM kd (upw _ nM (.inl (0, 8, .inr (.inl f'))))) _ | exact (by assumption : ∀ (th' rf' md' : Int32), MM g w0 y nM kd (upw _ y (.inr (7, [.int th', .ref nM, .ref _, .ref _, .int rf', .int kd, .int md'])))) _ _ _) ?_
    | with_reducible exact gtC (by first | assumption | exact MMz.m (by assumption) | exact MM.fr (by first | assumption | exact MMz.m (by assumption)) (by assumption) | exact MM.ext' (by assumption) (by assumption) | exact (by assumption : ∀ f', MM g w0 y nM kd (upw _ nM (.inl (0, 8, .inr (.inl f'))))) _ | exact (by assumption : ∀ (th' rf' md' : Int32), MM g w0 y nM kd (upw _ y (.inr (7, [.int th', .ref nM, .ref _, .ref _, .int rf', .int kd, .int md'])))) _ _ _) (by first | assumption | exact isY.s | exact isY.fr (by assumption) (by assumption))
    | with_reducible exact gtP (by first | assumption | exact MMz.m (by assumption) | exact MM.fr (by first | assumption | exact MMz.m (by assumption)) (by assumption) | exact MM.ext' (by assumption) (by assumption) | exact (by assumption : ∀ f', MM g w0 y nM kd (upw _ nM (.inl (0, 8, .inr (.inl f'))))) _ | exact (by assumption : ∀ (th' rf' md' : Int32), MM g w0 y nM kd (upw _ y (.inr (7, [.int th', .ref nM, .ref _, .ref _, .int rf', .int kd, .int md'])))) _ _ _) (by first | assumption | exact isY.s | exact isY.fr (by assumption) (by assumption))
    | with_reducible refine gl_Row (by first | assumption | exact CAt.row (by assumption) | exact isRow.ext (by assumption) (by assumption)) (fun _ => ?_)
    | with_reducible exact isRow.ca (by first | assumption | exact CAt.row (by assumption) | exact isRow.ext (by assumption) (by assumption))
    | with_reducible refine sGetY (by first | assumption | exact CAt.fr (by assumption) (by assumption)) (by first | assumption | exact isY.s | exact isY.fr (by assumption) (by assumption)) (by assumption) (by first | assumption | exact lt65 (by assumption)) ?_
    | with_reducible exact hQ _ _ (by first | assumption | exact MMz.m (by assumption) | exact MM.fr (by first | assumption | exact MMz.m (by assumption)) (by assumption) | exact MM.ext' (by assumption) (by assumption) | exact (by assumption : ∀ f', MM g w0 y nM kd (upw _ nM (.inl (0, 8, .inr (.inl f'))))) _ | exact (by assumption : ∀ (th' rf' md' : Int32), MM g w0 y nM kd (upw _ y (.inr (7, [.int th', .ref nM, .ref _, .ref _, .int rf', .int kd, .int md'])))) _ _ _)
    | with_reducible exact hQ _ (by first | assumption | exact MMz.m (by assumption) | exact MM.fr (by first | assumption | exact MMz.m (by assumption)) (by assumption) | exact MM.ext' (by assumption) (by assumption) | exact (by assumption : ∀ f', MM g w0 y nM kd (upw _ nM (.inl (0, 8, .inr (.inl f'))))) _ | exact (by assumption : ∀ (th' rf' md' : Int32), MM g w0 y nM kd (upw _ y (.inr (7, [.int th', .ref nM, .ref _, .ref _, .int rf', .int kd, .int md'])))) _ _ _)
    | with_reducible exact hQ _
    | with_reducible exact n4g
    | with_reducible exact n4a
    | with_reducible exact n4b
    | with_reducible exact n4c
    | with_reducible refine sX3_high (fun _ => ?_)
    | with_reducible refine sX3_low (fun _ => ?_)
    | with_reducible refine sX3_one (fun _ => ?_)
    | with_reducible refine sX3_become (by first | assumption | exact MMz.m (by assumption) | exact MM.fr (by first | assumption | exact MMz.m (by assumption)) (by assumption) | exact MM.ext' (by assumption) (by assumption) | exact (by assumption : ∀ f', MM g w0 y nM kd (upw _ nM (.inl (0, 8, .inr (.inl f'))))) _ | exact (by assumption : ∀ (th' rf' md' : Int32), MM g w0 y nM kd (upw _ y (.inr (7, [.int th', .ref nM, .ref _, .ref _, .int rf', .int kd, .int md'])))) _ _ _) (by assumption) (by assumption) (fun _ _ _ => ?_)
    | with_reducible refine sX3_no (by first | assumption | exact MMz.m (by assumption) | exact MM.fr (by first | assumption | exact MMz.m (by assumption)) (by assumption) | exact MM.ext' (by assumption) (by assumption) | exact (by assumption : ∀ f', MM g w0 y nM kd (upw _ nM (.inl (0, 8, .inr (.inl f'))))) _ | exact (by assumption : ∀ (th' rf' md' : Int32), MM g w0 y nM kd (upw _ y (.inr (7, [.int th', .ref nM, .ref _, .ref _, .int rf', .int kd, .int md'])))) _ _ _) (fun _ _ => ?_)
    | with_reducible refine sX3_fixed (by first | assumption | exact CAt.row (by assumption) | exact isRow.ext (by assumption) (by assumption)) ?_ ?_
    | with_reducible refine sX3_small (by first | assumption | exact CAt.row (by assumption) | exact isRow.ext (by assumption) (by assumption)) ?_ ?_
    | with_reducible refine sX3_make (by first | assumption | exact MMz.m (by assumption) | exact MM.fr (by first | assumption | exact MMz.m (by assumption)) (by assumption) | exact MM.ext' (by assumption) (by assumption) | exact (by assumption : ∀ f', MM g w0 y nM kd (upw _ nM (.inl (0, 8, .inr (.inl f'))))) _ | exact (by assumption : ∀ (th' rf' md' : Int32), MM g w0 y nM kd (upw _ y (.inr (7, [.int th', .ref nM, .ref _, .ref _, .int rf', .int kd, .int md'])))) _ _ _) (by assumption) (by assumption) (fun _ _ _ => ?_)
    | with_reducible refine sX3_valid (by first | assumption | exact CAt.row (by assumption) | exact isRow.ext (by assumption) (by assumption)) ?_ ?_
    | with_reducible refine sX3_same (by first | assumption | exact CAt.row (by assumption) | exact isRow.ext (by assumption) (by assumption)) (by first | assumption | exact CAt.row (by assumption) | exact isRow.ext (by assumption) (by assumption)) (fun _ _ => ?_)
    | with_reducible refine sX3_aroundNow (by first | assumption | exact CAt.row (by assumption) | exact isRow.ext (by assumption) (by assumption)) (by assumption) (by assumption) (fun _ => ?_)
    | with_reducible refine sX3_whoNow (by first | assumption | exact MMz.m (by assumption) | exact MM.fr (by first | assumption | exact MMz.m (by assumption)) (by assumption) | exact MM.ext' (by assumption) (by assumption) | exact (by assumption : ∀ f', MM g w0 y nM kd (upw _ nM (.inl (0, 8, .inr (.inl f'))))) _ | exact (by assumption : ∀ (th' rf' md' : Int32), MM g w0 y nM kd (upw _ y (.inr (7, [.int th', .ref nM, .ref _, .ref _, .int rf', .int kd, .int md'])))) _ _ _) (by assumption) (by assumption) (fun _ => ?_)
    | with_reducible refine sX3_whichNow_ (by first | assumption | exact MMz.m (by assumption) | exact MM.fr (by first | assumption | exact MMz.m (by assumption)) (by assumption) | exact MM.ext' (by assumption) (by assumption) | exact (by assumption : ∀ f', MM g w0 y nM kd (upw _ nM (.inl (0, 8, .inr (.inl f'))))) _ | exact (by assumption : ∀ (th' rf' md' : Int32), MM g w0 y nM kd (upw _ y (.inr (7, [.int th', .ref nM, .ref _, .ref _, .int rf', .int kd, .int md'])))) _ _ _) (fun _ => ?_)
    | with_reducible refine sX3_likesNow (by first | assumption | exact MMz.m (by assumption) | exact MM.fr (by first | assumption | exact MMz.m (by assumption)) (by assumption) | exact MM.ext' (by assumption) (by assumption) | exact (by assumption : ∀ f', MM g w0 y nM kd (upw _ nM (.inl (0, 8, .inr (.inl f'))))) _ | exact (by assumption : ∀ (th' rf' md' : Int32), MM g w0 y nM kd (upw _ y (.inr (7, [.int th', .ref nM, .ref _, .ref _, .int rf', .int kd, .int md'])))) _ _ _) (by assumption) (by assumption) (by assumption) (fun _ => ?_)
    | with_reducible refine sX3_isNoPair (by first | assumption | exact MMz.m (by assumption) | exact MM.fr (by first | assumption | exact MMz.m (by assumption)) (by assumption) | exact MM.ext' (by assumption) (by assumption) | exact (by assumption : ∀ f', MM g w0 y nM kd (upw _ nM (.inl (0, 8, .inr (.inl f'))))) _ | exact (by assumption : ∀ (th' rf' md' : Int32), MM g w0 y nM kd (upw _ y (.inr (7, [.int th', .ref nM, .ref _, .ref _, .int rf', .int kd, .int md'])))) _ _ _) (fun _ _ => ?_) (fun _ _ _ _ _ _ _ _ => ?_)
    | with_reducible refine sX3_isNoEnd_ (by first | assumption | exact MMz.m (by assumption) | exact MM.fr (by first | assumption | exact MMz.m (by assumption)) (by assumption) | exact MM.ext' (by assumption) (by assumption) | exact (by assumption : ∀ f', MM g w0 y nM kd (upw _ nM (.inl (0, 8, .inr (.inl f'))))) _ | exact (by assumption : ∀ (th' rf' md' : Int32), MM g w0 y nM kd (upw _ y (.inr (7, [.int th', .ref nM, .ref _, .ref _, .int rf', .int kd, .int md'])))) _ _ _) (fun _ _ => ?_) (fun _ _ _ _ _ _ _ _ => ?_)
    | with_reducible refine sX3_seekNowM (by first | assumption | exact MMz.m (by assumption) | exact MM.fr (by first | assumption | exact MMz.m (by assumption)) (by assumption) | exact MM.ext' (by assumption) (by assumption) | exact (by assumption : ∀ f', MM g w0 y nM kd (upw _ nM (.inl (0, 8, .inr (.inl f'))))) _ | exact (by assumption : ∀ (th' rf' md' : Int32), MM g w0 y nM kd (upw _ y (.inr (7, [.int th', .ref nM, .ref _, .ref _, .int rf', .int kd, .int md'])))) _ _ _) (by assumption) (by assumption) (by assumption) (fun _ _ _ _ => ?_)
    | with_reducible refine sSetYR (by first | assumption | exact MMz.m (by assumption) | exact MM.fr (by first | assumption | exact MMz.m (by assumption)) (by assumption) | exact MM.ext' (by assumption) (by assumption) | exact (by assumption : ∀ f', MM g w0 y nM kd (upw _ nM (.inl (0, 8, .inr (.inl f'))))) _ | exact (by assumption : ∀ (th' rf' md' : Int32), MM g w0 y nM kd (upw _ y (.inr (7, [.int th', .ref nM, .ref _, .ref _, .int rf', .int kd, .int md'])))) _ _ _) (by first | assumption | exact isY.s | exact isY.fr (by assumption) (by assumption)) (by first | assumption | exact CAt.row (by assumption) | exact isRow.ext (by assumption) (by assumption) | exact isRow.ext (by assumption) (ext_up2 ext.rf (by assumption))) (by assumption) (by first | assumption | exact lt65 (by assumption)) (fun _ _ => ?_) (fun _ _ _ => ?_)
    | with_reducible refine sSetYN (by first | assumption | exact MMz.m (by assumption) | exact MM.fr (by first | assumption | exact MMz.m (by assumption)) (by assumption) | exact MM.ext' (by assumption) (by assumption) | exact (by assumption : ∀ f', MM g w0 y nM kd (upw _ nM (.inl (0, 8, .inr (.inl f'))))) _ | exact (by assumption : ∀ (th' rf' md' : Int32), MM g w0 y nM kd (upw _ y (.inr (7, [.int th', .ref nM, .ref _, .ref _, .int rf', .int kd, .int md'])))) _ _ _) (by first | assumption | exact isY.s | exact isY.fr (by assumption) (by assumption)) (by assumption) (by first | assumption | exact lt65 (by assumption)) (fun _ _ => ?_) (fun _ _ _ => ?_)
    | with_reducible refine sSizeM (by first | assumption | exact MMz.m (by assumption) | exact MM.fr (by first | assumption | exact MMz.m (by assumption)) (by assumption) | exact MM.ext' (by assumption) (by assumption) | exact (by assumption : ∀ f', MM g w0 y nM kd (upw _ nM (.inl (0, 8, .inr (.inl f'))))) _ | exact (by assumption : ∀ (th' rf' md' : Int32), MM g w0 y nM kd (upw _ y (.inr (7, [.int th', .ref nM, .ref _, .ref _, .int rf', .int kd, .int md'])))) _ _ _) (by first | assumption | exact isY.s | exact isY.fr (by assumption) (by assumption)) (fun _ _ => ?_)
    | with_reducible refine sX3_oftenNow (by first | assumption | exact MMz.m (by assumption) | exact MM.fr (by first | assumption | exact MMz.m (by assumption)) (by assumption) | exact MM.ext' (by assumption) (by assumption) | exact (by assumption : ∀ f', MM g w0 y nM kd (upw _ nM (.inl (0, 8, .inr (.inl f'))))) _ | exact (by assumption : ∀ (th' rf' md' : Int32), MM g w0 y nM kd (upw _ y (.inr (7, [.int th', .ref nM, .ref _, .ref _, .int rf', .int kd, .int md'])))) _ _ _) (by assumption) (by assumption) (by assumption) (fun _ _ _ => ?_)
    | with_reducible exact hQ _ _ (MM.ext' (MMz.m (by assumption)) (by assumption))
    | with_reducible refine sX3_pileNowM (by first | assumption | exact MMz.m (by assumption) | exact MM.fr (by first | assumption | exact MMz.m (by assumption)) (by assumption) | exact MM.ext' (by assumption) (by assumption) | exact (by assumption : ∀ f', MM g w0 y nM kd (upw _ nM (.inl (0, 8, .inr (.inl f'))))) _ | exact (by assumption : ∀ (th' rf' md' : Int32), MM g w0 y nM kd (upw _ y (.inr (7, [.int th', .ref nM, .ref _, .ref _, .int rf', .int kd, .int md'])))) _ _ _) (by assumption) (by assumption) (by assumption) (by assumption) (fun _ _ _ => ?_)
    | simp only [eX3_pile_0, eX3_pile_0N, eX3_pile_1, eX3_pile_2, eX3_pile_5, eX3_pile_6, eX3_pile_9, eX3_pile_12, eX3_pile_12N, eX3_pile_13, eX3_pile_14, eX3_pile_15, eX3_pile_16, eX3_pile_19, eX3_pile_22, eX3_pile_23, eX3_pile_26, eX3_pile_27, eX3_pile_28, eX3_pile_31, eX3_pile_34, eX3_pile_35, eX3_pile_38, eX3_pile_38N, eX3_pile_39, eX3_pile_40, eX3_pile_41, eX3_pile_44, ite_le, n45, n54, true_or, or_true, false_or, or_false, false_and, and_false, kx_l, kx_r, go_s, gl_s, gi_s, gb_s2, gb_s3, gq_s, wt_nil, wt_int, wt_long, wt_ref, wt_null, nl_int, nl_long, nl_ref, nl_null, nl_none, rf_n, rf_s, rf_st, tl_s, tl_n, g0, gS, ex1, nb_b, nb_0, nb_1, nf_i, nf_l, nf_ra, nf_ro, nf_na, nf_no, nf_b0, nf_z0, t45_4, t45_5, true_and, and_true, List.set_cons_zero, List.set_cons_succ, List.length_cons, List.length_nil, rd_s, upw_s, ne_eq, not_false_eq_true, Nat.zero_add, Nat.add_zero, if_true, if_false, eq_self, m10, n4e, upw2q]
    | split
    | with_reducible intro _
    | omega
end
