section
section
variable {g : RO} {Q : Ot → Hw → Prop} {w0 w : Hw}
variable {y nM : Nat} {kd : Int32}
set_option maxHeartbeats 4000000 in
theorem lX3_houseNow_10 {a n mc : Int32} {L D2 c2 q : Nat} {h2 : Nat → Option Nat} (hM : MM g w0 y nM kd w) (k0 : ¬ a < 0) (k1 : ¬ 4 < a) (hL : w L = some (.inr (3, [.int mc, .ref D2, .int n]))) (hl : LL g w L D2 c2 n h2) (hr : ∀ i b, h2 i = some b → isRow w b) (hn : n.toInt ≤ 12) (hq : rd g w q = none) (hQ : ∀ (v : Int32) w', ext g w w' → Q (.inl (some (.int v))) w') : ∀ (d : Nat) (i2 c lr : Int32) (o4 : Option Value) (k m : Nat), n.toInt - c.toInt ≤ (d : Int) → 0 ≤ c.toInt → c.toInt ≤ n.toInt → k ≤ 1 → m ≤ 4 → WP (MX3_houseNow g) Q (10, [some (.ref y), some (.int a), some (.int i2), some (.ref q), o4], [], upw w q (.inr (2, [.int c, .int lr, .int mc, .ref L])), k, m) := by
  have hLq : ∀ o, upw w q o L = some (.inr (3, [.int mc, .ref D2, .int n])) := fun o => (ext_up2 ext.rf hq).1 _ _ hL
  intro d
  induction d with
  | zero =>
    intro i2 c lr o4 k m hm c0 c1 hk hs
    rw [eX3_houseNow_10]
    simp only [eX3_houseNow_11, go_s, wt_nil, true_and, rd_s, Nat.add_zero]
    with_reducible refine And.intro ?_ ?_
    omega
    with_reducible refine And.intro ?_ ?_
    omega
    with_reducible refine And.intro ?_ ?_
    omega
    with_reducible refine sJx35411_hasNext_aae02 (cap := 0) (upw_s _ _ _) (hLq _) (fun _ => ?_) (fun _ => ?_)
    simp only [eX3_houseNow_16, eX3_houseNow_19, eX3_houseNow_49, eX3_houseNow_52R, eX3_houseNow_56R, kx_l, go_s, gi_s, wt_nil, tl_s, true_and, rd_s, upw_s, Nat.add_zero, if_true, upw2q, n5e, gi_s]
    with_reducible refine And.intro ?_ ?_
    with_reducible exact n5a
    with_reducible refine And.intro ?_ ?_
    omega
    with_reducible refine And.intro ?_ ?_
    omega
    with_reducible refine And.intro ?_ ?_
    omega
    with_reducible intro _
    with_reducible intro _
    with_reducible refine And.intro ?_ ?_
    with_reducible exact vpi5x.1
    with_reducible refine go_Y (hM.ext' (by first | assumption | exact ext.rf | exact ext_up2 ext.rf (by assumption) | exact ext_up3 (by assumption) (by assumption) | exact ext_up3 (ext_up2 ext.rf (by assumption)) (by assumption))) (fun _ _ _ _ _ _ => ?_)
    simp only [eX3_houseNow_62, wt_nil, wt_int, wt_ref, g0, gS, ex1, Nat.add_zero]
    with_reducible refine And.intro ?_ ?_
    with_reducible exact gtP (hM.ext' (by first | assumption | exact ext.rf | exact ext_up2 ext.rf (by assumption) | exact ext_up3 (by assumption) (by assumption) | exact ext_up3 (ext_up2 ext.rf (by assumption)) (by assumption))) (by first | assumption | exact isY.s | exact isY.fr (by assumption) (by assumption))
    with_reducible refine And.intro ?_ ?_
    omega
    with_reducible refine And.intro ?_ ?_
    omega
    with_reducible refine And.intro ?_ ?_
    omega
    with_reducible refine sSizeM (hM.ext' (by first | assumption | exact ext.rf | exact ext_up2 ext.rf (by assumption) | exact ext_up3 (by assumption) (by assumption) | exact ext_up3 (ext_up2 ext.rf (by assumption)) (by assumption))) (by first | assumption | exact isY.s | exact isY.fr (by assumption) (by assumption)) (fun _ _ => ?_)
    simp only [eX3_houseNow_65, eX3_houseNow_66R, kx_l, gi_s, tl_s, upw_s, upw2q, gi_s]
    with_reducible refine And.intro ?_ ?_
    with_reducible exact vpi5x.2.1
    with_reducible refine go_Y (hM.ext' (by first | assumption | exact ext.rf | exact ext_up2 ext.rf (by assumption) | exact ext_up3 (by assumption) (by assumption) | exact ext_up3 (ext_up2 ext.rf (by assumption)) (by assumption))) (fun _ _ _ _ _ _ => ?_)
    simp only [eX3_houseNow_72, eX3_houseNow_73R, gi_s, g0, gS, ex1, upw_s, upw2q, gi_s]
    with_reducible refine And.intro ?_ ?_
    with_reducible exact vpi5x.2.2.1
    with_reducible refine go_Y (hM.ext' (by first | assumption | exact ext.rf | exact ext_up2 ext.rf (by assumption) | exact ext_up3 (by assumption) (by assumption) | exact ext_up3 (ext_up2 ext.rf (by assumption)) (by assumption))) (fun _ _ _ _ _ _ => ?_)
    simp only [eX3_houseNow_79, eX3_houseNow_80R, gi_s, g0, gS, ex1, upw_s, upw2q, gi_s]
    with_reducible refine And.intro ?_ ?_
    with_reducible exact vpi5x.2.2.2.1
    with_reducible refine go_Y (hM.ext' (by first | assumption | exact ext.rf | exact ext_up2 ext.rf (by assumption) | exact ext_up3 (by assumption) (by assumption) | exact ext_up3 (ext_up2 ext.rf (by assumption)) (by assumption))) (fun _ _ _ _ _ _ => ?_)
    simp only [eX3_houseNow_86, eX3_houseNow_87, eX3_houseNow_91, gi_s, nl_int, g0, gS, ex1, rd_s, upw_s, upw2q, gi_s]
    with_reducible refine And.intro ?_ ?_
    with_reducible exact vpi5x.2.2.2.2
    with_reducible refine And.intro ?_ ?_
    with_reducible exact vpi5n k0 k1
    with_reducible refine And.intro ?_ ?_
    omega
    with_reducible refine And.intro ?_ ?_
    omega
    with_reducible exact hQ _ _ (by first | assumption | exact ext.rf | exact ext_up2 ext.rf (by assumption) | exact ext_up3 (by assumption) (by assumption) | exact ext_up3 (ext_up2 ext.rf (by assumption)) (by assumption))
    with_reducible exact (itz (by assumption) (by assumption) (by assumption)).elim
  | succ d ih =>
    intro i2 c lr o4 k m hm c0 c1 hk hs
    rw [eX3_houseNow_10]
    simp only [eX3_houseNow_11, go_s, wt_nil, true_and, rd_s, Nat.add_zero]
    with_reducible refine And.intro ?_ ?_
    omega
    with_reducible refine And.intro ?_ ?_
    omega
    with_reducible refine And.intro ?_ ?_
    omega
    with_reducible refine sJx35411_hasNext_aae02 (cap := 0) (upw_s _ _ _) (hLq _) (fun _ => ?_) (fun _ => ?_)
    simp only [eX3_houseNow_16, eX3_houseNow_19, eX3_houseNow_49, eX3_houseNow_52R, eX3_houseNow_56R, kx_l, go_s, gi_s, wt_nil, tl_s, true_and, rd_s, upw_s, Nat.add_zero, if_true, upw2q, n5e, gi_s]
    with_reducible refine And.intro ?_ ?_
    with_reducible exact n5a
    with_reducible refine And.intro ?_ ?_
    omega
    with_reducible refine And.intro ?_ ?_
    omega
    with_reducible refine And.intro ?_ ?_
    omega
    with_reducible intro _
    with_reducible intro _
    with_reducible refine And.intro ?_ ?_
    with_reducible exact vpi5x.1
    with_reducible refine go_Y (hM.ext' (by first | assumption | exact ext.rf | exact ext_up2 ext.rf (by assumption) | exact ext_up3 (by assumption) (by assumption) | exact ext_up3 (ext_up2 ext.rf (by assumption)) (by assumption))) (fun _ _ _ _ _ _ => ?_)
    simp only [eX3_houseNow_62, wt_nil, wt_int, wt_ref, g0, gS, ex1, Nat.add_zero]
    with_reducible refine And.intro ?_ ?_
    with_reducible exact gtP (hM.ext' (by first | assumption | exact ext.rf | exact ext_up2 ext.rf (by assumption) | exact ext_up3 (by assumption) (by assumption) | exact ext_up3 (ext_up2 ext.rf (by assumption)) (by assumption))) (by first | assumption | exact isY.s | exact isY.fr (by assumption) (by assumption))
    with_reducible refine And.intro ?_ ?_
    omega
    with_reducible refine And.intro ?_ ?_
    omega
    with_reducible refine And.intro ?_ ?_
    omega
    with_reducible refine sSizeM (hM.ext' (by first | assumption | exact ext.rf | exact ext_up2 ext.rf (by assumption) | exact ext_up3 (by assumption) (by assumption) | exact ext_up3 (ext_up2 ext.rf (by assumption)) (by assumption))) (by first | assumption | exact isY.s | exact isY.fr (by assumption) (by assumption)) (fun _ _ => ?_)
    simp only [eX3_houseNow_65, eX3_houseNow_66R, kx_l, gi_s, tl_s, upw_s, upw2q, gi_s]
    with_reducible refine And.intro ?_ ?_
    with_reducible exact vpi5x.2.1
    with_reducible refine go_Y (hM.ext' (by first | assumption | exact ext.rf | exact ext_up2 ext.rf (by assumption) | exact ext_up3 (by assumption) (by assumption) | exact ext_up3 (ext_up2 ext.rf (by assumption)) (by assumption))) (fun _ _ _ _ _ _ => ?_)
    simp only [eX3_houseNow_72, eX3_houseNow_73R, gi_s, g0, gS, ex1, upw_s, upw2q, gi_s]
    with_reducible refine And.intro ?_ ?_
    with_reducible exact vpi5x.2.2.1
    with_reducible refine go_Y (hM.ext' (by first | assumption | exact ext.rf | exact ext_up2 ext.rf (by assumption) | exact ext_up3 (by assumption) (by assumption) | exact ext_up3 (ext_up2 ext.rf (by assumption)) (by assumption))) (fun _ _ _ _ _ _ => ?_)
    simp only [eX3_houseNow_79, eX3_houseNow_80R, gi_s, g0, gS, ex1, upw_s, upw2q, gi_s]
    with_reducible refine And.intro ?_ ?_
    with_reducible exact vpi5x.2.2.2.1
    with_reducible refine go_Y (hM.ext' (by first | assumption | exact ext.rf | exact ext_up2 ext.rf (by assumption) | exact ext_up3 (by assumption) (by assumption) | exact ext_up3 (ext_up2 ext.rf (by assumption)) (by assumption))) (fun _ _ _ _ _ _ => ?_)
    simp only [eX3_houseNow_86, eX3_houseNow_87, eX3_houseNow_91, gi_s, nl_int, g0, gS, ex1, rd_s, upw_s, upw2q, gi_s]
    with_reducible refine And.intro ?_ ?_
    with_reducible exact vpi5x.2.2.2.2
    with_reducible refine And.intro ?_ ?_
    with_reducible exact vpi5n k0 k1
    with_reducible refine And.intro ?_ ?_
    omega
    with_reducible refine And.intro ?_ ?_
    omega
    with_reducible exact hQ _ _ (by first | assumption | exact ext.rf | exact ext_up2 ext.rf (by assumption) | exact ext_up3 (by assumption) (by assumption) | exact ext_up3 (ext_up2 ext.rf (by assumption)) (by assumption))
    simp only [eX3_houseNow_16, eX3_houseNow_19, eX3_houseNow_49, eX3_houseNow_52R, eX3_houseNow_56R, kx_l, go_s, gi_s, wt_nil, tl_s, true_and, rd_s, upw_s, Nat.add_zero, if_false, m10, upw2q, n5e, gi_s]
    with_reducible refine And.intro ?_ ?_
    omega
    with_reducible refine And.intro ?_ ?_
    omega
    with_reducible refine And.intro ?_ ?_
    omega
    with_reducible refine sJx35411_next_0502b (upw_s _ _ _) (hLq _) (hl.nq hq _).rD (by assumption) (itl (by assumption) (by assumption)) hl.nc hl.c15 (fun _ => ?_) (fun _ _ => ?_)
    simp only [eX3_houseNow_25N, eX3_houseNow_28N, eX3_houseNow_30, eX3_houseNow_31N, eX3_houseNow_33N, eX3_houseNow_40, eX3_houseNow_41, kx_l, wt_nil, wt_int, nl_ref, tl_s, Nat.add_zero, upw2q]
    with_reducible refine And.intro ?_ ?_
    omega
    with_reducible refine And.intro ?_ ?_
    omega
    with_reducible refine And.intro ?_ ?_
    omega
    with_reducible refine sX3_one (fun _ => ?_)
    simp only [eX3_houseNow_44, kx_l, nl_int, tl_s]
    with_reducible exact ih _ _ _ _ _ _ (by have e := its (n := n) (by assumption) (by assumption) (by assumption) (by omega); omega) (by have e := its (n := n) (by assumption) (by assumption) (by assumption) (by omega); omega) (by have e := its (n := n) (by assumption) (by assumption) (by assumption) (by omega); omega) (by first | assumption | omega) (by first | assumption | omega)
    simp only [eX3_houseNow_25R, eX3_houseNow_28, eX3_houseNow_30, eX3_houseNow_31, eX3_houseNow_33R, eX3_houseNow_36, eX3_houseNow_41, kx_l, wt_nil, wt_int, nl_ref, tl_s, Nat.add_zero, upw2q]
    with_reducible refine And.intro ?_ ?_
    with_reducible exact isRow.ca ((hr _ _ (by assumption)).ext (ext_up2 ext.rf hq))
    with_reducible refine And.intro ?_ ?_
    omega
    with_reducible refine And.intro ?_ ?_
    omega
    with_reducible refine And.intro ?_ ?_
    omega
    with_reducible refine sX3_one (fun _ => ?_)
    simp only [eX3_houseNow_44, kx_l, nl_int, tl_s]
    with_reducible exact ih _ _ _ _ _ _ (by have e := its (n := n) (by assumption) (by assumption) (by assumption) (by omega); omega) (by have e := its (n := n) (by assumption) (by assumption) (by assumption) (by omega); omega) (by have e := its (n := n) (by assumption) (by assumption) (by assumption) (by omega); omega) (by first | assumption | omega) (by first | assumption | omega)
set_option maxHeartbeats 4000000 in
theorem sX3_houseNow {a : Int32} (hM : MM g w0 y nM kd w) (k0 : ¬ a < 0) (k1 : ¬ 4 < a) (hQ : ∀ (v : Int32) w', ext g w w' → Q (.inl (some (.int v))) w') : WP (MX3_houseNow g) Q (0, [some (.ref y), some (.int a), none, none, none], [], w, 0, 0) := by
  obtain ⟨cL0, pL0, D1, D2, c1, c2, th, rf, md, n, f, h1, h2, a1, a2, a3, a4, a5, a6, a7, a8, a9, b1⟩ := hM.1
  simp only [eX3_houseNow_0, nl_int]
  with_reducible refine go_YE a1 ?_
  simp only [eX3_houseNow_6, wt_nil, g0, gS, ex1, Nat.zero_add]
  with_reducible refine And.intro ?_ ?_
  with_reducible exact a3.gt
  with_reducible refine And.intro ?_ ?_
  omega
  with_reducible refine And.intro ?_ ?_
  omega
  with_reducible refine And.intro ?_ ?_
  omega
  with_reducible refine sJx4a65c_iterator_32c93 a3 (fun _ _ _ _ => ?_)
  simp only [eX3_houseNow_9, kx_l, nl_int, tl_s]
  with_reducible exact lX3_houseNow_10 hM k0 k1 (by assumption) a3 a4 (by decide) (by assumption) hQ 70 _ _ _ _ _ _ (by decide) (by decide) (by decide) (by first | decide | omega) (by first | decide | omega)
end
end
