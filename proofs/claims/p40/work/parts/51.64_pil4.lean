section
section
variable {g : RO} {Q : Ot → Hw → Prop} {w0 w : Hw}
variable {y nM : Nat} {kd : Int32}
theorem itl {c n : Int32} (h1 : ¬ c = n) (h2 : c.toInt ≤ n.toInt) : c.toInt < n.toInt := by
  rcases (by omega : c.toInt < n.toInt ∨ n.toInt ≤ c.toInt) with k | k
  · exact k
  · exact absurd (Int32.toInt_inj.mp (by omega)) h1
theorem itz {c n : Int32} (h1 : ¬ c = n) (h2 : c.toInt ≤ n.toInt) (h3 : n.toInt - c.toInt ≤ ((0 : Nat) : Int)) : False := by
  have := itl h1 h2
  omega
theorem itn {c n : Int32} {h : Nat → Option Nat} (hnn : ∀ i : Nat, (i : Int) < n.toInt → ∃ b, h i = some b) (h0 : 0 ≤ c.toInt) (h1 : c.toInt < n.toInt) (e : h c.toNatClampNeg = none) : False := by
  obtain ⟨b, hb⟩ := hnn c.toNatClampNeg (by
    have t : c.toNatClampNeg = c.toInt.toNat := rfl
    omega)
  rw [e] at hb
  cases hb
theorem its {c n : Int32} (h0 : 0 ≤ c.toInt) (h1 : ¬ c = n) (h2 : c.toInt ≤ n.toInt) (hn : n.toInt ≤ 15) : (c + 1).toInt = c.toInt + 1 ∧ c.toInt < n.toInt := by
  have := itl h1 h2
  exact ⟨i32p1 h0 (by omega), this⟩
theorem LL.n0 {L D cap : Nat} {n : Int32} {h : Nat → Option Nat} (hl : LL g w L D cap n h) : 0 ≤ n.toInt := hl.2.2.1
theorem LL.nc {L D cap : Nat} {n : Int32} {h : Nat → Option Nat} (hl : LL g w L D cap n h) : n.toInt ≤ (cap : Int) := hl.2.2.2
theorem LL.nq {L D cap q : Nat} {n : Int32} {h : Nat → Option Nat} (hl : LL g w L D cap n h) (hq : rd g w q = none) (o : Ob) : LL g (upw w q o) L D cap n h := hl.ext (ext_up2 ext.rf hq)
theorem go_YE {K : List Value → Prop} {fs : List Value} (a1 : w y = some (.inr (7, fs))) (k : K fs) : go (rd g w y) 7 K := by
  rw [rd_e a1, go_s]
  exact k
set_option maxHeartbeats 4000000 in
theorem lX3_oftenNow_10 {a n mc : Int32} {b L D2 c2 q : Nat} {h2 : Nat → Option Nat} (hM : MM g w0 y nM kd w) (hC : CAt g w y a (some b)) (k0 : ¬ a < 0) (k1 : ¬ 5 < a) (hL : w L = some (.inr (3, [.int mc, .ref D2, .int n]))) (hl : LL g w L D2 c2 n h2) (hr : ∀ i b, h2 i = some b → isRow w b) (hnn : ∀ i : Nat, (i : Int) < n.toInt → ∃ b, h2 i = some b) (hn : n.toInt ≤ 12) (hq : rd g w q = none) (hQ : ∀ (v : Int32) w', ext g w w' → Q (.inl (some (.int v))) w') : ∀ (d : Nat) (i2 c lr : Int32) (o4 : Option Value) (k m : Nat), n.toInt - c.toInt ≤ (d : Int) → 0 ≤ c.toInt → c.toInt ≤ n.toInt → k ≤ 1 → m ≤ 4 → WP (MX3_oftenNow g) Q (10, [some (.ref y), some (.int a), some (.int i2), some (.ref q), o4], [], upw w q (.inr (2, [.int c, .int lr, .int mc, .ref L])), k, m) := by
  have hLq : ∀ o, upw w q o L = some (.inr (3, [.int mc, .ref D2, .int n])) := fun o => (ext_up2 ext.rf hq).1 _ _ hL
  intro d
  induction d with
  | zero =>
    intro i2 c lr o4 k m hm c0 c1 hk hs
    rw [eX3_oftenNow_10]
    simp only [eX3_oftenNow_11, go_s, wt_nil, true_and, rd_s, Nat.add_zero]
    with_reducible refine And.intro ?_ ?_
    omega
    with_reducible refine And.intro ?_ ?_
    with_reducible assumption
    with_reducible refine And.intro ?_ ?_
    with_reducible assumption
    with_reducible refine sJx35411_hasNext_aae02 (cap := 0) (upw_s _ _ _) (hLq _) (fun _ => ?_) (fun _ => ?_)
    simp only [eX3_oftenNow_16, eX3_oftenNow_19, eX3_oftenNow_55, kx_l, go_s, wt_nil, tl_s, true_and, rd_s, Nat.add_zero, if_true]
    with_reducible refine And.intro ?_ ?_
    with_reducible assumption
    with_reducible refine And.intro ?_ ?_
    with_reducible assumption
    with_reducible exact hQ _ _ (by first | assumption | exact ext.rf | exact ext_up2 ext.rf (by assumption) | exact ext_up2 (by assumption) (by assumption) | exact ext_up2 (ext_up2 ext.rf (by assumption)) (by assumption))
    with_reducible exact (itz (by assumption) (by assumption) (by assumption)).elim
  | succ d ih =>
    intro i2 c lr o4 k m hm c0 c1 hk hs
    rw [eX3_oftenNow_10]
    simp only [eX3_oftenNow_11, go_s, wt_nil, true_and, rd_s, Nat.add_zero]
    with_reducible refine And.intro ?_ ?_
    omega
    with_reducible refine And.intro ?_ ?_
    with_reducible assumption
    with_reducible refine And.intro ?_ ?_
    with_reducible assumption
    with_reducible refine sJx35411_hasNext_aae02 (cap := 0) (upw_s _ _ _) (hLq _) (fun _ => ?_) (fun _ => ?_)
    simp only [eX3_oftenNow_16, eX3_oftenNow_19, eX3_oftenNow_55, kx_l, go_s, wt_nil, tl_s, true_and, rd_s, Nat.add_zero, if_true]
    with_reducible refine And.intro ?_ ?_
    with_reducible assumption
    with_reducible refine And.intro ?_ ?_
    with_reducible assumption
    with_reducible exact hQ _ _ (by first | assumption | exact ext.rf | exact ext_up2 ext.rf (by assumption) | exact ext_up2 (by assumption) (by assumption) | exact ext_up2 (ext_up2 ext.rf (by assumption)) (by assumption))
    simp only [eX3_oftenNow_16, eX3_oftenNow_19, eX3_oftenNow_55, kx_l, go_s, wt_nil, tl_s, true_and, rd_s, Nat.add_zero, if_false, m10]
    with_reducible refine And.intro ?_ ?_
    omega
    with_reducible refine And.intro ?_ ?_
    with_reducible assumption
    with_reducible refine And.intro ?_ ?_
    with_reducible assumption
    with_reducible refine sJx35411_next_0502b (upw_s _ _ _) (hLq _) (hl.nq hq _).rD (by assumption) (itl (by assumption) (by assumption)) hl.nc hl.c15 (fun e => (itn hnn (by assumption) (itl (by assumption) (by assumption)) e).elim) (fun _ _ => ?_)
    simp only [eX3_oftenNow_25R, eX3_oftenNow_28, eX3_oftenNow_37, kx_l, nl_ref, tl_s, upw2q]
    with_reducible refine And.intro ?_ ?_
    with_reducible exact isRow.ca (by first | assumption | exact CAt.row (by assumption) | exact (hr _ _ (by assumption)).ext (ext_up2 ext.rf hq) | exact (CAt.row hC).ext (ext_up2 ext.rf hq) | exact isRow.ext (by assumption) (ext_up2 ext.rf (by assumption)))
    with_reducible refine go_Y (hM.ext' (by first | assumption | exact ext.rf | exact ext_up2 ext.rf (by assumption) | exact ext_up2 (by assumption) (by assumption) | exact ext_up2 (ext_up2 ext.rf (by assumption)) (by assumption))) (fun _ _ _ _ _ _ => ?_)
    simp only [eX3_oftenNow_38, wt_nil, wt_int, wt_ref, g0, gS, ex1, Nat.add_zero]
    with_reducible refine And.intro ?_ ?_
    with_reducible exact gtC (hM.ext' (by first | assumption | exact ext.rf | exact ext_up2 ext.rf (by assumption) | exact ext_up2 (by assumption) (by assumption) | exact ext_up2 (ext_up2 ext.rf (by assumption)) (by assumption))) (by first | assumption | exact isY.s | exact isY.fr (by assumption) (by assumption))
    with_reducible refine And.intro ?_ ?_
    omega
    with_reducible refine And.intro ?_ ?_
    with_reducible assumption
    with_reducible refine And.intro ?_ ?_
    with_reducible assumption
    with_reducible refine sGetY (hC.fr hq) (by first | assumption | exact isY.s | exact isY.fr (by assumption) (by assumption)) k0 k1 ?_
    simp only [eX3_oftenNow_41R, eX3_oftenNow_44RR, kx_l, wt_nil, wt_int, tl_s, Nat.add_zero]
    with_reducible refine And.intro ?_ ?_
    with_reducible exact isRow.ca (by first | assumption | exact CAt.row (by assumption) | exact (hr _ _ (by assumption)).ext (ext_up2 ext.rf hq) | exact (CAt.row hC).ext (ext_up2 ext.rf hq) | exact isRow.ext (by assumption) (ext_up2 ext.rf (by assumption)))
    with_reducible refine And.intro ?_ ?_
    omega
    with_reducible refine And.intro ?_ ?_
    with_reducible assumption
    with_reducible refine And.intro ?_ ?_
    with_reducible assumption
    with_reducible refine sX3_same (by first | assumption | exact CAt.row (by assumption) | exact (hr _ _ (by assumption)).ext (ext_up2 ext.rf hq) | exact (CAt.row hC).ext (ext_up2 ext.rf hq) | exact isRow.ext (by assumption) (ext_up2 ext.rf (by assumption))) (by first | assumption | exact CAt.row (by assumption) | exact (hr _ _ (by assumption)).ext (ext_up2 ext.rf hq) | exact (CAt.row hC).ext (ext_up2 ext.rf hq) | exact isRow.ext (by assumption) (ext_up2 ext.rf (by assumption))) (fun _ _ => ?_)
    simp only [eX3_oftenNow_47, kx_l, wt_nil, wt_int, tl_s, Nat.add_zero]
    with_reducible refine And.intro ?_ ?_
    omega
    with_reducible refine And.intro ?_ ?_
    with_reducible assumption
    with_reducible refine And.intro ?_ ?_
    with_reducible assumption
    with_reducible refine sX3_one (fun _ => ?_)
    simp only [eX3_oftenNow_50, kx_l, nl_int, tl_s]
    with_reducible exact ih _ _ _ _ _ _ (by have e := its (n := n) (by assumption) (by assumption) (by assumption) (by omega); omega) (by have e := its (n := n) (by assumption) (by assumption) (by assumption) (by omega); omega) (by have e := its (n := n) (by assumption) (by assumption) (by assumption) (by omega); omega) (by first | assumption | omega) (by first | assumption | omega)
set_option maxHeartbeats 4000000 in
theorem sX3_oftenNow {a : Int32} {b : Nat} (hM : MM g w0 y nM kd w) (hC : CAt g w y a (some b)) (k0 : ¬ a < 0) (k1 : ¬ 5 < a) (hQ : ∀ (v : Int32) w', ext g w w' → Q (.inl (some (.int v))) w') : WP (MX3_oftenNow g) Q (0, [some (.ref y), some (.int a), none, none, none], [], w, 0, 0) := by
  obtain ⟨cL0, pL0, D1, D2, c1, c2, th, rf, md, n, f, h1, h2, a1, a2, a3, a4, a5, a6, a7, a8, a9, b1⟩ := hM.1
  simp only [eX3_oftenNow_0, nl_int]
  with_reducible refine go_YE a1 ?_
  simp only [eX3_oftenNow_6, wt_nil, g0, gS, ex1, Nat.zero_add]
  with_reducible refine And.intro ?_ ?_
  with_reducible exact a5.gt
  with_reducible refine And.intro ?_ ?_
  omega
  with_reducible refine And.intro ?_ ?_
  omega
  with_reducible refine And.intro ?_ ?_
  omega
  with_reducible refine sJx4a65c_iterator_32c93 a5 (fun _ _ _ _ => ?_)
  simp only [eX3_oftenNow_9, kx_l, nl_int, tl_s]
  with_reducible exact lX3_oftenNow_10 hM hC k0 k1 (by assumption) a5 a6 b1 a7 (by assumption) hQ 70 _ _ _ _ _ _ (by have e := a5.n0; have z : (0 : Int32).toInt = 0 := rfl; omega) (by decide) (by have e := a5.n0; have z : (0 : Int32).toInt = 0 := rfl; omega) (by first | decide | omega) (by first | decide | omega)
end
end
