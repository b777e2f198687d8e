section
section
variable {g : RO} {Q : Ot → Hw → Prop} {w0 w : Hw}
variable {y nM : Nat} {kd : Int32}
set_option maxHeartbeats 4000000 in
theorem lX3_count_56 {a c e : Int32} {b : Nat} (hM : MM g w0 y nM kd w) (hC : CAt g w y a (some b)) (k0 : ¬ a < 0) (k1 : ¬ 5 < a) (k2 : ¬ 60 < e) (hQ : ∀ v : Int32, Q (.inl (some (.int v))) w) : ∀ (d : Nat) (i4 : Int32) (i5 : Int32) (k m : Nat), (e : Int32).toInt - i5.toInt ≤ (d : Int) → k ≤ 0 → m ≤ 0 → WP (MX3_count g) Q (56, [some (.ref y), some (.int a), some (.int c), some (.int e), some (.int i4), some (.int i5)], [], w, k, m) := by
  intro d
  induction d with
  | zero =>
    intro i4 i5 k m hm hk hs
    rw [eX3_count_56]
    simp only [eX3_count_58, eX3_count_62, eX3_count_68, eX3_count_97, ite_le]
    split
    with_reducible exact (ic_z (by assumption) (by assumption)).elim
    with_reducible refine And.intro ?_ ?_
    with_reducible assumption
    with_reducible refine And.intro ?_ ?_
    with_reducible assumption
    with_reducible exact hQ _
  | succ d ih =>
    intro i4 i5 k m hm hk hs
    rw [eX3_count_56]
    simp only [eX3_count_58, eX3_count_62, eX3_count_68, eX3_count_97, ite_le]
    split
    with_reducible refine go_Y (by first | assumption | exact MMz.m (by assumption) | exact MM.fr (by first | assumption | exact MMz.m (by assumption)) (by assumption) | exact MM.ext' (by assumption) (by assumption) | exact (by assumption : ∀ f', MM g w0 y nM kd (upw _ nM (.inl (0, 8, .inr (.inl f'))))) _ | exact (by assumption : ∀ (th' rf' md' : Int32), MM g w0 y nM kd (upw _ y (.inr (7, [.int th', .ref nM, .ref _, .ref _, .int rf', .int kd, .int md'])))) _ _ _) (fun _ _ _ _ _ _ => ?_)
    simp only [eX3_count_69, wt_nil, wt_int, g0, gS, ex1, Nat.add_zero]
    with_reducible refine And.intro ?_ ?_
    with_reducible exact gtC (by first | assumption | exact MMz.m (by assumption) | exact MM.fr (by first | assumption | exact MMz.m (by assumption)) (by assumption) | exact MM.ext' (by assumption) (by assumption) | exact (by assumption : ∀ f', MM g w0 y nM kd (upw _ nM (.inl (0, 8, .inr (.inl f'))))) _ | exact (by assumption : ∀ (th' rf' md' : Int32), MM g w0 y nM kd (upw _ y (.inr (7, [.int th', .ref nM, .ref _, .ref _, .int rf', .int kd, .int md'])))) _ _ _) (by first | assumption | exact isY.s | exact isY.fr (by assumption) (by assumption))
    with_reducible refine And.intro ?_ ?_
    omega
    with_reducible refine And.intro ?_ ?_
    with_reducible assumption
    with_reducible refine And.intro ?_ ?_
    with_reducible assumption
    with_reducible refine sGetY (by first | assumption | exact CAt.fr (by assumption) (by assumption)) (by first | assumption | exact isY.s | exact isY.fr (by assumption) (by assumption)) (by assumption) (by first | assumption | exact lt65 (by assumption)) ?_
    simp only [eX3_count_72R, eX3_count_75, kx_l, wt_nil, wt_int, tl_s, Nat.add_zero]
    with_reducible refine And.intro ?_ ?_
    with_reducible exact isRow.ca (by first | assumption | exact CAt.row (by assumption) | exact isRow.ext (by assumption) (by assumption))
    with_reducible refine And.intro ?_ ?_
    omega
    with_reducible refine And.intro ?_ ?_
    with_reducible assumption
    with_reducible refine And.intro ?_ ?_
    with_reducible assumption
    with_reducible refine sX3_valid (by first | assumption | exact CAt.row (by assumption) | exact isRow.ext (by assumption) (by assumption)) ?_ ?_
    simp only [eX3_count_85, kx_l, wt_nil, wt_int, tl_s, Nat.add_zero]
    with_reducible refine And.intro ?_ ?_
    omega
    with_reducible refine And.intro ?_ ?_
    with_reducible assumption
    with_reducible refine And.intro ?_ ?_
    with_reducible assumption
    with_reducible refine sX3_one (fun _ => ?_)
    simp only [eX3_count_88, kx_l, nl_int, tl_s]
    with_reducible exact ih _ _ _ _ (ic_s (by assumption) (by assumption)) (by first | assumption | omega) (by first | assumption | omega)
    simp only [eX3_count_85, kx_l, wt_nil, wt_int, tl_s, Nat.add_zero]
    with_reducible refine And.intro ?_ ?_
    omega
    with_reducible refine And.intro ?_ ?_
    with_reducible assumption
    with_reducible refine And.intro ?_ ?_
    with_reducible assumption
    with_reducible refine sX3_one (fun _ => ?_)
    simp only [eX3_count_88, kx_l, nl_int, tl_s]
    with_reducible exact ih _ _ _ _ (ic_s (by assumption) (by assumption)) (by first | assumption | omega) (by first | assumption | omega)
    with_reducible refine And.intro ?_ ?_
    with_reducible assumption
    with_reducible refine And.intro ?_ ?_
    with_reducible assumption
    with_reducible exact hQ _
end
end
