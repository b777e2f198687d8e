section
section
variable {g : RO} {Q : Ot → Hw → Prop} {w0 w : Hw}
variable {y nM : Nat} {kd : Int32}
theorem pz_lt {a n : Int32} (h0 : 0 ≤ n.toInt ∧ n.toInt ≤ 12) (h : ¬ n - 1 < a) : a < n := by
  have z1' : (1 : Int32).toInt = 1 := rfl
  have e1 : (n - 1).toInt = n.toInt - 1 := by rw [i32_sub (by omega) (by omega), z1']
  have q := i32_nlt h
  exact i32_of_lt (by omega)
set_option maxHeartbeats 4000000 in
theorem lX3_seekNow_5 {a c n : Int32} {b : Nat} (hM : MM g w0 y nM kd w) (hC : CAt g w y a (some b)) (k0 : ¬ a < 0) (k1 : ¬ 5 < a) (hP : PN g w y n) (hQ : ∀ v : Int32, (v = -1 ∨ (¬ v < 0 ∧ v < n)) → Q (.inl (some (.int v))) w) : ∀ (d : Nat) (i3 : Int32) (i4 : Int32) (k m : Nat), ¬ i4 < 0 → (i3 = -1 ∨ (¬ i3 < 0 ∧ i3 < n)) → (n : Int32).toInt - i4.toInt ≤ (d : Int) → k ≤ 0 → m ≤ 0 → WP (MX3_seekNow g) Q (5, [some (.ref y), some (.int a), some (.int c), some (.int i3), some (.int i4)], [], w, k, m) := by
  intro d
  induction d with
  | zero =>
    intro i3 i4 k m z0 zi hm hk hs
    rw [eX3_seekNow_5]
    simp only [eX3_seekNow_7]
    with_reducible refine go_Y (by first | assumption | exact MMz.m (by assumption) | exact MM.fr (by first | assumption | exact MMz.m (by assumption)) (by assumption) | exact MM.ext' (by assumption) (by assumption) | exact (by assumption : ∀ f', MM g w0 y nM kd (upw _ nM (.inl (0, 8, .inr (.inl f'))))) _ | exact (by assumption : ∀ (th' rf' md' : Int32), MM g w0 y nM kd (upw _ y (.inr (7, [.int th', .ref nM, .ref _, .ref _, .int rf', .int kd, .int md'])))) _ _ _) (fun _ _ _ _ _ _ => ?_)
    simp only [eX3_seekNow_11, wt_nil, wt_int, g0, gS, ex1, Nat.add_zero]
    with_reducible refine And.intro ?_ ?_
    with_reducible exact gtP (by first | assumption | exact MMz.m (by assumption) | exact MM.fr (by first | assumption | exact MMz.m (by assumption)) (by assumption) | exact MM.ext' (by assumption) (by assumption) | exact (by assumption : ∀ f', MM g w0 y nM kd (upw _ nM (.inl (0, 8, .inr (.inl f'))))) _ | exact (by assumption : ∀ (th' rf' md' : Int32), MM g w0 y nM kd (upw _ y (.inr (7, [.int th', .ref nM, .ref _, .ref _, .int rf', .int kd, .int md'])))) _ _ _) (by first | assumption | exact isY.s | exact isY.fr (by assumption) (by assumption))
    with_reducible refine And.intro ?_ ?_
    omega
    with_reducible refine And.intro ?_ ?_
    with_reducible assumption
    with_reducible refine And.intro ?_ ?_
    with_reducible assumption
    with_reducible refine sSizeY (by assumption) (by first | assumption | exact isY.s | exact isY.fr (by assumption) (by assumption)) ?_
    simp only [eX3_seekNow_14, eX3_seekNow_17, eX3_seekNow_21, eX3_seekNow_64, ite_le, kx_l, tl_s]
    split
    with_reducible exact (ic_z (by assumption) (by assumption)).elim
    with_reducible refine And.intro ?_ ?_
    with_reducible assumption
    with_reducible refine And.intro ?_ ?_
    with_reducible assumption
    with_reducible exact hQ _ (by assumption)
  | succ d ih =>
    intro i3 i4 k m z0 zi hm hk hs
    rw [eX3_seekNow_5]
    simp only [eX3_seekNow_7]
    with_reducible refine go_Y (by first | assumption | exact MMz.m (by assumption) | exact MM.fr (by first | assumption | exact MMz.m (by assumption)) (by assumption) | exact MM.ext' (by assumption) (by assumption) | exact (by assumption : ∀ f', MM g w0 y nM kd (upw _ nM (.inl (0, 8, .inr (.inl f'))))) _ | exact (by assumption : ∀ (th' rf' md' : Int32), MM g w0 y nM kd (upw _ y (.inr (7, [.int th', .ref nM, .ref _, .ref _, .int rf', .int kd, .int md'])))) _ _ _) (fun _ _ _ _ _ _ => ?_)
    simp only [eX3_seekNow_11, wt_nil, wt_int, g0, gS, ex1, Nat.add_zero]
    with_reducible refine And.intro ?_ ?_
    with_reducible exact gtP (by first | assumption | exact MMz.m (by assumption) | exact MM.fr (by first | assumption | exact MMz.m (by assumption)) (by assumption) | exact MM.ext' (by assumption) (by assumption) | exact (by assumption : ∀ f', MM g w0 y nM kd (upw _ nM (.inl (0, 8, .inr (.inl f'))))) _ | exact (by assumption : ∀ (th' rf' md' : Int32), MM g w0 y nM kd (upw _ y (.inr (7, [.int th', .ref nM, .ref _, .ref _, .int rf', .int kd, .int md'])))) _ _ _) (by first | assumption | exact isY.s | exact isY.fr (by assumption) (by assumption))
    with_reducible refine And.intro ?_ ?_
    omega
    with_reducible refine And.intro ?_ ?_
    with_reducible assumption
    with_reducible refine And.intro ?_ ?_
    with_reducible assumption
    with_reducible refine sSizeY (by assumption) (by first | assumption | exact isY.s | exact isY.fr (by assumption) (by assumption)) ?_
    simp only [eX3_seekNow_14, eX3_seekNow_17, eX3_seekNow_21, eX3_seekNow_64, ite_le, kx_l, tl_s]
    split
    with_reducible refine go_Y (by first | assumption | exact MMz.m (by assumption) | exact MM.fr (by first | assumption | exact MMz.m (by assumption)) (by assumption) | exact MM.ext' (by assumption) (by assumption) | exact (by assumption : ∀ f', MM g w0 y nM kd (upw _ nM (.inl (0, 8, .inr (.inl f'))))) _ | exact (by assumption : ∀ (th' rf' md' : Int32), MM g w0 y nM kd (upw _ y (.inr (7, [.int th', .ref nM, .ref _, .ref _, .int rf', .int kd, .int md'])))) _ _ _) (fun _ _ _ _ _ _ => ?_)
    simp only [eX3_seekNow_23, wt_nil, g0, gS, ex1, Nat.add_zero]
    with_reducible refine And.intro ?_ ?_
    with_reducible exact gtP (by first | assumption | exact MMz.m (by assumption) | exact MM.fr (by first | assumption | exact MMz.m (by assumption)) (by assumption) | exact MM.ext' (by assumption) (by assumption) | exact (by assumption : ∀ f', MM g w0 y nM kd (upw _ nM (.inl (0, 8, .inr (.inl f'))))) _ | exact (by assumption : ∀ (th' rf' md' : Int32), MM g w0 y nM kd (upw _ y (.inr (7, [.int th', .ref nM, .ref _, .ref _, .int rf', .int kd, .int md'])))) _ _ _) (by first | assumption | exact isY.s | exact isY.fr (by assumption) (by assumption))
    with_reducible refine And.intro ?_ ?_
    omega
    with_reducible refine And.intro ?_ ?_
    with_reducible assumption
    with_reducible refine And.intro ?_ ?_
    with_reducible assumption
    with_reducible refine sGetP (by assumption) (by first | assumption | exact isY.s | exact isY.fr (by assumption) (by assumption)) (by assumption) (by assumption) (fun _ _ => ?_)
    simp only [eX3_seekNow_26R, eX3_seekNow_29, eX3_seekNow_33, kx_l, tl_s]
    with_reducible refine And.intro ?_ ?_
    with_reducible exact isRow.ca (by first | assumption | exact CAt.row (by assumption) | exact isRow.ext (by assumption) (by assumption))
    with_reducible refine go_Y (by first | assumption | exact MMz.m (by assumption) | exact MM.fr (by first | assumption | exact MMz.m (by assumption)) (by assumption) | exact MM.ext' (by assumption) (by assumption) | exact (by assumption : ∀ f', MM g w0 y nM kd (upw _ nM (.inl (0, 8, .inr (.inl f'))))) _ | exact (by assumption : ∀ (th' rf' md' : Int32), MM g w0 y nM kd (upw _ y (.inr (7, [.int th', .ref nM, .ref _, .ref _, .int rf', .int kd, .int md'])))) _ _ _) (fun _ _ _ _ _ _ => ?_)
    simp only [eX3_seekNow_34, wt_nil, wt_ref, g0, gS, ex1, Nat.add_zero]
    with_reducible refine And.intro ?_ ?_
    with_reducible exact gtC (by first | assumption | exact MMz.m (by assumption) | exact MM.fr (by first | assumption | exact MMz.m (by assumption)) (by assumption) | exact MM.ext' (by assumption) (by assumption) | exact (by assumption : ∀ f', MM g w0 y nM kd (upw _ nM (.inl (0, 8, .inr (.inl f'))))) _ | exact (by assumption : ∀ (th' rf' md' : Int32), MM g w0 y nM kd (upw _ y (.inr (7, [.int th', .ref nM, .ref _, .ref _, .int rf', .int kd, .int md'])))) _ _ _) (by first | assumption | exact isY.s | exact isY.fr (by assumption) (by assumption))
    with_reducible refine And.intro ?_ ?_
    omega
    with_reducible refine And.intro ?_ ?_
    with_reducible assumption
    with_reducible refine And.intro ?_ ?_
    with_reducible assumption
    with_reducible refine sGetY (by first | assumption | exact CAt.fr (by assumption) (by assumption)) (by first | assumption | exact isY.s | exact isY.fr (by assumption) (by assumption)) (by assumption) (by first | assumption | exact lt65 (by assumption)) ?_
    simp only [eX3_seekNow_37R, eX3_seekNow_40RR, kx_l, wt_nil, tl_s, Nat.add_zero]
    with_reducible refine And.intro ?_ ?_
    with_reducible exact isRow.ca (by first | assumption | exact CAt.row (by assumption) | exact isRow.ext (by assumption) (by assumption))
    with_reducible refine And.intro ?_ ?_
    omega
    with_reducible refine And.intro ?_ ?_
    with_reducible assumption
    with_reducible refine And.intro ?_ ?_
    with_reducible assumption
    with_reducible refine sX3_same (by first | assumption | exact CAt.row (by assumption) | exact isRow.ext (by assumption) (by assumption)) (by first | assumption | exact CAt.row (by assumption) | exact isRow.ext (by assumption) (by assumption)) (fun _ _ => ?_)
    simp only [eX3_seekNow_43, eX3_seekNow_46, eX3_seekNow_50, eX3_seekNow_55, eX3_seekNow_58, kx_l, nl_int, tl_s]
    split
    with_reducible exact ih _ _ _ _ (ic_p (by assumption) (by assumption)) (by first | assumption | exact Or.inr ⟨by assumption, by assumption⟩) (ic_s (by assumption) (by assumption)) (by first | assumption | omega) (by first | assumption | omega)
    split
    split
    with_reducible exact ih _ _ _ _ (ic_p (by assumption) (by assumption)) (by first | assumption | exact Or.inr ⟨by assumption, by assumption⟩) (ic_s (by assumption) (by assumption)) (by first | assumption | omega) (by first | assumption | omega)
    with_reducible exact ih _ _ _ _ (ic_p (by assumption) (by assumption)) (by first | assumption | exact Or.inr ⟨by assumption, by assumption⟩) (ic_s (by assumption) (by assumption)) (by first | assumption | omega) (by first | assumption | omega)
    with_reducible exact ih _ _ _ _ (ic_p (by assumption) (by assumption)) (by first | assumption | exact Or.inr ⟨by assumption, by assumption⟩) (ic_s (by assumption) (by assumption)) (by first | assumption | omega) (by first | assumption | omega)
    with_reducible refine And.intro ?_ ?_
    with_reducible assumption
    with_reducible refine And.intro ?_ ?_
    with_reducible assumption
    with_reducible exact hQ _ (by assumption)
set_option maxHeartbeats 4000000 in
theorem sX3_seekNow {a c n : Int32} {b : Nat} (hM : MM g w0 y nM kd w) (hC : CAt g w y a (some b)) (k0 : ¬ a < 0) (k1 : ¬ 5 < a) (hP : PN g w y n) (hQ : ∀ v : Int32, (v = -1 ∨ (¬ v < 0 ∧ v < n)) → Q (.inl (some (.int v))) w) : WP (MX3_seekNow g) Q (0, [some (.ref y), some (.int a), some (.int c), none, none], [], w, 0, 0) := by
  simp only [eX3_seekNow_0, nl_int]
  with_reducible exact lX3_seekNow_5 hM hC k0 k1 hP hQ 70 _ _ _ _ (by first | decide | assumption) (Or.inl rfl) hP.m (by first | decide | omega) (by first | decide | omega)
set_option maxHeartbeats 4000000 in
theorem lX3_isAhead_4 {a n : Int32} (hM : MM g w0 y nM kd w) (hP : PN g w y n) (k0 : ¬ a < 0) (k1 : a < n) (hQ : ∀ v : Int32, Q (.inl (some (.int v))) w) : ∀ (d : Nat) (i2 : Int32) (i3 : Int32) (k m : Nat), ¬ i3 < 0 → (i2 = 0 ∨ i2 = 1) → (a : Int32).toInt - i3.toInt ≤ (d : Int) → k ≤ 0 → m ≤ 0 → WP (MX3_isAhead g) Q (4, [some (.ref y), some (.int a), some (.int i2), some (.int i3)], [], w, k, m) := by
  intro d
  induction d with
  | zero =>
    intro i2 i3 k m z0 zi hm hk hs
    rw [eX3_isAhead_4]
    simp only [eX3_isAhead_5, eX3_isAhead_9, eX3_isAhead_14, eX3_isAhead_43, ite_le]
    split
    with_reducible exact (ic_z (by assumption) (by assumption)).elim
    with_reducible refine And.intro ?_ ?_
    with_reducible exact nbz (by assumption)
    with_reducible refine And.intro ?_ ?_
    with_reducible assumption
    with_reducible refine And.intro ?_ ?_
    with_reducible assumption
    with_reducible exact hQ _
  | succ d ih =>
    intro i2 i3 k m z0 zi hm hk hs
    rw [eX3_isAhead_4]
    simp only [eX3_isAhead_5, eX3_isAhead_9, eX3_isAhead_14, eX3_isAhead_43, ite_le]
    split
    with_reducible refine go_Y (by first | assumption | exact MMz.m (by assumption) | exact MM.fr (by first | assumption | exact MMz.m (by assumption)) (by assumption) | exact MM.ext' (by assumption) (by assumption) | exact (by assumption : ∀ f', MM g w0 y nM kd (upw _ nM (.inl (0, 8, .inr (.inl f'))))) _ | exact (by assumption : ∀ (th' rf' md' : Int32), MM g w0 y nM kd (upw _ y (.inr (7, [.int th', .ref nM, .ref _, .ref _, .int rf', .int kd, .int md'])))) _ _ _) (fun _ _ _ _ _ _ => ?_)
    simp only [eX3_isAhead_15, wt_nil, wt_int, g0, gS, ex1, Nat.add_zero]
    with_reducible refine And.intro ?_ ?_
    with_reducible exact gtP (by first | assumption | exact MMz.m (by assumption) | exact MM.fr (by first | assumption | exact MMz.m (by assumption)) (by assumption) | exact MM.ext' (by assumption) (by assumption) | exact (by assumption : ∀ f', MM g w0 y nM kd (upw _ nM (.inl (0, 8, .inr (.inl f'))))) _ | exact (by assumption : ∀ (th' rf' md' : Int32), MM g w0 y nM kd (upw _ y (.inr (7, [.int th', .ref nM, .ref _, .ref _, .int rf', .int kd, .int md'])))) _ _ _) (by first | assumption | exact isY.s | exact isY.fr (by assumption) (by assumption))
    with_reducible refine And.intro ?_ ?_
    omega
    with_reducible refine And.intro ?_ ?_
    with_reducible assumption
    with_reducible refine And.intro ?_ ?_
    with_reducible assumption
    with_reducible refine sGetP (by assumption) (by first | assumption | exact isY.s | exact isY.fr (by assumption) (by assumption)) (by assumption) (by first | assumption | exact Int32.lt_trans (by assumption) (by assumption)) (fun _ _ => ?_)
    simp only [eX3_isAhead_18R, eX3_isAhead_21, eX3_isAhead_25, kx_l, tl_s]
    with_reducible refine And.intro ?_ ?_
    with_reducible exact isRow.ca (by first | assumption | exact CAt.row (by assumption) | exact isRow.ext (by assumption) (by assumption))
    with_reducible refine go_Y (by first | assumption | exact MMz.m (by assumption) | exact MM.fr (by first | assumption | exact MMz.m (by assumption)) (by assumption) | exact MM.ext' (by assumption) (by assumption) | exact (by assumption : ∀ f', MM g w0 y nM kd (upw _ nM (.inl (0, 8, .inr (.inl f'))))) _ | exact (by assumption : ∀ (th' rf' md' : Int32), MM g w0 y nM kd (upw _ y (.inr (7, [.int th', .ref nM, .ref _, .ref _, .int rf', .int kd, .int md'])))) _ _ _) (fun _ _ _ _ _ _ => ?_)
    simp only [eX3_isAhead_26, wt_nil, wt_int, wt_ref, g0, gS, ex1, Nat.add_zero]
    with_reducible refine And.intro ?_ ?_
    with_reducible exact gtP (by first | assumption | exact MMz.m (by assumption) | exact MM.fr (by first | assumption | exact MMz.m (by assumption)) (by assumption) | exact MM.ext' (by assumption) (by assumption) | exact (by assumption : ∀ f', MM g w0 y nM kd (upw _ nM (.inl (0, 8, .inr (.inl f'))))) _ | exact (by assumption : ∀ (th' rf' md' : Int32), MM g w0 y nM kd (upw _ y (.inr (7, [.int th', .ref nM, .ref _, .ref _, .int rf', .int kd, .int md'])))) _ _ _) (by first | assumption | exact isY.s | exact isY.fr (by assumption) (by assumption))
    with_reducible refine And.intro ?_ ?_
    omega
    with_reducible refine And.intro ?_ ?_
    with_reducible assumption
    with_reducible refine And.intro ?_ ?_
    with_reducible assumption
    with_reducible refine sGetP (by assumption) (by first | assumption | exact isY.s | exact isY.fr (by assumption) (by assumption)) (by assumption) (by first | assumption | exact Int32.lt_trans (by assumption) (by assumption)) (fun _ _ => ?_)
    simp only [eX3_isAhead_29R, eX3_isAhead_32RR, kx_l, wt_nil, wt_int, tl_s, Nat.add_zero]
    with_reducible refine And.intro ?_ ?_
    with_reducible exact isRow.ca (by first | assumption | exact CAt.row (by assumption) | exact isRow.ext (by assumption) (by assumption))
    with_reducible refine And.intro ?_ ?_
    omega
    with_reducible refine And.intro ?_ ?_
    with_reducible assumption
    with_reducible refine And.intro ?_ ?_
    with_reducible assumption
    with_reducible refine sX3_same (by first | assumption | exact CAt.row (by assumption) | exact isRow.ext (by assumption) (by assumption)) (by first | assumption | exact CAt.row (by assumption) | exact isRow.ext (by assumption) (by assumption)) (fun _ _ => ?_)
    simp only [eX3_isAhead_35, kx_l, nl_int, tl_s]
    with_reducible exact ih _ _ _ _ (ic_p (by assumption) (by assumption)) (by first | assumption | exact bor (by assumption) (by assumption)) (ic_s (by assumption) (by assumption)) (by first | assumption | omega) (by first | assumption | omega)
    with_reducible refine And.intro ?_ ?_
    with_reducible exact nbz (by assumption)
    with_reducible refine And.intro ?_ ?_
    with_reducible assumption
    with_reducible refine And.intro ?_ ?_
    with_reducible assumption
    with_reducible exact hQ _
theorem pz_m {a n : Int32} (hP : PN g w y n) (h : a < n) : (a : Int32).toInt - (0 : Int32).toInt ≤ ((70 : Nat) : Int) := by
  have k := hP.bd
  have q := i32_lt h
  have e : (0 : Int32).toInt = 0 := rfl
  omega
set_option maxHeartbeats 4000000 in
theorem sX3_isAhead {a n : Int32} (hM : MM g w0 y nM kd w) (hP : PN g w y n) (k0 : ¬ a < 0) (k1 : a < n) (hQ : ∀ v : Int32, Q (.inl (some (.int v))) w) : WP (MX3_isAhead g) Q (0, [some (.ref y), some (.int a), none, none], [], w, 0, 0) := by
  simp only [eX3_isAhead_0, nl_int]
  with_reducible exact lX3_isAhead_4 hM hP k0 k1 hQ 70 _ _ _ _ (by first | decide | assumption) (Or.inl rfl) (pz_m hP (by assumption)) (by first | decide | omega) (by first | decide | omega)
end
end
