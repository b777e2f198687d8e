section
section
variable {g : RO} {Q : Ot → Hw → Prop} {w0 w : Hw}
variable {y nM : Nat} {kd : Int32}
theorem lt65 {a : Int32} (h : a < 6) : ¬ 5 < a := by
  have h1 := i32_lt h
  refine i32_of_nlt ?_
  have e : (5 : Int32).toInt = 5 := rfl
  have e6 : (6 : Int32).toInt = 6 := rfl
  omega
theorem vpi4l {a : Int32} (h0 : ¬ a < 0) (h1 : a < 4) : vp_in a 4 := vpi h0 h1 (by decide)
theorem m9 : ((-1 : Int32) = -1) = True := eq_true rfl
theorem nbz {a : Int32} (h : a = 0 ∨ a = 1) : narrow .boolean (.int a) = .int a := by rcases h with rfl | rfl <;> rfl
theorem bz1 {a : Int32} (h : a = 0 ∨ a = 1) : a &&& 1 = 0 ∨ a &&& 1 = 1 := by rcases h with rfl | rfl <;> decide
theorem bz0 {a : Int32} (h : a = 0 ∨ a = 1) : a &&& 0 = 0 ∨ a &&& 0 = 1 := by rcases h with rfl | rfl <;> decide
theorem bor {a b : Int32} (h : a = 0 ∨ a = 1) (k : b = 0 ∨ b = 1) : a ||| b = 0 ∨ a ||| b = 1 := by rcases h with rfl | rfl <;> rcases k with rfl | rfl <;> decide
set_option maxHeartbeats 4000000 in
theorem lX3_same_4 {p q : Nat} (hp : isRow w p) (hq : isRow w q) (hQ : ∀ v : Int32, (v = 0 ∨ v = 1) → Q (.inl (some (.int v))) w) : ∀ (d : Nat) (i2 : Int32) (i3 : Int32) (k m : Nat), ¬ i3 < 0 → (i2 = 0 ∨ i2 = 1) → (4 : Int32).toInt - i3.toInt ≤ (d : Int) → k ≤ 0 → m ≤ 0 → WP (MX3_same g) Q (4, [some (.ref p), some (.ref q), some (.int i2), some (.int i3)], [], w, k, m) := by
  intro d
  induction d with
  | zero =>
    intro i2 i3 k m z0 zi hm hk hs
    rw [eX3_same_4]
    simp only [eX3_same_5, eX3_same_9, eX3_same_13, eX3_same_16, eX3_same_20, eX3_same_24, eX3_same_25, eX3_same_33, ite_le, nl_int, nl_ref]
    split
    with_reducible exact (ic_z (by assumption) (by assumption)).elim
    with_reducible refine And.intro ?_ ?_
    with_reducible exact nbz (by assumption)
    with_reducible refine And.intro ?_ ?_
    with_reducible assumption
    with_reducible refine And.intro ?_ ?_
    with_reducible assumption
    with_reducible exact hQ _ (by assumption)
  | succ d ih =>
    intro i2 i3 k m z0 zi hm hk hs
    rw [eX3_same_4]
    simp only [eX3_same_5, eX3_same_9, eX3_same_13, eX3_same_16, eX3_same_20, eX3_same_24, eX3_same_25, eX3_same_33, ite_le, nl_int, nl_ref]
    split
    with_reducible refine gl_Row (by assumption) (fun _ => ?_)
    with_reducible refine And.intro ?_ ?_
    with_reducible exact vpi4l (by assumption) (by assumption)
    with_reducible refine gl_Row (by assumption) (fun _ => ?_)
    with_reducible refine And.intro ?_ ?_
    with_reducible exact vpi4l (by assumption) (by assumption)
    split
    with_reducible exact ih _ _ _ _ (ic_p (by assumption) (by assumption)) (by first | exact bz1 (by assumption) | exact bz0 (by assumption)) (ic_s (by assumption) (by assumption)) (by first | assumption | omega) (by first | assumption | omega)
    with_reducible exact ih _ _ _ _ (ic_p (by assumption) (by assumption)) (by first | exact bz1 (by assumption) | exact bz0 (by assumption)) (ic_s (by assumption) (by assumption)) (by first | assumption | omega) (by first | assumption | omega)
    with_reducible refine And.intro ?_ ?_
    with_reducible exact nbz (by assumption)
    with_reducible refine And.intro ?_ ?_
    with_reducible assumption
    with_reducible refine And.intro ?_ ?_
    with_reducible assumption
    with_reducible exact hQ _ (by assumption)
set_option maxHeartbeats 4000000 in
theorem sX3_same {p q : Nat} (hp : isRow w p) (hq : isRow w q) (hQ : ∀ v : Int32, (v = 0 ∨ v = 1) → Q (.inl (some (.int v))) w) : WP (MX3_same g) Q (0, [some (.ref p), some (.ref q), none, none], [], w, 0, 0) := by
  simp only [eX3_same_0, nl_int, nl_ref]
  with_reducible exact lX3_same_4 hp hq hQ 70 _ _ _ _ (by first | decide | assumption) (Or.inr rfl) (by decide) (by first | decide | omega) (by first | decide | omega)
set_option maxHeartbeats 4000000 in
theorem lX3_aroundNow_5 {p : Nat} {a c : Int32} (hp : isRow w p) (k0 : ¬ a < 0) (k1 : ¬ 3 < a) (hQ : ∀ v : Int32, Q (.inl (some (.int v))) w) : ∀ (d : Nat) (i3 : Int32) (i4 : Int32) (k m : Nat), (1 : Int32).toInt + 1 - i4.toInt ≤ (d : Int) → k ≤ 0 → m ≤ 0 → WP (MX3_aroundNow g) Q (5, [some (.ref p), some (.int a), some (.int c), some (.int i3), some (.int i4)], [], w, k, m) := by
  intro d
  induction d with
  | zero =>
    intro i3 i4 k m hm hk hs
    rw [eX3_aroundNow_5]
    simp only [eX3_aroundNow_7, eX3_aroundNow_11, eX3_aroundNow_16, eX3_aroundNow_45, wt_nil, wt_int, Nat.add_zero]
    split
    with_reducible refine And.intro ?_ ?_
    with_reducible assumption
    with_reducible refine And.intro ?_ ?_
    with_reducible assumption
    with_reducible exact hQ _
    with_reducible exact (ic_zl (by assumption) (by assumption)).elim
  | succ d ih =>
    intro i3 i4 k m hm hk hs
    rw [eX3_aroundNow_5]
    simp only [eX3_aroundNow_7, eX3_aroundNow_11, eX3_aroundNow_16, eX3_aroundNow_45, wt_nil, wt_int, Nat.add_zero]
    split
    with_reducible refine And.intro ?_ ?_
    with_reducible assumption
    with_reducible refine And.intro ?_ ?_
    with_reducible assumption
    with_reducible exact hQ _
    with_reducible refine gl_Row (by assumption) (fun _ => ?_)
    with_reducible refine And.intro ?_ ?_
    with_reducible exact vpi4n (by assumption) (by assumption)
    with_reducible refine And.intro ?_ ?_
    omega
    with_reducible refine And.intro ?_ ?_
    with_reducible assumption
    with_reducible refine And.intro ?_ ?_
    with_reducible assumption
    with_reducible refine sX3_valid (by assumption) ?_ ?_
    simp only [eX3_aroundNow_24, eX3_aroundNow_27, eX3_aroundNow_36, eX3_aroundNow_37, kx_l, nl_int, tl_s, if_false, m10]
    with_reducible exact ih _ _ _ _ (ic_sl (by assumption) (by assumption) (by decide)) (by first | assumption | omega) (by first | assumption | omega)
    simp only [eX3_aroundNow_24, eX3_aroundNow_27, eX3_aroundNow_36, eX3_aroundNow_37, kx_l, nl_int, tl_s, if_true]
    with_reducible exact ih _ _ _ _ (ic_sl (by assumption) (by assumption) (by decide)) (by first | assumption | omega) (by first | assumption | omega)
set_option maxHeartbeats 4000000 in
theorem sX3_aroundNow {p : Nat} {a c : Int32} (hp : isRow w p) (k0 : ¬ a < 0) (k1 : ¬ 3 < a) (hQ : ∀ v : Int32, Q (.inl (some (.int v))) w) : WP (MX3_aroundNow g) Q (0, [some (.ref p), some (.int a), some (.int c), none, none], [], w, 0, 0) := by
  simp only [eX3_aroundNow_0, nl_int]
  with_reducible exact lX3_aroundNow_5 hp k0 k1 hQ 70 _ _ _ _ (by decide) (by first | decide | omega) (by first | decide | omega)
end
end
