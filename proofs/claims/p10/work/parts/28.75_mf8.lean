section
section
variable {g : RO} {Q : Ot → Hw → Prop} {w0 w : Hw} {y nM : Nat} {kd th : Int32} {s : AS}
/-- the place found so far -/
def skV (f : Nat → R4) (r : R4) (c : Int32) : Nat → Int32
  | 0 => -1
  | j + 1 => if mP (f j) r ∧ (¬ c = 0 ∨ skV f r c j = -1) then Int32.ofNat j else skV f r c j
theorem skV_t {f : Nat → R4} {r : R4} {c : Int32} {j : Nat} (h : mP (f j) r) (k : ¬ c = 0 ∨ skV f r c j = -1) : Int32.ofNat j = skV f r c (j + 1) := by
  show _ = if mP (f j) r ∧ (¬ c = 0 ∨ skV f r c j = -1) then Int32.ofNat j else skV f r c j
  rw [if_pos ⟨h, k⟩]
theorem skV_n {f : Nat → R4} {r : R4} {c : Int32} {j : Nat} (h : ¬ mP (f j) r) : skV f r c j = skV f r c (j + 1) := by
  show _ = if mP (f j) r ∧ (¬ c = 0 ∨ skV f r c j = -1) then Int32.ofNat j else skV f r c j
  rw [if_neg (fun k => h k.1)]
theorem skV_m {f : Nat → R4} {r : R4} {c : Int32} {j : Nat} (h0 : c = 0) (h : ¬ skV f r c j = -1) : skV f r c j = skV f r c (j + 1) := by
  show _ = if mP (f j) r ∧ (¬ c = 0 ∨ skV f r c j = -1) then Int32.ofNat j else skV f r c j
  rw [if_neg (fun k => k.2.elim (fun z => z h0) h)]
theorem skV_0 {f : Nat → R4} {r : R4} {c : Int32} : ∀ {N : Nat}, (∀ i, i < N → ¬ mP r (f i)) → skV f r c N = -1
  | 0, _ => rfl
  | N + 1, h => by
    rw [← skV_n (fun k => h N (by omega) (mSy k))]
    exact skV_0 (fun i hi => h i (by omega))
theorem skV_F {f : Nat → R4} {r : R4} {c : Int32} {i : Nat} (h0 : c = 0) (h : mP r (f i)) (k : ∀ j, j < i → ¬ mP r (f j)) (hi : i < 900) : ∀ {N : Nat}, i < N → skV f r c N = Int32.ofNat i
  | 0, z => absurd z (Nat.not_lt_zero _)
  | N + 1, z => by
    rcases Nat.lt_or_ge i N with q | q
    · have e := skV_F h0 h k hi q
      rw [← skV_m h0 (by rw [e]; exact oN9 (by omega)), e]
    · obtain rfl : i = N := by omega
      exact (skV_t (mSy h) (Or.inr (skV_0 k))).symm
theorem fstO {f : Nat → R4} {r : R4} : ∀ N : Nat, (∀ i, i < N → ¬ mP r (f i)) ∨ ∃ i, i < N ∧ mP r (f i) ∧ ∀ k, k < i → ¬ mP r (f k)
  | 0 => Or.inl (fun i hi => absurd hi (Nat.not_lt_zero _))
  | N + 1 => by
    rcases fstO (f := f) (r := r) N with h | ⟨i, hi, h1, h2⟩
    · by_cases m : mP r (f N)
      · exact Or.inr ⟨N, by omega, m, h⟩
      · refine Or.inl (fun i hi => ?_)
        rcases Nat.lt_or_ge i N with q | q
        · exact h i q
        · obtain rfl : i = N := by omega
          exact m
    · exact Or.inr ⟨i, by omega, h1, h2⟩
theorem okPj {n : Int32} {j : Nat} (h : j < n.toInt.toNat) (hn : n.toInt ≤ 12) : okP n (Int32.ofNat j) := ⟨oN0 (by omega), i32_of_lt (by rw [oNt (by omega)]; omega)⟩
theorem sGetPj {cL pL j : Nat} (hM : MS g w0 y nM kd th s w) (hY : isY w y nM cL pL) (k : j < s.2.2.1.toInt.toNat) (hQ : ∀ b, rowA w b (s.2.2.2.1 j) → Q (.inl (some (.ref b))) w) : WP (MJx4a65c_get_915e3 g) Q (0, [some (.ref pL), some (.int (Int32.ofNat j))], [], w, 0, 0) := sGetPF hM hY (okPj k hM.n0.2) (fun b hb => hQ b (by
  have nn := hM.n0
  rw [oNc (by omega)] at hb
  exact hb))
theorem l12m {n : Int32} (h : ¬ n = 12) (hn : n.toInt ≤ 12) : n < 12 := by
  have e12 : (12 : Int32).toInt = 12 := rfl
  refine i32_of_lt ?_
  rcases Int.lt_or_le n.toInt 12 with q | q
  · omega
  · exact absurd (i32_eq (by omega)) h
theorem l12e {n : Int32} (h : n = 12) : ¬ n < 12 := by
  subst h
  decide
theorem nokP {n a : Int32} (hn : 0 ≤ n.toInt ∧ n.toInt ≤ 12) (h : a < 0 ∨ n - 1 < a) : ¬ okP n a := fun k => by
  rcases h with h | h
  · exact k.1 h
  · have q := i32_lt h
    have q2 := i32_lt k.2
    have z1' : (1 : Int32).toInt = 1 := rfl
    have e1 : (n - 1).toInt = n.toInt - 1 := by rw [i32_sub (by omega) (by omega), z1']
    omega
set_option maxHeartbeats 4000000 in
theorem fX3_lay {a0 : Int32} (hM : MS g w0 y nM kd th s w) (hE : EG g w0) (hG : SG g) (hX : ¬ (okC a0) → ∀ w', MS g w0 y nM kd 1 s w' → Q (.inl (some (.int 0))) w') (hS : okC a0 → s.2.1 a0.toNatClampNeg = none → ∀ w', MS g w0 y nM kd 2 s w' → Q (.inl (some (.int 0))) w') (hF : okC a0 → ∀ r, s.2.1 a0.toNatClampNeg = some r → ¬ s.2.2.1 < 12 → ∀ w', MS g w0 y nM kd 0 (sRf s) w' → Q (.inl (some (.int (-9)))) w') (hQ : okC a0 → ∀ r, s.2.1 a0.toNatClampNeg = some r → s.2.2.1 < 12 → ∀ w', MS g w0 y nM kd 0 (sP_ s (s.2.2.1 + 1) (va_up s.2.2.2.1 s.2.2.1.toNatClampNeg r)) w' → Q (.inl (some (.int (s.2.2.1 + 1)))) w') : WP (MX3_lay g) Q (0, [some (.ref y), some (.int a0)], [], w, 0, 0) := by
  simp only [eX3_lay_0, wt_nil, Nat.add_zero]
  with_reducible refine And.intro ?_ ?_
  with_reducible refine go_S (by assumption) (fun _ _ hY => ?_)
  with_reducible exact trivial
  with_reducible refine And.intro ?_ ?_
  omega
  with_reducible refine And.intro ?_ ?_
  omega
  with_reducible refine And.intro ?_ ?_
  omega
  with_reducible refine fX3_isNone (by assumption) (fun _ w1 h1 => ?_) (fun _ _ w1 h1 => ?_) (fun ka r e1 w1 h1 => ?_)
  simp only [eX3_lay_5, eX3_lay_8, eX3_lay_10, i10, if_false, kx_l, tl_s]
  with_reducible refine And.intro ?_ ?_
  omega
  with_reducible refine And.intro ?_ ?_
  omega
  with_reducible exact hX (fun h => absurd h (by assumption)) _ (by assumption)
  simp only [eX3_lay_5, eX3_lay_8, eX3_lay_10, i10, if_false, kx_l, tl_s]
  with_reducible refine And.intro ?_ ?_
  omega
  with_reducible refine And.intro ?_ ?_
  omega
  with_reducible exact hS (by assumption) (by assumption) _ (by assumption)
  simp only [eX3_lay_5, eX3_lay_8, eX3_lay_10, if_true, kx_l, tl_s]
  with_reducible refine go_S (by assumption) (fun _ _ hY => ?_)
  simp only [eX3_lay_14, eX3_lay_17, wt_nil, g0, gS, ex1, Nat.add_zero]
  with_reducible refine And.intro ?_ ?_
  with_reducible exact MS.gP (by assumption) (by assumption)
  with_reducible refine And.intro ?_ ?_
  omega
  with_reducible refine And.intro ?_ ?_
  omega
  with_reducible refine And.intro ?_ ?_
  omega
  with_reducible refine sSizeF h1 (by assumption) ?_
  simp only [eX3_lay_19, eX3_lay_22, eX3_lay_27, eX3_lay_31, eX3_lay_35, kx_l, wt_nil, tl_s, Nat.add_zero]
  with_reducible refine itx (fun _ => ?_) (fun _ => ?_)
  with_reducible refine And.intro ?_ ?_
  with_reducible refine go_S (by assumption) (fun _ _ hY => ?_)
  with_reducible exact trivial
  with_reducible refine And.intro ?_ ?_
  omega
  with_reducible refine And.intro ?_ ?_
  omega
  with_reducible refine And.intro ?_ ?_
  omega
  with_reducible refine fX3_no h1 (fun w3 h3 => ?_)
  simp only [eX3_lay_26, kx_l, tl_s]
  with_reducible refine And.intro ?_ ?_
  omega
  with_reducible refine And.intro ?_ ?_
  omega
  with_reducible exact hF ka r e1 (l12e (by assumption)) _ h3
  with_reducible refine go_S (by assumption) (fun _ _ hY => ?_)
  simp only [g0, gS, ex1]
  with_reducible refine go_S (by assumption) (fun _ _ hY => ?_)
  simp only [eX3_lay_36, wt_nil, wt_ref, g0, gS, ex1, Nat.add_zero]
  with_reducible refine And.intro ?_ ?_
  with_reducible exact MS.gC (by assumption) (by assumption)
  with_reducible refine And.intro ?_ ?_
  omega
  with_reducible refine And.intro ?_ ?_
  omega
  with_reducible refine And.intro ?_ ?_
  omega
  with_reducible refine sGetK (by assumption) (by assumption) (by assumption) (by assumption) (fun _ hb => ?_)
  simp only [eX3_lay_39R, eX3_lay_42R, kx_l, wt_nil, tl_s, Nat.zero_add]
  with_reducible refine And.intro ?_ ?_
  with_reducible exact rowA.ca (by assumption)
  with_reducible refine And.intro ?_ ?_
  with_reducible exact MS.gP (by assumption) (by assumption)
  with_reducible refine And.intro ?_ ?_
  omega
  with_reducible refine And.intro ?_ ?_
  omega
  with_reducible refine And.intro ?_ ?_
  omega
  with_reducible refine sAddF h1 (by assumption) hE hG hb (l12m (by assumption) h1.n0.2) (fun w3 h3 => ?_)
  simp only [eX3_lay_45, kx_l, tl_s]
  with_reducible refine go_S (by assumption) (fun _ _ hY => ?_)
  (simp only [rv0, rv1, rv2, rv3])
  simp only [eX3_lay_50, wt_nil, g0, gS, ex1, Nat.add_zero]
  with_reducible refine And.intro ?_ ?_
  with_reducible exact MS.gP (by assumption) (by assumption)
  with_reducible refine And.intro ?_ ?_
  omega
  with_reducible refine And.intro ?_ ?_
  omega
  with_reducible refine And.intro ?_ ?_
  omega
  with_reducible refine sSizeF h3 (by assumption) ?_
  (simp only [rv0, rv1, rv2, rv3])
  simp only [eX3_lay_53, kx_l, tl_s]
  with_reducible refine And.intro ?_ ?_
  omega
  with_reducible refine And.intro ?_ ?_
  omega
  ((with_reducible refine isQ (Q := Q) ?_); exact hQ ka r e1 (l12m (by assumption) h1.n0.2) _ h3)
set_option maxHeartbeats 4000000 in
theorem flX3_seekNow_5 {a c : Int32} {r : R4} (hM : MS g w0 y nM kd th s w) (k : okC a) (e : s.2.1 a.toNatClampNeg = some r) (hQ : Q (.inl (some (.int (skV s.2.2.2.1 r c s.2.2.1.toInt.toNat)))) w) : ∀ (d j : Nat)  (kz mz : Nat), j + d = s.2.2.1.toInt.toNat → kz ≤ 0 → mz ≤ 0 → WP (MX3_seekNow g) Q (5, [some (.ref y), some (.int a), some (.int c), some (.int (skV s.2.2.2.1 r c j)), some (.int (Int32.ofNat j))], [], w, kz, mz) := by
  obtain ⟨hn1, hn2⟩ := hM.nn
  intro d
  induction d with
  | zero =>
    intro j  kz mz hjd hkz hmz
    have h9 : j < 1000 := (by omega)
    have hlt : ¬ Int32.ofNat j < s.2.2.1 := oNg (B := s.2.2.1.toInt.toNat) h9 hn1 (by omega)
    have hnn := oN0 h9
    have hcl := oNc h9
    obtain rfl : j = s.2.2.1.toInt.toNat := by omega
    rw [eX3_seekNow_5]
    simp only [eX3_seekNow_7]
    with_reducible refine go_S hM (fun _ _ hY => ?_)
    simp only [eX3_seekNow_11, wt_nil, wt_int, g0, gS, ex1, Nat.add_zero]
    with_reducible refine And.intro ?_ ?_
    with_reducible exact MS.gP (by assumption) (by assumption)
    with_reducible refine And.intro ?_ ?_
    omega
    with_reducible refine And.intro ?_ ?_
    with_reducible assumption
    with_reducible refine And.intro ?_ ?_
    with_reducible assumption
    with_reducible refine sSizeF hM (by assumption) ?_
    simp only [eX3_seekNow_14, eX3_seekNow_17, eX3_seekNow_21, eX3_seekNow_64, if_false, hlt, ite_le, kx_l, tl_s]
    with_reducible refine And.intro ?_ ?_
    with_reducible assumption
    with_reducible refine And.intro ?_ ?_
    with_reducible assumption
    with_reducible assumption
  | succ d ih =>
    intro j  kz mz hjd hkz hmz
    have h9 : j < 1000 := (by omega)
    have hlt : Int32.ofNat j < s.2.2.1 := oNl (B := s.2.2.1.toInt.toNat) h9 hn1 (by omega)
    have hjN : j < s.2.2.1.toInt.toNat := by omega
    have hnn := oN0 h9
    have hcl := oNc h9
    rw [eX3_seekNow_5]
    simp only [eX3_seekNow_7]
    with_reducible refine go_S hM (fun _ _ hY => ?_)
    simp only [eX3_seekNow_11, wt_nil, wt_int, g0, gS, ex1, Nat.add_zero]
    with_reducible refine And.intro ?_ ?_
    with_reducible exact MS.gP (by assumption) (by assumption)
    with_reducible refine And.intro ?_ ?_
    omega
    with_reducible refine And.intro ?_ ?_
    with_reducible assumption
    with_reducible refine And.intro ?_ ?_
    with_reducible assumption
    with_reducible refine sSizeF hM (by assumption) ?_
    simp only [eX3_seekNow_14, eX3_seekNow_17, eX3_seekNow_21, eX3_seekNow_64, if_true, hlt, ite_le, kx_l, tl_s]
    with_reducible refine go_S hM (fun _ _ hY => ?_)
    simp only [eX3_seekNow_23, wt_nil, g0, gS, ex1, Nat.add_zero]
    with_reducible refine And.intro ?_ ?_
    with_reducible exact MS.gP (by assumption) (by assumption)
    with_reducible refine And.intro ?_ ?_
    omega
    with_reducible refine And.intro ?_ ?_
    with_reducible assumption
    with_reducible refine And.intro ?_ ?_
    with_reducible assumption
    with_reducible refine sGetPj hM (by assumption) (by omega) (fun _ hb0 => ?_)
    simp only [eX3_seekNow_26R, eX3_seekNow_29, eX3_seekNow_33, kx_l, tl_s]
    with_reducible refine And.intro ?_ ?_
    with_reducible exact rowA.ca (by assumption)
    with_reducible refine go_S hM (fun _ _ hY => ?_)
    simp only [eX3_seekNow_34, wt_nil, wt_ref, g0, gS, ex1, Nat.add_zero]
    with_reducible refine And.intro ?_ ?_
    with_reducible exact MS.gC (by assumption) (by assumption)
    with_reducible refine And.intro ?_ ?_
    omega
    with_reducible refine And.intro ?_ ?_
    with_reducible assumption
    with_reducible refine And.intro ?_ ?_
    with_reducible assumption
    with_reducible refine sGetK (i := a) hM (by assumption) k e (fun _ hb => ?_)
    simp only [eX3_seekNow_37R, eX3_seekNow_40RR, kx_l, wt_nil, tl_s, Nat.add_zero]
    with_reducible refine And.intro ?_ ?_
    with_reducible exact rowA.ca (by assumption)
    with_reducible refine And.intro ?_ ?_
    omega
    with_reducible refine And.intro ?_ ?_
    with_reducible assumption
    with_reducible refine And.intro ?_ ?_
    with_reducible assumption
    with_reducible refine fX3_same hb0 hb (fun hm => ?_) (fun hm => ?_)
    simp only [eX3_seekNow_43, eX3_seekNow_46, eX3_seekNow_50, eX3_seekNow_55, eX3_seekNow_58, i10, if_false, kx_l, nl_int, tl_s]
    with_reducible refine itx (fun _ => ?_) (fun _ => ?_)
    with_reducible refine itx (fun _ => ?_) (fun _ => ?_)
    (rw [oN1, skV_t (c := c) hm (Or.inr (by assumption))]; exact ih (j + 1)  _ _ (by omega) (by first | assumption | omega) (by first | assumption | omega))
    (rw [oN1, skV_m (f := s.2.2.2.1) (r := r) (c := c) (j := j) (by assumption) (by assumption)]; exact ih (j + 1)  _ _ (by omega) (by first | assumption | omega) (by first | assumption | omega))
    (rw [oN1, skV_t (c := c) hm (Or.inl (by assumption))]; exact ih (j + 1)  _ _ (by omega) (by first | assumption | omega) (by first | assumption | omega))
    simp only [eX3_seekNow_43, eX3_seekNow_46, eX3_seekNow_50, eX3_seekNow_55, eX3_seekNow_58, if_true, kx_l, nl_int, tl_s]
    (rw [oN1, skV_n (c := c) hm]; exact ih (j + 1)  _ _ (by omega) (by first | assumption | omega) (by first | assumption | omega))
set_option maxHeartbeats 4000000 in
theorem fX3_seekNow {a c : Int32} {r : R4} (hM : MS g w0 y nM kd th s w) (k : okC a) (e : s.2.1 a.toNatClampNeg = some r) (hQ : Q (.inl (some (.int (skV s.2.2.2.1 r c s.2.2.1.toInt.toNat)))) w) : WP (MX3_seekNow g) Q (0, [some (.ref y), some (.int a), some (.int c), none, none], [], w, 0, 0) := by
  simp only [eX3_seekNow_0, nl_int]
  ((with_reducible refine isWP (pc := 5) ?_); exact flX3_seekNow_5 hM k e hQ _ 0 _ _ (Nat.zero_add _) (by decide) (by decide))
set_option maxHeartbeats 4000000 in
theorem fX3_seek {a0 a1 : Int32} (hM : MS g w0 y nM kd th s w) (hX : ¬ (okC a0) → ∀ w', MS g w0 y nM kd 1 s w' → Q (.inl (some (.int 0))) w') (hS : okC a0 → s.2.1 a0.toNatClampNeg = none → ∀ w', MS g w0 y nM kd 2 s w' → Q (.inl (some (.int 0))) w') (hQ : okC a0 → ∀ r, s.2.1 a0.toNatClampNeg = some r → ∀ w', MS g w0 y nM kd 0 s w' → Q (.inl (some (.int (skV s.2.2.2.1 r a1 s.2.2.1.toInt.toNat)))) w') : WP (MX3_seek g) Q (0, [some (.ref y), some (.int a0), some (.int a1)], [], w, 0, 0) := by
  simp only [eX3_seek_0, wt_nil, Nat.add_zero]
  with_reducible refine And.intro ?_ ?_
  with_reducible refine go_S (by assumption) (fun _ _ hY => ?_)
  with_reducible exact trivial
  with_reducible refine And.intro ?_ ?_
  omega
  with_reducible refine And.intro ?_ ?_
  omega
  with_reducible refine And.intro ?_ ?_
  omega
  with_reducible refine fX3_isNone (by assumption) (fun _ w1 h1 => ?_) (fun _ _ w1 h1 => ?_) (fun ka r e1 w1 h1 => ?_)
  simp only [eX3_seek_5, eX3_seek_8, eX3_seek_12, eX3_seek_18, i10, if_false, kx_l, wt_nil, tl_s, Nat.add_zero]
  with_reducible refine And.intro ?_ ?_
  omega
  with_reducible refine And.intro ?_ ?_
  omega
  with_reducible exact hX (fun h => absurd h (by assumption)) _ (by assumption)
  simp only [eX3_seek_5, eX3_seek_8, eX3_seek_12, eX3_seek_18, i10, if_false, kx_l, wt_nil, tl_s, Nat.add_zero]
  with_reducible refine And.intro ?_ ?_
  omega
  with_reducible refine And.intro ?_ ?_
  omega
  with_reducible exact hS (by assumption) (by assumption) _ (by assumption)
  simp only [eX3_seek_5, eX3_seek_8, eX3_seek_12, eX3_seek_18, if_true, kx_l, wt_nil, tl_s, Nat.add_zero]
  with_reducible refine And.intro ?_ ?_
  with_reducible refine go_S (by assumption) (fun _ _ hY => ?_)
  with_reducible exact trivial
  with_reducible refine And.intro ?_ ?_
  omega
  with_reducible refine And.intro ?_ ?_
  omega
  with_reducible refine And.intro ?_ ?_
  omega
  with_reducible refine fX3_seekNow h1 ka e1 ?_
  simp only [eX3_seek_18, kx_l, tl_s]
  with_reducible refine And.intro ?_ ?_
  omega
  with_reducible refine And.intro ?_ ?_
  omega
  with_reducible exact hQ ka r e1 _ h1
set_option maxHeartbeats 4000000 in
theorem fX3_lift {a0 : Int32} (hM : MS g w0 y nM kd th s w) (hX : ¬ (okC a0) → ∀ w', MS g w0 y nM kd 1 s w' → Q (.inl (some (.int 0))) w') (hS : okC a0 → s.2.1 a0.toNatClampNeg = none → ∀ w', MS g w0 y nM kd 2 s w' → Q (.inl (some (.int 0))) w') (hN : okC a0 → ∀ r, s.2.1 a0.toNatClampNeg = some r → (∀ i, i < s.2.2.1.toInt.toNat → ¬ mP r (s.2.2.2.1 i)) → ∀ w', MS g w0 y nM kd 0 s w' → Q (.inl (some (.int 0))) w') (hQ : okC a0 → ∀ r, s.2.1 a0.toNatClampNeg = some r → ∀ i, i < s.2.2.1.toInt.toNat → mP r (s.2.2.2.1 i) → (∀ k, k < i → ¬ mP r (s.2.2.2.1 k)) → ∀ w', MS g w0 y nM kd 0 (sP_ s (s.2.2.1 - 1) (rmv s.2.2.2.1 i)) w' → Q (.inl (some (.int 1))) w') : WP (MX3_lift g) Q (0, [some (.ref y), some (.int a0), none], [], w, 0, 0) := by
  obtain ⟨hn1, hn2⟩ := hM.nn
  simp only [eX3_lift_0, wt_nil, Nat.add_zero]
  with_reducible refine And.intro ?_ ?_
  with_reducible refine go_S (by assumption) (fun _ _ hY => ?_)
  with_reducible exact trivial
  with_reducible refine And.intro ?_ ?_
  omega
  with_reducible refine And.intro ?_ ?_
  omega
  with_reducible refine And.intro ?_ ?_
  omega
  with_reducible refine fX3_isNone (by assumption) (fun _ w1 h1 => ?_) (fun _ _ w1 h1 => ?_) (fun ka r e1 w1 h1 => ?_)
  simp only [eX3_lift_5, eX3_lift_8, eX3_lift_10, i10, if_false, kx_l, wt_nil, tl_s, Nat.add_zero]
  with_reducible refine And.intro ?_ ?_
  omega
  with_reducible refine And.intro ?_ ?_
  omega
  with_reducible exact hX (fun h => absurd h (by assumption)) _ (by assumption)
  simp only [eX3_lift_5, eX3_lift_8, eX3_lift_10, i10, if_false, kx_l, wt_nil, tl_s, Nat.add_zero]
  with_reducible refine And.intro ?_ ?_
  omega
  with_reducible refine And.intro ?_ ?_
  omega
  with_reducible exact hS (by assumption) (by assumption) _ (by assumption)
  simp only [eX3_lift_5, eX3_lift_8, eX3_lift_10, if_true, kx_l, wt_nil, tl_s, Nat.add_zero]
  with_reducible refine And.intro ?_ ?_
  with_reducible refine go_S (by assumption) (fun _ _ hY => ?_)
  with_reducible exact trivial
  with_reducible refine And.intro ?_ ?_
  omega
  with_reducible refine And.intro ?_ ?_
  omega
  with_reducible refine And.intro ?_ ?_
  omega
  ((with_reducible refine fX3_seekNow h1 ka e1 ?_); rcases fstO (f := s.2.2.2.1) (r := r) s.2.2.1.toInt.toNat with hno | ⟨i, hi, hm, hf⟩)
  (rw [skV_0 hno])
  simp only [eX3_lift_16, eX3_lift_22, eX3_lift_26, eX3_lift_31, eX3_lift_36, eX3_lift_40, eX3_lift_41, if_true, kx_l, wt_nil, nl_int, tl_s, Nat.add_zero]
  with_reducible refine And.intro ?_ ?_
  omega
  with_reducible refine And.intro ?_ ?_
  omega
  with_reducible refine And.intro ?_ ?_
  omega
  with_reducible refine fX3_one (Or.inl rfl) ?_
  simp only [eX3_lift_44, kx_l, tl_s]
  with_reducible refine And.intro ?_ ?_
  omega
  with_reducible refine And.intro ?_ ?_
  omega
  with_reducible exact hN ka r e1 hno _ h1
  (rw [skV_F rfl hm hf (by omega) hi])
  simp only [eX3_lift_16, eX3_lift_22, eX3_lift_26, eX3_lift_31, eX3_lift_36, eX3_lift_40, eX3_lift_41, kx_l, wt_nil, nl_int, tl_s, Nat.add_zero]
  with_reducible refine itx (fun _ => ?_) (fun _ => ?_)
  (exact absurd (by assumption) (oN9 (i := i) (by omega)))
  with_reducible refine go_S (by assumption) (fun _ _ hY => ?_)
  simp only [eX3_lift_27, wt_nil, g0, gS, ex1, Nat.add_zero]
  with_reducible refine And.intro ?_ ?_
  with_reducible exact MS.gP (by assumption) (by assumption)
  with_reducible refine And.intro ?_ ?_
  omega
  with_reducible refine And.intro ?_ ?_
  omega
  with_reducible refine And.intro ?_ ?_
  omega
  with_reducible refine sRemF h1 (by assumption) hi (fun _ w3 h3 => ?_)
  simp only [eX3_lift_30R, eX3_lift_31, eX3_lift_36, eX3_lift_40, eX3_lift_41, kx_l, wt_nil, tl_s, Nat.add_zero]
  with_reducible refine itx (fun _ => ?_) (fun _ => ?_)
  with_reducible refine And.intro ?_ ?_
  (exact absurd (by assumption) (oN9 (i := i) (by omega)))
  with_reducible refine And.intro ?_ ?_
  (exact absurd (by assumption) (oN9 (i := i) (by omega)))
  with_reducible refine And.intro ?_ ?_
  (exact absurd (by assumption) (oN9 (i := i) (by omega)))
  (exact absurd (by assumption) (oN9 (i := i) (by omega)))
  with_reducible refine And.intro ?_ ?_
  omega
  with_reducible refine And.intro ?_ ?_
  omega
  with_reducible refine And.intro ?_ ?_
  omega
  with_reducible refine fX3_one (Or.inr rfl) ?_
  simp only [eX3_lift_44, kx_l, tl_s]
  with_reducible refine And.intro ?_ ?_
  omega
  with_reducible refine And.intro ?_ ?_
  omega
  with_reducible exact hQ ka r e1 i hi hm hf _ h3
set_option maxHeartbeats 4000000 in
theorem fX3_pick {a0 a1 : Int32} (hM : MS g w0 y nM kd th s w) (hX : ¬ (okP s.2.2.1 a0 ∧ okC a1) → ∀ w', MS g w0 y nM kd 1 s w' → Q (.inl (some (.int 0))) w') (hN : okP s.2.2.1 a0 → okC a1 → s.2.1 a1.toNatClampNeg = none → ∀ w', MS g w0 y nM kd 0 (sC s (va_up s.2.1 a1.toNatClampNeg (some (s.2.2.2.1 a0.toNatClampNeg)))) w' → Q (.inl (some (.int 0))) w') (hS : okP s.2.2.1 a0 → okC a1 → ∀ r, s.2.1 a1.toNatClampNeg = some r → ∀ w', MS g w0 y nM kd 0 (sC s (va_up s.2.1 a1.toNatClampNeg (some (s.2.2.2.1 a0.toNatClampNeg)))) w' → Q (.inl (some (.int 1))) w') : WP (MX3_pick g) Q (0, [some (.ref y), some (.int a0), some (.int a1), none], [], w, 0, 0) := by
  simp only [eX3_pick_0]
  with_reducible refine go_S (by assumption) (fun _ _ hY => ?_)
  simp only [eX3_pick_7, eX3_pick_10, wt_nil, wt_int, wt_ref, g0, gS, ex1, Nat.add_zero]
  with_reducible refine And.intro ?_ ?_
  with_reducible exact MS.gP (by assumption) (by assumption)
  with_reducible refine And.intro ?_ ?_
  omega
  with_reducible refine And.intro ?_ ?_
  omega
  with_reducible refine And.intro ?_ ?_
  omega
  with_reducible refine sSizeF (by assumption) (by assumption) ?_
  simp only [eX3_pick_11, kx_l, wt_nil, wt_ref, tl_s, Nat.add_zero]
  with_reducible refine And.intro ?_ ?_
  omega
  with_reducible refine And.intro ?_ ?_
  omega
  with_reducible refine And.intro ?_ ?_
  omega
  with_reducible refine fX3_isIn (fun _ _ => ?_) (fun _ => ?_)
  simp only [eX3_pick_15, eX3_pick_18, eX3_pick_25, eX3_pick_30, i10, if_false, kx_l, wt_nil, wt_ref, tl_s, Nat.add_zero]
  with_reducible refine And.intro ?_ ?_
  omega
  with_reducible refine And.intro ?_ ?_
  omega
  with_reducible refine And.intro ?_ ?_
  omega
  with_reducible refine fX3_isNoCard (fun _ => ?_) (fun _ => ?_)
  simp only [eX3_pick_22, eX3_pick_25, eX3_pick_29, eX3_pick_30, i10, if_false, kx_l, wt_nil, tl_s, Nat.add_zero]
  with_reducible refine And.intro ?_ ?_
  with_reducible refine go_S (by assumption) (fun _ _ hY => ?_)
  with_reducible exact trivial
  with_reducible refine And.intro ?_ ?_
  omega
  with_reducible refine And.intro ?_ ?_
  omega
  with_reducible refine And.intro ?_ ?_
  omega
  with_reducible refine fX3_start (by assumption) (by decide) (fun _ w1 h1 => ?_) (fun _ w1 h1 => ?_)
  with_reducible exact absurd (by assumption) n10'
  simp only [eX3_pick_34, eX3_pick_37, eX3_pick_39, i10, if_false, kx_l, wt_nil, tl_s, Nat.add_zero]
  with_reducible refine And.intro ?_ ?_
  omega
  with_reducible refine And.intro ?_ ?_
  omega
  with_reducible exact hX (fun h => absurd h.2 (by assumption)) _ (by assumption)
  simp only [eX3_pick_22, eX3_pick_25, eX3_pick_29, eX3_pick_30, if_true, kx_l, wt_nil, tl_s, Nat.add_zero]
  with_reducible refine And.intro ?_ ?_
  with_reducible refine go_S (by assumption) (fun _ _ hY => ?_)
  with_reducible exact trivial
  with_reducible refine And.intro ?_ ?_
  omega
  with_reducible refine And.intro ?_ ?_
  omega
  with_reducible refine And.intro ?_ ?_
  omega
  with_reducible refine fX3_start (by assumption) (by decide) (fun _ w1 h1 => ?_) (fun _ w1 h1 => ?_)
  simp only [eX3_pick_34, eX3_pick_37, eX3_pick_39, if_true, kx_l, wt_nil, tl_s, Nat.add_zero]
  with_reducible refine And.intro ?_ ?_
  with_reducible refine go_S (by assumption) (fun _ _ hY => ?_)
  with_reducible exact trivial
  with_reducible refine And.intro ?_ ?_
  omega
  with_reducible refine And.intro ?_ ?_
  omega
  with_reducible refine And.intro ?_ ?_
  omega
  with_reducible refine fX3_isBare (by assumption) (by assumption) (fun _ => ?_) (fun _ _ => ?_)
  simp only [eX3_pick_44, eX3_pick_47, eX3_pick_51, eX3_pick_52, i10, if_false, kx_l, wt_nil, tl_s, Nat.add_zero]
  with_reducible refine And.intro ?_ ?_
  omega
  with_reducible refine And.intro ?_ ?_
  omega
  with_reducible refine And.intro ?_ ?_
  omega
  with_reducible refine fX3_one (Or.inl rfl) ?_
  simp only [eX3_pick_55, eX3_pick_60, eX3_pick_65, kx_l, nl_int, tl_s]
  with_reducible refine go_S (by assumption) (fun _ _ hY => ?_)
  simp only [g0, gS, ex1]
  with_reducible refine go_S (by assumption) (fun _ _ hY => ?_)
  simp only [eX3_pick_66, wt_nil, wt_int, wt_ref, g0, gS, ex1, Nat.add_zero]
  with_reducible refine And.intro ?_ ?_
  with_reducible exact MS.gP (by assumption) (by assumption)
  with_reducible refine And.intro ?_ ?_
  omega
  with_reducible refine And.intro ?_ ?_
  omega
  with_reducible refine And.intro ?_ ?_
  omega
  with_reducible refine sGetPF h1 (by assumption) ⟨by assumption, pz_lt hM.n0 (by assumption)⟩ (fun _ hb => ?_)
  simp only [eX3_pick_69R, eX3_pick_72R, kx_l, wt_nil, tl_s, Nat.add_zero]
  with_reducible refine And.intro ?_ ?_
  with_reducible exact rowA.ca (by assumption)
  with_reducible refine And.intro ?_ ?_
  with_reducible exact MS.gC (by assumption) (by assumption)
  with_reducible refine And.intro ?_ ?_
  omega
  with_reducible refine And.intro ?_ ?_
  omega
  with_reducible refine And.intro ?_ ?_
  omega
  with_reducible refine sSetFR h1 (by assumption) hb (by assumption) (fun w3 h3 => ?_) (fun _ w3 h3 => ?_)
  simp only [eX3_pick_75N, eX3_pick_76, kx_l, tl_s]
  with_reducible refine And.intro ?_ ?_
  omega
  with_reducible refine And.intro ?_ ?_
  omega
  with_reducible exact hN ⟨by assumption, pz_lt hM.n0 (by assumption)⟩ (by assumption) (by assumption) _ h3
  simp only [eX3_pick_75R, eX3_pick_76, kx_l, tl_s]
  with_reducible refine And.intro ?_ ?_
  omega
  with_reducible refine And.intro ?_ ?_
  omega
  with_reducible exact hN ⟨by assumption, pz_lt hM.n0 (by assumption)⟩ (by assumption) (by assumption) _ h3
  simp only [eX3_pick_44, eX3_pick_47, eX3_pick_51, eX3_pick_52, if_true, kx_l, wt_nil, tl_s, Nat.add_zero]
  with_reducible refine And.intro ?_ ?_
  omega
  with_reducible refine And.intro ?_ ?_
  omega
  with_reducible refine And.intro ?_ ?_
  omega
  with_reducible refine fX3_one (Or.inr rfl) ?_
  simp only [eX3_pick_55, eX3_pick_60, eX3_pick_65, kx_l, nl_int, tl_s]
  with_reducible refine go_S (by assumption) (fun _ _ hY => ?_)
  simp only [g0, gS, ex1]
  with_reducible refine go_S (by assumption) (fun _ _ hY => ?_)
  simp only [eX3_pick_66, wt_nil, wt_int, wt_ref, g0, gS, ex1, Nat.add_zero]
  with_reducible refine And.intro ?_ ?_
  with_reducible exact MS.gP (by assumption) (by assumption)
  with_reducible refine And.intro ?_ ?_
  omega
  with_reducible refine And.intro ?_ ?_
  omega
  with_reducible refine And.intro ?_ ?_
  omega
  with_reducible refine sGetPF h1 (by assumption) ⟨by assumption, pz_lt hM.n0 (by assumption)⟩ (fun _ hb => ?_)
  simp only [eX3_pick_69R, eX3_pick_72R, kx_l, wt_nil, tl_s, Nat.add_zero]
  with_reducible refine And.intro ?_ ?_
  with_reducible exact rowA.ca (by assumption)
  with_reducible refine And.intro ?_ ?_
  with_reducible exact MS.gC (by assumption) (by assumption)
  with_reducible refine And.intro ?_ ?_
  omega
  with_reducible refine And.intro ?_ ?_
  omega
  with_reducible refine And.intro ?_ ?_
  omega
  with_reducible refine sSetFR h1 (by assumption) hb (by assumption) (fun w3 h3 => ?_) (fun _ w3 h3 => ?_)
  simp only [eX3_pick_75N, eX3_pick_76, kx_l, tl_s]
  with_reducible refine And.intro ?_ ?_
  omega
  with_reducible refine And.intro ?_ ?_
  omega
  with_reducible exact hS ⟨by assumption, pz_lt hM.n0 (by assumption)⟩ (by assumption) _ (by assumption) _ h3
  simp only [eX3_pick_75R, eX3_pick_76, kx_l, tl_s]
  with_reducible refine And.intro ?_ ?_
  omega
  with_reducible refine And.intro ?_ ?_
  omega
  with_reducible exact hS ⟨by assumption, pz_lt hM.n0 (by assumption)⟩ (by assumption) _ (by assumption) _ h3
  with_reducible exact n00x (by assumption)
  simp only [eX3_pick_15, eX3_pick_18, eX3_pick_25, eX3_pick_30, if_true, kx_l, wt_nil, wt_ref, tl_s, Nat.add_zero]
  with_reducible refine And.intro ?_ ?_
  with_reducible refine go_S (by assumption) (fun _ _ hY => ?_)
  with_reducible exact trivial
  with_reducible refine And.intro ?_ ?_
  omega
  with_reducible refine And.intro ?_ ?_
  omega
  with_reducible refine And.intro ?_ ?_
  omega
  with_reducible refine fX3_start (by assumption) (by decide) (fun _ w1 h1 => ?_) (fun _ w1 h1 => ?_)
  with_reducible exact absurd (by assumption) n10'
  simp only [eX3_pick_34, eX3_pick_37, eX3_pick_39, i10, if_false, kx_l, wt_nil, tl_s, Nat.add_zero]
  with_reducible refine And.intro ?_ ?_
  omega
  with_reducible refine And.intro ?_ ?_
  omega
  ((with_reducible refine isQ (Q := Q) ?_); exact hX (fun h => nokP hM.n0 (by assumption) h.1) _ (by assumption))
end
end
