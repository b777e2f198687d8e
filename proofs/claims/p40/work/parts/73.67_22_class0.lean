section
section
variable {g : RO} {Q : Ot → Hw → Prop} {w0 w : Hw} {x nA cA lA : Nat} {kn : Int32}
theorem sX1_needNumber {a0 : Int32} (hXo : Q (.inr "java/lang/IndexOutOfBoundsException") w) (hQ : ¬ a0 < 0 → a0 < 8 → Q (.inl none) w) : WP (MX1_needNumber g) Q (0, [some (.int a0)], [], w, 0, 0) := by
  simp only [eX1_needNumber_0, eX1_needNumber_4, eX1_needNumber_10, eX1_needNumber_20, wt_nil, Nat.zero_add]
  split
  with_reducible refine And.intro ?_ ?_
  omega
  with_reducible refine And.intro ?_ ?_
  omega
  with_reducible refine And.intro ?_ ?_
  omega
  with_reducible refine And.intro ?_ ?_
  omega
  with_reducible assumption
  split
  with_reducible refine And.intro ?_ ?_
  omega
  with_reducible refine And.intro ?_ ?_
  omega
  with_reducible exact hQ (by assumption) (by assumption)
  with_reducible refine And.intro ?_ ?_
  omega
  with_reducible refine And.intro ?_ ?_
  omega
  with_reducible refine And.intro ?_ ?_
  omega
  with_reducible refine And.intro ?_ ?_
  omega
  with_reducible assumption
theorem sX1_needCard {a0 : Int32} (hXo : Q (.inr "java/lang/IndexOutOfBoundsException") w) (hQ : ¬ a0 < 0 → a0 < 6 → Q (.inl none) w) : WP (MX1_needCard g) Q (0, [some (.int a0)], [], w, 0, 0) := by
  simp only [eX1_needCard_0, eX1_needCard_4, eX1_needCard_10, eX1_needCard_20, wt_nil, Nat.zero_add]
  split
  with_reducible refine And.intro ?_ ?_
  omega
  with_reducible refine And.intro ?_ ?_
  omega
  with_reducible refine And.intro ?_ ?_
  omega
  with_reducible refine And.intro ?_ ?_
  omega
  with_reducible assumption
  split
  with_reducible refine And.intro ?_ ?_
  omega
  with_reducible refine And.intro ?_ ?_
  omega
  with_reducible exact hQ (by assumption) (by assumption)
  with_reducible refine And.intro ?_ ?_
  omega
  with_reducible refine And.intro ?_ ?_
  omega
  with_reducible refine And.intro ?_ ?_
  omega
  with_reducible refine And.intro ?_ ?_
  omega
  with_reducible assumption
theorem sX1_needChoice {a0 a1 : Int32} (hXa : Q (.inr "java/lang/IllegalArgumentException") w) (hQ : ¬ a0 < 0 → ¬ a1 < a0 → Q (.inl none) w) : WP (MX1_needChoice g) Q (0, [some (.int a0), some (.int a1)], [], w, 0, 0) := by
  simp only [eX1_needChoice_0, eX1_needChoice_4, eX1_needChoice_9, eX1_needChoice_19, ite_le, wt_nil, Nat.zero_add]
  split
  with_reducible refine And.intro ?_ ?_
  omega
  with_reducible refine And.intro ?_ ?_
  omega
  with_reducible refine And.intro ?_ ?_
  omega
  with_reducible refine And.intro ?_ ?_
  omega
  with_reducible assumption
  split
  with_reducible refine And.intro ?_ ?_
  omega
  with_reducible refine And.intro ?_ ?_
  omega
  with_reducible refine And.intro ?_ ?_
  omega
  with_reducible refine And.intro ?_ ?_
  omega
  with_reducible assumption
  with_reducible refine And.intro ?_ ?_
  omega
  with_reducible refine And.intro ?_ ?_
  omega
  with_reducible exact hQ (by assumption) (by assumption)
set_option maxHeartbeats 4000000 in
theorem sX1_highOf {a0 : Int64} (hQ : ∀ v : Int32, Q (.inl (some (.int v))) w) : WP (MX1_highOf g) Q (0, [some (.long a0), none], [], w, 0, 0) := by
  simp only [eX1_highOf_0]
  with_reducible refine And.intro ?_ ?_
  omega
  with_reducible refine And.intro ?_ ?_
  omega
  with_reducible exact hQ _
set_option maxHeartbeats 4000000 in
theorem sX1_lowOf {a0 : Int64} (hQ : ∀ v : Int32, Q (.inl (some (.int v))) w) : WP (MX1_lowOf g) Q (0, [some (.long a0), none], [], w, 0, 0) := by
  simp only [eX1_lowOf_0]
  with_reducible refine And.intro ?_ ?_
  omega
  with_reducible refine And.intro ?_ ?_
  omega
  with_reducible exact hQ _
set_option maxHeartbeats 4000000 in
theorem sX1_asNumber {a0 : Int32} (hQ : ∀ v : Int32, Q (.inl (some (.int v))) w) : WP (MX1_asNumber g) Q (0, [some (.int a0)], [], w, 0, 0) := by
  simp only [eX1_asNumber_0, eX1_asNumber_4, eX1_asNumber_8, eX1_asNumber_9]
  split
  with_reducible refine And.intro ?_ ?_
  omega
  with_reducible refine And.intro ?_ ?_
  omega
  with_reducible exact hQ _
  with_reducible refine And.intro ?_ ?_
  omega
  with_reducible refine And.intro ?_ ?_
  omega
  with_reducible exact hQ _
set_option maxHeartbeats 4000000 in
theorem sX1_copyOf {a0 : Nat} (h0 : isR w a0) (hN : Q (.inl (some .null)) w) (hQ : ∀ (q : Nat) (w' : Hw), ext g w w' → isR w' q → Q (.inl (some (.ref q))) w') : WP (MX1_copyOf g) Q (0, [some (.ref a0)], [], w, 0, 0) := by
  simp only [eX1_copyOf_0, eX1_copyOf_4, eX1_copyOf_8, eX1_copyOf_12]
  with_reducible refine go_R (by assumption) ?_
  simp only [g0, ex1]
  with_reducible intro _
  with_reducible intro _
  with_reducible intro _
  with_reducible intro _
  with_reducible refine go_R (by assumption) ?_
  simp only [g0, gS, ex1]
  with_reducible intro _
  with_reducible intro _
  with_reducible intro _
  with_reducible intro _
  with_reducible refine go_R (by assumption) ?_
  simp only [g0, gS, ex1]
  with_reducible intro _
  with_reducible intro _
  with_reducible intro _
  with_reducible intro _
  with_reducible refine go_R (by assumption) ?_
  simp only [eX1_copyOf_16, wt_nil, g0, gS, ex1, Nat.zero_add]
  with_reducible intro _
  with_reducible intro _
  with_reducible intro _
  with_reducible intro _
  with_reducible refine And.intro ?_ ?_
  omega
  with_reducible refine And.intro ?_ ?_
  omega
  with_reducible refine And.intro ?_ ?_
  omega
  with_reducible refine sX0_ofFour ?_ ?_
  simp only [eX1_copyOf_19N, kx_l, tl_s]
  with_reducible refine And.intro ?_ ?_
  omega
  with_reducible refine And.intro ?_ ?_
  omega
  with_reducible assumption
  simp only [eX1_copyOf_19, kx_l, tl_s]
  with_reducible intro _
  with_reducible intro _
  with_reducible intro _
  with_reducible intro _
  with_reducible refine And.intro ?_ ?_
  omega
  with_reducible refine And.intro ?_ ?_
  omega
  with_reducible exact hQ _ _ (by assumption) (by assumption)
set_option maxHeartbeats 4000000 in
theorem sX1_outerOf {a0 : Nat} (h0 : isR w a0) (hN : Q (.inl (some .null)) w) (hQ : ∀ (q : Nat) (w' : Hw), ext g w w' → isR w' q → Q (.inl (some (.ref q))) w') : WP (MX1_outerOf g) Q (0, [some (.ref a0)], [], w, 0, 0) := by
  simp only [eX1_outerOf_0, eX1_outerOf_4]
  with_reducible refine go_R (by assumption) ?_
  simp only [g0, ex1]
  with_reducible intro _
  with_reducible intro _
  with_reducible intro _
  with_reducible intro _
  with_reducible refine go_R (by assumption) ?_
  simp only [eX1_outerOf_8, wt_nil, g0, gS, ex1, Nat.zero_add]
  with_reducible intro _
  with_reducible intro _
  with_reducible intro _
  with_reducible intro _
  with_reducible refine And.intro ?_ ?_
  omega
  with_reducible refine And.intro ?_ ?_
  omega
  with_reducible refine And.intro ?_ ?_
  omega
  with_reducible refine sX0_ofTwo ?_ ?_
  simp only [eX1_outerOf_11N, kx_l, tl_s]
  with_reducible refine And.intro ?_ ?_
  omega
  with_reducible refine And.intro ?_ ?_
  omega
  with_reducible assumption
  simp only [eX1_outerOf_11, kx_l, tl_s]
  with_reducible intro _
  with_reducible intro _
  with_reducible intro _
  with_reducible intro _
  with_reducible refine And.intro ?_ ?_
  omega
  with_reducible refine And.intro ?_ ?_
  omega
  with_reducible exact hQ _ _ (by assumption) (by assumption)
set_option maxHeartbeats 4000000 in
theorem sX1_validityIn {a0 : Nat} {a1 : Int64} (h0 : isR w a0) (hQ : ∀ v : Int32, Q (.inl (some (.int v))) w) : WP (MX1_validityIn g) Q (0, [some (.ref a0), some (.long a1), none], [], w, 0, 0) := by
  simp only [eX1_validityIn_0, wt_nil, Nat.add_zero]
  with_reducible refine And.intro ?_ ?_
  with_reducible refine go_R (by assumption) ?_
  with_reducible intro _
  with_reducible intro _
  with_reducible intro _
  with_reducible intro _
  simp only []
  with_reducible refine And.intro ?_ ?_
  omega
  with_reducible refine And.intro ?_ ?_
  omega
  with_reducible refine And.intro ?_ ?_
  omega
  with_reducible refine sX0_holds (by first | assumption | exact hgc _ _ (by assumption) | exact hgl _ _ (by assumption) | exact isR.ext (by assumption) (by assumption)) ?_
  simp only [eX1_validityIn_5, eX1_validityIn_8, kx_l, wt_nil, tl_s, Nat.add_zero]
  with_reducible intro _
  with_reducible refine And.intro ?_ ?_
  omega
  with_reducible refine And.intro ?_ ?_
  omega
  with_reducible refine And.intro ?_ ?_
  omega
  with_reducible refine sX1_asNumber ?_
  simp only [kx_l, wt_nil, wt_int, tl_s, Nat.add_zero]
  with_reducible intro _
  with_reducible refine And.intro ?_ ?_
  with_reducible refine go_R (by assumption) ?_
  with_reducible intro _
  with_reducible intro _
  with_reducible intro _
  with_reducible intro _
  simp only []
  with_reducible refine And.intro ?_ ?_
  omega
  with_reducible refine And.intro ?_ ?_
  omega
  with_reducible refine And.intro ?_ ?_
  omega
  with_reducible refine sX0_holdsAsSmall (by first | assumption | exact hgc _ _ (by assumption) | exact hgl _ _ (by assumption) | exact isR.ext (by assumption) (by assumption)) ?_
  simp only [eX1_validityIn_13, kx_l, wt_nil, wt_int, tl_s, Nat.add_zero]
  with_reducible intro _
  with_reducible refine And.intro ?_ ?_
  omega
  with_reducible refine And.intro ?_ ?_
  omega
  with_reducible refine And.intro ?_ ?_
  omega
  with_reducible refine sX1_asNumber ?_
  simp only [eX1_validityIn_16, kx_l, tl_s]
  with_reducible intro _
  with_reducible refine And.intro ?_ ?_
  omega
  with_reducible refine And.intro ?_ ?_
  omega
  with_reducible exact hQ _
set_option maxHeartbeats 4000000 in
theorem sX1_neighboursIn {a0 : Nat} {a1 : Int64} {a2 : Int32} (h0 : isR w a0) (hQ : ∀ v : Int32, Q (.inl (some (.int v))) w) : WP (MX1_neighboursIn g) Q (0, [some (.ref a0), some (.long a1), none, some (.int a2)], [], w, 0, 0) := by
  simp only [eX1_neighboursIn_0, wt_nil, Nat.add_zero]
  with_reducible refine And.intro ?_ ?_
  with_reducible refine go_R (by assumption) ?_
  with_reducible intro _
  with_reducible intro _
  with_reducible intro _
  with_reducible intro _
  simp only []
  with_reducible refine And.intro ?_ ?_
  omega
  with_reducible refine And.intro ?_ ?_
  omega
  with_reducible refine And.intro ?_ ?_
  omega
  with_reducible refine sX0_holdsAs (by first | assumption | exact hgc _ _ (by assumption) | exact hgl _ _ (by assumption) | exact isR.ext (by assumption) (by assumption)) ?_
  simp only [eX1_neighboursIn_8, eX1_neighboursIn_11, kx_l, wt_nil, wt_int, tl_s, Nat.add_zero]
  with_reducible intro _
  with_reducible refine And.intro ?_ ?_
  omega
  with_reducible refine And.intro ?_ ?_
  omega
  with_reducible refine And.intro ?_ ?_
  omega
  with_reducible refine sX1_asNumber ?_
  simp only [kx_l, wt_nil, wt_int, tl_s, Nat.add_zero]
  with_reducible intro _
  with_reducible refine And.intro ?_ ?_
  with_reducible refine go_R (by assumption) ?_
  with_reducible intro _
  with_reducible intro _
  with_reducible intro _
  with_reducible intro _
  simp only []
  with_reducible refine And.intro ?_ ?_
  omega
  with_reducible refine And.intro ?_ ?_
  omega
  with_reducible refine And.intro ?_ ?_
  omega
  with_reducible refine sX0_holdsAs (by first | assumption | exact hgc _ _ (by assumption) | exact hgl _ _ (by assumption) | exact isR.ext (by assumption) (by assumption)) ?_
  simp only [eX1_neighboursIn_18, kx_l, wt_nil, wt_int, tl_s, Nat.add_zero]
  with_reducible intro _
  with_reducible refine And.intro ?_ ?_
  omega
  with_reducible refine And.intro ?_ ?_
  omega
  with_reducible refine And.intro ?_ ?_
  omega
  with_reducible refine sX1_asNumber ?_
  simp only [eX1_neighboursIn_21, kx_l, wt_nil, wt_int, tl_s, Nat.add_zero]
  with_reducible intro _
  with_reducible refine And.intro ?_ ?_
  with_reducible refine go_R (by assumption) ?_
  with_reducible intro _
  with_reducible intro _
  with_reducible intro _
  with_reducible intro _
  simp only []
  with_reducible refine And.intro ?_ ?_
  omega
  with_reducible refine And.intro ?_ ?_
  omega
  with_reducible refine And.intro ?_ ?_
  omega
  with_reducible refine sX0_holdsAs (by first | assumption | exact hgc _ _ (by assumption) | exact hgl _ _ (by assumption) | exact isR.ext (by assumption) (by assumption)) ?_
  simp only [eX1_neighboursIn_32, kx_l, wt_nil, wt_int, tl_s, Nat.add_zero]
  with_reducible intro _
  with_reducible refine And.intro ?_ ?_
  omega
  with_reducible refine And.intro ?_ ?_
  omega
  with_reducible refine And.intro ?_ ?_
  omega
  with_reducible refine sX1_asNumber ?_
  simp only [eX1_neighboursIn_35, kx_l, tl_s]
  with_reducible intro _
  with_reducible refine And.intro ?_ ?_
  omega
  with_reducible refine And.intro ?_ ?_
  omega
  with_reducible exact hQ _
end
end
