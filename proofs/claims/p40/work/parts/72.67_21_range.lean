section
section
variable {g : RO} {Q : Ot → Hw → Prop} {w0 w : Hw} {x nA cA lA : Nat} {kn : Int32}
set_option maxHeartbeats 4000000 in
theorem sX0_isInOrder {a0 : Int64} {a1 : Int64} {a2 : Int64} {a3 : Int64} (hQ : ∀ v : Bool, Q (.inl (some (.int (bI v)))) w) : WP (MX0_isInOrder g) Q (0, [some (.long a0), none, some (.long a1), none, some (.long a2), none, some (.long a3), none], [], w, 0, 0) := by
  have hQt : Q (.inl (some (.int 1))) w := hQ true
  have hQf : Q (.inl (some (.int 0))) w := hQ false
  simp only [eX0_isInOrder_0, eX0_isInOrder_6, eX0_isInOrder_14, eX0_isInOrder_21, eX0_isInOrder_28, eX0_isInOrder_32, eX0_isInOrder_33, nb_0, nb_1, true_and]
  split
  with_reducible refine And.intro ?_ ?_
  omega
  with_reducible refine And.intro ?_ ?_
  omega
  with_reducible assumption
  split
  with_reducible refine And.intro ?_ ?_
  omega
  with_reducible refine And.intro ?_ ?_
  omega
  with_reducible assumption
  split
  with_reducible refine And.intro ?_ ?_
  omega
  with_reducible refine And.intro ?_ ?_
  omega
  with_reducible assumption
  split
  with_reducible refine And.intro ?_ ?_
  omega
  with_reducible refine And.intro ?_ ?_
  omega
  with_reducible assumption
  with_reducible refine And.intro ?_ ?_
  omega
  with_reducible refine And.intro ?_ ?_
  omega
  with_reducible assumption
set_option maxHeartbeats 4000000 in
theorem sX0_holds {p : Nat} {a0 : Int64} (hp : isR w p) (hQ : ∀ v : Bool, Q (.inl (some (.int (bI v)))) w) : WP (MX0_holds g) Q (0, [some (.ref p), some (.long a0), none], [], w, 0, 0) := by
  have hQt : Q (.inl (some (.int 1))) w := hQ true
  have hQf : Q (.inl (some (.int 0))) w := hQ false
  simp only [eX0_holds_0, eX0_holds_4]
  with_reducible refine go_R (by assumption) ?_
  simp only [eX0_holds_5, eX0_holds_9, eX0_holds_22, eX0_holds_23, g0, ex1, nb_0, true_and]
  with_reducible intro _
  split
  with_reducible intro _
  with_reducible intro _
  with_reducible intro _
  with_reducible refine And.intro ?_ ?_
  omega
  with_reducible refine And.intro ?_ ?_
  omega
  with_reducible assumption
  with_reducible intro _
  with_reducible intro _
  with_reducible intro _
  with_reducible refine go_R (by assumption) ?_
  simp only [eX0_holds_14, eX0_holds_18, eX0_holds_22, eX0_holds_23, g0, gS, ex1, nb_0, nb_1, true_and]
  with_reducible intro _
  with_reducible intro _
  with_reducible intro _
  with_reducible intro _
  split
  with_reducible refine And.intro ?_ ?_
  omega
  with_reducible refine And.intro ?_ ?_
  omega
  with_reducible assumption
  with_reducible refine And.intro ?_ ?_
  omega
  with_reducible refine And.intro ?_ ?_
  omega
  with_reducible assumption
set_option maxHeartbeats 4000000 in
theorem sX0_fitsSmall {p : Nat} (hp : isR w p) (hQ : ∀ v : Bool, Q (.inl (some (.int (bI v)))) w) : WP (MX0_fitsSmall g) Q (0, [some (.ref p)], [], w, 0, 0) := by
  have hQt : Q (.inl (some (.int 1))) w := hQ true
  have hQf : Q (.inl (some (.int 0))) w := hQ false
  simp only [eX0_fitsSmall_0, eX0_fitsSmall_4]
  with_reducible refine go_R (by assumption) ?_
  simp only [eX0_fitsSmall_7, eX0_fitsSmall_11, eX0_fitsSmall_15, eX0_fitsSmall_26, eX0_fitsSmall_27, g0, ex1, nb_0, true_and]
  with_reducible intro _
  split
  with_reducible intro _
  with_reducible intro _
  with_reducible intro _
  with_reducible refine And.intro ?_ ?_
  omega
  with_reducible refine And.intro ?_ ?_
  omega
  with_reducible assumption
  with_reducible intro _
  with_reducible intro _
  with_reducible intro _
  with_reducible refine go_R (by assumption) ?_
  simp only [eX0_fitsSmall_18, eX0_fitsSmall_22, eX0_fitsSmall_26, eX0_fitsSmall_27, g0, gS, ex1, nb_0, nb_1, true_and]
  with_reducible intro _
  with_reducible intro _
  with_reducible intro _
  with_reducible intro _
  split
  with_reducible refine And.intro ?_ ?_
  omega
  with_reducible refine And.intro ?_ ?_
  omega
  with_reducible assumption
  with_reducible refine And.intro ?_ ?_
  omega
  with_reducible refine And.intro ?_ ?_
  omega
  with_reducible assumption
set_option maxHeartbeats 4000000 in
theorem sX0_holdsAsSmall {p : Nat} {a0 : Int64} (hp : isR w p) (hQ : ∀ v : Bool, Q (.inl (some (.int (bI v)))) w) : WP (MX0_holdsAsSmall g) Q (0, [some (.ref p), some (.long a0), none], [], w, 0, 0) := by
  have hQt : Q (.inl (some (.int 1))) w := hQ true
  have hQf : Q (.inl (some (.int 0))) w := hQ false
  simp only [eX0_holdsAsSmall_0, wt_nil, Nat.add_zero]
  with_reducible refine And.intro ?_ ?_
  with_reducible refine go_R (by assumption) ?_
  with_reducible intro _
  with_reducible intro _
  with_reducible intro _
  with_reducible intro _
  simp only []
  with_reducible refine And.intro ?_ ?_
  omega
  with_reducible refine And.intro ?_ ?_
  omega
  with_reducible refine And.intro ?_ ?_
  omega
  with_reducible refine sX0_fitsSmall (by first | assumption | exact hgc _ _ (by assumption) | exact hgl _ _ (by assumption) | exact isR.ext (by assumption) (by assumption)) ?_
  simp only [eX0_holdsAsSmall_4, eX0_holdsAsSmall_7, eX0_holdsAsSmall_19, eX0_holdsAsSmall_20, kx_l, wt_nil, tl_s, nb_0, true_and, Nat.add_zero]
  with_reducible intro _
  split
  with_reducible refine And.intro ?_ ?_
  omega
  with_reducible refine And.intro ?_ ?_
  omega
  with_reducible assumption
  with_reducible refine And.intro ?_ ?_
  with_reducible refine go_R (by assumption) ?_
  with_reducible intro _
  with_reducible intro _
  with_reducible intro _
  with_reducible intro _
  simp only []
  with_reducible refine And.intro ?_ ?_
  omega
  with_reducible refine And.intro ?_ ?_
  omega
  with_reducible refine And.intro ?_ ?_
  omega
  with_reducible refine sX0_holds (by first | assumption | exact hgc _ _ (by assumption) | exact hgl _ _ (by assumption) | exact isR.ext (by assumption) (by assumption)) ?_
  simp only [eX0_holdsAsSmall_12, eX0_holdsAsSmall_15, eX0_holdsAsSmall_19, eX0_holdsAsSmall_20, kx_l, tl_s, nb_0, nb_1, true_and]
  with_reducible intro _
  split
  with_reducible refine And.intro ?_ ?_
  omega
  with_reducible refine And.intro ?_ ?_
  omega
  with_reducible assumption
  with_reducible refine And.intro ?_ ?_
  omega
  with_reducible refine And.intro ?_ ?_
  omega
  with_reducible assumption
set_option maxHeartbeats 4000000 in
theorem sX0_holdsAs {p : Nat} {a0 : Int64} {a1 : Int32} (hp : isR w p) (hQ : ∀ v : Bool, Q (.inl (some (.int (bI v)))) w) : WP (MX0_holdsAs g) Q (0, [some (.ref p), some (.long a0), none, some (.int a1)], [], w, 0, 0) := by
  have hQt : Q (.inl (some (.int 1))) w := hQ true
  have hQf : Q (.inl (some (.int 0))) w := hQ false
  simp only [eX0_holdsAs_0, eX0_holdsAs_4, eX0_holdsAs_9, eX0_holdsAs_12, wt_nil, Nat.add_zero]
  split
  with_reducible refine And.intro ?_ ?_
  with_reducible refine go_R (by assumption) ?_
  with_reducible intro _
  with_reducible intro _
  with_reducible intro _
  with_reducible intro _
  simp only []
  with_reducible refine And.intro ?_ ?_
  omega
  with_reducible refine And.intro ?_ ?_
  omega
  with_reducible refine And.intro ?_ ?_
  omega
  with_reducible refine sX0_holds (by first | assumption | exact hgc _ _ (by assumption) | exact hgl _ _ (by assumption) | exact isR.ext (by assumption) (by assumption)) ?_
  simp only [eX0_holdsAs_17, kx_l, tl_s, nb_b, true_and]
  with_reducible intro _
  with_reducible refine And.intro ?_ ?_
  omega
  with_reducible refine And.intro ?_ ?_
  omega
  with_reducible exact hQ _
  with_reducible refine And.intro ?_ ?_
  with_reducible refine go_R (by assumption) ?_
  with_reducible intro _
  with_reducible intro _
  with_reducible intro _
  with_reducible intro _
  simp only []
  with_reducible refine And.intro ?_ ?_
  omega
  with_reducible refine And.intro ?_ ?_
  omega
  with_reducible refine And.intro ?_ ?_
  omega
  with_reducible refine sX0_holdsAsSmall (by first | assumption | exact hgc _ _ (by assumption) | exact hgl _ _ (by assumption) | exact isR.ext (by assumption) (by assumption)) ?_
  simp only [eX0_holdsAs_17, kx_l, tl_s, nb_b, true_and]
  with_reducible intro _
  with_reducible refine And.intro ?_ ?_
  omega
  with_reducible refine And.intro ?_ ?_
  omega
  with_reducible exact hQ _
set_option maxHeartbeats 4000000 in
theorem sX0_isSettled {p : Nat} (hp : isR w p) (hQ : ∀ v : Bool, Q (.inl (some (.int (bI v)))) w) : WP (MX0_isSettled g) Q (0, [some (.ref p)], [], w, 0, 0) := by
  have hQt : Q (.inl (some (.int 1))) w := hQ true
  have hQf : Q (.inl (some (.int 0))) w := hQ false
  simp only [eX0_isSettled_0, eX0_isSettled_4]
  with_reducible refine go_R (by assumption) ?_
  simp only [g0, ex1]
  with_reducible intro _
  with_reducible intro _
  with_reducible intro _
  with_reducible intro _
  with_reducible refine go_R (by assumption) ?_
  simp only [eX0_isSettled_8, eX0_isSettled_12, eX0_isSettled_16, eX0_isSettled_28, eX0_isSettled_29, g0, gS, ex1, nb_0, true_and]
  with_reducible intro _
  with_reducible intro _
  split
  with_reducible intro _
  with_reducible intro _
  with_reducible refine go_R (by assumption) ?_
  simp only [g0, gS, ex1]
  with_reducible intro _
  with_reducible intro _
  with_reducible intro _
  with_reducible intro _
  with_reducible refine go_R (by assumption) ?_
  simp only [eX0_isSettled_20, eX0_isSettled_24, eX0_isSettled_28, eX0_isSettled_29, g0, gS, ex1, nb_0, nb_1, true_and]
  with_reducible intro _
  with_reducible intro _
  with_reducible intro _
  with_reducible intro _
  split
  with_reducible refine And.intro ?_ ?_
  omega
  with_reducible refine And.intro ?_ ?_
  omega
  with_reducible assumption
  with_reducible refine And.intro ?_ ?_
  omega
  with_reducible refine And.intro ?_ ?_
  omega
  with_reducible assumption
  with_reducible intro _
  with_reducible intro _
  with_reducible refine And.intro ?_ ?_
  omega
  with_reducible refine And.intro ?_ ?_
  omega
  with_reducible assumption
set_option maxHeartbeats 4000000 in
theorem sX0_matchesR {p : Nat} {a0 : Nat} (hp : isR w p) (h0 : isR w a0) (hQ : ∀ v : Bool, Q (.inl (some (.int (bI v)))) w) : WP (MX0_matches g) Q (0, [some (.ref p), some (.ref a0)], [], w, 0, 0) := by
  have hQt : Q (.inl (some (.int 1))) w := hQ true
  have hQf : Q (.inl (some (.int 0))) w := hQ false
  simp only [eX0_matches_0, eX0_matches_1R, eX0_matches_4, eX0_matches_8]
  with_reducible refine go_R (by assumption) ?_
  simp only [g0, ex1]
  with_reducible intro _
  with_reducible intro _
  with_reducible intro _
  with_reducible intro _
  with_reducible refine go_R (by assumption) ?_
  simp only [eX0_matches_12, eX0_matches_16, eX0_matches_20, eX0_matches_56, eX0_matches_57, g0, ex1, nb_0, true_and]
  with_reducible intro _
  split
  with_reducible intro _
  with_reducible intro _
  with_reducible intro _
  with_reducible refine go_R (by assumption) ?_
  simp only [g0, gS, ex1]
  with_reducible intro _
  with_reducible intro _
  with_reducible intro _
  with_reducible intro _
  with_reducible refine go_R (by assumption) ?_
  simp only [eX0_matches_24, eX0_matches_28, eX0_matches_32, eX0_matches_56, eX0_matches_57, g0, gS, ex1, nb_0, true_and]
  with_reducible intro _
  with_reducible intro _
  split
  with_reducible intro _
  with_reducible intro _
  with_reducible refine go_R (by assumption) ?_
  simp only [g0, gS, ex1]
  with_reducible intro _
  with_reducible intro _
  with_reducible intro _
  with_reducible intro _
  with_reducible refine go_R (by assumption) ?_
  simp only [eX0_matches_36, eX0_matches_40, eX0_matches_44, eX0_matches_56, eX0_matches_57, g0, gS, ex1, nb_0, true_and]
  with_reducible intro _
  with_reducible intro _
  with_reducible intro _
  split
  with_reducible intro _
  with_reducible refine go_R (by assumption) ?_
  simp only [g0, gS, ex1]
  with_reducible intro _
  with_reducible intro _
  with_reducible intro _
  with_reducible intro _
  with_reducible refine go_R (by assumption) ?_
  simp only [eX0_matches_48, eX0_matches_52, eX0_matches_56, eX0_matches_57, g0, gS, ex1, nb_0, nb_1, true_and]
  with_reducible intro _
  with_reducible intro _
  with_reducible intro _
  with_reducible intro _
  split
  with_reducible refine And.intro ?_ ?_
  omega
  with_reducible refine And.intro ?_ ?_
  omega
  with_reducible assumption
  with_reducible refine And.intro ?_ ?_
  omega
  with_reducible refine And.intro ?_ ?_
  omega
  with_reducible assumption
  with_reducible intro _
  with_reducible refine And.intro ?_ ?_
  omega
  with_reducible refine And.intro ?_ ?_
  omega
  with_reducible assumption
  with_reducible intro _
  with_reducible intro _
  with_reducible refine And.intro ?_ ?_
  omega
  with_reducible refine And.intro ?_ ?_
  omega
  with_reducible assumption
  with_reducible intro _
  with_reducible intro _
  with_reducible intro _
  with_reducible refine And.intro ?_ ?_
  omega
  with_reducible refine And.intro ?_ ?_
  omega
  with_reducible assumption
set_option maxHeartbeats 4000000 in
theorem sX0_matchesN {p : Nat} (hp : isR w p) (hQ : ∀ v : Bool, Q (.inl (some (.int (bI v)))) w) : WP (MX0_matches g) Q (0, [some (.ref p), some .null], [], w, 0, 0) := by
  have hQt : Q (.inl (some (.int 1))) w := hQ true
  have hQf : Q (.inl (some (.int 0))) w := hQ false
  simp only [eX0_matches_0N, eX0_matches_1N, eX0_matches_56, eX0_matches_57, nb_0, true_and]
  with_reducible refine And.intro ?_ ?_
  omega
  with_reducible refine And.intro ?_ ?_
  omega
  with_reducible assumption
set_option maxHeartbeats 4000000 in
theorem sX0_hash {p : Nat} (hp : isR w p) (hQ : ∀ v : Int64, Q (.inl (some (.long v))) w) : WP (MX0_hash g) Q (0, [some (.ref p), none, none], [], w, 0, 0) := by
  simp only [eX0_hash_0]
  with_reducible refine go_R (by assumption) ?_
  simp only [eX0_hash_4, eX0_hash_10, nl_ref, g0, ex1]
  with_reducible intro _
  with_reducible intro _
  with_reducible intro _
  with_reducible intro _
  with_reducible refine go_R (by assumption) ?_
  simp only [eX0_hash_14, eX0_hash_21, nl_ref, g0, gS, ex1]
  with_reducible intro _
  with_reducible intro _
  with_reducible intro _
  with_reducible intro _
  with_reducible refine go_R (by assumption) ?_
  simp only [eX0_hash_25, eX0_hash_32, nl_ref, g0, gS, ex1]
  with_reducible intro _
  with_reducible intro _
  with_reducible intro _
  with_reducible intro _
  with_reducible refine go_R (by assumption) ?_
  simp only [eX0_hash_36, g0, gS, ex1]
  with_reducible intro _
  with_reducible intro _
  with_reducible intro _
  with_reducible intro _
  with_reducible refine And.intro ?_ ?_
  omega
  with_reducible refine And.intro ?_ ?_
  omega
  with_reducible exact hQ _
set_option maxHeartbeats 4000000 in
theorem sX0_ofFour {a0 a1 a2 a3 : Int64} (hN : Q (.inl (some .null)) w) (hQ : ∀ (q : Nat) (w' : Hw), ext g w w' → isR w' q → Q (.inl (some (.ref q))) w') : WP (MX0_ofFour g) Q (0, [some (.long a0), none, some (.long a1), none, some (.long a2), none, some (.long a3), none], [], w, 0, 0) := by
  simp only [eX0_ofFour_0, wt_nil, Nat.add_zero]
  with_reducible refine And.intro ?_ ?_
  omega
  with_reducible refine And.intro ?_ ?_
  omega
  with_reducible refine And.intro ?_ ?_
  omega
  with_reducible refine sX0_isInOrder ?_
  simp only [eX0_ofFour_9, eX0_ofFour_12, eX0_ofFour_15R, eX0_ofFour_25, eX0_ofFour_28, eX0_ofFour_29, eX0_ofFour_29N, eX0_init_0, eX0_init_4, eX0_init_9, eX0_init_14, eX0_init_20, eX0_init_26, kx_l, go_s, wt_nil, wt_ref, tl_s, tl_n, nf_l, true_and, List.set_cons_zero, List.set_cons_succ, List.length_cons, List.length_nil, upw_s, Nat.zero_add, Nat.add_zero]
  with_reducible intro _
  split
  with_reducible refine And.intro ?_ ?_
  omega
  with_reducible refine And.intro ?_ ?_
  omega
  with_reducible assumption
  with_reducible refine And.intro ?_ ?_
  omega
  with_reducible refine And.intro ?_ ?_
  omega
  with_reducible intro _
  with_reducible intro _
  with_reducible refine And.intro ?_ ?_
  omega
  with_reducible refine And.intro ?_ ?_
  omega
  with_reducible refine And.intro ?_ ?_
  omega
  with_reducible refine And.intro ?_ ?_
  omega
  with_reducible refine And.intro ?_ ?_
  omega
  with_reducible refine And.intro ?_ ?_
  omega
  with_reducible refine And.intro ?_ ?_
  omega
  with_reducible refine And.intro ?_ ?_
  omega
  with_reducible refine And.intro ?_ ?_
  omega
  with_reducible refine And.intro ?_ ?_
  omega
  with_reducible refine And.intro ?_ ?_
  omega
  with_reducible refine And.intro ?_ ?_
  omega
  with_reducible exact hQ _ _ (by repeat' first | assumption | exact ext.rf | refine ext_up2 ?_ ?_) isR_up
set_option maxHeartbeats 4000000 in
theorem sX0_ofTwo {a0 : Int64} {a1 : Int64} (hN : Q (.inl (some .null)) w) (hQ : ∀ (q : Nat) (w' : Hw), ext g w w' → isR w' q → Q (.inl (some (.ref q))) w') : WP (MX0_ofTwo g) Q (0, [some (.long a0), none, some (.long a1), none], [], w, 0, 0) := by
  simp only [eX0_ofTwo_0, wt_nil, Nat.zero_add]
  with_reducible refine And.intro ?_ ?_
  omega
  with_reducible refine And.intro ?_ ?_
  omega
  with_reducible refine And.intro ?_ ?_
  omega
  with_reducible refine sX0_ofFour ?_ ?_
  simp only [eX0_ofTwo_7N, kx_l, tl_s]
  with_reducible refine And.intro ?_ ?_
  omega
  with_reducible refine And.intro ?_ ?_
  omega
  with_reducible assumption
  simp only [eX0_ofTwo_7, kx_l, tl_s]
  with_reducible intro _
  with_reducible intro _
  with_reducible intro _
  with_reducible intro _
  with_reducible refine And.intro ?_ ?_
  omega
  with_reducible refine And.intro ?_ ?_
  omega
  with_reducible exact hQ _ _ (by assumption) (by assumption)
set_option maxHeartbeats 4000000 in
theorem sX0_endAt {p : Nat} {a0 : Int32} (hp : isR w p) (hQ : ∀ v : Int64, Q (.inl (some (.long v))) w) : WP (MX0_endAt g) Q (0, [some (.ref p), some (.int a0)], [], w, 0, 0) := by
  rcases sw02 a0 with rfl | rfl | rfl | hsw
  · simp only [eX0_endAt_0, eX0_endAt_1_0, eX0_endAt_28]
    with_reducible refine go_R (by assumption) ?_
    simp only [eX0_endAt_32, g0, ex1]
    with_reducible intro _
    with_reducible intro _
    with_reducible intro _
    with_reducible intro _
    with_reducible refine And.intro ?_ ?_
    omega
    with_reducible refine And.intro ?_ ?_
    omega
    with_reducible exact hQ _
  · simp only [eX0_endAt_0, eX0_endAt_1_1, eX0_endAt_33]
    with_reducible refine go_R (by assumption) ?_
    simp only [eX0_endAt_37, g0, gS, ex1]
    with_reducible intro _
    with_reducible intro _
    with_reducible intro _
    with_reducible intro _
    with_reducible refine And.intro ?_ ?_
    omega
    with_reducible refine And.intro ?_ ?_
    omega
    with_reducible exact hQ _
  · simp only [eX0_endAt_0, eX0_endAt_1_2, eX0_endAt_38]
    with_reducible refine go_R (by assumption) ?_
    simp only [eX0_endAt_42, g0, gS, ex1]
    with_reducible intro _
    with_reducible intro _
    with_reducible intro _
    with_reducible intro _
    with_reducible refine And.intro ?_ ?_
    omega
    with_reducible refine And.intro ?_ ?_
    omega
    with_reducible exact hQ _
  · simp only [eX0_endAt_0, eX0_endAt_43, eX0_endAt_1_d hsw]
    with_reducible refine go_R (by assumption) ?_
    simp only [eX0_endAt_47, g0, gS, ex1]
    with_reducible intro _
    with_reducible intro _
    with_reducible intro _
    with_reducible intro _
    with_reducible refine And.intro ?_ ?_
    omega
    with_reducible refine And.intro ?_ ?_
    omega
    with_reducible exact hQ _
end
end
