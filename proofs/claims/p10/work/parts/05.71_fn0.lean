section
section
variable {g : RO} {Q : Ot → Hw → Prop} {w0 w : Hw} {x nA cA lA : Nat} {kn : Int32}
/-- guards: the goal's head -/
theorem isQ {Q : Ot → Hw → Prop} {o : Ot} {w : Hw} (h : Q o w) : Q o w := h
theorem isWP {M : MT} {Q : Ot → Hw → Prop} {pc k n : Nat} {L : List (Option Value)} {st : List Value} {w : Hw} (h : WP M Q (pc, L, st, w, k, n)) : WP M Q (pc, L, st, w, k, n) := h
abbrev R4 : Type := Int64 × Int64 × Int64 × Int64
theorem i10 : ((1 : Int32) = 0) = False := eq_false (by decide)
theorem i00 : ((0 : Int32) = 0) = True := eq_true rfl
theorem lgp {x y : Int64} : (0 < lg_cmp x y) = (y.toInt < x.toInt) := by
  unfold lg_cmp
  simp only [gt_iff_lt, Int64.lt_iff_toInt_lt, ← Int64.toInt_inj]
  refine propext ?_
  repeat' split
  all_goals (first | (constructor <;> intro h <;> first | assumption | (exfalso; omega) | (exfalso; revert h; decide) | decide))
theorem lgn {x y : Int64} : (lg_cmp x y < 0) = (x.toInt < y.toInt) := by
  unfold lg_cmp
  simp only [gt_iff_lt, Int64.lt_iff_toInt_lt, ← Int64.toInt_inj]
  refine propext ?_
  repeat' split
  all_goals (first | (constructor <;> intro h <;> first | assumption | omega | (exfalso; omega) | (exfalso; revert h; decide) | decide))
theorem lgz {x y : Int64} : (lg_cmp x y = 0) = (x.toInt = y.toInt) := by
  unfold lg_cmp
  simp only [gt_iff_lt, Int64.lt_iff_toInt_lt, ← Int64.toInt_inj]
  refine propext ?_
  repeat' split
  all_goals (first | (constructor <;> intro h <;> first | assumption | omega | (exfalso; omega) | (exfalso; revert h; decide) | decide))
def rAt (w : Hw) (b : Nat) (r : R4) : Prop := w b = some (.inr (4, [.long r.1, .long r.2.1, .long r.2.2.1, .long r.2.2.2]))
theorem rAt.ext {w' : Hw} {b : Nat} {r : R4} (h : rAt w b r) (k : ext g w w') : rAt w' b r := k.1 _ _ h
theorem rAt.isR {b : Nat} {r : R4} (h : rAt w b r) : isR w b := ⟨_, _, _, _, h⟩
theorem go_F {b : Nat} {r : R4} {K : List Value → Prop} (h : rAt w b r) (k : K [.long r.1, .long r.2.1, .long r.2.2.1, .long r.2.2.2]) : go (rd g w b) 4 K := by
  rw [rd_e h, go_s]
  exact k
/-- the four ends are in order -/
abbrev oP (a b c d : Int64) : Prop := a.toInt ≤ b.toInt ∧ c.toInt ≤ d.toInt ∧ a.toInt ≤ c.toInt ∧ b.toInt ≤ d.toInt
abbrev rOk (r : R4) : Prop := oP r.1 r.2.1 r.2.2.1 r.2.2.2
abbrev hP (r : R4) (v : Int64) : Prop := r.1.toInt ≤ v.toInt ∧ v.toInt ≤ r.2.2.2.toInt
abbrev sP (r : R4) : Prop := -2147483648 ≤ r.1.toInt ∧ r.2.2.2.toInt ≤ 2147483647
abbrev fP (r : R4) : Prop := r.1.toInt = r.2.1.toInt ∧ r.2.2.1.toInt = r.2.2.2.toInt
abbrev mP (r q : R4) : Prop := r.1.toInt = q.1.toInt ∧ r.2.1.toInt = q.2.1.toInt ∧ r.2.2.1.toInt = q.2.2.1.toInt ∧ r.2.2.2.toInt = q.2.2.2.toInt
def hV (r : R4) : Int64 := ((r.1 * 31 + r.2.1) * 31 + r.2.2.1) * 31 + r.2.2.2
def eV (r : R4) (a : Int32) : Int64 := if a = 0 then r.1 else if a = 1 then r.2.1 else if a = 2 then r.2.2.1 else r.2.2.2
theorem lmi : (-2147483648 : Int64).toInt = -2147483648 := by decide
theorem lmx : (2147483647 : Int64).toInt = 2147483647 := by decide
set_option maxHeartbeats 4000000 in
theorem fX0_isInOrder {a0 a1 a2 a3 : Int64}  (hT : oP a0 a1 a2 a3 → Q (.inl (some (.int 1))) w) (hF : ¬ (oP a0 a1 a2 a3) → Q (.inl (some (.int 0))) w) : WP (MX0_isInOrder g) Q (0, [some (.long a0), none, some (.long a1), none, some (.long a2), none, some (.long a3), none], [], w, 0, 0) := by
  simp only [eX0_isInOrder_0, eX0_isInOrder_6, eX0_isInOrder_14, eX0_isInOrder_21, eX0_isInOrder_28, eX0_isInOrder_32, eX0_isInOrder_33, lgp, nb_0, nb_1, true_and]
  split
  with_reducible refine And.intro ?_ ?_
  omega
  with_reducible refine And.intro ?_ ?_
  omega
  with_reducible exact hF (by omega)
  split
  with_reducible refine And.intro ?_ ?_
  omega
  with_reducible refine And.intro ?_ ?_
  omega
  with_reducible exact hF (by omega)
  split
  with_reducible refine And.intro ?_ ?_
  omega
  with_reducible refine And.intro ?_ ?_
  omega
  with_reducible exact hF (by omega)
  split
  with_reducible refine And.intro ?_ ?_
  omega
  with_reducible refine And.intro ?_ ?_
  omega
  with_reducible exact hF (by omega)
  with_reducible refine And.intro ?_ ?_
  omega
  with_reducible refine And.intro ?_ ?_
  omega
  with_reducible exact hT (by omega)
set_option maxHeartbeats 4000000 in
theorem fX0_holds {p : Nat} {r : R4} {a0 : Int64} (hp : rAt w p r) (hT : hP r a0 → Q (.inl (some (.int 1))) w) (hF : ¬ (hP r a0) → Q (.inl (some (.int 0))) w) : WP (MX0_holds g) Q (0, [some (.ref p), some (.long a0), none], [], w, 0, 0) := by
  simp only [eX0_holds_0, eX0_holds_4]
  with_reducible refine go_F (by assumption) ?_
  simp only [eX0_holds_5, eX0_holds_9, eX0_holds_22, eX0_holds_23, lgp, g0, ex1, nb_0, true_and]
  split
  with_reducible refine And.intro ?_ ?_
  omega
  with_reducible refine And.intro ?_ ?_
  omega
  with_reducible exact hF (by omega)
  with_reducible refine go_F (by assumption) ?_
  simp only [eX0_holds_14, eX0_holds_18, eX0_holds_22, eX0_holds_23, lgp, g0, gS, ex1, nb_0, nb_1, true_and]
  split
  with_reducible refine And.intro ?_ ?_
  omega
  with_reducible refine And.intro ?_ ?_
  omega
  with_reducible exact hF (by omega)
  with_reducible refine And.intro ?_ ?_
  omega
  with_reducible refine And.intro ?_ ?_
  omega
  with_reducible exact hT (by omega)
set_option maxHeartbeats 4000000 in
theorem fX0_fitsSmall {p : Nat} {r : R4} (hp : rAt w p r) (hT : sP r → Q (.inl (some (.int 1))) w) (hF : ¬ (sP r) → Q (.inl (some (.int 0))) w) : WP (MX0_fitsSmall g) Q (0, [some (.ref p)], [], w, 0, 0) := by
  simp only [eX0_fitsSmall_0, eX0_fitsSmall_4]
  with_reducible refine go_F (by assumption) ?_
  simp only [eX0_fitsSmall_7, eX0_fitsSmall_11, eX0_fitsSmall_15, eX0_fitsSmall_26, eX0_fitsSmall_27, lgn, lmi, g0, ex1, nb_0, true_and]
  split
  with_reducible refine And.intro ?_ ?_
  omega
  with_reducible refine And.intro ?_ ?_
  omega
  with_reducible exact hF (by omega)
  with_reducible refine go_F (by assumption) ?_
  simp only [eX0_fitsSmall_18, eX0_fitsSmall_22, eX0_fitsSmall_26, eX0_fitsSmall_27, lgp, lmx, g0, gS, ex1, nb_0, nb_1, true_and]
  split
  with_reducible refine And.intro ?_ ?_
  omega
  with_reducible refine And.intro ?_ ?_
  omega
  with_reducible exact hF (by omega)
  with_reducible refine And.intro ?_ ?_
  omega
  with_reducible refine And.intro ?_ ?_
  omega
  with_reducible exact hT (by omega)
set_option maxHeartbeats 4000000 in
theorem fX0_holdsAsSmall {p : Nat} {r : R4} {a0 : Int64} (hp : rAt w p r) (hT : (sP r ∧ hP r a0) → Q (.inl (some (.int 1))) w) (hF : ¬ (sP r ∧ hP r a0) → Q (.inl (some (.int 0))) w) : WP (MX0_holdsAsSmall g) Q (0, [some (.ref p), some (.long a0), none], [], w, 0, 0) := by
  simp only [eX0_holdsAsSmall_0, wt_nil, Nat.add_zero]
  with_reducible refine And.intro ?_ ?_
  with_reducible exact go_F (by assumption) trivial
  with_reducible refine And.intro ?_ ?_
  omega
  with_reducible refine And.intro ?_ ?_
  omega
  with_reducible refine And.intro ?_ ?_
  omega
  with_reducible refine fX0_fitsSmall (by assumption) (fun _ => ?_) (fun _ => ?_)
  simp only [eX0_holdsAsSmall_4, eX0_holdsAsSmall_7, eX0_holdsAsSmall_19, eX0_holdsAsSmall_20, i10, if_false, kx_l, wt_nil, tl_s, nb_0, true_and, Nat.add_zero]
  with_reducible refine And.intro ?_ ?_
  with_reducible exact go_F (by assumption) trivial
  with_reducible refine And.intro ?_ ?_
  omega
  with_reducible refine And.intro ?_ ?_
  omega
  with_reducible refine And.intro ?_ ?_
  omega
  with_reducible refine fX0_holds (by assumption) (fun _ => ?_) (fun _ => ?_)
  simp only [eX0_holdsAsSmall_12, eX0_holdsAsSmall_15, eX0_holdsAsSmall_19, eX0_holdsAsSmall_20, i10, if_false, kx_l, tl_s, nb_0, nb_1, true_and]
  with_reducible refine And.intro ?_ ?_
  omega
  with_reducible refine And.intro ?_ ?_
  omega
  with_reducible exact hT (by omega)
  simp only [eX0_holdsAsSmall_12, eX0_holdsAsSmall_15, eX0_holdsAsSmall_19, eX0_holdsAsSmall_20, if_true, kx_l, tl_s, nb_0, nb_1, true_and]
  with_reducible refine And.intro ?_ ?_
  omega
  with_reducible refine And.intro ?_ ?_
  omega
  with_reducible exact hF (by omega)
  simp only [eX0_holdsAsSmall_4, eX0_holdsAsSmall_7, eX0_holdsAsSmall_19, eX0_holdsAsSmall_20, if_true, kx_l, wt_nil, tl_s, nb_0, true_and, Nat.add_zero]
  with_reducible refine And.intro ?_ ?_
  omega
  with_reducible refine And.intro ?_ ?_
  omega
  with_reducible exact hF (by omega)
set_option maxHeartbeats 4000000 in
theorem fX0_holdsAs {p : Nat} {r : R4} {a0 : Int64} {a1 : Int32} (hp : rAt w p r) (hT : ((a1 = 0 ∨ sP r) ∧ hP r a0) → Q (.inl (some (.int 1))) w) (hF : ¬ ((a1 = 0 ∨ sP r) ∧ hP r a0) → Q (.inl (some (.int 0))) w) : WP (MX0_holdsAs g) Q (0, [some (.ref p), some (.long a0), none, some (.int a1)], [], w, 0, 0) := by
  simp only [eX0_holdsAs_0, eX0_holdsAs_4, eX0_holdsAs_9, eX0_holdsAs_12, wt_nil, Nat.add_zero]
  split
  with_reducible refine And.intro ?_ ?_
  with_reducible exact go_F (by assumption) trivial
  with_reducible refine And.intro ?_ ?_
  omega
  with_reducible refine And.intro ?_ ?_
  omega
  with_reducible refine And.intro ?_ ?_
  omega
  with_reducible refine fX0_holds (by assumption) (fun _ => ?_) (fun _ => ?_)
  simp only [eX0_holdsAs_17, kx_l, tl_s, nb_1, true_and]
  with_reducible refine And.intro ?_ ?_
  omega
  with_reducible refine And.intro ?_ ?_
  omega
  with_reducible exact hT ⟨Or.inl (by assumption), by assumption⟩
  simp only [eX0_holdsAs_17, kx_l, tl_s, nb_0, true_and]
  with_reducible refine And.intro ?_ ?_
  omega
  with_reducible refine And.intro ?_ ?_
  omega
  ((with_reducible refine isQ (Q := Q) ?_); exact hF (fun h => (by assumption : ¬ hP r a0) h.2))
  with_reducible refine And.intro ?_ ?_
  with_reducible exact go_F (by assumption) trivial
  with_reducible refine And.intro ?_ ?_
  omega
  with_reducible refine And.intro ?_ ?_
  omega
  with_reducible refine And.intro ?_ ?_
  omega
  with_reducible refine fX0_holdsAsSmall (by assumption) (fun _ => ?_) (fun _ => ?_)
  simp only [eX0_holdsAs_17, kx_l, tl_s, nb_1, true_and]
  with_reducible refine And.intro ?_ ?_
  omega
  with_reducible refine And.intro ?_ ?_
  omega
  with_reducible exact hT ⟨Or.inr (And.left (by assumption : sP r ∧ hP r a0)), And.right (by assumption : sP r ∧ hP r a0)⟩
  simp only [eX0_holdsAs_17, kx_l, tl_s, nb_0, true_and]
  with_reducible refine And.intro ?_ ?_
  omega
  with_reducible refine And.intro ?_ ?_
  omega
  ((with_reducible refine isQ (Q := Q) ?_); exact hF (fun h => (by assumption : ¬ (sP r ∧ hP r a0)) ⟨h.1.resolve_left (by assumption), h.2⟩))
set_option maxHeartbeats 4000000 in
theorem fX0_isSettled {p : Nat} {r : R4} (hp : rAt w p r) (hT : fP r → Q (.inl (some (.int 1))) w) (hF : ¬ (fP r) → Q (.inl (some (.int 0))) w) : WP (MX0_isSettled g) Q (0, [some (.ref p)], [], w, 0, 0) := by
  simp only [eX0_isSettled_0, eX0_isSettled_4]
  with_reducible refine go_F (by assumption) ?_
  simp only [g0, ex1]
  with_reducible refine go_F (by assumption) ?_
  simp only [eX0_isSettled_8, eX0_isSettled_12, eX0_isSettled_16, eX0_isSettled_28, eX0_isSettled_29, lgz, g0, gS, ex1, nb_0, true_and]
  split
  with_reducible refine go_F (by assumption) ?_
  simp only [g0, gS, ex1]
  with_reducible refine go_F (by assumption) ?_
  simp only [eX0_isSettled_20, eX0_isSettled_24, eX0_isSettled_28, eX0_isSettled_29, lgz, g0, gS, ex1, nb_0, nb_1, true_and]
  split
  with_reducible refine And.intro ?_ ?_
  omega
  with_reducible refine And.intro ?_ ?_
  omega
  with_reducible exact hT (by omega)
  with_reducible refine And.intro ?_ ?_
  omega
  with_reducible refine And.intro ?_ ?_
  omega
  with_reducible exact hF (by omega)
  with_reducible refine And.intro ?_ ?_
  omega
  with_reducible refine And.intro ?_ ?_
  omega
  with_reducible exact hF (by omega)
set_option maxHeartbeats 4000000 in
theorem fX0_matchesR {p q : Nat} {r s : R4} (hp : rAt w p r) (hq : rAt w q s) (hT : mP r s → Q (.inl (some (.int 1))) w) (hF : ¬ (mP r s) → Q (.inl (some (.int 0))) w) : WP (MX0_matches g) Q (0, [some (.ref p), some (.ref q)], [], w, 0, 0) := by
  simp only [eX0_matches_0, eX0_matches_1R, eX0_matches_4, eX0_matches_8]
  with_reducible refine go_F (by assumption) ?_
  simp only [g0, ex1]
  with_reducible refine go_F (by assumption) ?_
  simp only [eX0_matches_12, eX0_matches_16, eX0_matches_20, eX0_matches_56, eX0_matches_57, lgz, g0, ex1, nb_0, true_and]
  split
  with_reducible refine go_F (by assumption) ?_
  simp only [g0, gS, ex1]
  with_reducible refine go_F (by assumption) ?_
  simp only [eX0_matches_24, eX0_matches_28, eX0_matches_32, eX0_matches_56, eX0_matches_57, lgz, g0, gS, ex1, nb_0, true_and]
  split
  with_reducible refine go_F (by assumption) ?_
  simp only [g0, gS, ex1]
  with_reducible refine go_F (by assumption) ?_
  simp only [eX0_matches_36, eX0_matches_40, eX0_matches_44, eX0_matches_56, eX0_matches_57, lgz, g0, gS, ex1, nb_0, true_and]
  split
  with_reducible refine go_F (by assumption) ?_
  simp only [g0, gS, ex1]
  with_reducible refine go_F (by assumption) ?_
  simp only [eX0_matches_48, eX0_matches_52, eX0_matches_56, eX0_matches_57, lgz, g0, gS, ex1, nb_0, nb_1, true_and]
  split
  with_reducible refine And.intro ?_ ?_
  omega
  with_reducible refine And.intro ?_ ?_
  omega
  with_reducible exact hT (by omega)
  with_reducible refine And.intro ?_ ?_
  omega
  with_reducible refine And.intro ?_ ?_
  omega
  with_reducible exact hF (by omega)
  with_reducible refine And.intro ?_ ?_
  omega
  with_reducible refine And.intro ?_ ?_
  omega
  with_reducible exact hF (by omega)
  with_reducible refine And.intro ?_ ?_
  omega
  with_reducible refine And.intro ?_ ?_
  omega
  with_reducible exact hF (by omega)
  with_reducible refine And.intro ?_ ?_
  omega
  with_reducible refine And.intro ?_ ?_
  omega
  with_reducible exact hF (by omega)
set_option maxHeartbeats 4000000 in
theorem fX0_ofFour {a0 a1 a2 a3 : Int64} (hN : ¬ oP a0 a1 a2 a3 → Q (.inl (some .null)) w) (hQ : oP a0 a1 a2 a3 → ∀ q, rd g w q = none → Q (.inl (some (.ref q))) (upw w q (.inr (4, [.long a0, .long a1, .long a2, .long a3])))) : WP (MX0_ofFour g) Q (0, [some (.long a0), none, some (.long a1), none, some (.long a2), none, some (.long a3), none], [], w, 0, 0) := by
  simp only [eX0_ofFour_0, wt_nil, Nat.add_zero]
  with_reducible refine And.intro ?_ ?_
  omega
  with_reducible refine And.intro ?_ ?_
  omega
  with_reducible refine And.intro ?_ ?_
  omega
  with_reducible refine fX0_isInOrder (fun _ => ?_) (fun _ => ?_)
  simp only [eX0_ofFour_9, eX0_ofFour_12, eX0_ofFour_15R, eX0_ofFour_25, eX0_ofFour_28, eX0_ofFour_29, eX0_ofFour_29N, eX0_init_0, eX0_init_4, eX0_init_9, eX0_init_14, eX0_init_20, eX0_init_26, i10, if_false, upw2q, kx_l, go_s, wt_nil, wt_ref, tl_s, tl_n, nf_l, true_and, List.set_cons_zero, List.set_cons_succ, List.length_cons, List.length_nil, upw_s, Nat.zero_add, Nat.add_zero]
  with_reducible refine And.intro ?_ ?_
  omega
  with_reducible refine And.intro ?_ ?_
  omega
  with_reducible intro _
  with_reducible intro _
  with_reducible refine And.intro ?_ ?_
  omega
  with_reducible refine And.intro ?_ ?_
  omega
  with_reducible refine And.intro ?_ ?_
  omega
  with_reducible refine And.intro ?_ ?_
  omega
  with_reducible refine And.intro ?_ ?_
  omega
  with_reducible refine And.intro ?_ ?_
  omega
  with_reducible refine And.intro ?_ ?_
  omega
  with_reducible refine And.intro ?_ ?_
  omega
  with_reducible refine And.intro ?_ ?_
  omega
  with_reducible refine And.intro ?_ ?_
  omega
  with_reducible refine And.intro ?_ ?_
  omega
  with_reducible refine And.intro ?_ ?_
  omega
  with_reducible exact hQ (by assumption) _ (by assumption)
  simp only [eX0_ofFour_9, eX0_ofFour_12, eX0_ofFour_15R, eX0_ofFour_25, eX0_ofFour_28, eX0_ofFour_29, eX0_ofFour_29N, eX0_init_0, eX0_init_4, eX0_init_9, eX0_init_14, eX0_init_20, eX0_init_26, if_true, upw2q, kx_l, go_s, wt_nil, wt_ref, tl_s, tl_n, nf_l, true_and, List.set_cons_zero, List.set_cons_succ, List.length_cons, List.length_nil, upw_s, Nat.zero_add, Nat.add_zero]
  with_reducible refine And.intro ?_ ?_
  omega
  with_reducible refine And.intro ?_ ?_
  omega
  with_reducible exact hN (by assumption)
set_option maxHeartbeats 4000000 in
theorem fX0_ofThree {a0 a1 a2 : Int64} (hN : ¬ oP a0 a0 a1 a2 → Q (.inl (some .null)) w) (hQ : oP a0 a0 a1 a2 → ∀ q, rd g w q = none → Q (.inl (some (.ref q))) (upw w q (.inr (4, [.long a0, .long a0, .long a1, .long a2])))) : WP (MX0_ofThree g) Q (0, [some (.long a0), none, some (.long a1), none, some (.long a2), none], [], w, 0, 0) := by
  simp only [eX0_ofThree_0, wt_nil, Nat.zero_add]
  with_reducible refine And.intro ?_ ?_
  omega
  with_reducible refine And.intro ?_ ?_
  omega
  with_reducible refine And.intro ?_ ?_
  omega
  with_reducible refine fX0_ofFour (fun _ => ?_) (fun _ _ _ => ?_)
  simp only [eX0_ofThree_8N, kx_l, tl_s]
  with_reducible refine And.intro ?_ ?_
  omega
  with_reducible refine And.intro ?_ ?_
  omega
  with_reducible exact hN (by assumption)
  simp only [eX0_ofThree_8, kx_l, tl_s]
  with_reducible refine And.intro ?_ ?_
  omega
  with_reducible refine And.intro ?_ ?_
  omega
  with_reducible exact hQ (by assumption) _ (by assumption)
set_option maxHeartbeats 4000000 in
theorem fX0_ofTwo {a0 a1 : Int64} (hN : ¬ oP a0 a0 a1 a1 → Q (.inl (some .null)) w) (hQ : oP a0 a0 a1 a1 → ∀ q, rd g w q = none → Q (.inl (some (.ref q))) (upw w q (.inr (4, [.long a0, .long a0, .long a1, .long a1])))) : WP (MX0_ofTwo g) Q (0, [some (.long a0), none, some (.long a1), none], [], w, 0, 0) := by
  simp only [eX0_ofTwo_0, wt_nil, Nat.zero_add]
  with_reducible refine And.intro ?_ ?_
  omega
  with_reducible refine And.intro ?_ ?_
  omega
  with_reducible refine And.intro ?_ ?_
  omega
  with_reducible refine fX0_ofFour (fun _ => ?_) (fun _ _ _ => ?_)
  simp only [eX0_ofTwo_7N, kx_l, tl_s]
  with_reducible refine And.intro ?_ ?_
  omega
  with_reducible refine And.intro ?_ ?_
  omega
  with_reducible exact hN (by assumption)
  simp only [eX0_ofTwo_7, kx_l, tl_s]
  with_reducible refine And.intro ?_ ?_
  omega
  with_reducible refine And.intro ?_ ?_
  omega
  with_reducible exact hQ (by assumption) _ (by assumption)
theorem eV_d {r : R4} {a : Int32} (h : a.toInt < 0 ∨ 2 < a.toInt) : eV r a = r.2.2.2 := by
  unfold eV
  rw [if_neg, if_neg, if_neg]
  all_goals
    rintro rfl
    revert h
    decide
set_option maxHeartbeats 4000000 in
theorem fX0_endAt {p : Nat} {r : R4} {a0 : Int32} (hp : rAt w p r) (hQ : Q (.inl (some (.long (eV r a0)))) w) : WP (MX0_endAt g) Q (0, [some (.ref p), some (.int a0)], [], w, 0, 0) := by
  rcases sw02 a0 with rfl | rfl | rfl | hsw
  · skip
    simp only [eX0_endAt_0, eX0_endAt_1_0, eX0_endAt_28]
    with_reducible refine go_F (by assumption) ?_
    simp only [eX0_endAt_32, g0, ex1]
    with_reducible refine And.intro ?_ ?_
    omega
    with_reducible refine And.intro ?_ ?_
    omega
    ((with_reducible refine isQ (Q := Q) ?_); exact hQ)
  · skip
    simp only [eX0_endAt_0, eX0_endAt_1_1, eX0_endAt_33]
    with_reducible refine go_F (by assumption) ?_
    simp only [eX0_endAt_37, g0, gS, ex1]
    with_reducible refine And.intro ?_ ?_
    omega
    with_reducible refine And.intro ?_ ?_
    omega
    ((with_reducible refine isQ (Q := Q) ?_); exact hQ)
  · skip
    simp only [eX0_endAt_0, eX0_endAt_1_2, eX0_endAt_38]
    with_reducible refine go_F (by assumption) ?_
    simp only [eX0_endAt_42, g0, gS, ex1]
    with_reducible refine And.intro ?_ ?_
    omega
    with_reducible refine And.intro ?_ ?_
    omega
    ((with_reducible refine isQ (Q := Q) ?_); exact hQ)
  · rw [eV_d hsw] at hQ
    simp only [eX0_endAt_0, eX0_endAt_43, eX0_endAt_1_d hsw]
    with_reducible refine go_F (by assumption) ?_
    simp only [eX0_endAt_47, g0, gS, ex1]
    with_reducible refine And.intro ?_ ?_
    omega
    with_reducible refine And.intro ?_ ?_
    omega
    with_reducible assumption
end
end
