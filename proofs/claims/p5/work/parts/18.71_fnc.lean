section
section
variable {g : RO} {Q : Ot → Hw → Prop} {w0 w : Hw} {x nA cA lA : Nat} {kn : Int32}
/-! FUNCTIONAL SPECS, 12: soundness: so of every state whose ranges are in order -/
theorem mP_rf {r : R4} : mP r r := ⟨rfl, rfl, rfl, rfl⟩
theorem mSy {r q : R4} (h : mP r q) : mP q r := ⟨h.1.symm, h.2.1.symm, h.2.2.1.symm, h.2.2.2.symm⟩
theorem rAt_cp {q : Nat} {r : R4} : rAt (upw w q (.inr (4, [.long r.1, .long r.2.1, .long r.2.2.1, .long r.2.2.2]))) q r := upw_s _ _ _
theorem lmi8 : (-9223372036854775808 : Int64).toInt = -9223372036854775808 := by decide
theorem lmx8 : (9223372036854775807 : Int64).toInt = 9223372036854775807 := by decide
theorem outL {r : R4} (h : ¬ r.1.toInt = -9223372036854775808) : ¬ hP r (r.1 - 1) := by
  rintro ⟨h1, -⟩
  have a := Int64.le_toInt r.1
  have b := Int64.toInt_lt r.1
  have e1 : (1 : Int64).toInt = 1 := rfl
  have e : (r.1 - 1).toInt = r.1.toInt - 1 := by
    rw [Int64.toInt_sub, e1]
    exact Int.bmod_eq_of_le (by omega) (by omega)
  omega
theorem outG {r : R4} (h : ¬ r.2.2.2.toInt = 9223372036854775807) : ¬ hP r (r.2.2.2 + 1) := by
  rintro ⟨-, h1⟩
  have a := Int64.le_toInt r.2.2.2
  have b := Int64.toInt_lt r.2.2.2
  have e1 : (1 : Int64).toInt = 1 := rfl
  have e : (r.2.2.2 + 1).toInt = r.2.2.2.toInt + 1 := by
    rw [Int64.toInt_add, e1]
    exact Int.bmod_eq_of_le (by omega) (by omega)
  omega
theorem eHeld {r : R4} {a : Int32} (h : rOk r) : hP r (eV r a) := by
  obtain ⟨h1, h2, h3, h4⟩ := h
  unfold eV
  repeat' split
  all_goals exact ⟨by omega, by omega⟩
theorem hsv {d r : R4} {v : Int64} (e1 : d.1 = r.1) (e2 : d.2.2.2 = r.2.2.2) (h : hP d v) : hP r v := by
  have h' : d.1.toInt ≤ v.toInt ∧ v.toInt ≤ d.2.2.2.toInt := h
  rw [e1, e2] at h'
  exact h'
theorem dLow {r : R4} (h : rOk r) : oP r.1 r.1 r.2.2.1 r.2.2.2 := ⟨Int.le_refl _, h.2.1, h.2.2.1, by
  obtain ⟨h1, h2, h3, h4⟩ := h
  omega⟩
theorem dHigh {r : R4} (h : rOk r) : oP r.1 r.2.1 r.2.2.2 r.2.2.2 := ⟨h.1, Int.le_refl _, by
  obtain ⟨h1, h2, h3, h4⟩ := h
  omega, h.2.2.2⟩
abbrev cD (o : Option R4) : R4 := o.getD (0, 0, 0, 0)
theorem cdG {gc : Nat → Option Nat} {s : AS} {j b : Nat} (hcd : ∀ i, i < 6 → cM w (gc i) (s.2.1 i)) (h : j < 6) (e : gc j = some b) : rAt w b (cD (s.2.1 j)) := by
  have k := hcd j h
  rw [e] at k
  obtain ⟨r, h1, h2⟩ := k.s
  rw [h1]
  exact h2
theorem cdO {gc : Nat → Option Nat} {s : AS} {j b : Nat} (ho : sOk s) (hcd : ∀ i, i < 6 → cM w (gc i) (s.2.1 i)) (h : j < 6) (e : gc j = some b) : rOk (cD (s.2.1 j)) := by
  have k := hcd j h
  rw [e] at k
  obtain ⟨r, h1, -⟩ := k.s
  have z := ho.1 j r h h1
  rw [h1]
  exact z
set_option maxHeartbeats 4000000 in
theorem fX1_isLikeItsCopy {p : Nat} {r : R4} (hp : rAt w p r) (ho : rOk r) (hQ : ∀ w', ext g w w' → Q (.inl (some (.int 1))) w') : WP (MX1_isLikeItsCopy g) Q (0, [some (.ref p), none], [], w, 0, 0) := by
  repeat' first
    | with_reducible assumption
    | with_reducible refine And.intro ?_ ?_
    | with_reducible exact vpi6 (by assumption) (by assumption)
    | with_reducible exact vpi8 (by assumption) (by assumption)
    | with_reducible exact trivial
    | with_reducible refine fX1_copyOf hp (fun hno => ?_) (fun hyes q hq => ?_)
    | with_reducible exact absurd ho hno
    | with_reducible exact go_F hp trivial
    | with_reducible exact go_F (hp.ext (ext_up2 ext.rf hq)) trivial
    | with_reducible exact go_F rAt_cp trivial
    | with_reducible refine fX0_matchesR rAt_cp (hp.ext (ext_up2 ext.rf hq)) (fun hm => ?_) (fun hm => ?_)
    | with_reducible refine fX0_matchesR (hp.ext (ext_up2 ext.rf hq)) rAt_cp (fun hm => ?_) (fun hm => ?_)
    | with_reducible exact absurd mP_rf hm
    | with_reducible refine fX0_hash rAt_cp ?_
    | with_reducible refine fX0_hash (hp.ext (ext_up2 ext.rf hq)) ?_
    | with_reducible exact hQ _ (ext_up2 ext.rf hq)
    | simp only [eX1_isLikeItsCopy_0, eX1_isLikeItsCopy_0N, eX1_isLikeItsCopy_1R, eX1_isLikeItsCopy_1N, eX1_isLikeItsCopy_4, eX1_isLikeItsCopy_4N, eX1_isLikeItsCopy_5, eX1_isLikeItsCopy_5N, eX1_isLikeItsCopy_6R, eX1_isLikeItsCopy_6N, eX1_isLikeItsCopy_9, eX1_isLikeItsCopy_9N, eX1_isLikeItsCopy_10, eX1_isLikeItsCopy_10N, eX1_isLikeItsCopy_11R, eX1_isLikeItsCopy_11N, eX1_isLikeItsCopy_14, eX1_isLikeItsCopy_17, eX1_isLikeItsCopy_17N, eX1_isLikeItsCopy_18, eX1_isLikeItsCopy_18N, eX1_isLikeItsCopy_19R, eX1_isLikeItsCopy_19N, eX1_isLikeItsCopy_22, eX1_isLikeItsCopy_25, eX1_isLikeItsCopy_25N, eX1_isLikeItsCopy_26, eX1_isLikeItsCopy_29, eX1_isLikeItsCopy_29N, eX1_isLikeItsCopy_30, eX1_isLikeItsCopy_33, eX1_isLikeItsCopy_34, eX1_isLikeItsCopy_37, eX1_isLikeItsCopy_38, eX1_isLikeItsCopy_41, eX1_isLikeItsCopy_42, lgp, lgn, lgz, i10, i00, if_true, if_false, eq_self, not_true, not_false_eq_true, ite_le, n45, n54, true_or, or_true, false_or, or_false, false_and, and_false, kx_l, kx_r, go_s, gl_s, gi_s, gb_s2, gb_s3, gq_s, wt_nil, wt_int, wt_long, wt_ref, wt_null, nl_int, nl_long, nl_ref, nl_null, nl_none, rf_n, rf_s, rf_st, tl_s, tl_n, g0, gS, ex1, nb_b, nb_0, nb_1, nf_i, nf_l, nf_ra, nf_ro, nf_na, nf_no, nf_b0, nf_z0, t45_4, t45_5, true_and, and_true, List.set_cons_zero, List.set_cons_succ, List.length_cons, List.length_nil, rd_s, upw_s, ne_eq, not_false_eq_true, Nat.zero_add, Nat.add_zero]
    | split
    | with_reducible intro _
    | omega
set_option maxHeartbeats 4000000 in
theorem fX1_isOuterSound {p : Nat} {r : R4} (hp : rAt w p r) (hQ : Q (.inl (some (.int 1))) w) : WP (MX1_isOuterSound g) Q (0, [some (.ref p)], [], w, 0, 0) := by
  repeat' first
    | with_reducible assumption
    | with_reducible refine And.intro ?_ ?_
    | with_reducible exact vpi6 (by assumption) (by assumption)
    | with_reducible exact vpi8 (by assumption) (by assumption)
    | with_reducible exact trivial
    | with_reducible refine go_F hp ?_
    | with_reducible refine fX0_holds hp (fun hm => ?_) (fun hm => ?_)
    | with_reducible exact absurd hm (outL (by assumption))
    | with_reducible exact absurd hm (outG (by assumption))
    | simp only [eX1_isOuterSound_0, eX1_isOuterSound_0N, eX1_isOuterSound_1, eX1_isOuterSound_4, eX1_isOuterSound_7, eX1_isOuterSound_8, eX1_isOuterSound_11, eX1_isOuterSound_11N, eX1_isOuterSound_12, eX1_isOuterSound_12N, eX1_isOuterSound_13, eX1_isOuterSound_16, eX1_isOuterSound_17, eX1_isOuterSound_18, eX1_isOuterSound_21, eX1_isOuterSound_24, eX1_isOuterSound_24N, eX1_isOuterSound_25, eX1_isOuterSound_28, eX1_isOuterSound_31, eX1_isOuterSound_32, eX1_isOuterSound_35, eX1_isOuterSound_35N, eX1_isOuterSound_36, eX1_isOuterSound_36N, eX1_isOuterSound_37, eX1_isOuterSound_40, eX1_isOuterSound_41, eX1_isOuterSound_42, eX1_isOuterSound_45, eX1_isOuterSound_48, eX1_isOuterSound_49, eX1_isOuterSound_52, eX1_isOuterSound_53, lgp, lgn, lgz, i10, i00, if_true, if_false, eq_self, not_true, not_false_eq_true, lmi8, lmx8, ite_le, n45, n54, true_or, or_true, false_or, or_false, false_and, and_false, kx_l, kx_r, go_s, gl_s, gi_s, gb_s2, gb_s3, gq_s, wt_nil, wt_int, wt_long, wt_ref, wt_null, nl_int, nl_long, nl_ref, nl_null, nl_none, rf_n, rf_s, rf_st, tl_s, tl_n, g0, gS, ex1, nb_b, nb_0, nb_1, nf_i, nf_l, nf_ra, nf_ro, nf_na, nf_no, nf_b0, nf_z0, t45_4, t45_5, true_and, and_true, List.set_cons_zero, List.set_cons_succ, List.length_cons, List.length_nil, rd_s, upw_s, ne_eq, not_false_eq_true, Nat.zero_add, Nat.add_zero]
    | split
    | with_reducible intro _
    | omega
set_option maxHeartbeats 4000000 in
theorem flX1_isEachEndHeld_2 {p : Nat} {r : R4} (hp : rAt w p r) (ho : rOk r) (hQ : Q (.inl (some (.int 1))) w) : ∀ (d j : Nat) (i2 : Option Value) (i3 : Option Value) (k m : Nat), j + d = 4 → k ≤ 0 → m ≤ 0 → WP (MX1_isEachEndHeld g) Q (2, [some (.ref p), some (.int (Int32.ofNat j)), i2, i3], [], w, k, m) := by
  intro d
  induction d with
  | zero =>
    intro j i2 i3 k m hjd hk hm
    have h9 : j < 1000 := (by omega)
    have hlt : ¬ Int32.ofNat j < 4 := oNg (B := 4) h9 rfl (by omega)
    have hnn := oN0 h9
    have hcl := oNc h9
    obtain rfl : j = 4 := by omega
    rw [eX1_isEachEndHeld_2]
    repeat' first
      | with_reducible assumption
      | with_reducible refine And.intro ?_ ?_
      | with_reducible exact vpi6 (by assumption) (by assumption)
      | with_reducible exact vpi8 (by assumption) (by assumption)
      | with_reducible exact trivial
      | with_reducible exact go_F hp trivial
      | with_reducible refine fX0_endAt hp ?_
      | with_reducible refine fX0_holds hp (fun hm => ?_) (fun hm => ?_)
      | with_reducible exact absurd (eHeld ho) hm
      | with_reducible refine fX0_holdsAsSmall hp (fun z1 => ?_) (fun z1 => ?_)
      | with_reducible refine fX0_fitsSmall hp (fun z2 => ?_) (fun z2 => ?_)
      | with_reducible exact absurd z1.1 z2
      | with_reducible exact absurd (And.intro z2 (eHeld ho)) z1
      | ((with_reducible refine isQ (Q := Q) ?_); exact hQ)
      | simp only [eX1_isEachEndHeld_0, eX1_isEachEndHeld_1, eX1_isEachEndHeld_3, eX1_isEachEndHeld_4, eX1_isEachEndHeld_7, eX1_isEachEndHeld_7N, eX1_isEachEndHeld_8, eX1_isEachEndHeld_9, eX1_isEachEndHeld_12, eX1_isEachEndHeld_13, eX1_isEachEndHeld_13N, eX1_isEachEndHeld_14, eX1_isEachEndHeld_15, eX1_isEachEndHeld_18, eX1_isEachEndHeld_21, eX1_isEachEndHeld_21N, eX1_isEachEndHeld_22, eX1_isEachEndHeld_23, eX1_isEachEndHeld_26, eX1_isEachEndHeld_26N, eX1_isEachEndHeld_27, eX1_isEachEndHeld_30, eX1_isEachEndHeld_33, eX1_isEachEndHeld_34, eX1_isEachEndHeld_35, eX1_isEachEndHeld_38, eX1_isEachEndHeld_41, eX1_isEachEndHeld_42, lgp, lgn, lgz, i10, i00, if_true, if_false, eq_self, not_true, not_false_eq_true, hlt, hcl, ite_le, n45, n54, true_or, or_true, false_or, or_false, false_and, and_false, kx_l, kx_r, go_s, gl_s, gi_s, gb_s2, gb_s3, gq_s, wt_nil, wt_int, wt_long, wt_ref, wt_null, nl_int, nl_long, nl_ref, nl_null, nl_none, rf_n, rf_s, rf_st, tl_s, tl_n, g0, gS, ex1, nb_b, nb_0, nb_1, nf_i, nf_l, nf_ra, nf_ro, nf_na, nf_no, nf_b0, nf_z0, t45_4, t45_5, true_and, and_true, List.set_cons_zero, List.set_cons_succ, List.length_cons, List.length_nil, rd_s, upw_s, ne_eq, not_false_eq_true, Nat.zero_add, Nat.add_zero]
      | split
      | with_reducible intro _
      | omega
  | succ d ih =>
    intro j i2 i3 k m hjd hk hm
    have h9 : j < 1000 := (by omega)
    have hlt : Int32.ofNat j < 4 := oNl (B := 4) h9 rfl (by omega)
    have hnn := oN0 h9
    have hcl := oNc h9
    rw [eX1_isEachEndHeld_2]
    repeat' first
      | with_reducible assumption
      | with_reducible refine And.intro ?_ ?_
      | with_reducible exact vpi6 (by assumption) (by assumption)
      | with_reducible exact vpi8 (by assumption) (by assumption)
      | with_reducible exact trivial
      | (rw [oN1]; exact ih (j + 1) _ _ _ _ (by omega) (by first | assumption | omega) (by first | assumption | omega))
      | with_reducible exact go_F hp trivial
      | with_reducible refine fX0_endAt hp ?_
      | with_reducible refine fX0_holds hp (fun hm => ?_) (fun hm => ?_)
      | with_reducible exact absurd (eHeld ho) hm
      | with_reducible refine fX0_holdsAsSmall hp (fun z1 => ?_) (fun z1 => ?_)
      | with_reducible refine fX0_fitsSmall hp (fun z2 => ?_) (fun z2 => ?_)
      | with_reducible exact absurd z1.1 z2
      | with_reducible exact absurd (And.intro z2 (eHeld ho)) z1
      | ((with_reducible refine isQ (Q := Q) ?_); exact hQ)
      | simp only [eX1_isEachEndHeld_0, eX1_isEachEndHeld_1, eX1_isEachEndHeld_3, eX1_isEachEndHeld_4, eX1_isEachEndHeld_7, eX1_isEachEndHeld_7N, eX1_isEachEndHeld_8, eX1_isEachEndHeld_9, eX1_isEachEndHeld_12, eX1_isEachEndHeld_13, eX1_isEachEndHeld_13N, eX1_isEachEndHeld_14, eX1_isEachEndHeld_15, eX1_isEachEndHeld_18, eX1_isEachEndHeld_21, eX1_isEachEndHeld_21N, eX1_isEachEndHeld_22, eX1_isEachEndHeld_23, eX1_isEachEndHeld_26, eX1_isEachEndHeld_26N, eX1_isEachEndHeld_27, eX1_isEachEndHeld_30, eX1_isEachEndHeld_33, eX1_isEachEndHeld_34, eX1_isEachEndHeld_35, eX1_isEachEndHeld_38, eX1_isEachEndHeld_41, eX1_isEachEndHeld_42, lgp, lgn, lgz, i10, i00, if_true, if_false, eq_self, not_true, not_false_eq_true, hlt, hcl, ite_le, n45, n54, true_or, or_true, false_or, or_false, false_and, and_false, kx_l, kx_r, go_s, gl_s, gi_s, gb_s2, gb_s3, gq_s, wt_nil, wt_int, wt_long, wt_ref, wt_null, nl_int, nl_long, nl_ref, nl_null, nl_none, rf_n, rf_s, rf_st, tl_s, tl_n, g0, gS, ex1, nb_b, nb_0, nb_1, nf_i, nf_l, nf_ra, nf_ro, nf_na, nf_no, nf_b0, nf_z0, t45_4, t45_5, true_and, and_true, List.set_cons_zero, List.set_cons_succ, List.length_cons, List.length_nil, rd_s, upw_s, ne_eq, not_false_eq_true, Nat.zero_add, Nat.add_zero]
      | split
      | with_reducible intro _
      | omega
set_option maxHeartbeats 4000000 in
theorem fX1_isEachEndHeld {p : Nat} {r : R4} (hp : rAt w p r) (ho : rOk r) (hQ : Q (.inl (some (.int 1))) w) : WP (MX1_isEachEndHeld g) Q (0, [some (.ref p), none, none, none], [], w, 0, 0) := by
  repeat' first
    | with_reducible assumption
    | with_reducible refine And.intro ?_ ?_
    | with_reducible exact vpi6 (by assumption) (by assumption)
    | with_reducible exact vpi8 (by assumption) (by assumption)
    | with_reducible exact trivial
    | ((with_reducible refine isWP (pc := 2) ?_); exact flX1_isEachEndHeld_2 hp ho hQ 4 0 _ _ _ _ rfl (by decide) (by decide))
    | simp only [eX1_isEachEndHeld_0, eX1_isEachEndHeld_1, eX1_isEachEndHeld_3, eX1_isEachEndHeld_4, eX1_isEachEndHeld_7, eX1_isEachEndHeld_7N, eX1_isEachEndHeld_8, eX1_isEachEndHeld_9, eX1_isEachEndHeld_12, eX1_isEachEndHeld_13, eX1_isEachEndHeld_13N, eX1_isEachEndHeld_14, eX1_isEachEndHeld_15, eX1_isEachEndHeld_18, eX1_isEachEndHeld_21, eX1_isEachEndHeld_21N, eX1_isEachEndHeld_22, eX1_isEachEndHeld_23, eX1_isEachEndHeld_26, eX1_isEachEndHeld_26N, eX1_isEachEndHeld_27, eX1_isEachEndHeld_30, eX1_isEachEndHeld_33, eX1_isEachEndHeld_34, eX1_isEachEndHeld_35, eX1_isEachEndHeld_38, eX1_isEachEndHeld_41, eX1_isEachEndHeld_42, lgp, lgn, lgz, i10, i00, if_true, if_false, eq_self, not_true, not_false_eq_true, ite_le, n45, n54, true_or, or_true, false_or, or_false, false_and, and_false, kx_l, kx_r, go_s, gl_s, gi_s, gb_s2, gb_s3, gq_s, wt_nil, wt_int, wt_long, wt_ref, wt_null, nl_int, nl_long, nl_ref, nl_null, nl_none, rf_n, rf_s, rf_st, tl_s, tl_n, g0, gS, ex1, nb_b, nb_0, nb_1, nf_i, nf_l, nf_ra, nf_ro, nf_na, nf_no, nf_b0, nf_z0, t45_4, t45_5, true_and, and_true, List.set_cons_zero, List.set_cons_succ, List.length_cons, List.length_nil, rd_s, upw_s, ne_eq, not_false_eq_true, Nat.zero_add, Nat.add_zero]
    | split
    | with_reducible intro _
    | omega
set_option maxHeartbeats 4000000 in
theorem flX1_hasSameValid_8 {s : AS} {p q : Nat} {d r : R4} (hC : CS g w0 x nA cA lA kn s w) (hd : rAt w p d) (hr : rAt w q r) (e1 : d.1 = r.1) (e2 : d.2.2.2 = r.2.2.2) (hQ : Q (.inl (some (.int 1))) w) : ∀ (d j : Nat)  (k m : Nat), j + d = 8 → k ≤ 0 → m ≤ 0 → WP (MX1_hasSameValid g) Q (8, [some (.ref x), some (.ref p), some (.ref q), some (.int (Int32.ofNat j))], [], w, k, m) := by
  obtain ⟨gc, gl, ⟨hx, hn, hc, hl, hgc, hgl, hn0, hn1, rx, rn, rc, rl, ⟨d1, d2, d3, d4, d5, d6⟩, ⟨d7, d8, d9, d10, d11, d12⟩⟩, hcd, hpl⟩ := hC.1.opn g
  intro d
  induction d with
  | zero =>
    intro j  k m hjd hk hm
    have h9 : j < 1000 := (by omega)
    have hlt : ¬ Int32.ofNat j < 8 := oNg (B := 8) h9 rfl (by omega)
    have hnn := oN0 h9
    have hcl := oNc h9
    obtain rfl : j = 8 := by omega
    rw [eX1_hasSameValid_8]
    repeat' first
      | with_reducible assumption
      | with_reducible refine And.intro ?_ ?_
      | with_reducible exact vpi6 (by assumption) (by assumption)
      | with_reducible exact vpi8 (by assumption) (by assumption)
      | with_reducible exact trivial
      | with_reducible exact go_F hd trivial
      | with_reducible exact go_F hr trivial
      | with_reducible refine fX0_holds hd (fun z1 => ?_) (fun z1 => ?_)
      | with_reducible refine fX0_holds hr (fun z2 => ?_) (fun z2 => ?_)
      | with_reducible exact absurd (hsv e1 e2 z1) z2
      | with_reducible exact absurd (hsv e1.symm e2.symm z2) z1
      | ((with_reducible refine isQ (Q := Q) ?_); exact hQ)
      | simp only [eX1_hasSameValid_0, eX1_hasSameValid_0N, eX1_hasSameValid_1R, eX1_hasSameValid_1N, eX1_hasSameValid_4, eX1_hasSameValid_5, eX1_hasSameValid_6, eX1_hasSameValid_7, eX1_hasSameValid_9, eX1_hasSameValid_11, eX1_hasSameValid_14, eX1_hasSameValid_14N, eX1_hasSameValid_15, eX1_hasSameValid_15N, eX1_hasSameValid_16, eX1_hasSameValid_19, eX1_hasSameValid_20, eX1_hasSameValid_21, eX1_hasSameValid_24, eX1_hasSameValid_24N, eX1_hasSameValid_25, eX1_hasSameValid_25N, eX1_hasSameValid_26, eX1_hasSameValid_29, eX1_hasSameValid_30, eX1_hasSameValid_31, eX1_hasSameValid_34, eX1_hasSameValid_37, eX1_hasSameValid_38, eX1_hasSameValid_39, eX1_hasSameValid_42, eX1_hasSameValid_45, eX1_hasSameValid_46, lgp, lgn, lgz, i10, i00, if_true, if_false, eq_self, not_true, not_false_eq_true, hlt, hcl, rx, rn, rc, rl, hx, hn, hc, hl, d1, d2, d3, d4, d5, d6, d7, d8, d9, d10, d11, d12, rd_n, upw_n, ite_le, n45, n54, true_or, or_true, false_or, or_false, false_and, and_false, kx_l, kx_r, go_s, gl_s, gi_s, gb_s2, gb_s3, gq_s, wt_nil, wt_int, wt_long, wt_ref, wt_null, nl_int, nl_long, nl_ref, nl_null, nl_none, rf_n, rf_s, rf_st, tl_s, tl_n, g0, gS, ex1, nb_b, nb_0, nb_1, nf_i, nf_l, nf_ra, nf_ro, nf_na, nf_no, nf_b0, nf_z0, t45_4, t45_5, true_and, and_true, List.set_cons_zero, List.set_cons_succ, List.length_cons, List.length_nil, rd_s, upw_s, ne_eq, not_false_eq_true, Nat.zero_add, Nat.add_zero]
      | split
      | with_reducible intro _
      | omega
  | succ d ih =>
    intro j  k m hjd hk hm
    have h9 : j < 1000 := (by omega)
    have hlt : Int32.ofNat j < 8 := oNl (B := 8) h9 rfl (by omega)
    have hnn := oN0 h9
    have hcl := oNc h9
    rw [eX1_hasSameValid_8]
    repeat' first
      | with_reducible assumption
      | with_reducible refine And.intro ?_ ?_
      | with_reducible exact vpi6 (by assumption) (by assumption)
      | with_reducible exact vpi8 (by assumption) (by assumption)
      | with_reducible exact trivial
      | (rw [oN1]; exact ih (j + 1)  _ _ (by omega) (by first | assumption | omega) (by first | assumption | omega))
      | with_reducible exact go_F hd trivial
      | with_reducible exact go_F hr trivial
      | with_reducible refine fX0_holds hd (fun z1 => ?_) (fun z1 => ?_)
      | with_reducible refine fX0_holds hr (fun z2 => ?_) (fun z2 => ?_)
      | with_reducible exact absurd (hsv e1 e2 z1) z2
      | with_reducible exact absurd (hsv e1.symm e2.symm z2) z1
      | ((with_reducible refine isQ (Q := Q) ?_); exact hQ)
      | simp only [eX1_hasSameValid_0, eX1_hasSameValid_0N, eX1_hasSameValid_1R, eX1_hasSameValid_1N, eX1_hasSameValid_4, eX1_hasSameValid_5, eX1_hasSameValid_6, eX1_hasSameValid_7, eX1_hasSameValid_9, eX1_hasSameValid_11, eX1_hasSameValid_14, eX1_hasSameValid_14N, eX1_hasSameValid_15, eX1_hasSameValid_15N, eX1_hasSameValid_16, eX1_hasSameValid_19, eX1_hasSameValid_20, eX1_hasSameValid_21, eX1_hasSameValid_24, eX1_hasSameValid_24N, eX1_hasSameValid_25, eX1_hasSameValid_25N, eX1_hasSameValid_26, eX1_hasSameValid_29, eX1_hasSameValid_30, eX1_hasSameValid_31, eX1_hasSameValid_34, eX1_hasSameValid_37, eX1_hasSameValid_38, eX1_hasSameValid_39, eX1_hasSameValid_42, eX1_hasSameValid_45, eX1_hasSameValid_46, lgp, lgn, lgz, i10, i00, if_true, if_false, eq_self, not_true, not_false_eq_true, hlt, hcl, rx, rn, rc, rl, hx, hn, hc, hl, d1, d2, d3, d4, d5, d6, d7, d8, d9, d10, d11, d12, rd_n, upw_n, ite_le, n45, n54, true_or, or_true, false_or, or_false, false_and, and_false, kx_l, kx_r, go_s, gl_s, gi_s, gb_s2, gb_s3, gq_s, wt_nil, wt_int, wt_long, wt_ref, wt_null, nl_int, nl_long, nl_ref, nl_null, nl_none, rf_n, rf_s, rf_st, tl_s, tl_n, g0, gS, ex1, nb_b, nb_0, nb_1, nf_i, nf_l, nf_ra, nf_ro, nf_na, nf_no, nf_b0, nf_z0, t45_4, t45_5, true_and, and_true, List.set_cons_zero, List.set_cons_succ, List.length_cons, List.length_nil, rd_s, upw_s, ne_eq, not_false_eq_true, Nat.zero_add, Nat.add_zero]
      | split
      | with_reducible intro _
      | omega
set_option maxHeartbeats 4000000 in
theorem fX1_hasSameValid {s : AS} {p q : Nat} {d r : R4} (hC : CS g w0 x nA cA lA kn s w) (hd : rAt w p d) (hr : rAt w q r) (e1 : d.1 = r.1) (e2 : d.2.2.2 = r.2.2.2) (hQ : Q (.inl (some (.int 1))) w) : WP (MX1_hasSameValid g) Q (0, [some (.ref x), some (.ref p), some (.ref q), none], [], w, 0, 0) := by
  repeat' first
    | with_reducible assumption
    | with_reducible refine And.intro ?_ ?_
    | with_reducible exact vpi6 (by assumption) (by assumption)
    | with_reducible exact vpi8 (by assumption) (by assumption)
    | with_reducible exact trivial
    | ((with_reducible refine isWP (pc := 8) ?_); exact flX1_hasSameValid_8 hC hd hr e1 e2 hQ 8 0  _ _ rfl (by decide) (by decide))
    | simp only [eX1_hasSameValid_0, eX1_hasSameValid_0N, eX1_hasSameValid_1R, eX1_hasSameValid_1N, eX1_hasSameValid_4, eX1_hasSameValid_5, eX1_hasSameValid_6, eX1_hasSameValid_7, eX1_hasSameValid_9, eX1_hasSameValid_11, eX1_hasSameValid_14, eX1_hasSameValid_14N, eX1_hasSameValid_15, eX1_hasSameValid_15N, eX1_hasSameValid_16, eX1_hasSameValid_19, eX1_hasSameValid_20, eX1_hasSameValid_21, eX1_hasSameValid_24, eX1_hasSameValid_24N, eX1_hasSameValid_25, eX1_hasSameValid_25N, eX1_hasSameValid_26, eX1_hasSameValid_29, eX1_hasSameValid_30, eX1_hasSameValid_31, eX1_hasSameValid_34, eX1_hasSameValid_37, eX1_hasSameValid_38, eX1_hasSameValid_39, eX1_hasSameValid_42, eX1_hasSameValid_45, eX1_hasSameValid_46, lgp, lgn, lgz, i10, i00, if_true, if_false, eq_self, not_true, not_false_eq_true, ite_le, n45, n54, true_or, or_true, false_or, or_false, false_and, and_false, kx_l, kx_r, go_s, gl_s, gi_s, gb_s2, gb_s3, gq_s, wt_nil, wt_int, wt_long, wt_ref, wt_null, nl_int, nl_long, nl_ref, nl_null, nl_none, rf_n, rf_s, rf_st, tl_s, tl_n, g0, gS, ex1, nb_b, nb_0, nb_1, nf_i, nf_l, nf_ra, nf_ro, nf_na, nf_no, nf_b0, nf_z0, t45_4, t45_5, true_and, and_true, List.set_cons_zero, List.set_cons_succ, List.length_cons, List.length_nil, rd_s, upw_s, ne_eq, not_false_eq_true, Nat.zero_add, Nat.add_zero]
    | split
    | with_reducible intro _
    | omega
set_option maxHeartbeats 4000000 in
theorem fX1_isDrawnSound {s : AS} {p : Nat} {r : R4} (hC : CS g w0 x nA cA lA kn s w) (ho : rOk r) (hp : rAt w p r) (hQ : ∀ w', ext g w w' → Q (.inl (some (.int 1))) w') : WP (MX1_isDrawnSound g) Q (0, [some (.ref x), some (.ref p), none, none], [], w, 0, 0) := by
  repeat' first
    | with_reducible assumption
    | with_reducible refine And.intro ?_ ?_
    | with_reducible exact vpi6 (by assumption) (by assumption)
    | with_reducible exact vpi8 (by assumption) (by assumption)
    | with_reducible exact trivial
    | with_reducible refine fX0_ofFour (a0 := r.1) (a1 := r.1) (a2 := r.2.2.1) (a3 := r.2.2.2) (fun hno => ?_) (fun hyes q1 hq1 => ?_)
    | with_reducible refine fX0_ofFour (a0 := r.1) (a1 := r.2.1) (a2 := r.2.2.2) (a3 := r.2.2.2) (fun hno => ?_) (fun hyes q2 hq2 => ?_)
    | with_reducible exact absurd (dLow ho) hno
    | with_reducible exact absurd (dHigh ho) hno
    | with_reducible exact go_5 (hC.ext ((ext_up2 ext.rf hq1).tr (ext_up2 ext.rf hq2)))
    | with_reducible refine fX1_hasSameValid (hC.ext ((ext_up2 ext.rf hq1).tr (ext_up2 ext.rf hq2))) (rAt_new.ext (ext_up2 ext.rf hq2)) (hp.ext ((ext_up2 ext.rf hq1).tr (ext_up2 ext.rf hq2))) rfl rfl ?_
    | with_reducible refine fX1_hasSameValid (hC.ext ((ext_up2 ext.rf hq1).tr (ext_up2 ext.rf hq2))) rAt_new (hp.ext ((ext_up2 ext.rf hq1).tr (ext_up2 ext.rf hq2))) rfl rfl ?_
    | with_reducible refine go_F hp ?_
    | with_reducible refine go_F (hp.ext (ext_up2 ext.rf hq1)) ?_
    | with_reducible exact hQ _ ((ext_up2 ext.rf hq1).tr (ext_up2 ext.rf hq2))
    | simp only [eX1_isDrawnSound_0, eX1_isDrawnSound_0N, eX1_isDrawnSound_1, eX1_isDrawnSound_4, eX1_isDrawnSound_4N, eX1_isDrawnSound_5, eX1_isDrawnSound_8, eX1_isDrawnSound_8N, eX1_isDrawnSound_9, eX1_isDrawnSound_12, eX1_isDrawnSound_12N, eX1_isDrawnSound_13, eX1_isDrawnSound_16, eX1_isDrawnSound_19, eX1_isDrawnSound_19N, eX1_isDrawnSound_20, eX1_isDrawnSound_20N, eX1_isDrawnSound_21, eX1_isDrawnSound_24, eX1_isDrawnSound_24N, eX1_isDrawnSound_25, eX1_isDrawnSound_28, eX1_isDrawnSound_28N, eX1_isDrawnSound_29, eX1_isDrawnSound_32, eX1_isDrawnSound_32N, eX1_isDrawnSound_33, eX1_isDrawnSound_36, eX1_isDrawnSound_39, eX1_isDrawnSound_39N, eX1_isDrawnSound_40, eX1_isDrawnSound_40N, eX1_isDrawnSound_41, eX1_isDrawnSound_41N, eX1_isDrawnSound_42, eX1_isDrawnSound_42N, eX1_isDrawnSound_43RR, eX1_isDrawnSound_43NR, eX1_isDrawnSound_43RN, eX1_isDrawnSound_43NN, eX1_isDrawnSound_46, eX1_isDrawnSound_49, eX1_isDrawnSound_49N, eX1_isDrawnSound_50, eX1_isDrawnSound_50N, eX1_isDrawnSound_51, eX1_isDrawnSound_51N, eX1_isDrawnSound_52RR, eX1_isDrawnSound_52NR, eX1_isDrawnSound_52RN, eX1_isDrawnSound_52NN, eX1_isDrawnSound_55, eX1_isDrawnSound_58, eX1_isDrawnSound_59, eX1_isDrawnSound_62, eX1_isDrawnSound_63, lgp, lgn, lgz, i10, i00, if_true, if_false, eq_self, not_true, not_false_eq_true, ite_le, n45, n54, true_or, or_true, false_or, or_false, false_and, and_false, kx_l, kx_r, go_s, gl_s, gi_s, gb_s2, gb_s3, gq_s, wt_nil, wt_int, wt_long, wt_ref, wt_null, nl_int, nl_long, nl_ref, nl_null, nl_none, rf_n, rf_s, rf_st, tl_s, tl_n, g0, gS, ex1, nb_b, nb_0, nb_1, nf_i, nf_l, nf_ra, nf_ro, nf_na, nf_no, nf_b0, nf_z0, t45_4, t45_5, true_and, and_true, List.set_cons_zero, List.set_cons_succ, List.length_cons, List.length_nil, rd_s, upw_s, ne_eq, not_false_eq_true, Nat.zero_add, Nat.add_zero]
    | split
    | with_reducible intro _
    | omega
set_option maxHeartbeats 4000000 in
theorem fX1_isSoundAlone {s : AS} {p : Nat} {r : R4} (hC : CS g w0 x nA cA lA kn s w) (ho : rOk r) (hp : rAt w p r) (hQ : ∀ w', ext g w w' → Q (.inl (some (.int 1))) w') : WP (MX1_isSoundAlone g) Q (0, [some (.ref x), some (.ref p)], [], w, 0, 0) := by
  repeat' first
    | with_reducible assumption
    | with_reducible refine And.intro ?_ ?_
    | with_reducible exact vpi6 (by assumption) (by assumption)
    | with_reducible exact vpi8 (by assumption) (by assumption)
    | with_reducible exact trivial
    | with_reducible refine fX1_isLikeItsCopy hp ho (fun w1 x1 => ?_)
    | with_reducible refine fX0_isSettled (hp.ext x1) (fun z1 => ?_) (fun z1 => ?_)
    | with_reducible refine fX1_outerOf (hp.ext x1) (fun hno => ?_) (fun hyes q hq => ?_)
    | with_reducible exact absurd (oOut ho) hno
    | with_reducible refine fX0_matchesR (hp.ext (x1.tr (ext_up2 ext.rf hq))) rAt_new (fun z2 => ?_) (fun z2 => ?_)
    | with_reducible exact absurd (mOut z2) z1
    | with_reducible exact absurd z1 (mOutN z2)
    | with_reducible refine fX1_isOuterSound (hp.ext (x1.tr (ext_up2 ext.rf hq))) ?_
    | with_reducible refine fX1_isEachEndHeld (hp.ext (x1.tr (ext_up2 ext.rf hq))) ho ?_
    | with_reducible refine fX1_isDrawnSound (hC.ext (x1.tr (ext_up2 ext.rf hq))) ho (hp.ext (x1.tr (ext_up2 ext.rf hq))) (fun w3 x3 => ?_)
    | with_reducible exact go_F (hp.ext x1) trivial
    | with_reducible exact go_F (hp.ext (x1.tr (ext_up2 ext.rf hq))) trivial
    | with_reducible exact go_5 (hC.ext (x1.tr (ext_up2 ext.rf hq)))
    | with_reducible exact hQ _ ((x1.tr (ext_up2 ext.rf hq)).tr x3)
    | simp only [eX1_isSoundAlone_0, eX1_isSoundAlone_0N, eX1_isSoundAlone_1R, eX1_isSoundAlone_1N, eX1_isSoundAlone_4, eX1_isSoundAlone_7, eX1_isSoundAlone_7N, eX1_isSoundAlone_8, eX1_isSoundAlone_11, eX1_isSoundAlone_11N, eX1_isSoundAlone_12, eX1_isSoundAlone_12N, eX1_isSoundAlone_13R, eX1_isSoundAlone_13N, eX1_isSoundAlone_16R, eX1_isSoundAlone_16N, eX1_isSoundAlone_19, eX1_isSoundAlone_22, eX1_isSoundAlone_22N, eX1_isSoundAlone_23R, eX1_isSoundAlone_23N, eX1_isSoundAlone_26, eX1_isSoundAlone_29, eX1_isSoundAlone_29N, eX1_isSoundAlone_30R, eX1_isSoundAlone_30N, eX1_isSoundAlone_33, eX1_isSoundAlone_36, eX1_isSoundAlone_36N, eX1_isSoundAlone_37, eX1_isSoundAlone_37N, eX1_isSoundAlone_38R, eX1_isSoundAlone_38N, eX1_isSoundAlone_41, eX1_isSoundAlone_44, eX1_isSoundAlone_45, eX1_isSoundAlone_48, eX1_isSoundAlone_49, lgp, lgn, lgz, i10, i00, if_true, if_false, eq_self, not_true, not_false_eq_true, ite_le, n45, n54, true_or, or_true, false_or, or_false, false_and, and_false, kx_l, kx_r, go_s, gl_s, gi_s, gb_s2, gb_s3, gq_s, wt_nil, wt_int, wt_long, wt_ref, wt_null, nl_int, nl_long, nl_ref, nl_null, nl_none, rf_n, rf_s, rf_st, tl_s, tl_n, g0, gS, ex1, nb_b, nb_0, nb_1, nf_i, nf_l, nf_ra, nf_ro, nf_na, nf_no, nf_b0, nf_z0, t45_4, t45_5, true_and, and_true, List.set_cons_zero, List.set_cons_succ, List.length_cons, List.length_nil, rd_s, upw_s, ne_eq, not_false_eq_true, Nat.zero_add, Nat.add_zero]
    | split
    | with_reducible intro _
    | omega
set_option maxHeartbeats 4000000 in
theorem flX1_isSameToAndFro_2 {s : AS} {p : Nat} {r : R4} (hC : CS g w0 x nA cA lA kn s w) (hp : rAt w p r) (hQ : Q (.inl (some (.int 1))) w) : ∀ (d j : Nat) (i3 : Option Value) (k m : Nat), j + d = 6 → k ≤ 0 → m ≤ 0 → WP (MX1_isSameToAndFro g) Q (2, [some (.ref x), some (.ref p), some (.int (Int32.ofNat j)), i3], [], w, k, m) := by
  obtain ⟨gc, gl, ⟨hx, hn, hc, hl, hgc, hgl, hn0, hn1, rx, rn, rc, rl, ⟨d1, d2, d3, d4, d5, d6⟩, ⟨d7, d8, d9, d10, d11, d12⟩⟩, hcd, hpl⟩ := hC.1.opn g
  intro d
  induction d with
  | zero =>
    intro j i3 k m hjd hk hm
    have h9 : j < 1000 := (by omega)
    have hlt : ¬ Int32.ofNat j < 6 := oNg (B := 6) h9 rfl (by omega)
    have hnn := oN0 h9
    have hcl := oNc h9
    obtain rfl : j = 6 := by omega
    rw [eX1_isSameToAndFro_2]
    repeat' first
      | with_reducible assumption
      | with_reducible refine And.intro ?_ ?_
      | with_reducible exact vpi6 (by assumption) (by assumption)
      | with_reducible exact vpi8 (by assumption) (by assumption)
      | with_reducible exact trivial
      | with_reducible exact go_F hp trivial
      | with_reducible exact go_F (cdG hcd (j := j) (by omega) (by assumption)) trivial
      | with_reducible refine fX0_matchesR hp (cdG hcd (j := j) (by omega) (by assumption)) (fun z1 => ?_) (fun z1 => ?_)
      | with_reducible refine fX0_matchesR (cdG hcd (j := j) (by omega) (by assumption)) hp (fun z2 => ?_) (fun z2 => ?_)
      | with_reducible exact absurd (mSy z1) z2
      | with_reducible exact absurd (mSy z2) z1
      | ((with_reducible refine isQ (Q := Q) ?_); exact hQ)
      | simp only [eX1_isSameToAndFro_0, eX1_isSameToAndFro_1, eX1_isSameToAndFro_3, eX1_isSameToAndFro_5, eX1_isSameToAndFro_8, eX1_isSameToAndFro_8N, eX1_isSameToAndFro_9, eX1_isSameToAndFro_12, eX1_isSameToAndFro_13, eX1_isSameToAndFro_14, eX1_isSameToAndFro_14N, eX1_isSameToAndFro_15, eX1_isSameToAndFro_15N, eX1_isSameToAndFro_16R, eX1_isSameToAndFro_16N, eX1_isSameToAndFro_19, eX1_isSameToAndFro_19N, eX1_isSameToAndFro_20, eX1_isSameToAndFro_20N, eX1_isSameToAndFro_21R, eX1_isSameToAndFro_21N, eX1_isSameToAndFro_24, eX1_isSameToAndFro_24N, eX1_isSameToAndFro_25, eX1_isSameToAndFro_25N, eX1_isSameToAndFro_26R, eX1_isSameToAndFro_26N, eX1_isSameToAndFro_29, eX1_isSameToAndFro_32, eX1_isSameToAndFro_33, eX1_isSameToAndFro_34, eX1_isSameToAndFro_37, eX1_isSameToAndFro_40, eX1_isSameToAndFro_41, lgp, lgn, lgz, i10, i00, if_true, if_false, eq_self, not_true, not_false_eq_true, hlt, hcl, rx, rn, rc, rl, hx, hn, hc, hl, d1, d2, d3, d4, d5, d6, d7, d8, d9, d10, d11, d12, rd_n, upw_n, ite_le, n45, n54, true_or, or_true, false_or, or_false, false_and, and_false, kx_l, kx_r, go_s, gl_s, gi_s, gb_s2, gb_s3, gq_s, wt_nil, wt_int, wt_long, wt_ref, wt_null, nl_int, nl_long, nl_ref, nl_null, nl_none, rf_n, rf_s, rf_st, tl_s, tl_n, g0, gS, ex1, nb_b, nb_0, nb_1, nf_i, nf_l, nf_ra, nf_ro, nf_na, nf_no, nf_b0, nf_z0, t45_4, t45_5, true_and, and_true, List.set_cons_zero, List.set_cons_succ, List.length_cons, List.length_nil, rd_s, upw_s, ne_eq, not_false_eq_true, Nat.zero_add, Nat.add_zero]
      | split
      | with_reducible intro _
      | omega
  | succ d ih =>
    intro j i3 k m hjd hk hm
    have h9 : j < 1000 := (by omega)
    have hlt : Int32.ofNat j < 6 := oNl (B := 6) h9 rfl (by omega)
    have hnn := oN0 h9
    have hcl := oNc h9
    rw [eX1_isSameToAndFro_2]
    repeat' first
      | with_reducible assumption
      | with_reducible refine And.intro ?_ ?_
      | with_reducible exact vpi6 (by assumption) (by assumption)
      | with_reducible exact vpi8 (by assumption) (by assumption)
      | with_reducible exact trivial
      | (rw [oN1]; exact ih (j + 1) _ _ _ (by omega) (by first | assumption | omega) (by first | assumption | omega))
      | with_reducible exact go_F hp trivial
      | with_reducible exact go_F (cdG hcd (j := j) (by omega) (by assumption)) trivial
      | with_reducible refine fX0_matchesR hp (cdG hcd (j := j) (by omega) (by assumption)) (fun z1 => ?_) (fun z1 => ?_)
      | with_reducible refine fX0_matchesR (cdG hcd (j := j) (by omega) (by assumption)) hp (fun z2 => ?_) (fun z2 => ?_)
      | with_reducible exact absurd (mSy z1) z2
      | with_reducible exact absurd (mSy z2) z1
      | ((with_reducible refine isQ (Q := Q) ?_); exact hQ)
      | simp only [eX1_isSameToAndFro_0, eX1_isSameToAndFro_1, eX1_isSameToAndFro_3, eX1_isSameToAndFro_5, eX1_isSameToAndFro_8, eX1_isSameToAndFro_8N, eX1_isSameToAndFro_9, eX1_isSameToAndFro_12, eX1_isSameToAndFro_13, eX1_isSameToAndFro_14, eX1_isSameToAndFro_14N, eX1_isSameToAndFro_15, eX1_isSameToAndFro_15N, eX1_isSameToAndFro_16R, eX1_isSameToAndFro_16N, eX1_isSameToAndFro_19, eX1_isSameToAndFro_19N, eX1_isSameToAndFro_20, eX1_isSameToAndFro_20N, eX1_isSameToAndFro_21R, eX1_isSameToAndFro_21N, eX1_isSameToAndFro_24, eX1_isSameToAndFro_24N, eX1_isSameToAndFro_25, eX1_isSameToAndFro_25N, eX1_isSameToAndFro_26R, eX1_isSameToAndFro_26N, eX1_isSameToAndFro_29, eX1_isSameToAndFro_32, eX1_isSameToAndFro_33, eX1_isSameToAndFro_34, eX1_isSameToAndFro_37, eX1_isSameToAndFro_40, eX1_isSameToAndFro_41, lgp, lgn, lgz, i10, i00, if_true, if_false, eq_self, not_true, not_false_eq_true, hlt, hcl, rx, rn, rc, rl, hx, hn, hc, hl, d1, d2, d3, d4, d5, d6, d7, d8, d9, d10, d11, d12, rd_n, upw_n, ite_le, n45, n54, true_or, or_true, false_or, or_false, false_and, and_false, kx_l, kx_r, go_s, gl_s, gi_s, gb_s2, gb_s3, gq_s, wt_nil, wt_int, wt_long, wt_ref, wt_null, nl_int, nl_long, nl_ref, nl_null, nl_none, rf_n, rf_s, rf_st, tl_s, tl_n, g0, gS, ex1, nb_b, nb_0, nb_1, nf_i, nf_l, nf_ra, nf_ro, nf_na, nf_no, nf_b0, nf_z0, t45_4, t45_5, true_and, and_true, List.set_cons_zero, List.set_cons_succ, List.length_cons, List.length_nil, rd_s, upw_s, ne_eq, not_false_eq_true, Nat.zero_add, Nat.add_zero]
      | split
      | with_reducible intro _
      | omega
set_option maxHeartbeats 4000000 in
theorem fX1_isSameToAndFro {s : AS} {p : Nat} {r : R4} (hC : CS g w0 x nA cA lA kn s w) (hp : rAt w p r) (hQ : Q (.inl (some (.int 1))) w) : WP (MX1_isSameToAndFro g) Q (0, [some (.ref x), some (.ref p), none, none], [], w, 0, 0) := by
  repeat' first
    | with_reducible assumption
    | with_reducible refine And.intro ?_ ?_
    | with_reducible exact vpi6 (by assumption) (by assumption)
    | with_reducible exact vpi8 (by assumption) (by assumption)
    | with_reducible exact trivial
    | ((with_reducible refine isWP (pc := 2) ?_); exact flX1_isSameToAndFro_2 hC hp hQ 6 0 _ _ _ rfl (by decide) (by decide))
    | simp only [eX1_isSameToAndFro_0, eX1_isSameToAndFro_1, eX1_isSameToAndFro_3, eX1_isSameToAndFro_5, eX1_isSameToAndFro_8, eX1_isSameToAndFro_8N, eX1_isSameToAndFro_9, eX1_isSameToAndFro_12, eX1_isSameToAndFro_13, eX1_isSameToAndFro_14, eX1_isSameToAndFro_14N, eX1_isSameToAndFro_15, eX1_isSameToAndFro_15N, eX1_isSameToAndFro_16R, eX1_isSameToAndFro_16N, eX1_isSameToAndFro_19, eX1_isSameToAndFro_19N, eX1_isSameToAndFro_20, eX1_isSameToAndFro_20N, eX1_isSameToAndFro_21R, eX1_isSameToAndFro_21N, eX1_isSameToAndFro_24, eX1_isSameToAndFro_24N, eX1_isSameToAndFro_25, eX1_isSameToAndFro_25N, eX1_isSameToAndFro_26R, eX1_isSameToAndFro_26N, eX1_isSameToAndFro_29, eX1_isSameToAndFro_32, eX1_isSameToAndFro_33, eX1_isSameToAndFro_34, eX1_isSameToAndFro_37, eX1_isSameToAndFro_40, eX1_isSameToAndFro_41, lgp, lgn, lgz, i10, i00, if_true, if_false, eq_self, not_true, not_false_eq_true, ite_le, n45, n54, true_or, or_true, false_or, or_false, false_and, and_false, kx_l, kx_r, go_s, gl_s, gi_s, gb_s2, gb_s3, gq_s, wt_nil, wt_int, wt_long, wt_ref, wt_null, nl_int, nl_long, nl_ref, nl_null, nl_none, rf_n, rf_s, rf_st, tl_s, tl_n, g0, gS, ex1, nb_b, nb_0, nb_1, nf_i, nf_l, nf_ra, nf_ro, nf_na, nf_no, nf_b0, nf_z0, t45_4, t45_5, true_and, and_true, List.set_cons_zero, List.set_cons_succ, List.length_cons, List.length_nil, rd_s, upw_s, ne_eq, not_false_eq_true, Nat.zero_add, Nat.add_zero]
    | split
    | with_reducible intro _
    | omega
set_option maxHeartbeats 4000000 in
theorem flX1_isEachFoundInPile_2 {s : AS} (hC : CS g w0 x nA cA lA kn s w) (hQ : Q (.inl (some (.int 1))) w) : ∀ (d j : Nat) (i2 : Option Value) (k m : Nat), j + d = s.2.2.1.toInt.toNat → k ≤ 0 → m ≤ 0 → WP (MX1_isEachFoundInPile g) Q (2, [some (.ref x), some (.int (Int32.ofNat j)), i2], [], w, k, m) := by
  obtain ⟨gc, gl, ⟨hx, hn, hc, hl, hgc, hgl, hn0, hn1, rx, rn, rc, rl, ⟨d1, d2, d3, d4, d5, d6⟩, ⟨d7, d8, d9, d10, d11, d12⟩⟩, hcd, hpl⟩ := hC.1.opn g
  intro d
  induction d with
  | zero =>
    intro j i2 k m hjd hk hm
    have h9 : j < 1000 := (by have := (cnt12 hn0 hn1).2; omega)
    have hlt : ¬ Int32.ofNat j < s.2.2.1 := oNg (B := s.2.2.1.toInt.toNat) h9 (cnt12 hn0 hn1).1 (by omega)
    have hnn := oN0 h9
    have hcl := oNc h9
    obtain rfl : j = s.2.2.1.toInt.toNat := by omega
    rw [eX1_isEachFoundInPile_2]
    repeat' first
      | with_reducible assumption
      | with_reducible refine And.intro ?_ ?_
      | with_reducible exact vpi6 (by assumption) (by assumption)
      | with_reducible exact vpi8 (by assumption) (by assumption)
      | with_reducible exact trivial
      | with_reducible exact vpj (j := j) (by have := (cnt12 hn0 hn1).2; omega)
      | with_reducible exact go_5 hC
      | with_reducible exact absurd (by assumption) (pln (j := j) hpl (by omega))
      | with_reducible refine fX1_firstPlaceOf hC (plj (j := j) hpl (by omega) (by assumption)) (fun z1 => ?_) (fun i z1 z2 z3 => ?_)
      | with_reducible exact absurd mP_rf (z1 j (by omega))
      | with_reducible exact absurd (by assumption) (oN9 (i := i) (by have := (cnt12 hn0 hn1).2; omega))
      | ((with_reducible refine isQ (Q := Q) ?_); exact hQ)
      | simp only [eX1_isEachFoundInPile_0, eX1_isEachFoundInPile_1, eX1_isEachFoundInPile_3, eX1_isEachFoundInPile_3N, eX1_isEachFoundInPile_4, eX1_isEachFoundInPile_7, eX1_isEachFoundInPile_10, eX1_isEachFoundInPile_10N, eX1_isEachFoundInPile_11, eX1_isEachFoundInPile_14, eX1_isEachFoundInPile_15, eX1_isEachFoundInPile_16, eX1_isEachFoundInPile_16N, eX1_isEachFoundInPile_17, eX1_isEachFoundInPile_17N, eX1_isEachFoundInPile_18R, eX1_isEachFoundInPile_18N, eX1_isEachFoundInPile_21, eX1_isEachFoundInPile_21N, eX1_isEachFoundInPile_22, eX1_isEachFoundInPile_22N, eX1_isEachFoundInPile_23R, eX1_isEachFoundInPile_23N, eX1_isEachFoundInPile_26, eX1_isEachFoundInPile_27, eX1_isEachFoundInPile_30, eX1_isEachFoundInPile_31, eX1_isEachFoundInPile_32, eX1_isEachFoundInPile_35, eX1_isEachFoundInPile_38, eX1_isEachFoundInPile_39, lgp, lgn, lgz, i10, i00, if_true, if_false, eq_self, not_true, not_false_eq_true, hlt, hcl, rx, rn, rc, rl, hx, hn, hc, hl, d1, d2, d3, d4, d5, d6, d7, d8, d9, d10, d11, d12, rd_n, upw_n, ite_le, n45, n54, true_or, or_true, false_or, or_false, false_and, and_false, kx_l, kx_r, go_s, gl_s, gi_s, gb_s2, gb_s3, gq_s, wt_nil, wt_int, wt_long, wt_ref, wt_null, nl_int, nl_long, nl_ref, nl_null, nl_none, rf_n, rf_s, rf_st, tl_s, tl_n, g0, gS, ex1, nb_b, nb_0, nb_1, nf_i, nf_l, nf_ra, nf_ro, nf_na, nf_no, nf_b0, nf_z0, t45_4, t45_5, true_and, and_true, List.set_cons_zero, List.set_cons_succ, List.length_cons, List.length_nil, rd_s, upw_s, ne_eq, not_false_eq_true, Nat.zero_add, Nat.add_zero]
      | split
      | with_reducible intro _
      | omega
  | succ d ih =>
    intro j i2 k m hjd hk hm
    have h9 : j < 1000 := (by have := (cnt12 hn0 hn1).2; omega)
    have hlt : Int32.ofNat j < s.2.2.1 := oNl (B := s.2.2.1.toInt.toNat) h9 (cnt12 hn0 hn1).1 (by omega)
    have hnn := oN0 h9
    have hcl := oNc h9
    rw [eX1_isEachFoundInPile_2]
    repeat' first
      | with_reducible assumption
      | with_reducible refine And.intro ?_ ?_
      | with_reducible exact vpi6 (by assumption) (by assumption)
      | with_reducible exact vpi8 (by assumption) (by assumption)
      | with_reducible exact trivial
      | (rw [oN1]; exact ih (j + 1) _ _ _ (by omega) (by first | assumption | omega) (by first | assumption | omega))
      | with_reducible exact vpj (j := j) (by have := (cnt12 hn0 hn1).2; omega)
      | with_reducible exact go_5 hC
      | with_reducible exact absurd (by assumption) (pln (j := j) hpl (by omega))
      | with_reducible refine fX1_firstPlaceOf hC (plj (j := j) hpl (by omega) (by assumption)) (fun z1 => ?_) (fun i z1 z2 z3 => ?_)
      | with_reducible exact absurd mP_rf (z1 j (by omega))
      | with_reducible exact absurd (by assumption) (oN9 (i := i) (by have := (cnt12 hn0 hn1).2; omega))
      | ((with_reducible refine isQ (Q := Q) ?_); exact hQ)
      | simp only [eX1_isEachFoundInPile_0, eX1_isEachFoundInPile_1, eX1_isEachFoundInPile_3, eX1_isEachFoundInPile_3N, eX1_isEachFoundInPile_4, eX1_isEachFoundInPile_7, eX1_isEachFoundInPile_10, eX1_isEachFoundInPile_10N, eX1_isEachFoundInPile_11, eX1_isEachFoundInPile_14, eX1_isEachFoundInPile_15, eX1_isEachFoundInPile_16, eX1_isEachFoundInPile_16N, eX1_isEachFoundInPile_17, eX1_isEachFoundInPile_17N, eX1_isEachFoundInPile_18R, eX1_isEachFoundInPile_18N, eX1_isEachFoundInPile_21, eX1_isEachFoundInPile_21N, eX1_isEachFoundInPile_22, eX1_isEachFoundInPile_22N, eX1_isEachFoundInPile_23R, eX1_isEachFoundInPile_23N, eX1_isEachFoundInPile_26, eX1_isEachFoundInPile_27, eX1_isEachFoundInPile_30, eX1_isEachFoundInPile_31, eX1_isEachFoundInPile_32, eX1_isEachFoundInPile_35, eX1_isEachFoundInPile_38, eX1_isEachFoundInPile_39, lgp, lgn, lgz, i10, i00, if_true, if_false, eq_self, not_true, not_false_eq_true, hlt, hcl, rx, rn, rc, rl, hx, hn, hc, hl, d1, d2, d3, d4, d5, d6, d7, d8, d9, d10, d11, d12, rd_n, upw_n, ite_le, n45, n54, true_or, or_true, false_or, or_false, false_and, and_false, kx_l, kx_r, go_s, gl_s, gi_s, gb_s2, gb_s3, gq_s, wt_nil, wt_int, wt_long, wt_ref, wt_null, nl_int, nl_long, nl_ref, nl_null, nl_none, rf_n, rf_s, rf_st, tl_s, tl_n, g0, gS, ex1, nb_b, nb_0, nb_1, nf_i, nf_l, nf_ra, nf_ro, nf_na, nf_no, nf_b0, nf_z0, t45_4, t45_5, true_and, and_true, List.set_cons_zero, List.set_cons_succ, List.length_cons, List.length_nil, rd_s, upw_s, ne_eq, not_false_eq_true, Nat.zero_add, Nat.add_zero]
      | split
      | with_reducible intro _
      | omega
set_option maxHeartbeats 4000000 in
theorem fX1_isEachFoundInPile {s : AS} (hC : CS g w0 x nA cA lA kn s w) (hQ : Q (.inl (some (.int 1))) w) : WP (MX1_isEachFoundInPile g) Q (0, [some (.ref x), none, none], [], w, 0, 0) := by
  repeat' first
    | with_reducible assumption
    | with_reducible refine And.intro ?_ ?_
    | with_reducible exact vpi6 (by assumption) (by assumption)
    | with_reducible exact vpi8 (by assumption) (by assumption)
    | with_reducible exact trivial
    | ((with_reducible refine isWP (pc := 2) ?_); exact flX1_isEachFoundInPile_2 hC hQ _ 0 _ _ _ (Nat.zero_add _) (by decide) (by decide))
    | simp only [eX1_isEachFoundInPile_0, eX1_isEachFoundInPile_1, eX1_isEachFoundInPile_3, eX1_isEachFoundInPile_3N, eX1_isEachFoundInPile_4, eX1_isEachFoundInPile_7, eX1_isEachFoundInPile_10, eX1_isEachFoundInPile_10N, eX1_isEachFoundInPile_11, eX1_isEachFoundInPile_14, eX1_isEachFoundInPile_15, eX1_isEachFoundInPile_16, eX1_isEachFoundInPile_16N, eX1_isEachFoundInPile_17, eX1_isEachFoundInPile_17N, eX1_isEachFoundInPile_18R, eX1_isEachFoundInPile_18N, eX1_isEachFoundInPile_21, eX1_isEachFoundInPile_21N, eX1_isEachFoundInPile_22, eX1_isEachFoundInPile_22N, eX1_isEachFoundInPile_23R, eX1_isEachFoundInPile_23N, eX1_isEachFoundInPile_26, eX1_isEachFoundInPile_27, eX1_isEachFoundInPile_30, eX1_isEachFoundInPile_31, eX1_isEachFoundInPile_32, eX1_isEachFoundInPile_35, eX1_isEachFoundInPile_38, eX1_isEachFoundInPile_39, lgp, lgn, lgz, i10, i00, if_true, if_false, eq_self, not_true, not_false_eq_true, ite_le, n45, n54, true_or, or_true, false_or, or_false, false_and, and_false, kx_l, kx_r, go_s, gl_s, gi_s, gb_s2, gb_s3, gq_s, wt_nil, wt_int, wt_long, wt_ref, wt_null, nl_int, nl_long, nl_ref, nl_null, nl_none, rf_n, rf_s, rf_st, tl_s, tl_n, g0, gS, ex1, nb_b, nb_0, nb_1, nf_i, nf_l, nf_ra, nf_ro, nf_na, nf_no, nf_b0, nf_z0, t45_4, t45_5, true_and, and_true, List.set_cons_zero, List.set_cons_succ, List.length_cons, List.length_nil, rd_s, upw_s, ne_eq, not_false_eq_true, Nat.zero_add, Nat.add_zero]
    | split
    | with_reducible intro _
    | omega
set_option maxHeartbeats 4000000 in
theorem flX1_isSound_2 {s : AS} (hC : CS g w0 x nA cA lA kn s w) (ho : sOk s) (hQ : ∀ w', ext g w w' → Q (.inl (some (.int 1))) w') : ∀ (d j : Nat) (i2 : Option Value) (w1 : Hw) (k m : Nat), j + d = 6 → ext g w w1 → k + 4 * d ≤ 24 → m + 16 * d ≤ 96 → WP (MX1_isSound g) Q (2, [some (.ref x), some (.int (Int32.ofNat j)), i2], [], w1, k, m) := by
  intro d
  induction d with
  | zero =>
    intro j i2 w1 k m hjd h1 hk hm
    have hC1 := hC.ext h1
    obtain ⟨gc, gl, ⟨hx, hn, hc, hl, hgc, hgl, hn0, hn1, rx, rn, rc, rl, ⟨d1, d2, d3, d4, d5, d6⟩, ⟨d7, d8, d9, d10, d11, d12⟩⟩, hcd, hpl⟩ := hC1.1.opn g
    have h9 : j < 1000 := by omega
    have hlt : ¬ Int32.ofNat j < 6 := oNg (B := 6) h9 rfl (by omega)
    rw [eX1_isSound_2]
    repeat' first
      | with_reducible assumption
      | with_reducible refine And.intro ?_ ?_
      | with_reducible exact vpi6 (by assumption) (by assumption)
      | with_reducible exact vpi8 (by assumption) (by assumption)
      | with_reducible exact trivial
      | with_reducible exact go_5 hC1
      | with_reducible exact go_5 (hC1.ext x2)
      | with_reducible refine fX1_isSoundAlone hC1 (cdO ho hcd (j := j) (by omega) (by assumption)) (cdG hcd (j := j) (by omega) (by assumption)) (fun w2 x2 => ?_)
      | with_reducible refine fX1_isSameToAndFro (hC1.ext x2) ((cdG hcd (j := j) (by omega) (by assumption)).ext x2) ?_
      | with_reducible refine fX1_isEachFoundInPile hC1 ?_
      | with_reducible exact hQ _ h1
      | simp only [eX1_isSound_0, eX1_isSound_1, eX1_isSound_3, eX1_isSound_5, eX1_isSound_8, eX1_isSound_8N, eX1_isSound_9, eX1_isSound_12, eX1_isSound_13, eX1_isSound_14, eX1_isSound_14N, eX1_isSound_15, eX1_isSound_15N, eX1_isSound_16R, eX1_isSound_16N, eX1_isSound_19, eX1_isSound_19N, eX1_isSound_20, eX1_isSound_20N, eX1_isSound_21R, eX1_isSound_21N, eX1_isSound_24, eX1_isSound_27, eX1_isSound_27N, eX1_isSound_28, eX1_isSound_28N, eX1_isSound_29R, eX1_isSound_29N, eX1_isSound_32, eX1_isSound_35, eX1_isSound_36, eX1_isSound_37, eX1_isSound_40, eX1_isSound_43, eX1_isSound_43N, eX1_isSound_44, eX1_isSound_47, lgp, lgn, lgz, i10, i00, if_true, if_false, eq_self, not_true, not_false_eq_true, rx, rn, rc, rl, hx, hn, hc, hl, d1, d2, d3, d4, d5, d6, d7, d8, d9, d10, d11, d12, rd_n, upw_n, hlt, ite_le, n45, n54, true_or, or_true, false_or, or_false, false_and, and_false, kx_l, kx_r, go_s, gl_s, gi_s, gb_s2, gb_s3, gq_s, wt_nil, wt_int, wt_long, wt_ref, wt_null, nl_int, nl_long, nl_ref, nl_null, nl_none, rf_n, rf_s, rf_st, tl_s, tl_n, g0, gS, ex1, nb_b, nb_0, nb_1, nf_i, nf_l, nf_ra, nf_ro, nf_na, nf_no, nf_b0, nf_z0, t45_4, t45_5, true_and, and_true, List.set_cons_zero, List.set_cons_succ, List.length_cons, List.length_nil, rd_s, upw_s, ne_eq, not_false_eq_true, Nat.zero_add, Nat.add_zero]
      | split
      | with_reducible intro _
      | omega
  | succ d ih =>
    intro j i2 w1 k m hjd h1 hk hm
    have hC1 := hC.ext h1
    obtain ⟨gc, gl, ⟨hx, hn, hc, hl, hgc, hgl, hn0, hn1, rx, rn, rc, rl, ⟨d1, d2, d3, d4, d5, d6⟩, ⟨d7, d8, d9, d10, d11, d12⟩⟩, hcd, hpl⟩ := hC1.1.opn g
    have h9 : j < 1000 := by omega
    have hlt : Int32.ofNat j < 6 := oNl (B := 6) h9 rfl (by omega)
    have hnn := oN0 h9
    have hcl := oNc h9
    rw [eX1_isSound_2]
    repeat' first
      | with_reducible assumption
      | with_reducible refine And.intro ?_ ?_
      | with_reducible exact vpi6 (by assumption) (by assumption)
      | with_reducible exact vpi8 (by assumption) (by assumption)
      | with_reducible exact trivial
      | with_reducible exact go_5 hC1
      | with_reducible exact go_5 (hC1.ext x2)
      | with_reducible refine fX1_isSoundAlone hC1 (cdO ho hcd (j := j) (by omega) (by assumption)) (cdG hcd (j := j) (by omega) (by assumption)) (fun w2 x2 => ?_)
      | with_reducible refine fX1_isSameToAndFro (hC1.ext x2) ((cdG hcd (j := j) (by omega) (by assumption)).ext x2) ?_
      | with_reducible refine fX1_isEachFoundInPile hC1 ?_
      | with_reducible exact hQ _ h1
      | (rw [oN1]; exact ih (j + 1) _ _ _ _ (by omega) (h1.tr x2) (by omega) (by omega))
      | (rw [oN1]; exact ih (j + 1) _ _ _ _ (by omega) h1 (by omega) (by omega))
      | simp only [eX1_isSound_0, eX1_isSound_1, eX1_isSound_3, eX1_isSound_5, eX1_isSound_8, eX1_isSound_8N, eX1_isSound_9, eX1_isSound_12, eX1_isSound_13, eX1_isSound_14, eX1_isSound_14N, eX1_isSound_15, eX1_isSound_15N, eX1_isSound_16R, eX1_isSound_16N, eX1_isSound_19, eX1_isSound_19N, eX1_isSound_20, eX1_isSound_20N, eX1_isSound_21R, eX1_isSound_21N, eX1_isSound_24, eX1_isSound_27, eX1_isSound_27N, eX1_isSound_28, eX1_isSound_28N, eX1_isSound_29R, eX1_isSound_29N, eX1_isSound_32, eX1_isSound_35, eX1_isSound_36, eX1_isSound_37, eX1_isSound_40, eX1_isSound_43, eX1_isSound_43N, eX1_isSound_44, eX1_isSound_47, lgp, lgn, lgz, i10, i00, if_true, if_false, eq_self, not_true, not_false_eq_true, rx, rn, rc, rl, hx, hn, hc, hl, d1, d2, d3, d4, d5, d6, d7, d8, d9, d10, d11, d12, rd_n, upw_n, hlt, hcl, ite_le, n45, n54, true_or, or_true, false_or, or_false, false_and, and_false, kx_l, kx_r, go_s, gl_s, gi_s, gb_s2, gb_s3, gq_s, wt_nil, wt_int, wt_long, wt_ref, wt_null, nl_int, nl_long, nl_ref, nl_null, nl_none, rf_n, rf_s, rf_st, tl_s, tl_n, g0, gS, ex1, nb_b, nb_0, nb_1, nf_i, nf_l, nf_ra, nf_ro, nf_na, nf_no, nf_b0, nf_z0, t45_4, t45_5, true_and, and_true, List.set_cons_zero, List.set_cons_succ, List.length_cons, List.length_nil, rd_s, upw_s, ne_eq, not_false_eq_true, Nat.zero_add, Nat.add_zero]
      | split
      | with_reducible intro _
      | omega
set_option maxHeartbeats 4000000 in
theorem fX1_isSound {s : AS} (hC : CS g w0 x nA cA lA kn s w) (ho : sOk s) (hQ : ∀ w', ext g w w' → Q (.inl (some (.int 1))) w') : WP (MX1_isSound g) Q (0, [some (.ref x), none, none], [], w, 0, 0) := by
  repeat' first
    | with_reducible assumption
    | with_reducible refine And.intro ?_ ?_
    | with_reducible exact vpi6 (by assumption) (by assumption)
    | with_reducible exact vpi8 (by assumption) (by assumption)
    | with_reducible exact trivial
    | ((with_reducible refine isWP (pc := 2) ?_); exact flX1_isSound_2 hC ho hQ 6 0 _ w 0 0 rfl ext.rf (by decide) (by decide))
    | simp only [eX1_isSound_0, eX1_isSound_1, eX1_isSound_3, eX1_isSound_5, eX1_isSound_8, eX1_isSound_8N, eX1_isSound_9, eX1_isSound_12, eX1_isSound_13, eX1_isSound_14, eX1_isSound_14N, eX1_isSound_15, eX1_isSound_15N, eX1_isSound_16R, eX1_isSound_16N, eX1_isSound_19, eX1_isSound_19N, eX1_isSound_20, eX1_isSound_20N, eX1_isSound_21R, eX1_isSound_21N, eX1_isSound_24, eX1_isSound_27, eX1_isSound_27N, eX1_isSound_28, eX1_isSound_28N, eX1_isSound_29R, eX1_isSound_29N, eX1_isSound_32, eX1_isSound_35, eX1_isSound_36, eX1_isSound_37, eX1_isSound_40, eX1_isSound_43, eX1_isSound_43N, eX1_isSound_44, eX1_isSound_47, lgp, lgn, lgz, i10, i00, if_true, if_false, eq_self, not_true, not_false_eq_true, ite_le, n45, n54, true_or, or_true, false_or, or_false, false_and, and_false, kx_l, kx_r, go_s, gl_s, gi_s, gb_s2, gb_s3, gq_s, wt_nil, wt_int, wt_long, wt_ref, wt_null, nl_int, nl_long, nl_ref, nl_null, nl_none, rf_n, rf_s, rf_st, tl_s, tl_n, g0, gS, ex1, nb_b, nb_0, nb_1, nf_i, nf_l, nf_ra, nf_ro, nf_na, nf_no, nf_b0, nf_z0, t45_4, t45_5, true_and, and_true, List.set_cons_zero, List.set_cons_succ, List.length_cons, List.length_nil, rd_s, upw_s, ne_eq, not_false_eq_true, Nat.zero_add, Nat.add_zero]
    | split
    | with_reducible intro _
    | omega
end
end
