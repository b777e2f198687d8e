section
section
variable {g : RO} {Q : Ot → Hw → Prop} {w0 w : Hw}
set_option maxHeartbeats 4000000 in
theorem lJx4a65c_add_7a177_38R {L D D' cap b k m : Nat} {mc n i : Int32} {fs0 : List Value} {h : Nat → Option Nat} {w1 : Hw} (hb : isRow w0 b) (hbw : isRow w1 b) (h0 : w0 L = some (.inr (3, fs0))) (hL : w1 L = some (.inr (3, [.int mc, .ref D', .int n]))) (hD : w1 D' = some (.inl (5, cap, qc h))) (hc : cap = 10 ∨ cap = 15) (hf1 : ∀ a, a ≠ L → a ≠ D' → w1 a = w0 a) (hfr : (D' = D ∧ ∃ c z, w0 D = some (.inl (5, c, z))) ∨ (w0 D' = none ∧ g.2 D' = none)) (hr : ∀ i b, h i = some b → isRow w0 b) (hrw : ∀ i b, h i = some b → isRow w1 b) (k0 : 0 ≤ i.toInt) (k1 : i.toInt ≤ n.toInt) (hn1 : n.toInt < (cap : Int)) (hk : k ≤ 1) (hm : m ≤ 15) {H : (Nat → Option Nat) → Prop} (hH : H (va_up (va_cpy h h i.toNatClampNeg (i + 1).toNatClampNeg (n - i).toNatClampNeg) i.toNatClampNeg (some b))) (hQ : ∀ w', LPo g w0 w' L D (n + 1) H → Q (.inl none) w') : WP (MJx4a65c_add_7a177 g) Q (38, [some (.ref L), some (.int i), some (.ref b), some (.int n), some (.ref D')], [], w1, k, m) := by
  have iv : vp_in i cap := vpiM k0 (by omega)
  have hLD : L ≠ D' := fun e => by
    rw [e, hD] at hL
    cases hL
  obtain ⟨i1, hi1⟩ : ∃ i1, i + 1 = i1 := ⟨_, rfl⟩
  obtain ⟨d, hd⟩ : ∃ d, n - i = d := ⟨_, rfl⟩
  obtain ⟨n9, hn9⟩ : ∃ n9, n + 1 = n9 := ⟨_, rfl⟩
  have e1 : n9.toInt = n.toInt + 1 := by rw [← hn9]; exact i32p1 (by omega) (by omega)
  have e2 : i1.toInt = i.toInt + 1 := by rw [← hi1]; exact i32p1 (by omega) (by omega)
  have e3 : d.toInt = n.toInt - i.toInt := by rw [← hd]; exact i32_sub (by omega) (by omega)
  have t1 : i.toNatClampNeg = i.toInt.toNat := rfl
  have t2 : i1.toNatClampNeg = i1.toInt.toNat := rfl
  have t3 : d.toNatClampNeg = d.toInt.toNat := rfl
  have g1 : i.toNatClampNeg + d.toNatClampNeg ≤ cap := by omega
  have g2 : i1.toNatClampNeg + d.toNatClampNeg ≤ cap := by omega
  have hbw2 : isRow (upw w1 D' (.inl (5, cap, qc (va_cpy h h i.toNatClampNeg i1.toNatClampNeg d.toNatClampNeg)))) b := isRow_up hbw hD (fun z e => by cases e)
  simp only [eJx4a65c_add_7a177_38, eJx4a65c_add_7a177_38N, eJx4a65c_add_7a177_40, eJx4a65c_add_7a177_41, eJx4a65c_add_7a177_41N, eJx4a65c_add_7a177_43, eJx4a65c_add_7a177_49O, eJx4a65c_add_7a177_49B, eJx4a65c_add_7a177_52, eJx4a65c_add_7a177_52N, eJx4a65c_add_7a177_54, eJx4a65c_add_7a177_55, eJx4a65c_add_7a177_55N, eJx4a65c_add_7a177_56N, eJx4a65c_add_7a177_56R, eJx4a65c_add_7a177_57, eJx4a65c_add_7a177_57N, eJx4a65c_add_7a177_58, eJx4a65c_add_7a177_64, ite_le, n45, n54, true_or, or_true, false_or, or_false, false_and, and_false, kx_l, kx_r, go_s, gl_s, gi_s, gb_s2, gb_s3, gq_s, wt_nil, wt_int, wt_long, wt_ref, wt_null, nl_int, nl_long, nl_ref, nl_null, nl_none, rf_n, rf_s, rf_st, tl_s, tl_n, g0, gS, ex1, nb_b, nb_0, nb_1, nf_i, nf_l, nf_ra, nf_ro, nf_na, nf_no, nf_b0, nf_z0, t45_4, t45_5, true_and, and_true, List.set_cons_zero, List.set_cons_succ, List.length_cons, List.length_nil, rd_s, upw_s, ne_eq, not_false_eq_true, Nat.zero_add, Nat.add_zero, if_true, if_false, eq_self, hL, hD, hLD, hLD.symm, upw_n, al56, hi1, hd, hn9, i32_z k0, i32_z (show 0 ≤ i1.toInt by omega), i32_z (show 0 ≤ d.toInt by omega), upw2q, eJx4a65c_add_7a177_49O hD hD]
  with_reducible refine And.intro ?_ ?_
  omega
  with_reducible refine And.intro ?_ ?_
  with_reducible assumption
  with_reducible refine And.intro ?_ ?_
  with_reducible assumption
  with_reducible refine And.intro ?_ ?_
  with_reducible exact fun j y _ hy => gl_Roww (hrw _ _ hy) (fun _ => trivial)
  with_reducible refine And.intro ?_ ?_
  with_reducible assumption
  with_reducible refine And.intro ?_ ?_
  with_reducible exact gl_Roww hbw2 (fun _ => trivial)
  with_reducible refine And.intro ?_ ?_
  omega
  with_reducible refine And.intro ?_ ?_
  with_reducible assumption
  with_reducible refine And.intro ?_ ?_
  with_reducible assumption
  rw [hn9] at hQ
  rw [hi1, hd] at hH
  refine hQ _ (LPom (D' := D') (cap' := cap) (mc' := mc) h0 (upw_s _ _ _) (by rw [upw_n hLD.symm]; exact upw_s _ _ _) hc (by omega) (by omega) (fun a n1 n2 => by rw [upw_n n1, upw_n n2]; first | exact hf1 a n1 n2 | (rw [upw_n n2]; exact hf1 a n1 n2)) hfr (va_up_row (cpy_row hr hr) (fun b0 e => by
    cases e
    exact hb)) hH)
set_option maxHeartbeats 4000000 in
theorem sJx4a65c_add_7a177R {L D cap b : Nat} {n i : Int32} {h : Nat → Option Nat} (hb : isRow w b) (hE : EG g w) (hS : SG g) (hl : LL g w L D cap n h) (hr : ∀ i b, h i = some b → isRow w b) (k0 : 0 ≤ i.toInt) (k1 : i.toInt ≤ n.toInt) (hn : n.toInt < 15) (hQ : ∀ w', LPo g w w' L D (n + 1) (HIn h n.toNatClampNeg i.toNatClampNeg (some b)) → Q (.inl none) w') : WP (MJx4a65c_add_7a177 g) Q (0, [some (.ref L), some (.int i), some (.ref b), none, none], [], w, 0, 0) := by
  obtain ⟨mc, hL, rL, rD, hn0, hn1, n1, n2⟩ := hl.opn
  have ti : (i + 1).toNatClampNeg = i.toNatClampNeg + 1 := by
    have e := i32p1 (c := i) k0 (by omega)
    show (i + 1).toInt.toNat = i.toInt.toNat + 1
    rw [e]
    omega
  have td : (n - i).toNatClampNeg = n.toNatClampNeg - i.toNatClampNeg := by
    have e : (n - i).toInt = n.toInt - i.toInt := i32_sub (by omega) (by omega)
    show (n - i).toInt.toNat = n.toInt.toNat - i.toInt.toNat
    rw [e]
    omega
  have kin : i.toNatClampNeg ≤ n.toNatClampNeg := by
    show i.toInt.toNat ≤ n.toInt.toNat
    omega
  obtain ⟨w1, hw1⟩ : ∃ w1, upw w L (.inr (3, [.int (mc + 1), .ref D, .int n])) = w1 := ⟨_, rfl⟩
  have hE1 : EG g w1 := by
    rw [← hw1]
    obtain ⟨⟨e, e1, e2, e3⟩, m⟩ := hE
    refine ⟨⟨e, e1, e2, ?_⟩, m⟩
    rw [upw_n]
    · exact e3
    · rintro rfl
      rw [hL] at e3
      cases e3
  have hL1 : w1 L = some (.inr (3, [.int (mc + 1), .ref D, .int n])) := by rw [← hw1]; exact upw_s _ _ _
  have rL1 := rd_e (g := g) hL1
  have rD1 : rd g w1 D = some (.inl (5, cap, qc h)) := by
    rw [← hw1, rd_n n2]
    exact rD
  have hf : ∀ a, a ≠ L → w1 a = w a := fun a ha => by rw [← hw1]; exact upw_n ha
  have tr : ∀ b, isRow w b → isRow w1 b := fun b hb => by
    rw [← hw1]
    exact isRow_up hb hL (fun z e => by cases e)
  have hrw : ∀ i b, h i = some b → isRow w1 b := fun i b hb => tr b (hr i b hb)
  have eN := ofNc (N := cap) (by
    rcases hl.2.1 with ⟨-, e | e⟩ | ⟨e, -⟩ <;> omega)
  have q1 : (n < i) = False := i32_f k1
  have q2 : ((0 : Int32) ≤ i) = True := eq_true (Int32.le_iff_toInt_le.mpr (by have z0 : (0 : Int32).toInt = 0 := rfl; omega))
  simp only [eJx4a65c_add_7a177_0, eJx4a65c_add_7a177_0N, eJx4a65c_add_7a177_1, eJx4a65c_add_7a177_5, eJx4a65c_add_7a177_5N, eJx4a65c_add_7a177_6, eJx4a65c_add_7a177_6R, eJx4a65c_add_7a177_7, eJx4a65c_add_7a177_10, eJx4a65c_add_7a177_12, eJx4a65c_rangeCheckForAdd_d00df_0, eJx4a65c_rangeCheckForAdd_d00df_1, eJx4a65c_rangeCheckForAdd_d00df_1N, eJx4a65c_rangeCheckForAdd_d00df_2, eJx4a65c_rangeCheckForAdd_d00df_5, eJx4a65c_rangeCheckForAdd_d00df_8, eJx4a65c_rangeCheckForAdd_d00df_15, eJx4a65c_rangeCheckForAdd_d00df_15R, eJx4a65c_rangeCheckForAdd_d00df_16, eJx4a65c_rangeCheckForAdd_d00df_16N, eJx4a65c_rangeCheckForAdd_d00df_17, eJx4a65c_rangeCheckForAdd_d00df_25, ite_le, n45, n54, true_or, or_true, false_or, or_false, false_and, and_false, kx_l, kx_r, go_s, gl_s, gi_s, gb_s2, gb_s3, gq_s, wt_nil, wt_int, wt_long, wt_ref, wt_null, nl_int, nl_long, nl_ref, nl_null, nl_none, rf_n, rf_s, rf_st, tl_s, tl_n, g0, gS, ex1, nb_b, nb_0, nb_1, nf_i, nf_l, nf_ra, nf_ro, nf_na, nf_no, nf_b0, nf_z0, t45_4, t45_5, true_and, and_true, List.set_cons_zero, List.set_cons_succ, List.length_cons, List.length_nil, rd_s, upw_s, ne_eq, not_false_eq_true, Nat.zero_add, Nat.add_zero, if_true, if_false, eq_self, rL, hL, q1, q2, hw1]
  repeat' first | with_reducible refine And.intro ?_ ?_ | omega
  simp only [eJx4a65c_add_7a177_12, eJx4a65c_add_7a177_15, eJx4a65c_add_7a177_15N, eJx4a65c_add_7a177_16, eJx4a65c_add_7a177_19, eJx4a65c_add_7a177_19R, eJx4a65c_add_7a177_20, eJx4a65c_add_7a177_21, eJx4a65c_add_7a177_21N, eJx4a65c_add_7a177_22, eJx4a65c_add_7a177_25, eJx4a65c_add_7a177_25R, eJx4a65c_add_7a177_26, eJx4a65c_add_7a177_26N, eJx4a65c_add_7a177_28, eJx4a65c_add_7a177_29, ite_le, n45, n54, true_or, or_true, false_or, or_false, false_and, and_false, kx_l, kx_r, go_s, gl_s, gi_s, gb_s2, gb_s3, gq_s, wt_nil, wt_int, wt_long, wt_ref, wt_null, nl_int, nl_long, nl_ref, nl_null, nl_none, rf_n, rf_s, rf_st, tl_s, tl_n, g0, gS, ex1, nb_b, nb_0, nb_1, nf_i, nf_l, nf_ra, nf_ro, nf_na, nf_no, nf_b0, nf_z0, t45_4, t45_5, true_and, and_true, List.set_cons_zero, List.set_cons_succ, List.length_cons, List.length_nil, rd_s, upw_s, ne_eq, not_false_eq_true, Nat.zero_add, Nat.add_zero, if_true, if_false, eq_self, rL1, rD1, exal2, al56]
  split
  · next he =>
    have he : n.toInt = (cap : Int) := by rw [he, eN]
    simp only [eJx4a65c_add_7a177_32, eJx4a65c_add_7a177_32N, eJx4a65c_add_7a177_33, ite_le, n45, n54, true_or, or_true, false_or, or_false, false_and, and_false, kx_l, kx_r, go_s, gl_s, gi_s, gb_s2, gb_s3, gq_s, wt_nil, wt_int, wt_long, wt_ref, wt_null, nl_int, nl_long, nl_ref, nl_null, nl_none, rf_n, rf_s, rf_st, tl_s, tl_n, g0, gS, ex1, nb_b, nb_0, nb_1, nf_i, nf_l, nf_ra, nf_ro, nf_na, nf_no, nf_b0, nf_z0, t45_4, t45_5, true_and, and_true, List.set_cons_zero, List.set_cons_succ, List.length_cons, List.length_nil, rd_s, upw_s, ne_eq, not_false_eq_true, Nat.zero_add, Nat.add_zero, if_true, if_false, eq_self, rL1]
    repeat' first | with_reducible refine And.intro ?_ ?_ | omega
    obtain ⟨-, h2, -, -⟩ := hl
    have grown : ∀ (q c9 : Nat) (h9 : Nat → Option Nat), rd g w1 q = none → (c9 = 10 ∨ c9 = 15) → n.toInt < (c9 : Int) → (∀ i b, h9 i = some b → isRow w b) → (∀ j, j < n.toNatClampNeg → h9 j = h j) → ∀ (k m : Nat), k ≤ 1 → m ≤ 15 → WP (MJx4a65c_add_7a177 g) Q (38, [some (.ref L), some (.int i), some (.ref b), some (.int n), some (.ref q)], [], upw (upw w1 q (.inl (5, c9, qc h9))) L (.inr (3, [.int (mc + 1), .ref q, .int n])), k, m) := by
      intro q c9 h9 hq hc hlt hr9 hk9 k m hk hm
      have hqn := rd_none hq
      have hqL : q ≠ L := fun e => by
        rw [e, hL1] at hqn
        cases hqn
      have tr2 : ∀ b, isRow w b → isRow (upw (upw w1 q (.inl (5, c9, qc h9))) L (.inr (3, [.int (mc + 1), .ref q, .int n]))) b := fun b hb => by
        obtain ⟨f0, hrow⟩ := tr b hb
        have b1 : b ≠ L := fun e => by
          rw [e, hL1] at hrow
          cases hrow
        have b2 : b ≠ q := fun e => by
          rw [e, hqn] at hrow
          cases hrow
        exact ⟨f0, by rw [upw_n b1, upw_n b2]; exact hrow⟩
      exact lJx4a65c_add_7a177_38R (w0 := w) (D' := q) (cap := c9) hb (tr2 b hb) hL (upw_s _ _ _) (by rw [upw_n hqL]; exact upw_s _ _ _) hc (fun a a1 a2 => by rw [upw_n a1, upw_n a2]; exact hf a a1) (Or.inr ⟨by rw [← hf q hqL]; exact hqn, rd_ro hq⟩) hr9 (fun i b hb => tr2 b (hr9 i b hb)) k0 k1 hlt hk hm (HIn.mk hk9 kin ti td) hQ
    rcases h2 with ⟨h2, rfl | rfl⟩ | ⟨rfl, d1, d2, d3⟩
    · have n10 : n = 10 := Int32.toInt_inj.mp (by rw [he]; rfl)
      refine sJx4a65c_grow10 hE1 hS hL1 (by rw [hf D n2]; exact h2) hrw n10 (fun q hq => ?_)
      simp only [eJx4a65c_add_7a177_36, eJx4a65c_add_7a177_36N, ite_le, n45, n54, true_or, or_true, false_or, or_false, false_and, and_false, kx_l, kx_r, go_s, gl_s, gi_s, gb_s2, gb_s3, gq_s, wt_nil, wt_int, wt_long, wt_ref, wt_null, nl_int, nl_long, nl_ref, nl_null, nl_none, rf_n, rf_s, rf_st, tl_s, tl_n, g0, gS, ex1, nb_b, nb_0, nb_1, nf_i, nf_l, nf_ra, nf_ro, nf_na, nf_no, nf_b0, nf_z0, t45_4, t45_5, true_and, and_true, List.set_cons_zero, List.set_cons_succ, List.length_cons, List.length_nil, rd_s, upw_s, ne_eq, not_false_eq_true, Nat.zero_add, Nat.add_zero, if_true, if_false, eq_self]
      exact grown q 15 _ hq (Or.inr rfl) (by omega) (cpy_row hr (fun _ _ e => by cases e)) (fun j hj => cpy0 (by have t : n.toNatClampNeg = n.toInt.toNat := rfl; omega)) _ _ (by decide) (by decide)
    · omega
    · have n00 : n = 0 := Int32.toInt_inj.mp (by rw [he]; rfl)
      refine sJx4a65c_grow0 hE1 hS hL1 ⟨d1, by rw [hf D n2]; exact d2, d3⟩ n00 (fun q hq => ?_)
      simp only [eJx4a65c_add_7a177_36, eJx4a65c_add_7a177_36N, ite_le, n45, n54, true_or, or_true, false_or, or_false, false_and, and_false, kx_l, kx_r, go_s, gl_s, gi_s, gb_s2, gb_s3, gq_s, wt_nil, wt_int, wt_long, wt_ref, wt_null, nl_int, nl_long, nl_ref, nl_null, nl_none, rf_n, rf_s, rf_st, tl_s, tl_n, g0, gS, ex1, nb_b, nb_0, nb_1, nf_i, nf_l, nf_ra, nf_ro, nf_na, nf_no, nf_b0, nf_z0, t45_4, t45_5, true_and, and_true, List.set_cons_zero, List.set_cons_succ, List.length_cons, List.length_nil, rd_s, upw_s, ne_eq, not_false_eq_true, Nat.zero_add, Nat.add_zero, if_true, if_false, eq_self]
      exact grown q 10 _ hq (Or.inl rfl) (by omega) (fun _ _ e => by cases e) (fun j hj => by have t : n.toNatClampNeg = n.toInt.toNat := rfl; exfalso; omega) _ _ (by decide) (by decide)
  · next he =>
    have he : n.toInt ≠ (cap : Int) := fun e => he (Int32.toInt_inj.mp (by rw [e, eN]))
    obtain ⟨-, h2, -, -⟩ := hl
    rcases h2 with ⟨h2, h3⟩ | ⟨rfl, -⟩
    · exact lJx4a65c_add_7a177_38R (w0 := w) (D' := D) hb (tr b hb) hL hL1 (by rw [hf D n2]; exact h2) h3 (fun a a1 _ => hf a a1) (Or.inl ⟨rfl, cap, _, h2⟩) hr hrw k0 k1 (by omega) (by decide) (by decide) (HIn.mk (fun _ _ => rfl) kin ti td) hQ
    · omega
end
end
