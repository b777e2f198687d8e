section
section
variable {g : RO} {Q : Ot → Hw → Prop} {w0 w : Hw}
/-- what an adding or a removing leaves -/
def LPo (g : RO) (w0 w' : Hw) (L D : Nat) (n' : Int32) (H : (Nat → Option Nat) → Prop) : Prop := ∃ (D' cap' : Nat) (h' : Nat → Option Nat), LL g w' L D' cap' n' h' ∧ (∀ i b, h' i = some b → isRow w' b) ∧ (∀ a o, w0 a = some o → a ≠ L → a ≠ D → w' a = some o) ∧ (∀ a o, g.2 a = some o → w0 a = none → w' a = none) ∧ (D' = D ∨ (w0 D' = none ∧ g.2 D' = none)) ∧ H h'
/-- a row with one more at its end; in its midst; with one less -/
def HAd (h : Nat → Option Nat) (n : Nat) (v : Option Nat) (h' : Nat → Option Nat) : Prop := (∀ j, j < n → h' j = h j) ∧ h' n = v
def HIn (h : Nat → Option Nat) (n i : Nat) (v : Option Nat) (h' : Nat → Option Nat) : Prop := (∀ j, j < i → h' j = h j) ∧ h' i = v ∧ ∀ j, i ≤ j → j < n → h' (j + 1) = h j
def HRm (h : Nat → Option Nat) (n i : Nat) (h' : Nat → Option Nat) : Prop := (∀ j, j < i → h' j = h j) ∧ ∀ j, i ≤ j → j + 1 < n → h' j = h (j + 1)
theorem va_up_s {h : Nat → Option Nat} {k : Nat} {v : Option Nat} : va_up h k v k = v := by
  unfold va_up
  split
  · rfl
  · next e => exact absurd rfl e
theorem va_up_o {h : Nat → Option Nat} {k j : Nat} {v : Option Nat} (e : j ≠ k) : va_up h k v j = h j := by
  unfold va_up
  split
  · omega
  · rfl
theorem cpy0 {h f : Nat → Option Nat} {z j : Nat} (hj : j < z) : va_cpy h f 0 0 z j = h j := by
  rw [pk_cpy_in (Nat.zero_le _) (by omega), Nat.sub_zero, Nat.zero_add]
theorem HAd.mk {h h2 : Nat → Option Nat} {n : Nat} {v : Option Nat} (k : ∀ j, j < n → h2 j = h j) : HAd h n v (va_up h2 n v) := ⟨fun j hj => by rw [va_up_o (by omega)]; exact k j hj, va_up_s⟩
theorem HIn.mk {h h2 : Nat → Option Nat} {n i i1 d : Nat} {v : Option Nat} (k : ∀ j, j < n → h2 j = h j) (hi : i ≤ n) (e1 : i1 = i + 1) (e2 : d = n - i) : HIn h n i v (va_up (va_cpy h2 h2 i i1 d) i v) := by
  refine ⟨fun j hj => ?_, va_up_s, fun j h1 h2 => ?_⟩
  · rw [va_up_o (by omega), pk_cpy_out (Or.inl (by omega))]
    exact k j (by omega)
  · rw [va_up_o (by omega), pk_cpy_in (by omega) (by omega), ← k j h2]
    congr 1
    omega
theorem HRm.mk1 {h : Nat → Option Nat} {n i i1 d m : Nat} (e1 : m + 1 = n) (hi : i < m) (e2 : i1 = i + 1) (e3 : d = m - i) : HRm h n i (va_up (va_cpy h h i1 i d) m none) := by
  refine ⟨fun j hj => ?_, fun j h1 h2 => ?_⟩
  · rw [va_up_o (by omega), pk_cpy_out (Or.inl (by omega))]
  · rw [va_up_o (by omega), pk_cpy_in (by omega) (by omega)]
    congr 1
    omega
theorem HRm.mk2 {h : Nat → Option Nat} {n i m : Nat} (e1 : m + 1 = n) (hi : m ≤ i) (hn : i < n) : HRm h n i (va_up h m none) := by
  refine ⟨fun j hj => ?_, fun j h1 h2 => ?_⟩
  · rw [va_up_o (by omega)]
  · omega
theorem LPom {w' : Hw} {L D D' cap' : Nat} {fs : List Value} {mc' n' : Int32} {h' : Nat → Option Nat} (h0 : w0 L = some (.inr (3, fs))) (hL' : w' L = some (.inr (3, [.int mc', .ref D', .int n']))) (hD' : w' D' = some (.inl (5, cap', qc h'))) (hc : cap' = 10 ∨ cap' = 15) (b0 : 0 ≤ n'.toInt) (b1 : n'.toInt ≤ (cap' : Int)) (hf : ∀ a, a ≠ L → a ≠ D' → w' a = w0 a) (hfr : (D' = D ∧ ∃ c z, w0 D = some (.inl (5, c, z))) ∨ (w0 D' = none ∧ g.2 D' = none)) (hr : ∀ i b, h' i = some b → isRow w0 b) {H : (Nat → Option Nat) → Prop} (hH : H h') : LPo g w0 w' L D n' H := by
  refine ⟨D', cap', h', ⟨⟨mc', hL'⟩, Or.inl ⟨hD', hc⟩, b0, b1⟩, ?_, ?_, ?_, ?_, hH⟩
  · intro i b hb
    obtain ⟨f, hrow⟩ := hr i b hb
    refine ⟨f, ?_⟩
    rw [hf]
    · exact hrow
    · rintro rfl
      rw [h0] at hrow
      cases hrow
    · rintro rfl
      rcases hfr with ⟨rfl, c, z, e⟩ | ⟨e, -⟩
      · rw [e] at hrow
        cases hrow
      · rw [e] at hrow
        cases hrow
  · intro a o ha n1 n2
    rw [hf a n1]
    · exact ha
    · rintro rfl
      rcases hfr with ⟨rfl, -⟩ | ⟨e, -⟩
      · exact n2 rfl
      · rw [e] at ha
        cases ha
  · intro a o ha hn
    rw [hf]
    · exact hn
    · rintro rfl
      rw [h0] at hn
      cases hn
    · rintro rfl
      rcases hfr with ⟨rfl, c, z, e⟩ | ⟨-, e⟩
      · rw [e] at hn
        cases hn
      · rw [e] at ha
        cases ha
  · rcases hfr with ⟨e, -⟩ | e
    · exact Or.inl e
    · exact Or.inr e
theorem va_up_row {h : Nat → Option Nat} {k : Nat} {v : Option Nat} (hr : ∀ i b, h i = some b → isRow w b) (hv : ∀ b, v = some b → isRow w b) : ∀ i b, va_up h k v i = some b → isRow w b := fun i b => by
  unfold va_up
  split
  · exact hv b
  · exact hr i b
theorem cpy_row {h h2 : Nat → Option Nat} {x y z : Nat} (hr : ∀ i b, h i = some b → isRow w b) (hv : ∀ i b, h2 i = some b → isRow w b) : ∀ i b, va_cpy h h2 x y z i = some b → isRow w b := fun i b => by
  unfold va_cpy
  split
  · exact hr _ b
  · exact hv i b
theorem i32p1 {c : Int32} (h0 : 0 ≤ c.toInt) (h : c.toInt ≤ 2000) : (c + 1).toInt = c.toInt + 1 := i32_add (by show -2147483648 ≤ c.toInt + 1; omega) (by show c.toInt + 1 ≤ 2147483647; omega)
theorem ofNc {N : Nat} (h : N ≤ 5000) : (Int32.ofNat N).toInt = (N : Int) := Int32.toInt_ofNat_of_lt (by omega)
set_option maxHeartbeats 4000000 in
theorem lJx4a65c_add_72be8_11R {L D D' cap b k m : Nat} {mc n : Int32} {fs0 : List Value} {h : Nat → Option Nat} {w1 : Hw} (hb : isRow w0 b) (h0 : w0 L = some (.inr (3, fs0))) (hL : w1 L = some (.inr (3, [.int mc, .ref D', .int n]))) (hD : w1 D' = some (.inl (5, cap, qc h))) (hc : cap = 10 ∨ cap = 15) (hf1 : ∀ a, a ≠ L → a ≠ D' → w1 a = w0 a) (hfr : (D' = D ∧ ∃ c z, w0 D = some (.inl (5, c, z))) ∨ (w0 D' = none ∧ g.2 D' = none)) (hr : ∀ i b, h i = some b → isRow w0 b) (hn0 : 0 ≤ n.toInt) (hn1 : n.toInt < (cap : Int)) (hk : k ≤ 1) (hm : m ≤ 15) {H : (Nat → Option Nat) → Prop} (hH : H (va_up h n.toNatClampNeg (some b))) (hQ : ∀ w', LPo g w0 w' L D (n + 1) H → Q (.inl none) w') : WP (MJx4a65c_add_72be8 g) Q (11, [some (.ref L), some (.ref b), some (.ref D'), some (.int n)], [], w1, k, m) := by
  have iv : vp_in n cap := vpiM hn0 hn1
  have hLD : L ≠ D' := fun e => by
    rw [e, hD] at hL
    cases hL
  have e1 := i32p1 hn0 (by omega)
  have hbD : ∀ f0, w0 b = some (.inl (0, 4, .inr (.inl f0))) → b ≠ D' := fun f0 hrow e => by
    subst e
    rcases hfr with ⟨rfl, c, z, e⟩ | ⟨e, -⟩
    · rw [e] at hrow
      cases hrow
    · rw [e] at hrow
      cases hrow
  have hbw : isRow w1 b := by
    obtain ⟨f0, hrow⟩ := hb
    refine ⟨f0, ?_⟩
    rw [hf1]
    · exact hrow
    · rintro rfl
      rw [h0] at hrow
      cases hrow
    · exact hbD f0 hrow
  simp only [eJx4a65c_add_72be8_11, eJx4a65c_add_72be8_11N, eJx4a65c_add_72be8_12, eJx4a65c_add_72be8_13, eJx4a65c_add_72be8_13N, eJx4a65c_add_72be8_14N, eJx4a65c_add_72be8_14R, eJx4a65c_add_72be8_15, eJx4a65c_add_72be8_15N, eJx4a65c_add_72be8_16, eJx4a65c_add_72be8_22, ite_le, n45, n54, true_or, or_true, false_or, or_false, false_and, and_false, kx_l, kx_r, go_s, gl_s, gi_s, gb_s2, gb_s3, gq_s, wt_nil, wt_int, wt_long, wt_ref, wt_null, nl_int, nl_long, nl_ref, nl_null, nl_none, rf_n, rf_s, rf_st, tl_s, tl_n, g0, gS, ex1, nb_b, nb_0, nb_1, nf_i, nf_l, nf_ra, nf_ro, nf_na, nf_no, nf_b0, nf_z0, t45_4, t45_5, true_and, and_true, List.set_cons_zero, List.set_cons_succ, List.length_cons, List.length_nil, rd_s, upw_s, ne_eq, not_false_eq_true, Nat.zero_add, Nat.add_zero, if_true, if_false, eq_self, hL, hD, hLD, hLD.symm, upw_n, al56]
  with_reducible refine And.intro ?_ ?_
  with_reducible assumption
  with_reducible refine And.intro ?_ ?_
  with_reducible exact gl_Roww hbw (fun _ => trivial)
  with_reducible refine And.intro ?_ ?_
  omega
  with_reducible refine And.intro ?_ ?_
  with_reducible assumption
  with_reducible refine And.intro ?_ ?_
  with_reducible assumption
  refine hQ _ (LPom (D' := D') (cap' := cap) (mc' := mc) h0 (upw_s _ _ _) (by rw [upw_n hLD.symm]; exact upw_s _ _ _) hc (by omega) (by omega) (fun a n1 n2 => by rw [upw_n n1, upw_n n2]; exact hf1 a n1 n2) hfr (va_up_row hr (fun b0 e => by
    cases e
    exact hb)) hH)
set_option maxHeartbeats 4000000 in
theorem sJx4a65c_add_72be8R {L D cap b : Nat} {n : Int32} {fs0 : List Value} {h : Nat → Option Nat} (hb : isRow w0 b) (hE : EG g w) (hS : SG g) (hl : LL g w L D cap n h) (hr : ∀ i b, h i = some b → isRow w0 b) (hrw : ∀ i b, h i = some b → isRow w b) (h0 : w0 L = some (.inr (3, fs0))) (hf0 : ∀ a, a ≠ L → w a = w0 a) (hn : n.toInt < 15) (hQ : ∀ w', LPo g w0 w' L D (n + 1) (HAd h n.toNatClampNeg (some b)) → Q (.inl none) w') : WP (MJx4a65c_add_72be8 g) Q (0, [some (.ref L), some (.ref b), some (.ref D), some (.int n)], [], w, 0, 0) := by
  obtain ⟨mc, hL, rL, rD, hn0, hn1, n1, n2⟩ := hl.opn
  have eN := ofNc (N := cap) (by
    rcases hl.2.1 with ⟨-, e | e⟩ | ⟨e, -⟩ <;> omega)
  simp only [eJx4a65c_add_72be8_0, eJx4a65c_add_72be8_1, eJx4a65c_add_72be8_1N, eJx4a65c_add_72be8_2, eJx4a65c_add_72be8_3, ite_le, n45, n54, true_or, or_true, false_or, or_false, false_and, and_false, kx_l, kx_r, go_s, gl_s, gi_s, gb_s2, gb_s3, gq_s, wt_nil, wt_int, wt_long, wt_ref, wt_null, nl_int, nl_long, nl_ref, nl_null, nl_none, rf_n, rf_s, rf_st, tl_s, tl_n, g0, gS, ex1, nb_b, nb_0, nb_1, nf_i, nf_l, nf_ra, nf_ro, nf_na, nf_no, nf_b0, nf_z0, t45_4, t45_5, true_and, and_true, List.set_cons_zero, List.set_cons_succ, List.length_cons, List.length_nil, rd_s, upw_s, ne_eq, not_false_eq_true, Nat.zero_add, Nat.add_zero, if_true, if_false, eq_self, rL, rD, exal2, al56]
  split
  · next he =>
    have he : n.toInt = (cap : Int) := by rw [he, eN]
    simp only [eJx4a65c_add_72be8_6, eJx4a65c_add_72be8_6N, eJx4a65c_add_72be8_7, ite_le, n45, n54, true_or, or_true, false_or, or_false, false_and, and_false, kx_l, kx_r, go_s, gl_s, gi_s, gb_s2, gb_s3, gq_s, wt_nil, wt_int, wt_long, wt_ref, wt_null, nl_int, nl_long, nl_ref, nl_null, nl_none, rf_n, rf_s, rf_st, tl_s, tl_n, g0, gS, ex1, nb_b, nb_0, nb_1, nf_i, nf_l, nf_ra, nf_ro, nf_na, nf_no, nf_b0, nf_z0, t45_4, t45_5, true_and, and_true, List.set_cons_zero, List.set_cons_succ, List.length_cons, List.length_nil, rd_s, upw_s, ne_eq, not_false_eq_true, Nat.zero_add, Nat.add_zero, if_true, if_false, eq_self, rL]
    repeat' first | with_reducible refine And.intro ?_ ?_ | omega
    obtain ⟨-, h2, -, -⟩ := hl
    rcases h2 with ⟨h2, rfl | rfl⟩ | ⟨rfl, d1, d2, d3⟩
    · have n10 : n = 10 := Int32.toInt_inj.mp (by rw [he]; rfl)
      refine sJx4a65c_grow10 hE hS hL h2 hrw n10 (fun q hq => ?_)
      have hqn := rd_none hq
      have hqL : q ≠ L := fun e => by
        rw [e, hL] at hqn
        cases hqn
      simp only [eJx4a65c_add_72be8_10, eJx4a65c_add_72be8_10N, ite_le, n45, n54, true_or, or_true, false_or, or_false, false_and, and_false, kx_l, kx_r, go_s, gl_s, gi_s, gb_s2, gb_s3, gq_s, wt_nil, wt_int, wt_long, wt_ref, wt_null, nl_int, nl_long, nl_ref, nl_null, nl_none, rf_n, rf_s, rf_st, tl_s, tl_n, g0, gS, ex1, nb_b, nb_0, nb_1, nf_i, nf_l, nf_ra, nf_ro, nf_na, nf_no, nf_b0, nf_z0, t45_4, t45_5, true_and, and_true, List.set_cons_zero, List.set_cons_succ, List.length_cons, List.length_nil, rd_s, upw_s, ne_eq, not_false_eq_true, Nat.zero_add, Nat.add_zero, if_true, if_false, eq_self]
      exact lJx4a65c_add_72be8_11R (D' := q) (cap := 15) hb h0 (upw_s _ _ _) (by rw [upw_n hqL]; exact upw_s _ _ _) (Or.inr rfl) (fun a a1 a2 => by rw [upw_n a1, upw_n a2]; exact hf0 a a1) (Or.inr ⟨by rw [← hf0 q hqL]; exact hqn, rd_ro hq⟩) (cpy_row hr (fun _ _ e => by cases e)) hn0 (by omega) (by decide) (by decide) (HAd.mk (fun j hj => cpy0 (by have t : n.toNatClampNeg = n.toInt.toNat := rfl; omega))) hQ
    · omega
    · have n00 : n = 0 := Int32.toInt_inj.mp (by rw [he]; rfl)
      refine sJx4a65c_grow0 hE hS hL ⟨d1, d2, d3⟩ n00 (fun q hq => ?_)
      have hqn := rd_none hq
      have hqL : q ≠ L := fun e => by
        rw [e, hL] at hqn
        cases hqn
      simp only [eJx4a65c_add_72be8_10, eJx4a65c_add_72be8_10N, ite_le, n45, n54, true_or, or_true, false_or, or_false, false_and, and_false, kx_l, kx_r, go_s, gl_s, gi_s, gb_s2, gb_s3, gq_s, wt_nil, wt_int, wt_long, wt_ref, wt_null, nl_int, nl_long, nl_ref, nl_null, nl_none, rf_n, rf_s, rf_st, tl_s, tl_n, g0, gS, ex1, nb_b, nb_0, nb_1, nf_i, nf_l, nf_ra, nf_ro, nf_na, nf_no, nf_b0, nf_z0, t45_4, t45_5, true_and, and_true, List.set_cons_zero, List.set_cons_succ, List.length_cons, List.length_nil, rd_s, upw_s, ne_eq, not_false_eq_true, Nat.zero_add, Nat.add_zero, if_true, if_false, eq_self]
      exact lJx4a65c_add_72be8_11R (D' := q) (cap := 10) hb h0 (upw_s _ _ _) (by rw [upw_n hqL]; exact upw_s _ _ _) (Or.inl rfl) (fun a a1 a2 => by rw [upw_n a1, upw_n a2]; exact hf0 a a1) (Or.inr ⟨by rw [← hf0 q hqL]; exact hqn, rd_ro hq⟩) (fun _ _ e => by cases e) hn0 (by omega) (by decide) (by decide) (HAd.mk (fun j hj => by have t : n.toNatClampNeg = n.toInt.toNat := rfl; exfalso; omega)) hQ
  · next he =>
    have he : n.toInt ≠ (cap : Int) := fun e => he (Int32.toInt_inj.mp (by rw [e, eN]))
    obtain ⟨-, h2, -, -⟩ := hl
    rcases h2 with ⟨h2, h3⟩ | ⟨rfl, -⟩
    · exact lJx4a65c_add_72be8_11R (D' := D) hb h0 hL h2 h3 (fun a a1 _ => hf0 a a1) (Or.inl ⟨rfl, cap, _, by rw [← hf0 D n2]; exact h2⟩) hr hn0 (by omega) (by decide) (by decide) (HAd.mk (fun _ _ => rfl)) hQ
    · omega
set_option maxHeartbeats 4000000 in
theorem sJx4a65c_add_9ea2dR {L D cap b : Nat} {n : Int32} {h : Nat → Option Nat} (hb : isRow w b) (hE : EG g w) (hS : SG g) (hl : LL g w L D cap n h) (hr : ∀ i b, h i = some b → isRow w b) (hn : n.toInt < 15) (hQ : ∀ w', LPo g w w' L D (n + 1) (HAd h n.toNatClampNeg (some b)) → Q (.inl (some (.int 1))) w') : WP (MJx4a65c_add_9ea2d g) Q (0, [some (.ref L), some (.ref b)], [], w, 0, 0) := by
  obtain ⟨mc, hL, rL, rD, hn0, hn1, n1, n2⟩ := hl.opn
  have hE1 : EG g (upw w L (.inr (3, [.int (mc + 1), .ref D, .int n]))) := by
    obtain ⟨⟨e, e1, e2, e3⟩, m⟩ := hE
    refine ⟨⟨e, e1, e2, ?_⟩, m⟩
    rw [upw_n]
    · exact e3
    · rintro rfl
      rw [hL] at e3
      cases e3
  have hl1 : LL g (upw w L (.inr (3, [.int (mc + 1), .ref D, .int n]))) L D cap n h := by
    obtain ⟨-, h2, h3, h4⟩ := hl
    refine ⟨⟨mc + 1, upw_s _ _ _⟩, ?_, h3, h4⟩
    rw [upw_n n2]
    exact h2
  simp only [eJx4a65c_add_9ea2d_0, eJx4a65c_add_9ea2d_0N, eJx4a65c_add_9ea2d_1, eJx4a65c_add_9ea2d_1R, eJx4a65c_add_9ea2d_2, eJx4a65c_add_9ea2d_5, eJx4a65c_add_9ea2d_10, eJx4a65c_add_9ea2d_10N, eJx4a65c_add_9ea2d_11, eJx4a65c_add_9ea2d_11N, eJx4a65c_add_9ea2d_12, eJx4a65c_add_9ea2d_12N, eJx4a65c_add_9ea2d_13, eJx4a65c_add_9ea2d_16, eJx4a65c_add_9ea2d_16N, eJx4a65c_add_9ea2d_17, eJx4a65c_add_9ea2d_20RR, eJx4a65c_add_9ea2d_20NR, eJx4a65c_add_9ea2d_20RN, eJx4a65c_add_9ea2d_20NN, ite_le, n45, n54, true_or, or_true, false_or, or_false, false_and, and_false, kx_l, kx_r, go_s, gl_s, gi_s, gb_s2, gb_s3, gq_s, wt_nil, wt_int, wt_long, wt_ref, wt_null, nl_int, nl_long, nl_ref, nl_null, nl_none, rf_n, rf_s, rf_st, tl_s, tl_n, g0, gS, ex1, nb_b, nb_0, nb_1, nf_i, nf_l, nf_ra, nf_ro, nf_na, nf_no, nf_b0, nf_z0, t45_4, t45_5, true_and, and_true, List.set_cons_zero, List.set_cons_succ, List.length_cons, List.length_nil, rd_s, upw_s, ne_eq, not_false_eq_true, Nat.zero_add, Nat.add_zero, if_true, if_false, eq_self, rL, hL]
  repeat' first | with_reducible refine And.intro ?_ ?_ | omega
  refine sJx4a65c_add_72be8R (w0 := w) hb hE1 hS hl1 hr (fun i b hb => isRow_up (hr i b hb) hL (fun z e => by cases e)) hL (fun a ha => upw_n ha) hn (fun w' z => ?_)
  simp only [eJx4a65c_add_9ea2d_23, ite_le, n45, n54, true_or, or_true, false_or, or_false, false_and, and_false, kx_l, kx_r, go_s, gl_s, gi_s, gb_s2, gb_s3, gq_s, wt_nil, wt_int, wt_long, wt_ref, wt_null, nl_int, nl_long, nl_ref, nl_null, nl_none, rf_n, rf_s, rf_st, tl_s, tl_n, g0, gS, ex1, nb_b, nb_0, nb_1, nf_i, nf_l, nf_ra, nf_ro, nf_na, nf_no, nf_b0, nf_z0, t45_4, t45_5, true_and, and_true, List.set_cons_zero, List.set_cons_succ, List.length_cons, List.length_nil, rd_s, upw_s, ne_eq, not_false_eq_true, Nat.zero_add, Nat.add_zero, if_true, if_false, eq_self]
  repeat' first | with_reducible refine And.intro ?_ ?_ | omega
  all_goals exact hQ _ z
set_option maxHeartbeats 4000000 in
theorem lJx4a65c_add_72be8_11N {L D D' cap k m : Nat} {mc n : Int32} {fs0 : List Value} {h : Nat → Option Nat} {w1 : Hw} (h0 : w0 L = some (.inr (3, fs0))) (hL : w1 L = some (.inr (3, [.int mc, .ref D', .int n]))) (hD : w1 D' = some (.inl (5, cap, qc h))) (hc : cap = 10 ∨ cap = 15) (hf1 : ∀ a, a ≠ L → a ≠ D' → w1 a = w0 a) (hfr : (D' = D ∧ ∃ c z, w0 D = some (.inl (5, c, z))) ∨ (w0 D' = none ∧ g.2 D' = none)) (hr : ∀ i b, h i = some b → isRow w0 b) (hn0 : 0 ≤ n.toInt) (hn1 : n.toInt < (cap : Int)) (hk : k ≤ 1) (hm : m ≤ 15) {H : (Nat → Option Nat) → Prop} (hH : H (va_up h n.toNatClampNeg none)) (hQ : ∀ w', LPo g w0 w' L D (n + 1) H → Q (.inl none) w') : WP (MJx4a65c_add_72be8 g) Q (11, [some (.ref L), some .null, some (.ref D'), some (.int n)], [], w1, k, m) := by
  have iv : vp_in n cap := vpiM hn0 hn1
  have hLD : L ≠ D' := fun e => by
    rw [e, hD] at hL
    cases hL
  have e1 := i32p1 hn0 (by omega)
  simp only [eJx4a65c_add_72be8_11, eJx4a65c_add_72be8_11N, eJx4a65c_add_72be8_12, eJx4a65c_add_72be8_13, eJx4a65c_add_72be8_13N, eJx4a65c_add_72be8_14N, eJx4a65c_add_72be8_14R, eJx4a65c_add_72be8_15, eJx4a65c_add_72be8_15N, eJx4a65c_add_72be8_16, eJx4a65c_add_72be8_22, ite_le, n45, n54, true_or, or_true, false_or, or_false, false_and, and_false, kx_l, kx_r, go_s, gl_s, gi_s, gb_s2, gb_s3, gq_s, wt_nil, wt_int, wt_long, wt_ref, wt_null, nl_int, nl_long, nl_ref, nl_null, nl_none, rf_n, rf_s, rf_st, tl_s, tl_n, g0, gS, ex1, nb_b, nb_0, nb_1, nf_i, nf_l, nf_ra, nf_ro, nf_na, nf_no, nf_b0, nf_z0, t45_4, t45_5, true_and, and_true, List.set_cons_zero, List.set_cons_succ, List.length_cons, List.length_nil, rd_s, upw_s, ne_eq, not_false_eq_true, Nat.zero_add, Nat.add_zero, if_true, if_false, eq_self, hL, hD, hLD, hLD.symm, upw_n, al56]
  with_reducible refine And.intro ?_ ?_
  with_reducible assumption
  with_reducible refine And.intro ?_ ?_
  omega
  with_reducible refine And.intro ?_ ?_
  with_reducible assumption
  with_reducible refine And.intro ?_ ?_
  with_reducible assumption
  refine hQ _ (LPom (D' := D') (cap' := cap) (mc' := mc) h0 (upw_s _ _ _) (by rw [upw_n hLD.symm]; exact upw_s _ _ _) hc (by omega) (by omega) (fun a n1 n2 => by rw [upw_n n1, upw_n n2]; exact hf1 a n1 n2) hfr (va_up_row hr (fun b0 e => by cases e)) hH)
set_option maxHeartbeats 4000000 in
theorem sJx4a65c_add_72be8N {L D cap : Nat} {n : Int32} {fs0 : List Value} {h : Nat → Option Nat} (hE : EG g w) (hS : SG g) (hl : LL g w L D cap n h) (hr : ∀ i b, h i = some b → isRow w0 b) (hrw : ∀ i b, h i = some b → isRow w b) (h0 : w0 L = some (.inr (3, fs0))) (hf0 : ∀ a, a ≠ L → w a = w0 a) (hn : n.toInt < 15) (hQ : ∀ w', LPo g w0 w' L D (n + 1) (HAd h n.toNatClampNeg none) → Q (.inl none) w') : WP (MJx4a65c_add_72be8 g) Q (0, [some (.ref L), some .null, some (.ref D), some (.int n)], [], w, 0, 0) := by
  obtain ⟨mc, hL, rL, rD, hn0, hn1, n1, n2⟩ := hl.opn
  have eN := ofNc (N := cap) (by
    rcases hl.2.1 with ⟨-, e | e⟩ | ⟨e, -⟩ <;> omega)
  simp only [eJx4a65c_add_72be8_0, eJx4a65c_add_72be8_1, eJx4a65c_add_72be8_1N, eJx4a65c_add_72be8_2, eJx4a65c_add_72be8_3, ite_le, n45, n54, true_or, or_true, false_or, or_false, false_and, and_false, kx_l, kx_r, go_s, gl_s, gi_s, gb_s2, gb_s3, gq_s, wt_nil, wt_int, wt_long, wt_ref, wt_null, nl_int, nl_long, nl_ref, nl_null, nl_none, rf_n, rf_s, rf_st, tl_s, tl_n, g0, gS, ex1, nb_b, nb_0, nb_1, nf_i, nf_l, nf_ra, nf_ro, nf_na, nf_no, nf_b0, nf_z0, t45_4, t45_5, true_and, and_true, List.set_cons_zero, List.set_cons_succ, List.length_cons, List.length_nil, rd_s, upw_s, ne_eq, not_false_eq_true, Nat.zero_add, Nat.add_zero, if_true, if_false, eq_self, rL, rD, exal2, al56]
  split
  · next he =>
    have he : n.toInt = (cap : Int) := by rw [he, eN]
    simp only [eJx4a65c_add_72be8_6, eJx4a65c_add_72be8_6N, eJx4a65c_add_72be8_7, ite_le, n45, n54, true_or, or_true, false_or, or_false, false_and, and_false, kx_l, kx_r, go_s, gl_s, gi_s, gb_s2, gb_s3, gq_s, wt_nil, wt_int, wt_long, wt_ref, wt_null, nl_int, nl_long, nl_ref, nl_null, nl_none, rf_n, rf_s, rf_st, tl_s, tl_n, g0, gS, ex1, nb_b, nb_0, nb_1, nf_i, nf_l, nf_ra, nf_ro, nf_na, nf_no, nf_b0, nf_z0, t45_4, t45_5, true_and, and_true, List.set_cons_zero, List.set_cons_succ, List.length_cons, List.length_nil, rd_s, upw_s, ne_eq, not_false_eq_true, Nat.zero_add, Nat.add_zero, if_true, if_false, eq_self, rL]
    repeat' first | with_reducible refine And.intro ?_ ?_ | omega
    obtain ⟨-, h2, -, -⟩ := hl
    rcases h2 with ⟨h2, rfl | rfl⟩ | ⟨rfl, d1, d2, d3⟩
    · have n10 : n = 10 := Int32.toInt_inj.mp (by rw [he]; rfl)
      refine sJx4a65c_grow10 hE hS hL h2 hrw n10 (fun q hq => ?_)
      have hqn := rd_none hq
      have hqL : q ≠ L := fun e => by
        rw [e, hL] at hqn
        cases hqn
      simp only [eJx4a65c_add_72be8_10, eJx4a65c_add_72be8_10N, ite_le, n45, n54, true_or, or_true, false_or, or_false, false_and, and_false, kx_l, kx_r, go_s, gl_s, gi_s, gb_s2, gb_s3, gq_s, wt_nil, wt_int, wt_long, wt_ref, wt_null, nl_int, nl_long, nl_ref, nl_null, nl_none, rf_n, rf_s, rf_st, tl_s, tl_n, g0, gS, ex1, nb_b, nb_0, nb_1, nf_i, nf_l, nf_ra, nf_ro, nf_na, nf_no, nf_b0, nf_z0, t45_4, t45_5, true_and, and_true, List.set_cons_zero, List.set_cons_succ, List.length_cons, List.length_nil, rd_s, upw_s, ne_eq, not_false_eq_true, Nat.zero_add, Nat.add_zero, if_true, if_false, eq_self]
      exact lJx4a65c_add_72be8_11N (D' := q) (cap := 15) h0 (upw_s _ _ _) (by rw [upw_n hqL]; exact upw_s _ _ _) (Or.inr rfl) (fun a a1 a2 => by rw [upw_n a1, upw_n a2]; exact hf0 a a1) (Or.inr ⟨by rw [← hf0 q hqL]; exact hqn, rd_ro hq⟩) (cpy_row hr (fun _ _ e => by cases e)) hn0 (by omega) (by decide) (by decide) (HAd.mk (fun j hj => cpy0 (by have t : n.toNatClampNeg = n.toInt.toNat := rfl; omega))) hQ
    · omega
    · have n00 : n = 0 := Int32.toInt_inj.mp (by rw [he]; rfl)
      refine sJx4a65c_grow0 hE hS hL ⟨d1, d2, d3⟩ n00 (fun q hq => ?_)
      have hqn := rd_none hq
      have hqL : q ≠ L := fun e => by
        rw [e, hL] at hqn
        cases hqn
      simp only [eJx4a65c_add_72be8_10, eJx4a65c_add_72be8_10N, ite_le, n45, n54, true_or, or_true, false_or, or_false, false_and, and_false, kx_l, kx_r, go_s, gl_s, gi_s, gb_s2, gb_s3, gq_s, wt_nil, wt_int, wt_long, wt_ref, wt_null, nl_int, nl_long, nl_ref, nl_null, nl_none, rf_n, rf_s, rf_st, tl_s, tl_n, g0, gS, ex1, nb_b, nb_0, nb_1, nf_i, nf_l, nf_ra, nf_ro, nf_na, nf_no, nf_b0, nf_z0, t45_4, t45_5, true_and, and_true, List.set_cons_zero, List.set_cons_succ, List.length_cons, List.length_nil, rd_s, upw_s, ne_eq, not_false_eq_true, Nat.zero_add, Nat.add_zero, if_true, if_false, eq_self]
      exact lJx4a65c_add_72be8_11N (D' := q) (cap := 10) h0 (upw_s _ _ _) (by rw [upw_n hqL]; exact upw_s _ _ _) (Or.inl rfl) (fun a a1 a2 => by rw [upw_n a1, upw_n a2]; exact hf0 a a1) (Or.inr ⟨by rw [← hf0 q hqL]; exact hqn, rd_ro hq⟩) (fun _ _ e => by cases e) hn0 (by omega) (by decide) (by decide) (HAd.mk (fun j hj => by have t : n.toNatClampNeg = n.toInt.toNat := rfl; exfalso; omega)) hQ
  · next he =>
    have he : n.toInt ≠ (cap : Int) := fun e => he (Int32.toInt_inj.mp (by rw [e, eN]))
    obtain ⟨-, h2, -, -⟩ := hl
    rcases h2 with ⟨h2, h3⟩ | ⟨rfl, -⟩
    · exact lJx4a65c_add_72be8_11N (D' := D) h0 hL h2 h3 (fun a a1 _ => hf0 a a1) (Or.inl ⟨rfl, cap, _, by rw [← hf0 D n2]; exact h2⟩) hr hn0 (by omega) (by decide) (by decide) (HAd.mk (fun _ _ => rfl)) hQ
    · omega
set_option maxHeartbeats 4000000 in
theorem sJx4a65c_add_9ea2dN {L D cap : Nat} {n : Int32} {h : Nat → Option Nat} (hE : EG g w) (hS : SG g) (hl : LL g w L D cap n h) (hr : ∀ i b, h i = some b → isRow w b) (hn : n.toInt < 15) (hQ : ∀ w', LPo g w w' L D (n + 1) (HAd h n.toNatClampNeg none) → Q (.inl (some (.int 1))) w') : WP (MJx4a65c_add_9ea2d g) Q (0, [some (.ref L), some .null], [], w, 0, 0) := by
  obtain ⟨mc, hL, rL, rD, hn0, hn1, n1, n2⟩ := hl.opn
  have hE1 : EG g (upw w L (.inr (3, [.int (mc + 1), .ref D, .int n]))) := by
    obtain ⟨⟨e, e1, e2, e3⟩, m⟩ := hE
    refine ⟨⟨e, e1, e2, ?_⟩, m⟩
    rw [upw_n]
    · exact e3
    · rintro rfl
      rw [hL] at e3
      cases e3
  have hl1 : LL g (upw w L (.inr (3, [.int (mc + 1), .ref D, .int n]))) L D cap n h := by
    obtain ⟨-, h2, h3, h4⟩ := hl
    refine ⟨⟨mc + 1, upw_s _ _ _⟩, ?_, h3, h4⟩
    rw [upw_n n2]
    exact h2
  simp only [eJx4a65c_add_9ea2d_0, eJx4a65c_add_9ea2d_0N, eJx4a65c_add_9ea2d_1, eJx4a65c_add_9ea2d_1R, eJx4a65c_add_9ea2d_2, eJx4a65c_add_9ea2d_5, eJx4a65c_add_9ea2d_10, eJx4a65c_add_9ea2d_10N, eJx4a65c_add_9ea2d_11, eJx4a65c_add_9ea2d_11N, eJx4a65c_add_9ea2d_12, eJx4a65c_add_9ea2d_12N, eJx4a65c_add_9ea2d_13, eJx4a65c_add_9ea2d_16, eJx4a65c_add_9ea2d_16N, eJx4a65c_add_9ea2d_17, eJx4a65c_add_9ea2d_20RR, eJx4a65c_add_9ea2d_20NR, eJx4a65c_add_9ea2d_20RN, eJx4a65c_add_9ea2d_20NN, ite_le, n45, n54, true_or, or_true, false_or, or_false, false_and, and_false, kx_l, kx_r, go_s, gl_s, gi_s, gb_s2, gb_s3, gq_s, wt_nil, wt_int, wt_long, wt_ref, wt_null, nl_int, nl_long, nl_ref, nl_null, nl_none, rf_n, rf_s, rf_st, tl_s, tl_n, g0, gS, ex1, nb_b, nb_0, nb_1, nf_i, nf_l, nf_ra, nf_ro, nf_na, nf_no, nf_b0, nf_z0, t45_4, t45_5, true_and, and_true, List.set_cons_zero, List.set_cons_succ, List.length_cons, List.length_nil, rd_s, upw_s, ne_eq, not_false_eq_true, Nat.zero_add, Nat.add_zero, if_true, if_false, eq_self, rL, hL]
  repeat' first | with_reducible refine And.intro ?_ ?_ | omega
  refine sJx4a65c_add_72be8N (w0 := w) hE1 hS hl1 hr (fun i b hb => isRow_up (hr i b hb) hL (fun z e => by cases e)) hL (fun a ha => upw_n ha) hn (fun w' z => ?_)
  simp only [eJx4a65c_add_9ea2d_23, ite_le, n45, n54, true_or, or_true, false_or, or_false, false_and, and_false, kx_l, kx_r, go_s, gl_s, gi_s, gb_s2, gb_s3, gq_s, wt_nil, wt_int, wt_long, wt_ref, wt_null, nl_int, nl_long, nl_ref, nl_null, nl_none, rf_n, rf_s, rf_st, tl_s, tl_n, g0, gS, ex1, nb_b, nb_0, nb_1, nf_i, nf_l, nf_ra, nf_ro, nf_na, nf_no, nf_b0, nf_z0, t45_4, t45_5, true_and, and_true, List.set_cons_zero, List.set_cons_succ, List.length_cons, List.length_nil, rd_s, upw_s, ne_eq, not_false_eq_true, Nat.zero_add, Nat.add_zero, if_true, if_false, eq_self]
  repeat' first | with_reducible refine And.intro ?_ ?_ | omega
  all_goals exact hQ _ z
end
end
