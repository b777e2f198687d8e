section
section
variable {g : RO} {Q : Ot → Hw → Prop} {w0 w : Hw}
theorem DG.upd {g : RO} {w : Hw} {d : Nat} {o o' : Ob} (h : DG g w) (hd : w d = some o) : DG g (upw w d o') := by
  obtain ⟨h1, ⟨a, f, h2, h3, h4⟩, ⟨b, f', h5, h6, h7⟩⟩ := h
  refine ⟨h1, ⟨a, f, h2, h3, ?_⟩, ⟨b, f', h5, h6, ?_⟩⟩
  · rw [upw_n]
    · exact h4
    · rintro rfl
      rw [h4] at hd
      cases hd
  · rw [upw_n]
    · exact h7
    · rintro rfl
      rw [h7] at hd
      cases hd
theorem tn100 : (¬ (100 : Int32) = 0) = True := eq_true (by decide)
theorem tn100l : (¬ (100 : Int64) = 0) = True := eq_true (by decide)
theorem neg_tdiv100 {y : Int} (h : y ≤ 0) : y.tdiv 100 = -((-y) / 100) := by
  obtain ⟨n, rfl⟩ : ∃ n : Int, y = -n := ⟨-y, by omega⟩
  rw [Int.neg_tdiv, Int.tdiv_eq_ediv_of_nonneg (by omega), Int.neg_neg]
theorem i32_d100 {y : Int32} (h : y.toInt ≤ 0) : (y / 100).toInt = -((-y.toInt) / 100) := by
  have e : (100 : Int32).toInt = 100 := rfl
  have h2 := i32_bd y
  rw [Int32.toInt_div, e, neg_tdiv100 h]
  exact Int.bmod_eq_of_le (by omega) (by omega)
theorem i32_r100 {y : Int32} (h : y.toInt ≤ 0) : (y / 100 * 100 - y).toInt = -y.toInt - (-y.toInt) / 100 * 100 := by
  have e : (100 : Int32).toInt = 100 := rfl
  have h2 := i32_bd y
  have m : (y / 100 * 100).toInt = -((-y.toInt) / 100) * 100 := by
    rw [Int32.toInt_mul, e, i32_d100 h]
    exact Int.bmod_eq_of_le (by omega) (by omega)
  rw [i32_sub (by omega) (by omega), m]
  omega
theorem i64_d100 {y : Int64} (h : y.toInt ≤ 0) : (y / 100).toInt = -((-y.toInt) / 100) := by
  have e : (100 : Int64).toInt = 100 := rfl
  have h2 := i64_bd y
  rw [Int64.toInt_div, e, neg_tdiv100 h]
  exact Int.bmod_eq_of_le (by omega) (by omega)
theorem i64_r100 {y : Int64} (h : y.toInt ≤ 0) : (y / 100 * 100 - y).toInt32.toInt = -y.toInt - (-y.toInt) / 100 * 100 := by
  have e : (100 : Int64).toInt = 100 := rfl
  have h2 := i64_bd y
  have m : (y / 100 * 100).toInt = -((-y.toInt) / 100) * 100 := by
    rw [Int64.toInt_mul, e, i64_d100 h]
    exact Int.bmod_eq_of_le (by omega) (by omega)
  have s : (y / 100 * 100 - y).toInt = -y.toInt - (-y.toInt) / 100 * 100 := by
    rw [Int64.toInt_sub, m, Int.bmod_eq_of_le (by omega) (by omega)]
    omega
  rw [Int64.toInt_toInt32, s]
  exact Int.bmod_eq_of_le (by omega) (by omega)
theorem i64_i32 {y : Int64} (h : -2147483648 < y.toInt) (h2 : y.toInt ≤ 0) : y.toInt32.toInt = y.toInt := by
  rw [Int64.toInt_toInt32]
  exact Int.bmod_eq_of_le (by omega) (by omega)
theorem i32_m1 {i : Int32} (h : -2147483648 < i.toInt) : (i + -1).toInt = i.toInt - 1 := by
  have h2 := i32_bd i
  have e : (-1 : Int32).toInt = -1 := by decide
  rw [i32_add (by omega) (by omega), e]
  omega
theorem i32_ngl {y : Int32} (h : y.toInt ≤ 0) (h2 : -2147483648 < y.toInt) : (-y).toInt = -y.toInt := by
  rw [Int32.toInt_neg]
  exact Int.bmod_eq_of_le (by omega) (by omega)
theorem i32_ne0 {y : Int32} (h : ¬ y = 0) : ¬ y.toInt = 0 := fun k => h (Int32.toInt_inj.mp k)
theorem p10_3 {kk : Nat} {n : Int} (h : n < (10 : Int) ^ kk) (h2 : 100 ≤ n) : ∃ k', kk = k' + 2 ∧ 1 ≤ k' ∧ n / 100 < (10 : Int) ^ k' := by
  match kk, h with
  | 0, h => have e : (10 : Int) ^ 0 = 1 := rfl
            omega
  | 1, h => have e : (10 : Int) ^ 1 = 10 := rfl
            omega
  | 2, h => have e : (10 : Int) ^ 2 = 100 := rfl
            omega
  | k + 3, h =>
    refine ⟨k + 1, rfl, by omega, ?_⟩
    rw [p10s, p10s] at h
    omega
set_option maxHeartbeats 8000000 in
theorem lJ13_gc86 {x : Int64} {ix : Int32} {d N : Nat} (hN : N ≤ 2000) : ∀ (e kk : Nat) (y cp ng : Int32) (l4 l5 l6 l9 : Option Value) (f : Nat → Int32) (w : Hw), kk ≤ e → 1 ≤ kk → y.toInt ≤ 0 → -((10 : Int) ^ kk) < y.toInt → 0 ≤ ng.toInt → ng.toInt ≤ 1 → kk + ng.toInt ≤ cp.toInt → cp.toInt ≤ (N : Int) → w d = some (.inl (2, N, .inl f)) → bOK N f → DG g w →
    (∀ (f' : Nat → Int32) (v : Int32), bOK N f' → Q (.inl (some (.int v))) (upw w d (.inl (2, N, .inl f')))) → WP (MJ13_getChars_11360 g) Q (86, [some (.long x), none, some (.int ix), some (.ref d), l4, l5, l6, some (.int cp), some (.int ng), l9, some (.int y)], [], w, 0, 0) := by
  intro e
  induction e with
  | zero =>
    intro kk y cp ng l4 l5 l6 l9 f w h1 h2
    exfalso
    omega
  | succ e ih =>
    intro kk y cp ng l4 l5 l6 l9 f w h1 h2 h3 h4 h5 h6 h7 h8 hd hf hD hQ
    obtain ⟨hcs, ⟨a1, f1, g1, g2, g3⟩, ⟨a2, f2, g4, g5, g6⟩⟩ := id hD
    have r1 := rd_r g2 g3
    have r2 := rd_r g5 g6
    have rdd := rd_e (g := g) hd
    have n1 : a1 ≠ d := fun e => by
      rw [e, hd] at g3
      cases g3
    have n2 : a2 ≠ d := fun e => by
      rw [e, hd] at g6
      cases g6
    have e100 : (-100 : Int32).toInt = -100 := by decide
    have e9 : (-9 : Int32).toInt = -9 := by decide
    obtain ⟨p1, hp1⟩ : ∃ p1, cp + -1 = p1 := ⟨_, rfl⟩
    obtain ⟨p2, hp2⟩ : ∃ p2, p1 + -1 = p2 := ⟨_, rfl⟩
    obtain ⟨p3, hp3⟩ : ∃ p3, p2 + -1 = p3 := ⟨_, rfl⟩
    have c1 : p1.toInt = cp.toInt - 1 := by rw [← hp1]; exact i32_m1 (by omega)
    have c2 : p2.toInt = p1.toInt - 1 := by rw [← hp2]; exact i32_m1 (by omega)
    have c3 : p3.toInt = p2.toInt - 1 := by rw [← hp3]; exact i32_m1 (by omega)
    have iv1 : vp_in p1 N := vpiN (by omega) (by omega)
    rw [eJ13_getChars_11360_86]
    simp only [eJ13_getChars_11360_0, eJ13_getChars_11360_9, eJ13_getChars_11360_13, eJ13_getChars_11360_14, eJ13_getChars_11360_21, eJ13_getChars_11360_25, eJ13_getChars_11360_32, eJ13_getChars_11360_37, eJ13_getChars_11360_53, eJ13_getChars_11360_53N, eJ13_getChars_11360_54, eJ13_getChars_11360_62, eJ13_getChars_11360_65, eJ13_getChars_11360_66, eJ13_getChars_11360_66N, eJ13_getChars_11360_67, eJ13_getChars_11360_75, eJ13_getChars_11360_78, eJ13_getChars_11360_79, eJ13_getChars_11360_82, eJ13_getChars_11360_88, eJ13_getChars_11360_93, eJ13_getChars_11360_98, eJ13_getChars_11360_114, eJ13_getChars_11360_114N, eJ13_getChars_11360_115, eJ13_getChars_11360_123, eJ13_getChars_11360_126, eJ13_getChars_11360_127, eJ13_getChars_11360_127N, eJ13_getChars_11360_128, eJ13_getChars_11360_136, eJ13_getChars_11360_139, eJ13_getChars_11360_140, eJ13_getChars_11360_143, eJ13_getChars_11360_143N, eJ13_getChars_11360_144, eJ13_getChars_11360_155, eJ13_getChars_11360_156, eJ13_getChars_11360_157, eJ13_getChars_11360_164, eJ13_getChars_11360_164N, eJ13_getChars_11360_165, eJ13_getChars_11360_176, eJ13_getChars_11360_177, eJ13_getChars_11360_178, eJ13_getChars_11360_183, eJ13_getChars_11360_183N, eJ13_getChars_11360_184, eJ13_getChars_11360_192, ite_le, n45, n54, true_or, or_true, false_or, or_false, false_and, and_false, kx_l, kx_r, go_s, gl_s, gi_s, gb_s2, gb_s3, gq_s, wt_nil, wt_int, wt_long, wt_ref, wt_null, nl_int, nl_long, nl_ref, nl_null, nl_none, rf_n, rf_s, rf_st, tl_s, tl_n, g0, gS, ex1, nb_b, nb_0, nb_1, nf_i, nf_l, nf_ra, nf_ro, nf_na, nf_no, nf_b0, nf_z0, t45_4, t45_5, true_and, and_true, List.set_cons_zero, List.set_cons_succ, List.length_cons, List.length_nil, rd_s, upw_s, ne_eq, not_false_eq_true, Nat.zero_add, Nat.add_zero, if_true, if_false, g1, g4, r1, r2, hd, rdd, bty_2, upw2, rd_n, n1, n2, lg_cmp_gt, lg_cmp_lt, tn100, tn100l, hp1, hp2, hp3]
    split
    · next hy =>
      have hy := i32_lt hy
      have av : vp_in (-y) 100 := vpiN (by rw [i32_ngl h3 (by omega)]; omega) (by rw [i32_ngl h3 (by omega)]; omega)
      refine ⟨av, iv1, ?_⟩
      split
      · next hz =>
        have hz := i32_lt hz
        have k2 : 2 ≤ kk := by
          rcases Nat.lt_or_ge kk 2 with q | q
          · have q1 : kk = 1 := by omega
            subst q1
            have e1 : (10 : Int) ^ 1 = 10 := rfl
            omega
          · exact q
        refine ⟨av, vpiN (by omega) (by omega), ?_⟩
        split
        · repeat' first | with_reducible refine And.intro ?_ ?_ | omega
          refine hQ _ _ ?_
          repeat' first | assumption | apply bOK_up
        · next hng =>
          have := i32_ne0 hng
          refine ⟨vpiN (by omega) (by omega), ?_⟩
          repeat' first | with_reducible refine And.intro ?_ ?_ | omega
          refine hQ _ _ ?_
          repeat' first | assumption | apply bOK_up
      · split
        · repeat' first | with_reducible refine And.intro ?_ ?_ | omega
          refine hQ _ _ ?_
          repeat' first | assumption | apply bOK_up
        · next hng =>
          have := i32_ne0 hng
          refine ⟨vpiN (by omega) (by omega), ?_⟩
          repeat' first | with_reducible refine And.intro ?_ ?_ | omega
          refine hQ _ _ ?_
          repeat' first | assumption | apply bOK_up
    · next hy =>
      have hy := i32_nlt hy
      obtain ⟨k', rfl, k1, k3⟩ := p10_3 (kk := kk) (n := -y.toInt) (by omega) (by omega)
      have rr : vp_in (y / 100 * 100 - y) 100 := vpiN (by rw [i32_r100 h3]; omega) (by rw [i32_r100 h3]; omega)
      refine ⟨rr, iv1, rr, vpiN (by omega) (by omega), ?_⟩
      refine ih k' _ _ _ _ _ _ _ _ _ (by omega) k1 (by rw [i32_d100 h3]; omega) (by rw [i32_d100 h3]; omega) h5 h6 (by omega) (by omega) (upw_s _ _ _) ?_ (hD.upd hd) ?_
      · repeat' first | assumption | apply bOK_up
      · intro f' v hf'
        rw [upw2]
        exact hQ f' v hf'
set_option maxHeartbeats 8000000 in
theorem lJ13_gc24 {ix : Int32} {d N : Nat} (hN : N ≤ 2000) : ∀ (e kk : Nat) (x : Int64) (cp ng : Int32) (l4 l5 l6 : Option Value) (f : Nat → Int32) (w : Hw), kk ≤ e → 1 ≤ kk → x.toInt ≤ 0 → -((10 : Int) ^ kk) < x.toInt → 0 ≤ ng.toInt → ng.toInt ≤ 1 → kk + ng.toInt ≤ cp.toInt → cp.toInt ≤ (N : Int) → w d = some (.inl (2, N, .inl f)) → bOK N f → DG g w →
    (∀ (f' : Nat → Int32) (v : Int32), bOK N f' → Q (.inl (some (.int v))) (upw w d (.inl (2, N, .inl f')))) → WP (MJ13_getChars_11360 g) Q (24, [some (.long x), none, some (.int ix), some (.ref d), l4, l5, l6, some (.int cp), some (.int ng), none, none], [], w, 0, 0) := by
  intro e
  induction e with
  | zero =>
    intro kk x cp ng l4 l5 l6 f w h1 h2
    exfalso
    omega
  | succ e ih =>
    intro kk x cp ng l4 l5 l6 f w h1 h2 h3 h4 h5 h6 h7 h8 hd hf hD hQ
    obtain ⟨hcs, ⟨a1, f1, g1, g2, g3⟩, ⟨a2, f2, g4, g5, g6⟩⟩ := id hD
    have r1 := rd_r g2 g3
    have r2 := rd_r g5 g6
    have rdd := rd_e (g := g) hd
    have n1 : a1 ≠ d := fun e => by
      rw [e, hd] at g3
      cases g3
    have n2 : a2 ≠ d := fun e => by
      rw [e, hd] at g6
      cases g6
    have emin : (-2147483648 : Int64).toInt = -2147483648 := by decide
    obtain ⟨p1, hp1⟩ : ∃ p1, cp + -1 = p1 := ⟨_, rfl⟩
    obtain ⟨p2, hp2⟩ : ∃ p2, p1 + -1 = p2 := ⟨_, rfl⟩
    have c1 : p1.toInt = cp.toInt - 1 := by rw [← hp1]; exact i32_m1 (by omega)
    have c2 : p2.toInt = p1.toInt - 1 := by rw [← hp2]; exact i32_m1 (by omega)
    have iv1 : vp_in p1 N := vpiN (by omega) (by omega)
    rw [eJ13_getChars_11360_24]
    simp only [eJ13_getChars_11360_0, eJ13_getChars_11360_9, eJ13_getChars_11360_13, eJ13_getChars_11360_14, eJ13_getChars_11360_21, eJ13_getChars_11360_25, eJ13_getChars_11360_32, eJ13_getChars_11360_37, eJ13_getChars_11360_53, eJ13_getChars_11360_53N, eJ13_getChars_11360_54, eJ13_getChars_11360_62, eJ13_getChars_11360_65, eJ13_getChars_11360_66, eJ13_getChars_11360_66N, eJ13_getChars_11360_67, eJ13_getChars_11360_75, eJ13_getChars_11360_78, eJ13_getChars_11360_79, eJ13_getChars_11360_82, eJ13_getChars_11360_88, eJ13_getChars_11360_93, eJ13_getChars_11360_98, eJ13_getChars_11360_114, eJ13_getChars_11360_114N, eJ13_getChars_11360_115, eJ13_getChars_11360_123, eJ13_getChars_11360_126, eJ13_getChars_11360_127, eJ13_getChars_11360_127N, eJ13_getChars_11360_128, eJ13_getChars_11360_136, eJ13_getChars_11360_139, eJ13_getChars_11360_140, eJ13_getChars_11360_143, eJ13_getChars_11360_143N, eJ13_getChars_11360_144, eJ13_getChars_11360_155, eJ13_getChars_11360_156, eJ13_getChars_11360_157, eJ13_getChars_11360_164, eJ13_getChars_11360_164N, eJ13_getChars_11360_165, eJ13_getChars_11360_176, eJ13_getChars_11360_177, eJ13_getChars_11360_178, eJ13_getChars_11360_183, eJ13_getChars_11360_183N, eJ13_getChars_11360_184, eJ13_getChars_11360_192, ite_le, n45, n54, true_or, or_true, false_or, or_false, false_and, and_false, kx_l, kx_r, go_s, gl_s, gi_s, gb_s2, gb_s3, gq_s, wt_nil, wt_int, wt_long, wt_ref, wt_null, nl_int, nl_long, nl_ref, nl_null, nl_none, rf_n, rf_s, rf_st, tl_s, tl_n, g0, gS, ex1, nb_b, nb_0, nb_1, nf_i, nf_l, nf_ra, nf_ro, nf_na, nf_no, nf_b0, nf_z0, t45_4, t45_5, true_and, and_true, List.set_cons_zero, List.set_cons_succ, List.length_cons, List.length_nil, rd_s, upw_s, ne_eq, not_false_eq_true, Nat.zero_add, Nat.add_zero, if_true, if_false, g1, g4, r1, r2, hd, rdd, bty_2, upw2, rd_n, n1, n2, lg_cmp_gt, lg_cmp_lt, tn100, tn100l, hp1, hp2]
    split
    · next hy =>
      have hy := i64_lt hy
      have ey := i64_i32 (y := x) (by omega) h3
      exact lJ13_gc86 hN kk kk _ _ _ _ _ _ _ _ _ (Nat.le_refl _) h2 (by omega) (by omega) h5 h6 h7 h8 hd hf hD hQ
    · next hy =>
      have hy := i64_nlt hy
      obtain ⟨k', rfl, k1, k3⟩ := p10_3 (kk := kk) (n := -x.toInt) (by omega) (by omega)
      have rr : vp_in (x / 100 * 100 - x).toInt32 100 := vpiN (by rw [i64_r100 h3]; omega) (by rw [i64_r100 h3]; omega)
      refine ⟨rr, iv1, rr, vpiN (by omega) (by omega), ?_⟩
      refine ih k' _ _ _ _ _ _ _ _ (by omega) k1 (by rw [i64_d100 h3]; omega) (by rw [i64_d100 h3]; omega) h5 h6 (by omega) (by omega) (upw_s _ _ _) ?_ (hD.upd hd) ?_
      · repeat' first | assumption | apply bOK_up
      · intro f' v hf'
        rw [upw2]
        exact hQ f' v hf'
set_option maxHeartbeats 4000000 in
theorem sJ13_getChars_11360 {a : Int64} {ix : Int32} {d N kk : Nat} {f : Nat → Int32} (hN : N ≤ 2000) (k1 : 1 ≤ kk) (ha : -((10 : Int) ^ kk) < a.toInt) (hb : a.toInt < (10 : Int) ^ kk) (hi : kk + (if a.toInt < 0 then 1 else 0) ≤ ix.toInt) (hi2 : ix.toInt ≤ (N : Int)) (hd : w d = some (.inl (2, N, .inl f))) (hf : bOK N f) (hD : DG g w) (hQ : ∀ (f' : Nat → Int32) (v : Int32), bOK N f' → Q (.inl (some (.int v))) (upw w d (.inl (2, N, .inl f')))) : WP (MJ13_getChars_11360 g) Q (0, [some (.long a), none, some (.int ix), some (.ref d), none, none, none, none, none, none, none], [], w, 0, 0) := by
  have z0 : (0 : Int64).toInt = 0 := rfl
  have e1 : (1 : Int32).toInt = 1 := rfl
  have e0 : (0 : Int32).toInt = 0 := rfl
  have t1 : ((1 : Int32) = 0) = False := eq_false (by decide)
  simp only [eJ13_getChars_11360_0, eJ13_getChars_11360_9, eJ13_getChars_11360_13, eJ13_getChars_11360_14, eJ13_getChars_11360_21, eJ13_getChars_11360_25, eJ13_getChars_11360_32, eJ13_getChars_11360_37, eJ13_getChars_11360_53, eJ13_getChars_11360_53N, eJ13_getChars_11360_54, eJ13_getChars_11360_62, eJ13_getChars_11360_65, eJ13_getChars_11360_66, eJ13_getChars_11360_66N, eJ13_getChars_11360_67, eJ13_getChars_11360_75, eJ13_getChars_11360_78, eJ13_getChars_11360_79, eJ13_getChars_11360_82, eJ13_getChars_11360_88, eJ13_getChars_11360_93, eJ13_getChars_11360_98, eJ13_getChars_11360_114, eJ13_getChars_11360_114N, eJ13_getChars_11360_115, eJ13_getChars_11360_123, eJ13_getChars_11360_126, eJ13_getChars_11360_127, eJ13_getChars_11360_127N, eJ13_getChars_11360_128, eJ13_getChars_11360_136, eJ13_getChars_11360_139, eJ13_getChars_11360_140, eJ13_getChars_11360_143, eJ13_getChars_11360_143N, eJ13_getChars_11360_144, eJ13_getChars_11360_155, eJ13_getChars_11360_156, eJ13_getChars_11360_157, eJ13_getChars_11360_164, eJ13_getChars_11360_164N, eJ13_getChars_11360_165, eJ13_getChars_11360_176, eJ13_getChars_11360_177, eJ13_getChars_11360_178, eJ13_getChars_11360_183, eJ13_getChars_11360_183N, eJ13_getChars_11360_184, eJ13_getChars_11360_192, ite_le, n45, n54, true_or, or_true, false_or, or_false, false_and, and_false, kx_l, kx_r, go_s, gl_s, gi_s, gb_s2, gb_s3, gq_s, wt_nil, wt_int, wt_long, wt_ref, wt_null, nl_int, nl_long, nl_ref, nl_null, nl_none, rf_n, rf_s, rf_st, tl_s, tl_n, g0, gS, ex1, nb_b, nb_0, nb_1, nf_i, nf_l, nf_ra, nf_ro, nf_na, nf_no, nf_b0, nf_z0, t45_4, t45_5, true_and, and_true, List.set_cons_zero, List.set_cons_succ, List.length_cons, List.length_nil, rd_s, upw_s, ne_eq, not_false_eq_true, Nat.zero_add, Nat.add_zero, if_true, if_false, lg_cmp_gt, lg_cmp_lt, t1]
  split
  · next h =>
    have h1 := i64_lt h
    rw [if_pos (by omega)] at hi
    exact lJ13_gc24 hN kk kk _ _ _ _ _ _ _ _ (Nat.le_refl _) k1 (by omega) ha (by decide) (by decide) (by omega) hi2 hd hf hD hQ
  · next h =>
    have h1 := i64_nlt h
    have hn : (-a).toInt = -a.toInt := i64_neg (by omega)
    rw [if_neg (by omega)] at hi
    exact lJ13_gc24 hN kk kk _ _ _ _ _ _ _ _ (Nat.le_refl _) k1 (by omega) (by omega) (by decide) (by decide) (by omega) hi2 hd hf hD hQ
end
end
