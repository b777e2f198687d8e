section
section
variable {g : RO} {Q : Ot → Hw → Prop} {w0 w : Hw} {y nM : Nat} {kd th : Int32} {s : AS}
theorem itx {c : Prop} {i : Decidable c} {A B : Prop} (h1 : c → A) (h2 : ¬ c → B) : @ite Prop c i A B := by
  by_cases h : c
  · rw [if_pos h]
    exact h1 h
  · rw [if_neg h]
    exact h2 h
theorem n00x {P : Prop} (h : ¬ (0 : Int32) = 0) : P := absurd rfl h
theorem lt8m {a : Int32} (h : ¬ 7 < a) : a < 8 := by
  have k := i32_nlt h
  have e7 : (7 : Int32).toInt = 7 := rfl
  have e8 : (8 : Int32).toInt = 8 := rfl
  exact i32_of_lt (by omega)
theorem lt6m {a : Int32} (h : ¬ 5 < a) : a < 6 := by
  have k := i32_nlt h
  have e7 : (5 : Int32).toInt = 5 := rfl
  have e8 : (6 : Int32).toInt = 6 := rfl
  exact i32_of_lt (by omega)
theorem nokN {a : Int32} (h : a < 0 ∨ 7 < a) : ¬ okN a := fun k => by
  rcases h with h | h
  · exact k.1 h
  · have q := i32_lt h
    have q2 := i32_lt k.2
    have e7 : (7 : Int32).toInt = 7 := rfl
    have e8 : (8 : Int32).toInt = 8 := rfl
    omega
theorem nokC {a : Int32} (h : a < 0 ∨ 5 < a) : ¬ okC a := fun k => by
  rcases h with h | h
  · exact k.1 h
  · have q := i32_lt h
    have q2 := i32_lt k.2
    have e7 : (5 : Int32).toInt = 5 := rfl
    have e8 : (6 : Int32).toInt = 6 := rfl
    omega
theorem nokW {a m : Int32} (h : a < 0 ∨ m < a) : ¬ okW a m := fun k => h.elim k.1 k.2
theorem vpi8k {a : Int32} (h : okN a) : vp_in a 8 := vpi8 h.1 h.2
theorem vpi4k {a : Int32} (h : okW a 3) : vp_in a 4 := vpi4n h.1 h.2
theorem tdE (V : Int) : V.tdiv 4294967296 = if 0 ≤ V then V / 4294967296 else -((-V) / 4294967296) := by
  split
  · rename_i h
    exact Int.tdiv_eq_ediv_of_nonneg h
  · rename_i h
    obtain ⟨W, e⟩ : ∃ W, V = -W := ⟨-V, by omega⟩
    subst e
    rw [Int.neg_tdiv, Int.tdiv_eq_ediv_of_nonneg (by omega), Int.neg_neg]
theorem eT : (4294967296 : Int64).toInt = 4294967296 := by decide
theorem jadd {x y : Int64} (h1 : -9223372036854775808 ≤ x.toInt + y.toInt) (h2 : x.toInt + y.toInt < 9223372036854775808) : (x + y).toInt = x.toInt + y.toInt := by
  rw [Int64.toInt_add]
  exact Int.bmod_eq_of_le (by omega) (by omega)
theorem jsub {x y : Int64} (h1 : -9223372036854775808 ≤ x.toInt - y.toInt) (h2 : x.toInt - y.toInt < 9223372036854775808) : (x - y).toInt = x.toInt - y.toInt := by
  rw [Int64.toInt_sub]
  exact Int.bmod_eq_of_le (by omega) (by omega)
theorem jint {x : Int64} (h1 : -2147483648 ≤ x.toInt) (h2 : x.toInt < 2147483648) : x.toInt32.toInt = x.toInt := by
  rw [Int64.toInt_toInt32]
  exact Int.bmod_eq_of_le (by omega) (by omega)
theorem muT {x : Int64} (h1 : -2147483648 ≤ x.toInt) (h2 : x.toInt < 2147483648) : (x * 4294967296).toInt = x.toInt * 4294967296 := by
  rw [Int64.toInt_mul, eT]
  exact Int.bmod_eq_of_le (by omega) (by omega)
theorem dvT {x : Int64} : (x / 4294967296).toInt = if 0 ≤ x.toInt then x.toInt / 4294967296 else -((-x.toInt) / 4294967296) := by
  rw [Int64.toInt_div_of_ne_right _ _ (by decide), eT, tdE]
theorem rmT {x : Int64} : (x - x / 4294967296 * 4294967296).toInt = if 0 ≤ x.toInt then x.toInt % 4294967296 else -((-x.toInt) % 4294967296) := by
  have l0 : -9223372036854775808 ≤ x.toInt := x.le_toInt
  have l1 : x.toInt < 9223372036854775808 := x.toInt_lt
  have d := dvT (x := x)
  have b : -2147483648 ≤ (x / 4294967296).toInt ∧ (x / 4294967296).toInt < 2147483648 := by
    rw [d]
    split <;> omega
  have m := muT b.1 b.2
  rw [d] at m
  have q : (x - x / 4294967296 * 4294967296).toInt = x.toInt - (x / 4294967296 * 4294967296).toInt := jsub (by rw [m]; split <;> omega) (by rw [m]; split <;> omega)
  rw [q, m]
  split <;> omega
/-- the lower half, not below 0 -/
theorem mdT {v : Int64} : ((v - v / 4294967296 * 4294967296 + 4294967296) - (v - v / 4294967296 * 4294967296 + 4294967296) / 4294967296 * 4294967296).toInt = v.toInt % 4294967296 := by
  have h1 := rmT (x := v)
  obtain ⟨x1, e1⟩ : ∃ x1, v - v / 4294967296 * 4294967296 = x1 := ⟨_, rfl⟩
  rw [e1] at h1 ⊢
  have b : -4294967296 < x1.toInt ∧ x1.toInt < 4294967296 := by
    rw [h1]
    split <;> omega
  have h2 : (x1 + 4294967296).toInt = x1.toInt + 4294967296 := by
    rw [jadd (by rw [eT]; omega) (by rw [eT]; omega), eT]
  have h3 := rmT (x := x1 + 4294967296)
  rw [h2, if_pos (by omega)] at h3
  rw [h3, h1]
  split <;> omega
theorem shT {v : Int64} : (v >>> ((32 : Int32).toInt64 &&& 63)).toInt = v.toInt / 4294967296 := by
  have e : (((32 : Int32).toInt64 &&& 63).toBitVec.smod 64) = 32#64 := by decide
  show (v.toBitVec.sshiftRight' (((32 : Int32).toInt64 &&& 63).toBitVec.smod 64)).toInt = _
  rw [e, BitVec.toInt_sshiftRight', Int.shiftRight_eq_div_pow]
  rfl
theorem hiE {v : Int64} : ((v - ((v - v / 4294967296 * 4294967296 + 4294967296) - (v - v / 4294967296 * 4294967296 + 4294967296) / 4294967296 * 4294967296)) / 4294967296).toInt32 = hiV v := by
  have m := mdT (v := v)
  obtain ⟨x2, e2⟩ : ∃ x2, (v - v / 4294967296 * 4294967296 + 4294967296) - (v - v / 4294967296 * 4294967296 + 4294967296) / 4294967296 * 4294967296 = x2 := ⟨_, rfl⟩
  rw [e2] at m ⊢
  have l0 : -9223372036854775808 ≤ v.toInt := v.le_toInt
  have l1 : v.toInt < 9223372036854775808 := v.toInt_lt
  have h1 : (v - x2).toInt = v.toInt - v.toInt % 4294967296 := by
    rw [jsub (by rw [m]; omega) (by rw [m]; omega), m]
  have h2 := dvT (x := v - x2)
  rw [h1] at h2
  have h4 : ((v - x2) / 4294967296).toInt = v.toInt / 4294967296 := by
    rw [h2]
    split <;> omega
  have h3 := shT (v := v)
  apply Int32.toInt_inj.mp
  unfold hiV
  rw [jint (by rw [h4]; omega) (by rw [h4]; omega), jint (by rw [h3]; omega) (by rw [h3]; omega), h4, h3]
theorem loE {v : Int64} : ((v - v / 4294967296 * 4294967296 + 4294967296) - (v - v / 4294967296 * 4294967296 + 4294967296) / 4294967296 * 4294967296).toInt32 = loV v := by
  apply Int32.toInt_inj.mp
  unfold loV
  rw [Int64.toInt_toInt32, Int64.toInt_toInt32, mdT]
  have t : ((2 ^ 32 : Nat) : Int) = 4294967296 := by decide
  rw [← t]
  exact Int.emod_bmod ..
theorem loS {x : Int64} (h : -9223372032559808512 ≤ x.toInt) : (x - 4294967296).toInt32 = x.toInt32 := by
  apply Int32.toInt_inj.mp
  rw [Int64.toInt_toInt32, Int64.toInt_toInt32, jsub (by rw [eT]; omega) (by rw [eT]; have : x.toInt < 9223372036854775808 := x.toInt_lt; omega), eT]
  have t : ((2 ^ 32 : Nat) : Int) = 4294967296 := by decide
  rw [← t]
  exact Int.sub_bmod_right ..
theorem loE2 {v : Int64} : (((v - v / 4294967296 * 4294967296 + 4294967296) - (v - v / 4294967296 * 4294967296 + 4294967296) / 4294967296 * 4294967296) - 4294967296).toInt32 = loV v := by
  rw [loS (by rw [mdT]; omega), loE]
theorem slT {x : Int64} : x <<< ((32 : Int32).toInt64 &&& 63) = x * 4294967296 := by
  apply Int64.toBitVec_inj.mp
  have e : (((32 : Int32).toInt64 &&& 63).toBitVec.smod 64) = 32#64 := by decide
  show x.toBitVec <<< (((32 : Int32).toInt64 &&& 63).toBitVec.smod 64) = x.toBitVec * 4294967296#64
  rw [e]
  show x.toBitVec <<< (32 : Nat) = _
  rw [BitVec.shiftLeft_eq_mul_twoPow]
  rfl
theorem mkT {x : Int64} : (x &&& 4294967295).toInt = x.toInt % 4294967296 := by
  have e1 : (x &&& 4294967295).toBitVec.toNat = x.toBitVec.toNat % 4294967296 := by
    show (x.toBitVec &&& 4294967295#64).toNat = _
    rw [BitVec.toNat_and]
    exact Nat.and_two_pow_sub_one_eq_mod _ 32
  have e2 : (x &&& 4294967295).toInt = (x &&& 4294967295).toBitVec.toInt := rfl
  have e3 : x.toInt = x.toBitVec.toInt := rfl
  have lt := x.toBitVec.isLt
  rw [e2, e3, BitVec.toInt_eq_toNat_cond, BitVec.toInt_eq_toNat_cond, e1]
  split <;> split <;> omega
theorem stA {a b : BitVec 64} : (a <<< (32 : Nat)) &&& (b &&& 4294967295#64) = 0#64 := by
  apply BitVec.eq_of_getLsbD_eq
  intro i hi
  have e : (4294967295#64).getLsbD i = decide (i < 32) := Nat.testBit_two_pow_sub_one 32 i
  rw [BitVec.getLsbD_and, BitVec.getLsbD_and, BitVec.getLsbD_shiftLeft, e]
  by_cases h : i < 32 <;> simp [h]
theorem stO {h l : Int32} : stV h l = h.toInt64 * 4294967296 + (l.toInt64 &&& 4294967295) := by
  rw [← slT]
  apply Int64.toBitVec_inj.mp
  unfold stV
  have e : (((32 : Int32).toInt64 &&& 63).toBitVec.smod 64) = 32#64 := by decide
  show (h.toInt64.toBitVec <<< (((32 : Int32).toInt64 &&& 63).toBitVec.smod 64)) ||| (l.toInt64.toBitVec &&& 4294967295#64) = (h.toInt64.toBitVec <<< (((32 : Int32).toInt64 &&& 63).toBitVec.smod 64)) + (l.toInt64.toBitVec &&& 4294967295#64)
  rw [e]
  exact (BitVec.add_eq_or_of_and_eq_zero _ _ (stA (a := h.toInt64.toBitVec) (b := l.toInt64.toBitVec))).symm
theorem i64i (x : Int32) : x.toInt64.toInt = x.toInt := Int32.toInt_toInt64 x
theorem stI {h l : Int32} : (stV h l).toInt = h.toInt * 4294967296 + l.toInt % 4294967296 := by
  have b0 : -2147483648 ≤ h.toInt := h.le_toInt
  have b1 : h.toInt < 2147483648 := h.toInt_lt
  have a1 := muT (x := h.toInt64) (by rw [i64i]; exact b0) (by rw [i64i]; exact b1)
  have a2 := mkT (x := l.toInt64)
  rw [i64i] at a1 a2
  rw [stO, jadd (by rw [a1, a2]; omega) (by rw [a1, a2]; omega), a1, a2]
theorem stN {h l : Int32} (k : l < 0) : h.toInt64 * 4294967296 + (l.toInt64 + 4294967296) = stV h l := by
  apply Int64.toInt_inj.mp
  have b0 : -2147483648 ≤ h.toInt := h.le_toInt
  have b1 : h.toInt < 2147483648 := h.toInt_lt
  have c0 : -2147483648 ≤ l.toInt := l.le_toInt
  have k1 := i32_lt k
  have e0 : (0 : Int32).toInt = 0 := rfl
  have m := muT (x := h.toInt64) (by rw [i64i]; exact b0) (by rw [i64i]; exact b1)
  rw [i64i] at m
  have a : (l.toInt64 + 4294967296).toInt = l.toInt + 4294967296 := by rw [jadd (by rw [i64i, eT]; omega) (by rw [i64i, eT]; omega), i64i, eT]
  rw [stI, jadd (by rw [m, a]; omega) (by rw [m, a]; omega), m, a]
  omega
theorem stP {h l : Int32} (k : ¬ l < 0) : h.toInt64 * 4294967296 + l.toInt64 = stV h l := by
  apply Int64.toInt_inj.mp
  have b0 : -2147483648 ≤ h.toInt := h.le_toInt
  have b1 : h.toInt < 2147483648 := h.toInt_lt
  have c0 : l.toInt < 2147483648 := l.toInt_lt
  have k1 := i32_nlt k
  have e0 : (0 : Int32).toInt = 0 := rfl
  have m := muT (x := h.toInt64) (by rw [i64i]; exact b0) (by rw [i64i]; exact b1)
  rw [i64i] at m
  rw [stI, jadd (by rw [m, i64i]; omega) (by rw [m, i64i]; omega), m, i64i]
  omega
theorem hfV_e {a : Int64} {h : Int32} (k : h = 0) : hfV a h = loV a := if_pos k
set_option maxHeartbeats 4000000 in
theorem fX3_isIn {a b c : Int32} (h1 : ¬ a < b → ¬ c < a → Q (.inl (some (.int 1))) w) (h0 : (a < b ∨ c < a) → Q (.inl (some (.int 0))) w) : WP (MX3_isIn g) Q (0, [some (.int a), some (.int b), some (.int c)], [], w, 0, 0) := by
  simp only [eX3_isIn_0, eX3_isIn_5, eX3_isIn_10, eX3_isIn_14, eX3_isIn_15, nb_0, nb_1, true_and]
  with_reducible refine itx (fun _ => ?_) (fun _ => ?_)
  with_reducible refine And.intro ?_ ?_
  omega
  with_reducible refine And.intro ?_ ?_
  omega
  with_reducible exact h0 (Or.inl (by assumption))
  with_reducible refine itx (fun _ => ?_) (fun _ => ?_)
  with_reducible refine And.intro ?_ ?_
  omega
  with_reducible refine And.intro ?_ ?_
  omega
  with_reducible exact h0 (Or.inr (by assumption))
  with_reducible refine And.intro ?_ ?_
  omega
  with_reducible refine And.intro ?_ ?_
  omega
  with_reducible exact h1 (by assumption) (by assumption)
set_option maxHeartbeats 4000000 in
theorem fX3_isNoNumber {a : Int32} (h1 : ¬ okN a → Q (.inl (some (.int 1))) w) (h0 : okN a → Q (.inl (some (.int 0))) w) : WP (MX3_isNoNumber g) Q (0, [some (.int a)], [], w, 0, 0) := by
  simp only [eX3_isNoNumber_0, wt_nil, Nat.add_zero]
  with_reducible refine And.intro ?_ ?_
  omega
  with_reducible refine And.intro ?_ ?_
  omega
  with_reducible refine And.intro ?_ ?_
  omega
  with_reducible refine fX3_isIn (fun _ _ => ?_) (fun _ => ?_)
  simp only [eX3_isNoNumber_7, eX3_isNoNumber_10, eX3_isNoNumber_14, eX3_isNoNumber_15, i10, if_false, kx_l, tl_s, nb_0, nb_1, true_and]
  with_reducible refine And.intro ?_ ?_
  omega
  with_reducible refine And.intro ?_ ?_
  omega
  with_reducible exact h0 ⟨by assumption, lt8m (by assumption)⟩
  simp only [eX3_isNoNumber_7, eX3_isNoNumber_10, eX3_isNoNumber_14, eX3_isNoNumber_15, if_true, kx_l, tl_s, nb_0, nb_1, true_and]
  with_reducible refine And.intro ?_ ?_
  omega
  with_reducible refine And.intro ?_ ?_
  omega
  with_reducible exact h1 (nokN (by assumption))
set_option maxHeartbeats 4000000 in
theorem fX3_isNoCard {a : Int32} (h1 : ¬ okC a → Q (.inl (some (.int 1))) w) (h0 : okC a → Q (.inl (some (.int 0))) w) : WP (MX3_isNoCard g) Q (0, [some (.int a)], [], w, 0, 0) := by
  simp only [eX3_isNoCard_0, wt_nil, Nat.add_zero]
  with_reducible refine And.intro ?_ ?_
  omega
  with_reducible refine And.intro ?_ ?_
  omega
  with_reducible refine And.intro ?_ ?_
  omega
  with_reducible refine fX3_isIn (fun _ _ => ?_) (fun _ => ?_)
  simp only [eX3_isNoCard_6, eX3_isNoCard_9, eX3_isNoCard_13, eX3_isNoCard_14, i10, if_false, kx_l, tl_s, nb_0, nb_1, true_and]
  with_reducible refine And.intro ?_ ?_
  omega
  with_reducible refine And.intro ?_ ?_
  omega
  with_reducible exact h0 ⟨by assumption, lt6m (by assumption)⟩
  simp only [eX3_isNoCard_6, eX3_isNoCard_9, eX3_isNoCard_13, eX3_isNoCard_14, if_true, kx_l, tl_s, nb_0, nb_1, true_and]
  with_reducible refine And.intro ?_ ?_
  omega
  with_reducible refine And.intro ?_ ?_
  omega
  with_reducible exact h1 (nokC (by assumption))
set_option maxHeartbeats 4000000 in
theorem fX3_isNoEnd {a : Int32} (h1 : ¬ okW a 3 → Q (.inl (some (.int 1))) w) (h0 : okW a 3 → Q (.inl (some (.int 0))) w) : WP (MX3_isNoEnd g) Q (0, [some (.int a)], [], w, 0, 0) := by
  simp only [eX3_isNoEnd_0, wt_nil, Nat.add_zero]
  with_reducible refine And.intro ?_ ?_
  omega
  with_reducible refine And.intro ?_ ?_
  omega
  with_reducible refine And.intro ?_ ?_
  omega
  with_reducible refine fX3_isIn (fun _ _ => ?_) (fun _ => ?_)
  simp only [eX3_isNoEnd_6, eX3_isNoEnd_9, eX3_isNoEnd_13, eX3_isNoEnd_14, i10, if_false, kx_l, tl_s, nb_0, nb_1, true_and]
  with_reducible refine And.intro ?_ ?_
  omega
  with_reducible refine And.intro ?_ ?_
  omega
  with_reducible exact h0 ⟨by assumption, by assumption⟩
  simp only [eX3_isNoEnd_6, eX3_isNoEnd_9, eX3_isNoEnd_13, eX3_isNoEnd_14, if_true, kx_l, tl_s, nb_0, nb_1, true_and]
  with_reducible refine And.intro ?_ ?_
  omega
  with_reducible refine And.intro ?_ ?_
  omega
  with_reducible exact h1 (nokW (by assumption))
theorem MF.op (h : MF g w y nM kd th s) : ∃ cL pL : Nat, w y = some (.inr (7, [.int th, .ref nM, .ref cL, .ref pL, .int s.2.2.2.2.1, .int kd, .int s.2.2.2.2.2])) ∧ rd g w y = some (.inr (7, [.int th, .ref nM, .ref cL, .ref pL, .int s.2.2.2.2.1, .int kd, .int s.2.2.2.2.2])) := by
  obtain ⟨cL, pL, D1, D2, c1, c2, h1, h2, a1, -⟩ := h
  exact ⟨cL, pL, a1, rd_e a1⟩
set_option maxHeartbeats 4000000 in
theorem fX3_refuse {a c : Int32} (hM : MS g w0 y nM kd 0 s w) (hc : 0 < c) (h0 : a = 0 → Q (.inl (some (.int 0))) w) (h1 : ¬ a = 0 → ∀ w', MS g w0 y nM kd c s w' → Q (.inl (some (.int 1))) w') : WP (MX3_refuse g) Q (0, [some (.ref y), some (.int a), some (.int c)], [], w, 0, 0) := by
  obtain ⟨cL, pL, hy, ry⟩ := hM.1.op
  have q1 : (c ≤ 0) = False := eq_false (fun h => absurd hc (Int32.not_lt.mpr h))
  have q2 : ((0 : Int32) ≤ 0) = True := eq_true (Int32.le_refl _)
  have q3 : ((0 : Int32) < 0) = False := eq_false (by decide)
  have q4 : (0 < c) = True := eq_true hc
  simp only [eX3_refuse_0, eX3_refuse_4, eX3_refuse_8, eX3_refuse_11, eX3_refuse_16, eX3_refuse_20, eX3_refuse_23, eX3_refuse_27, eX3_refuse_28, if_true, if_false, hy, ry, q1, q2, go_s, g0, ex1, nb_0, nb_1, nf_i, true_and, List.set_cons_zero, List.length_cons, List.length_nil, rd_s, Nat.zero_add]
  with_reducible refine itx (fun _ => ?_) (fun _ => ?_)
  with_reducible refine And.intro ?_ ?_
  omega
  with_reducible refine And.intro ?_ ?_
  omega
  with_reducible exact h0 (by assumption)
  with_reducible refine And.intro ?_ ?_
  omega
  with_reducible refine And.intro ?_ ?_
  omega
  with_reducible refine And.intro ?_ ?_
  omega
  ((with_reducible refine isQ (Q := Q) ?_); exact h1 (by assumption) _ (hM.set hy))
set_option maxHeartbeats 4000000 in
theorem fX3_start {a c : Int32} (hM : MS g w0 y nM kd th s w) (hc : 0 < c) (h0 : a = 0 → ∀ w', MS g w0 y nM kd 0 s w' → Q (.inl (some (.int 0))) w') (h1 : ¬ a = 0 → ∀ w', MS g w0 y nM kd c s w' → Q (.inl (some (.int 1))) w') : WP (MX3_start g) Q (0, [some (.ref y), some (.int a), some (.int c)], [], w, 0, 0) := by
  obtain ⟨cL, pL, hy, ry⟩ := hM.1.op
  have hz : MS g w0 y nM kd 0 s (upw w y (.inr (7, [.int 0, .ref nM, .ref cL, .ref pL, .int s.2.2.2.2.1, .int kd, .int s.2.2.2.2.2]))) := hM.set hy
  simp only [eX3_start_0, eX3_start_5, hy, go_s, wt_nil, nf_i, true_and, List.set_cons_zero, List.length_cons, List.length_nil, rd_s, Nat.zero_add, Nat.add_zero]
  with_reducible refine And.intro ?_ ?_
  omega
  with_reducible refine And.intro ?_ ?_
  omega
  with_reducible refine And.intro ?_ ?_
  omega
  with_reducible refine And.intro ?_ ?_
  omega
  with_reducible refine fX3_refuse hz hc (fun _ => ?_) (fun _ _ _ => ?_)
  simp only [eX3_start_11, kx_l, tl_s, nb_0, true_and]
  with_reducible refine And.intro ?_ ?_
  omega
  with_reducible refine And.intro ?_ ?_
  omega
  with_reducible exact h0 (by assumption) _ hz
  simp only [eX3_start_11, kx_l, tl_s, nb_1, true_and]
  with_reducible refine And.intro ?_ ?_
  omega
  with_reducible refine And.intro ?_ ?_
  omega
  with_reducible exact h1 (by assumption) _ (by assumption)
set_option maxHeartbeats 4000000 in
theorem fX3_no  (hM : MS g w0 y nM kd th s w) (hQ : ∀ w', MS g w0 y nM kd th (sRf s) w' → Q (.inl (some (.int (-9)))) w') : WP (MX3_no g) Q (0, [some (.ref y)], [], w, 0, 0) := by
  obtain ⟨cL, pL, hy, ry⟩ := hM.1.op
  simp only [eX3_no_0, eX3_no_5, eX3_no_10, hy, ry, go_s, g0, gS, ex1, nf_i, true_and, List.set_cons_zero, List.set_cons_succ, List.length_cons, List.length_nil, Nat.zero_add]
  with_reducible refine And.intro ?_ ?_
  omega
  with_reducible refine And.intro ?_ ?_
  omega
  with_reducible refine And.intro ?_ ?_
  omega
  ((with_reducible refine isQ (Q := Q) ?_); exact hQ _ (hM.set hy))
set_option maxHeartbeats 4000000 in
theorem fX3_knock  (hM : MS g w0 y nM kd th s w) (hQ : ∀ w', MS g w0 y nM (kd + 1) 0 s w' → Q (.inl (some (.int (kd + 1)))) w') : WP (MX3_knock g) Q (0, [some (.ref y)], [], w, 0, 0) := by
  obtain ⟨cL, pL, hy, ry⟩ := hM.1.op
  simp only [eX3_knock_0, eX3_knock_5, eX3_knock_10, eX3_knock_15, eX3_knock_19, upw2q, hy, go_s, g0, gS, ex1, nf_i, true_and, List.set_cons_zero, List.set_cons_succ, List.length_cons, List.length_nil, rd_s, upw_s, Nat.zero_add]
  with_reducible refine And.intro ?_ ?_
  omega
  with_reducible refine And.intro ?_ ?_
  omega
  with_reducible refine And.intro ?_ ?_
  omega
  with_reducible refine And.intro ?_ ?_
  omega
  ((with_reducible refine isQ (Q := Q) ?_); exact hQ _ (hM.set hy))
set_option maxHeartbeats 4000000 in
theorem fX3_isSound  (hM : MS g w0 y nM kd th s w) (hQ : ∀ w', MS g w0 y nM kd 0 s w' → Q (.inl (some (.int 1))) w') : WP (MX3_isSound g) Q (0, [some (.ref y)], [], w, 0, 0) := by
  obtain ⟨cL, pL, hy, ry⟩ := hM.1.op
  simp only [eX3_isSound_0, eX3_isSound_5, hy, go_s, nb_1, nf_i, true_and, List.set_cons_zero, List.length_cons, List.length_nil, Nat.zero_add]
  with_reducible refine And.intro ?_ ?_
  omega
  with_reducible refine And.intro ?_ ?_
  omega
  with_reducible refine And.intro ?_ ?_
  omega
  ((with_reducible refine isQ (Q := Q) ?_); exact hQ _ (hM.set hy))
set_option maxHeartbeats 4000000 in
theorem fX3_thrown  (hM : MS g w0 y nM kd th s w) (hQ : Q (.inl (some (.int th))) w) : WP (MX3_thrown g) Q (0, [some (.ref y)], [], w, 0, 0) := by
  obtain ⟨cL, pL, hy, ry⟩ := hM.1.op
  simp only [eX3_thrown_0, eX3_thrown_4, ry, go_s, g0, ex1]
  with_reducible refine And.intro ?_ ?_
  omega
  with_reducible refine And.intro ?_ ?_
  omega
  with_reducible assumption
set_option maxHeartbeats 4000000 in
theorem fX3_high {a : Int64} (hQ : Q (.inl (some (.int (hiV a)))) w) : WP (MX3_high g) Q (0, [some (.long a), none], [], w, 0, 0) := by
  simp only [eX3_high_0, eX3_high_6, eX3_high_14, eX3_high_19, hiE]
  with_reducible refine And.intro ?_ ?_
  with_reducible exact n4g
  with_reducible refine And.intro ?_ ?_
  with_reducible exact n4g
  with_reducible refine And.intro ?_ ?_
  with_reducible exact n4g
  with_reducible refine And.intro ?_ ?_
  omega
  with_reducible refine And.intro ?_ ?_
  omega
  with_reducible assumption
set_option maxHeartbeats 4000000 in
theorem fX3_low {a : Int64} (hQ : Q (.inl (some (.int (loV a)))) w) : WP (MX3_low g) Q (0, [some (.long a), none, none, none], [], w, 0, 0) := by
  simp only [eX3_low_0, eX3_low_5, eX3_low_13, eX3_low_22, eX3_low_30, eX3_low_31, lgp, lmx, loE2, loE, ite_le, nl_none]
  with_reducible refine And.intro ?_ ?_
  with_reducible exact n4g
  with_reducible refine And.intro ?_ ?_
  with_reducible exact n4g
  with_reducible refine ite_cs ?_ ?_
  with_reducible refine And.intro ?_ ?_
  omega
  with_reducible refine And.intro ?_ ?_
  omega
  with_reducible assumption
  with_reducible refine And.intro ?_ ?_
  omega
  with_reducible refine And.intro ?_ ?_
  omega
  with_reducible assumption
set_option maxHeartbeats 4000000 in
theorem fX3_one {a : Int32} (h0 : a = 0 ∨ a = 1) (hQ : Q (.inl (some (.int a))) w) : WP (MX3_one g) Q (0, [some (.int a)], [], w, 0, 0) := by
  rcases h0 with rfl | rfl
  · skip
    simp only [eX3_one_0, eX3_one_4, eX3_one_8, eX3_one_9, if_true]
    with_reducible refine And.intro ?_ ?_
    omega
    with_reducible refine And.intro ?_ ?_
    omega
    with_reducible assumption
  · skip
    simp only [eX3_one_0, eX3_one_4, eX3_one_8, eX3_one_9, i10, if_false]
    with_reducible refine And.intro ?_ ?_
    omega
    with_reducible refine And.intro ?_ ?_
    omega
    with_reducible assumption
set_option maxHeartbeats 4000000 in
theorem fX3_become {a : Int32} {b : Int64} (hM : MS g w0 y nM kd th s w) (k : okN a) (hQ : ∀ w', MS g w0 y nM kd th (sN s (vp_updL s.1 a.toNatClampNeg b)) w' → Q (.inl (some (.int (loV b)))) w') : WP (MX3_become g) Q (0, [some (.ref y), some (.int a), some (.long b), none], [], w, 0, 0) := by
  simp only [eX3_become_0, eX3_become_4]
  with_reducible refine go_S (by assumption) (fun _ _ hY => ?_)
  simp only [eX3_become_6, eX3_become_7, wt_nil, g0, gS, ex1, Nat.add_zero]
  with_reducible refine gl_Sw hM (fun hf => ?_)
  with_reducible refine And.intro ?_ ?_
  with_reducible exact vpi8k k
  with_reducible refine And.intro ?_ ?_
  omega
  with_reducible refine And.intro ?_ ?_
  omega
  with_reducible refine And.intro ?_ ?_
  omega
  with_reducible refine fX3_low ?_
  simp only [eX3_become_11, kx_l, tl_s]
  with_reducible refine And.intro ?_ ?_
  omega
  with_reducible refine And.intro ?_ ?_
  omega
  with_reducible exact hQ _ (hf _)
end
end
