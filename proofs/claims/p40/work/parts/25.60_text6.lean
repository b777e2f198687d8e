section
section
variable {g : RO} {Q : Ot → Hw → Prop} {w0 w : Hw}
theorem i32_sr1 {a : Int32} : (a >>> ((1 : Int32) &&& 31)).toInt = a.toInt / 2 := by
  have e : ((1 : Int32) &&& 31) = 1 := rfl
  rw [e]
  have h : (a >>> (1 : Int32)).toBitVec = a.toBitVec.sshiftRight 1 := by
    rw [Int32.toBitVec_shiftRight]
    rfl
  show (a >>> (1 : Int32)).toBitVec.toInt = a.toBitVec.toInt / 2
  rw [h, BitVec.toInt_sshiftRight, Int.shiftRight_eq_div_pow]
  rfl
theorem td10 (y : Int) : -10 < y - y.tdiv 10 * 10 ∧ y - y.tdiv 10 * 10 < 10 ∧ (0 ≤ y → 0 ≤ y.tdiv 10 ∧ y.tdiv 10 * 10 ≤ y) ∧ (y ≤ 0 → y.tdiv 10 ≤ 0 ∧ y ≤ y.tdiv 10 * 10) := by
  rcases Int.le_total 0 y with h | h
  · rw [Int.tdiv_eq_ediv_of_nonneg h]
    omega
  · obtain ⟨n, rfl⟩ : ∃ n : Int, y = -n := ⟨-y, by omega⟩
    rw [Int.neg_tdiv, Int.tdiv_eq_ediv_of_nonneg (by omega)]
    omega
theorem dig10 {x : Int64} {a : Int32} (h : (x - x / 10 * 10).toInt32 = a) : ¬ (if 0 ≤ a then a else 0 - a) < 0 ∧ (if 0 ≤ a then a else 0 - a) < 10 := by
  obtain ⟨h1, h2, h3, h4⟩ := td10 x.toInt
  have e : (10 : Int64).toInt = 10 := rfl
  have b := i64_bd x
  have d : (x / 10).toInt = x.toInt.tdiv 10 := by
    rw [Int64.toInt_div, e]
    exact Int.bmod_eq_of_le (by omega) (by omega)
  have m : (x / 10 * 10).toInt = x.toInt.tdiv 10 * 10 := by
    rw [Int64.toInt_mul, e, d]
    exact Int.bmod_eq_of_le (by omega) (by omega)
  have s : (x - x / 10 * 10).toInt = x.toInt - x.toInt.tdiv 10 * 10 := by
    rw [Int64.toInt_sub, m]
    exact Int.bmod_eq_of_le (by omega) (by omega)
  have ha : a.toInt = x.toInt - x.toInt.tdiv 10 * 10 := by
    rw [← h, Int64.toInt_toInt32, s]
    exact Int.bmod_eq_of_le (by omega) (by omega)
  have z0 : (0 : Int32).toInt = 0 := rfl
  have z10 : (10 : Int32).toInt = 10 := rfl
  generalize x.toInt.tdiv 10 = t at *
  clear d m s h
  split
  · next hp =>
    have hp := Int32.le_iff_toInt_le.mp hp
    exact ⟨i32_of_nlt (by omega), i32_of_lt (by omega)⟩
  · next hp =>
    have hp : a.toInt < 0 := by
      have := mt Int32.le_iff_toInt_le.mpr hp
      omega
    have hn : (0 - a).toInt = -a.toInt := by
      rw [i32_sub (by rw [z0]; omega) (by rw [z0]; omega), z0]
      omega
    exact ⟨i32_of_nlt (by rw [hn, z0]; omega), i32_of_lt (by rw [hn, z10]; omega)⟩
/-- the places that a builder has, what it may still ask for -/
def CP (N : Nat) : Prop := N = 16 ∨ N = 34 ∨ N = 70 ∨ N = 142
def pC (N : Nat) : Nat := if N = 16 then 3 else if N = 34 then 2 else if N = 70 then 1 else 0
def pS (N : Nat) : Nat := if N = 16 then 246 else if N = 34 then 212 else if N = 70 then 142 else 0
theorem CP.le {N : Nat} (h : CP N) : N ≤ 400 := by rcases h with rfl | rfl | rfl | rfl <;> decide
theorem CP.nx {N N' : Nat} {c : Int} (h : CP N) (hc : c ≤ (N : Int)) (hc2 : c < 142) (h1 : (N : Int) < c + 1) (h2 : (N' : Int) = max (c + 1) (2 * (N : Int) + 2)) : CP N' ∧ 1 + pC N' ≤ pC N ∧ 2 * N + 2 + pS N' ≤ pS N ∧ max (c + 1) (2 * (N : Int) + 2) = 2 * (N : Int) + 2 := by
  rcases h with rfl | rfl | rfl | rfl
  · obtain rfl : N' = 34 := by omega
    exact ⟨Or.inr (Or.inl rfl), by decide, by decide, by omega⟩
  · obtain rfl : N' = 70 := by omega
    exact ⟨Or.inr (Or.inr (Or.inl rfl)), by decide, by decide, by omega⟩
  · obtain rfl : N' = 142 := by omega
    exact ⟨Or.inr (Or.inr (Or.inr rfl)), by decide, by decide, by omega⟩
  · omega
theorem kI {w : Hw} {b d N : Nat} {c i ml : Int32} {f : Nat → Int32} (hN : CP N) (h1 : w b = some (.inr (1, [.ref d, .int 0, .int ml, .int c]))) (h2 : w d = some (.inl (2, N, .inl f))) (h0 : 0 ≤ c.toInt) (hc : c.toInt ≤ (N : Int)) (hc2 : c.toInt < 142) : kfI [.ref b, .int i] w ≤ pC N ∧ sfI [.ref b, .int i] w ≤ pS N ∧ (kfI [.ref b, .int i] w = if (N : Int) < c.toInt + 1 then 1 else 0) ∧ (sfI [.ref b, .int i] w = if (N : Int) < c.toInt + 1 then 2 * N + 2 else 0) := by
  have e1 := i32_p1 h0 (by omega)
  obtain ⟨eK, eS⟩ := kE (m := c + 1) h1 h2 (by omega)
  rw [kfI_v, sfI_v, sbCnt_v h1, eK]
  rw [e1] at eS ⊢
  by_cases h : (N : Int) < c.toInt + 1
  · obtain ⟨N', hN'⟩ : ∃ N' : Nat, (N' : Int) = max (c.toInt + 1) (2 * (N : Int) + 2) := ⟨(max (c.toInt + 1) (2 * (N : Int) + 2)).toNat, by omega⟩
    obtain ⟨-, q1, q2, q3⟩ := hN.nx hc hc2 h hN'
    rw [if_pos h] at eS ⊢
    rw [if_pos h]
    exact ⟨by omega, by omega, rfl, by omega⟩
  · rw [if_neg h] at eS ⊢
    rw [if_neg h]
    exact ⟨Nat.zero_le _, by omega, rfl, by omega⟩
theorem sapC {b d N : Nat} {c i : Int32} (hS : SG g) (hT : TS g w0 b d N c w) (hN : CP N) (hc : c.toInt < 142) (hch : (255 < i) = False) (hQ : ∀ (d' N' : Nat) (w' : Hw), CP N' → kfI [.ref b, .int i] w + pC N' ≤ pC N → sfI [.ref b, .int i] w + pS N' ≤ pS N → TS g w0 b d' N' (c + 1) w' → Q (.inl (some (.ref b))) w') : WP (MJ4_append_cf468 g (kfI [.ref b, .int i] w) (sfI [.ref b, .int i] w)) Q (0, [some (.ref b), some (.int i)], [], w, 0, 0) := by
  obtain ⟨ml, f, hb, hd, hf, hc0, hc1, rb, rdd, n1, n2⟩ := hT.opn g
  obtain ⟨k1, k2, k3, k4⟩ := kI (i := i) hN hb hd hc0 hc1 hc
  refine sJ4_append_cf468 hS hT  hN.le hch (fun h => ?_) (fun w' h z => ?_) (fun d' N' w' h h2 z => ?_)
  · obtain ⟨N', hN'⟩ : ∃ N' : Nat, (N' : Int) = max (c.toInt + 1) (2 * (N : Int) + 2) := ⟨(max (c.toInt + 1) (2 * (N : Int) + 2)).toNat, by omega⟩
    obtain ⟨-, q1, q2, q3⟩ := hN.nx hc1 hc h hN'
    rw [if_pos h] at k3 k4
    exact ⟨by omega, by omega⟩
  · rw [if_neg (by omega)] at k3 k4
    exact hQ _ _ _ hN (by omega) (by omega) z
  · obtain ⟨q0, q1, q2, q3⟩ := hN.nx hc1 hc h h2
    rw [if_pos h] at k3 k4
    exact hQ _ _ _ q0 (by omega) (by omega) z
theorem sapI {b d N : Nat} {c i : Int32} (hS : SG g) (hT : TS g w0 b d N c w) (hN : CP N) (hc : c.toInt < 142) (hD : DG g w0) (hi0 : ¬ i < 0) (hi1 : i < 10) (hQ : ∀ (d' N' : Nat) (w' : Hw), CP N' → kfI [.ref b, .int i] w + pC N' ≤ pC N → sfI [.ref b, .int i] w + pS N' ≤ pS N → TS g w0 b d' N' (c + 1) w' → Q (.inl (some (.ref b))) w') : WP (MJ4_append_bf812 g (kfI [.ref b, .int i] w) (sfI [.ref b, .int i] w)) Q (0, [some (.ref b), some (.int i)], [], w, 0, 0) := by
  obtain ⟨ml, f, hb, hd, hf, hc0, hc1, rb, rdd, n1, n2⟩ := hT.opn g
  obtain ⟨k1, k2, k3, k4⟩ := kI (i := i) hN hb hd hc0 hc1 hc
  refine sJ4_append_bf812 hS hT hD hN.le hi0 hi1 (fun h => ?_) (fun w' h z => ?_) (fun d' N' w' h h2 z => ?_)
  · obtain ⟨N', hN'⟩ : ∃ N' : Nat, (N' : Int) = max (c.toInt + 1) (2 * (N : Int) + 2) := ⟨(max (c.toInt + 1) (2 * (N : Int) + 2)).toNat, by omega⟩
    obtain ⟨-, q1, q2, q3⟩ := hN.nx hc1 hc h hN'
    rw [if_pos h] at k3 k4
    exact ⟨by omega, by omega⟩
  · rw [if_neg (by omega)] at k3 k4
    exact hQ _ _ _ hN (by omega) (by omega) z
  · obtain ⟨q0, q1, q2, q3⟩ := hN.nx hc1 hc h h2
    rw [if_pos h] at k3 k4
    exact hQ _ _ _ q0 (by omega) (by omega) z
theorem zr0 : ((0 : Int32) = 0) = True := eq_true rfl
end
end
