section
variable {g : RO} {w : Hw} {x nA cA lA y nM o b L k n : Nat} {xs : Nat → Int32} {i kn th : Int32} {s : AS} {l5 l6 : Option Value}
/-! THE LAW: its loop -/
theorem sw63 (a : Int32) : ∃ m : Nat, m < 64 ∧ a &&& 63 = Int32.ofNat m := by
  refine ⟨(a &&& 63).toBitVec.toNat, ?_, ?_⟩
  · rw [Int32.toBitVec_and, BitVec.toNat_and]
    exact Nat.lt_of_le_of_lt Nat.and_le_right (by decide)
  · apply Int32.toBitVec_inj.mp
    show (a &&& 63).toBitVec = BitVec.ofNat 32 _
    rw [BitVec.ofNat_toNat, BitVec.setWidth_eq]
theorem bud {k k' j c K : Nat} (h : k ≤ K + c * j) (h' : k' ≤ k + c) : k' ≤ K + c * (j + 1) := by
  rw [Nat.mul_succ]
  omega
theorem ofL (h : L ≤ 3072) : (Int32.ofNat L).toInt = (L : Int) := nI_toInt (by omega)
theorem ofL6 (h : L ≤ 3072) : (Int32.ofNat L - 6).toInt = (L : Int) - 6 := by
  have e := ofL h
  have z : (6 : Int32).toInt = 6 := rfl
  rw [i32_sub (by omega) (by omega), e, z]
theorem ad6 {c : Int32} (h0 : 0 ≤ i.toInt) (h1 : i.toInt ≤ 3072) (c0 : 0 ≤ c.toInt) (c1 : c.toInt ≤ 6) : (i + c).toInt = i.toInt + c.toInt := i32_add (by omega) (by omega)
theorem vp6 {c : Int32} (hL3 : L ≤ 3072) (h0 : 0 ≤ i.toInt) (h1 : i.toInt + 6 ≤ (L : Int)) (c0 : 0 ≤ c.toInt) (c1 : c.toInt ≤ 5) : vp_in (i + c) L := by
  have e := ad6 (i := i) (c := c) h0 (by omega) c0 (by omega)
  exact vpin (by omega) (by omega)
set_option maxHeartbeats 8000000 in
theorem sw_law {a : Int32} (hR : RG g) (hb : g.2 b = some (.inl (1, L, .inl xs))) (hL : LW g w x nA cA lA y nM o kn kn th s s) (v1 : vp_in (i + 1) L) (v2 : vp_in (i + 2) L) (v3 : vp_in (i + 3) L) (v4 : vp_in (i + 4) L) (v5 : vp_in (i + 5) L) (hk : k + 114 ≤ 58408) (hn : n + 2834 ≤ 1451408) (next : (∀ (l5' l6' : Option Value) (w' : Hw) (k' n' : Nat) (kn' th' : Int32) (s' : AS), LW g w' x nA cA lA y nM o kn' kn' th' s' s' → k' ≤ k + 114 → n' ≤ n + 2834 → WP (ML_law g) QLaw (2246, [some (.ref b), some (.ref x), some (.ref y), some (.ref o), some (.int i), l5', l6'], [], w', k', n'))) : WP (ML_law g) QLaw (44, [some (.ref b), some (.ref x), some (.ref y), some (.ref o), some (.int i), l5, l6], [.int (a &&& 63)], w, k, n) := by
  obtain ⟨m, hm, e⟩ := sw63 a
  rw [e]
  clear e
  match m, hm with
  | 0, _ => exact (eL_law_44_0 (g := g) (Q := QLaw)).symm ▸ cL_0 hR hb hL v1 v2 v3 v4 v5 hk hn next
  | 1, _ => exact (eL_law_44_1 (g := g) (Q := QLaw)).symm ▸ cL_1 hR hb hL v1 v2 v3 v4 v5 hk hn next
  | 2, _ => exact (eL_law_44_2 (g := g) (Q := QLaw)).symm ▸ cL_2 hR hb hL v1 v2 v3 v4 v5 hk hn next
  | 3, _ => exact (eL_law_44_3 (g := g) (Q := QLaw)).symm ▸ cL_3 hR hb hL v1 v2 v3 v4 v5 hk hn next
  | 4, _ => exact (eL_law_44_4 (g := g) (Q := QLaw)).symm ▸ cL_4 hR hb hL v1 v2 v3 v4 v5 hk hn next
  | 5, _ => exact (eL_law_44_5 (g := g) (Q := QLaw)).symm ▸ cL_5 hR hb hL v1 v2 v3 v4 v5 hk hn next
  | 6, _ => exact (eL_law_44_6 (g := g) (Q := QLaw)).symm ▸ cL_6 hR hb hL v1 v2 v3 v4 v5 hk hn next
  | 7, _ => exact (eL_law_44_7 (g := g) (Q := QLaw)).symm ▸ cL_7 hR hb hL v1 v2 v3 v4 v5 hk hn next
  | 8, _ => exact (eL_law_44_8 (g := g) (Q := QLaw)).symm ▸ cL_8 hR hb hL v1 v2 v3 v4 v5 hk hn next
  | 9, _ => exact (eL_law_44_9 (g := g) (Q := QLaw)).symm ▸ cL_9 hR hb hL v1 v2 v3 v4 v5 hk hn next
  | 10, _ => exact (eL_law_44_10 (g := g) (Q := QLaw)).symm ▸ cL_10 hR hb hL v1 v2 v3 v4 v5 hk hn next
  | 11, _ => exact (eL_law_44_11 (g := g) (Q := QLaw)).symm ▸ cL_11 hR hb hL v1 v2 v3 v4 v5 hk hn next
  | 12, _ => exact (eL_law_44_12 (g := g) (Q := QLaw)).symm ▸ cL_12 hR hb hL v1 v2 v3 v4 v5 hk hn next
  | 13, _ => exact (eL_law_44_13 (g := g) (Q := QLaw)).symm ▸ cL_13 hR hb hL v1 v2 v3 v4 v5 hk hn next
  | 14, _ => exact (eL_law_44_14 (g := g) (Q := QLaw)).symm ▸ cL_14 hR hb hL v1 v2 v3 v4 v5 hk hn next
  | 15, _ => exact (eL_law_44_15 (g := g) (Q := QLaw)).symm ▸ cL_15 hR hb hL v1 v2 v3 v4 v5 hk hn next
  | 16, _ => exact (eL_law_44_16 (g := g) (Q := QLaw)).symm ▸ cL_16 hR hb hL v1 v2 v3 v4 v5 hk hn next
  | 17, _ => exact (eL_law_44_17 (g := g) (Q := QLaw)).symm ▸ cL_17 hR hb hL v1 v2 v3 v4 v5 hk hn next
  | 18, _ => exact (eL_law_44_18 (g := g) (Q := QLaw)).symm ▸ cL_18 hR hb hL v1 v2 v3 v4 v5 hk hn next
  | 19, _ => exact (eL_law_44_19 (g := g) (Q := QLaw)).symm ▸ cL_19 hR hb hL v1 v2 v3 v4 v5 hk hn next
  | 20, _ => exact (eL_law_44_20 (g := g) (Q := QLaw)).symm ▸ cL_20 hR hb hL v1 v2 v3 v4 v5 hk hn next
  | 21, _ => exact (eL_law_44_21 (g := g) (Q := QLaw)).symm ▸ cL_21 hR hb hL v1 v2 v3 v4 v5 hk hn next
  | 22, _ => exact (eL_law_44_22 (g := g) (Q := QLaw)).symm ▸ cL_22 hR hb hL v1 v2 v3 v4 v5 hk hn next
  | 23, _ => exact (eL_law_44_23 (g := g) (Q := QLaw)).symm ▸ cL_23 hR hb hL v1 v2 v3 v4 v5 hk hn next
  | 24, _ => exact (eL_law_44_24 (g := g) (Q := QLaw)).symm ▸ cL_24 hR hb hL v1 v2 v3 v4 v5 hk hn next
  | 25, _ => exact (eL_law_44_25 (g := g) (Q := QLaw)).symm ▸ cL_25 hR hb hL v1 v2 v3 v4 v5 hk hn next
  | 26, _ => exact (eL_law_44_26 (g := g) (Q := QLaw)).symm ▸ cL_26 hR hb hL v1 v2 v3 v4 v5 hk hn next
  | 27, _ => exact (eL_law_44_27 (g := g) (Q := QLaw)).symm ▸ cL_27 hR hb hL v1 v2 v3 v4 v5 hk hn next
  | 28, _ => exact (eL_law_44_28 (g := g) (Q := QLaw)).symm ▸ cL_28 hR hb hL v1 v2 v3 v4 v5 hk hn next
  | 29, _ => exact (eL_law_44_29 (g := g) (Q := QLaw)).symm ▸ cL_29 hR hb hL v1 v2 v3 v4 v5 hk hn next
  | 30, _ => exact (eL_law_44_30 (g := g) (Q := QLaw)).symm ▸ cL_30 hR hb hL v1 v2 v3 v4 v5 hk hn next
  | 31, _ => exact (eL_law_44_31 (g := g) (Q := QLaw)).symm ▸ cL_31 hR hb hL v1 v2 v3 v4 v5 hk hn next
  | 32, _ => exact (eL_law_44_32 (g := g) (Q := QLaw)).symm ▸ cL_32 hR hb hL v1 v2 v3 v4 v5 hk hn next
  | 33, _ => exact (eL_law_44_33 (g := g) (Q := QLaw)).symm ▸ cL_33 hR hb hL v1 v2 v3 v4 v5 hk hn next
  | 34, _ => exact (eL_law_44_34 (g := g) (Q := QLaw)).symm ▸ cL_34 hR hb hL v1 v2 v3 v4 v5 hk hn next
  | 35, _ => exact (eL_law_44_35 (g := g) (Q := QLaw)).symm ▸ cL_35 hR hb hL v1 v2 v3 v4 v5 hk hn next
  | 36, _ => exact (eL_law_44_36 (g := g) (Q := QLaw)).symm ▸ cL_36 hR hb hL v1 v2 v3 v4 v5 hk hn next
  | 37, _ => exact (eL_law_44_37 (g := g) (Q := QLaw)).symm ▸ cL_37 hR hb hL v1 v2 v3 v4 v5 hk hn next
  | 38, _ => exact (eL_law_44_38 (g := g) (Q := QLaw)).symm ▸ cL_38 hR hb hL v1 v2 v3 v4 v5 hk hn next
  | 39, _ => exact (eL_law_44_39 (g := g) (Q := QLaw)).symm ▸ cL_39 hR hb hL v1 v2 v3 v4 v5 hk hn next
  | 40, _ => exact (eL_law_44_40 (g := g) (Q := QLaw)).symm ▸ cL_40 hR hb hL v1 v2 v3 v4 v5 hk hn next
  | 41, _ => exact (eL_law_44_41 (g := g) (Q := QLaw)).symm ▸ cL_41 hR hb hL v1 v2 v3 v4 v5 hk hn next
  | 42, _ => exact (eL_law_44_42 (g := g) (Q := QLaw)).symm ▸ cL_42 hR hb hL v1 v2 v3 v4 v5 hk hn next
  | 43, _ => exact (eL_law_44_43 (g := g) (Q := QLaw)).symm ▸ cL_43 hR hb hL v1 v2 v3 v4 v5 hk hn next
  | 44, _ => exact (eL_law_44_44 (g := g) (Q := QLaw)).symm ▸ cL_44 hR hb hL v1 v2 v3 v4 v5 hk hn next
  | 45, _ => exact (eL_law_44_45 (g := g) (Q := QLaw)).symm ▸ cL_45 hR hb hL v1 v2 v3 v4 v5 hk hn next
  | 46, _ => exact (eL_law_44_46 (g := g) (Q := QLaw)).symm ▸ cL_46 hR hb hL v1 v2 v3 v4 v5 hk hn next
  | 47, _ => exact (eL_law_44_47 (g := g) (Q := QLaw)).symm ▸ cL_47 hR hb hL v1 v2 v3 v4 v5 hk hn next
  | 48, _ => exact (eL_law_44_48 (g := g) (Q := QLaw)).symm ▸ cL_48 hR hb hL v1 v2 v3 v4 v5 hk hn next
  | m + 49, h =>
    have e : (Int32.ofNat (m + 49)).toInt = ((m + 49 : Nat) : Int) := nI_toInt (by omega)
    rw [eL_law_44_d (Or.inr (by omega))]
    exact next _ _ _ _ _ _ _ _ hL (by omega) (by omega)
set_option maxHeartbeats 4000000 in
theorem law_loop (hR : RG g) (hb : g.2 b = some (.inl (1, L, .inl xs))) (hL3 : L ≤ 3072) : ∀ (d j : Nat) (i kn th : Int32) (s : AS) (w : Hw) (l5 l6 : Option Value) (k n : Nat), i.toInt = 6 * (j : Int) → L ≤ 6 * (j + d) → 6 * j ≤ 3072 → LW g w x nA cA lA y nM o kn kn th s s → k ≤ 40 + 114 * j → n ≤ 400 + 2834 * j → WP (ML_law g) QLaw (27, [some (.ref b), some (.ref x), some (.ref y), some (.ref o), some (.int i), l5, l6], [], w, k, n) := by
  intro d
  induction d with
  | zero =>
    intro j i kn th s w l5 l6 k n hi hd hj hL hk hn
    have e := ofL6 hL3
    have lt : Int32.ofNat L - 6 < i := i32_of_lt (by omega)
    simp only [eL_law_27, eL_law_29, eL_law_29N, eL_law_30]
    refine ⟨1, (L, .inl xs), hL.rb hb, by decide, ?_⟩
    simp only [eL_law_31, eL_law_33, eL_law_34, if_pos lt]
    simp only [eL_law_2252, eL_law_2253]
    exact ⟨rfl, by omega, by omega, rfl⟩
  | succ d ih =>
    intro j i kn th s w l5 l6 k n hi hd hj hL hk hn
    have e := ofL6 hL3
    simp only [eL_law_27, eL_law_29, eL_law_29N, eL_law_30]
    refine ⟨1, (L, .inl xs), hL.rb hb, by decide, ?_⟩
    simp only [eL_law_31, eL_law_33, eL_law_34]
    by_cases lt : Int32.ofNat L - 6 < i
    · rw [if_pos lt]
      simp only [eL_law_2252, eL_law_2253]
      exact ⟨rfl, by omega, by omega, rfl⟩
    · rw [if_neg lt]
      have h6 := i32_nlt lt
      have h0 : 0 ≤ i.toInt := by omega
      have hi6 : i.toInt + 6 ≤ (L : Int) := by omega
      simp only [eL_law_37, eL_law_37N, eL_law_38, eL_law_40]
      refine gi_L hL hb ⟨vpin h0 (by omega), ?_⟩
      simp only [eL_law_41, eL_law_43]
      refine sw_law hR hb hL (vp6 hL3 h0 hi6 (by decide) (by decide)) (vp6 hL3 h0 hi6 (by decide) (by decide)) (vp6 hL3 h0 hi6 (by decide) (by decide)) (vp6 hL3 h0 hi6 (by decide) (by decide)) (vp6 hL3 h0 hi6 (by decide) (by decide)) (by omega) (by omega) (fun l5' l6' w' k' n' kn' th' s' hL' hk' hn' => ?_)
      simp only [eL_law_2246, eL_law_2249, nl_ref, nl_int]
      have e6 := ad6 (i := i) (c := 6) h0 (by omega) (by decide) (by decide)
      have z6 : (6 : Int32).toInt = 6 := rfl
      exact ih (j + 1) (i + 6) kn' th' s' w' l5' l6' k' n' (by omega) (by omega) (by omega) hL' (bud hk hk') (bud hn hn')
end
