section
variable {g : RO} {Q : Ot → Hw → Prop} {w0 w : Hw} {x nA cA lA : Nat} {kn : Int32}
/-! FUNCTIONAL SPECS, 13: all that writes keeps the ranges in order -/
/-- the class stands in some state whose ranges are in order -/
def CO (g : RO) (w0 : Hw) (x nA cA lA : Nat) (kn : Int32) (w : Hw) : Prop := ∃ s, sOk s ∧ CS g w0 x nA cA lA kn s w
theorem CO.cc (h : CO g w0 x nA cA lA kn w) : CC g w0 x nA cA lA kn w := by
  obtain ⟨s, -, h⟩ := h
  exact h.cc
theorem CO.ext {w' : Hw} (h : CO g w0 x nA cA lA kn w) (k : ext g w w') : CO g w0 x nA cA lA kn w' := by
  obtain ⟨s, ho, h⟩ := h
  exact ⟨s, ho, h.ext k⟩
theorem CO.mk {s : AS} (h : CS g w0 x nA cA lA kn s w) (ho : sOk s) : CO g w0 x nA cA lA kn w := ⟨s, ho, h⟩
theorem sOk.c' {s : AS} {a : Int32} {r : R4} (h : sOk s) (e : s.2.1 a.toNatClampNeg = some r) (k : okC a) : rOk r := h.c k e
theorem sOk.p' {s : AS} {a : Int32} (h : sOk s) (k : okP s.2.2.1 a) : rOk (s.2.2.2.1 a.toNatClampNeg) := h.2.1 _ (plB k)
theorem sOk.num {s : AS} {f : Nat → Int64} (h : sOk s) : sOk (sN s f) := h
theorem sOk.rf {s : AS} (h : sOk s) : sOk (sRf s) := h
theorem sOk.card {s : AS} {j : Nat} {r : R4} (h : sOk s) (hr : rOk r) : sOk (sC s (va_up s.2.1 j (some r))) := by
  refine ⟨fun i q hi e => ?_, h.2⟩
  have e' : va_up s.2.1 j (some r) i = some q := e
  unfold va_up at e'
  by_cases k : i = j
  · rw [if_pos k] at e'
    cases e'
    exact hr
  · rw [if_neg k] at e'
    exact h.1 i q hi e'
theorem sOk.card0 {s : AS} {j : Nat} (h : sOk s) : sOk (sC s (va_up s.2.1 j none)) := by
  refine ⟨fun i q hi e => ?_, h.2⟩
  have e' : va_up s.2.1 j none i = some q := e
  unfold va_up at e'
  by_cases k : i = j
  · rw [if_pos k] at e'
    cases e'
  · rw [if_neg k] at e'
    exact h.1 i q hi e'
theorem sOk.mk {s : AS} {j : Nat} {r : R4} (h : sOk s) (hr : rOk r) : sOk (sMk s j r) := h.card hr
theorem sOk.mkO {s : AS} {j : Nat} {a : Int32} {r : R4} (h : sOk s) (e : s.2.1 a.toNatClampNeg = some r) (k : okC a) : sOk (sMk s j (r.1, r.1, r.2.2.2, r.2.2.2)) := h.mk (oOut (r := r) (h.c k e))
theorem sOk.lay {s : AS} {r : R4} (h : sOk s) (hr : rOk r) (h11 : s.2.2.1 < 12) : sOk (sP_ s (s.2.2.1 + 1) (va_up s.2.2.2.1 s.2.2.1.toNatClampNeg r)) := by
  have q0 := i32_0 h.2.2.1
  have q1 := i32_lt h11
  have z : (12 : Int32).toInt = 12 := rfl
  have e1 : (s.2.2.1 + 1).toInt = s.2.2.1.toInt + 1 := i32p1 q0 (by omega)
  have t : s.2.2.1.toNatClampNeg = s.2.2.1.toInt.toNat := rfl
  refine ⟨h.1, fun i hi => ?_, i32_of_nlt (by show (0 : Int) ≤ (s.2.2.1 + 1).toInt; omega), i32_of_nlt (by show (s.2.2.1 + 1).toInt ≤ (12 : Int); omega)⟩
  have hi2 : (i : Int) < (s.2.2.1 + 1).toInt := hi
  show rOk (va_up s.2.2.2.1 s.2.2.1.toNatClampNeg r i)
  unfold va_up
  by_cases e : i = s.2.2.1.toNatClampNeg
  · rw [if_pos e]
    exact hr
  · rw [if_neg e]
    exact h.2.1 i (by omega)
theorem sOk.gap {s : AS} {p : Nat} (h : sOk s) (hp : p < s.2.2.1.toInt.toNat) : sOk (sP_ s (s.2.2.1 - 1) (rmv s.2.2.2.1 p)) := by
  have h0 := n0p hp
  have e1 := cg_sub h0
  refine ⟨h.1, fun i hi => ?_, cg3 h0, cg4 h0 h.2.2.2⟩
  have hi2 : (i : Int) < (s.2.2.1 - 1).toInt := hi
  show rOk (rmv s.2.2.2.1 p i)
  unfold rmv
  by_cases e : i < p
  · rw [if_pos e]
    exact h.2.1 i (by omega)
  · rw [if_neg e]
    exact h.2.1 (i + 1) (by omega)
theorem sOk.tur {s : AS} (h : sOk s) : sOk (sP_ s s.2.2.1 (rev s.2.2.2.1 s.2.2.1.toInt.toNat)) := by
  refine ⟨h.1, fun i hi => ?_, h.2.2⟩
  have hi2 : (i : Int) < s.2.2.1.toInt := hi
  exact h.2.1 (s.2.2.1.toInt.toNat - 1 - i) (by omega)
theorem sOk.zero {s : AS} {F : Nat → R4} (h : sOk s) : sOk (sP_ s 0 F) := by
  refine ⟨h.1, fun i hi => ?_, show ¬ (0 : Int32) < 0 by decide, show ¬ (12 : Int32) < 0 by decide⟩
  have hi2 : (i : Int) < (0 : Int32).toInt := hi
  have e0 : (0 : Int32).toInt = 0 := rfl
  omega
theorem oX1_set {a0 : Int32} {a1 : Int32} {a2 : Int32} (hC : CO g w0 x nA cA lA kn w) (hXo : Q (.inr "java/lang/IndexOutOfBoundsException") w) (hQ : ∀ (v : Int32) (w' : Hw), CO g w0 x nA cA lA kn w' → Q (.inl (some (.int v))) w') : WP (MX1_set g) Q (0, [some (.ref x), some (.int a0), some (.int a1), some (.int a2), none], [], w, 0, 0) := by
  obtain ⟨s, ho, hC⟩ := hC
  apply fX1_set hC
  all_goals first
    | with_reducible exact ho
    | skip
  all_goals
    intros
    first
    | with_reducible exact hXo
    | with_reducible refine hQ _ _ (CO.mk (by assumption) ?_)
  all_goals first
    | with_reducible exact ho
    | with_reducible exact ho.num
    | with_reducible exact ho.rf
    | with_reducible exact ho.mk (by assumption)
    | with_reducible exact ho.mk (ho.c' (by assumption) (by assumption))
    | with_reducible exact ho.mkO (by assumption) (by assumption)
    | with_reducible exact ho.card0
    | with_reducible exact ho.card (ho.c' (by assumption) (by assumption))
    | with_reducible exact ho.card (ho.p' (by assumption))
    | with_reducible exact ho.lay (ho.c' (by assumption) (by assumption)) (by assumption)
    | with_reducible exact ho.gap (by assumption)
    | with_reducible exact ho.tur
theorem oX1_setSmall {a0 : Int32} {a1 : Int32} (hC : CO g w0 x nA cA lA kn w) (hXo : Q (.inr "java/lang/IndexOutOfBoundsException") w) (hQ : ∀ (v : Int32) (w' : Hw), CO g w0 x nA cA lA kn w' → Q (.inl (some (.int v))) w') : WP (MX1_setSmall g) Q (0, [some (.ref x), some (.int a0), some (.int a1), none], [], w, 0, 0) := by
  obtain ⟨s, ho, hC⟩ := hC
  apply fX1_setSmall hC
  all_goals first
    | with_reducible exact ho
    | skip
  all_goals
    intros
    first
    | with_reducible exact hXo
    | with_reducible refine hQ _ _ (CO.mk (by assumption) ?_)
  all_goals first
    | with_reducible exact ho
    | with_reducible exact ho.num
    | with_reducible exact ho.rf
    | with_reducible exact ho.mk (by assumption)
    | with_reducible exact ho.mk (ho.c' (by assumption) (by assumption))
    | with_reducible exact ho.mkO (by assumption) (by assumption)
    | with_reducible exact ho.card0
    | with_reducible exact ho.card (ho.c' (by assumption) (by assumption))
    | with_reducible exact ho.card (ho.p' (by assumption))
    | with_reducible exact ho.lay (ho.c' (by assumption) (by assumption)) (by assumption)
    | with_reducible exact ho.gap (by assumption)
    | with_reducible exact ho.tur
theorem oX1_setEnd {a0 : Int32} {a1 : Int32} (hC : CO g w0 x nA cA lA kn w) (hXo : Q (.inr "java/lang/IndexOutOfBoundsException") w) (hXa : Q (.inr "java/lang/IllegalArgumentException") w) (hQ : ∀ (v : Int32) (w' : Hw), CO g w0 x nA cA lA kn w' → Q (.inl (some (.int v))) w') : WP (MX1_setEnd g) Q (0, [some (.ref x), some (.int a0), some (.int a1)], [], w, 0, 0) := by
  obtain ⟨s, ho, hC⟩ := hC
  apply fX1_setEnd hC
  all_goals first
    | with_reducible exact ho
    | skip
  all_goals
    intros
    first
    | with_reducible exact hXo
    | with_reducible exact hXa
    | with_reducible refine hQ _ _ (CO.mk (by assumption) ?_)
  all_goals first
    | with_reducible exact ho
    | with_reducible exact ho.num
    | with_reducible exact ho.rf
    | with_reducible exact ho.mk (by assumption)
    | with_reducible exact ho.mk (ho.c' (by assumption) (by assumption))
    | with_reducible exact ho.mkO (by assumption) (by assumption)
    | with_reducible exact ho.card0
    | with_reducible exact ho.card (ho.c' (by assumption) (by assumption))
    | with_reducible exact ho.card (ho.p' (by assumption))
    | with_reducible exact ho.lay (ho.c' (by assumption) (by assumption)) (by assumption)
    | with_reducible exact ho.gap (by assumption)
    | with_reducible exact ho.tur
theorem oX1_move {a0 : Int32} {a1 : Int32} (hC : CO g w0 x nA cA lA kn w) (hXo : Q (.inr "java/lang/IndexOutOfBoundsException") w) (hQ : ∀ (v : Int32) (w' : Hw), CO g w0 x nA cA lA kn w' → Q (.inl (some (.int v))) w') : WP (MX1_move g) Q (0, [some (.ref x), some (.int a0), some (.int a1)], [], w, 0, 0) := by
  obtain ⟨s, ho, hC⟩ := hC
  apply fX1_move hC
  all_goals first
    | with_reducible exact ho
    | skip
  all_goals
    intros
    first
    | with_reducible exact hXo
    | with_reducible refine hQ _ _ (CO.mk (by assumption) ?_)
  all_goals first
    | with_reducible exact ho
    | with_reducible exact ho.num
    | with_reducible exact ho.rf
    | with_reducible exact ho.mk (by assumption)
    | with_reducible exact ho.mk (ho.c' (by assumption) (by assumption))
    | with_reducible exact ho.mkO (by assumption) (by assumption)
    | with_reducible exact ho.card0
    | with_reducible exact ho.card (ho.c' (by assumption) (by assumption))
    | with_reducible exact ho.card (ho.p' (by assumption))
    | with_reducible exact ho.lay (ho.c' (by assumption) (by assumption)) (by assumption)
    | with_reducible exact ho.gap (by assumption)
    | with_reducible exact ho.tur
theorem oX1_copy {a0 : Int32} {a1 : Int32} (hC : CO g w0 x nA cA lA kn w) (hXo : Q (.inr "java/lang/IndexOutOfBoundsException") w) (hQ : ∀ (v : Int32) (w' : Hw), CO g w0 x nA cA lA kn w' → Q (.inl (some (.int v))) w') : WP (MX1_copy g) Q (0, [some (.ref x), some (.int a0), some (.int a1)], [], w, 0, 0) := by
  obtain ⟨s, ho, hC⟩ := hC
  apply fX1_copy hC
  all_goals first
    | with_reducible exact ho
    | skip
  all_goals
    intros
    first
    | with_reducible exact hXo
    | with_reducible refine hQ _ _ (CO.mk (by assumption) ?_)
  all_goals first
    | with_reducible exact ho
    | with_reducible exact ho.num
    | with_reducible exact ho.rf
    | with_reducible exact ho.mk (by assumption)
    | with_reducible exact ho.mk (ho.c' (by assumption) (by assumption))
    | with_reducible exact ho.mkO (by assumption) (by assumption)
    | with_reducible exact ho.card0
    | with_reducible exact ho.card (ho.c' (by assumption) (by assumption))
    | with_reducible exact ho.card (ho.p' (by assumption))
    | with_reducible exact ho.lay (ho.c' (by assumption) (by assumption)) (by assumption)
    | with_reducible exact ho.gap (by assumption)
    | with_reducible exact ho.tur
theorem oX1_two {a0 : Int32} {a1 : Int32} {a2 : Int32} (hC : CO g w0 x nA cA lA kn w) (hXo : Q (.inr "java/lang/IndexOutOfBoundsException") w) (hQ : ∀ (v : Int32) (w' : Hw), CO g w0 x nA cA lA kn w' → Q (.inl (some (.int v))) w') : WP (MX1_two g) Q (0, [some (.ref x), some (.int a0), some (.int a1), some (.int a2)], [], w, 0, 0) := by
  obtain ⟨s, ho, hC⟩ := hC
  apply fX1_two hC
  all_goals first
    | with_reducible exact ho
    | skip
  all_goals
    intros
    first
    | with_reducible exact hXo
    | with_reducible refine hQ _ _ (CO.mk (by assumption) ?_)
  all_goals first
    | with_reducible exact ho
    | with_reducible exact ho.num
    | with_reducible exact ho.rf
    | with_reducible exact ho.mk (by assumption)
    | with_reducible exact ho.mk (ho.c' (by assumption) (by assumption))
    | with_reducible exact ho.mkO (by assumption) (by assumption)
    | with_reducible exact ho.card0
    | with_reducible exact ho.card (ho.c' (by assumption) (by assumption))
    | with_reducible exact ho.card (ho.p' (by assumption))
    | with_reducible exact ho.lay (ho.c' (by assumption) (by assumption)) (by assumption)
    | with_reducible exact ho.gap (by assumption)
    | with_reducible exact ho.tur
theorem oX1_three {a0 : Int32} {a1 : Int32} {a2 : Int32} {a3 : Int32} (hC : CO g w0 x nA cA lA kn w) (hXo : Q (.inr "java/lang/IndexOutOfBoundsException") w) (hQ : ∀ (v : Int32) (w' : Hw), CO g w0 x nA cA lA kn w' → Q (.inl (some (.int v))) w') : WP (MX1_three g) Q (0, [some (.ref x), some (.int a0), some (.int a1), some (.int a2), some (.int a3)], [], w, 0, 0) := by
  obtain ⟨s, ho, hC⟩ := hC
  apply fX1_three hC
  all_goals first
    | with_reducible exact ho
    | skip
  all_goals
    intros
    first
    | with_reducible exact hXo
    | with_reducible refine hQ _ _ (CO.mk (by assumption) ?_)
  all_goals first
    | with_reducible exact ho
    | with_reducible exact ho.num
    | with_reducible exact ho.rf
    | with_reducible exact ho.mk (by assumption)
    | with_reducible exact ho.mk (ho.c' (by assumption) (by assumption))
    | with_reducible exact ho.mkO (by assumption) (by assumption)
    | with_reducible exact ho.card0
    | with_reducible exact ho.card (ho.c' (by assumption) (by assumption))
    | with_reducible exact ho.card (ho.p' (by assumption))
    | with_reducible exact ho.lay (ho.c' (by assumption) (by assumption)) (by assumption)
    | with_reducible exact ho.gap (by assumption)
    | with_reducible exact ho.tur
theorem oX1_four {a0 : Int32} {a1 : Int32} {a2 : Int32} {a3 : Int32} {a4 : Int32} (hC : CO g w0 x nA cA lA kn w) (hXo : Q (.inr "java/lang/IndexOutOfBoundsException") w) (hQ : ∀ (v : Int32) (w' : Hw), CO g w0 x nA cA lA kn w' → Q (.inl (some (.int v))) w') : WP (MX1_four g) Q (0, [some (.ref x), some (.int a0), some (.int a1), some (.int a2), some (.int a3), some (.int a4)], [], w, 0, 0) := by
  obtain ⟨s, ho, hC⟩ := hC
  apply fX1_four hC
  all_goals first
    | with_reducible exact ho
    | skip
  all_goals
    intros
    first
    | with_reducible exact hXo
    | with_reducible refine hQ _ _ (CO.mk (by assumption) ?_)
  all_goals first
    | with_reducible exact ho
    | with_reducible exact ho.num
    | with_reducible exact ho.rf
    | with_reducible exact ho.mk (by assumption)
    | with_reducible exact ho.mk (ho.c' (by assumption) (by assumption))
    | with_reducible exact ho.mkO (by assumption) (by assumption)
    | with_reducible exact ho.card0
    | with_reducible exact ho.card (ho.c' (by assumption) (by assumption))
    | with_reducible exact ho.card (ho.p' (by assumption))
    | with_reducible exact ho.lay (ho.c' (by assumption) (by assumption)) (by assumption)
    | with_reducible exact ho.gap (by assumption)
    | with_reducible exact ho.tur
theorem oX1_twoSmall {a0 : Int32} {a1 : Int32} {a2 : Int32} (hC : CO g w0 x nA cA lA kn w) (hXo : Q (.inr "java/lang/IndexOutOfBoundsException") w) (hQ : ∀ (v : Int32) (w' : Hw), CO g w0 x nA cA lA kn w' → Q (.inl (some (.int v))) w') : WP (MX1_twoSmall g) Q (0, [some (.ref x), some (.int a0), some (.int a1), some (.int a2)], [], w, 0, 0) := by
  obtain ⟨s, ho, hC⟩ := hC
  apply fX1_twoSmall hC
  all_goals first
    | with_reducible exact ho
    | skip
  all_goals
    intros
    first
    | with_reducible exact hXo
    | with_reducible refine hQ _ _ (CO.mk (by assumption) ?_)
  all_goals first
    | with_reducible exact ho
    | with_reducible exact ho.num
    | with_reducible exact ho.rf
    | with_reducible exact ho.mk (by assumption)
    | with_reducible exact ho.mk (ho.c' (by assumption) (by assumption))
    | with_reducible exact ho.mkO (by assumption) (by assumption)
    | with_reducible exact ho.card0
    | with_reducible exact ho.card (ho.c' (by assumption) (by assumption))
    | with_reducible exact ho.card (ho.p' (by assumption))
    | with_reducible exact ho.lay (ho.c' (by assumption) (by assumption)) (by assumption)
    | with_reducible exact ho.gap (by assumption)
    | with_reducible exact ho.tur
theorem oX1_threeSmall {a0 : Int32} {a1 : Int32} {a2 : Int32} {a3 : Int32} (hC : CO g w0 x nA cA lA kn w) (hXo : Q (.inr "java/lang/IndexOutOfBoundsException") w) (hQ : ∀ (v : Int32) (w' : Hw), CO g w0 x nA cA lA kn w' → Q (.inl (some (.int v))) w') : WP (MX1_threeSmall g) Q (0, [some (.ref x), some (.int a0), some (.int a1), some (.int a2), some (.int a3)], [], w, 0, 0) := by
  obtain ⟨s, ho, hC⟩ := hC
  apply fX1_threeSmall hC
  all_goals first
    | with_reducible exact ho
    | skip
  all_goals
    intros
    first
    | with_reducible exact hXo
    | with_reducible refine hQ _ _ (CO.mk (by assumption) ?_)
  all_goals first
    | with_reducible exact ho
    | with_reducible exact ho.num
    | with_reducible exact ho.rf
    | with_reducible exact ho.mk (by assumption)
    | with_reducible exact ho.mk (ho.c' (by assumption) (by assumption))
    | with_reducible exact ho.mkO (by assumption) (by assumption)
    | with_reducible exact ho.card0
    | with_reducible exact ho.card (ho.c' (by assumption) (by assumption))
    | with_reducible exact ho.card (ho.p' (by assumption))
    | with_reducible exact ho.lay (ho.c' (by assumption) (by assumption)) (by assumption)
    | with_reducible exact ho.gap (by assumption)
    | with_reducible exact ho.tur
theorem oX1_fourSmall {a0 : Int32} {a1 : Int32} {a2 : Int32} {a3 : Int32} {a4 : Int32} (hC : CO g w0 x nA cA lA kn w) (hXo : Q (.inr "java/lang/IndexOutOfBoundsException") w) (hQ : ∀ (v : Int32) (w' : Hw), CO g w0 x nA cA lA kn w' → Q (.inl (some (.int v))) w') : WP (MX1_fourSmall g) Q (0, [some (.ref x), some (.int a0), some (.int a1), some (.int a2), some (.int a3), some (.int a4)], [], w, 0, 0) := by
  obtain ⟨s, ho, hC⟩ := hC
  apply fX1_fourSmall hC
  all_goals first
    | with_reducible exact ho
    | skip
  all_goals
    intros
    first
    | with_reducible exact hXo
    | with_reducible refine hQ _ _ (CO.mk (by assumption) ?_)
  all_goals first
    | with_reducible exact ho
    | with_reducible exact ho.num
    | with_reducible exact ho.rf
    | with_reducible exact ho.mk (by assumption)
    | with_reducible exact ho.mk (ho.c' (by assumption) (by assumption))
    | with_reducible exact ho.mkO (by assumption) (by assumption)
    | with_reducible exact ho.card0
    | with_reducible exact ho.card (ho.c' (by assumption) (by assumption))
    | with_reducible exact ho.card (ho.p' (by assumption))
    | with_reducible exact ho.lay (ho.c' (by assumption) (by assumption)) (by assumption)
    | with_reducible exact ho.gap (by assumption)
    | with_reducible exact ho.tur
theorem oX1_again {a0 : Int32} {a1 : Int32} (hC : CO g w0 x nA cA lA kn w) (hXo : Q (.inr "java/lang/IndexOutOfBoundsException") w) (hXs : Q (.inr "java/lang/IllegalStateException") w) (hQ : ∀ (v : Int32) (w' : Hw), CO g w0 x nA cA lA kn w' → Q (.inl (some (.int v))) w') : WP (MX1_again g) Q (0, [some (.ref x), some (.int a0), some (.int a1), none], [], w, 0, 0) := by
  obtain ⟨s, ho, hC⟩ := hC
  apply fX1_again hC
  all_goals first
    | with_reducible exact ho
    | skip
  all_goals
    intros
    first
    | with_reducible exact hXo
    | with_reducible exact hXs
    | with_reducible refine hQ _ _ (CO.mk (by assumption) ?_)
  all_goals first
    | with_reducible exact ho
    | with_reducible exact ho.num
    | with_reducible exact ho.rf
    | with_reducible exact ho.mk (by assumption)
    | with_reducible exact ho.mk (ho.c' (by assumption) (by assumption))
    | with_reducible exact ho.mkO (by assumption) (by assumption)
    | with_reducible exact ho.card0
    | with_reducible exact ho.card (ho.c' (by assumption) (by assumption))
    | with_reducible exact ho.card (ho.p' (by assumption))
    | with_reducible exact ho.lay (ho.c' (by assumption) (by assumption)) (by assumption)
    | with_reducible exact ho.gap (by assumption)
    | with_reducible exact ho.tur
theorem oX1_same {a0 : Int32} {a1 : Int32} (hC : CO g w0 x nA cA lA kn w) (hXo : Q (.inr "java/lang/IndexOutOfBoundsException") w) (hXs : Q (.inr "java/lang/IllegalStateException") w) (hQ : ∀ (v : Int32) (w' : Hw), CO g w0 x nA cA lA kn w' → Q (.inl (some (.int v))) w') : WP (MX1_same g) Q (0, [some (.ref x), some (.int a0), some (.int a1), none, none], [], w, 0, 0) := by
  obtain ⟨s, ho, hC⟩ := hC
  apply fX1_same hC
  all_goals first
    | with_reducible exact ho
    | skip
  all_goals
    intros
    first
    | with_reducible exact hXo
    | with_reducible exact hXs
    | with_reducible refine hQ _ _ (CO.mk (by assumption) ?_)
  all_goals first
    | with_reducible exact ho
    | with_reducible exact ho.num
    | with_reducible exact ho.rf
    | with_reducible exact ho.mk (by assumption)
    | with_reducible exact ho.mk (ho.c' (by assumption) (by assumption))
    | with_reducible exact ho.mkO (by assumption) (by assumption)
    | with_reducible exact ho.card0
    | with_reducible exact ho.card (ho.c' (by assumption) (by assumption))
    | with_reducible exact ho.card (ho.p' (by assumption))
    | with_reducible exact ho.lay (ho.c' (by assumption) (by assumption)) (by assumption)
    | with_reducible exact ho.gap (by assumption)
    | with_reducible exact ho.tur
theorem oX1_outer {a0 : Int32} {a1 : Int32} (hC : CO g w0 x nA cA lA kn w) (hXo : Q (.inr "java/lang/IndexOutOfBoundsException") w) (hXs : Q (.inr "java/lang/IllegalStateException") w) (hQ : ∀ (v : Int32) (w' : Hw), CO g w0 x nA cA lA kn w' → Q (.inl (some (.int v))) w') : WP (MX1_outer g) Q (0, [some (.ref x), some (.int a0), some (.int a1), none, none], [], w, 0, 0) := by
  obtain ⟨s, ho, hC⟩ := hC
  apply fX1_outer hC
  all_goals first
    | with_reducible exact ho
    | skip
  all_goals
    intros
    first
    | with_reducible exact hXo
    | with_reducible exact hXs
    | with_reducible refine hQ _ _ (CO.mk (by assumption) ?_)
  all_goals first
    | with_reducible exact ho
    | with_reducible exact ho.num
    | with_reducible exact ho.rf
    | with_reducible exact ho.mk (by assumption)
    | with_reducible exact ho.mk (ho.c' (by assumption) (by assumption))
    | with_reducible exact ho.mkO (by assumption) (by assumption)
    | with_reducible exact ho.card0
    | with_reducible exact ho.card (ho.c' (by assumption) (by assumption))
    | with_reducible exact ho.card (ho.p' (by assumption))
    | with_reducible exact ho.lay (ho.c' (by assumption) (by assumption)) (by assumption)
    | with_reducible exact ho.gap (by assumption)
    | with_reducible exact ho.tur
theorem oX1_inner {a0 : Int32} {a1 : Int32} (hC : CO g w0 x nA cA lA kn w) (hXo : Q (.inr "java/lang/IndexOutOfBoundsException") w) (hXs : Q (.inr "java/lang/IllegalStateException") w) (hQ : ∀ (v : Int32) (w' : Hw), CO g w0 x nA cA lA kn w' → Q (.inl (some (.int v))) w') : WP (MX1_inner g) Q (0, [some (.ref x), some (.int a0), some (.int a1), none], [], w, 0, 0) := by
  obtain ⟨s, ho, hC⟩ := hC
  apply fX1_inner hC
  all_goals first
    | with_reducible exact ho
    | skip
  all_goals
    intros
    first
    | with_reducible exact hXo
    | with_reducible exact hXs
    | with_reducible refine hQ _ _ (CO.mk (by assumption) ?_)
  all_goals first
    | with_reducible exact ho
    | with_reducible exact ho.num
    | with_reducible exact ho.rf
    | with_reducible exact ho.mk (by assumption)
    | with_reducible exact ho.mk (ho.c' (by assumption) (by assumption))
    | with_reducible exact ho.mkO (by assumption) (by assumption)
    | with_reducible exact ho.card0
    | with_reducible exact ho.card (ho.c' (by assumption) (by assumption))
    | with_reducible exact ho.card (ho.p' (by assumption))
    | with_reducible exact ho.lay (ho.c' (by assumption) (by assumption)) (by assumption)
    | with_reducible exact ho.gap (by assumption)
    | with_reducible exact ho.tur
theorem oX1_span {a0 : Int32} {a1 : Int32} {a2 : Int32} (hC : CO g w0 x nA cA lA kn w) (hXo : Q (.inr "java/lang/IndexOutOfBoundsException") w) (hXs : Q (.inr "java/lang/IllegalStateException") w) (hQ : ∀ (v : Int32) (w' : Hw), CO g w0 x nA cA lA kn w' → Q (.inl (some (.int v))) w') : WP (MX1_span g) Q (0, [some (.ref x), some (.int a0), some (.int a1), some (.int a2), none, none], [], w, 0, 0) := by
  obtain ⟨s, ho, hC⟩ := hC
  apply fX1_span hC
  all_goals first
    | with_reducible exact ho
    | skip
  all_goals
    intros
    first
    | with_reducible exact hXo
    | with_reducible exact hXs
    | with_reducible refine hQ _ _ (CO.mk (by assumption) ?_)
  all_goals first
    | with_reducible exact ho
    | with_reducible exact ho.num
    | with_reducible exact ho.rf
    | with_reducible exact ho.mk (by assumption)
    | with_reducible exact ho.mk (ho.c' (by assumption) (by assumption))
    | with_reducible exact ho.mkO (by assumption) (by assumption)
    | with_reducible exact ho.card0
    | with_reducible exact ho.card (ho.c' (by assumption) (by assumption))
    | with_reducible exact ho.card (ho.p' (by assumption))
    | with_reducible exact ho.lay (ho.c' (by assumption) (by assumption)) (by assumption)
    | with_reducible exact ho.gap (by assumption)
    | with_reducible exact ho.tur
theorem oX1_shift {a0 : Int32} {a1 : Int32} (hC : CO g w0 x nA cA lA kn w) (hXo : Q (.inr "java/lang/IndexOutOfBoundsException") w) (hXs : Q (.inr "java/lang/IllegalStateException") w) (hQ : ∀ (v : Int32) (w' : Hw), CO g w0 x nA cA lA kn w' → Q (.inl (some (.int v))) w') : WP (MX1_shift g) Q (0, [some (.ref x), some (.int a0), some (.int a1), none], [], w, 0, 0) := by
  obtain ⟨s, ho, hC⟩ := hC
  apply fX1_shift hC
  all_goals first
    | with_reducible exact ho
    | skip
  all_goals
    intros
    first
    | with_reducible exact hXo
    | with_reducible exact hXs
    | with_reducible refine hQ _ _ (CO.mk (by assumption) ?_)
  all_goals first
    | with_reducible exact ho
    | with_reducible exact ho.num
    | with_reducible exact ho.rf
    | with_reducible exact ho.mk (by assumption)
    | with_reducible exact ho.mk (ho.c' (by assumption) (by assumption))
    | with_reducible exact ho.mkO (by assumption) (by assumption)
    | with_reducible exact ho.card0
    | with_reducible exact ho.card (ho.c' (by assumption) (by assumption))
    | with_reducible exact ho.card (ho.p' (by assumption))
    | with_reducible exact ho.lay (ho.c' (by assumption) (by assumption)) (by assumption)
    | with_reducible exact ho.gap (by assumption)
    | with_reducible exact ho.tur
theorem oX1_drop {a0 : Int32} (hC : CO g w0 x nA cA lA kn w) (hXo : Q (.inr "java/lang/IndexOutOfBoundsException") w) (hQ : ∀ (v : Int32) (w' : Hw), CO g w0 x nA cA lA kn w' → Q (.inl (some (.int v))) w') : WP (MX1_drop g) Q (0, [some (.ref x), some (.int a0), none], [], w, 0, 0) := by
  obtain ⟨s, ho, hC⟩ := hC
  apply fX1_drop hC
  all_goals first
    | with_reducible exact ho
    | skip
  all_goals
    intros
    first
    | with_reducible exact hXo
    | with_reducible refine hQ _ _ (CO.mk (by assumption) ?_)
  all_goals first
    | with_reducible exact ho
    | with_reducible exact ho.num
    | with_reducible exact ho.rf
    | with_reducible exact ho.mk (by assumption)
    | with_reducible exact ho.mk (ho.c' (by assumption) (by assumption))
    | with_reducible exact ho.mkO (by assumption) (by assumption)
    | with_reducible exact ho.card0
    | with_reducible exact ho.card (ho.c' (by assumption) (by assumption))
    | with_reducible exact ho.card (ho.p' (by assumption))
    | with_reducible exact ho.lay (ho.c' (by assumption) (by assumption)) (by assumption)
    | with_reducible exact ho.gap (by assumption)
    | with_reducible exact ho.tur
theorem oX1_take {a0 : Int32} {a1 : Int32} {a2 : Int32} (hC : CO g w0 x nA cA lA kn w) (hXo : Q (.inr "java/lang/IndexOutOfBoundsException") w) (hXa : Q (.inr "java/lang/IllegalArgumentException") w) (hXs : Q (.inr "java/lang/IllegalStateException") w) (hQ : ∀ (v : Int32) (w' : Hw), CO g w0 x nA cA lA kn w' → Q (.inl (some (.int v))) w') : WP (MX1_take g) Q (0, [some (.ref x), some (.int a0), some (.int a1), some (.int a2)], [], w, 0, 0) := by
  obtain ⟨s, ho, hC⟩ := hC
  apply fX1_take hC
  all_goals first
    | with_reducible exact ho
    | skip
  all_goals
    intros
    first
    | with_reducible exact hXo
    | with_reducible exact hXa
    | with_reducible exact hXs
    | with_reducible refine hQ _ _ (CO.mk (by assumption) ?_)
  all_goals first
    | with_reducible exact ho
    | with_reducible exact ho.num
    | with_reducible exact ho.rf
    | with_reducible exact ho.mk (by assumption)
    | with_reducible exact ho.mk (ho.c' (by assumption) (by assumption))
    | with_reducible exact ho.mkO (by assumption) (by assumption)
    | with_reducible exact ho.card0
    | with_reducible exact ho.card (ho.c' (by assumption) (by assumption))
    | with_reducible exact ho.card (ho.p' (by assumption))
    | with_reducible exact ho.lay (ho.c' (by assumption) (by assumption)) (by assumption)
    | with_reducible exact ho.gap (by assumption)
    | with_reducible exact ho.tur
theorem oX1_lay {a0 : Int32} (hC : CO g w0 x nA cA lA kn w) (hXo : Q (.inr "java/lang/IndexOutOfBoundsException") w) (hXs : Q (.inr "java/lang/IllegalStateException") w) (hQ : ∀ (v : Int32) (w' : Hw), CO g w0 x nA cA lA kn w' → Q (.inl (some (.int v))) w') : WP (MX1_lay g) Q (0, [some (.ref x), some (.int a0), none], [], w, 0, 0) := by
  obtain ⟨s, ho, hC⟩ := hC
  apply fX1_lay hC
  all_goals first
    | with_reducible exact ho
    | skip
  all_goals
    intros
    first
    | with_reducible exact hXo
    | with_reducible exact hXs
    | with_reducible refine hQ _ _ (CO.mk (by assumption) ?_)
  all_goals first
    | with_reducible exact ho
    | with_reducible exact ho.num
    | with_reducible exact ho.rf
    | with_reducible exact ho.mk (by assumption)
    | with_reducible exact ho.mk (ho.c' (by assumption) (by assumption))
    | with_reducible exact ho.mkO (by assumption) (by assumption)
    | with_reducible exact ho.card0
    | with_reducible exact ho.card (ho.c' (by assumption) (by assumption))
    | with_reducible exact ho.card (ho.p' (by assumption))
    | with_reducible exact ho.lay (ho.c' (by assumption) (by assumption)) (by assumption)
    | with_reducible exact ho.gap (by assumption)
    | with_reducible exact ho.tur
theorem oX1_lift {a0 : Int32} (hC : CO g w0 x nA cA lA kn w) (hXo : Q (.inr "java/lang/IndexOutOfBoundsException") w) (hXs : Q (.inr "java/lang/IllegalStateException") w) (hQ : ∀ (v : Int32) (w' : Hw), CO g w0 x nA cA lA kn w' → Q (.inl (some (.int v))) w') : WP (MX1_lift g) Q (0, [some (.ref x), some (.int a0), none], [], w, 0, 0) := by
  obtain ⟨s, ho, hC⟩ := hC
  apply fX1_lift hC
  all_goals first
    | with_reducible exact ho
    | skip
  all_goals
    intros
    first
    | with_reducible exact hXo
    | with_reducible exact hXs
    | with_reducible refine hQ _ _ (CO.mk (by assumption) ?_)
  all_goals first
    | with_reducible exact ho
    | with_reducible exact ho.num
    | with_reducible exact ho.rf
    | with_reducible exact ho.mk (by assumption)
    | with_reducible exact ho.mk (ho.c' (by assumption) (by assumption))
    | with_reducible exact ho.mkO (by assumption) (by assumption)
    | with_reducible exact ho.card0
    | with_reducible exact ho.card (ho.c' (by assumption) (by assumption))
    | with_reducible exact ho.card (ho.p' (by assumption))
    | with_reducible exact ho.lay (ho.c' (by assumption) (by assumption)) (by assumption)
    | with_reducible exact ho.gap (by assumption)
    | with_reducible exact ho.tur
theorem oX1_pick {a0 : Int32} {a1 : Int32} (hC : CO g w0 x nA cA lA kn w) (hXo : Q (.inr "java/lang/IndexOutOfBoundsException") w) (hQ : ∀ (v : Int32) (w' : Hw), CO g w0 x nA cA lA kn w' → Q (.inl (some (.int v))) w') : WP (MX1_pick g) Q (0, [some (.ref x), some (.int a0), some (.int a1), none], [], w, 0, 0) := by
  obtain ⟨s, ho, hC⟩ := hC
  apply fX1_pick hC
  all_goals first
    | with_reducible exact ho
    | skip
  all_goals
    intros
    first
    | with_reducible exact hXo
    | with_reducible refine hQ _ _ (CO.mk (by assumption) ?_)
  all_goals first
    | with_reducible exact ho
    | with_reducible exact ho.num
    | with_reducible exact ho.rf
    | with_reducible exact ho.mk (by assumption)
    | with_reducible exact ho.mk (ho.c' (by assumption) (by assumption))
    | with_reducible exact ho.mkO (by assumption) (by assumption)
    | with_reducible exact ho.card0
    | with_reducible exact ho.card (ho.c' (by assumption) (by assumption))
    | with_reducible exact ho.card (ho.p' (by assumption))
    | with_reducible exact ho.lay (ho.c' (by assumption) (by assumption)) (by assumption)
    | with_reducible exact ho.gap (by assumption)
    | with_reducible exact ho.tur
theorem oX1_turn  (hC : CO g w0 x nA cA lA kn w) (hQ : ∀ (v : Int32) (w' : Hw), CO g w0 x nA cA lA kn w' → Q (.inl (some (.int v))) w') : WP (MX1_turn g) Q (0, [some (.ref x), none, none, none], [], w, 0, 0) := by
  obtain ⟨s, ho, hC⟩ := hC
  apply fX1_turn hC
  all_goals first
    | with_reducible exact ho
    | skip
  all_goals
    intros
    first
    | with_reducible refine hQ _ _ (CO.mk (by assumption) ?_)
  all_goals first
    | with_reducible exact ho
    | with_reducible exact ho.num
    | with_reducible exact ho.rf
    | with_reducible exact ho.mk (by assumption)
    | with_reducible exact ho.mk (ho.c' (by assumption) (by assumption))
    | with_reducible exact ho.mkO (by assumption) (by assumption)
    | with_reducible exact ho.card0
    | with_reducible exact ho.card (ho.c' (by assumption) (by assumption))
    | with_reducible exact ho.card (ho.p' (by assumption))
    | with_reducible exact ho.lay (ho.c' (by assumption) (by assumption)) (by assumption)
    | with_reducible exact ho.gap (by assumption)
    | with_reducible exact ho.tur
theorem oX1_sweep  (hC : CO g w0 x nA cA lA kn w) (hQ : ∀ (v : Int32) (w' : Hw), CO g w0 x nA cA lA kn w' → Q (.inl (some (.int v))) w') : WP (MX1_sweep g) Q (0, [some (.ref x), none, none], [], w, 0, 0) := by
  obtain ⟨s, ho, hC⟩ := hC
  exact fX1_sweep hC (fun w1 h1 => hQ _ _ ⟨_, ho.zero, h1 s.2.2.2.1⟩)
theorem oX1_knock  (hC : CO g w0 x nA cA lA kn w) (hQ : ∀ (w' : Hw), CO g w0 x nA cA lA (kn + 1) w' → Q (.inl (some (.int (kn + 1)))) w') : WP (MX1_knock g) Q (0, [some (.ref x)], [], w, 0, 0) := by
  obtain ⟨s, ho, hC⟩ := hC
  exact fX1_knock hC (fun w1 h1 => hQ _ ⟨_, ho, h1⟩)
theorem oX1_isSound (hC : CO g w0 x nA cA lA kn w) (hQ : ∀ (w' : Hw), ext g w w' → Q (.inl (some (.int 1))) w') : WP (MX1_isSound g) Q (0, [some (.ref x), none, none], [], w, 0, 0) := by
  obtain ⟨s, ho, hC⟩ := hC
  exact fX1_isSound hC ho hQ
end
