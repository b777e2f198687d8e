section
section
variable {g : RO} {Q : Ot → Hw → Prop} {w0 w : Hw}
/-- a row of the model: four longs -/
def isRow (w : Hw) (b : Nat) : Prop := ∃ f : Nat → Int64, w b = some (.inl (0, 4, .inr (.inl f)))
theorem isRow.ext {g : RO} {w w' : Hw} {b : Nat} (h : isRow w b) (k : ext g w w') : isRow w' b := h.imp fun _ z => k.1 b _ z
theorem isRow_up {w : Hw} {a b : Nat} {o1 o2 : Ob} (h : isRow w b) (ha : w a = some o1) (ho : ∀ z, o1 ≠ .inl (0, 4, z)) : isRow (upw w a o2) b := by
  obtain ⟨f, h⟩ := h
  refine ⟨f, ?_⟩
  rw [upw_n]
  · exact h
  · rintro rfl
    rw [ha] at h
    cases h
    exact ho _ rfl
theorem gl_Row {g : RO} {w : Hw} {b : Nat} {K : Nat → (Nat → Int64) → Prop} (h : isRow w b) (k : ∀ f, K 4 f) : gl (rd g w b) 0 K := by
  obtain ⟨f, h⟩ := h
  rw [rd_e h, gl_s]
  exact k f
theorem gl_Roww {w : Hw} {b : Nat} {K : Nat → (Nat → Int64) → Prop} (h : isRow w b) (k : ∀ f, K 4 f) : gl (w b) 0 K := by
  obtain ⟨f, h⟩ := h
  rw [h, gl_s]
  exact k f
/-- the empty row of an empty list, the class object -/
def EG (g : RO) (w : Hw) : Prop := (∃ e : Nat, g.1 0 = .ref e ∧ g.2 e = some (.inl (5, 0, qc fun _ => none)) ∧ w e = none) ∧ ∃ mi : Nat, g.1 10 = .ref mi
theorem EG.ext {g : RO} {w w' : Hw} (h : EG g w) (k : ext g w w') : EG g w' := ⟨h.1.imp fun e z => ⟨z.1, z.2.1, k.2 e _ z.2.1 z.2.2⟩, h.2⟩
/-- a list: its row of references has cap places, the first n are taken -/
def LL (g : RO) (w : Hw) (L D cap : Nat) (n : Int32) (h : Nat → Option Nat) : Prop := (∃ mc : Int32, w L = some (.inr (3, [.int mc, .ref D, .int n]))) ∧ ((w D = some (.inl (5, cap, qc h)) ∧ (cap = 10 ∨ cap = 15)) ∨ (cap = 0 ∧ g.1 0 = .ref D ∧ w D = none ∧ g.2 D = some (.inl (5, 0, qc h)))) ∧ 0 ≤ n.toInt ∧ n.toInt ≤ (cap : Int)
theorem LL.opn {g : RO} {w : Hw} {L D cap : Nat} {n : Int32} {h : Nat → Option Nat} (k : LL g w L D cap n h) : ∃ mc : Int32, w L = some (.inr (3, [.int mc, .ref D, .int n])) ∧ rd g w L = some (.inr (3, [.int mc, .ref D, .int n])) ∧ rd g w D = some (.inl (5, cap, qc h)) ∧ 0 ≤ n.toInt ∧ n.toInt ≤ (cap : Int) ∧ L ≠ D ∧ D ≠ L := by
  obtain ⟨⟨mc, h1⟩, h2, h3, h4⟩ := k
  have r : rd g w D = some (.inl (5, cap, qc h)) := by
    rcases h2 with ⟨h2, -⟩ | ⟨rfl, -, h5, h6⟩
    · exact rd_e h2
    · exact (by unfold rd; rw [h5]; exact h6)
  have ne : L ≠ D := fun e => by
    subst e
    rw [rd_e h1] at r
    cases r
  exact ⟨mc, h1, rd_e h1, r, h3, h4, ne, ne.symm⟩
theorem i32_f {a b : Int32} (h : b.toInt ≤ a.toInt) : (a < b) = False := eq_false (i32_of_nlt h)
theorem i32_t {a b : Int32} (h : a.toInt < b.toInt) : (a < b) = True := eq_true (i32_of_lt h)
theorem i32_z {a : Int32} (h : 0 ≤ a.toInt) : (a < 0) = False := i32_f (by have e : (0 : Int32).toInt = 0 := rfl; omega)
theorem al56 : ((5 : Nat) < 6) = True := eq_true (by decide)
theorem exal2 {a : Nat} {b : vp_A} {P : vp_A → Prop} : (∃ (t : Nat) (z : vp_A), (some (.inl (a, b)) : Option Ob) = some (.inl (t, z)) ∧ t < 6 ∧ P z) = (a < 6 ∧ P b) := propext ⟨fun ⟨t, z, e, h, k⟩ => by cases e; exact ⟨h, k⟩, fun h => ⟨a, b, rfl, h⟩⟩
theorem vpiM {a : Int32} {N : Nat} (h0 : (0 : Int) ≤ a.toInt) (h1 : a.toInt < (N : Int)) : vp_in a N := by
  rintro (h | h)
  · have := i32_lt h
    have e : (0 : Int32).toInt = 0 := rfl
    omega
  · have e1 : a.toNatClampNeg = a.toInt.toNat := rfl
    omega
set_option maxHeartbeats 4000000 in
theorem sJx4a65c_size {L D cap : Nat} {n : Int32} {h : Nat → Option Nat} (hl : LL g w L D cap n h) (hQ : Q (.inl (some (.int n))) w) : WP (MJx4a65c_size_8abf5 g) Q (0, [some (.ref L)], [], w, 0, 0) := by
  obtain ⟨mc, hL, rL, rD, hn0, hn1, n1, n2⟩ := hl.opn
  simp only [eJx4a65c_size_8abf5_0, eJx4a65c_size_8abf5_0N, eJx4a65c_size_8abf5_1, eJx4a65c_size_8abf5_4, ite_le, n45, n54, true_or, or_true, false_or, or_false, false_and, and_false, kx_l, kx_r, go_s, gl_s, gi_s, gb_s2, gb_s3, gq_s, wt_nil, wt_int, wt_long, wt_ref, wt_null, nl_int, nl_long, nl_ref, nl_null, nl_none, rf_n, rf_s, rf_st, tl_s, tl_n, g0, gS, ex1, nb_b, nb_0, nb_1, nf_i, nf_l, nf_ra, nf_ro, nf_na, nf_no, nf_b0, nf_z0, t45_4, t45_5, true_and, and_true, List.set_cons_zero, List.set_cons_succ, List.length_cons, List.length_nil, rd_s, upw_s, ne_eq, not_false_eq_true, Nat.zero_add, Nat.add_zero, if_true, if_false, rL]
  repeat' first | with_reducible refine And.intro ?_ ?_ | omega
  all_goals try exact hQ
set_option maxHeartbeats 4000000 in
theorem sJx4a65c_get {L D cap : Nat} {n i : Int32} {h : Nat → Option Nat} (hl : LL g w L D cap n h) (k0 : 0 ≤ i.toInt) (k1 : i.toInt < n.toInt) (hN : h i.toNatClampNeg = none → Q (.inl (some .null)) w) (hR : ∀ b, h i.toNatClampNeg = some b → Q (.inl (some (.ref b))) w) : WP (MJx4a65c_get_915e3 g) Q (0, [some (.ref L), some (.int i)], [], w, 0, 0) := by
  obtain ⟨mc, hL, rL, rD, hn0, hn1, n1, n2⟩ := hl.opn
  have iv : vp_in i cap := vpiM k0 (by omega)
  simp only [eJx4a65c_get_915e3_0, eJx4a65c_get_915e3_5, eJx4a65c_get_915e3_8, eJx4a65c_get_915e3_14, eJx4a65c_get_915e3_14N, eJx4a65c_elementData_915e3_0, eJx4a65c_elementData_915e3_4, eJx4a65c_elementData_915e3_6, eJx4a65c_elementData_915e3_6N, eJ15_checkIndex_7cf53_0, eJ15_checkIndex_7cf53_3N, eJ15_checkIndex_7cf53_6, eJ3_checkIndex_8e157_0, eJ3_checkIndex_8e157_4, eJ3_checkIndex_8e157_9N, eJ3_checkIndex_8e157_10, eJ3_checkIndex_8e157_16, n54, or_true, kx_l, kx_r, go_s, gq_s, wt_nil, rf_st, tl_s, g0, gS, ex1, true_and, Nat.add_zero, if_true, if_false, rL, rD, i32_z k0, i32_t k1]
  with_reducible refine And.intro ?_ ?_
  omega
  with_reducible refine And.intro ?_ ?_
  omega
  with_reducible refine And.intro ?_ ?_
  omega
  with_reducible refine And.intro ?_ ?_
  omega
  with_reducible refine And.intro ?_ ?_
  omega
  with_reducible refine And.intro ?_ ?_
  omega
  with_reducible refine And.intro ?_ ?_
  omega
  with_reducible refine And.intro ?_ ?_
  omega
  with_reducible refine And.intro ?_ ?_
  omega
  with_reducible refine And.intro ?_ ?_
  omega
  with_reducible refine And.intro ?_ ?_
  omega
  with_reducible refine And.intro ?_ ?_
  omega
  with_reducible refine And.intro ?_ ?_
  omega
  with_reducible refine And.intro ?_ ?_
  with_reducible assumption
  with_reducible refine And.intro ?_ ?_
  with_reducible intro _
  with_reducible refine And.intro ?_ ?_
  omega
  with_reducible refine And.intro ?_ ?_
  omega
  with_reducible refine And.intro ?_ ?_
  omega
  with_reducible refine And.intro ?_ ?_
  omega
  with_reducible exact hN (by assumption)
  with_reducible intro _
  with_reducible intro _
  with_reducible refine And.intro ?_ ?_
  omega
  with_reducible refine And.intro ?_ ?_
  omega
  with_reducible refine And.intro ?_ ?_
  omega
  with_reducible refine And.intro ?_ ?_
  omega
  with_reducible exact hR _ (by assumption)
set_option maxHeartbeats 4000000 in
theorem sJx4a65c_setN {L D cap : Nat} {n i : Int32} {h : Nat → Option Nat} (hl : LL g w L D cap n h) (hD : w D = some (.inl (5, cap, qc h))) (k0 : 0 ≤ i.toInt) (k1 : i.toInt < n.toInt) (hN : h i.toNatClampNeg = none → Q (.inl (some .null)) (upw w D (.inl (5, cap, qc (va_up h i.toNatClampNeg none))))) (hR : ∀ b0, h i.toNatClampNeg = some b0 → Q (.inl (some (.ref b0))) (upw w D (.inl (5, cap, qc (va_up h i.toNatClampNeg none))))) : WP (MJx4a65c_set_bcc79 g) Q (0, [some (.ref L), some (.int i), some .null, none], [], w, 0, 0) := by
  obtain ⟨mc, hL, rL, rD, hn0, hn1, n1, n2⟩ := hl.opn
  have iv : vp_in i cap := vpiM k0 (by omega)
  simp only [eJx4a65c_set_bcc79_0, eJx4a65c_set_bcc79_5, eJx4a65c_set_bcc79_8, eJx4a65c_set_bcc79_14, eJx4a65c_set_bcc79_14N, eJx4a65c_set_bcc79_15, eJx4a65c_set_bcc79_19, eJx4a65c_set_bcc79_20N, eJx4a65c_set_bcc79_21N, eJx4a65c_set_bcc79_22, eJx4a65c_set_bcc79_22N, eJx4a65c_set_bcc79_23, eJx4a65c_set_bcc79_23N, eJx4a65c_elementData_915e3_0, eJx4a65c_elementData_915e3_4, eJx4a65c_elementData_915e3_6, eJx4a65c_elementData_915e3_6N, eJ15_checkIndex_7cf53_0, eJ15_checkIndex_7cf53_3N, eJ15_checkIndex_7cf53_6, eJ3_checkIndex_8e157_0, eJ3_checkIndex_8e157_4, eJ3_checkIndex_8e157_9N, eJ3_checkIndex_8e157_10, eJ3_checkIndex_8e157_16, n54, or_true, kx_l, kx_r, go_s, gq_s, wt_nil, nl_null, rf_st, tl_s, g0, gS, ex1, true_and, Nat.add_zero, if_true, if_false, rL, rD, hD, i32_z k0, i32_t k1]
  with_reducible refine And.intro ?_ ?_
  omega
  with_reducible refine And.intro ?_ ?_
  omega
  with_reducible refine And.intro ?_ ?_
  omega
  with_reducible refine And.intro ?_ ?_
  omega
  with_reducible refine And.intro ?_ ?_
  omega
  with_reducible refine And.intro ?_ ?_
  omega
  with_reducible refine And.intro ?_ ?_
  omega
  with_reducible refine And.intro ?_ ?_
  omega
  with_reducible refine And.intro ?_ ?_
  omega
  with_reducible refine And.intro ?_ ?_
  omega
  with_reducible refine And.intro ?_ ?_
  omega
  with_reducible refine And.intro ?_ ?_
  omega
  with_reducible refine And.intro ?_ ?_
  omega
  with_reducible refine And.intro ?_ ?_
  with_reducible assumption
  with_reducible refine And.intro ?_ ?_
  with_reducible intro _
  with_reducible refine And.intro ?_ ?_
  omega
  with_reducible refine And.intro ?_ ?_
  omega
  with_reducible refine And.intro ?_ ?_
  with_reducible assumption
  with_reducible refine And.intro ?_ ?_
  omega
  with_reducible refine And.intro ?_ ?_
  omega
  with_reducible exact hN (by assumption)
  with_reducible intro _
  with_reducible intro _
  with_reducible refine And.intro ?_ ?_
  omega
  with_reducible refine And.intro ?_ ?_
  omega
  with_reducible refine And.intro ?_ ?_
  with_reducible assumption
  with_reducible refine And.intro ?_ ?_
  omega
  with_reducible refine And.intro ?_ ?_
  omega
  with_reducible exact hR _ (by assumption)
set_option maxHeartbeats 4000000 in
theorem sJx4a65c_setR {L D cap b : Nat} {n i : Int32} {h : Nat → Option Nat} (hb : isRow w b) (hl : LL g w L D cap n h) (hD : w D = some (.inl (5, cap, qc h))) (k0 : 0 ≤ i.toInt) (k1 : i.toInt < n.toInt) (hN : h i.toNatClampNeg = none → Q (.inl (some .null)) (upw w D (.inl (5, cap, qc (va_up h i.toNatClampNeg (some b)))))) (hR : ∀ b0, h i.toNatClampNeg = some b0 → Q (.inl (some (.ref b0))) (upw w D (.inl (5, cap, qc (va_up h i.toNatClampNeg (some b)))))) : WP (MJx4a65c_set_bcc79 g) Q (0, [some (.ref L), some (.int i), some (.ref b), none], [], w, 0, 0) := by
  obtain ⟨mc, hL, rL, rD, hn0, hn1, n1, n2⟩ := hl.opn
  have iv : vp_in i cap := vpiM k0 (by omega)
  simp only [eJx4a65c_set_bcc79_0, eJx4a65c_set_bcc79_5, eJx4a65c_set_bcc79_8, eJx4a65c_set_bcc79_14, eJx4a65c_set_bcc79_14N, eJx4a65c_set_bcc79_15, eJx4a65c_set_bcc79_19, eJx4a65c_set_bcc79_20, eJx4a65c_set_bcc79_21R, eJx4a65c_set_bcc79_22, eJx4a65c_set_bcc79_22N, eJx4a65c_set_bcc79_23, eJx4a65c_set_bcc79_23N, eJx4a65c_elementData_915e3_0, eJx4a65c_elementData_915e3_4, eJx4a65c_elementData_915e3_6, eJx4a65c_elementData_915e3_6N, eJ15_checkIndex_7cf53_0, eJ15_checkIndex_7cf53_3N, eJ15_checkIndex_7cf53_6, eJ3_checkIndex_8e157_0, eJ3_checkIndex_8e157_4, eJ3_checkIndex_8e157_9N, eJ3_checkIndex_8e157_10, eJ3_checkIndex_8e157_16, n54, or_true, false_or, false_and, kx_l, kx_r, go_s, gq_s, wt_nil, nl_ref, rf_st, tl_s, g0, gS, ex1, true_and, Nat.add_zero, if_true, if_false, rL, rD, hD, i32_z k0, i32_t k1]
  with_reducible refine And.intro ?_ ?_
  omega
  with_reducible refine And.intro ?_ ?_
  omega
  with_reducible refine And.intro ?_ ?_
  omega
  with_reducible refine And.intro ?_ ?_
  omega
  with_reducible refine And.intro ?_ ?_
  omega
  with_reducible refine And.intro ?_ ?_
  omega
  with_reducible refine And.intro ?_ ?_
  omega
  with_reducible refine And.intro ?_ ?_
  omega
  with_reducible refine And.intro ?_ ?_
  omega
  with_reducible refine And.intro ?_ ?_
  omega
  with_reducible refine And.intro ?_ ?_
  omega
  with_reducible refine And.intro ?_ ?_
  omega
  with_reducible refine And.intro ?_ ?_
  omega
  with_reducible refine And.intro ?_ ?_
  with_reducible assumption
  with_reducible refine And.intro ?_ ?_
  with_reducible intro _
  with_reducible refine And.intro ?_ ?_
  omega
  with_reducible refine And.intro ?_ ?_
  omega
  with_reducible refine And.intro ?_ ?_
  with_reducible assumption
  with_reducible refine And.intro ?_ ?_
  with_reducible refine gl_Roww (by assumption) ?_
  with_reducible intro _
  simp only []
  with_reducible refine And.intro ?_ ?_
  omega
  with_reducible refine And.intro ?_ ?_
  omega
  with_reducible exact hN (by assumption)
  with_reducible intro _
  with_reducible intro _
  with_reducible refine And.intro ?_ ?_
  omega
  with_reducible refine And.intro ?_ ?_
  omega
  with_reducible refine And.intro ?_ ?_
  with_reducible assumption
  with_reducible refine And.intro ?_ ?_
  with_reducible refine gl_Roww (by assumption) ?_
  with_reducible intro _
  simp only []
  with_reducible refine And.intro ?_ ?_
  omega
  with_reducible refine And.intro ?_ ?_
  omega
  with_reducible exact hR _ (by assumption)
set_option maxHeartbeats 4000000 in
theorem sJx4a65c_init {L : Nat} (hE : EG g w) (hL : w L = some (.inr (3, [.int 0, .null, .int 0]))) (hQ : ∀ D w', (∀ (a : Nat) (o : Ob), w a = some o → a ≠ L → w' a = some o) → (∀ (a : Nat) (o : Ob), g.2 a = some o → w a = none → w' a = none) → LL g w' L D 0 0 (fun _ => none) → Q (.inl none) w') : WP (MJx4a65c_init_da8c8 g) Q (0, [some (.ref L)], [], w, 0, 0) := by
  obtain ⟨⟨e, e1, e2, e3⟩, -⟩ := hE
  have hne : e ≠ L := fun z => by
    rw [z, hL] at e3
    cases e3
  have rL : rd g w L = some (.inr (3, [.int 0, .null, .int 0])) := rd_e hL
  simp only [eJx4a65c_init_da8c8_0, eJx4a65c_init_da8c8_0N, eJx4a65c_init_da8c8_1, eJx4a65c_init_da8c8_4, eJx4a65c_init_da8c8_4N, eJx4a65c_init_da8c8_5, eJx4a65c_init_da8c8_11, eJxc12de_init_da8c8_0, eJxc12de_init_da8c8_0N, eJxc12de_init_da8c8_1, eJxc12de_init_da8c8_4, eJxc12de_init_da8c8_4N, eJxc12de_init_da8c8_5, eJxc12de_init_da8c8_9, eJxa1e45_init_da8c8_0, eJxa1e45_init_da8c8_0N, eJxa1e45_init_da8c8_1, eJxa1e45_init_da8c8_4, ite_le, n45, n54, true_or, or_true, false_or, or_false, false_and, and_false, kx_l, kx_r, go_s, gl_s, gi_s, gb_s2, gb_s3, gq_s, wt_nil, wt_int, wt_long, wt_ref, wt_null, nl_int, nl_long, nl_ref, nl_null, nl_none, rf_n, rf_s, rf_st, tl_s, tl_n, g0, gS, ex1, nb_b, nb_0, nb_1, nf_i, nf_l, nf_ra, nf_ro, nf_na, nf_no, nf_b0, nf_z0, t45_4, t45_5, true_and, and_true, List.set_cons_zero, List.set_cons_succ, List.length_cons, List.length_nil, rd_s, upw_s, ne_eq, not_false_eq_true, Nat.zero_add, Nat.add_zero, if_true, if_false, hL, rL, e1, tyJx4a65c, nf_ra, upw2]
  repeat' first | with_reducible refine And.intro ?_ ?_ | omega
  all_goals try exact trivial
  refine hQ e _ (fun a o h1 h2 => by rw [upw_n h2]; exact h1) (fun a o h1 h2 => ?_) ⟨⟨0, upw_s _ _ _⟩, Or.inr ⟨rfl, e1, by rw [upw_n hne]; exact e3, e2⟩, by decide, by decide⟩
  rw [upw_n]
  · exact h2
  · rintro rfl
    rw [hL] at h2
    cases h2
end
end
