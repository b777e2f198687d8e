section
section
variable {g : RO} {Q : Ot → Hw → Prop} {w0 w : Hw}
variable {y nM : Nat} {kd : Int32}
theorem dl1 {i c : Int32} (h : ¬ c < i) (hc : c.toInt < 1000000) : (i + 1).toInt = i.toInt + 1 ∧ i.toInt ≤ c.toInt := ⟨i32_sl h hc, i32_nlt h⟩
theorem dl2 {i c : Int32} (h : i < c) : (i + 1).toInt = i.toInt + 1 ∧ i.toInt < c.toInt := ⟨i32_s h, i32_lt h⟩
theorem lt87 {a : Int32} (h : a < 8) : ¬ 7 < a := by
  have h1 := i32_lt h
  refine i32_of_nlt ?_
  have e : (7 : Int32).toInt = 7 := rfl
  have e6 : (8 : Int32).toInt = 8 := rfl
  omega
theorem lt43 {a : Int32} (h : a < 4) : ¬ 3 < a := by
  have h1 := i32_lt h
  refine i32_of_nlt ?_
  have e : (3 : Int32).toInt = 3 := rfl
  have e6 : (4 : Int32).toInt = 4 := rfl
  omega
theorem i0z : (0 : Int32).toInt = 0 := rfl
theorem dgk {i3 : Int32} {k : Nat} (h : ¬ 5 < i3) (hk : (k : Int) ≤ 16 + 12 * i3.toInt) : k + 12 ≤ 90 := by
  have e := i32_nlt h
  have z : (5 : Int32).toInt = 5 := rfl
  omega
theorem dgm {i3 : Int32} {m : Nat} (h : ¬ 5 < i3) (hm : (m : Int) ≤ 69 + 72 * i3.toInt) : m + 72 ≤ 520 := by
  have e := i32_nlt h
  have z : (5 : Int32).toInt = 5 := rfl
  omega
set_option maxHeartbeats 8000000 in
theorem elX3_digest_340 (hM : MM g w0 y nM kd w) (hQ : ∀ (v : Int64) w', ext g w w' → Q (.inl (some (.long v))) w') : ∀ (d : Nat) (i1 : Int64) (i3 : Int32) (o4 o5 : Option Value) (w' : Hw) (k m : Nat), ¬ i3 < 0 → ext g w w' → 6 - i3.toInt ≤ (d : Int) → i3.toInt ≤ 6 → (k : Int) ≤ 16 + 12 * i3.toInt → (m : Int) ≤ 69 + 72 * i3.toInt → WP (MX3_digest g) Q (340, [some (.ref y), some (.long i1), none, some (.int i3), o4, o5], [], w', k, m) := by
  have zb : (5 : Int32).toInt = 5 := rfl
  intro d
  induction d with
  | zero =>
    intro i1 i3 o4 o5 w' k m z0 hk hm hi km mm
    rw [eX3_digest_340]
    simp only [eX3_digest_341, eX3_digest_345, eX3_digest_363, wt_nil, wt_long, Nat.add_zero]
    split
    with_reducible refine And.intro ?_ ?_
    omega
    with_reducible refine And.intro ?_ ?_
    omega
    with_reducible refine And.intro ?_ ?_
    omega
    with_reducible refine sX3_add (fun _ => ?_)
    simp only [eX3_digest_368, kx_l, tl_s]
    with_reducible refine And.intro ?_ ?_
    omega
    with_reducible refine And.intro ?_ ?_
    omega
    with_reducible exact hQ _ _ ((by first | assumption | exact ext.rf | exact ext.tr hk (by assumption)))
    with_reducible refine And.intro ?_ ?_
    with_reducible exact (by exfalso; have e := dl1 (c := 5) (i := i3) (by assumption) (by decide); omega)
    with_reducible refine And.intro ?_ ?_
    with_reducible exact (by exfalso; have e := dl1 (c := 5) (i := i3) (by assumption) (by decide); omega)
    with_reducible refine And.intro ?_ ?_
    with_reducible exact (by exfalso; have e := dl1 (c := 5) (i := i3) (by assumption) (by decide); omega)
    with_reducible refine And.intro ?_ ?_
    with_reducible exact (by exfalso; have e := dl1 (c := 5) (i := i3) (by assumption) (by decide); omega)
    with_reducible exact (by exfalso; have e := dl1 (c := 5) (i := i3) (by assumption) (by decide); omega)
  | succ d ih =>
    intro i1 i3 o4 o5 w' k m z0 hk hm hi km mm
    rw [eX3_digest_340]
    simp only [eX3_digest_341, eX3_digest_345, eX3_digest_363, wt_nil, wt_long, Nat.add_zero]
    split
    with_reducible refine And.intro ?_ ?_
    omega
    with_reducible refine And.intro ?_ ?_
    omega
    with_reducible refine And.intro ?_ ?_
    omega
    with_reducible refine sX3_add (fun _ => ?_)
    simp only [eX3_digest_368, kx_l, tl_s]
    with_reducible refine And.intro ?_ ?_
    omega
    with_reducible refine And.intro ?_ ?_
    omega
    with_reducible exact hQ _ _ ((by first | assumption | exact ext.rf | exact ext.tr hk (by assumption)))
    with_reducible refine And.intro ?_ ?_
    with_reducible refine go_Y (hM.ext' (by first | assumption | exact ext.rf | exact ext.tr hk (by assumption))) (fun _ _ _ _ _ _ => ?_)
    simp only []
    with_reducible refine And.intro ?_ ?_
    omega
    with_reducible refine And.intro ?_ ?_
    with_reducible exact dgk (by assumption) km
    with_reducible refine And.intro ?_ ?_
    with_reducible exact dgm (by assumption) mm
    with_reducible refine sX3_pileNowM (hM.ext' (by first | assumption | exact ext.rf | exact ext.tr hk (by assumption))) (by decide) (by decide) (by assumption) (by assumption) (fun _ _ _ => ?_)
    simp only [eX3_digest_352, kx_l, wt_nil, tl_s, Nat.add_zero]
    with_reducible refine And.intro ?_ ?_
    omega
    with_reducible refine And.intro ?_ ?_
    with_reducible exact dgk (by assumption) km
    with_reducible refine And.intro ?_ ?_
    with_reducible exact dgm (by assumption) mm
    with_reducible refine sX3_add (fun _ => ?_)
    simp only [eX3_digest_356, kx_l, nl_ref, nl_none, tl_s]
    with_reducible exact ih _ _ _ _ _ _ _ (ic_pl (by assumption) (by assumption) (by decide)) (by first | assumption | exact ext.rf | exact ext.tr hk (by assumption)) (by have e := dl1 (c := 5) (i := i3) (by assumption) (by decide); omega) (by have e := dl1 (c := 5) (i := i3) (by assumption) (by decide); omega) (by have e := dl1 (c := 5) (i := i3) (by assumption) (by decide); omega) (by have e := dl1 (c := 5) (i := i3) (by assumption) (by decide); omega)
set_option maxHeartbeats 8000000 in
theorem elX3_digest_316 (hM : MM g w0 y nM kd w) (hQ : ∀ (v : Int64) w', ext g w w' → Q (.inl (some (.long v))) w') : ∀ (d : Nat) (i1 : Int64) (i3 : Int32) (o4 o5 : Option Value) (w' : Hw) (k m : Nat), ¬ i3 < 0 → ext g w w' → 3 - i3.toInt ≤ (d : Int) → i3.toInt ≤ 3 → (k : Int) ≤ 16 → (m : Int) ≤ 69 → WP (MX3_digest g) Q (316, [some (.ref y), some (.long i1), none, some (.int i3), o4, o5], [], w', k, m) := by
  have zb : (2 : Int32).toInt = 2 := rfl
  intro d
  induction d with
  | zero =>
    intro i1 i3 o4 o5 w' k m z0 hk hm hi km mm
    rw [eX3_digest_316]
    simp only [eX3_digest_317, eX3_digest_321, eX3_digest_338, wt_nil, wt_long, nl_none, Nat.add_zero]
    split
    with_reducible exact elX3_digest_340 hM hQ 70 _ _ _ _ _ _ _ (by decide) hk (by decide) (by decide) (by have z := i0z; omega) (by have z := i0z; omega)
    with_reducible refine And.intro ?_ ?_
    with_reducible exact (by exfalso; have e := dl1 (c := 2) (i := i3) (by assumption) (by decide); omega)
    with_reducible refine And.intro ?_ ?_
    with_reducible exact (by exfalso; have e := dl1 (c := 2) (i := i3) (by assumption) (by decide); omega)
    with_reducible refine And.intro ?_ ?_
    with_reducible exact (by exfalso; have e := dl1 (c := 2) (i := i3) (by assumption) (by decide); omega)
    with_reducible refine And.intro ?_ ?_
    with_reducible exact (by exfalso; have e := dl1 (c := 2) (i := i3) (by assumption) (by decide); omega)
    with_reducible exact (by exfalso; have e := dl1 (c := 2) (i := i3) (by assumption) (by decide); omega)
  | succ d ih =>
    intro i1 i3 o4 o5 w' k m z0 hk hm hi km mm
    rw [eX3_digest_316]
    simp only [eX3_digest_317, eX3_digest_321, eX3_digest_338, wt_nil, wt_long, nl_none, Nat.add_zero]
    split
    with_reducible exact elX3_digest_340 hM hQ 70 _ _ _ _ _ _ _ (by decide) hk (by decide) (by decide) (by have z := i0z; omega) (by have z := i0z; omega)
    with_reducible refine And.intro ?_ ?_
    with_reducible refine go_Y (hM.ext' (by first | assumption | exact ext.rf | exact ext.tr hk (by assumption))) (fun _ _ _ _ _ _ => ?_)
    simp only []
    with_reducible refine And.intro ?_ ?_
    omega
    with_reducible refine And.intro ?_ ?_
    omega
    with_reducible refine And.intro ?_ ?_
    omega
    with_reducible refine sX3_whichNow_ (hM.ext' (by first | assumption | exact ext.rf | exact ext.tr hk (by assumption))) (fun _ => ?_)
    simp only [eX3_digest_327, kx_l, wt_nil, tl_s, Nat.add_zero]
    with_reducible refine And.intro ?_ ?_
    omega
    with_reducible refine And.intro ?_ ?_
    omega
    with_reducible refine And.intro ?_ ?_
    omega
    with_reducible refine sX3_add (fun _ => ?_)
    simp only [eX3_digest_331, kx_l, nl_ref, nl_none, tl_s]
    with_reducible exact ih _ _ _ _ _ _ _ (ic_pl (by assumption) (by assumption) (by decide)) (by first | assumption | exact ext.rf | exact ext.tr hk (by assumption)) (by have e := dl1 (c := 2) (i := i3) (by assumption) (by decide); omega) (by have e := dl1 (c := 2) (i := i3) (by assumption) (by decide); omega) (by have e := dl1 (c := 2) (i := i3) (by assumption) (by decide); omega) (by have e := dl1 (c := 2) (i := i3) (by assumption) (by decide); omega)
end
end
