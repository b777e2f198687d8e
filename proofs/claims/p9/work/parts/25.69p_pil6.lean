section
section
variable {g : RO} {Q : Ot → Hw → Prop} {w0 w : Hw}
variable {y nM : Nat} {kd : Int32}
theorem sX3_fixedV {g : RO} {Q : Ot → Hw → Prop} {w : Hw} {p : Nat} (hp : isRow w p) (hQ : ∀ v : Int32, Q (.inl (some (.int v))) w) : WP (MX3_fixed g) Q (0, [some (.ref p)], [], w, 0, 0) := sX3_fixed hp (hQ 1) (hQ 0)
theorem sX3_smallV {g : RO} {Q : Ot → Hw → Prop} {w : Hw} {p : Nat} (hp : isRow w p) (hQ : ∀ v : Int32, Q (.inl (some (.int v))) w) : WP (MX3_small g) Q (0, [some (.ref p)], [], w, 0, 0) := sX3_small hp (hQ 1) (hQ 0)
theorem sX3_validV {g : RO} {Q : Ot → Hw → Prop} {w : Hw} {p : Nat} {a : Int64} {b : Int32} (hp : isRow w p) (hQ : ∀ v : Int32, Q (.inl (some (.int v))) w) : WP (MX3_valid g) Q (0, [some (.ref p), some (.long a), none, some (.int b)], [], w, 0, 0) := sX3_valid hp (hQ 1) (hQ 0)
theorem ext_up3 {w1 : Hw} {q : Nat} {o : Ob} (h : ext g w w1) (hq : rd g w1 q = none) : ext g w (upw w1 q o) := ext_up2 h (by
  have e : w q = none := by
    cases e : w q with
    | none => rfl
    | some o2 =>
      have e2 := rd_none hq
      rw [h.1 _ _ e] at e2
      cases e2
  unfold rd
  rw [e]
  exact rd_ro hq)
theorem ext_n {w' : Hw} {a : Nat} (k : ext g w w') (h : w' a = none) : w a = none := by
  cases e : w a with
  | none => rfl
  | some o =>
    rw [k.1 _ _ e] at h
    cases h
theorem pz1 {i n : Int32} {k : Nat} (h : i < n) (hk : (k : Int) ≤ i.toInt) (hn : 0 ≤ n.toInt ∧ n.toInt ≤ 12) : k + 1 ≤ 12 := by
  have := i32_lt h
  omega
theorem pz6 {i n : Int32} {k : Nat} (h : i < n) (hk : (k : Int) ≤ 6 * i.toInt) (hn : 0 ≤ n.toInt ∧ n.toInt ≤ 12) : k + 6 ≤ 72 := by
  have := i32_lt h
  omega
theorem pz1e {i n : Int32} {k : Nat} (h : ¬ i < n) (hn : 0 ≤ n.toInt ∧ n.toInt ≤ 12) (hi : i.toInt ≤ n.toInt) (hk : (k : Int) ≤ i.toInt) : k ≤ 12 := by
  omega
theorem pz6e {i n : Int32} {k : Nat} (h : ¬ i < n) (hn : 0 ≤ n.toInt ∧ n.toInt ≤ 12) (hi : i.toInt ≤ n.toInt) (hk : (k : Int) ≤ 6 * i.toInt) : k ≤ 72 := by
  omega
theorem pz_n {i n : Int32} (h : i < n) : (i + 1).toInt ≤ n.toInt := by
  rw [i32_s h]
  have := i32_lt h
  omega
theorem n6e : (6 : Int32).toNatClampNeg = 6 := rfl
theorem n6a : ¬ (6 : Int32) < 0 := by decide
theorem vpi6x : vp_in 0 6 ∧ vp_in 1 6 ∧ vp_in 2 6 ∧ vp_in 3 6 ∧ vp_in 4 6 ∧ vp_in 5 6 := ⟨vpiM (by decide) (by decide), vpiM (by decide) (by decide), vpiM (by decide) (by decide), vpiM (by decide) (by decide), vpiM (by decide) (by decide), vpiM (by decide) (by decide)⟩
theorem n5e : (5 : Int32).toNatClampNeg = 5 := rfl
theorem n5a : ¬ (5 : Int32) < 0 := by decide
theorem vpi5x : vp_in 0 5 ∧ vp_in 1 5 ∧ vp_in 2 5 ∧ vp_in 3 5 ∧ vp_in 4 5 := ⟨vpiM (by decide) (by decide), vpiM (by decide) (by decide), vpiM (by decide) (by decide), vpiM (by decide) (by decide), vpiM (by decide) (by decide)⟩
theorem vpi5n {a : Int32} (h0 : ¬ a < 0) (h1 : ¬ 4 < a) : vp_in a 5 := vpiM (i32_0 h0) (by
  have h := i32_nlt h1
  have e : (4 : Int32).toInt = 4 := rfl
  omega)
set_option maxHeartbeats 8000000 in
theorem lX3_pileNow_5 {a c n : Int32} (hM : MM g w0 y nM kd w) (hP : PN g w y n) (k0 : ¬ a < 0) (k1 : ¬ 7 < a) (c0 : ¬ c < 0) (c1 : ¬ 5 < c) (hQ : ∀ (v : Int32) w', ext g w w' → Q (.inl (some (.int v))) w') : ∀ (d : Nat) (i3 i4 : Int32) (o5 o6 : Option Value) (w' : Hw) (k m : Nat), ¬ i4 < 0 → ext g w w' → n.toInt - i4.toInt ≤ (d : Int) → i4.toInt ≤ n.toInt → (k : Int) ≤ i4.toInt → (m : Int) ≤ 6 * i4.toInt → WP (MX3_pileNow g) Q (5, [some (.ref y), some (.int a), some (.int c), some (.int i3), some (.int i4), o5, o6], [], w', k, m) := by
  have hnb := hP.bd
  intro d
  induction d with
  | zero =>
    intro i3 i4 o5 o6 w' k m z0 hk hm hi km mm
    rw [eX3_pileNow_5]
    simp only [eX3_pileNow_7]
    with_reducible refine go_Y (hM.ext' (by first | assumption | exact ext.rf | exact ext_up2 ext.rf (by assumption) | exact ext_up3 (by assumption) (by assumption) | exact ext_up3 (ext_up2 ext.rf (by assumption)) (by assumption))) (fun _ _ _ _ _ _ => ?_)
    simp only [eX3_pileNow_11, wt_nil, wt_int, g0, gS, ex1, Nat.add_zero]
    with_reducible refine And.intro ?_ ?_
    with_reducible exact gtP (hM.ext' (by first | assumption | exact ext.rf | exact ext_up2 ext.rf (by assumption) | exact ext_up3 (by assumption) (by assumption) | exact ext_up3 (ext_up2 ext.rf (by assumption)) (by assumption))) (by first | assumption | exact isY.s | exact isY.fr (by assumption) (by assumption))
    with_reducible refine And.intro ?_ ?_
    omega
    with_reducible refine And.intro ?_ ?_
    omega
    with_reducible refine And.intro ?_ ?_
    omega
    with_reducible refine sSizeY (hP.ext (by first | assumption | exact ext.rf | exact ext_up2 ext.rf (by assumption) | exact ext_up3 (by assumption) (by assumption) | exact ext_up3 (ext_up2 ext.rf (by assumption)) (by assumption))) (by first | assumption | exact isY.s | exact isY.fr (by assumption) (by assumption)) ?_
    simp only [eX3_pileNow_14, eX3_pileNow_17, eX3_pileNow_21, eX3_pileNow_112, ite_le, kx_l, tl_s]
    split
    with_reducible exact (ic_z (by assumption) (by assumption)).elim
    with_reducible refine And.intro ?_ ?_
    with_reducible exact pz1e (by assumption) hnb (by assumption) (by assumption)
    with_reducible refine And.intro ?_ ?_
    with_reducible exact pz6e (by assumption) hnb (by assumption) (by assumption)
    with_reducible exact hQ _ _ (by first | assumption | exact ext.rf | exact ext_up2 ext.rf (by assumption) | exact ext_up3 (by assumption) (by assumption) | exact ext_up3 (ext_up2 ext.rf (by assumption)) (by assumption))
  | succ d ih =>
    intro i3 i4 o5 o6 w' k m z0 hk hm hi km mm
    rw [eX3_pileNow_5]
    simp only [eX3_pileNow_7]
    with_reducible refine go_Y (hM.ext' (by first | assumption | exact ext.rf | exact ext_up2 ext.rf (by assumption) | exact ext_up3 (by assumption) (by assumption) | exact ext_up3 (ext_up2 ext.rf (by assumption)) (by assumption))) (fun _ _ _ _ _ _ => ?_)
    simp only [eX3_pileNow_11, wt_nil, wt_int, g0, gS, ex1, Nat.add_zero]
    with_reducible refine And.intro ?_ ?_
    with_reducible exact gtP (hM.ext' (by first | assumption | exact ext.rf | exact ext_up2 ext.rf (by assumption) | exact ext_up3 (by assumption) (by assumption) | exact ext_up3 (ext_up2 ext.rf (by assumption)) (by assumption))) (by first | assumption | exact isY.s | exact isY.fr (by assumption) (by assumption))
    with_reducible refine And.intro ?_ ?_
    omega
    with_reducible refine And.intro ?_ ?_
    omega
    with_reducible refine And.intro ?_ ?_
    omega
    with_reducible refine sSizeY (hP.ext (by first | assumption | exact ext.rf | exact ext_up2 ext.rf (by assumption) | exact ext_up3 (by assumption) (by assumption) | exact ext_up3 (ext_up2 ext.rf (by assumption)) (by assumption))) (by first | assumption | exact isY.s | exact isY.fr (by assumption) (by assumption)) ?_
    simp only [eX3_pileNow_14, eX3_pileNow_17, eX3_pileNow_21, eX3_pileNow_112, ite_le, kx_l, tl_s]
    split
    with_reducible refine go_Y (hM.ext' (by first | assumption | exact ext.rf | exact ext_up2 ext.rf (by assumption) | exact ext_up3 (by assumption) (by assumption) | exact ext_up3 (ext_up2 ext.rf (by assumption)) (by assumption))) (fun _ _ _ _ _ _ => ?_)
    simp only [eX3_pileNow_23, wt_nil, g0, gS, ex1, Nat.add_zero]
    with_reducible refine And.intro ?_ ?_
    with_reducible exact gtP (hM.ext' (by first | assumption | exact ext.rf | exact ext_up2 ext.rf (by assumption) | exact ext_up3 (by assumption) (by assumption) | exact ext_up3 (ext_up2 ext.rf (by assumption)) (by assumption))) (by first | assumption | exact isY.s | exact isY.fr (by assumption) (by assumption))
    with_reducible refine And.intro ?_ ?_
    omega
    with_reducible refine And.intro ?_ ?_
    omega
    with_reducible refine And.intro ?_ ?_
    omega
    with_reducible refine sGetP (hP.ext (by first | assumption | exact ext.rf | exact ext_up2 ext.rf (by assumption) | exact ext_up3 (by assumption) (by assumption) | exact ext_up3 (ext_up2 ext.rf (by assumption)) (by assumption))) (by first | assumption | exact isY.s | exact isY.fr (by assumption) (by assumption)) (by assumption) (by assumption) (fun _ _ => ?_)
    simp only [eX3_pileNow_26R, eX3_pileNow_29, eX3_pileNow_35R, eX3_pileNow_39R, eX3_pileNow_47, kx_l, gb_s3, nl_int, tl_s, upw_s, n6e, upw2q]
    with_reducible refine And.intro ?_ ?_
    with_reducible exact isRow.ca (by first | assumption | exact isRow.ext (by assumption) (ext_up2 ext.rf (by assumption)))
    with_reducible refine And.intro ?_ ?_
    with_reducible exact n6a
    with_reducible refine And.intro ?_ ?_
    omega
    with_reducible refine And.intro ?_ ?_
    with_reducible exact pz1 (by assumption) (by assumption) hnb
    with_reducible refine And.intro ?_ ?_
    with_reducible exact pz6 (by assumption) (by assumption) hnb
    with_reducible intro _
    with_reducible intro _
    with_reducible refine And.intro ?_ ?_
    with_reducible exact vpi6x.1
    with_reducible refine go_Y (hM.ext' (by first | assumption | exact ext.rf | exact ext_up2 ext.rf (by assumption) | exact ext_up3 (by assumption) (by assumption) | exact ext_up3 (ext_up2 ext.rf (by assumption)) (by assumption))) (fun _ _ _ _ _ _ => ?_)
    simp only [eX3_pileNow_48, eX3_pileNow_49, wt_nil, wt_int, wt_ref, g0, gS, ex1, Nat.add_zero]
    with_reducible refine gl_M (hM.ext' (by first | assumption | exact ext.rf | exact ext_up2 ext.rf (by assumption) | exact ext_up3 (by assumption) (by assumption) | exact ext_up3 (ext_up2 ext.rf (by assumption)) (by assumption))) ?_
    with_reducible intro _
    with_reducible refine And.intro ?_ ?_
    with_reducible exact vpi8n k0 k1
    with_reducible refine And.intro ?_ ?_
    omega
    with_reducible refine And.intro ?_ ?_
    with_reducible exact pz1 (by assumption) (by assumption) hnb
    with_reducible refine And.intro ?_ ?_
    with_reducible exact pz6 (by assumption) (by assumption) hnb
    with_reducible refine sX3_validV (by first | assumption | exact isRow.ext (by assumption) (ext_up2 ext.rf (by assumption))) (fun _ => ?_)
    simp only [eX3_pileNow_53, eX3_pileNow_54R, eX3_pileNow_62, kx_l, gb_s3, tl_s, upw_s, upw2q]
    with_reducible refine And.intro ?_ ?_
    with_reducible exact vpi6x.2.1
    with_reducible refine go_Y (hM.ext' (by first | assumption | exact ext.rf | exact ext_up2 ext.rf (by assumption) | exact ext_up3 (by assumption) (by assumption) | exact ext_up3 (ext_up2 ext.rf (by assumption)) (by assumption))) (fun _ _ _ _ _ _ => ?_)
    simp only [eX3_pileNow_63, eX3_pileNow_64, wt_nil, wt_int, wt_ref, g0, gS, ex1, Nat.add_zero]
    with_reducible refine gl_M (hM.ext' (by first | assumption | exact ext.rf | exact ext_up2 ext.rf (by assumption) | exact ext_up3 (by assumption) (by assumption) | exact ext_up3 (ext_up2 ext.rf (by assumption)) (by assumption))) ?_
    with_reducible intro _
    with_reducible refine And.intro ?_ ?_
    with_reducible exact vpi8n k0 k1
    with_reducible refine And.intro ?_ ?_
    omega
    with_reducible refine And.intro ?_ ?_
    with_reducible exact pz1 (by assumption) (by assumption) hnb
    with_reducible refine And.intro ?_ ?_
    with_reducible exact pz6 (by assumption) (by assumption) hnb
    with_reducible refine sX3_validV (by first | assumption | exact isRow.ext (by assumption) (ext_up2 ext.rf (by assumption))) (fun _ => ?_)
    simp only [eX3_pileNow_68, eX3_pileNow_69R, kx_l, gb_s3, wt_nil, wt_int, wt_ref, tl_s, upw_s, Nat.add_zero, upw2q]
    with_reducible refine And.intro ?_ ?_
    with_reducible exact vpi6x.2.2.1
    with_reducible refine And.intro ?_ ?_
    omega
    with_reducible refine And.intro ?_ ?_
    with_reducible exact pz1 (by assumption) (by assumption) hnb
    with_reducible refine And.intro ?_ ?_
    with_reducible exact pz6 (by assumption) (by assumption) hnb
    with_reducible refine sX3_fixedV (by first | assumption | exact isRow.ext (by assumption) (ext_up2 ext.rf (by assumption))) (fun _ => ?_)
    simp only [eX3_pileNow_76, eX3_pileNow_77R, kx_l, gb_s3, wt_nil, wt_int, wt_ref, tl_s, upw_s, Nat.add_zero, upw2q]
    with_reducible refine And.intro ?_ ?_
    with_reducible exact vpi6x.2.2.2.1
    with_reducible refine And.intro ?_ ?_
    omega
    with_reducible refine And.intro ?_ ?_
    with_reducible exact pz1 (by assumption) (by assumption) hnb
    with_reducible refine And.intro ?_ ?_
    with_reducible exact pz6 (by assumption) (by assumption) hnb
    with_reducible refine sX3_smallV (by first | assumption | exact isRow.ext (by assumption) (ext_up2 ext.rf (by assumption))) (fun _ => ?_)
    simp only [eX3_pileNow_84, eX3_pileNow_85R, kx_l, gb_s3, wt_nil, wt_int, wt_ref, tl_s, upw_s, Nat.add_zero, upw2q]
    with_reducible refine And.intro ?_ ?_
    with_reducible exact vpi6x.2.2.2.2.1
    with_reducible refine And.intro ?_ ?_
    with_reducible refine go_Y (hM.ext' (by first | assumption | exact ext.rf | exact ext_up2 ext.rf (by assumption) | exact ext_up3 (by assumption) (by assumption) | exact ext_up3 (ext_up2 ext.rf (by assumption)) (by assumption))) (fun _ _ _ _ _ _ => ?_)
    simp only []
    with_reducible refine And.intro ?_ ?_
    omega
    with_reducible refine And.intro ?_ ?_
    with_reducible exact pz1 (by assumption) (by assumption) hnb
    with_reducible refine And.intro ?_ ?_
    with_reducible exact pz6 (by assumption) (by assumption) hnb
    with_reducible refine sX3_isAhead (hM.ext' (by first | assumption | exact ext.rf | exact ext_up2 ext.rf (by assumption) | exact ext_up3 (by assumption) (by assumption) | exact ext_up3 (ext_up2 ext.rf (by assumption)) (by assumption))) (hP.ext (by first | assumption | exact ext.rf | exact ext_up2 ext.rf (by assumption) | exact ext_up3 (by assumption) (by assumption) | exact ext_up3 (ext_up2 ext.rf (by assumption)) (by assumption))) (by assumption) (by assumption) (fun _ => ?_)
    simp only [eX3_pileNow_93, eX3_pileNow_94, eX3_pileNow_101, kx_l, gb_s3, wt_nil, wt_int, nl_ref, tl_s, rd_s, upw_s, Nat.add_zero, upw2q]
    with_reducible refine And.intro ?_ ?_
    with_reducible exact vpi6x.2.2.2.2.2
    with_reducible refine And.intro ?_ ?_
    with_reducible exact vpi6n c0 c1
    with_reducible refine And.intro ?_ ?_
    omega
    with_reducible refine And.intro ?_ ?_
    with_reducible exact pz1 (by assumption) (by assumption) hnb
    with_reducible refine And.intro ?_ ?_
    with_reducible exact pz6 (by assumption) (by assumption) hnb
    with_reducible refine sX3_one (fun _ => ?_)
    simp only [eX3_pileNow_104, kx_l, nl_int, tl_s]
    with_reducible exact ih _ _ _ _ _ _ _ (ic_p (by assumption) (by assumption)) (by first | assumption | exact ext.rf | exact ext_up2 ext.rf (by assumption) | exact ext_up3 (by assumption) (by assumption) | exact ext_up3 (ext_up2 ext.rf (by assumption)) (by assumption)) (ic_s (by assumption) (by assumption)) (pz_n (by assumption)) (by rw [i32_s (by assumption)]; omega) (by rw [i32_s (by assumption)]; omega)
    with_reducible refine And.intro ?_ ?_
    with_reducible exact pz1e (by assumption) hnb (by assumption) (by assumption)
    with_reducible refine And.intro ?_ ?_
    with_reducible exact pz6e (by assumption) hnb (by assumption) (by assumption)
    with_reducible exact hQ _ _ (by first | assumption | exact ext.rf | exact ext_up2 ext.rf (by assumption) | exact ext_up3 (by assumption) (by assumption) | exact ext_up3 (ext_up2 ext.rf (by assumption)) (by assumption))
set_option maxHeartbeats 4000000 in
theorem sX3_pileNow {a c n : Int32} (hM : MM g w0 y nM kd w) (hP : PN g w y n) (k0 : ¬ a < 0) (k1 : ¬ 7 < a) (c0 : ¬ c < 0) (c1 : ¬ 5 < c) (hQ : ∀ (v : Int32) w', ext g w w' → Q (.inl (some (.int v))) w') : WP (MX3_pileNow g) Q (0, [some (.ref y), some (.int a), some (.int c), none, none, none, none], [], w, 0, 0) := by
  have hnb := hP.bd
  simp only [eX3_pileNow_0, nl_int]
  with_reducible exact lX3_pileNow_5 hM hP k0 k1 c0 c1 hQ 70 _ _ _ _ _ _ _ (by decide) ext.rf hP.m (by have z : (0 : Int32).toInt = 0 := rfl; omega) (by decide) (by decide)
theorem sX3_pileNowM {a c : Int32} (hM : MM g w0 y nM kd w) (k0 : ¬ a < 0) (k1 : ¬ 7 < a) (c0 : ¬ c < 0) (c1 : ¬ 5 < c) (hQ : ∀ (v : Int32) w', ext g w w' → Q (.inl (some (.int v))) w') : WP (MX3_pileNow g) Q (0, [some (.ref y), some (.int a), some (.int c), none, none, none, none], [], w, 0, 0) := by
  obtain ⟨n, hP⟩ := PN.ofM hM
  exact sX3_pileNow hM hP k0 k1 c0 c1 hQ
end
end
