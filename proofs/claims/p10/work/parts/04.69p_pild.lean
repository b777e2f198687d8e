/-! 69p.pild.lean.txt -/
section
section
variable {g : RO} {Q : Ot → Hw → Prop} {w0 w : Hw}
variable {y nM : Nat} {kd : Int32}
set_option maxHeartbeats 8000000 in
theorem elX3_digest_152 {w' : Hw} {b k m : Nat} {i3 : Int32} (hk : ext g w w') (hb : isRow w' b) (hkk : k ≤ 90) (hmm : m ≤ 520) (hK : ∀ (i1 : Int64) (i5 : Int32), WP (MX3_digest g) Q (214, [some (.ref y), some (.long i1), none, some (.int i3), some (.ref b), some (.int i5)], [], w', k, m)) : ∀ (d : Nat) (i1 : Int64) (i5 : Int32), ¬ i5 < 0 → 4 - i5.toInt ≤ (d : Int) → WP (MX3_digest g) Q (152, [some (.ref y), some (.long i1), none, some (.int i3), some (.ref b), some (.int i5)], [], w', k, m) := by
  have zb : (4 : Int32).toInt = 4 := rfl
  intro d
  induction d with
  | zero =>
    intro i1 i5 z0 hm
    rw [eX3_digest_152]
    simp only [eX3_digest_154, eX3_digest_158, eX3_digest_164, ite_le, wt_nil, wt_long, Nat.add_zero]
    split
    with_reducible exact (by exfalso; have e := dl2 (c := 4) (i := i5) (by assumption); omega)
    with_reducible exact hK _ _
  | succ d ih =>
    intro i1 i5 z0 hm
    rw [eX3_digest_152]
    simp only [eX3_digest_154, eX3_digest_158, eX3_digest_164, ite_le, wt_nil, wt_long, Nat.add_zero]
    split
    with_reducible refine gl_Row (by first | assumption | exact CAt.row (by assumption) | exact isRow.ext (CAt.row (by assumption)) (by assumption)) (fun _ => ?_)
    with_reducible refine And.intro ?_ ?_
    with_reducible exact vpi4l (by assumption) (by assumption)
    with_reducible refine And.intro ?_ ?_
    omega
    with_reducible refine And.intro ?_ ?_
    with_reducible assumption
    with_reducible refine And.intro ?_ ?_
    with_reducible assumption
    with_reducible refine sX3_high (fun _ => ?_)
    simp only [eX3_digest_167, eX3_digest_171, eX3_digest_176, kx_l, wt_nil, tl_s, Nat.add_zero]
    with_reducible refine And.intro ?_ ?_
    omega
    with_reducible refine And.intro ?_ ?_
    with_reducible assumption
    with_reducible refine And.intro ?_ ?_
    with_reducible assumption
    with_reducible refine sX3_add (fun _ => ?_)
    simp only [kx_l, wt_nil, wt_long, tl_s, Nat.add_zero]
    with_reducible refine gl_Row (by first | assumption | exact CAt.row (by assumption) | exact isRow.ext (CAt.row (by assumption)) (by assumption)) (fun _ => ?_)
    with_reducible refine And.intro ?_ ?_
    with_reducible exact vpi4l (by assumption) (by assumption)
    with_reducible refine And.intro ?_ ?_
    omega
    with_reducible refine And.intro ?_ ?_
    with_reducible assumption
    with_reducible refine And.intro ?_ ?_
    with_reducible assumption
    with_reducible refine sX3_low (fun _ => ?_)
    simp only [eX3_digest_179, eX3_digest_183, kx_l, wt_nil, tl_s, Nat.add_zero]
    with_reducible refine And.intro ?_ ?_
    omega
    with_reducible refine And.intro ?_ ?_
    with_reducible assumption
    with_reducible refine And.intro ?_ ?_
    with_reducible assumption
    with_reducible refine sX3_add (fun _ => ?_)
    simp only [kx_l, wt_nil, wt_long, tl_s, Nat.add_zero]
    with_reducible refine And.intro ?_ ?_
    omega
    with_reducible refine And.intro ?_ ?_
    with_reducible assumption
    with_reducible refine And.intro ?_ ?_
    with_reducible assumption
    with_reducible refine sX3_aroundNow (by first | assumption | exact CAt.row (by assumption) | exact isRow.ext (CAt.row (by assumption)) (by assumption)) (by assumption) (by first | assumption | exact lt43 (by assumption)) (fun _ => ?_)
    simp only [eX3_digest_191, eX3_digest_195, kx_l, wt_nil, tl_s, Nat.add_zero]
    with_reducible refine And.intro ?_ ?_
    omega
    with_reducible refine And.intro ?_ ?_
    with_reducible assumption
    with_reducible refine And.intro ?_ ?_
    with_reducible assumption
    with_reducible refine sX3_add (fun _ => ?_)
    simp only [kx_l, wt_nil, wt_long, tl_s, Nat.add_zero]
    with_reducible refine And.intro ?_ ?_
    omega
    with_reducible refine And.intro ?_ ?_
    with_reducible assumption
    with_reducible refine And.intro ?_ ?_
    with_reducible assumption
    with_reducible refine sX3_aroundNow (by first | assumption | exact CAt.row (by assumption) | exact isRow.ext (CAt.row (by assumption)) (by assumption)) (by assumption) (by first | assumption | exact lt43 (by assumption)) (fun _ => ?_)
    simp only [eX3_digest_203, kx_l, wt_nil, tl_s, Nat.add_zero]
    with_reducible refine And.intro ?_ ?_
    omega
    with_reducible refine And.intro ?_ ?_
    with_reducible assumption
    with_reducible refine And.intro ?_ ?_
    with_reducible assumption
    with_reducible refine sX3_add (fun _ => ?_)
    simp only [eX3_digest_207, kx_l, nl_ref, tl_s]
    with_reducible exact ih _ _ (ic_p (by assumption) (by assumption)) (by have e := dl2 (c := 4) (i := i5) (by assumption); omega)
    with_reducible exact hK _ _
set_option maxHeartbeats 8000000 in
theorem elX3_digest_283 {w' : Hw} {b k m : Nat} {i3 : Int32} (hk : ext g w w') (hb : isRow w' b) (hkk : k ≤ 90) (hmm : m ≤ 520) (hK : ∀ (i1 : Int64) (i5 : Int32), WP (MX3_digest g) Q (308, [some (.ref y), some (.long i1), none, some (.int i3), some (.ref b), some (.int i5)], [], w', k, m)) : ∀ (d : Nat) (i1 : Int64) (i5 : Int32), 2 - i5.toInt ≤ (d : Int) → WP (MX3_digest g) Q (283, [some (.ref y), some (.long i1), none, some (.int i3), some (.ref b), some (.int i5)], [], w', k, m) := by
  have zb : (1 : Int32).toInt = 1 := rfl
  intro d
  induction d with
  | zero =>
    intro i1 i5 hm
    rw [eX3_digest_283]
    simp only [eX3_digest_285, eX3_digest_289, wt_nil, wt_long, Nat.add_zero]
    split
    with_reducible exact hK _ _
    with_reducible refine And.intro ?_ ?_
    with_reducible exact (by exfalso; have e := dl1 (c := 1) (i := i5) (by assumption) (by decide); omega)
    with_reducible refine And.intro ?_ ?_
    with_reducible assumption
    with_reducible refine And.intro ?_ ?_
    with_reducible assumption
    with_reducible exact (by exfalso; have e := dl1 (c := 1) (i := i5) (by assumption) (by decide); omega)
  | succ d ih =>
    intro i1 i5 hm
    rw [eX3_digest_283]
    simp only [eX3_digest_285, eX3_digest_289, wt_nil, wt_long, Nat.add_zero]
    split
    with_reducible exact hK _ _
    with_reducible refine And.intro ?_ ?_
    omega
    with_reducible refine And.intro ?_ ?_
    with_reducible assumption
    with_reducible refine And.intro ?_ ?_
    with_reducible assumption
    with_reducible refine sX3_whichNow (by first | assumption | exact CAt.row (by assumption) | exact isRow.ext (CAt.row (by assumption)) (by assumption)) (fun _ => ?_)
    simp only [eX3_digest_297, kx_l, wt_nil, tl_s, Nat.add_zero]
    with_reducible refine And.intro ?_ ?_
    omega
    with_reducible refine And.intro ?_ ?_
    with_reducible assumption
    with_reducible refine And.intro ?_ ?_
    with_reducible assumption
    with_reducible refine sX3_add (fun _ => ?_)
    simp only [eX3_digest_301, kx_l, nl_ref, tl_s]
    with_reducible exact ih _ _ (by have e := dl1 (c := 1) (i := i5) (by assumption) (by decide); omega)
set_option maxHeartbeats 8000000 in
theorem elX3_digest_97 (hM : MM g w0 y nM kd w) (hQ : ∀ (v : Int64) w', ext g w w' → Q (.inl (some (.long v))) w') : ∀ (d : Nat) (i1 : Int64) (i3 : Int32) (o4 o5 : Option Value) (w' : Hw) (k m : Nat), ¬ i3 < 0 → ext g w w' → 6 - i3.toInt ≤ (d : Int) → i3.toInt ≤ 6 → (k : Int) ≤ 10 + i3.toInt → (m : Int) ≤ 45 + 4 * i3.toInt → WP (MX3_digest g) Q (97, [some (.ref y), some (.long i1), none, some (.int i3), o4, o5], [], w', k, m) := by
  have zb : (6 : Int32).toInt = 6 := rfl
  intro d
  induction d with
  | zero =>
    intro i1 i3 o4 o5 w' k m z0 hk hm hi km mm
    rw [eX3_digest_97]
    simp only [eX3_digest_98, eX3_digest_103, eX3_digest_314, ite_le, wt_nil, wt_long, nl_none, Nat.add_zero]
    split
    with_reducible refine And.intro ?_ ?_
    with_reducible exact (by exfalso; have e := dl2 (c := 6) (i := i3) (by assumption); omega)
    with_reducible refine And.intro ?_ ?_
    with_reducible exact (by exfalso; have e := dl2 (c := 6) (i := i3) (by assumption); omega)
    with_reducible refine And.intro ?_ ?_
    with_reducible exact (by exfalso; have e := dl2 (c := 6) (i := i3) (by assumption); omega)
    with_reducible refine And.intro ?_ ?_
    with_reducible exact (by exfalso; have e := dl2 (c := 6) (i := i3) (by assumption); omega)
    with_reducible exact (by exfalso; have e := dl2 (c := 6) (i := i3) (by assumption); omega)
    with_reducible exact elX3_digest_316 hM hQ 70 _ _ _ _ _ _ _ (by decide) hk (by decide) (by decide) (by omega) (by omega)
  | succ d ih =>
    intro i1 i3 o4 o5 w' k m z0 hk hm hi km mm
    rw [eX3_digest_97]
    simp only [eX3_digest_98, eX3_digest_103, eX3_digest_314, ite_le, wt_nil, wt_long, nl_none, Nat.add_zero]
    split
    with_reducible refine And.intro ?_ ?_
    with_reducible refine go_Y (hM.ext' (by first | assumption | exact ext.rf | exact ext.tr hk (by assumption))) (fun _ _ _ _ _ _ => ?_)
    simp only []
    with_reducible refine And.intro ?_ ?_
    omega
    with_reducible refine And.intro ?_ ?_
    omega
    with_reducible refine And.intro ?_ ?_
    omega
    with_reducible refine sX3_isBareM (hM.ext' (by first | assumption | exact ext.rf | exact ext.tr hk (by assumption))) (by assumption) (by first | assumption | exact lt65 (by assumption)) ?_ (fun _ _ => ?_)
    simp only [eX3_digest_109, eX3_digest_112, eX3_digest_116, eX3_digest_117, kx_l, wt_nil, wt_long, tl_s, Nat.add_zero, if_false, m10]
    with_reducible refine And.intro ?_ ?_
    omega
    with_reducible refine And.intro ?_ ?_
    omega
    with_reducible refine And.intro ?_ ?_
    omega
    with_reducible refine sX3_one (fun _ => ?_)
    simp only [eX3_digest_120, kx_l, wt_nil, tl_s, Nat.add_zero]
    with_reducible refine And.intro ?_ ?_
    omega
    with_reducible refine And.intro ?_ ?_
    omega
    with_reducible refine And.intro ?_ ?_
    omega
    with_reducible refine sX3_add (fun _ => ?_)
    simp only [eX3_digest_124, eX3_digest_125, kx_l, wt_nil, nl_ref, tl_s, Nat.add_zero]
    with_reducible refine And.intro ?_ ?_
    with_reducible refine go_Y (hM.ext' (by first | assumption | exact ext.rf | exact ext.tr hk (by assumption))) (fun _ _ _ _ _ _ => ?_)
    simp only []
    with_reducible refine And.intro ?_ ?_
    omega
    with_reducible refine And.intro ?_ ?_
    omega
    with_reducible refine And.intro ?_ ?_
    omega
    with_reducible refine sX3_isBareM (hM.ext' (by first | assumption | exact ext.rf | exact ext.tr hk (by assumption))) (by assumption) (by first | assumption | exact lt65 (by assumption)) ?_ (fun _ _ => ?_)
    simp only [eX3_digest_130, eX3_digest_133, eX3_digest_136, eX3_digest_140, eX3_digest_308, kx_l, nl_none, tl_s, if_false, m10]
    with_reducible exact ih _ _ _ _ _ _ _ (ic_p (by assumption) (by assumption)) (by first | assumption | exact ext.rf | exact ext.tr hk (by assumption)) (by have e := dl2 (c := 6) (i := i3) (by assumption); omega) (by have e := dl2 (c := 6) (i := i3) (by assumption); omega) (by have e := dl2 (c := 6) (i := i3) (by assumption); omega) (by have e := dl2 (c := 6) (i := i3) (by assumption); omega)
    simp only [eX3_digest_130, eX3_digest_133, eX3_digest_136, eX3_digest_140, eX3_digest_308, kx_l, nl_none, tl_s, if_true]
    with_reducible refine go_Y (hM.ext' (by first | assumption | exact ext.rf | exact ext.tr hk (by assumption))) (fun _ _ _ _ _ _ => ?_)
    simp only [eX3_digest_141, wt_nil, g0, gS, ex1, Nat.add_zero]
    with_reducible refine And.intro ?_ ?_
    with_reducible exact gtC (hM.ext' (by first | assumption | exact ext.rf | exact ext.tr hk (by assumption))) (by assumption)
    with_reducible refine And.intro ?_ ?_
    omega
    with_reducible refine And.intro ?_ ?_
    omega
    with_reducible refine And.intro ?_ ?_
    omega
    with_reducible refine sGetY (by assumption) (by assumption) (by assumption) (by first | assumption | exact lt65 (by assumption)) ?_
    simp only [eX3_digest_144R, eX3_digest_147, kx_l, nl_int, nl_ref, tl_s]
    with_reducible refine And.intro ?_ ?_
    with_reducible exact isRow.ca (by first | assumption | exact CAt.row (by assumption) | exact isRow.ext (CAt.row (by assumption)) (by assumption))
    with_reducible refine elX3_digest_152 hk (by first | assumption | exact CAt.row (by assumption) | exact isRow.ext (CAt.row (by assumption)) (by assumption)) (by omega) (by omega) (fun _ _ => ?_) 70 _ _ (by decide) (by decide)
    simp only [eX3_digest_214, wt_nil, wt_long, Nat.add_zero]
    with_reducible refine And.intro ?_ ?_
    omega
    with_reducible refine And.intro ?_ ?_
    omega
    with_reducible refine And.intro ?_ ?_
    omega
    with_reducible refine sX3_fixedV (by first | assumption | exact CAt.row (by assumption) | exact isRow.ext (CAt.row (by assumption)) (by assumption)) (fun _ => ?_)
    simp only [eX3_digest_220, kx_l, wt_nil, wt_long, tl_s, Nat.add_zero]
    with_reducible refine And.intro ?_ ?_
    omega
    with_reducible refine And.intro ?_ ?_
    omega
    with_reducible refine And.intro ?_ ?_
    omega
    with_reducible refine sX3_one (fun _ => ?_)
    simp only [eX3_digest_223, eX3_digest_227, kx_l, wt_nil, tl_s, Nat.add_zero]
    with_reducible refine And.intro ?_ ?_
    omega
    with_reducible refine And.intro ?_ ?_
    omega
    with_reducible refine And.intro ?_ ?_
    omega
    with_reducible refine sX3_add (fun _ => ?_)
    simp only [kx_l, wt_nil, wt_long, tl_s, Nat.add_zero]
    with_reducible refine And.intro ?_ ?_
    omega
    with_reducible refine And.intro ?_ ?_
    omega
    with_reducible refine And.intro ?_ ?_
    omega
    with_reducible refine sX3_smallV (by first | assumption | exact CAt.row (by assumption) | exact isRow.ext (CAt.row (by assumption)) (by assumption)) (fun _ => ?_)
    simp only [eX3_digest_232, kx_l, wt_nil, wt_long, tl_s, Nat.add_zero]
    with_reducible refine And.intro ?_ ?_
    omega
    with_reducible refine And.intro ?_ ?_
    omega
    with_reducible refine And.intro ?_ ?_
    omega
    with_reducible refine sX3_one (fun _ => ?_)
    simp only [eX3_digest_235, eX3_digest_239, kx_l, wt_nil, tl_s, Nat.add_zero]
    with_reducible refine And.intro ?_ ?_
    omega
    with_reducible refine And.intro ?_ ?_
    omega
    with_reducible refine And.intro ?_ ?_
    omega
    with_reducible refine sX3_add (fun _ => ?_)
    simp only [kx_l, wt_nil, wt_long, tl_s, Nat.add_zero]
    with_reducible refine And.intro ?_ ?_
    with_reducible refine go_Y (hM.ext' (by first | assumption | exact ext.rf | exact ext.tr hk (by assumption))) (fun _ _ _ _ _ _ => ?_)
    simp only []
    with_reducible refine And.intro ?_ ?_
    omega
    with_reducible refine And.intro ?_ ?_
    omega
    with_reducible refine And.intro ?_ ?_
    omega
    with_reducible refine sX3_likesNow (hM.ext' (by first | assumption | exact ext.rf | exact ext.tr hk (by assumption))) (by assumption) (by assumption) (by first | assumption | exact lt65 (by assumption)) (fun _ => ?_)
    simp only [eX3_digest_244, kx_l, wt_nil, tl_s, Nat.add_zero]
    with_reducible refine And.intro ?_ ?_
    omega
    with_reducible refine And.intro ?_ ?_
    omega
    with_reducible refine And.intro ?_ ?_
    omega
    with_reducible refine sX3_add (fun _ => ?_)
    simp only [eX3_digest_248, eX3_digest_250, kx_l, wt_nil, wt_long, nl_ref, tl_s, Nat.add_zero]
    with_reducible refine And.intro ?_ ?_
    with_reducible refine go_Y (hM.ext' (by first | assumption | exact ext.rf | exact ext.tr hk (by assumption))) (fun _ _ _ _ _ _ => ?_)
    simp only []
    with_reducible refine And.intro ?_ ?_
    omega
    with_reducible refine And.intro ?_ ?_
    omega
    with_reducible refine And.intro ?_ ?_
    omega
    with_reducible refine sX3_seekNowM (hM.ext' (by first | assumption | exact ext.rf | exact ext.tr hk (by assumption))) (by assumption) (by assumption) (by first | assumption | exact lt65 (by assumption)) (fun _ _ _ _ => ?_)
    simp only [eX3_digest_256, eX3_digest_260, kx_l, wt_nil, tl_s, Nat.add_zero]
    with_reducible refine And.intro ?_ ?_
    omega
    with_reducible refine And.intro ?_ ?_
    omega
    with_reducible refine And.intro ?_ ?_
    omega
    with_reducible refine sX3_add (fun _ => ?_)
    simp only [kx_l, wt_nil, wt_long, tl_s, Nat.add_zero]
    with_reducible refine And.intro ?_ ?_
    with_reducible refine go_Y (hM.ext' (by first | assumption | exact ext.rf | exact ext.tr hk (by assumption))) (fun _ _ _ _ _ _ => ?_)
    simp only []
    with_reducible refine And.intro ?_ ?_
    omega
    with_reducible refine And.intro ?_ ?_
    omega
    with_reducible refine And.intro ?_ ?_
    omega
    with_reducible refine sX3_seekNowM (hM.ext' (by first | assumption | exact ext.rf | exact ext.tr hk (by assumption))) (by assumption) (by assumption) (by first | assumption | exact lt65 (by assumption)) (fun _ _ _ _ => ?_)
    simp only [eX3_digest_266, eX3_digest_270, kx_l, wt_nil, tl_s, Nat.add_zero]
    with_reducible refine And.intro ?_ ?_
    omega
    with_reducible refine And.intro ?_ ?_
    omega
    with_reducible refine And.intro ?_ ?_
    omega
    with_reducible refine sX3_add (fun _ => ?_)
    simp only [kx_l, wt_nil, wt_long, tl_s, Nat.add_zero]
    with_reducible refine And.intro ?_ ?_
    with_reducible refine go_Y (hM.ext' (by first | assumption | exact ext.rf | exact ext.tr hk (by assumption))) (fun _ _ _ _ _ _ => ?_)
    simp only []
    with_reducible refine And.intro ?_ ?_
    omega
    with_reducible refine And.intro ?_ ?_
    omega
    with_reducible refine And.intro ?_ ?_
    omega
    with_reducible refine sX3_oftenNow (hM.ext' (by first | assumption | exact ext.rf | exact ext.tr hk (by assumption))) (by assumption) (by assumption) (by first | assumption | exact lt65 (by assumption)) (fun _ _ _ => ?_)
    simp only [eX3_digest_275, kx_l, wt_nil, tl_s, Nat.add_zero]
    with_reducible refine And.intro ?_ ?_
    omega
    with_reducible refine And.intro ?_ ?_
    omega
    with_reducible refine And.intro ?_ ?_
    omega
    with_reducible refine sX3_add (fun _ => ?_)
    simp only [eX3_digest_279, kx_l, nl_ref, tl_s]
    with_reducible refine elX3_digest_283 (by first | assumption | exact ext.rf | exact ext.tr hk (by assumption)) (by first | assumption | exact CAt.row (by assumption) | exact isRow.ext (CAt.row (by assumption)) (by assumption)) (by omega) (by omega) (fun _ _ => ?_) 70 _ _ (by decide)
    simp only [eX3_digest_308, nl_none]
    with_reducible exact ih _ _ _ _ _ _ _ (ic_p (by assumption) (by assumption)) (by first | assumption | exact ext.rf | exact ext.tr hk (by assumption)) (by have e := dl2 (c := 6) (i := i3) (by assumption); omega) (by have e := dl2 (c := 6) (i := i3) (by assumption); omega) (by have e := dl2 (c := 6) (i := i3) (by assumption); omega) (by have e := dl2 (c := 6) (i := i3) (by assumption); omega)
    simp only [eX3_digest_109, eX3_digest_112, eX3_digest_116, eX3_digest_117, kx_l, wt_nil, wt_long, tl_s, Nat.add_zero, if_true]
    with_reducible refine And.intro ?_ ?_
    omega
    with_reducible refine And.intro ?_ ?_
    omega
    with_reducible refine And.intro ?_ ?_
    omega
    with_reducible refine sX3_one (fun _ => ?_)
    simp only [eX3_digest_120, kx_l, wt_nil, tl_s, Nat.add_zero]
    with_reducible refine And.intro ?_ ?_
    omega
    with_reducible refine And.intro ?_ ?_
    omega
    with_reducible refine And.intro ?_ ?_
    omega
    with_reducible refine sX3_add (fun _ => ?_)
    simp only [eX3_digest_124, eX3_digest_125, kx_l, wt_nil, nl_ref, tl_s, Nat.add_zero]
    with_reducible refine And.intro ?_ ?_
    with_reducible refine go_Y (hM.ext' (by first | assumption | exact ext.rf | exact ext.tr hk (by assumption))) (fun _ _ _ _ _ _ => ?_)
    simp only []
    with_reducible refine And.intro ?_ ?_
    omega
    with_reducible refine And.intro ?_ ?_
    omega
    with_reducible refine And.intro ?_ ?_
    omega
    with_reducible refine sX3_isBareM (hM.ext' (by first | assumption | exact ext.rf | exact ext.tr hk (by assumption))) (by assumption) (by first | assumption | exact lt65 (by assumption)) ?_ (fun _ _ => ?_)
    simp only [eX3_digest_130, eX3_digest_133, eX3_digest_136, eX3_digest_140, eX3_digest_308, kx_l, nl_none, tl_s, if_false, m10]
    with_reducible exact ih _ _ _ _ _ _ _ (ic_p (by assumption) (by assumption)) (by first | assumption | exact ext.rf | exact ext.tr hk (by assumption)) (by have e := dl2 (c := 6) (i := i3) (by assumption); omega) (by have e := dl2 (c := 6) (i := i3) (by assumption); omega) (by have e := dl2 (c := 6) (i := i3) (by assumption); omega) (by have e := dl2 (c := 6) (i := i3) (by assumption); omega)
    simp only [eX3_digest_130, eX3_digest_133, eX3_digest_136, eX3_digest_140, eX3_digest_308, kx_l, nl_none, tl_s, if_true]
    with_reducible refine go_Y (hM.ext' (by first | assumption | exact ext.rf | exact ext.tr hk (by assumption))) (fun _ _ _ _ _ _ => ?_)
    simp only [eX3_digest_141, wt_nil, g0, gS, ex1, Nat.add_zero]
    with_reducible refine And.intro ?_ ?_
    with_reducible exact gtC (hM.ext' (by first | assumption | exact ext.rf | exact ext.tr hk (by assumption))) (by assumption)
    with_reducible refine And.intro ?_ ?_
    omega
    with_reducible refine And.intro ?_ ?_
    omega
    with_reducible refine And.intro ?_ ?_
    omega
    with_reducible refine sGetY (by assumption) (by assumption) (by assumption) (by first | assumption | exact lt65 (by assumption)) ?_
    simp only [eX3_digest_144R, eX3_digest_147, kx_l, nl_int, nl_ref, tl_s]
    with_reducible refine And.intro ?_ ?_
    with_reducible exact isRow.ca (by first | assumption | exact CAt.row (by assumption) | exact isRow.ext (CAt.row (by assumption)) (by assumption))
    with_reducible refine elX3_digest_152 hk (by first | assumption | exact CAt.row (by assumption) | exact isRow.ext (CAt.row (by assumption)) (by assumption)) (by omega) (by omega) (fun _ _ => ?_) 70 _ _ (by decide) (by decide)
    simp only [eX3_digest_214, wt_nil, wt_long, Nat.add_zero]
    with_reducible refine And.intro ?_ ?_
    omega
    with_reducible refine And.intro ?_ ?_
    omega
    with_reducible refine And.intro ?_ ?_
    omega
    with_reducible refine sX3_fixedV (by first | assumption | exact CAt.row (by assumption) | exact isRow.ext (CAt.row (by assumption)) (by assumption)) (fun _ => ?_)
    simp only [eX3_digest_220, kx_l, wt_nil, wt_long, tl_s, Nat.add_zero]
    with_reducible refine And.intro ?_ ?_
    omega
    with_reducible refine And.intro ?_ ?_
    omega
    with_reducible refine And.intro ?_ ?_
    omega
    with_reducible refine sX3_one (fun _ => ?_)
    simp only [eX3_digest_223, eX3_digest_227, kx_l, wt_nil, tl_s, Nat.add_zero]
    with_reducible refine And.intro ?_ ?_
    omega
    with_reducible refine And.intro ?_ ?_
    omega
    with_reducible refine And.intro ?_ ?_
    omega
    with_reducible refine sX3_add (fun _ => ?_)
    simp only [kx_l, wt_nil, wt_long, tl_s, Nat.add_zero]
    with_reducible refine And.intro ?_ ?_
    omega
    with_reducible refine And.intro ?_ ?_
    omega
    with_reducible refine And.intro ?_ ?_
    omega
    with_reducible refine sX3_smallV (by first | assumption | exact CAt.row (by assumption) | exact isRow.ext (CAt.row (by assumption)) (by assumption)) (fun _ => ?_)
    simp only [eX3_digest_232, kx_l, wt_nil, wt_long, tl_s, Nat.add_zero]
    with_reducible refine And.intro ?_ ?_
    omega
    with_reducible refine And.intro ?_ ?_
    omega
    with_reducible refine And.intro ?_ ?_
    omega
    with_reducible refine sX3_one (fun _ => ?_)
    simp only [eX3_digest_235, eX3_digest_239, kx_l, wt_nil, tl_s, Nat.add_zero]
    with_reducible refine And.intro ?_ ?_
    omega
    with_reducible refine And.intro ?_ ?_
    omega
    with_reducible refine And.intro ?_ ?_
    omega
    with_reducible refine sX3_add (fun _ => ?_)
    simp only [kx_l, wt_nil, wt_long, tl_s, Nat.add_zero]
    with_reducible refine And.intro ?_ ?_
    with_reducible refine go_Y (hM.ext' (by first | assumption | exact ext.rf | exact ext.tr hk (by assumption))) (fun _ _ _ _ _ _ => ?_)
    simp only []
    with_reducible refine And.intro ?_ ?_
    omega
    with_reducible refine And.intro ?_ ?_
    omega
    with_reducible refine And.intro ?_ ?_
    omega
    with_reducible refine sX3_likesNow (hM.ext' (by first | assumption | exact ext.rf | exact ext.tr hk (by assumption))) (by assumption) (by assumption) (by first | assumption | exact lt65 (by assumption)) (fun _ => ?_)
    simp only [eX3_digest_244, kx_l, wt_nil, tl_s, Nat.add_zero]
    with_reducible refine And.intro ?_ ?_
    omega
    with_reducible refine And.intro ?_ ?_
    omega
    with_reducible refine And.intro ?_ ?_
    omega
    with_reducible refine sX3_add (fun _ => ?_)
    simp only [eX3_digest_248, eX3_digest_250, kx_l, wt_nil, wt_long, nl_ref, tl_s, Nat.add_zero]
    with_reducible refine And.intro ?_ ?_
    with_reducible refine go_Y (hM.ext' (by first | assumption | exact ext.rf | exact ext.tr hk (by assumption))) (fun _ _ _ _ _ _ => ?_)
    simp only []
    with_reducible refine And.intro ?_ ?_
    omega
    with_reducible refine And.intro ?_ ?_
    omega
    with_reducible refine And.intro ?_ ?_
    omega
    with_reducible refine sX3_seekNowM (hM.ext' (by first | assumption | exact ext.rf | exact ext.tr hk (by assumption))) (by assumption) (by assumption) (by first | assumption | exact lt65 (by assumption)) (fun _ _ _ _ => ?_)
    simp only [eX3_digest_256, eX3_digest_260, kx_l, wt_nil, tl_s, Nat.add_zero]
    with_reducible refine And.intro ?_ ?_
    omega
    with_reducible refine And.intro ?_ ?_
    omega
    with_reducible refine And.intro ?_ ?_
    omega
    with_reducible refine sX3_add (fun _ => ?_)
    simp only [kx_l, wt_nil, wt_long, tl_s, Nat.add_zero]
    with_reducible refine And.intro ?_ ?_
    with_reducible refine go_Y (hM.ext' (by first | assumption | exact ext.rf | exact ext.tr hk (by assumption))) (fun _ _ _ _ _ _ => ?_)
    simp only []
    with_reducible refine And.intro ?_ ?_
    omega
    with_reducible refine And.intro ?_ ?_
    omega
    with_reducible refine And.intro ?_ ?_
    omega
    with_reducible refine sX3_seekNowM (hM.ext' (by first | assumption | exact ext.rf | exact ext.tr hk (by assumption))) (by assumption) (by assumption) (by first | assumption | exact lt65 (by assumption)) (fun _ _ _ _ => ?_)
    simp only [eX3_digest_266, eX3_digest_270, kx_l, wt_nil, tl_s, Nat.add_zero]
    with_reducible refine And.intro ?_ ?_
    omega
    with_reducible refine And.intro ?_ ?_
    omega
    with_reducible refine And.intro ?_ ?_
    omega
    with_reducible refine sX3_add (fun _ => ?_)
    simp only [kx_l, wt_nil, wt_long, tl_s, Nat.add_zero]
    with_reducible refine And.intro ?_ ?_
    with_reducible refine go_Y (hM.ext' (by first | assumption | exact ext.rf | exact ext.tr hk (by assumption))) (fun _ _ _ _ _ _ => ?_)
    simp only []
    with_reducible refine And.intro ?_ ?_
    omega
    with_reducible refine And.intro ?_ ?_
    omega
    with_reducible refine And.intro ?_ ?_
    omega
    with_reducible refine sX3_oftenNow (hM.ext' (by first | assumption | exact ext.rf | exact ext.tr hk (by assumption))) (by assumption) (by assumption) (by first | assumption | exact lt65 (by assumption)) (fun _ _ _ => ?_)
    simp only [eX3_digest_275, kx_l, wt_nil, tl_s, Nat.add_zero]
    with_reducible refine And.intro ?_ ?_
    omega
    with_reducible refine And.intro ?_ ?_
    omega
    with_reducible refine And.intro ?_ ?_
    omega
    with_reducible refine sX3_add (fun _ => ?_)
    simp only [eX3_digest_279, kx_l, nl_ref, tl_s]
    with_reducible refine elX3_digest_283 (by first | assumption | exact ext.rf | exact ext.tr hk (by assumption)) (by first | assumption | exact CAt.row (by assumption) | exact isRow.ext (CAt.row (by assumption)) (by assumption)) (by omega) (by omega) (fun _ _ => ?_) 70 _ _ (by decide)
    simp only [eX3_digest_308, nl_none]
    with_reducible exact ih _ _ _ _ _ _ _ (ic_p (by assumption) (by assumption)) (by first | assumption | exact ext.rf | exact ext.tr hk (by assumption)) (by have e := dl2 (c := 6) (i := i3) (by assumption); omega) (by have e := dl2 (c := 6) (i := i3) (by assumption); omega) (by have e := dl2 (c := 6) (i := i3) (by assumption); omega) (by have e := dl2 (c := 6) (i := i3) (by assumption); omega)
    with_reducible exact elX3_digest_316 hM hQ 70 _ _ _ _ _ _ _ (by decide) hk (by decide) (by decide) (by omega) (by omega)
end
end
/-! 69p.pile.lean.txt -/
section
section
variable {g : RO} {Q : Ot → Hw → Prop} {w0 w : Hw}
variable {y nM : Nat} {kd : Int32}
set_option maxHeartbeats 8000000 in
theorem elX3_digest_35 (hM : MM g w0 y nM kd w) (hQ : ∀ (v : Int64) w', ext g w w' → Q (.inl (some (.long v))) w') : ∀ (d : Nat) (i1 : Int64) (i3 : Int32) (o4 o5 : Option Value) (w' : Hw) (k m : Nat), ¬ i3 < 0 → ext g w w' → 8 - i3.toInt ≤ (d : Int) → i3.toInt ≤ 8 → (k : Int) ≤ 10 → (m : Int) ≤ 45 → WP (MX3_digest g) Q (35, [some (.ref y), some (.long i1), none, some (.int i3), o4, o5], [], w', k, m) := by
  have zb : (8 : Int32).toInt = 8 := rfl
  intro d
  induction d with
  | zero =>
    intro i1 i3 o4 o5 w' k m z0 hk hm hi km mm
    rw [eX3_digest_35]
    simp only [eX3_digest_36, eX3_digest_41, eX3_digest_46, eX3_digest_95, ite_le, nl_none]
    split
    with_reducible exact (by exfalso; have e := dl2 (c := 8) (i := i3) (by assumption); omega)
    with_reducible exact elX3_digest_97 hM hQ 70 _ _ _ _ _ _ _ (by decide) hk (by decide) (by decide) (by have z := i0z; omega) (by have z := i0z; omega)
  | succ d ih =>
    intro i1 i3 o4 o5 w' k m z0 hk hm hi km mm
    rw [eX3_digest_35]
    simp only [eX3_digest_36, eX3_digest_41, eX3_digest_46, eX3_digest_95, ite_le, nl_none]
    split
    with_reducible refine go_Y (hM.ext' (by first | assumption | exact ext.rf | exact ext.tr hk (by assumption))) (fun _ _ _ _ _ _ => ?_)
    simp only [eX3_digest_47, eX3_digest_48, wt_nil, wt_long, g0, gS, ex1, Nat.add_zero]
    with_reducible refine gl_M (hM.ext' (by first | assumption | exact ext.rf | exact ext.tr hk (by assumption))) ?_
    with_reducible intro _
    with_reducible refine And.intro ?_ ?_
    with_reducible exact vpi8 (by assumption) (by assumption)
    with_reducible refine And.intro ?_ ?_
    omega
    with_reducible refine And.intro ?_ ?_
    omega
    with_reducible refine And.intro ?_ ?_
    omega
    with_reducible refine sX3_high (fun _ => ?_)
    simp only [eX3_digest_51, eX3_digest_55, eX3_digest_59, kx_l, wt_nil, tl_s, Nat.add_zero]
    with_reducible refine And.intro ?_ ?_
    omega
    with_reducible refine And.intro ?_ ?_
    omega
    with_reducible refine And.intro ?_ ?_
    omega
    with_reducible refine sX3_add (fun _ => ?_)
    simp only [kx_l, tl_s]
    with_reducible refine go_Y (hM.ext' (by first | assumption | exact ext.rf | exact ext.tr hk (by assumption))) (fun _ _ _ _ _ _ => ?_)
    simp only [eX3_digest_60, eX3_digest_61, wt_nil, wt_long, g0, gS, ex1, Nat.add_zero]
    with_reducible refine gl_M (hM.ext' (by first | assumption | exact ext.rf | exact ext.tr hk (by assumption))) ?_
    with_reducible intro _
    with_reducible refine And.intro ?_ ?_
    with_reducible exact vpi8 (by assumption) (by assumption)
    with_reducible refine And.intro ?_ ?_
    omega
    with_reducible refine And.intro ?_ ?_
    omega
    with_reducible refine And.intro ?_ ?_
    omega
    with_reducible refine sX3_low (fun _ => ?_)
    simp only [eX3_digest_64, eX3_digest_68, kx_l, wt_nil, tl_s, Nat.add_zero]
    with_reducible refine And.intro ?_ ?_
    omega
    with_reducible refine And.intro ?_ ?_
    omega
    with_reducible refine And.intro ?_ ?_
    omega
    with_reducible refine sX3_add (fun _ => ?_)
    simp only [kx_l, wt_nil, wt_long, tl_s, Nat.add_zero]
    with_reducible refine And.intro ?_ ?_
    with_reducible refine go_Y (hM.ext' (by first | assumption | exact ext.rf | exact ext.tr hk (by assumption))) (fun _ _ _ _ _ _ => ?_)
    simp only []
    with_reducible refine And.intro ?_ ?_
    omega
    with_reducible refine And.intro ?_ ?_
    omega
    with_reducible refine And.intro ?_ ?_
    omega
    with_reducible refine sX3_whoNow (hM.ext' (by first | assumption | exact ext.rf | exact ext.tr hk (by assumption))) (by assumption) (by first | assumption | exact lt87 (by assumption)) (fun _ => ?_)
    simp only [eX3_digest_74, eX3_digest_78, kx_l, wt_nil, tl_s, Nat.add_zero]
    with_reducible refine And.intro ?_ ?_
    omega
    with_reducible refine And.intro ?_ ?_
    omega
    with_reducible refine And.intro ?_ ?_
    omega
    with_reducible refine sX3_add (fun _ => ?_)
    simp only [kx_l, wt_nil, wt_long, tl_s, Nat.add_zero]
    with_reducible refine And.intro ?_ ?_
    with_reducible refine go_Y (hM.ext' (by first | assumption | exact ext.rf | exact ext.tr hk (by assumption))) (fun _ _ _ _ _ _ => ?_)
    simp only []
    with_reducible refine And.intro ?_ ?_
    omega
    with_reducible refine And.intro ?_ ?_
    omega
    with_reducible refine And.intro ?_ ?_
    omega
    with_reducible refine sX3_whoNow (hM.ext' (by first | assumption | exact ext.rf | exact ext.tr hk (by assumption))) (by assumption) (by first | assumption | exact lt87 (by assumption)) (fun _ => ?_)
    simp only [eX3_digest_84, kx_l, wt_nil, tl_s, Nat.add_zero]
    with_reducible refine And.intro ?_ ?_
    omega
    with_reducible refine And.intro ?_ ?_
    omega
    with_reducible refine And.intro ?_ ?_
    omega
    with_reducible refine sX3_add (fun _ => ?_)
    simp only [eX3_digest_88, kx_l, nl_ref, nl_none, tl_s]
    with_reducible exact ih _ _ _ _ _ _ _ (ic_p (by assumption) (by assumption)) (by first | assumption | exact ext.rf | exact ext.tr hk (by assumption)) (by have e := dl2 (c := 8) (i := i3) (by assumption); omega) (by have e := dl2 (c := 8) (i := i3) (by assumption); omega) (by have e := dl2 (c := 8) (i := i3) (by assumption); omega) (by have e := dl2 (c := 8) (i := i3) (by assumption); omega)
    with_reducible exact elX3_digest_97 hM hQ 70 _ _ _ _ _ _ _ (by decide) hk (by decide) (by decide) (by have z := i0z; omega) (by have z := i0z; omega)
set_option maxHeartbeats 8000000 in
theorem elX3_digest_11 (hM : MM g w0 y nM kd w) (hQ : ∀ (v : Int64) w', ext g w w' → Q (.inl (some (.long v))) w') : ∀ (d : Nat) (i1 : Int64) (i3 : Int32) (o4 o5 : Option Value) (w' : Hw) (k m : Nat), ¬ i3 < 0 → ext g w w' → 5 - i3.toInt ≤ (d : Int) → i3.toInt ≤ 5 → (k : Int) ≤ 2 * i3.toInt → (m : Int) ≤ 9 * i3.toInt → WP (MX3_digest g) Q (11, [some (.ref y), some (.long i1), none, some (.int i3), o4, o5], [], w', k, m) := by
  have zb : (4 : Int32).toInt = 4 := rfl
  intro d
  induction d with
  | zero =>
    intro i1 i3 o4 o5 w' k m z0 hk hm hi km mm
    rw [eX3_digest_11]
    simp only [eX3_digest_12, eX3_digest_16, eX3_digest_33, wt_nil, wt_long, nl_none, Nat.add_zero]
    split
    with_reducible exact elX3_digest_35 hM hQ 70 _ _ _ _ _ _ _ (by decide) hk (by decide) (by decide) (by omega) (by omega)
    with_reducible refine And.intro ?_ ?_
    with_reducible exact (by exfalso; have e := dl1 (c := 4) (i := i3) (by assumption) (by decide); omega)
    with_reducible refine And.intro ?_ ?_
    with_reducible exact (by exfalso; have e := dl1 (c := 4) (i := i3) (by assumption) (by decide); omega)
    with_reducible refine And.intro ?_ ?_
    with_reducible exact (by exfalso; have e := dl1 (c := 4) (i := i3) (by assumption) (by decide); omega)
    with_reducible refine And.intro ?_ ?_
    with_reducible exact (by exfalso; have e := dl1 (c := 4) (i := i3) (by assumption) (by decide); omega)
    with_reducible exact (by exfalso; have e := dl1 (c := 4) (i := i3) (by assumption) (by decide); omega)
  | succ d ih =>
    intro i1 i3 o4 o5 w' k m z0 hk hm hi km mm
    rw [eX3_digest_11]
    simp only [eX3_digest_12, eX3_digest_16, eX3_digest_33, wt_nil, wt_long, nl_none, Nat.add_zero]
    split
    with_reducible exact elX3_digest_35 hM hQ 70 _ _ _ _ _ _ _ (by decide) hk (by decide) (by decide) (by omega) (by omega)
    with_reducible refine And.intro ?_ ?_
    with_reducible refine go_Y (hM.ext' (by first | assumption | exact ext.rf | exact ext.tr hk (by assumption))) (fun _ _ _ _ _ _ => ?_)
    simp only []
    with_reducible refine And.intro ?_ ?_
    omega
    with_reducible refine And.intro ?_ ?_
    omega
    with_reducible refine And.intro ?_ ?_
    omega
    with_reducible refine sX3_houseNow (hM.ext' (by first | assumption | exact ext.rf | exact ext.tr hk (by assumption))) (by assumption) (by assumption) (fun _ _ _ => ?_)
    simp only [eX3_digest_22, kx_l, wt_nil, tl_s, Nat.add_zero]
    with_reducible refine And.intro ?_ ?_
    omega
    with_reducible refine And.intro ?_ ?_
    omega
    with_reducible refine And.intro ?_ ?_
    omega
    with_reducible refine sX3_add (fun _ => ?_)
    simp only [eX3_digest_26, kx_l, nl_ref, nl_none, tl_s]
    with_reducible exact ih _ _ _ _ _ _ _ (ic_pl (by assumption) (by assumption) (by decide)) (by first | assumption | exact ext.rf | exact ext.tr hk (by assumption)) (by have e := dl1 (c := 4) (i := i3) (by assumption) (by decide); omega) (by have e := dl1 (c := 4) (i := i3) (by assumption) (by decide); omega) (by have e := dl1 (c := 4) (i := i3) (by assumption) (by decide); omega) (by have e := dl1 (c := 4) (i := i3) (by assumption) (by decide); omega)
end
end
/-! 70.law0.lean.txt -/
section
section
variable {g : RO} {Q : Ot → Hw → Prop} {w : Hw} {x nA cA lA y nM o : Nat} {kn km : Int32}
/-- the object, the reference, what is handed between them; nothing old is written -/
def LWS (g : RO) (w : Hw) (x nA cA lA y nM o : Nat) (kn km : Int32) : Prop := RC w x nA cA lA kn ∧ RMo g w y nM km ∧ nA ≠ nM ∧ (∃ a b : Value, w o = some (.inr (6, [a, b]))) ∧ ∀ (a : Nat) (z : Ob), g.2 a = some z → w a = none
theorem hgo_h {M : MT} {P : St → Prop} {pc : Nat} {L : List (Option Value)} {E : String} {k n h : Nat} {HH : List (Nat × Nat × Nat × Nat)} {NN : List (Nat × String)} (e1 : M.hh = HH) (e2 : M.hnm = NN) (h1 : hfind NN pc E HH = some h) (h2 : E ∈ EX3) (kk : ∀ q : Nat, P (h, L, [.ref q], w, k, n)) : hgo M Q P pc L E w k n := by
  refine ⟨Or.inr h2, ?_⟩
  rw [e1, e2, h1]
  exact kk
theorem LWS.cc (h : LWS g w x nA cA lA y nM o kn km) : CC g w x nA cA lA kn w := ⟨h.1, FC.rf⟩
theorem LWS.mm (h : LWS g w x nA cA lA y nM o kn km) : MM g w y nM km w := ⟨h.2.1, FM.rf⟩
theorem LWS.of {kn' : Int32} {w' : Hw} (h : LWS g w x nA cA lA y nM o kn km) (k : CC g w x nA cA lA kn' w') : LWS g w' x nA cA lA y nM o kn' km := by
  obtain ⟨h1, h2, h3, ⟨a, b, h4⟩, h5⟩ := h
  obtain ⟨n, rf, md, f, gc, gl, r1, r2, -⟩ := h1
  exact ⟨k.1, h2.FC k.2 r2 h3.symm, h3, ⟨a, b, k.2.ne r2 h4 (fun e => by cases e) rfl⟩, fun a z e => k.2.2 a z e (h5 a z e)⟩
theorem LWS.ofM {km' : Int32} {w' : Hw} (h : LWS g w x nA cA lA y nM o kn km) (k : MM g w y nM km' w') : LWS g w' x nA cA lA y nM o kn km' := by
  obtain ⟨h1, h2, h3, ⟨a, b, h4⟩, h5⟩ := h
  obtain ⟨cL, pL, D1, D2, c1, c2, th, rf, md, n, f, q1, q2, a1, a2, -⟩ := h2
  refine ⟨h1.FM k.2 ⟨f, a2⟩ h3, k.1, h3, ⟨a, b, k.2.1 _ _ h4 (ne_of h4 a2 (fun e => by cases e)) rfl⟩, fun a z e => k.2.2 a z e (h5 a z e)⟩
theorem LWS.ext {w' : Hw} (h : LWS g w x nA cA lA y nM o kn km) (k : ext g w w') : LWS g w' x nA cA lA y nM o kn km := h.of (h.cc.ext k)
/-- what is handed on is written -/
theorem LWS.out {a b a' b' : Value} (h : LWS g w x nA cA lA y nM o kn km) (ho : w o = some (.inr (6, [a, b]))) : LWS g (upw w o (.inr (6, [a', b']))) x nA cA lA y nM o kn km := by
  obtain ⟨h1, h2, h3, -, h5⟩ := h
  obtain ⟨n, rf, md, f, gc, gl, r1, r2, r3, r4, r5, r6, r7⟩ := h1
  obtain ⟨cL, pL, D1, D2, c1, c2, th, rf', md', n', f', q1, q2, a1, a2, a3, a4, a5, a6, a7⟩ := h2
  have mv : ∀ {a : Nat} {z : Ob}, w a = some z → (∀ fs, z ≠ .inr (6, fs)) → upw w o (.inr (6, [a', b'])) a = some z := fun e n => by
    rw [upw_n (ne_of e ho (n _))]
    exact e
  have rr : ∀ b, isR w b → isR (upw w o (.inr (6, [a', b']))) b := fun b ⟨r0, r1, r2, r3, hb⟩ => ⟨r0, r1, r2, r3, mv hb (fun _ e => by cases e)⟩
  refine ⟨⟨n, rf, md, f, gc, gl, mv r1 (fun _ e => by cases e), mv r2 (fun _ e => by cases e), mv r3 (fun _ e => by cases e), mv r4 (fun _ e => by cases e), fun i b z => rr b (r5 i b z), fun i b z => rr b (r6 i b z), r7⟩, ⟨cL, pL, D1, D2, c1, c2, th, rf', md', n', f', q1, q2, mv a1 (fun _ e => by cases e), mv a2 (fun _ e => by cases e), a3.up ho (fun _ e => by cases e) (fun _ e => by cases e), fun i b z => isRow_up (a4 i b z) ho (fun _ e => by cases e), a5.up ho (fun _ e => by cases e) (fun _ e => by cases e), fun i b z => isRow_up (a6 i b z) ho (fun _ e => by cases e), a7⟩, h3, ⟨a', b', upw_s _ _ _⟩, fun a z e => ?_⟩
  rw [upw_n]
  · exact h5 a z e
  · rintro rfl
    rw [h5 _ _ e] at ho
    cases ho
/-- what the old cells and numbers hold -/
def RG (g : RO) : Prop := SG g ∧ ((∃ e : Nat, g.1 0 = .ref e ∧ g.2 e = some (.inl (5, 0, qc fun _ => none))) ∧ ∃ mi : Nat, g.1 10 = .ref mi) ∧ ((∃ (a : Nat) (f : Nat → Int32), g.1 2 = .ref a ∧ g.2 a = some (.inl (2, 100, .inl f))) ∧ ∃ (a : Nat) (f : Nat → Int32), g.1 3 = .ref a ∧ g.2 a = some (.inl (2, 100, .inl f))) ∧ (∃ s, g.1 20 = .ref s) ∧ (∃ s, g.1 22 = .ref s) ∧ (∃ s, g.1 21 = .ref s ∧ (∃ (v M : Nat) (f : Nat → Int32) (h z : Value), g.2 s = some (.inr (0, [.ref v, .int 0, h, z])) ∧ g.2 v = some (.inl (2, M, .inl f)) ∧ bOK M f ∧ M ≤ 8) ∧ STB g s 0) ∧ ∃ s, g.1 23 = .ref s ∧ (∃ (v M : Nat) (f : Nat → Int32) (h z : Value), g.2 s = some (.inr (0, [.ref v, .int 0, h, z])) ∧ g.2 v = some (.inl (2, M, .inl f)) ∧ bOK M f ∧ M ≤ 8) ∧ STB g s 1
theorem RG.eg (h : RG g) (k : ∀ (a : Nat) (z : Ob), g.2 a = some z → w a = none) : EG g w := ⟨h.2.1.1.imp fun _ z => ⟨z.1, z.2, k _ _ z.2⟩, h.2.1.2⟩
theorem RG.dg (h : RG g) (k : ∀ (a : Nat) (z : Ob), g.2 a = some z → w a = none) : DG g w := ⟨h.1.1, h.2.2.1.1.imp fun _ z => z.imp fun _ z => ⟨z.1, z.2, k _ _ z.2⟩, h.2.2.1.2.imp fun _ z => z.imp fun _ z => ⟨z.1, z.2, k _ _ z.2⟩⟩
theorem RG.tx (h : RG g) (k : ∀ (a : Nat) (z : Ob), g.2 a = some z → w a = none) : TXT g w := by
  obtain ⟨-, -, -, -, h22, ⟨s, e1, ⟨v, M, f, h, z, q1, q2, q3, q4⟩, e3⟩, s', e1', ⟨v', M', f', h', z', q1', q2', q3', q4'⟩, e3'⟩ := h
  exact ⟨⟨s, e1, ⟨v, M, f, h, z, q1, k _ _ q1, q2, k _ _ q2, q3, q4⟩, e3⟩, h22, s', e1', ⟨v', M', f', h', z', q1', k _ _ q1', q2', k _ _ q2', q3', q4'⟩, e3'⟩
theorem RG.sg (h : RG g) : SG g := h.1
theorem RG.r20 (h : RG g) : ∃ s, g.1 20 = .ref s := h.2.2.2.1
theorem LWS.ro (h : LWS g w x nA cA lA y nM o kn km) : ∀ (a : Nat) (z : Ob), g.2 a = some z → w a = none := h.2.2.2.2
end
end
