/-! 69p.pild.lean.txt -/
section
section
variable {g : RO} {Q : Ot → Hw → Prop} {w0 w : Hw}
variable {y nM : Nat} {kd : Int32}
set_option maxHeartbeats 8000000 in
theorem elX3_digest_152 {w' : Hw} {b k m : Nat} {i3 : Int32} (hk : ext g w w') (hb : isRow w' b) (hkk : k ≤ 90) (hmm : m ≤ 520) (hK : ∀ (i1 : Int64) (i5 : Int32), WP (MX3_digest g) Q (214, [some (.ref y), some (.long i1), none, some (.int i3), some (.ref b), some (.int i5)], [], w', k, m)) : ∀ (d : Nat) (i1 : Int64) (i5 : Int32), ¬ i5 < 0 → 4 - i5.toInt ≤ (d : Int) → WP (MX3_digest g) Q (152, [some (.ref y), some (.long i1), none, some (.int i3), some (.ref b), some (.int i5)], [], w', k, m) := by
  have zb : (4 : Int32).toInt = 4 := rfl
  intro d
  induction d with
  | zero =>
    intro i1 i5 z0 hm
    rw [eX3_digest_152]
    simp only [eX3_digest_154, eX3_digest_158, eX3_digest_164, ite_le, wt_nil, wt_long, Nat.add_zero]
    split
    with_reducible exact (by exfalso; have e := dl2 (c := 4) (i := i5) (by assumption); omega)
    with_reducible exact hK _ _
  | succ d ih =>
    intro i1 i5 z0 hm
    rw [eX3_digest_152]
    simp only [eX3_digest_154, eX3_digest_158, eX3_digest_164, ite_le, wt_nil, wt_long, Nat.add_zero]
    split
    with_reducible refine gl_Row (by first | assumption | exact CAt.row (by assumption) | exact isRow.ext (CAt.row (by assumption)) (by assumption)) (fun _ => ?_)
    with_reducible refine And.intro ?_ ?_
    with_reducible exact vpi4l (by assumption) (by assumption)
    with_reducible refine And.intro ?_ ?_
    omega
    with_reducible refine And.intro ?_ ?_
    with_reducible assumption
    with_reducible refine And.intro ?_ ?_
    with_reducible assumption
    with_reducible refine sX3_high (fun _ => ?_)
    simp only [eX3_digest_167, eX3_digest_171, eX3_digest_176, kx_l, wt_nil, tl_s, Nat.add_zero]
    with_reducible refine And.intro ?_ ?_
    omega
    with_reducible refine And.intro ?_ ?_
    with_reducible assumption
    with_reducible refine And.intro ?_ ?_
    with_reducible assumption
    with_reducible refine sX3_add (fun _ => ?_)
    simp only [kx_l, wt_nil, wt_long, tl_s, Nat.add_zero]
    with_reducible refine gl_Row (by first | assumption | exact CAt.row (by assumption) | exact isRow.ext (CAt.row (by assumption)) (by assumption)) (fun _ => ?_)
    with_reducible refine And.intro ?_ ?_
    with_reducible exact vpi4l (by assumption) (by assumption)
    with_reducible refine And.intro ?_ ?_
    omega
    with_reducible refine And.intro ?_ ?_
    with_reducible assumption
    with_reducible refine And.intro ?_ ?_
    with_reducible assumption
    with_reducible refine sX3_low (fun _ => ?_)
    simp only [eX3_digest_179, eX3_digest_183, kx_l, wt_nil, tl_s, Nat.add_zero]
    with_reducible refine And.intro ?_ ?_
    omega
    with_reducible refine And.intro ?_ ?_
    with_reducible assumption
    with_reducible refine And.intro ?_ ?_
    with_reducible assumption
    with_reducible refine sX3_add (fun _ => ?_)
    simp only [kx_l, wt_nil, wt_long, tl_s, Nat.add_zero]
    with_reducible refine And.intro ?_ ?_
    omega
    with_reducible refine And.intro ?_ ?_
    with_reducible assumption
    with_reducible refine And.intro ?_ ?_
    with_reducible assumption
    with_reducible refine sX3_aroundNow (by first | assumption | exact CAt.row (by assumption) | exact isRow.ext (CAt.row (by assumption)) (by assumption)) (by assumption) (by first | assumption | exact lt43 (by assumption)) (fun _ => ?_)
    simp only [eX3_digest_191, eX3_digest_195, kx_l, wt_nil, tl_s, Nat.add_zero]
    with_reducible refine And.intro ?_ ?_
    omega
    with_reducible refine And.intro ?_ ?_
    with_reducible assumption
    with_reducible refine And.intro ?_ ?_
    with_reducible assumption
    with_reducible refine sX3_add (fun _ => ?_)
    simp only [kx_l, wt_nil, wt_long, tl_s, Nat.add_zero]
    with_reducible refine And.intro ?_ ?_
    omega
    with_reducible refine And.intro ?_ ?_
    with_reducible assumption
    with_reducible refine And.intro ?_ ?_
    with_reducible assumption
    with_reducible refine sX3_aroundNow (by first | assumption | exact CAt.row (by assumption) | exact isRow.ext (CAt.row (by assumption)) (by assumption)) (by assumption) (by first | assumption | exact lt43 (by assumption)) (fun _ => ?_)
    simp only [eX3_digest_203, kx_l, wt_nil, tl_s, Nat.add_zero]
    with_reducible refine And.intro ?_ ?_
    omega
    with_reducible refine And.intro ?_ ?_
    with_reducible assumption
    with_reducible refine And.intro ?_ ?_
    with_reducible assumption
    with_reducible refine sX3_add (fun _ => ?_)
    simp only [eX3_digest_207, kx_l, nl_ref, tl_s]
    with_reducible exact ih _ _ (ic_p (by assumption) (by assumption)) (by have e := dl2 (c := 4) (i := i5) (by assumption); omega)
    with_reducible exact hK _ _
set_option maxHeartbeats 8000000 in
theorem elX3_digest_283 {w' : Hw} {b k m : Nat} {i3 : Int32} (hk : ext g w w') (hb : isRow w' b) (hkk : k ≤ 90) (hmm : m ≤ 520) (hK : ∀ (i1 : Int64) (i5 : Int32), WP (MX3_digest g) Q (308, [some (.ref y), some (.long i1), none, some (.int i3), some (.ref b), some (.int i5)], [], w', k, m)) : ∀ (d : Nat) (i1 : Int64) (i5 : Int32), 2 - i5.toInt ≤ (d : Int) → WP (MX3_digest g) Q (283, [some (.ref y), some (.long i1), none, some (.int i3), some (.ref b), some (.int i5)], [], w', k, m) := by
  have zb : (1 : Int32).toInt = 1 := rfl
  intro d
  induction d with
  | zero =>
    intro i1 i5 hm
    rw [eX3_digest_283]
    simp only [eX3_digest_285, eX3_digest_289, wt_nil, wt_long, Nat.add_zero]
    split
    with_reducible exact hK _ _
    with_reducible refine And.intro ?_ ?_
    with_reducible exact (by exfalso; have e := dl1 (c := 1) (i := i5) (by assumption) (by decide); omega)
    with_reducible refine And.intro ?_ ?_
    with_reducible assumption
    with_reducible refine And.intro ?_ ?_
    with_reducible assumption
    with_reducible exact (by exfalso; have e := dl1 (c := 1) (i := i5) (by assumption) (by decide); omega)
  | succ d ih =>
    intro i1 i5 hm
    rw [eX3_digest_283]
    simp only [eX3_digest_285, eX3_digest_289, wt_nil, wt_long, Nat.add_zero]
    split
    with_reducible exact hK _ _
    with_reducible refine And.intro ?_ ?_
    omega
    with_reducible refine And.intro ?_ ?_
    with_reducible assumption
    with_reducible refine And.intro ?_ ?_
    with_reducible assumption
    with_reducible refine sX3_whichNow (by first | assumption | exact CAt.row (by assumption) | exact isRow.ext (CAt.row (by assumption)) (by assumption)) (fun _ => ?_)
    simp only [eX3_digest_297, kx_l, wt_nil, tl_s, Nat.add_zero]
    with_reducible refine And.intro ?_ ?_
    omega
    with_reducible refine And.intro ?_ ?_
    with_reducible assumption
    with_reducible refine And.intro ?_ ?_
    with_reducible assumption
    with_reducible refine sX3_add (fun _ => ?_)
    simp only [eX3_digest_301, kx_l, nl_ref, tl_s]
    with_reducible exact ih _ _ (by have e := dl1 (c := 1) (i := i5) (by assumption) (by decide); omega)
set_option maxHeartbeats 8000000 in
theorem elX3_digest_97 (hM : MM g w0 y nM kd w) (hQ : ∀ (v : Int64) w', ext g w w' → Q (.inl (some (.long v))) w') : ∀ (d : Nat) (i1 : Int64) (i3 : Int32) (o4 o5 : Option Value) (w' : Hw) (k m : Nat), ¬ i3 < 0 → ext g w w' → 6 - i3.toInt ≤ (d : Int) → i3.toInt ≤ 6 → (k : Int) ≤ 10 + i3.toInt → (m : Int) ≤ 45 + 4 * i3.toInt → WP (MX3_digest g) Q (97, [some (.ref y), some (.long i1), none, some (.int i3), o4, o5], [], w', k, m) := by
  have zb : (6 : Int32).toInt = 6 := rfl
  intro d
  induction d with
  | zero =>
    intro i1 i3 o4 o5 w' k m z0 hk hm hi km mm
    rw [eX3_digest_97]
    simp only [eX3_digest_98, eX3_digest_103, eX3_digest_314, ite_le, wt_nil, wt_long, nl_none, Nat.add_zero]
    split
    with_reducible refine And.intro ?_ ?_
    with_reducible exact (by exfalso; have e := dl2 (c := 6) (i := i3) (by assumption); omega)
    with_reducible refine And.intro ?_ ?_
    with_reducible exact (by exfalso; have e := dl2 (c := 6) (i := i3) (by assumption); omega)
    with_reducible refine And.intro ?_ ?_
    with_reducible exact (by exfalso; have e := dl2 (c := 6) (i := i3) (by assumption); omega)
    with_reducible refine And.intro ?_ ?_
    with_reducible exact (by exfalso; have e := dl2 (c := 6) (i := i3) (by assumption); omega)
    with_reducible exact (by exfalso; have e := dl2 (c := 6) (i := i3) (by assumption); omega)
    with_reducible exact elX3_digest_316 hM hQ 70 _ _ _ _ _ _ _ (by decide) hk (by decide) (by decide) (by omega) (by omega)
  | succ d ih =>
    intro i1 i3 o4 o5 w' k m z0 hk hm hi km mm
    rw [eX3_digest_97]
    simp only [eX3_digest_98, eX3_digest_103, eX3_digest_314, ite_le, wt_nil, wt_long, nl_none, Nat.add_zero]
    split
    with_reducible refine And.intro ?_ ?_
    with_reducible refine go_Y (hM.ext' (by first | assumption | exact ext.rf | exact ext.tr hk (by assumption))) (fun _ _ _ _ _ _ => ?_)
    simp only []
    with_reducible refine And.intro ?_ ?_
    omega
    with_reducible refine And.intro ?_ ?_
    omega
    with_reducible refine And.intro ?_ ?_
    omega
    with_reducible refine sX3_isBareM (hM.ext' (by first | assumption | exact ext.rf | exact ext.tr hk (by assumption))) (by assumption) (by first | assumption | exact lt65 (by assumption)) ?_ (fun _ _ => ?_)
    simp only [eX3_digest_109, eX3_digest_112, eX3_digest_116, eX3_digest_117, kx_l, wt_nil, wt_long, tl_s, Nat.add_zero, if_false, m10]
    with_reducible refine And.intro ?_ ?_
    omega
    with_reducible refine And.intro ?_ ?_
    omega
    with_reducible refine And.intro ?_ ?_
    omega
    with_reducible refine sX3_one (fun _ => ?_)
    simp only [eX3_digest_120, kx_l, wt_nil, tl_s, Nat.add_zero]
    with_reducible refine And.intro ?_ ?_
    omega
    with_reducible refine And.intro ?_ ?_
    omega
    with_reducible refine And.intro ?_ ?_
    omega
    with_reducible refine sX3_add (fun _ => ?_)
    simp only [eX3_digest_124, eX3_digest_125, kx_l, wt_nil, nl_ref, tl_s, Nat.add_zero]
    with_reducible refine And.intro ?_ ?_
    with_reducible refine go_Y (hM.ext' (by first | assumption | exact ext.rf | exact ext.tr hk (by assumption))) (fun _ _ _ _ _ _ => ?_)
    simp only []
    with_reducible refine And.intro ?_ ?_
    omega
    with_reducible refine And.intro ?_ ?_
    omega
    with_reducible refine And.intro ?_ ?_
    omega
    with_reducible refine sX3_isBareM (hM.ext' (by first | assumption | exact ext.rf | exact ext.tr hk (by assumption))) (by assumption) (by first | assumption | exact lt65 (by assumption)) ?_ (fun _ _ => ?_)
    simp only [eX3_digest_130, eX3_digest_133, eX3_digest_136, eX3_digest_140, eX3_digest_308, kx_l, nl_none, tl_s, if_false, m10]
    with_reducible exact ih _ _ _ _ _ _ _ (ic_p (by assumption) (by assumption)) (by first | assumption | exact ext.rf | exact ext.tr hk (by assumption)) (by have e := dl2 (c := 6) (i := i3) (by assumption); omega) (by have e := dl2 (c := 6) (i := i3) (by assumption); omega) (by have e := dl2 (c := 6) (i := i3) (by assumption); omega) (by have e := dl2 (c := 6) (i := i3) (by assumption); omega)
    simp only [eX3_digest_130, eX3_digest_133, eX3_digest_136, eX3_digest_140, eX3_digest_308, kx_l, nl_none, tl_s, if_true]
    with_reducible refine go_Y (hM.ext' (by first | assumption | exact ext.rf | exact ext.tr hk (by assumption))) (fun _ _ _ _ _ _ => ?_)
    simp only [eX3_digest_141, wt_nil, g0, gS, ex1, Nat.add_zero]
    with_reducible refine And.intro ?_ ?_
    with_reducible exact gtC (hM.ext' (by first | assumption | exact ext.rf | exact ext.tr hk (by assumption))) (by assumption)
    with_reducible refine And.intro ?_ ?_
    omega
    with_reducible refine And.intro ?_ ?_
    omega
    with_reducible refine And.intro ?_ ?_
    omega
    with_reducible refine sGetY (by assumption) (by assumption) (by assumption) (by first | assumption | exact lt65 (by assumption)) ?_
    simp only [eX3_digest_144R, eX3_digest_147, kx_l, nl_int, nl_ref, tl_s]
    with_reducible refine And.intro ?_ ?_
    with_reducible exact isRow.ca (by first | assumption | exact CAt.row (by assumption) | exact isRow.ext (CAt.row (by assumption)) (by assumption))
    with_reducible refine elX3_digest_152 hk (by first | assumption | exact CAt.row (by assumption) | exact isRow.ext (CAt.row (by assumption)) (by assumption)) (by omega) (by omega) (fun _ _ => ?_) 70 _ _ (by decide) (by decide)
    simp only [eX3_digest_214, wt_nil, wt_long, Nat.add_zero]
    with_reducible refine And.intro ?_ ?_
    omega
    with_reducible refine And.intro ?_ ?_
    omega
    with_reducible refine And.intro ?_ ?_
    omega
    with_reducible refine sX3_fixedV (by first | assumption | exact CAt.row (by assumption) | exact isRow.ext (CAt.row (by assumption)) (by assumption)) (fun _ => ?_)
    simp only [eX3_digest_220, kx_l, wt_nil, wt_long, tl_s, Nat.add_zero]
    with_reducible refine And.intro ?_ ?_
    omega
    with_reducible refine And.intro ?_ ?_
    omega
    with_reducible refine And.intro ?_ ?_
    omega
    with_reducible refine sX3_one (fun _ => ?_)
    simp only [eX3_digest_223, eX3_digest_227, kx_l, wt_nil, tl_s, Nat.add_zero]
    with_reducible refine And.intro ?_ ?_
    omega
    with_reducible refine And.intro ?_ ?_
    omega
    with_reducible refine And.intro ?_ ?_
    omega
    with_reducible refine sX3_add (fun _ => ?_)
    simp only [kx_l, wt_nil, wt_long, tl_s, Nat.add_zero]
    with_reducible refine And.intro ?_ ?_
    omega
    with_reducible refine And.intro ?_ ?_
    omega
    with_reducible refine And.intro ?_ ?_
    omega
    with_reducible refine sX3_smallV (by first | assumption | exact CAt.row (by assumption) | exact isRow.ext (CAt.row (by assumption)) (by assumption)) (fun _ => ?_)
    simp only [eX3_digest_232, kx_l, wt_nil, wt_long, tl_s, Nat.add_zero]
    with_reducible refine And.intro ?_ ?_
    omega
    with_reducible refine And.intro ?_ ?_
    omega
    with_reducible refine And.intro ?_ ?_
    omega
    with_reducible refine sX3_one (fun _ => ?_)
    simp only [eX3_digest_235, eX3_digest_239, kx_l, wt_nil, tl_s, Nat.add_zero]
    with_reducible refine And.intro ?_ ?_
    omega
    with_reducible refine And.intro ?_ ?_
    omega
    with_reducible refine And.intro ?_ ?_
    omega
    with_reducible refine sX3_add (fun _ => ?_)
    simp only [kx_l, wt_nil, wt_long, tl_s, Nat.add_zero]
    with_reducible refine And.intro ?_ ?_
    with_reducible refine go_Y (hM.ext' (by first | assumption | exact ext.rf | exact ext.tr hk (by assumption))) (fun _ _ _ _ _ _ => ?_)
    simp only []
    with_reducible refine And.intro ?_ ?_
    omega
    with_reducible refine And.intro ?_ ?_
    omega
    with_reducible refine And.intro ?_ ?_
    omega
    with_reducible refine sX3_likesNow (hM.ext' (by first | assumption | exact ext.rf | exact ext.tr hk (by assumption))) (by assumption) (by assumption) (by first | assumption | exact lt65 (by assumption)) (fun _ => ?_)
    simp only [eX3_digest_244, kx_l, wt_nil, tl_s, Nat.add_zero]
    with_reducible refine And.intro ?_ ?_
    omega
    with_reducible refine And.intro ?_ ?_
    omega
    with_reducible refine And.intro ?_ ?_
    omega
    with_reducible refine sX3_add (fun _ => ?_)
    simp only [eX3_digest_248, eX3_digest_250, kx_l, wt_nil, wt_long, nl_ref, tl_s, Nat.add_zero]
    with_reducible refine And.intro ?_ ?_
    with_reducible refine go_Y (hM.ext' (by first | assumption | exact ext.rf | exact ext.tr hk (by assumption))) (fun _ _ _ _ _ _ => ?_)
    simp only []
    with_reducible refine And.intro ?_ ?_
    omega
    with_reducible refine And.intro ?_ ?_
    omega
    with_reducible refine And.intro ?_ ?_
    omega
    with_reducible refine sX3_seekNowM (hM.ext' (by first | assumption | exact ext.rf | exact ext.tr hk (by assumption))) (by assumption) (by assumption) (by first | assumption | exact lt65 (by assumption)) (fun _ _ _ _ => ?_)
    simp only [eX3_digest_256, eX3_digest_260, kx_l, wt_nil, tl_s, Nat.add_zero]
    with_reducible refine And.intro ?_ ?_
    omega
    with_reducible refine And.intro ?_ ?_
    omega
    with_reducible refine And.intro ?_ ?_
    omega
    with_reducible refine sX3_add (fun _ => ?_)
    simp only [kx_l, wt_nil, wt_long, tl_s, Nat.add_zero]
    with_reducible refine And.intro ?_ ?_
    with_reducible refine go_Y (hM.ext' (by first | assumption | exact ext.rf | exact ext.tr hk (by assumption))) (fun _ _ _ _ _ _ => ?_)
    simp only []
    with_reducible refine And.intro ?_ ?_
    omega
    with_reducible refine And.intro ?_ ?_
    omega
    with_reducible refine And.intro ?_ ?_
    omega
    with_reducible refine sX3_seekNowM (hM.ext' (by first | assumption | exact ext.rf | exact ext.tr hk (by assumption))) (by assumption) (by assumption) (by first | assumption | exact lt65 (by assumption)) (fun _ _ _ _ => ?_)
    simp only [eX3_digest_266, eX3_digest_270, kx_l, wt_nil, tl_s, Nat.add_zero]
    with_reducible refine And.intro ?_ ?_
    omega
    with_reducible refine And.intro ?_ ?_
    omega
    with_reducible refine And.intro ?_ ?_
    omega
    with_reducible refine sX3_add (fun _ => ?_)
    simp only [kx_l, wt_nil, wt_long, tl_s, Nat.add_zero]
    with_reducible refine And.intro ?_ ?_
    with_reducible refine go_Y (hM.ext' (by first | assumption | exact ext.rf | exact ext.tr hk (by assumption))) (fun _ _ _ _ _ _ => ?_)
    simp only []
    with_reducible refine And.intro ?_ ?_
    omega
    with_reducible refine And.intro ?_ ?_
    omega
    with_reducible refine And.intro ?_ ?_
    omega
    with_reducible refine sX3_oftenNow (hM.ext' (by first | assumption | exact ext.rf | exact ext.tr hk (by assumption))) (by assumption) (by assumption) (by first | assumption | exact lt65 (by assumption)) (fun _ _ _ => ?_)
    simp only [eX3_digest_275, kx_l, wt_nil, tl_s, Nat.add_zero]
    with_reducible refine And.intro ?_ ?_
    omega
    with_reducible refine And.intro ?_ ?_
    omega
    with_reducible refine And.intro ?_ ?_
    omega
    with_reducible refine sX3_add (fun _ => ?_)
    simp only [eX3_digest_279, kx_l, nl_ref, tl_s]
    with_reducible refine elX3_digest_283 (by first | assumption | exact ext.rf | exact ext.tr hk (by assumption)) (by first | assumption | exact CAt.row (by assumption) | exact isRow.ext (CAt.row (by assumption)) (by assumption)) (by omega) (by omega) (fun _ _ => ?_) 70 _ _ (by decide)
    simp only [eX3_digest_308, nl_none]
    with_reducible exact ih _ _ _ _ _ _ _ (ic_p (by assumption) (by assumption)) (by first | assumption | exact ext.rf | exact ext.tr hk (by assumption)) (by have e := dl2 (c := 6) (i := i3) (by assumption); omega) (by have e := dl2 (c := 6) (i := i3) (by assumption); omega) (by have e := dl2 (c := 6) (i := i3) (by assumption); omega) (by have e := dl2 (c := 6) (i := i3) (by assumption); omega)
    simp only [eX3_digest_109, eX3_digest_112, eX3_digest_116, eX3_digest_117, kx_l, wt_nil, wt_long, tl_s, Nat.add_zero, if_true]
    with_reducible refine And.intro ?_ ?_
    omega
    with_reducible refine And.intro ?_ ?_
    omega
    with_reducible refine And.intro ?_ ?_
    omega
    with_reducible refine sX3_one (fun _ => ?_)
    simp only [eX3_digest_120, kx_l, wt_nil, tl_s, Nat.add_zero]
    with_reducible refine And.intro ?_ ?_
    omega
    with_reducible refine And.intro ?_ ?_
    omega
    with_reducible refine And.intro ?_ ?_
    omega
    with_reducible refine sX3_add (fun _ => ?_)
    simp only [eX3_digest_124, eX3_digest_125, kx_l, wt_nil, nl_ref, tl_s, Nat.add_zero]
    with_reducible refine And.intro ?_ ?_
    with_reducible refine go_Y (hM.ext' (by first | assumption | exact ext.rf | exact ext.tr hk (by assumption))) (fun _ _ _ _ _ _ => ?_)
    simp only []
    with_reducible refine And.intro ?_ ?_
    omega
    with_reducible refine And.intro ?_ ?_
    omega
    with_reducible refine And.intro ?_ ?_
    omega
    with_reducible refine sX3_isBareM (hM.ext' (by first | assumption | exact ext.rf | exact ext.tr hk (by assumption))) (by assumption) (by first | assumption | exact lt65 (by assumption)) ?_ (fun _ _ => ?_)
    simp only [eX3_digest_130, eX3_digest_133, eX3_digest_136, eX3_digest_140, eX3_digest_308, kx_l, nl_none, tl_s, if_false, m10]
    with_reducible exact ih _ _ _ _ _ _ _ (ic_p (by assumption) (by assumption)) (by first | assumption | exact ext.rf | exact ext.tr hk (by assumption)) (by have e := dl2 (c := 6) (i := i3) (by assumption); omega) (by have e := dl2 (c := 6) (i := i3) (by assumption); omega) (by have e := dl2 (c := 6) (i := i3) (by assumption); omega) (by have e := dl2 (c := 6) (i := i3) (by assumption); omega)
    simp only [eX3_digest_130, eX3_digest_133, eX3_digest_136, eX3_digest_140, eX3_digest_308, kx_l, nl_none, tl_s, if_true]
    with_reducible refine go_Y (hM.ext' (by first | assumption | exact ext.rf | exact ext.tr hk (by assumption))) (fun _ _ _ _ _ _ => ?_)
    simp only [eX3_digest_141, wt_nil, g0, gS, ex1, Nat.add_zero]
    with_reducible refine And.intro ?_ ?_
    with_reducible exact gtC (hM.ext' (by first | assumption | exact ext.rf | exact ext.tr hk (by assumption))) (by assumption)
    with_reducible refine And.intro ?_ ?_
    omega
    with_reducible refine And.intro ?_ ?_
    omega
    with_reducible refine And.intro ?_ ?_
    omega
    with_reducible refine sGetY (by assumption) (by assumption) (by assumption) (by first | assumption | exact lt65 (by assumption)) ?_
    simp only [eX3_digest_144R, eX3_digest_147, kx_l, nl_int, nl_ref, tl_s]
    with_reducible refine And.intro ?_ ?_
    with_reducible exact isRow.ca (by first | assumption | exact CAt.row (by assumption) | exact isRow.ext (CAt.row (by assumption)) (by assumption))
    with_reducible refine elX3_digest_152 hk (by first | assumption | exact CAt.row (by assumption) | exact isRow.ext (CAt.row (by assumption)) (by assumption)) (by omega) (by omega) (fun _ _ => ?_) 70 _ _ (by decide) (by decide)
    simp only [eX3_digest_214, wt_nil, wt_long, Nat.add_zero]
    with_reducible refine And.intro ?_ ?_
    omega
    with_reducible refine And.intro ?_ ?_
    omega
    with_reducible refine And.intro ?_ ?_
    omega
    with_reducible refine sX3_fixedV (by first | assumption | exact CAt.row (by assumption) | exact isRow.ext (CAt.row (by assumption)) (by assumption)) (fun _ => ?_)
    simp only [eX3_digest_220, kx_l, wt_nil, wt_long, tl_s, Nat.add_zero]
    with_reducible refine And.intro ?_ ?_
    omega
    with_reducible refine And.intro ?_ ?_
    omega
    with_reducible refine And.intro ?_ ?_
    omega
    with_reducible refine sX3_one (fun _ => ?_)
    simp only [eX3_digest_223, eX3_digest_227, kx_l, wt_nil, tl_s, Nat.add_zero]
    with_reducible refine And.intro ?_ ?_
    omega
    with_reducible refine And.intro ?_ ?_
    omega
    with_reducible refine And.intro ?_ ?_
    omega
    with_reducible refine sX3_add (fun _ => ?_)
    simp only [kx_l, wt_nil, wt_long, tl_s, Nat.add_zero]
    with_reducible refine And.intro ?_ ?_
    omega
    with_reducible refine And.intro ?_ ?_
    omega
    with_reducible refine And.intro ?_ ?_
    omega
    with_reducible refine sX3_smallV (by first | assumption | exact CAt.row (by assumption) | exact isRow.ext (CAt.row (by assumption)) (by assumption)) (fun _ => ?_)
    simp only [eX3_digest_232, kx_l, wt_nil, wt_long, tl_s, Nat.add_zero]
    with_reducible refine And.intro ?_ ?_
    omega
    with_reducible refine And.intro ?_ ?_
    omega
    with_reducible refine And.intro ?_ ?_
    omega
    with_reducible refine sX3_one (fun _ => ?_)
    simp only [eX3_digest_235, eX3_digest_239, kx_l, wt_nil, tl_s, Nat.add_zero]
    with_reducible refine And.intro ?_ ?_
    omega
    with_reducible refine And.intro ?_ ?_
    omega
    with_reducible refine And.intro ?_ ?_
    omega
    with_reducible refine sX3_add (fun _ => ?_)
    simp only [kx_l, wt_nil, wt_long, tl_s, Nat.add_zero]
    with_reducible refine And.intro ?_ ?_
    with_reducible refine go_Y (hM.ext' (by first | assumption | exact ext.rf | exact ext.tr hk (by assumption))) (fun _ _ _ _ _ _ => ?_)
    simp only []
    with_reducible refine And.intro ?_ ?_
    omega
    with_reducible refine And.intro ?_ ?_
    omega
    with_reducible refine And.intro ?_ ?_
    omega
    with_reducible refine sX3_likesNow (hM.ext' (by first | assumption | exact ext.rf | exact ext.tr hk (by assumption))) (by assumption) (by assumption) (by first | assumption | exact lt65 (by assumption)) (fun _ => ?_)
    simp only [eX3_digest_244, kx_l, wt_nil, tl_s, Nat.add_zero]
    with_reducible refine And.intro ?_ ?_
    omega
    with_reducible refine And.intro ?_ ?_
    omega
    with_reducible refine And.intro ?_ ?_
    omega
    with_reducible refine sX3_add (fun _ => ?_)
    simp only [eX3_digest_248, eX3_digest_250, kx_l, wt_nil, wt_long, nl_ref, tl_s, Nat.add_zero]
    with_reducible refine And.intro ?_ ?_
    with_reducible refine go_Y (hM.ext' (by first | assumption | exact ext.rf | exact ext.tr hk (by assumption))) (fun _ _ _ _ _ _ => ?_)
    simp only []
    with_reducible refine And.intro ?_ ?_
    omega
    with_reducible refine And.intro ?_ ?_
    omega
    with_reducible refine And.intro ?_ ?_
    omega
    with_reducible refine sX3_seekNowM (hM.ext' (by first | assumption | exact ext.rf | exact ext.tr hk (by assumption))) (by assumption) (by assumption) (by first | assumption | exact lt65 (by assumption)) (fun _ _ _ _ => ?_)
    simp only [eX3_digest_256, eX3_digest_260, kx_l, wt_nil, tl_s, Nat.add_zero]
    with_reducible refine And.intro ?_ ?_
    omega
    with_reducible refine And.intro ?_ ?_
    omega
    with_reducible refine And.intro ?_ ?_
    omega
    with_reducible refine sX3_add (fun _ => ?_)
    simp only [kx_l, wt_nil, wt_long, tl_s, Nat.add_zero]
    with_reducible refine And.intro ?_ ?_
    with_reducible refine go_Y (hM.ext' (by first | assumption | exact ext.rf | exact ext.tr hk (by assumption))) (fun _ _ _ _ _ _ => ?_)
    simp only []
    with_reducible refine And.intro ?_ ?_
    omega
    with_reducible refine And.intro ?_ ?_
    omega
    with_reducible refine And.intro ?_ ?_
    omega
    with_reducible refine sX3_seekNowM (hM.ext' (by first | assumption | exact ext.rf | exact ext.tr hk (by assumption))) (by assumption) (by assumption) (by first | assumption | exact lt65 (by assumption)) (fun _ _ _ _ => ?_)
    simp only [eX3_digest_266, eX3_digest_270, kx_l, wt_nil, tl_s, Nat.add_zero]
    with_reducible refine And.intro ?_ ?_
    omega
    with_reducible refine And.intro ?_ ?_
    omega
    with_reducible refine And.intro ?_ ?_
    omega
    with_reducible refine sX3_add (fun _ => ?_)
    simp only [kx_l, wt_nil, wt_long, tl_s, Nat.add_zero]
    with_reducible refine And.intro ?_ ?_
    with_reducible refine go_Y (hM.ext' (by first | assumption | exact ext.rf | exact ext.tr hk (by assumption))) (fun _ _ _ _ _ _ => ?_)
    simp only []
    with_reducible refine And.intro ?_ ?_
    omega
    with_reducible refine And.intro ?_ ?_
    omega
    with_reducible refine And.intro ?_ ?_
    omega
    with_reducible refine sX3_oftenNow (hM.ext' (by first | assumption | exact ext.rf | exact ext.tr hk (by assumption))) (by assumption) (by assumption) (by first | assumption | exact lt65 (by assumption)) (fun _ _ _ => ?_)
    simp only [eX3_digest_275, kx_l, wt_nil, tl_s, Nat.add_zero]
    with_reducible refine And.intro ?_ ?_
    omega
    with_reducible refine And.intro ?_ ?_
    omega
    with_reducible refine And.intro ?_ ?_
    omega
    with_reducible refine sX3_add (fun _ => ?_)
    simp only [eX3_digest_279, kx_l, nl_ref, tl_s]
    with_reducible refine elX3_digest_283 (by first | assumption | exact ext.rf | exact ext.tr hk (by assumption)) (by first | assumption | exact CAt.row (by assumption) | exact isRow.ext (CAt.row (by assumption)) (by assumption)) (by omega) (by omega) (fun _ _ => ?_) 70 _ _ (by decide)
    simp only [eX3_digest_308, nl_none]
    with_reducible exact ih _ _ _ _ _ _ _ (ic_p (by assumption) (by assumption)) (by first | assumption | exact ext.rf | exact ext.tr hk (by assumption)) (by have e := dl2 (c := 6) (i := i3) (by assumption); omega) (by have e := dl2 (c := 6) (i := i3) (by assumption); omega) (by have e := dl2 (c := 6) (i := i3) (by assumption); omega) (by have e := dl2 (c := 6) (i := i3) (by assumption); omega)
    with_reducible exact elX3_digest_316 hM hQ 70 _ _ _ _ _ _ _ (by decide) hk (by decide) (by decide) (by omega) (by omega)
end
end
/-! 69p.pile.lean.txt -/
section
section
variable {g : RO} {Q : Ot → Hw → Prop} {w0 w : Hw}
variable {y nM : Nat} {kd : Int32}
set_option maxHeartbeats 8000000 in
theorem elX3_digest_35 (hM : MM g w0 y nM kd w) (hQ : ∀ (v : Int64) w', ext g w w' → Q (.inl (some (.long v))) w') : ∀ (d : Nat) (i1 : Int64) (i3 : Int32) (o4 o5 : Option Value) (w' : Hw) (k m : Nat), ¬ i3 < 0 → ext g w w' → 8 - i3.toInt ≤ (d : Int) → i3.toInt ≤ 8 → (k : Int) ≤ 10 → (m : Int) ≤ 45 → WP (MX3_digest g) Q (35, [some (.ref y), some (.long i1), none, some (.int i3), o4, o5], [], w', k, m) := by
  have zb : (8 : Int32).toInt = 8 := rfl
  intro d
  induction d with
  | zero =>
    intro i1 i3 o4 o5 w' k m z0 hk hm hi km mm
    rw [eX3_digest_35]
    simp only [eX3_digest_36, eX3_digest_41, eX3_digest_46, eX3_digest_95, ite_le, nl_none]
    split
    with_reducible exact (by exfalso; have e := dl2 (c := 8) (i := i3) (by assumption); omega)
    with_reducible exact elX3_digest_97 hM hQ 70 _ _ _ _ _ _ _ (by decide) hk (by decide) (by decide) (by have z := i0z; omega) (by have z := i0z; omega)
  | succ d ih =>
    intro i1 i3 o4 o5 w' k m z0 hk hm hi km mm
    rw [eX3_digest_35]
    simp only [eX3_digest_36, eX3_digest_41, eX3_digest_46, eX3_digest_95, ite_le, nl_none]
    split
    with_reducible refine go_Y (hM.ext' (by first | assumption | exact ext.rf | exact ext.tr hk (by assumption))) (fun _ _ _ _ _ _ => ?_)
    simp only [eX3_digest_47, eX3_digest_48, wt_nil, wt_long, g0, gS, ex1, Nat.add_zero]
    with_reducible refine gl_M (hM.ext' (by first | assumption | exact ext.rf | exact ext.tr hk (by assumption))) ?_
    with_reducible intro _
    with_reducible refine And.intro ?_ ?_
    with_reducible exact vpi8 (by assumption) (by assumption)
    with_reducible refine And.intro ?_ ?_
    omega
    with_reducible refine And.intro ?_ ?_
    omega
    with_reducible refine And.intro ?_ ?_
    omega
    with_reducible refine sX3_high (fun _ => ?_)
    simp only [eX3_digest_51, eX3_digest_55, eX3_digest_59, kx_l, wt_nil, tl_s, Nat.add_zero]
    with_reducible refine And.intro ?_ ?_
    omega
    with_reducible refine And.intro ?_ ?_
    omega
    with_reducible refine And.intro ?_ ?_
    omega
    with_reducible refine sX3_add (fun _ => ?_)
    simp only [kx_l, tl_s]
    with_reducible refine go_Y (hM.ext' (by first | assumption | exact ext.rf | exact ext.tr hk (by assumption))) (fun _ _ _ _ _ _ => ?_)
    simp only [eX3_digest_60, eX3_digest_61, wt_nil, wt_long, g0, gS, ex1, Nat.add_zero]
    with_reducible refine gl_M (hM.ext' (by first | assumption | exact ext.rf | exact ext.tr hk (by assumption))) ?_
    with_reducible intro _
    with_reducible refine And.intro ?_ ?_
    with_reducible exact vpi8 (by assumption) (by assumption)
    with_reducible refine And.intro ?_ ?_
    omega
    with_reducible refine And.intro ?_ ?_
    omega
    with_reducible refine And.intro ?_ ?_
    omega
    with_reducible refine sX3_low (fun _ => ?_)
    simp only [eX3_digest_64, eX3_digest_68, kx_l, wt_nil, tl_s, Nat.add_zero]
    with_reducible refine And.intro ?_ ?_
    omega
    with_reducible refine And.intro ?_ ?_
    omega
    with_reducible refine And.intro ?_ ?_
    omega
    with_reducible refine sX3_add (fun _ => ?_)
    simp only [kx_l, wt_nil, wt_long, tl_s, Nat.add_zero]
    with_reducible refine And.intro ?_ ?_
    with_reducible refine go_Y (hM.ext' (by first | assumption | exact ext.rf | exact ext.tr hk (by assumption))) (fun _ _ _ _ _ _ => ?_)
    simp only []
    with_reducible refine And.intro ?_ ?_
    omega
    with_reducible refine And.intro ?_ ?_
    omega
    with_reducible refine And.intro ?_ ?_
    omega
    with_reducible refine sX3_whoNow (hM.ext' (by first | assumption | exact ext.rf | exact ext.tr hk (by assumption))) (by assumption) (by first | assumption | exact lt87 (by assumption)) (fun _ => ?_)
    simp only [eX3_digest_74, eX3_digest_78, kx_l, wt_nil, tl_s, Nat.add_zero]
    with_reducible refine And.intro ?_ ?_
    omega
    with_reducible refine And.intro ?_ ?_
    omega
    with_reducible refine And.intro ?_ ?_
    omega
    with_reducible refine sX3_add (fun _ => ?_)
    simp only [kx_l, wt_nil, wt_long, tl_s, Nat.add_zero]
    with_reducible refine And.intro ?_ ?_
    with_reducible refine go_Y (hM.ext' (by first | assumption | exact ext.rf | exact ext.tr hk (by assumption))) (fun _ _ _ _ _ _ => ?_)
    simp only []
    with_reducible refine And.intro ?_ ?_
    omega
    with_reducible refine And.intro ?_ ?_
    omega
    with_reducible refine And.intro ?_ ?_
    omega
    with_reducible refine sX3_whoNow (hM.ext' (by first | assumption | exact ext.rf | exact ext.tr hk (by assumption))) (by assumption) (by first | assumption | exact lt87 (by assumption)) (fun _ => ?_)
    simp only [eX3_digest_84, kx_l, wt_nil, tl_s, Nat.add_zero]
    with_reducible refine And.intro ?_ ?_
    omega
    with_reducible refine And.intro ?_ ?_
    omega
    with_reducible refine And.intro ?_ ?_
    omega
    with_reducible refine sX3_add (fun _ => ?_)
    simp only [eX3_digest_88, kx_l, nl_ref, nl_none, tl_s]
    with_reducible exact ih _ _ _ _ _ _ _ (ic_p (by assumption) (by assumption)) (by first | assumption | exact ext.rf | exact ext.tr hk (by assumption)) (by have e := dl2 (c := 8) (i := i3) (by assumption); omega) (by have e := dl2 (c := 8) (i := i3) (by assumption); omega) (by have e := dl2 (c := 8) (i := i3) (by assumption); omega) (by have e := dl2 (c := 8) (i := i3) (by assumption); omega)
    with_reducible exact elX3_digest_97 hM hQ 70 _ _ _ _ _ _ _ (by decide) hk (by decide) (by decide) (by have z := i0z; omega) (by have z := i0z; omega)
set_option maxHeartbeats 8000000 in
theorem elX3_digest_11 (hM : MM g w0 y nM kd w) (hQ : ∀ (v : Int64) w', ext g w w' → Q (.inl (some (.long v))) w') : ∀ (d : Nat) (i1 : Int64) (i3 : Int32) (o4 o5 : Option Value) (w' : Hw) (k m : Nat), ¬ i3 < 0 → ext g w w' → 5 - i3.toInt ≤ (d : Int) → i3.toInt ≤ 5 → (k : Int) ≤ 2 * i3.toInt → (m : Int) ≤ 9 * i3.toInt → WP (MX3_digest g) Q (11, [some (.ref y), some (.long i1), none, some (.int i3), o4, o5], [], w', k, m) := by
  have zb : (4 : Int32).toInt = 4 := rfl
  intro d
  induction d with
  | zero =>
    intro i1 i3 o4 o5 w' k m z0 hk hm hi km mm
    rw [eX3_digest_11]
    simp only [eX3_digest_12, eX3_digest_16, eX3_digest_33, wt_nil, wt_long, nl_none, Nat.add_zero]
    split
    with_reducible exact elX3_digest_35 hM hQ 70 _ _ _ _ _ _ _ (by decide) hk (by decide) (by decide) (by omega) (by omega)
    with_reducible refine And.intro ?_ ?_
    with_reducible exact (by exfalso; have e := dl1 (c := 4) (i := i3) (by assumption) (by decide); omega)
    with_reducible refine And.intro ?_ ?_
    with_reducible exact (by exfalso; have e := dl1 (c := 4) (i := i3) (by assumption) (by decide); omega)
    with_reducible refine And.intro ?_ ?_
    with_reducible exact (by exfalso; have e := dl1 (c := 4) (i := i3) (by assumption) (by decide); omega)
    with_reducible refine And.intro ?_ ?_
    with_reducible exact (by exfalso; have e := dl1 (c := 4) (i := i3) (by assumption) (by decide); omega)
    with_reducible exact (by exfalso; have e := dl1 (c := 4) (i := i3) (by assumption) (by decide); omega)
  | succ d ih =>
    intro i1 i3 o4 o5 w' k m z0 hk hm hi km mm
    rw [eX3_digest_11]
    simp only [eX3_digest_12, eX3_digest_16, eX3_digest_33, wt_nil, wt_long, nl_none, Nat.add_zero]
    split
    with_reducible exact elX3_digest_35 hM hQ 70 _ _ _ _ _ _ _ (by decide) hk (by decide) (by decide) (by omega) (by omega)
    with_reducible refine And.intro ?_ ?_
    with_reducible refine go_Y (hM.ext' (by first | assumption | exact ext.rf | exact ext.tr hk (by assumption))) (fun _ _ _ _ _ _ => ?_)
    simp only []
    with_reducible refine And.intro ?_ ?_
    omega
    with_reducible refine And.intro ?_ ?_
    omega
    with_reducible refine And.intro ?_ ?_
    omega
    with_reducible refine sX3_houseNow (hM.ext' (by first | assumption | exact ext.rf | exact ext.tr hk (by assumption))) (by assumption) (by assumption) (fun _ _ _ => ?_)
    simp only [eX3_digest_22, kx_l, wt_nil, tl_s, Nat.add_zero]
    with_reducible refine And.intro ?_ ?_
    omega
    with_reducible refine And.intro ?_ ?_
    omega
    with_reducible refine And.intro ?_ ?_
    omega
    with_reducible refine sX3_add (fun _ => ?_)
    simp only [eX3_digest_26, kx_l, nl_ref, nl_none, tl_s]
    with_reducible exact ih _ _ _ _ _ _ _ (ic_pl (by assumption) (by assumption) (by decide)) (by first | assumption | exact ext.rf | exact ext.tr hk (by assumption)) (by have e := dl1 (c := 4) (i := i3) (by assumption) (by decide); omega) (by have e := dl1 (c := 4) (i := i3) (by assumption) (by decide); omega) (by have e := dl1 (c := 4) (i := i3) (by assumption) (by decide); omega) (by have e := dl1 (c := 4) (i := i3) (by assumption) (by decide); omega)
end
end
/-! 70.law0.lean.txt -/
section
section
variable {g : RO} {Q : Ot → Hw → Prop} {w : Hw} {x nA cA lA y nM o : Nat} {kn km : Int32}
/-- the object, the reference, what is handed between them; nothing old is written -/
def LWS (g : RO) (w : Hw) (x nA cA lA y nM o : Nat) (kn km : Int32) : Prop := RC w x nA cA lA kn ∧ RMo g w y nM km ∧ nA ≠ nM ∧ (∃ a b : Value, w o = some (.inr (6, [a, b]))) ∧ ∀ (a : Nat) (z : Ob), g.2 a = some z → w a = none
theorem hgo_h {M : MT} {P : St → Prop} {pc : Nat} {L : List (Option Value)} {E : String} {k n h : Nat} {HH : List (Nat × Nat × Nat × Nat)} {NN : List (Nat × String)} (e1 : M.hh = HH) (e2 : M.hnm = NN) (h1 : hfind NN pc E HH = some h) (h2 : E ∈ EX3) (kk : ∀ q : Nat, P (h, L, [.ref q], w, k, n)) : hgo M Q P pc L E w k n := by
  refine ⟨Or.inr h2, ?_⟩
  rw [e1, e2, h1]
  exact kk
theorem LWS.cc (h : LWS g w x nA cA lA y nM o kn km) : CC g w x nA cA lA kn w := ⟨h.1, FC.rf⟩
theorem LWS.mm (h : LWS g w x nA cA lA y nM o kn km) : MM g w y nM km w := ⟨h.2.1, FM.rf⟩
theorem LWS.of {kn' : Int32} {w' : Hw} (h : LWS g w x nA cA lA y nM o kn km) (k : CC g w x nA cA lA kn' w') : LWS g w' x nA cA lA y nM o kn' km := by
  obtain ⟨h1, h2, h3, ⟨a, b, h4⟩, h5⟩ := h
  obtain ⟨n, rf, md, f, gc, gl, r1, r2, -⟩ := h1
  exact ⟨k.1, h2.FC k.2 r2 h3.symm, h3, ⟨a, b, k.2.ne r2 h4 (fun e => by cases e) rfl⟩, fun a z e => k.2.2 a z e (h5 a z e)⟩
theorem LWS.ofM {km' : Int32} {w' : Hw} (h : LWS g w x nA cA lA y nM o kn km) (k : MM g w y nM km' w') : LWS g w' x nA cA lA y nM o kn km' := by
  obtain ⟨h1, h2, h3, ⟨a, b, h4⟩, h5⟩ := h
  obtain ⟨cL, pL, D1, D2, c1, c2, th, rf, md, n, f, q1, q2, a1, a2, -⟩ := h2
  refine ⟨h1.FM k.2 ⟨f, a2⟩ h3, k.1, h3, ⟨a, b, k.2.1 _ _ h4 (ne_of h4 a2 (fun e => by cases e)) rfl⟩, fun a z e => k.2.2 a z e (h5 a z e)⟩
theorem LWS.ext {w' : Hw} (h : LWS g w x nA cA lA y nM o kn km) (k : ext g w w') : LWS g w' x nA cA lA y nM o kn km := h.of (h.cc.ext k)
/-- what is handed on is written -/
theorem LWS.out {a b a' b' : Value} (h : LWS g w x nA cA lA y nM o kn km) (ho : w o = some (.inr (6, [a, b]))) : LWS g (upw w o (.inr (6, [a', b']))) x nA cA lA y nM o kn km := by
  obtain ⟨h1, h2, h3, -, h5⟩ := h
  obtain ⟨n, rf, md, f, gc, gl, r1, r2, r3, r4, r5, r6, r7⟩ := h1
  obtain ⟨cL, pL, D1, D2, c1, c2, th, rf', md', n', f', q1, q2, a1, a2, a3, a4, a5, a6, a7⟩ := h2
  have mv : ∀ {a : Nat} {z : Ob}, w a = some z → (∀ fs, z ≠ .inr (6, fs)) → upw w o (.inr (6, [a', b'])) a = some z := fun e n => by
    rw [upw_n (ne_of e ho (n _))]
    exact e
  have rr : ∀ b, isR w b → isR (upw w o (.inr (6, [a', b']))) b := fun b ⟨r0, r1, r2, r3, hb⟩ => ⟨r0, r1, r2, r3, mv hb (fun _ e => by cases e)⟩
  refine ⟨⟨n, rf, md, f, gc, gl, mv r1 (fun _ e => by cases e), mv r2 (fun _ e => by cases e), mv r3 (fun _ e => by cases e), mv r4 (fun _ e => by cases e), fun i b z => rr b (r5 i b z), fun i b z => rr b (r6 i b z), r7⟩, ⟨cL, pL, D1, D2, c1, c2, th, rf', md', n', f', q1, q2, mv a1 (fun _ e => by cases e), mv a2 (fun _ e => by cases e), a3.up ho (fun _ e => by cases e) (fun _ e => by cases e), fun i b z => isRow_up (a4 i b z) ho (fun _ e => by cases e), a5.up ho (fun _ e => by cases e) (fun _ e => by cases e), fun i b z => isRow_up (a6 i b z) ho (fun _ e => by cases e), a7⟩, h3, ⟨a', b', upw_s _ _ _⟩, fun a z e => ?_⟩
  rw [upw_n]
  · exact h5 a z e
  · rintro rfl
    rw [h5 _ _ e] at ho
    cases ho
/-- what the old cells and numbers hold -/
def RG (g : RO) : Prop := SG g ∧ ((∃ e : Nat, g.1 0 = .ref e ∧ g.2 e = some (.inl (5, 0, qc fun _ => none))) ∧ ∃ mi : Nat, g.1 10 = .ref mi) ∧ ((∃ (a : Nat) (f : Nat → Int32), g.1 2 = .ref a ∧ g.2 a = some (.inl (2, 100, .inl f))) ∧ ∃ (a : Nat) (f : Nat → Int32), g.1 3 = .ref a ∧ g.2 a = some (.inl (2, 100, .inl f))) ∧ (∃ s, g.1 20 = .ref s) ∧ (∃ s, g.1 22 = .ref s) ∧ (∃ s, g.1 21 = .ref s ∧ (∃ (v M : Nat) (f : Nat → Int32) (h z : Value), g.2 s = some (.inr (0, [.ref v, .int 0, h, z])) ∧ g.2 v = some (.inl (2, M, .inl f)) ∧ bOK M f ∧ M ≤ 8) ∧ STB g s 0) ∧ ∃ s, g.1 23 = .ref s ∧ (∃ (v M : Nat) (f : Nat → Int32) (h z : Value), g.2 s = some (.inr (0, [.ref v, .int 0, h, z])) ∧ g.2 v = some (.inl (2, M, .inl f)) ∧ bOK M f ∧ M ≤ 8) ∧ STB g s 1
theorem RG.eg (h : RG g) (k : ∀ (a : Nat) (z : Ob), g.2 a = some z → w a = none) : EG g w := ⟨h.2.1.1.imp fun _ z => ⟨z.1, z.2, k _ _ z.2⟩, h.2.1.2⟩
theorem RG.dg (h : RG g) (k : ∀ (a : Nat) (z : Ob), g.2 a = some z → w a = none) : DG g w := ⟨h.1.1, h.2.2.1.1.imp fun _ z => z.imp fun _ z => ⟨z.1, z.2, k _ _ z.2⟩, h.2.2.1.2.imp fun _ z => z.imp fun _ z => ⟨z.1, z.2, k _ _ z.2⟩⟩
theorem RG.tx (h : RG g) (k : ∀ (a : Nat) (z : Ob), g.2 a = some z → w a = none) : TXT g w := by
  obtain ⟨-, -, -, -, h22, ⟨s, e1, ⟨v, M, f, h, z, q1, q2, q3, q4⟩, e3⟩, s', e1', ⟨v', M', f', h', z', q1', q2', q3', q4'⟩, e3'⟩ := h
  exact ⟨⟨s, e1, ⟨v, M, f, h, z, q1, k _ _ q1, q2, k _ _ q2, q3, q4⟩, e3⟩, h22, s', e1', ⟨v', M', f', h', z', q1', k _ _ q1', q2', k _ _ q2', q3', q4'⟩, e3'⟩
theorem RG.sg (h : RG g) : SG g := h.1
theorem RG.r20 (h : RG g) : ∃ s, g.1 20 = .ref s := h.2.2.2.1
theorem LWS.ro (h : LWS g w x nA cA lA y nM o kn km) : ∀ (a : Nat) (z : Ob), g.2 a = some z → w a = none := h.2.2.2.2
end
end
/-! 71.fn0.lean.txt -/
section
section
variable {g : RO} {Q : Ot → Hw → Prop} {w0 w : Hw} {x nA cA lA : Nat} {kn : Int32}
/-- guards: the goal's head -/
theorem isQ {Q : Ot → Hw → Prop} {o : Ot} {w : Hw} (h : Q o w) : Q o w := h
theorem isWP {M : MT} {Q : Ot → Hw → Prop} {pc k n : Nat} {L : List (Option Value)} {st : List Value} {w : Hw} (h : WP M Q (pc, L, st, w, k, n)) : WP M Q (pc, L, st, w, k, n) := h
abbrev R4 : Type := Int64 × Int64 × Int64 × Int64
theorem i10 : ((1 : Int32) = 0) = False := eq_false (by decide)
theorem i00 : ((0 : Int32) = 0) = True := eq_true rfl
theorem lgp {x y : Int64} : (0 < lg_cmp x y) = (y.toInt < x.toInt) := by
  unfold lg_cmp
  simp only [gt_iff_lt, Int64.lt_iff_toInt_lt, ← Int64.toInt_inj]
  refine propext ?_
  repeat' split
  all_goals (first | (constructor <;> intro h <;> first | assumption | (exfalso; omega) | (exfalso; revert h; decide) | decide))
theorem lgn {x y : Int64} : (lg_cmp x y < 0) = (x.toInt < y.toInt) := by
  unfold lg_cmp
  simp only [gt_iff_lt, Int64.lt_iff_toInt_lt, ← Int64.toInt_inj]
  refine propext ?_
  repeat' split
  all_goals (first | (constructor <;> intro h <;> first | assumption | omega | (exfalso; omega) | (exfalso; revert h; decide) | decide))
theorem lgz {x y : Int64} : (lg_cmp x y = 0) = (x.toInt = y.toInt) := by
  unfold lg_cmp
  simp only [gt_iff_lt, Int64.lt_iff_toInt_lt, ← Int64.toInt_inj]
  refine propext ?_
  repeat' split
  all_goals (first | (constructor <;> intro h <;> first | assumption | omega | (exfalso; omega) | (exfalso; revert h; decide) | decide))
def rAt (w : Hw) (b : Nat) (r : R4) : Prop := w b = some (.inr (4, [.long r.1, .long r.2.1, .long r.2.2.1, .long r.2.2.2]))
theorem rAt.ext {w' : Hw} {b : Nat} {r : R4} (h : rAt w b r) (k : ext g w w') : rAt w' b r := k.1 _ _ h
theorem rAt.isR {b : Nat} {r : R4} (h : rAt w b r) : isR w b := ⟨_, _, _, _, h⟩
theorem go_F {b : Nat} {r : R4} {K : List Value → Prop} (h : rAt w b r) (k : K [.long r.1, .long r.2.1, .long r.2.2.1, .long r.2.2.2]) : go (rd g w b) 4 K := by
  rw [rd_e h, go_s]
  exact k
/-- the four ends are in order -/
abbrev oP (a b c d : Int64) : Prop := a.toInt ≤ b.toInt ∧ c.toInt ≤ d.toInt ∧ a.toInt ≤ c.toInt ∧ b.toInt ≤ d.toInt
abbrev rOk (r : R4) : Prop := oP r.1 r.2.1 r.2.2.1 r.2.2.2
abbrev hP (r : R4) (v : Int64) : Prop := r.1.toInt ≤ v.toInt ∧ v.toInt ≤ r.2.2.2.toInt
abbrev sP (r : R4) : Prop := -2147483648 ≤ r.1.toInt ∧ r.2.2.2.toInt ≤ 2147483647
abbrev fP (r : R4) : Prop := r.1.toInt = r.2.1.toInt ∧ r.2.2.1.toInt = r.2.2.2.toInt
abbrev mP (r q : R4) : Prop := r.1.toInt = q.1.toInt ∧ r.2.1.toInt = q.2.1.toInt ∧ r.2.2.1.toInt = q.2.2.1.toInt ∧ r.2.2.2.toInt = q.2.2.2.toInt
def hV (r : R4) : Int64 := ((r.1 * 31 + r.2.1) * 31 + r.2.2.1) * 31 + r.2.2.2
def eV (r : R4) (a : Int32) : Int64 := if a = 0 then r.1 else if a = 1 then r.2.1 else if a = 2 then r.2.2.1 else r.2.2.2
theorem lmi : (-2147483648 : Int64).toInt = -2147483648 := by decide
theorem lmx : (2147483647 : Int64).toInt = 2147483647 := by decide
set_option maxHeartbeats 4000000 in
theorem fX0_isInOrder {a0 a1 a2 a3 : Int64}  (hT : oP a0 a1 a2 a3 → Q (.inl (some (.int 1))) w) (hF : ¬ (oP a0 a1 a2 a3) → Q (.inl (some (.int 0))) w) : WP (MX0_isInOrder g) Q (0, [some (.long a0), none, some (.long a1), none, some (.long a2), none, some (.long a3), none], [], w, 0, 0) := by
  simp only [eX0_isInOrder_0, eX0_isInOrder_6, eX0_isInOrder_14, eX0_isInOrder_21, eX0_isInOrder_28, eX0_isInOrder_32, eX0_isInOrder_33, lgp, nb_0, nb_1, true_and]
  split
  with_reducible refine And.intro ?_ ?_
  omega
  with_reducible refine And.intro ?_ ?_
  omega
  with_reducible exact hF (by omega)
  split
  with_reducible refine And.intro ?_ ?_
  omega
  with_reducible refine And.intro ?_ ?_
  omega
  with_reducible exact hF (by omega)
  split
  with_reducible refine And.intro ?_ ?_
  omega
  with_reducible refine And.intro ?_ ?_
  omega
  with_reducible exact hF (by omega)
  split
  with_reducible refine And.intro ?_ ?_
  omega
  with_reducible refine And.intro ?_ ?_
  omega
  with_reducible exact hF (by omega)
  with_reducible refine And.intro ?_ ?_
  omega
  with_reducible refine And.intro ?_ ?_
  omega
  with_reducible exact hT (by omega)
set_option maxHeartbeats 4000000 in
theorem fX0_holds {p : Nat} {r : R4} {a0 : Int64} (hp : rAt w p r) (hT : hP r a0 → Q (.inl (some (.int 1))) w) (hF : ¬ (hP r a0) → Q (.inl (some (.int 0))) w) : WP (MX0_holds g) Q (0, [some (.ref p), some (.long a0), none], [], w, 0, 0) := by
  simp only [eX0_holds_0, eX0_holds_4]
  with_reducible refine go_F (by assumption) ?_
  simp only [eX0_holds_5, eX0_holds_9, eX0_holds_22, eX0_holds_23, lgp, g0, ex1, nb_0, true_and]
  split
  with_reducible refine And.intro ?_ ?_
  omega
  with_reducible refine And.intro ?_ ?_
  omega
  with_reducible exact hF (by omega)
  with_reducible refine go_F (by assumption) ?_
  simp only [eX0_holds_14, eX0_holds_18, eX0_holds_22, eX0_holds_23, lgp, g0, gS, ex1, nb_0, nb_1, true_and]
  split
  with_reducible refine And.intro ?_ ?_
  omega
  with_reducible refine And.intro ?_ ?_
  omega
  with_reducible exact hF (by omega)
  with_reducible refine And.intro ?_ ?_
  omega
  with_reducible refine And.intro ?_ ?_
  omega
  with_reducible exact hT (by omega)
set_option maxHeartbeats 4000000 in
theorem fX0_fitsSmall {p : Nat} {r : R4} (hp : rAt w p r) (hT : sP r → Q (.inl (some (.int 1))) w) (hF : ¬ (sP r) → Q (.inl (some (.int 0))) w) : WP (MX0_fitsSmall g) Q (0, [some (.ref p)], [], w, 0, 0) := by
  simp only [eX0_fitsSmall_0, eX0_fitsSmall_4]
  with_reducible refine go_F (by assumption) ?_
  simp only [eX0_fitsSmall_7, eX0_fitsSmall_11, eX0_fitsSmall_15, eX0_fitsSmall_26, eX0_fitsSmall_27, lgn, lmi, g0, ex1, nb_0, true_and]
  split
  with_reducible refine And.intro ?_ ?_
  omega
  with_reducible refine And.intro ?_ ?_
  omega
  with_reducible exact hF (by omega)
  with_reducible refine go_F (by assumption) ?_
  simp only [eX0_fitsSmall_18, eX0_fitsSmall_22, eX0_fitsSmall_26, eX0_fitsSmall_27, lgp, lmx, g0, gS, ex1, nb_0, nb_1, true_and]
  split
  with_reducible refine And.intro ?_ ?_
  omega
  with_reducible refine And.intro ?_ ?_
  omega
  with_reducible exact hF (by omega)
  with_reducible refine And.intro ?_ ?_
  omega
  with_reducible refine And.intro ?_ ?_
  omega
  with_reducible exact hT (by omega)
set_option maxHeartbeats 4000000 in
theorem fX0_holdsAsSmall {p : Nat} {r : R4} {a0 : Int64} (hp : rAt w p r) (hT : (sP r ∧ hP r a0) → Q (.inl (some (.int 1))) w) (hF : ¬ (sP r ∧ hP r a0) → Q (.inl (some (.int 0))) w) : WP (MX0_holdsAsSmall g) Q (0, [some (.ref p), some (.long a0), none], [], w, 0, 0) := by
  simp only [eX0_holdsAsSmall_0, wt_nil, Nat.add_zero]
  with_reducible refine And.intro ?_ ?_
  with_reducible exact go_F (by assumption) trivial
  with_reducible refine And.intro ?_ ?_
  omega
  with_reducible refine And.intro ?_ ?_
  omega
  with_reducible refine And.intro ?_ ?_
  omega
  with_reducible refine fX0_fitsSmall (by assumption) (fun _ => ?_) (fun _ => ?_)
  simp only [eX0_holdsAsSmall_4, eX0_holdsAsSmall_7, eX0_holdsAsSmall_19, eX0_holdsAsSmall_20, i10, if_false, kx_l, wt_nil, tl_s, nb_0, true_and, Nat.add_zero]
  with_reducible refine And.intro ?_ ?_
  with_reducible exact go_F (by assumption) trivial
  with_reducible refine And.intro ?_ ?_
  omega
  with_reducible refine And.intro ?_ ?_
  omega
  with_reducible refine And.intro ?_ ?_
  omega
  with_reducible refine fX0_holds (by assumption) (fun _ => ?_) (fun _ => ?_)
  simp only [eX0_holdsAsSmall_12, eX0_holdsAsSmall_15, eX0_holdsAsSmall_19, eX0_holdsAsSmall_20, i10, if_false, kx_l, tl_s, nb_0, nb_1, true_and]
  with_reducible refine And.intro ?_ ?_
  omega
  with_reducible refine And.intro ?_ ?_
  omega
  with_reducible exact hT (by omega)
  simp only [eX0_holdsAsSmall_12, eX0_holdsAsSmall_15, eX0_holdsAsSmall_19, eX0_holdsAsSmall_20, if_true, kx_l, tl_s, nb_0, nb_1, true_and]
  with_reducible refine And.intro ?_ ?_
  omega
  with_reducible refine And.intro ?_ ?_
  omega
  with_reducible exact hF (by omega)
  simp only [eX0_holdsAsSmall_4, eX0_holdsAsSmall_7, eX0_holdsAsSmall_19, eX0_holdsAsSmall_20, if_true, kx_l, wt_nil, tl_s, nb_0, true_and, Nat.add_zero]
  with_reducible refine And.intro ?_ ?_
  omega
  with_reducible refine And.intro ?_ ?_
  omega
  with_reducible exact hF (by omega)
set_option maxHeartbeats 4000000 in
theorem fX0_holdsAs {p : Nat} {r : R4} {a0 : Int64} {a1 : Int32} (hp : rAt w p r) (hT : ((a1 = 0 ∨ sP r) ∧ hP r a0) → Q (.inl (some (.int 1))) w) (hF : ¬ ((a1 = 0 ∨ sP r) ∧ hP r a0) → Q (.inl (some (.int 0))) w) : WP (MX0_holdsAs g) Q (0, [some (.ref p), some (.long a0), none, some (.int a1)], [], w, 0, 0) := by
  simp only [eX0_holdsAs_0, eX0_holdsAs_4, eX0_holdsAs_9, eX0_holdsAs_12, wt_nil, Nat.add_zero]
  split
  with_reducible refine And.intro ?_ ?_
  with_reducible exact go_F (by assumption) trivial
  with_reducible refine And.intro ?_ ?_
  omega
  with_reducible refine And.intro ?_ ?_
  omega
  with_reducible refine And.intro ?_ ?_
  omega
  with_reducible refine fX0_holds (by assumption) (fun _ => ?_) (fun _ => ?_)
  simp only [eX0_holdsAs_17, kx_l, tl_s, nb_1, true_and]
  with_reducible refine And.intro ?_ ?_
  omega
  with_reducible refine And.intro ?_ ?_
  omega
  with_reducible exact hT ⟨Or.inl (by assumption), by assumption⟩
  simp only [eX0_holdsAs_17, kx_l, tl_s, nb_0, true_and]
  with_reducible refine And.intro ?_ ?_
  omega
  with_reducible refine And.intro ?_ ?_
  omega
  ((with_reducible refine isQ (Q := Q) ?_); exact hF (fun h => (by assumption : ¬ hP r a0) h.2))
  with_reducible refine And.intro ?_ ?_
  with_reducible exact go_F (by assumption) trivial
  with_reducible refine And.intro ?_ ?_
  omega
  with_reducible refine And.intro ?_ ?_
  omega
  with_reducible refine And.intro ?_ ?_
  omega
  with_reducible refine fX0_holdsAsSmall (by assumption) (fun _ => ?_) (fun _ => ?_)
  simp only [eX0_holdsAs_17, kx_l, tl_s, nb_1, true_and]
  with_reducible refine And.intro ?_ ?_
  omega
  with_reducible refine And.intro ?_ ?_
  omega
  with_reducible exact hT ⟨Or.inr (And.left (by assumption : sP r ∧ hP r a0)), And.right (by assumption : sP r ∧ hP r a0)⟩
  simp only [eX0_holdsAs_17, kx_l, tl_s, nb_0, true_and]
  with_reducible refine And.intro ?_ ?_
  omega
  with_reducible refine And.intro ?_ ?_
  omega
  ((with_reducible refine isQ (Q := Q) ?_); exact hF (fun h => (by assumption : ¬ (sP r ∧ hP r a0)) ⟨h.1.resolve_left (by assumption), h.2⟩))
set_option maxHeartbeats 4000000 in
theorem fX0_isSettled {p : Nat} {r : R4} (hp : rAt w p r) (hT : fP r → Q (.inl (some (.int 1))) w) (hF : ¬ (fP r) → Q (.inl (some (.int 0))) w) : WP (MX0_isSettled g) Q (0, [some (.ref p)], [], w, 0, 0) := by
  simp only [eX0_isSettled_0, eX0_isSettled_4]
  with_reducible refine go_F (by assumption) ?_
  simp only [g0, ex1]
  with_reducible refine go_F (by assumption) ?_
  simp only [eX0_isSettled_8, eX0_isSettled_12, eX0_isSettled_16, eX0_isSettled_28, eX0_isSettled_29, lgz, g0, gS, ex1, nb_0, true_and]
  split
  with_reducible refine go_F (by assumption) ?_
  simp only [g0, gS, ex1]
  with_reducible refine go_F (by assumption) ?_
  simp only [eX0_isSettled_20, eX0_isSettled_24, eX0_isSettled_28, eX0_isSettled_29, lgz, g0, gS, ex1, nb_0, nb_1, true_and]
  split
  with_reducible refine And.intro ?_ ?_
  omega
  with_reducible refine And.intro ?_ ?_
  omega
  with_reducible exact hT (by omega)
  with_reducible refine And.intro ?_ ?_
  omega
  with_reducible refine And.intro ?_ ?_
  omega
  with_reducible exact hF (by omega)
  with_reducible refine And.intro ?_ ?_
  omega
  with_reducible refine And.intro ?_ ?_
  omega
  with_reducible exact hF (by omega)
set_option maxHeartbeats 4000000 in
theorem fX0_matchesR {p q : Nat} {r s : R4} (hp : rAt w p r) (hq : rAt w q s) (hT : mP r s → Q (.inl (some (.int 1))) w) (hF : ¬ (mP r s) → Q (.inl (some (.int 0))) w) : WP (MX0_matches g) Q (0, [some (.ref p), some (.ref q)], [], w, 0, 0) := by
  simp only [eX0_matches_0, eX0_matches_1R, eX0_matches_4, eX0_matches_8]
  with_reducible refine go_F (by assumption) ?_
  simp only [g0, ex1]
  with_reducible refine go_F (by assumption) ?_
  simp only [eX0_matches_12, eX0_matches_16, eX0_matches_20, eX0_matches_56, eX0_matches_57, lgz, g0, ex1, nb_0, true_and]
  split
  with_reducible refine go_F (by assumption) ?_
  simp only [g0, gS, ex1]
  with_reducible refine go_F (by assumption) ?_
  simp only [eX0_matches_24, eX0_matches_28, eX0_matches_32, eX0_matches_56, eX0_matches_57, lgz, g0, gS, ex1, nb_0, true_and]
  split
  with_reducible refine go_F (by assumption) ?_
  simp only [g0, gS, ex1]
  with_reducible refine go_F (by assumption) ?_
  simp only [eX0_matches_36, eX0_matches_40, eX0_matches_44, eX0_matches_56, eX0_matches_57, lgz, g0, gS, ex1, nb_0, true_and]
  split
  with_reducible refine go_F (by assumption) ?_
  simp only [g0, gS, ex1]
  with_reducible refine go_F (by assumption) ?_
  simp only [eX0_matches_48, eX0_matches_52, eX0_matches_56, eX0_matches_57, lgz, g0, gS, ex1, nb_0, nb_1, true_and]
  split
  with_reducible refine And.intro ?_ ?_
  omega
  with_reducible refine And.intro ?_ ?_
  omega
  with_reducible exact hT (by omega)
  with_reducible refine And.intro ?_ ?_
  omega
  with_reducible refine And.intro ?_ ?_
  omega
  with_reducible exact hF (by omega)
  with_reducible refine And.intro ?_ ?_
  omega
  with_reducible refine And.intro ?_ ?_
  omega
  with_reducible exact hF (by omega)
  with_reducible refine And.intro ?_ ?_
  omega
  with_reducible refine And.intro ?_ ?_
  omega
  with_reducible exact hF (by omega)
  with_reducible refine And.intro ?_ ?_
  omega
  with_reducible refine And.intro ?_ ?_
  omega
  with_reducible exact hF (by omega)
set_option maxHeartbeats 4000000 in
theorem fX0_ofFour {a0 a1 a2 a3 : Int64} (hN : ¬ oP a0 a1 a2 a3 → Q (.inl (some .null)) w) (hQ : oP a0 a1 a2 a3 → ∀ q, rd g w q = none → Q (.inl (some (.ref q))) (upw w q (.inr (4, [.long a0, .long a1, .long a2, .long a3])))) : WP (MX0_ofFour g) Q (0, [some (.long a0), none, some (.long a1), none, some (.long a2), none, some (.long a3), none], [], w, 0, 0) := by
  simp only [eX0_ofFour_0, wt_nil, Nat.add_zero]
  with_reducible refine And.intro ?_ ?_
  omega
  with_reducible refine And.intro ?_ ?_
  omega
  with_reducible refine And.intro ?_ ?_
  omega
  with_reducible refine fX0_isInOrder (fun _ => ?_) (fun _ => ?_)
  simp only [eX0_ofFour_9, eX0_ofFour_12, eX0_ofFour_15R, eX0_ofFour_25, eX0_ofFour_28, eX0_ofFour_29, eX0_ofFour_29N, eX0_init_0, eX0_init_4, eX0_init_9, eX0_init_14, eX0_init_20, eX0_init_26, i10, if_false, upw2q, kx_l, go_s, wt_nil, wt_ref, tl_s, tl_n, nf_l, true_and, List.set_cons_zero, List.set_cons_succ, List.length_cons, List.length_nil, upw_s, Nat.zero_add, Nat.add_zero]
  with_reducible refine And.intro ?_ ?_
  omega
  with_reducible refine And.intro ?_ ?_
  omega
  with_reducible intro _
  with_reducible intro _
  with_reducible refine And.intro ?_ ?_
  omega
  with_reducible refine And.intro ?_ ?_
  omega
  with_reducible refine And.intro ?_ ?_
  omega
  with_reducible refine And.intro ?_ ?_
  omega
  with_reducible refine And.intro ?_ ?_
  omega
  with_reducible refine And.intro ?_ ?_
  omega
  with_reducible refine And.intro ?_ ?_
  omega
  with_reducible refine And.intro ?_ ?_
  omega
  with_reducible refine And.intro ?_ ?_
  omega
  with_reducible refine And.intro ?_ ?_
  omega
  with_reducible refine And.intro ?_ ?_
  omega
  with_reducible refine And.intro ?_ ?_
  omega
  with_reducible exact hQ (by assumption) _ (by assumption)
  simp only [eX0_ofFour_9, eX0_ofFour_12, eX0_ofFour_15R, eX0_ofFour_25, eX0_ofFour_28, eX0_ofFour_29, eX0_ofFour_29N, eX0_init_0, eX0_init_4, eX0_init_9, eX0_init_14, eX0_init_20, eX0_init_26, if_true, upw2q, kx_l, go_s, wt_nil, wt_ref, tl_s, tl_n, nf_l, true_and, List.set_cons_zero, List.set_cons_succ, List.length_cons, List.length_nil, upw_s, Nat.zero_add, Nat.add_zero]
  with_reducible refine And.intro ?_ ?_
  omega
  with_reducible refine And.intro ?_ ?_
  omega
  with_reducible exact hN (by assumption)
set_option maxHeartbeats 4000000 in
theorem fX0_ofThree {a0 a1 a2 : Int64} (hN : ¬ oP a0 a0 a1 a2 → Q (.inl (some .null)) w) (hQ : oP a0 a0 a1 a2 → ∀ q, rd g w q = none → Q (.inl (some (.ref q))) (upw w q (.inr (4, [.long a0, .long a0, .long a1, .long a2])))) : WP (MX0_ofThree g) Q (0, [some (.long a0), none, some (.long a1), none, some (.long a2), none], [], w, 0, 0) := by
  simp only [eX0_ofThree_0, wt_nil, Nat.zero_add]
  with_reducible refine And.intro ?_ ?_
  omega
  with_reducible refine And.intro ?_ ?_
  omega
  with_reducible refine And.intro ?_ ?_
  omega
  with_reducible refine fX0_ofFour (fun _ => ?_) (fun _ _ _ => ?_)
  simp only [eX0_ofThree_8N, kx_l, tl_s]
  with_reducible refine And.intro ?_ ?_
  omega
  with_reducible refine And.intro ?_ ?_
  omega
  with_reducible exact hN (by assumption)
  simp only [eX0_ofThree_8, kx_l, tl_s]
  with_reducible refine And.intro ?_ ?_
  omega
  with_reducible refine And.intro ?_ ?_
  omega
  with_reducible exact hQ (by assumption) _ (by assumption)
set_option maxHeartbeats 4000000 in
theorem fX0_ofTwo {a0 a1 : Int64} (hN : ¬ oP a0 a0 a1 a1 → Q (.inl (some .null)) w) (hQ : oP a0 a0 a1 a1 → ∀ q, rd g w q = none → Q (.inl (some (.ref q))) (upw w q (.inr (4, [.long a0, .long a0, .long a1, .long a1])))) : WP (MX0_ofTwo g) Q (0, [some (.long a0), none, some (.long a1), none], [], w, 0, 0) := by
  simp only [eX0_ofTwo_0, wt_nil, Nat.zero_add]
  with_reducible refine And.intro ?_ ?_
  omega
  with_reducible refine And.intro ?_ ?_
  omega
  with_reducible refine And.intro ?_ ?_
  omega
  with_reducible refine fX0_ofFour (fun _ => ?_) (fun _ _ _ => ?_)
  simp only [eX0_ofTwo_7N, kx_l, tl_s]
  with_reducible refine And.intro ?_ ?_
  omega
  with_reducible refine And.intro ?_ ?_
  omega
  with_reducible exact hN (by assumption)
  simp only [eX0_ofTwo_7, kx_l, tl_s]
  with_reducible refine And.intro ?_ ?_
  omega
  with_reducible refine And.intro ?_ ?_
  omega
  with_reducible exact hQ (by assumption) _ (by assumption)
theorem eV_d {r : R4} {a : Int32} (h : a.toInt < 0 ∨ 2 < a.toInt) : eV r a = r.2.2.2 := by
  unfold eV
  rw [if_neg, if_neg, if_neg]
  all_goals
    rintro rfl
    revert h
    decide
set_option maxHeartbeats 4000000 in
theorem fX0_endAt {p : Nat} {r : R4} {a0 : Int32} (hp : rAt w p r) (hQ : Q (.inl (some (.long (eV r a0)))) w) : WP (MX0_endAt g) Q (0, [some (.ref p), some (.int a0)], [], w, 0, 0) := by
  rcases sw02 a0 with rfl | rfl | rfl | hsw
  · skip
    simp only [eX0_endAt_0, eX0_endAt_1_0, eX0_endAt_28]
    with_reducible refine go_F (by assumption) ?_
    simp only [eX0_endAt_32, g0, ex1]
    with_reducible refine And.intro ?_ ?_
    omega
    with_reducible refine And.intro ?_ ?_
    omega
    ((with_reducible refine isQ (Q := Q) ?_); exact hQ)
  · skip
    simp only [eX0_endAt_0, eX0_endAt_1_1, eX0_endAt_33]
    with_reducible refine go_F (by assumption) ?_
    simp only [eX0_endAt_37, g0, gS, ex1]
    with_reducible refine And.intro ?_ ?_
    omega
    with_reducible refine And.intro ?_ ?_
    omega
    ((with_reducible refine isQ (Q := Q) ?_); exact hQ)
  · skip
    simp only [eX0_endAt_0, eX0_endAt_1_2, eX0_endAt_38]
    with_reducible refine go_F (by assumption) ?_
    simp only [eX0_endAt_42, g0, gS, ex1]
    with_reducible refine And.intro ?_ ?_
    omega
    with_reducible refine And.intro ?_ ?_
    omega
    ((with_reducible refine isQ (Q := Q) ?_); exact hQ)
  · rw [eV_d hsw] at hQ
    simp only [eX0_endAt_0, eX0_endAt_43, eX0_endAt_1_d hsw]
    with_reducible refine go_F (by assumption) ?_
    simp only [eX0_endAt_47, g0, gS, ex1]
    with_reducible refine And.intro ?_ ?_
    omega
    with_reducible refine And.intro ?_ ?_
    omega
    with_reducible assumption
end
end
/-! 71.fn1.lean.txt -/
section
section
variable {g : RO} {Q : Ot → Hw → Prop} {w0 w : Hw} {x nA cA lA : Nat} {kn : Int32}
abbrev AS : Type := (Nat → Int64) × (Nat → Option R4) × Int32 × (Nat → R4) × Int32 × Int32
def cM (w : Hw) : Option Nat → Option R4 → Prop
  | none, none => True
  | some b, some r => rAt w b r
  | _, _ => False
theorem cM.s {b : Nat} {o : Option R4} (h : cM w (some b) o) : ∃ r, o = some r ∧ rAt w b r := by
  cases o with
  | none => exact (h : False).elim
  | some r => exact ⟨r, rfl, h⟩
theorem cM.n {o : Option R4} (h : cM w none o) : o = none := by
  cases o with
  | none => rfl
  | some r => exact (h : False).elim
theorem cM.mp {w' : Hw} {q : Option Nat} {o : Option R4} (h : cM w q o) (k : ∀ b r, rAt w b r → rAt w' b r) : cM w' q o := by
  cases q <;> cases o <;> first | exact h | exact k _ _ h
/-- the class's cells hold the state s -/
def RF (w : Hw) (x nA cA lA : Nat) (kn : Int32) (s : AS) : Prop := ∃ gc gl : Nat → Option Nat,
  (w x = some (.inr (5, [.ref nA, .ref cA, .ref lA, .int s.2.2.1, .int s.2.2.2.2.1, .int kn, .int s.2.2.2.2.2])) ∧ w nA = some (.inl (0, 8, .inr (.inl s.1))) ∧ w cA = some (.inl (4, 6, qc gc)) ∧ w lA = some (.inl (4, 12, qc gl)) ∧
  (∀ (i b : Nat), gc i = some b → isR w b) ∧ (∀ (i b : Nat), gl i = some b → isR w b) ∧ ¬ s.2.2.1 < 0 ∧ ¬ 12 < s.2.2.1) ∧
  (∀ i, i < 6 → cM w (gc i) (s.2.1 i)) ∧ ∀ i : Nat, (i : Int) < s.2.2.1.toInt → ∃ b, gl i = some b ∧ rAt w b (s.2.2.2.1 i)
/-- what is always so of a state: its ranges are in order -/
def sOk (s : AS) : Prop := (∀ i r, i < 6 → s.2.1 i = some r → rOk r) ∧ (∀ i : Nat, (i : Int) < s.2.2.1.toInt → rOk (s.2.2.2.1 i)) ∧ ¬ s.2.2.1 < 0 ∧ ¬ 12 < s.2.2.1
theorem RF.rc {s : AS} (h : RF w x nA cA lA kn s) : RC w x nA cA lA kn := by
  obtain ⟨gc, gl, ⟨h1, h2, h3, h4, h5, h6, h7, h8⟩, -⟩ := h
  exact ⟨_, _, _, _, gc, gl, h1, h2, h3, h4, h5, h6, h7, h8⟩
def CS (g : RO) (w0 : Hw) (x nA cA lA : Nat) (kn : Int32) (s : AS) (w : Hw) : Prop := RF w x nA cA lA kn s ∧ FC g nA w0 w
theorem CS.cc {s : AS} (h : CS g w0 x nA cA lA kn s w) : CC g w0 x nA cA lA kn w := ⟨h.1.rc, h.2⟩
theorem rAt_up2 {a b : Nat} {r : R4} {o1 o2 : Ob} (h : rAt w b r) (ha : w a = some o1) (ho : ∀ fs, o1 ≠ .inr (4, fs)) : rAt (upw w a o2) b r := by
  unfold rAt
  rw [upw_n]
  · exact h
  · rintro rfl
    rw [h] at ha
    cases ha
    exact ho _ rfl
/-- the class's cells, as they are read and written -/
theorem RF.opn (g : RO) {s : AS} (h : RF w x nA cA lA kn s) : ∃ gc gl : Nat → Option Nat, RO5 g w x nA cA lA s.2.2.1 s.2.2.2.2.1 kn s.2.2.2.2.2 s.1 gc gl ∧ (∀ i, i < 6 → cM w (gc i) (s.2.1 i)) ∧ ∀ i : Nat, (i : Int) < s.2.2.1.toInt → ∃ b, gl i = some b ∧ rAt w b (s.2.2.2.1 i) := by
  obtain ⟨gc, gl, ⟨h1, h2, h3, h4, h5, h6, h7, h8⟩, k1, k2⟩ := h
  have e : ∀ {a b : Nat} {o1 o2 : Ob}, w a = some o1 → w b = some o2 → o1 ≠ o2 → a ≠ b := fun {a b o1 o2} z1 z2 z3 z4 => by
    subst z4
    exact z3 (Option.some.inj (z1.symm.trans z2))
  exact ⟨gc, gl, ⟨h1, h2, h3, h4, h5, h6, h7, h8, rd_e h1, rd_e h2, rd_e h3, rd_e h4, ⟨e h1 h2 (by simp), e h1 h3 (by simp), e h1 h4 (by simp), e h2 h1 (by simp), e h2 h3 (by simp), e h2 h4 (by simp)⟩, ⟨e h3 h1 (by simp), e h3 h2 (by simp), e h3 h4 (by simp), e h4 h1 (by simp), e h4 h2 (by simp), e h4 h3 (by simp)⟩⟩, k1, k2⟩
theorem CS.ext {s : AS} {w' : Hw} (h : CS g w0 x nA cA lA kn s w) (k : ext g w w') : CS g w0 x nA cA lA kn s w' := by
  obtain ⟨⟨gc, gl, ⟨h1, h2, h3, h4, h5, h6, h7⟩, k1, k2⟩, hf⟩ := h
  exact ⟨⟨gc, gl, ⟨k.1 _ _ h1, k.1 _ _ h2, k.1 _ _ h3, k.1 _ _ h4, fun i b z => (h5 i b z).ext k, fun i b z => (h6 i b z).ext k, h7⟩, fun i hi => (k1 i hi).mp fun b r hb => hb.ext k, fun i hi => (k2 i hi).imp fun b z => ⟨z.1, z.2.ext k⟩⟩, hf.ext k⟩
abbrev sN (s : AS) (f : Nat → Int64) : AS := (f, s.2)
abbrev sC (s : AS) (f : Nat → Option R4) : AS := (s.1, f, s.2.2)
abbrev sP_ (s : AS) (n : Int32) (f : Nat → R4) : AS := (s.1, s.2.1, n, f, s.2.2.2.2)
abbrev sR_ (s : AS) (r : Int32) : AS := (s.1, s.2.1, s.2.2.1, s.2.2.2.1, r, s.2.2.2.2.2)
abbrev sM_ (s : AS) (m : Int32) : AS := (s.1, s.2.1, s.2.2.1, s.2.2.2.1, s.2.2.2.2.1, m)
theorem CS.num {s : AS} (h : CS g w0 x nA cA lA kn s w) (f' : Nat → Int64) : CS g w0 x nA cA lA kn (sN s f') (upw w nA (.inl (0, 8, .inr (.inl f')))) := by
  obtain ⟨gc, gl, ⟨h1, h2, h3, h4, h5, h6, h7, h8, -, -, -, -, ⟨d1, d2, d3, d4, d5, d6⟩, ⟨d7, d8, d9, d10, d11, d12⟩⟩, k1, k2⟩ := h.1.opn (fun _ => .null, fun _ => none)
  exact ⟨⟨gc, gl, ⟨by rw [upw_n d1]; exact h1, upw_s _ _ _, by rw [upw_n d8]; exact h3, by rw [upw_n d11]; exact h4, fun i b z => isR_up2 (h5 i b z) h2 (by simp), fun i b z => isR_up2 (h6 i b z) h2 (by simp), h7, h8⟩, fun i hi => (k1 i hi).mp fun b r hb => rAt_up2 hb h2 (by simp), fun i hi => (k2 i hi).imp fun b z => ⟨z.1, rAt_up2 z.2 h2 (by simp)⟩⟩, h.2.up h2 (Or.inl rfl)⟩
/-- a card gets what stands at q (or nothing) -/
theorem CS.card {s : AS} (h : CS g w0 x nA cA lA kn s w) (gc : Nat → Option Nat) (hc : w cA = some (.inl (4, 6, qc gc))) (j : Nat) (q : Option Nat) (o : Option R4) (hq : cM w q o) : CS g w0 x nA cA lA kn (sC s (va_up s.2.1 j o)) (upw w cA (.inl (4, 6, qc (va_up gc j q)))) := by
  obtain ⟨gc', gl, ⟨h1, h2, h3, h4, h5, h6, h7, h8, -, -, -, -, ⟨d1, d2, d3, d4, d5, d6⟩, ⟨d7, d8, d9, d10, d11, d12⟩⟩, k1, k2⟩ := h.1.opn (fun _ => .null, fun _ => none)
  rw [hc] at h3
  cases h3
  refine ⟨⟨_, gl, ⟨by rw [upw_n d2]; exact h1, by rw [upw_n d5]; exact h2, upw_s _ _ _, by rw [upw_n d12]; exact h4, fun i b z => isR_up2 ?_ hc (by simp), fun i b z => isR_up2 (h6 i b z) hc (by simp), h7, h8⟩, fun i hi => cM.mp ?_ (fun b r hb => rAt_up2 hb hc (by simp)), fun i hi => (k2 i hi).imp fun b z => ⟨z.1, rAt_up2 z.2 hc (by simp)⟩⟩, h.2.up hc (Or.inr rfl)⟩
  · unfold va_up at z
    split at z
    · subst z
      obtain ⟨r, -, hr⟩ := hq.s
      exact hr.isR
    · exact h5 i b z
  · show cM w (va_up gc j q i) (va_up s.2.1 j o i)
    unfold va_up
    split
    · exact hq
    · exact k1 i hi
theorem CS.obj {s : AS} (h : CS g w0 x nA cA lA kn s w) (rf' kn' md' : Int32) : CS g w0 x nA cA lA kn' (sM_ (sR_ s rf') md') (upw w x (.inr (5, [.ref nA, .ref cA, .ref lA, .int s.2.2.1, .int rf', .int kn', .int md']))) := by
  obtain ⟨gc, gl, ⟨h1, h2, h3, h4, h5, h6, h7, h8, -, -, -, -, ⟨d1, d2, d3, d4, d5, d6⟩, ⟨d7, d8, d9, d10, d11, d12⟩⟩, k1, k2⟩ := h.1.opn (fun _ => .null, fun _ => none)
  exact ⟨⟨gc, gl, ⟨upw_s _ _ _, by rw [upw_n d4]; exact h2, by rw [upw_n d7]; exact h3, by rw [upw_n d10]; exact h4, fun i b z => isR_up2 (h5 i b z) h1 (by simp), fun i b z => isR_up2 (h6 i b z) h1 (by simp), h7, h8⟩, fun i hi => (k1 i hi).mp fun b r hb => rAt_up2 hb h1 (by simp), fun i hi => (k2 i hi).imp fun b z => ⟨z.1, rAt_up2 z.2 h1 (by simp)⟩⟩, h.2.up h1 (Or.inr rfl)⟩
end
end
/-! 71.fn2.lean.txt -/
section
section
variable {g : RO} {Q : Ot → Hw → Prop} {w0 w : Hw} {x nA cA lA : Nat} {kn : Int32}
abbrev okN (a : Int32) : Prop := ¬ a < 0 ∧ a < 8
abbrev okC (a : Int32) : Prop := ¬ a < 0 ∧ a < 6
abbrev okW (a m : Int32) : Prop := ¬ a < 0 ∧ ¬ m < a
def hiV (a : Int64) : Int32 := (a >>> ((32 : Int32).toInt64 &&& 63)).toInt32
def loV (a : Int64) : Int32 := a.toInt32
def hfV (a : Int64) (h : Int32) : Int32 := if h = 0 then loV a else hiV a
def stV (h l : Int32) : Int64 := (h.toInt64 <<< ((32 : Int32).toInt64 &&& 63)) ||| (l.toInt64 &&& 4294967295)
def frV (a : Int32) : Int64 := if a = 0 then -9223372036854775808 else if a = 1 then 9223372036854775807 else if a = 2 then -2147483648 else 2147483647
theorem frV_d {a : Int32} (h : a.toInt < 0 ∨ 2 < a.toInt) : frV a = 2147483647 := by
  unfold frV
  rw [if_neg, if_neg, if_neg]
  all_goals
    rintro rfl
    revert h
    decide
theorem hfV_n {a : Int64} {h : Int32} (k : ¬ h = 0) : hfV a h = hiV a := if_neg k
set_option maxHeartbeats 4000000 in
theorem fX1_needNumber {a0 : Int32} (hX : ¬ okN a0 → (Q (.inr "java/lang/IndexOutOfBoundsException") w)) (hQ : okN a0 → Q (.inl none) w) : WP (MX1_needNumber g) Q (0, [some (.int a0)], [], w, 0, 0) := by
  simp only [eX1_needNumber_0, eX1_needNumber_4, eX1_needNumber_10, eX1_needNumber_20, wt_nil, Nat.zero_add]
  split
  with_reducible refine And.intro ?_ ?_
  omega
  with_reducible refine And.intro ?_ ?_
  omega
  with_reducible refine And.intro ?_ ?_
  omega
  with_reducible refine And.intro ?_ ?_
  omega
  with_reducible exact hX (fun h => absurd (by assumption) h.1)
  split
  with_reducible refine And.intro ?_ ?_
  omega
  with_reducible refine And.intro ?_ ?_
  omega
  with_reducible exact hQ ⟨by assumption, by assumption⟩
  with_reducible refine And.intro ?_ ?_
  omega
  with_reducible refine And.intro ?_ ?_
  omega
  with_reducible refine And.intro ?_ ?_
  omega
  with_reducible refine And.intro ?_ ?_
  omega
  with_reducible exact hX (fun h => absurd h.2 (by assumption))
set_option maxHeartbeats 4000000 in
theorem fX1_needCard {a0 : Int32} (hX : ¬ okC a0 → (Q (.inr "java/lang/IndexOutOfBoundsException") w)) (hQ : okC a0 → Q (.inl none) w) : WP (MX1_needCard g) Q (0, [some (.int a0)], [], w, 0, 0) := by
  simp only [eX1_needCard_0, eX1_needCard_4, eX1_needCard_10, eX1_needCard_20, wt_nil, Nat.zero_add]
  split
  with_reducible refine And.intro ?_ ?_
  omega
  with_reducible refine And.intro ?_ ?_
  omega
  with_reducible refine And.intro ?_ ?_
  omega
  with_reducible refine And.intro ?_ ?_
  omega
  with_reducible exact hX (fun h => absurd (by assumption) h.1)
  split
  with_reducible refine And.intro ?_ ?_
  omega
  with_reducible refine And.intro ?_ ?_
  omega
  with_reducible exact hQ ⟨by assumption, by assumption⟩
  with_reducible refine And.intro ?_ ?_
  omega
  with_reducible refine And.intro ?_ ?_
  omega
  with_reducible refine And.intro ?_ ?_
  omega
  with_reducible refine And.intro ?_ ?_
  omega
  with_reducible exact hX (fun h => absurd h.2 (by assumption))
set_option maxHeartbeats 4000000 in
theorem fX1_needChoice {a0 a1 : Int32} (hX : ¬ okW a0 a1 → (Q (.inr "java/lang/IllegalArgumentException") w)) (hQ : okW a0 a1 → Q (.inl none) w) : WP (MX1_needChoice g) Q (0, [some (.int a0), some (.int a1)], [], w, 0, 0) := by
  simp only [eX1_needChoice_0, eX1_needChoice_4, eX1_needChoice_9, eX1_needChoice_19, ite_le, wt_nil, Nat.zero_add]
  split
  with_reducible refine And.intro ?_ ?_
  omega
  with_reducible refine And.intro ?_ ?_
  omega
  with_reducible refine And.intro ?_ ?_
  omega
  with_reducible refine And.intro ?_ ?_
  omega
  with_reducible exact hX (fun h => absurd (by assumption) h.1)
  split
  with_reducible refine And.intro ?_ ?_
  omega
  with_reducible refine And.intro ?_ ?_
  omega
  with_reducible refine And.intro ?_ ?_
  omega
  with_reducible refine And.intro ?_ ?_
  omega
  with_reducible exact hX (fun h => absurd (by assumption) h.2)
  with_reducible refine And.intro ?_ ?_
  omega
  with_reducible refine And.intro ?_ ?_
  omega
  with_reducible exact hQ ⟨by assumption, by assumption⟩
set_option maxHeartbeats 4000000 in
theorem fX1_highOf {a0 : Int64}  (hQ : Q (.inl (some (.int (hiV a0)))) w) : WP (MX1_highOf g) Q (0, [some (.long a0), none], [], w, 0, 0) := by
  simp only [eX1_highOf_0]
  with_reducible refine And.intro ?_ ?_
  omega
  with_reducible refine And.intro ?_ ?_
  omega
  ((with_reducible refine isQ (Q := Q) ?_); exact hQ)
set_option maxHeartbeats 4000000 in
theorem fX1_lowOf {a0 : Int64}  (hQ : Q (.inl (some (.int (loV a0)))) w) : WP (MX1_lowOf g) Q (0, [some (.long a0), none], [], w, 0, 0) := by
  simp only [eX1_lowOf_0]
  with_reducible refine And.intro ?_ ?_
  omega
  with_reducible refine And.intro ?_ ?_
  omega
  ((with_reducible refine isQ (Q := Q) ?_); exact hQ)
set_option maxHeartbeats 4000000 in
theorem fX1_halfOf {a0 : Int64} {a1 : Int32}  (hQ : Q (.inl (some (.int (hfV a0 a1)))) w) : WP (MX1_halfOf g) Q (0, [some (.long a0), none, some (.int a1)], [], w, 0, 0) := by
  simp only [eX1_halfOf_0, eX1_halfOf_4, eX1_halfOf_8, eX1_halfOf_11, wt_nil, Nat.add_zero]
  split
  with_reducible refine And.intro ?_ ?_
  omega
  with_reducible refine And.intro ?_ ?_
  omega
  with_reducible refine And.intro ?_ ?_
  omega
  with_reducible refine fX1_lowOf ?_
  simp only [eX1_halfOf_15, kx_l, tl_s]
  with_reducible refine And.intro ?_ ?_
  omega
  with_reducible refine And.intro ?_ ?_
  omega
  (subst_vars; exact hQ)
  with_reducible refine And.intro ?_ ?_
  omega
  with_reducible refine And.intro ?_ ?_
  omega
  with_reducible refine And.intro ?_ ?_
  omega
  with_reducible refine fX1_highOf ?_
  simp only [eX1_halfOf_15, kx_l, tl_s]
  with_reducible refine And.intro ?_ ?_
  omega
  with_reducible refine And.intro ?_ ?_
  omega
  (rw [hfV_n (by assumption)] at hQ; exact hQ)
set_option maxHeartbeats 4000000 in
theorem fX1_isSmallNumber {a0 : Int64}  (hT : (-2147483648 ≤ a0.toInt ∧ a0.toInt ≤ 2147483647) → Q (.inl (some (.int 1))) w) (hF : ¬ (-2147483648 ≤ a0.toInt ∧ a0.toInt ≤ 2147483647) → Q (.inl (some (.int 0))) w) : WP (MX1_isSmallNumber g) Q (0, [some (.long a0), none], [], w, 0, 0) := by
  simp only [eX1_isSmallNumber_0, eX1_isSmallNumber_8, eX1_isSmallNumber_16, eX1_isSmallNumber_20, eX1_isSmallNumber_21, lgp, lgn, lmi, lmx, nb_0, nb_1, true_and]
  split
  with_reducible refine And.intro ?_ ?_
  omega
  with_reducible refine And.intro ?_ ?_
  omega
  with_reducible exact hF (by omega)
  split
  with_reducible refine And.intro ?_ ?_
  omega
  with_reducible refine And.intro ?_ ?_
  omega
  with_reducible exact hF (by omega)
  with_reducible refine And.intro ?_ ?_
  omega
  with_reducible refine And.intro ?_ ?_
  omega
  with_reducible exact hT (by omega)
set_option maxHeartbeats 4000000 in
theorem fX1_asNumber {a0 : Int32} (h0 : a0 = 0 ∨ a0 = 1) (hQ : Q (.inl (some (.int a0))) w) : WP (MX1_asNumber g) Q (0, [some (.int a0)], [], w, 0, 0) := by
  rcases h0 with rfl | rfl
  · skip
    simp only [eX1_asNumber_0, eX1_asNumber_4, eX1_asNumber_8, eX1_asNumber_9, if_true]
    with_reducible refine And.intro ?_ ?_
    omega
    with_reducible refine And.intro ?_ ?_
    omega
    with_reducible assumption
  · skip
    simp only [eX1_asNumber_0, eX1_asNumber_4, eX1_asNumber_8, eX1_asNumber_9, i10, if_false]
    with_reducible refine And.intro ?_ ?_
    omega
    with_reducible refine And.intro ?_ ?_
    omega
    with_reducible assumption
set_option maxHeartbeats 4000000 in
theorem fX1_farNumber {a0 : Int32} (hQ : Q (.inl (some (.long (frV a0)))) w) : WP (MX1_farNumber g) Q (0, [some (.int a0)], [], w, 0, 0) := by
  rcases sw02 a0 with rfl | rfl | rfl | hsw
  · skip
    simp only [eX1_farNumber_0, eX1_farNumber_1_0, eX1_farNumber_28]
    with_reducible refine And.intro ?_ ?_
    omega
    with_reducible refine And.intro ?_ ?_
    omega
    ((with_reducible refine isQ (Q := Q) ?_); exact hQ)
  · skip
    simp only [eX1_farNumber_0, eX1_farNumber_1_1, eX1_farNumber_32]
    with_reducible refine And.intro ?_ ?_
    omega
    with_reducible refine And.intro ?_ ?_
    omega
    ((with_reducible refine isQ (Q := Q) ?_); exact hQ)
  · skip
    simp only [eX1_farNumber_0, eX1_farNumber_1_2, eX1_farNumber_36]
    with_reducible refine And.intro ?_ ?_
    omega
    with_reducible refine And.intro ?_ ?_
    omega
    ((with_reducible refine isQ (Q := Q) ?_); exact hQ)
  · rw [frV_d hsw] at hQ
    simp only [eX1_farNumber_0, eX1_farNumber_40, eX1_farNumber_1_d hsw]
    with_reducible refine And.intro ?_ ?_
    omega
    with_reducible refine And.intro ?_ ?_
    omega
    with_reducible assumption
set_option maxHeartbeats 4000000 in
theorem fX1_putNumber {s : AS} {a0 : Int32} {a1 : Int64} (hC : CS g w0 x nA cA lA kn s w) (k0 : ¬ a0 < 0) (k1 : a0 < 8) (hQ : ∀ w', CS g w0 x nA cA lA kn (sN s (vp_updL s.1 a0.toNatClampNeg a1)) w' → Q (.inl (some (.int (loV a1)))) w') : WP (MX1_putNumber g) Q (0, [some (.ref x), some (.int a0), some (.long a1), none], [], w, 0, 0) := by
  obtain ⟨gc, gl, ⟨hx, hn, hc, hl, hgc, hgl, hn0, hn1, rx, rn, rc, rl, ⟨d1, d2, d3, d4, d5, d6⟩, ⟨d7, d8, d9, d10, d11, d12⟩⟩, hcd, hpl⟩ := hC.1.opn g
  simp only [eX1_putNumber_0, eX1_putNumber_4, eX1_putNumber_7, rx, hn, go_s, gl_s, wt_nil, g0, ex1, Nat.add_zero]
  with_reducible refine And.intro ?_ ?_
  with_reducible exact vpi8 (by assumption) (by assumption)
  with_reducible refine And.intro ?_ ?_
  omega
  with_reducible refine And.intro ?_ ?_
  omega
  with_reducible refine And.intro ?_ ?_
  omega
  with_reducible refine fX1_lowOf ?_
  simp only [eX1_putNumber_11, kx_l, tl_s]
  with_reducible refine And.intro ?_ ?_
  omega
  with_reducible refine And.intro ?_ ?_
  omega
  with_reducible exact hQ _ (hC.num _)
set_option maxHeartbeats 4000000 in
theorem fX1_set {s : AS} {a0 a1 a2 : Int32} (hC : CS g w0 x nA cA lA kn s w) (hX : ¬ okN a0 → (Q (.inr "java/lang/IndexOutOfBoundsException") w)) (hQ : okN a0 → ∀ w', CS g w0 x nA cA lA kn (sN s (vp_updL s.1 a0.toNatClampNeg (stV a1 a2))) w' → Q (.inl (some (.int (hiV (s.1 a0.toNatClampNeg))))) w') : WP (MX1_set g) Q (0, [some (.ref x), some (.int a0), some (.int a1), some (.int a2), none], [], w, 0, 0) := by
  obtain ⟨gc, gl, ⟨hx, hn, hc, hl, hgc, hgl, hn0, hn1, rx, rn, rc, rl, ⟨d1, d2, d3, d4, d5, d6⟩, ⟨d7, d8, d9, d10, d11, d12⟩⟩, hcd, hpl⟩ := hC.1.opn g
  simp only [eX1_set_0, eX1_set_4, eX1_set_8, wt_nil, Nat.zero_add]
  with_reducible refine And.intro ?_ ?_
  omega
  with_reducible refine And.intro ?_ ?_
  omega
  with_reducible refine And.intro ?_ ?_
  omega
  with_reducible refine fX1_needNumber (fun _ => ?_) (fun hok => ?_)
  simp only [kx_r]
  with_reducible exact hX (by assumption)
  simp only [eX1_set_9, eX1_set_10, rx, rn, kx_l, go_s, gl_s, wt_nil, tl_n, g0, ex1, Nat.add_zero]
  with_reducible refine And.intro ?_ ?_
  with_reducible exact vpi8 hok.1 hok.2
  with_reducible refine And.intro ?_ ?_
  omega
  with_reducible refine And.intro ?_ ?_
  omega
  with_reducible refine And.intro ?_ ?_
  omega
  with_reducible refine fX1_highOf ?_
  simp only [eX1_set_13, eX1_set_19, eX1_set_33, rx, hn, kx_l, go_s, gl_s, nl_int, tl_s, g0, ex1]
  with_reducible refine And.intro ?_ ?_
  with_reducible exact vpi8 hok.1 hok.2
  with_reducible refine And.intro ?_ ?_
  omega
  with_reducible refine And.intro ?_ ?_
  omega
  with_reducible exact hQ hok _ (hC.num _)
set_option maxHeartbeats 4000000 in
theorem fX1_setSmall {s : AS} {a0 a1 : Int32} (hC : CS g w0 x nA cA lA kn s w) (hX : ¬ okN a0 → (Q (.inr "java/lang/IndexOutOfBoundsException") w)) (hQ : okN a0 → ∀ w', CS g w0 x nA cA lA kn (sN s (vp_updL s.1 a0.toNatClampNeg a1.toInt64)) w' → Q (.inl (some (.int (loV (s.1 a0.toNatClampNeg))))) w') : WP (MX1_setSmall g) Q (0, [some (.ref x), some (.int a0), some (.int a1), none], [], w, 0, 0) := by
  obtain ⟨gc, gl, ⟨hx, hn, hc, hl, hgc, hgl, hn0, hn1, rx, rn, rc, rl, ⟨d1, d2, d3, d4, d5, d6⟩, ⟨d7, d8, d9, d10, d11, d12⟩⟩, hcd, hpl⟩ := hC.1.opn g
  simp only [eX1_setSmall_0, eX1_setSmall_4, eX1_setSmall_8, wt_nil, Nat.zero_add]
  with_reducible refine And.intro ?_ ?_
  omega
  with_reducible refine And.intro ?_ ?_
  omega
  with_reducible refine And.intro ?_ ?_
  omega
  with_reducible refine fX1_needNumber (fun _ => ?_) (fun hok => ?_)
  simp only [kx_r]
  with_reducible exact hX (by assumption)
  simp only [eX1_setSmall_9, eX1_setSmall_10, rx, rn, kx_l, go_s, gl_s, wt_nil, tl_n, g0, ex1, Nat.add_zero]
  with_reducible refine And.intro ?_ ?_
  with_reducible exact vpi8 hok.1 hok.2
  with_reducible refine And.intro ?_ ?_
  omega
  with_reducible refine And.intro ?_ ?_
  omega
  with_reducible refine And.intro ?_ ?_
  omega
  with_reducible refine fX1_lowOf ?_
  simp only [eX1_setSmall_13, eX1_setSmall_18, eX1_setSmall_22, rx, hn, kx_l, go_s, gl_s, nl_int, tl_s, g0, ex1]
  with_reducible refine And.intro ?_ ?_
  with_reducible exact vpi8 hok.1 hok.2
  with_reducible refine And.intro ?_ ?_
  omega
  with_reducible refine And.intro ?_ ?_
  omega
  with_reducible exact hQ hok _ (hC.num _)
end
end
/-! 71.fn3.lean.txt -/
section
section
variable {g : RO} {Q : Ot → Hw → Prop} {w0 w : Hw} {x nA cA lA : Nat} {kn : Int32}
set_option maxHeartbeats 4000000 in
theorem fX1_setEnd {s : AS} {a0 a1 : Int32} (hC : CS g w0 x nA cA lA kn s w) (hX : ¬ okN a0 → (Q (.inr "java/lang/IndexOutOfBoundsException") w)) (hW : okN a0 → ¬ okW a1 3 → (Q (.inr "java/lang/IllegalArgumentException") w)) (hQ : okN a0 → okW a1 3 → ∀ w', CS g w0 x nA cA lA kn (sN s (vp_updL s.1 a0.toNatClampNeg (frV a1))) w' → Q (.inl (some (.int (loV (frV a1))))) w') : WP (MX1_setEnd g) Q (0, [some (.ref x), some (.int a0), some (.int a1)], [], w, 0, 0) := by
  obtain ⟨gc, gl, ⟨hx, hn, hc, hl, hgc, hgl, hn0, hn1, rx, rn, rc, rl, ⟨d1, d2, d3, d4, d5, d6⟩, ⟨d7, d8, d9, d10, d11, d12⟩⟩, hcd, hpl⟩ := hC.1.opn g
  simp only [eX1_setEnd_0, eX1_setEnd_4, eX1_setEnd_9, wt_nil, wt_int, wt_ref, Nat.zero_add, Nat.add_zero]
  with_reducible refine And.intro ?_ ?_
  omega
  with_reducible refine And.intro ?_ ?_
  omega
  with_reducible refine And.intro ?_ ?_
  omega
  with_reducible refine fX1_needNumber (fun _ => ?_) (fun hok => ?_)
  simp only [kx_r]
  with_reducible exact hX (by assumption)
  simp only [kx_l, wt_nil, tl_n]
  with_reducible refine And.intro ?_ ?_
  omega
  with_reducible refine And.intro ?_ ?_
  omega
  with_reducible refine And.intro ?_ ?_
  omega
  with_reducible refine fX1_needChoice (fun hnw => ?_) (fun hw => ?_)
  simp only [kx_r]
  with_reducible exact hW hok hnw
  simp only [kx_l, wt_nil, tl_n, Nat.add_zero]
  with_reducible refine And.intro ?_ ?_
  omega
  with_reducible refine And.intro ?_ ?_
  omega
  with_reducible refine And.intro ?_ ?_
  omega
  with_reducible refine fX1_farNumber ?_
  simp only [eX1_setEnd_15, rx, kx_l, go_s, wt_nil, tl_s, true_and, Nat.add_zero]
  with_reducible refine And.intro ?_ ?_
  omega
  with_reducible refine And.intro ?_ ?_
  omega
  with_reducible refine And.intro ?_ ?_
  omega
  with_reducible refine fX1_putNumber hC hok.1 hok.2 (fun w1 h1 => ?_)
  simp only [eX1_setEnd_18, kx_l, tl_s]
  with_reducible refine And.intro ?_ ?_
  omega
  with_reducible refine And.intro ?_ ?_
  omega
  with_reducible exact hQ hok hw _ h1
set_option maxHeartbeats 4000000 in
theorem fX1_move {s : AS} {a0 a1 : Int32} (hC : CS g w0 x nA cA lA kn s w) (hX : ¬ okN a0 → (Q (.inr "java/lang/IndexOutOfBoundsException") w)) (hQ : okN a0 → ∀ w', CS g w0 x nA cA lA kn (sN s (vp_updL s.1 a0.toNatClampNeg (s.1 a0.toNatClampNeg + a1.toInt64))) w' → Q (.inl (some (.int (loV (s.1 a0.toNatClampNeg + a1.toInt64))))) w') : WP (MX1_move g) Q (0, [some (.ref x), some (.int a0), some (.int a1)], [], w, 0, 0) := by
  obtain ⟨gc, gl, ⟨hx, hn, hc, hl, hgc, hgl, hn0, hn1, rx, rn, rc, rl, ⟨d1, d2, d3, d4, d5, d6⟩, ⟨d7, d8, d9, d10, d11, d12⟩⟩, hcd, hpl⟩ := hC.1.opn g
  simp only [eX1_move_0, eX1_move_4, eX1_move_10, wt_nil, Nat.zero_add]
  with_reducible refine And.intro ?_ ?_
  omega
  with_reducible refine And.intro ?_ ?_
  omega
  with_reducible refine And.intro ?_ ?_
  omega
  with_reducible refine fX1_needNumber (fun _ => ?_) (fun hok => ?_)
  simp only [kx_r]
  with_reducible exact hX (by assumption)
  simp only [eX1_move_11, eX1_move_12, rx, rn, kx_l, go_s, gl_s, wt_nil, tl_n, g0, ex1, true_and, Nat.add_zero]
  with_reducible refine And.intro ?_ ?_
  with_reducible exact vpi8 hok.1 hok.2
  with_reducible refine And.intro ?_ ?_
  omega
  with_reducible refine And.intro ?_ ?_
  omega
  with_reducible refine And.intro ?_ ?_
  omega
  with_reducible refine fX1_putNumber hC hok.1 hok.2 (fun w1 h1 => ?_)
  simp only [eX1_move_18, kx_l, tl_s]
  with_reducible refine And.intro ?_ ?_
  omega
  with_reducible refine And.intro ?_ ?_
  omega
  with_reducible exact hQ hok _ h1
set_option maxHeartbeats 4000000 in
theorem fX1_copy {s : AS} {a0 a1 : Int32} (hC : CS g w0 x nA cA lA kn s w) (hX : ¬ (okN a0 ∧ okN a1) → (Q (.inr "java/lang/IndexOutOfBoundsException") w)) (hQ : okN a0 → okN a1 → ∀ w', CS g w0 x nA cA lA kn (sN s (vp_updL s.1 a0.toNatClampNeg (s.1 a1.toNatClampNeg))) w' → Q (.inl (some (.int (loV (s.1 a1.toNatClampNeg))))) w') : WP (MX1_copy g) Q (0, [some (.ref x), some (.int a0), some (.int a1)], [], w, 0, 0) := by
  obtain ⟨gc, gl, ⟨hx, hn, hc, hl, hgc, hgl, hn0, hn1, rx, rn, rc, rl, ⟨d1, d2, d3, d4, d5, d6⟩, ⟨d7, d8, d9, d10, d11, d12⟩⟩, hcd, hpl⟩ := hC.1.opn g
  simp only [eX1_copy_0, eX1_copy_4, eX1_copy_8, eX1_copy_14, wt_nil, Nat.zero_add]
  with_reducible refine And.intro ?_ ?_
  omega
  with_reducible refine And.intro ?_ ?_
  omega
  with_reducible refine And.intro ?_ ?_
  omega
  with_reducible refine fX1_needNumber (a0 := a0) (fun _ => ?_) (fun ha => ?_)
  simp only [kx_r]
  with_reducible exact hX (fun h => absurd h.1 (by assumption))
  simp only [kx_l, wt_nil, tl_n]
  with_reducible refine And.intro ?_ ?_
  omega
  with_reducible refine And.intro ?_ ?_
  omega
  with_reducible refine And.intro ?_ ?_
  omega
  with_reducible refine fX1_needNumber (a0 := a1) (fun _ => ?_) (fun hb => ?_)
  simp only [kx_r]
  with_reducible exact hX (fun h => absurd h.2 (by assumption))
  simp only [eX1_copy_15, eX1_copy_16, rx, rn, kx_l, go_s, gl_s, wt_nil, tl_n, g0, ex1, true_and, Nat.add_zero]
  with_reducible refine And.intro ?_ ?_
  with_reducible exact vpi8 hb.1 hb.2
  with_reducible refine And.intro ?_ ?_
  omega
  with_reducible refine And.intro ?_ ?_
  omega
  with_reducible refine And.intro ?_ ?_
  omega
  with_reducible refine fX1_putNumber hC ha.1 ha.2 (fun w1 h1 => ?_)
  simp only [eX1_copy_19, kx_l, tl_s]
  with_reducible refine And.intro ?_ ?_
  omega
  with_reducible refine And.intro ?_ ?_
  omega
  with_reducible exact hQ ha hb _ h1
set_option maxHeartbeats 4000000 in
theorem fX1_ofNumber {s : AS} {a0 a1 : Int32} (hC : CS g w0 x nA cA lA kn s w) (hX : ¬ okN a0 → (Q (.inr "java/lang/IndexOutOfBoundsException") w)) (hQ : okN a0 → Q (.inl (some (.int (hfV (s.1 a0.toNatClampNeg) a1)))) w) : WP (MX1_ofNumber g) Q (0, [some (.ref x), some (.int a0), some (.int a1)], [], w, 0, 0) := by
  obtain ⟨gc, gl, ⟨hx, hn, hc, hl, hgc, hgl, hn0, hn1, rx, rn, rc, rl, ⟨d1, d2, d3, d4, d5, d6⟩, ⟨d7, d8, d9, d10, d11, d12⟩⟩, hcd, hpl⟩ := hC.1.opn g
  simp only [eX1_ofNumber_0, eX1_ofNumber_4, eX1_ofNumber_8, wt_nil, Nat.zero_add]
  with_reducible refine And.intro ?_ ?_
  omega
  with_reducible refine And.intro ?_ ?_
  omega
  with_reducible refine And.intro ?_ ?_
  omega
  with_reducible refine fX1_needNumber (fun _ => ?_) (fun hok => ?_)
  simp only [kx_r]
  with_reducible exact hX (by assumption)
  simp only [eX1_ofNumber_9, eX1_ofNumber_10, rx, rn, kx_l, go_s, gl_s, wt_nil, tl_n, g0, ex1, Nat.add_zero]
  with_reducible refine And.intro ?_ ?_
  with_reducible exact vpi8 hok.1 hok.2
  with_reducible refine And.intro ?_ ?_
  omega
  with_reducible refine And.intro ?_ ?_
  omega
  with_reducible refine And.intro ?_ ?_
  omega
  with_reducible refine fX1_halfOf ?_
  simp only [eX1_ofNumber_14, kx_l, tl_s]
  with_reducible refine And.intro ?_ ?_
  omega
  with_reducible refine And.intro ?_ ?_
  omega
  with_reducible exact hQ hok
def orV (a b : Int64) : Int32 := if a.toInt < b.toInt then -1 else if b.toInt < a.toInt then 1 else 0
theorem orV_1 {a b : Int64} (h : a.toInt < b.toInt) : orV a b = -1 := if_pos h
theorem orV_2 {a b : Int64} (h : ¬ a.toInt < b.toInt) (k : b.toInt < a.toInt) : orV a b = 1 := by
  unfold orV
  rw [if_neg h, if_pos k]
theorem orV_3 {a b : Int64} (h : ¬ a.toInt < b.toInt) (k : ¬ b.toInt < a.toInt) : orV a b = 0 := by
  unfold orV
  rw [if_neg h, if_neg k]
set_option maxHeartbeats 4000000 in
theorem fX1_order {s : AS} {a0 a1 : Int32} (hC : CS g w0 x nA cA lA kn s w) (hX : ¬ (okN a0 ∧ okN a1) → (Q (.inr "java/lang/IndexOutOfBoundsException") w)) (hQ : okN a0 → okN a1 → Q (.inl (some (.int (orV (s.1 a0.toNatClampNeg) (s.1 a1.toNatClampNeg))))) w) : WP (MX1_order g) Q (0, [some (.ref x), some (.int a0), some (.int a1)], [], w, 0, 0) := by
  obtain ⟨gc, gl, ⟨hx, hn, hc, hl, hgc, hgl, hn0, hn1, rx, rn, rc, rl, ⟨d1, d2, d3, d4, d5, d6⟩, ⟨d7, d8, d9, d10, d11, d12⟩⟩, hcd, hpl⟩ := hC.1.opn g
  simp only [eX1_order_0, eX1_order_4, eX1_order_8, eX1_order_12, wt_nil, Nat.zero_add]
  with_reducible refine And.intro ?_ ?_
  omega
  with_reducible refine And.intro ?_ ?_
  omega
  with_reducible refine And.intro ?_ ?_
  omega
  with_reducible refine fX1_needNumber (a0 := a0) (fun _ => ?_) (fun ha => ?_)
  simp only [kx_r]
  with_reducible exact hX (fun h => absurd h.1 (by assumption))
  simp only [kx_l, wt_nil, tl_n]
  with_reducible refine And.intro ?_ ?_
  omega
  with_reducible refine And.intro ?_ ?_
  omega
  with_reducible refine And.intro ?_ ?_
  omega
  with_reducible refine fX1_needNumber (a0 := a1) (fun _ => ?_) (fun hb => ?_)
  simp only [kx_r]
  with_reducible exact hX (fun h => absurd h.2 (by assumption))
  simp only [eX1_order_13, eX1_order_14, eX1_order_18, eX1_order_20, eX1_order_24, eX1_order_26, eX1_order_30, eX1_order_32, eX1_order_36, eX1_order_38, eX1_order_42, eX1_order_46, eX1_order_47, lgp, lgn, rx, rn, ite_le, kx_l, go_s, gl_s, tl_n, g0, ex1]
  with_reducible refine And.intro ?_ ?_
  with_reducible exact vpi8 ha.1 ha.2
  with_reducible refine And.intro ?_ ?_
  with_reducible exact vpi8 hb.1 hb.2
  split
  with_reducible refine And.intro ?_ ?_
  omega
  with_reducible refine And.intro ?_ ?_
  omega
  (rw [orV_1 (by assumption)] at hQ; exact hQ ha hb)
  with_reducible refine And.intro ?_ ?_
  with_reducible exact vpi8 ha.1 ha.2
  with_reducible refine And.intro ?_ ?_
  with_reducible exact vpi8 hb.1 hb.2
  split
  with_reducible refine And.intro ?_ ?_
  omega
  with_reducible refine And.intro ?_ ?_
  omega
  (rw [orV_2 (by assumption) (by assumption)] at hQ; exact hQ ha hb)
  with_reducible refine And.intro ?_ ?_
  omega
  with_reducible refine And.intro ?_ ?_
  omega
  (rw [orV_3 (by assumption) (by assumption)] at hQ; exact hQ ha hb)
set_option maxHeartbeats 4000000 in
theorem fX1_knock {s : AS} (hC : CS g w0 x nA cA lA kn s w) (hQ : ∀ w', CS g w0 x nA cA lA (kn + 1) s w' → Q (.inl (some (.int (kn + 1)))) w') : WP (MX1_knock g) Q (0, [some (.ref x)], [], w, 0, 0) := by
  obtain ⟨gc, gl, ⟨hx, hn, hc, hl, hgc, hgl, hn0, hn1, rx, rn, rc, rl, ⟨d1, d2, d3, d4, d5, d6⟩, ⟨d7, d8, d9, d10, d11, d12⟩⟩, hcd, hpl⟩ := hC.1.opn g
  simp only [eX1_knock_0, eX1_knock_5, eX1_knock_10, eX1_knock_14, rx, hx, go_s, g0, gS, ex1, nf_i, true_and, List.set_cons_zero, List.set_cons_succ, List.length_cons, List.length_nil, rd_s, Nat.zero_add]
  with_reducible refine And.intro ?_ ?_
  omega
  with_reducible refine And.intro ?_ ?_
  omega
  with_reducible refine And.intro ?_ ?_
  omega
  with_reducible exact hQ _ (hC.obj _ _ _)
set_option maxHeartbeats 4000000 in
theorem fX1_refuse {s : AS} (hC : CS g w0 x nA cA lA kn s w) (hQ : ∀ w', CS g w0 x nA cA lA kn (sR_ s (s.2.2.2.2.1 + 1)) w' → (∀ b r, rAt w b r → rAt w' b r) → Q (.inl (some (.int (-9)))) w') : WP (MX1_refuse g) Q (0, [some (.ref x)], [], w, 0, 0) := by
  obtain ⟨gc, gl, ⟨hx, hn, hc, hl, hgc, hgl, hn0, hn1, rx, rn, rc, rl, ⟨d1, d2, d3, d4, d5, d6⟩, ⟨d7, d8, d9, d10, d11, d12⟩⟩, hcd, hpl⟩ := hC.1.opn g
  simp only [eX1_refuse_0, eX1_refuse_5, eX1_refuse_10, rx, hx, go_s, g0, gS, ex1, nf_i, true_and, List.set_cons_zero, List.set_cons_succ, List.length_cons, List.length_nil, Nat.zero_add]
  with_reducible refine And.intro ?_ ?_
  omega
  with_reducible refine And.intro ?_ ?_
  omega
  with_reducible refine And.intro ?_ ?_
  omega
  with_reducible exact hQ _ (hC.obj _ _ _) (fun b r hb => rAt_up2 hb hx (by simp))
theorem go_Fw {b : Nat} {r : R4} {K : List Value → Prop} (h : rAt w b r) (k : K [.long r.1, .long r.2.1, .long r.2.2.1, .long r.2.2.2]) : go (w b) 4 K := by
  rw [h, go_s]
  exact k
theorem c6 {a : Int32} (h : okC a) : a.toNatClampNeg < 6 := by
  have h1 := i32_0 h.1
  have h2 := i32_lt h.2
  have z : (6 : Int32).toInt = 6 := rfl
  have e : a.toNatClampNeg = a.toInt.toNat := rfl
  omega
theorem cdN {gc : Nat → Option Nat} {s : AS} {a : Int32} (hcd : ∀ i, i < 6 → cM w (gc i) (s.2.1 i)) (hok : okC a) (h : gc a.toNatClampNeg = none) : s.2.1 a.toNatClampNeg = none := by
  have k := hcd _ (c6 hok)
  rw [h] at k
  exact k.n
theorem cdS {gc : Nat → Option Nat} {s : AS} {a : Int32} {b : Nat} (hcd : ∀ i, i < 6 → cM w (gc i) (s.2.1 i)) (hok : okC a) (h : gc a.toNatClampNeg = some b) : ∃ r, s.2.1 a.toNatClampNeg = some r ∧ rAt w b r := by
  have k := hcd _ (c6 hok)
  rw [h] at k
  exact k.s
set_option maxHeartbeats 4000000 in
theorem fX1_giveR {s : AS} {a0 : Int32} {a1 : Nat} {r : R4} (hC : CS g w0 x nA cA lA kn s w) (h1 : rAt w a1 r) (k0 : ¬ a0 < 0) (k1 : a0 < 6) (hQ : ∀ w', CS g w0 x nA cA lA kn (sM_ (sC s (va_up s.2.1 a0.toNatClampNeg (some r))) (s.2.2.2.2.2 + 1)) w' → (∀ b r, rAt w b r → rAt w' b r) → Q (.inl (some (.int 1))) w') : WP (MX1_give g) Q (0, [some (.ref x), some (.int a0), some (.ref a1)], [], w, 0, 0) := by
  obtain ⟨gc, gl, ⟨hx, hn, hc, hl, hgc, hgl, hn0, hn1, rx, rn, rc, rl, ⟨d1, d2, d3, d4, d5, d6⟩, ⟨d7, d8, d9, d10, d11, d12⟩⟩, hcd, hpl⟩ := hC.1.opn g
  simp only [eX1_give_0, eX1_give_1R, eX1_give_9, eX1_give_13, eX1_give_16, eX1_give_21, eX1_give_26, not_false_eq_true, rx, hx, hc, d2, rd_n, upw_n, n45, or_false, false_and, go_s, gq_s, g0, gS, ex1, nf_i, true_and, List.set_cons_zero, List.set_cons_succ, List.length_cons, List.length_nil, ne_eq, not_false_eq_true, Nat.zero_add]
  with_reducible refine And.intro ?_ ?_
  with_reducible exact vpi6 (by assumption) (by assumption)
  with_reducible refine And.intro ?_ ?_
  with_reducible exact go_Fw h1 trivial
  with_reducible refine And.intro ?_ ?_
  omega
  with_reducible refine And.intro ?_ ?_
  omega
  with_reducible refine And.intro ?_ ?_
  omega
  ((with_reducible refine isQ (Q := Q) ?_); exact hQ _ ((hC.card gc hc a0.toNatClampNeg (some a1) (some r) h1).obj _ _ _) (fun b q hb => rAt_up2 (rAt_up2 hb hc (by simp)) (by rw [upw_n d2]; exact hx) (by simp)))
set_option maxHeartbeats 4000000 in
theorem fX1_giveN {s : AS} {a0 : Int32} (hC : CS g w0 x nA cA lA kn s w) (hQ : ∀ w', CS g w0 x nA cA lA kn (sR_ s (s.2.2.2.2.1 + 1)) w' → (∀ b r, rAt w b r → rAt w' b r) → Q (.inl (some (.int (-9)))) w') : WP (MX1_give g) Q (0, [some (.ref x), some (.int a0), some .null], [], w, 0, 0) := by
  obtain ⟨gc, gl, ⟨hx, hn, hc, hl, hgc, hgl, hn0, hn1, rx, rn, rc, rl, ⟨d1, d2, d3, d4, d5, d6⟩, ⟨d7, d8, d9, d10, d11, d12⟩⟩, hcd, hpl⟩ := hC.1.opn g
  simp only [eX1_give_0N, eX1_give_1N, eX1_give_4, rx, go_s, wt_nil, true_and, Nat.add_zero]
  with_reducible refine And.intro ?_ ?_
  omega
  with_reducible refine And.intro ?_ ?_
  omega
  with_reducible refine And.intro ?_ ?_
  omega
  with_reducible refine fX1_refuse hC (fun w1 h1 h2 => ?_)
  simp only [eX1_give_8, kx_l, tl_s]
  with_reducible refine And.intro ?_ ?_
  omega
  with_reducible refine And.intro ?_ ?_
  omega
  with_reducible exact hQ _ (by assumption) (by assumption)
set_option maxHeartbeats 4000000 in
theorem fX1_rangeOf {s : AS} {a0 : Int32} (hC : CS g w0 x nA cA lA kn s w) (hX : ¬ okC a0 → (Q (.inr "java/lang/IndexOutOfBoundsException") w)) (hS : okC a0 → s.2.1 a0.toNatClampNeg = none → (Q (.inr "java/lang/IllegalStateException") w)) (hQ : okC a0 → ∀ b r, s.2.1 a0.toNatClampNeg = some r → rAt w b r → Q (.inl (some (.ref b))) w) : WP (MX1_rangeOf g) Q (0, [some (.ref x), some (.int a0), none], [], w, 0, 0) := by
  obtain ⟨gc, gl, ⟨hx, hn, hc, hl, hgc, hgl, hn0, hn1, rx, rn, rc, rl, ⟨d1, d2, d3, d4, d5, d6⟩, ⟨d7, d8, d9, d10, d11, d12⟩⟩, hcd, hpl⟩ := hC.1.opn g
  simp only [eX1_rangeOf_0, eX1_rangeOf_4, eX1_rangeOf_8, wt_nil, Nat.zero_add]
  with_reducible refine And.intro ?_ ?_
  omega
  with_reducible refine And.intro ?_ ?_
  omega
  with_reducible refine And.intro ?_ ?_
  omega
  with_reducible refine fX1_needCard (fun _ => ?_) (fun hok => ?_)
  simp only [kx_r]
  with_reducible exact hX (by assumption)
  simp only [eX1_rangeOf_9, eX1_rangeOf_10, eX1_rangeOf_10N, eX1_rangeOf_11, eX1_rangeOf_11N, eX1_rangeOf_12R, eX1_rangeOf_12N, eX1_rangeOf_15, eX1_rangeOf_25, rx, rc, n45, or_false, kx_l, go_s, gq_s, wt_nil, nl_int, rf_st, tl_n, g0, gS, ex1, true_and]
  with_reducible refine And.intro ?_ ?_
  with_reducible exact vpi6 hok.1 hok.2
  with_reducible refine And.intro ?_ ?_
  with_reducible intro _
  with_reducible refine And.intro ?_ ?_
  omega
  with_reducible refine And.intro ?_ ?_
  omega
  with_reducible refine And.intro ?_ ?_
  omega
  with_reducible refine And.intro ?_ ?_
  omega
  with_reducible exact hS hok (cdN hcd hok (by assumption))
  with_reducible intro _
  with_reducible intro _
  with_reducible refine And.intro ?_ ?_
  omega
  with_reducible refine And.intro ?_ ?_
  omega
  with_reducible exact (cdS hcd hok (by assumption)).elim (fun r h => hQ hok _ r h.1 h.2)
end
end
