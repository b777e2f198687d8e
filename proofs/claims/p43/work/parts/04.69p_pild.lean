/-! 69p.pild.lean.txt -/
section
section
variable {g : RO} {Q : Ot → Hw → Prop} {w0 w : Hw}
variable {y nM : Nat} {kd : Int32}
set_option maxHeartbeats 8000000 in
theorem elX3_digest_152 {w' : Hw} {b k m : Nat} {i3 : Int32} (hk : ext g w w') (hb : isRow w' b) (hkk : k ≤ 90) (hmm : m ≤ 520) (hK : ∀ (i1 : Int64) (i5 : Int32), WP (MX3_digest g) Q (214, [some (.ref y), some (.long i1), none, some (.int i3), some (.ref b), some (.int i5)], [], w', k, m)) : ∀ (d : Nat) (i1 : Int64) (i5 : Int32), ¬ i5 < 0 → 4 - i5.toInt ≤ (d : Int) → WP (MX3_digest g) Q (152, [some (.ref y), some (.long i1), none, some (.int i3), some (.ref b), some (.int i5)], [], w', k, m) := by
  have zb : (4 : Int32).toInt = 4 := rfl
  intro d
  induction d with
  | zero =>
    intro i1 i5 z0 hm
    rw [eX3_digest_152]
    simp only [eX3_digest_154, eX3_digest_158, eX3_digest_164, ite_le, wt_nil, wt_long, Nat.add_zero]
    split
    with_reducible exact (by exfalso; have e := dl2 (c := 4) (i := i5) (by assumption); omega)
    with_reducible exact hK _ _
  | succ d ih =>
    intro i1 i5 z0 hm
    rw [eX3_digest_152]
    simp only [eX3_digest_154, eX3_digest_158, eX3_digest_164, ite_le, wt_nil, wt_long, Nat.add_zero]
    split
    with_reducible refine gl_Row (by first | assumption | exact CAt.row (by assumption) | exact isRow.ext (CAt.row (by assumption)) (by assumption)) (fun _ => ?_)
    with_reducible refine And.intro ?_ ?_
    with_reducible exact vpi4l (by assumption) (by assumption)
    with_reducible refine And.intro ?_ ?_
    omega
    with_reducible refine And.intro ?_ ?_
    with_reducible assumption
    with_reducible refine And.intro ?_ ?_
    with_reducible assumption
    with_reducible refine sX3_high (fun _ => ?_)
    simp only [eX3_digest_167, eX3_digest_171, eX3_digest_176, kx_l, wt_nil, tl_s, Nat.add_zero]
    with_reducible refine And.intro ?_ ?_
    omega
    with_reducible refine And.intro ?_ ?_
    with_reducible assumption
    with_reducible refine And.intro ?_ ?_
    with_reducible assumption
    with_reducible refine sX3_add (fun _ => ?_)
    simp only [kx_l, wt_nil, wt_long, tl_s, Nat.add_zero]
    with_reducible refine gl_Row (by first | assumption | exact CAt.row (by assumption) | exact isRow.ext (CAt.row (by assumption)) (by assumption)) (fun _ => ?_)
    with_reducible refine And.intro ?_ ?_
    with_reducible exact vpi4l (by assumption) (by assumption)
    with_reducible refine And.intro ?_ ?_
    omega
    with_reducible refine And.intro ?_ ?_
    with_reducible assumption
    with_reducible refine And.intro ?_ ?_
    with_reducible assumption
    with_reducible refine sX3_low (fun _ => ?_)
    simp only [eX3_digest_179, eX3_digest_183, kx_l, wt_nil, tl_s, Nat.add_zero]
    with_reducible refine And.intro ?_ ?_
    omega
    with_reducible refine And.intro ?_ ?_
    with_reducible assumption
    with_reducible refine And.intro ?_ ?_
    with_reducible assumption
    with_reducible refine sX3_add (fun _ => ?_)
    simp only [kx_l, wt_nil, wt_long, tl_s, Nat.add_zero]
    with_reducible refine And.intro ?_ ?_
    omega
    with_reducible refine And.intro ?_ ?_
    with_reducible assumption
    with_reducible refine And.intro ?_ ?_
    with_reducible assumption
    with_reducible refine sX3_aroundNow (by first | assumption | exact CAt.row (by assumption) | exact isRow.ext (CAt.row (by assumption)) (by assumption)) (by assumption) (by first | assumption | exact lt43 (by assumption)) (fun _ => ?_)
    simp only [eX3_digest_191, eX3_digest_195, kx_l, wt_nil, tl_s, Nat.add_zero]
    with_reducible refine And.intro ?_ ?_
    omega
    with_reducible refine And.intro ?_ ?_
    with_reducible assumption
    with_reducible refine And.intro ?_ ?_
    with_reducible assumption
    with_reducible refine sX3_add (fun _ => ?_)
    simp only [kx_l, wt_nil, wt_long, tl_s, Nat.add_zero]
    with_reducible refine And.intro ?_ ?_
    omega
    with_reducible refine And.intro ?_ ?_
    with_reducible assumption
    with_reducible refine And.intro ?_ ?_
    with_reducible assumption
    with_reducible refine sX3_aroundNow (by first | assumption | exact CAt.row (by assumption) | exact isRow.ext (CAt.row (by assumption)) (by assumption)) (by assumption) (by first | assumption | exact lt43 (by assumption)) (fun _ => ?_)
    simp only [eX3_digest_203, kx_l, wt_nil, tl_s, Nat.add_zero]
    with_reducible refine And.intro ?_ ?_
    omega
    with_reducible refine And.intro ?_ ?_
    with_reducible assumption
    with_reducible refine And.intro ?_ ?_
    with_reducible assumption
    with_reducible refine sX3_add (fun _ => ?_)
    simp only [eX3_digest_207, kx_l, nl_ref, tl_s]
    with_reducible exact ih _ _ (ic_p (by assumption) (by assumption)) (by have e := dl2 (c := 4) (i := i5) (by assumption); omega)
    with_reducible exact hK _ _
set_option maxHeartbeats 8000000 in
theorem elX3_digest_283 {w' : Hw} {b k m : Nat} {i3 : Int32} (hk : ext g w w') (hb : isRow w' b) (hkk : k ≤ 90) (hmm : m ≤ 520) (hK : ∀ (i1 : Int64) (i5 : Int32), WP (MX3_digest g) Q (308, [some (.ref y), some (.long i1), none, some (.int i3), some (.ref b), some (.int i5)], [], w', k, m)) : ∀ (d : Nat) (i1 : Int64) (i5 : Int32), 2 - i5.toInt ≤ (d : Int) → WP (MX3_digest g) Q (283, [some (.ref y), some (.long i1), none, some (.int i3), some (.ref b), some (.int i5)], [], w', k, m) := by
  have zb : (1 : Int32).toInt = 1 := rfl
  intro d
  induction d with
  | zero =>
    intro i1 i5 hm
    rw [eX3_digest_283]
    simp only [eX3_digest_285, eX3_digest_289, wt_nil, wt_long, Nat.add_zero]
    split
    with_reducible exact hK _ _
    with_reducible refine And.intro ?_ ?_
    with_reducible exact (by exfalso; have e := dl1 (c := 1) (i := i5) (by assumption) (by decide); omega)
    with_reducible refine And.intro ?_ ?_
    with_reducible assumption
    with_reducible refine And.intro ?_ ?_
    with_reducible assumption
    with_reducible exact (by exfalso; have e := dl1 (c := 1) (i := i5) (by assumption) (by decide); omega)
  | succ d ih =>
    intro i1 i5 hm
    rw [eX3_digest_283]
    simp only [eX3_digest_285, eX3_digest_289, wt_nil, wt_long, Nat.add_zero]
    split
    with_reducible exact hK _ _
    with_reducible refine And.intro ?_ ?_
    omega
    with_reducible refine And.intro ?_ ?_
    with_reducible assumption
    with_reducible refine And.intro ?_ ?_
    with_reducible assumption
    with_reducible refine sX3_whichNow (by first | assumption | exact CAt.row (by assumption) | exact isRow.ext (CAt.row (by assumption)) (by assumption)) (fun _ => ?_)
    simp only [eX3_digest_297, kx_l, wt_nil, tl_s, Nat.add_zero]
    with_reducible refine And.intro ?_ ?_
    omega
    with_reducible refine And.intro ?_ ?_
    with_reducible assumption
    with_reducible refine And.intro ?_ ?_
    with_reducible assumption
    with_reducible refine sX3_add (fun _ => ?_)
    simp only [eX3_digest_301, kx_l, nl_ref, tl_s]
    with_reducible exact ih _ _ (by have e := dl1 (c := 1) (i := i5) (by assumption) (by decide); omega)
set_option maxHeartbeats 8000000 in
theorem elX3_digest_97 (hM : MM g w0 y nM kd w) (hQ : ∀ (v : Int64) w', ext g w w' → Q (.inl (some (.long v))) w') : ∀ (d : Nat) (i1 : Int64) (i3 : Int32) (o4 o5 : Option Value) (w' : Hw) (k m : Nat), ¬ i3 < 0 → ext g w w' → 6 - i3.toInt ≤ (d : Int) → i3.toInt ≤ 6 → (k : Int) ≤ 10 + i3.toInt → (m : Int) ≤ 45 + 4 * i3.toInt → WP (MX3_digest g) Q (97, [some (.ref y), some (.long i1), none, some (.int i3), o4, o5], [], w', k, m) := by
  have zb : (6 : Int32).toInt = 6 := rfl
  intro d
  induction d with
  | zero =>
    intro i1 i3 o4 o5 w' k m z0 hk hm hi km mm
    rw [eX3_digest_97]
    simp only [eX3_digest_98, eX3_digest_103, eX3_digest_314, ite_le, wt_nil, wt_long, nl_none, Nat.add_zero]
    split
    with_reducible refine And.intro ?_ ?_
    with_reducible exact (by exfalso; have e := dl2 (c := 6) (i := i3) (by assumption); omega)
    with_reducible refine And.intro ?_ ?_
    with_reducible exact (by exfalso; have e := dl2 (c := 6) (i := i3) (by assumption); omega)
    with_reducible refine And.intro ?_ ?_
    with_reducible exact (by exfalso; have e := dl2 (c := 6) (i := i3) (by assumption); omega)
    with_reducible refine And.intro ?_ ?_
    with_reducible exact (by exfalso; have e := dl2 (c := 6) (i := i3) (by assumption); omega)
    with_reducible exact (by exfalso; have e := dl2 (c := 6) (i := i3) (by assumption); omega)
    with_reducible exact elX3_digest_316 hM hQ 70 _ _ _ _ _ _ _ (by decide) hk (by decide) (by decide) (by omega) (by omega)
  | succ d ih =>
    intro i1 i3 o4 o5 w' k m z0 hk hm hi km mm
    rw [eX3_digest_97]
    simp only [eX3_digest_98, eX3_digest_103, eX3_digest_314, ite_le, wt_nil, wt_long, nl_none, Nat.add_zero]
    split
    with_reducible refine And.intro ?_ ?_
    with_reducible refine go_Y (hM.ext' (by first | assumption | exact ext.rf | exact ext.tr hk (by assumption))) (fun _ _ _ _ _ _ => ?_)
    simp only []
    with_reducible refine And.intro ?_ ?_
    omega
    with_reducible refine And.intro ?_ ?_
    omega
    with_reducible refine And.intro ?_ ?_
    omega
    with_reducible refine sX3_isBareM (hM.ext' (by first | assumption | exact ext.rf | exact ext.tr hk (by assumption))) (by assumption) (by first | assumption | exact lt65 (by assumption)) ?_ (fun _ _ => ?_)
    simp only [eX3_digest_109, eX3_digest_112, eX3_digest_116, eX3_digest_117, kx_l, wt_nil, wt_long, tl_s, Nat.add_zero, if_false, m10]
    with_reducible refine And.intro ?_ ?_
    omega
    with_reducible refine And.intro ?_ ?_
    omega
    with_reducible refine And.intro ?_ ?_
    omega
    with_reducible refine sX3_one (fun _ => ?_)
    simp only [eX3_digest_120, kx_l, wt_nil, tl_s, Nat.add_zero]
    with_reducible refine And.intro ?_ ?_
    omega
    with_reducible refine And.intro ?_ ?_
    omega
    with_reducible refine And.intro ?_ ?_
    omega
    with_reducible refine sX3_add (fun _ => ?_)
    simp only [eX3_digest_124, eX3_digest_125, kx_l, wt_nil, nl_ref, tl_s, Nat.add_zero]
    with_reducible refine And.intro ?_ ?_
    with_reducible refine go_Y (hM.ext' (by first | assumption | exact ext.rf | exact ext.tr hk (by assumption))) (fun _ _ _ _ _ _ => ?_)
    simp only []
    with_reducible refine And.intro ?_ ?_
    omega
    with_reducible refine And.intro ?_ ?_
    omega
    with_reducible refine And.intro ?_ ?_
    omega
    with_reducible refine sX3_isBareM (hM.ext' (by first | assumption | exact ext.rf | exact ext.tr hk (by assumption))) (by assumption) (by first | assumption | exact lt65 (by assumption)) ?_ (fun _ _ => ?_)
    simp only [eX3_digest_130, eX3_digest_133, eX3_digest_136, eX3_digest_140, eX3_digest_308, kx_l, nl_none, tl_s, if_false, m10]
    with_reducible exact ih _ _ _ _ _ _ _ (ic_p (by assumption) (by assumption)) (by first | assumption | exact ext.rf | exact ext.tr hk (by assumption)) (by have e := dl2 (c := 6) (i := i3) (by assumption); omega) (by have e := dl2 (c := 6) (i := i3) (by assumption); omega) (by have e := dl2 (c := 6) (i := i3) (by assumption); omega) (by have e := dl2 (c := 6) (i := i3) (by assumption); omega)
    simp only [eX3_digest_130, eX3_digest_133, eX3_digest_136, eX3_digest_140, eX3_digest_308, kx_l, nl_none, tl_s, if_true]
    with_reducible refine go_Y (hM.ext' (by first | assumption | exact ext.rf | exact ext.tr hk (by assumption))) (fun _ _ _ _ _ _ => ?_)
    simp only [eX3_digest_141, wt_nil, g0, gS, ex1, Nat.add_zero]
    with_reducible refine And.intro ?_ ?_
    with_reducible exact gtC (hM.ext' (by first | assumption | exact ext.rf | exact ext.tr hk (by assumption))) (by assumption)
    with_reducible refine And.intro ?_ ?_
    omega
    with_reducible refine And.intro ?_ ?_
    omega
    with_reducible refine And.intro ?_ ?_
    omega
    with_reducible refine sGetY (by assumption) (by assumption) (by assumption) (by first | assumption | exact lt65 (by assumption)) ?_
    simp only [eX3_digest_144R, eX3_digest_147, kx_l, nl_int, nl_ref, tl_s]
    with_reducible refine And.intro ?_ ?_
    with_reducible exact isRow.ca (by first | assumption | exact CAt.row (by assumption) | exact isRow.ext (CAt.row (by assumption)) (by assumption))
    with_reducible refine elX3_digest_152 hk (by first | assumption | exact CAt.row (by assumption) | exact isRow.ext (CAt.row (by assumption)) (by assumption)) (by omega) (by omega) (fun _ _ => ?_) 70 _ _ (by decide) (by decide)
    simp only [eX3_digest_214, wt_nil, wt_long, Nat.add_zero]
    with_reducible refine And.intro ?_ ?_
    omega
    with_reducible refine And.intro ?_ ?_
    omega
    with_reducible refine And.intro ?_ ?_
    omega
    with_reducible refine sX3_fixedV (by first | assumption | exact CAt.row (by assumption) | exact isRow.ext (CAt.row (by assumption)) (by assumption)) (fun _ => ?_)
    simp only [eX3_digest_220, kx_l, wt_nil, wt_long, tl_s, Nat.add_zero]
    with_reducible refine And.intro ?_ ?_
    omega
    with_reducible refine And.intro ?_ ?_
    omega
    with_reducible refine And.intro ?_ ?_
    omega
    with_reducible refine sX3_one (fun _ => ?_)
    simp only [eX3_digest_223, eX3_digest_227, kx_l, wt_nil, tl_s, Nat.add_zero]
    with_reducible refine And.intro ?_ ?_
    omega
    with_reducible refine And.intro ?_ ?_
    omega
    with_reducible refine And.intro ?_ ?_
    omega
    with_reducible refine sX3_add (fun _ => ?_)
    simp only [kx_l, wt_nil, wt_long, tl_s, Nat.add_zero]
    with_reducible refine And.intro ?_ ?_
    omega
    with_reducible refine And.intro ?_ ?_
    omega
    with_reducible refine And.intro ?_ ?_
    omega
    with_reducible refine sX3_smallV (by first | assumption | exact CAt.row (by assumption) | exact isRow.ext (CAt.row (by assumption)) (by assumption)) (fun _ => ?_)
    simp only [eX3_digest_232, kx_l, wt_nil, wt_long, tl_s, Nat.add_zero]
    with_reducible refine And.intro ?_ ?_
    omega
    with_reducible refine And.intro ?_ ?_
    omega
    with_reducible refine And.intro ?_ ?_
    omega
    with_reducible refine sX3_one (fun _ => ?_)
    simp only [eX3_digest_235, eX3_digest_239, kx_l, wt_nil, tl_s, Nat.add_zero]
    with_reducible refine And.intro ?_ ?_
    omega
    with_reducible refine And.intro ?_ ?_
    omega
    with_reducible refine And.intro ?_ ?_
    omega
    with_reducible refine sX3_add (fun _ => ?_)
    simp only [kx_l, wt_nil, wt_long, tl_s, Nat.add_zero]
    with_reducible refine And.intro ?_ ?_
    with_reducible refine go_Y (hM.ext' (by first | assumption | exact ext.rf | exact ext.tr hk (by assumption))) (fun _ _ _ _ _ _ => ?_)
    simp only []
    with_reducible refine And.intro ?_ ?_
    omega
    with_reducible refine And.intro ?_ ?_
    omega
    with_reducible refine And.intro ?_ ?_
    omega
    with_reducible refine sX3_likesNow (hM.ext' (by first | assumption | exact ext.rf | exact ext.tr hk (by assumption))) (by assumption) (by assumption) (by first | assumption | exact lt65 (by assumption)) (fun _ => ?_)
    simp only [eX3_digest_244, kx_l, wt_nil, tl_s, Nat.add_zero]
    with_reducible refine And.intro ?_ ?_
    omega
    with_reducible refine And.intro ?_ ?_
    omega
    with_reducible refine And.intro ?_ ?_
    omega
    with_reducible refine sX3_add (fun _ => ?_)
    simp only [eX3_digest_248, eX3_digest_250, kx_l, wt_nil, wt_long, nl_ref, tl_s, Nat.add_zero]
    with_reducible refine And.intro ?_ ?_
    with_reducible refine go_Y (hM.ext' (by first | assumption | exact ext.rf | exact ext.tr hk (by assumption))) (fun _ _ _ _ _ _ => ?_)
    simp only []
    with_reducible refine And.intro ?_ ?_
    omega
    with_reducible refine And.intro ?_ ?_
    omega
    with_reducible refine And.intro ?_ ?_
    omega
    with_reducible refine sX3_seekNowM (hM.ext' (by first | assumption | exact ext.rf | exact ext.tr hk (by assumption))) (by assumption) (by assumption) (by first | assumption | exact lt65 (by assumption)) (fun _ _ _ _ => ?_)
    simp only [eX3_digest_256, eX3_digest_260, kx_l, wt_nil, tl_s, Nat.add_zero]
    with_reducible refine And.intro ?_ ?_
    omega
    with_reducible refine And.intro ?_ ?_
    omega
    with_reducible refine And.intro ?_ ?_
    omega
    with_reducible refine sX3_add (fun _ => ?_)
    simp only [kx_l, wt_nil, wt_long, tl_s, Nat.add_zero]
    with_reducible refine And.intro ?_ ?_
    with_reducible refine go_Y (hM.ext' (by first | assumption | exact ext.rf | exact ext.tr hk (by assumption))) (fun _ _ _ _ _ _ => ?_)
    simp only []
    with_reducible refine And.intro ?_ ?_
    omega
    with_reducible refine And.intro ?_ ?_
    omega
    with_reducible refine And.intro ?_ ?_
    omega
    with_reducible refine sX3_seekNowM (hM.ext' (by first | assumption | exact ext.rf | exact ext.tr hk (by assumption))) (by assumption) (by assumption) (by first | assumption | exact lt65 (by assumption)) (fun _ _ _ _ => ?_)
    simp only [eX3_digest_266, eX3_digest_270, kx_l, wt_nil, tl_s, Nat.add_zero]
    with_reducible refine And.intro ?_ ?_
    omega
    with_reducible refine And.intro ?_ ?_
    omega
    with_reducible refine And.intro ?_ ?_
    omega
    with_reducible refine sX3_add (fun _ => ?_)
    simp only [kx_l, wt_nil, wt_long, tl_s, Nat.add_zero]
    with_reducible refine And.intro ?_ ?_
    with_reducible refine go_Y (hM.ext' (by first | assumption | exact ext.rf | exact ext.tr hk (by assumption))) (fun _ _ _ _ _ _ => ?_)
    simp only []
    with_reducible refine And.intro ?_ ?_
    omega
    with_reducible refine And.intro ?_ ?_
    omega
    with_reducible refine And.intro ?_ ?_
    omega
    with_reducible refine sX3_oftenNow (hM.ext' (by first | assumption | exact ext.rf | exact ext.tr hk (by assumption))) (by assumption) (by assumption) (by first | assumption | exact lt65 (by assumption)) (fun _ _ _ => ?_)
    simp only [eX3_digest_275, kx_l, wt_nil, tl_s, Nat.add_zero]
    with_reducible refine And.intro ?_ ?_
    omega
    with_reducible refine And.intro ?_ ?_
    omega
    with_reducible refine And.intro ?_ ?_
    omega
    with_reducible refine sX3_add (fun _ => ?_)
    simp only [eX3_digest_279, kx_l, nl_ref, tl_s]
    with_reducible refine elX3_digest_283 (by first | assumption | exact ext.rf | exact ext.tr hk (by assumption)) (by first | assumption | exact CAt.row (by assumption) | exact isRow.ext (CAt.row (by assumption)) (by assumption)) (by omega) (by omega) (fun _ _ => ?_) 70 _ _ (by decide)
    simp only [eX3_digest_308, nl_none]
    with_reducible exact ih _ _ _ _ _ _ _ (ic_p (by assumption) (by assumption)) (by first | assumption | exact ext.rf | exact ext.tr hk (by assumption)) (by have e := dl2 (c := 6) (i := i3) (by assumption); omega) (by have e := dl2 (c := 6) (i := i3) (by assumption); omega) (by have e := dl2 (c := 6) (i := i3) (by assumption); omega) (by have e := dl2 (c := 6) (i := i3) (by assumption); omega)
    simp only [eX3_digest_109, eX3_digest_112, eX3_digest_116, eX3_digest_117, kx_l, wt_nil, wt_long, tl_s, Nat.add_zero, if_true]
    with_reducible refine And.intro ?_ ?_
    omega
    with_reducible refine And.intro ?_ ?_
    omega
    with_reducible refine And.intro ?_ ?_
    omega
    with_reducible refine sX3_one (fun _ => ?_)
    simp only [eX3_digest_120, kx_l, wt_nil, tl_s, Nat.add_zero]
    with_reducible refine And.intro ?_ ?_
    omega
    with_reducible refine And.intro ?_ ?_
    omega
    with_reducible refine And.intro ?_ ?_
    omega
    with_reducible refine sX3_add (fun _ => ?_)
    simp only [eX3_digest_124, eX3_digest_125, kx_l, wt_nil, nl_ref, tl_s, Nat.add_zero]
    with_reducible refine And.intro ?_ ?_
    with_reducible refine go_Y (hM.ext' (by first | assumption | exact ext.rf | exact ext.tr hk (by assumption))) (fun _ _ _ _ _ _ => ?_)
    simp only []
    with_reducible refine And.intro ?_ ?_
    omega
    with_reducible refine And.intro ?_ ?_
    omega
    with_reducible refine And.intro ?_ ?_
    omega
    with_reducible refine sX3_isBareM (hM.ext' (by first | assumption | exact ext.rf | exact ext.tr hk (by assumption))) (by assumption) (by first | assumption | exact lt65 (by assumption)) ?_ (fun _ _ => ?_)
    simp only [eX3_digest_130, eX3_digest_133, eX3_digest_136, eX3_digest_140, eX3_digest_308, kx_l, nl_none, tl_s, if_false, m10]
    with_reducible exact ih _ _ _ _ _ _ _ (ic_p (by assumption) (by assumption)) (by first | assumption | exact ext.rf | exact ext.tr hk (by assumption)) (by have e := dl2 (c := 6) (i := i3) (by assumption); omega) (by have e := dl2 (c := 6) (i := i3) (by assumption); omega) (by have e := dl2 (c := 6) (i := i3) (by assumption); omega) (by have e := dl2 (c := 6) (i := i3) (by assumption); omega)
    simp only [eX3_digest_130, eX3_digest_133, eX3_digest_136, eX3_digest_140, eX3_digest_308, kx_l, nl_none, tl_s, if_true]
    with_reducible refine go_Y (hM.ext' (by first | assumption | exact ext.rf | exact ext.tr hk (by assumption))) (fun _ _ _ _ _ _ => ?_)
    simp only [eX3_digest_141, wt_nil, g0, gS, ex1, Nat.add_zero]
    with_reducible refine And.intro ?_ ?_
    with_reducible exact gtC (hM.ext' (by first | assumption | exact ext.rf | exact ext.tr hk (by assumption))) (by assumption)
    with_reducible refine And.intro ?_ ?_
    omega
    with_reducible refine And.intro ?_ ?_
    omega
    with_reducible refine And.intro ?_ ?_
    omega
    with_reducible refine sGetY (by assumption) (by assumption) (by assumption) (by first | assumption | exact lt65 (by assumption)) ?_
    simp only [eX3_digest_144R, eX3_digest_147, kx_l, nl_int, nl_ref, tl_s]
    with_reducible refine And.intro ?_ ?_
    with_reducible exact isRow.ca (by first | assumption | exact CAt.row (by assumption) | exact isRow.ext (CAt.row (by assumption)) (by assumption))
    with_reducible refine elX3_digest_152 hk (by first | assumption | exact CAt.row (by assumption) | exact isRow.ext (CAt.row (by assumption)) (by assumption)) (by omega) (by omega) (fun _ _ => ?_) 70 _ _ (by decide) (by decide)
    simp only [eX3_digest_214, wt_nil, wt_long, Nat.add_zero]
    with_reducible refine And.intro ?_ ?_
    omega
    with_reducible refine And.intro ?_ ?_
    omega
    with_reducible refine And.intro ?_ ?_
    omega
    with_reducible refine sX3_fixedV (by first | assumption | exact CAt.row (by assumption) | exact isRow.ext (CAt.row (by assumption)) (by assumption)) (fun _ => ?_)
    simp only [eX3_digest_220, kx_l, wt_nil, wt_long, tl_s, Nat.add_zero]
    with_reducible refine And.intro ?_ ?_
    omega
    with_reducible refine And.intro ?_ ?_
    omega
    with_reducible refine And.intro ?_ ?_
    omega
    with_reducible refine sX3_one (fun _ => ?_)
    simp only [eX3_digest_223, eX3_digest_227, kx_l, wt_nil, tl_s, Nat.add_zero]
    with_reducible refine And.intro ?_ ?_
    omega
    with_reducible refine And.intro ?_ ?_
    omega
    with_reducible refine And.intro ?_ ?_
    omega
    with_reducible refine sX3_add (fun _ => ?_)
    simp only [kx_l, wt_nil, wt_long, tl_s, Nat.add_zero]
    with_reducible refine And.intro ?_ ?_
    omega
    with_reducible refine And.intro ?_ ?_
    omega
    with_reducible refine And.intro ?_ ?_
    omega
    with_reducible refine sX3_smallV (by first | assumption | exact CAt.row (by assumption) | exact isRow.ext (CAt.row (by assumption)) (by assumption)) (fun _ => ?_)
    simp only [eX3_digest_232, kx_l, wt_nil, wt_long, tl_s, Nat.add_zero]
    with_reducible refine And.intro ?_ ?_
    omega
    with_reducible refine And.intro ?_ ?_
    omega
    with_reducible refine And.intro ?_ ?_
    omega
    with_reducible refine sX3_one (fun _ => ?_)
    simp only [eX3_digest_235, eX3_digest_239, kx_l, wt_nil, tl_s, Nat.add_zero]
    with_reducible refine And.intro ?_ ?_
    omega
    with_reducible refine And.intro ?_ ?_
    omega
    with_reducible refine And.intro ?_ ?_
    omega
    with_reducible refine sX3_add (fun _ => ?_)
    simp only [kx_l, wt_nil, wt_long, tl_s, Nat.add_zero]
    with_reducible refine And.intro ?_ ?_
    with_reducible refine go_Y (hM.ext' (by first | assumption | exact ext.rf | exact ext.tr hk (by assumption))) (fun _ _ _ _ _ _ => ?_)
    simp only []
    with_reducible refine And.intro ?_ ?_
    omega
    with_reducible refine And.intro ?_ ?_
    omega
    with_reducible refine And.intro ?_ ?_
    omega
    with_reducible refine sX3_likesNow (hM.ext' (by first | assumption | exact ext.rf | exact ext.tr hk (by assumption))) (by assumption) (by assumption) (by first | assumption | exact lt65 (by assumption)) (fun _ => ?_)
    simp only [eX3_digest_244, kx_l, wt_nil, tl_s, Nat.add_zero]
    with_reducible refine And.intro ?_ ?_
    omega
    with_reducible refine And.intro ?_ ?_
    omega
    with_reducible refine And.intro ?_ ?_
    omega
    with_reducible refine sX3_add (fun _ => ?_)
    simp only [eX3_digest_248, eX3_digest_250, kx_l, wt_nil, wt_long, nl_ref, tl_s, Nat.add_zero]
    with_reducible refine And.intro ?_ ?_
    with_reducible refine go_Y (hM.ext' (by first | assumption | exact ext.rf | exact ext.tr hk (by assumption))) (fun _ _ _ _ _ _ => ?_)
    simp only []
    with_reducible refine And.intro ?_ ?_
    omega
    with_reducible refine And.intro ?_ ?_
    omega
    with_reducible refine And.intro ?_ ?_
    omega
    with_reducible refine sX3_seekNowM (hM.ext' (by first | assumption | exact ext.rf | exact ext.tr hk (by assumption))) (by assumption) (by assumption) (by first | assumption | exact lt65 (by assumption)) (fun _ _ _ _ => ?_)
    simp only [eX3_digest_256, eX3_digest_260, kx_l, wt_nil, tl_s, Nat.add_zero]
    with_reducible refine And.intro ?_ ?_
    omega
    with_reducible refine And.intro ?_ ?_
    omega
    with_reducible refine And.intro ?_ ?_
    omega
    with_reducible refine sX3_add (fun _ => ?_)
    simp only [kx_l, wt_nil, wt_long, tl_s, Nat.add_zero]
    with_reducible refine And.intro ?_ ?_
    with_reducible refine go_Y (hM.ext' (by first | assumption | exact ext.rf | exact ext.tr hk (by assumption))) (fun _ _ _ _ _ _ => ?_)
    simp only []
    with_reducible refine And.intro ?_ ?_
    omega
    with_reducible refine And.intro ?_ ?_
    omega
    with_reducible refine And.intro ?_ ?_
    omega
    with_reducible refine sX3_seekNowM (hM.ext' (by first | assumption | exact ext.rf | exact ext.tr hk (by assumption))) (by assumption) (by assumption) (by first | assumption | exact lt65 (by assumption)) (fun _ _ _ _ => ?_)
    simp only [eX3_digest_266, eX3_digest_270, kx_l, wt_nil, tl_s, Nat.add_zero]
    with_reducible refine And.intro ?_ ?_
    omega
    with_reducible refine And.intro ?_ ?_
    omega
    with_reducible refine And.intro ?_ ?_
    omega
    with_reducible refine sX3_add (fun _ => ?_)
    simp only [kx_l, wt_nil, wt_long, tl_s, Nat.add_zero]
    with_reducible refine And.intro ?_ ?_
    with_reducible refine go_Y (hM.ext' (by first | assumption | exact ext.rf | exact ext.tr hk (by assumption))) (fun _ _ _ _ _ _ => ?_)
    simp only []
    with_reducible refine And.intro ?_ ?_
    omega
    with_reducible refine And.intro ?_ ?_
    omega
    with_reducible refine And.intro ?_ ?_
    omega
    with_reducible refine sX3_oftenNow (hM.ext' (by first | assumption | exact ext.rf | exact ext.tr hk (by assumption))) (by assumption) (by assumption) (by first | assumption | exact lt65 (by assumption)) (fun _ _ _ => ?_)
    simp only [eX3_digest_275, kx_l, wt_nil, tl_s, Nat.add_zero]
    with_reducible refine And.intro ?_ ?_
    omega
    with_reducible refine And.intro ?_ ?_
    omega
    with_reducible refine And.intro ?_ ?_
    omega
    with_reducible refine sX3_add (fun _ => ?_)
    simp only [eX3_digest_279, kx_l, nl_ref, tl_s]
    with_reducible refine elX3_digest_283 (by first | assumption | exact ext.rf | exact ext.tr hk (by assumption)) (by first | assumption | exact CAt.row (by assumption) | exact isRow.ext (CAt.row (by assumption)) (by assumption)) (by omega) (by omega) (fun _ _ => ?_) 70 _ _ (by decide)
    simp only [eX3_digest_308, nl_none]
    with_reducible exact ih _ _ _ _ _ _ _ (ic_p (by assumption) (by assumption)) (by first | assumption | exact ext.rf | exact ext.tr hk (by assumption)) (by have e := dl2 (c := 6) (i := i3) (by assumption); omega) (by have e := dl2 (c := 6) (i := i3) (by assumption); omega) (by have e := dl2 (c := 6) (i := i3) (by assumption); omega) (by have e := dl2 (c := 6) (i := i3) (by assumption); omega)
    with_reducible exact elX3_digest_316 hM hQ 70 _ _ _ _ _ _ _ (by decide) hk (by decide) (by decide) (by omega) (by omega)
end
end
/-! 69p.pile.lean.txt -/
section
section
variable {g : RO} {Q : Ot → Hw → Prop} {w0 w : Hw}
variable {y nM : Nat} {kd : Int32}
set_option maxHeartbeats 8000000 in
theorem elX3_digest_35 (hM : MM g w0 y nM kd w) (hQ : ∀ (v : Int64) w', ext g w w' → Q (.inl (some (.long v))) w') : ∀ (d : Nat) (i1 : Int64) (i3 : Int32) (o4 o5 : Option Value) (w' : Hw) (k m : Nat), ¬ i3 < 0 → ext g w w' → 8 - i3.toInt ≤ (d : Int) → i3.toInt ≤ 8 → (k : Int) ≤ 10 → (m : Int) ≤ 45 → WP (MX3_digest g) Q (35, [some (.ref y), some (.long i1), none, some (.int i3), o4, o5], [], w', k, m) := by
  have zb : (8 : Int32).toInt = 8 := rfl
  intro d
  induction d with
  | zero =>
    intro i1 i3 o4 o5 w' k m z0 hk hm hi km mm
    rw [eX3_digest_35]
    simp only [eX3_digest_36, eX3_digest_41, eX3_digest_46, eX3_digest_95, ite_le, nl_none]
    split
    with_reducible exact (by exfalso; have e := dl2 (c := 8) (i := i3) (by assumption); omega)
    with_reducible exact elX3_digest_97 hM hQ 70 _ _ _ _ _ _ _ (by decide) hk (by decide) (by decide) (by have z := i0z; omega) (by have z := i0z; omega)
  | succ d ih =>
    intro i1 i3 o4 o5 w' k m z0 hk hm hi km mm
    rw [eX3_digest_35]
    simp only [eX3_digest_36, eX3_digest_41, eX3_digest_46, eX3_digest_95, ite_le, nl_none]
    split
    with_reducible refine go_Y (hM.ext' (by first | assumption | exact ext.rf | exact ext.tr hk (by assumption))) (fun _ _ _ _ _ _ => ?_)
    simp only [eX3_digest_47, eX3_digest_48, wt_nil, wt_long, g0, gS, ex1, Nat.add_zero]
    with_reducible refine gl_M (hM.ext' (by first | assumption | exact ext.rf | exact ext.tr hk (by assumption))) ?_
    with_reducible intro _
    with_reducible refine And.intro ?_ ?_
    with_reducible exact vpi8 (by assumption) (by assumption)
    with_reducible refine And.intro ?_ ?_
    omega
    with_reducible refine And.intro ?_ ?_
    omega
    with_reducible refine And.intro ?_ ?_
    omega
    with_reducible refine sX3_high (fun _ => ?_)
    simp only [eX3_digest_51, eX3_digest_55, eX3_digest_59, kx_l, wt_nil, tl_s, Nat.add_zero]
    with_reducible refine And.intro ?_ ?_
    omega
    with_reducible refine And.intro ?_ ?_
    omega
    with_reducible refine And.intro ?_ ?_
    omega
    with_reducible refine sX3_add (fun _ => ?_)
    simp only [kx_l, tl_s]
    with_reducible refine go_Y (hM.ext' (by first | assumption | exact ext.rf | exact ext.tr hk (by assumption))) (fun _ _ _ _ _ _ => ?_)
    simp only [eX3_digest_60, eX3_digest_61, wt_nil, wt_long, g0, gS, ex1, Nat.add_zero]
    with_reducible refine gl_M (hM.ext' (by first | assumption | exact ext.rf | exact ext.tr hk (by assumption))) ?_
    with_reducible intro _
    with_reducible refine And.intro ?_ ?_
    with_reducible exact vpi8 (by assumption) (by assumption)
    with_reducible refine And.intro ?_ ?_
    omega
    with_reducible refine And.intro ?_ ?_
    omega
    with_reducible refine And.intro ?_ ?_
    omega
    with_reducible refine sX3_low (fun _ => ?_)
    simp only [eX3_digest_64, eX3_digest_68, kx_l, wt_nil, tl_s, Nat.add_zero]
    with_reducible refine And.intro ?_ ?_
    omega
    with_reducible refine And.intro ?_ ?_
    omega
    with_reducible refine And.intro ?_ ?_
    omega
    with_reducible refine sX3_add (fun _ => ?_)
    simp only [kx_l, wt_nil, wt_long, tl_s, Nat.add_zero]
    with_reducible refine And.intro ?_ ?_
    with_reducible refine go_Y (hM.ext' (by first | assumption | exact ext.rf | exact ext.tr hk (by assumption))) (fun _ _ _ _ _ _ => ?_)
    simp only []
    with_reducible refine And.intro ?_ ?_
    omega
    with_reducible refine And.intro ?_ ?_
    omega
    with_reducible refine And.intro ?_ ?_
    omega
    with_reducible refine sX3_whoNow (hM.ext' (by first | assumption | exact ext.rf | exact ext.tr hk (by assumption))) (by assumption) (by first | assumption | exact lt87 (by assumption)) (fun _ => ?_)
    simp only [eX3_digest_74, eX3_digest_78, kx_l, wt_nil, tl_s, Nat.add_zero]
    with_reducible refine And.intro ?_ ?_
    omega
    with_reducible refine And.intro ?_ ?_
    omega
    with_reducible refine And.intro ?_ ?_
    omega
    with_reducible refine sX3_add (fun _ => ?_)
    simp only [kx_l, wt_nil, wt_long, tl_s, Nat.add_zero]
    with_reducible refine And.intro ?_ ?_
    with_reducible refine go_Y (hM.ext' (by first | assumption | exact ext.rf | exact ext.tr hk (by assumption))) (fun _ _ _ _ _ _ => ?_)
    simp only []
    with_reducible refine And.intro ?_ ?_
    omega
    with_reducible refine And.intro ?_ ?_
    omega
    with_reducible refine And.intro ?_ ?_
    omega
    with_reducible refine sX3_whoNow (hM.ext' (by first | assumption | exact ext.rf | exact ext.tr hk (by assumption))) (by assumption) (by first | assumption | exact lt87 (by assumption)) (fun _ => ?_)
    simp only [eX3_digest_84, kx_l, wt_nil, tl_s, Nat.add_zero]
    with_reducible refine And.intro ?_ ?_
    omega
    with_reducible refine And.intro ?_ ?_
    omega
    with_reducible refine And.intro ?_ ?_
    omega
    with_reducible refine sX3_add (fun _ => ?_)
    simp only [eX3_digest_88, kx_l, nl_ref, nl_none, tl_s]
    with_reducible exact ih _ _ _ _ _ _ _ (ic_p (by assumption) (by assumption)) (by first | assumption | exact ext.rf | exact ext.tr hk (by assumption)) (by have e := dl2 (c := 8) (i := i3) (by assumption); omega) (by have e := dl2 (c := 8) (i := i3) (by assumption); omega) (by have e := dl2 (c := 8) (i := i3) (by assumption); omega) (by have e := dl2 (c := 8) (i := i3) (by assumption); omega)
    with_reducible exact elX3_digest_97 hM hQ 70 _ _ _ _ _ _ _ (by decide) hk (by decide) (by decide) (by have z := i0z; omega) (by have z := i0z; omega)
set_option maxHeartbeats 8000000 in
theorem elX3_digest_11 (hM : MM g w0 y nM kd w) (hQ : ∀ (v : Int64) w', ext g w w' → Q (.inl (some (.long v))) w') : ∀ (d : Nat) (i1 : Int64) (i3 : Int32) (o4 o5 : Option Value) (w' : Hw) (k m : Nat), ¬ i3 < 0 → ext g w w' → 5 - i3.toInt ≤ (d : Int) → i3.toInt ≤ 5 → (k : Int) ≤ 2 * i3.toInt → (m : Int) ≤ 9 * i3.toInt → WP (MX3_digest g) Q (11, [some (.ref y), some (.long i1), none, some (.int i3), o4, o5], [], w', k, m) := by
  have zb : (4 : Int32).toInt = 4 := rfl
  intro d
  induction d with
  | zero =>
    intro i1 i3 o4 o5 w' k m z0 hk hm hi km mm
    rw [eX3_digest_11]
    simp only [eX3_digest_12, eX3_digest_16, eX3_digest_33, wt_nil, wt_long, nl_none, Nat.add_zero]
    split
    with_reducible exact elX3_digest_35 hM hQ 70 _ _ _ _ _ _ _ (by decide) hk (by decide) (by decide) (by omega) (by omega)
    with_reducible refine And.intro ?_ ?_
    with_reducible exact (by exfalso; have e := dl1 (c := 4) (i := i3) (by assumption) (by decide); omega)
    with_reducible refine And.intro ?_ ?_
    with_reducible exact (by exfalso; have e := dl1 (c := 4) (i := i3) (by assumption) (by decide); omega)
    with_reducible refine And.intro ?_ ?_
    with_reducible exact (by exfalso; have e := dl1 (c := 4) (i := i3) (by assumption) (by decide); omega)
    with_reducible refine And.intro ?_ ?_
    with_reducible exact (by exfalso; have e := dl1 (c := 4) (i := i3) (by assumption) (by decide); omega)
    with_reducible exact (by exfalso; have e := dl1 (c := 4) (i := i3) (by assumption) (by decide); omega)
  | succ d ih =>
    intro i1 i3 o4 o5 w' k m z0 hk hm hi km mm
    rw [eX3_digest_11]
    simp only [eX3_digest_12, eX3_digest_16, eX3_digest_33, wt_nil, wt_long, nl_none, Nat.add_zero]
    split
    with_reducible exact elX3_digest_35 hM hQ 70 _ _ _ _ _ _ _ (by decide) hk (by decide) (by decide) (by omega) (by omega)
    with_reducible refine And.intro ?_ ?_
    with_reducible refine go_Y (hM.ext' (by first | assumption | exact ext.rf | exact ext.tr hk (by assumption))) (fun _ _ _ _ _ _ => ?_)
    simp only []
    with_reducible refine And.intro ?_ ?_
    omega
    with_reducible refine And.intro ?_ ?_
    omega
    with_reducible refine And.intro ?_ ?_
    omega
    with_reducible refine sX3_houseNow (hM.ext' (by first | assumption | exact ext.rf | exact ext.tr hk (by assumption))) (by assumption) (by assumption) (fun _ _ _ => ?_)
    simp only [eX3_digest_22, kx_l, wt_nil, tl_s, Nat.add_zero]
    with_reducible refine And.intro ?_ ?_
    omega
    with_reducible refine And.intro ?_ ?_
    omega
    with_reducible refine And.intro ?_ ?_
    omega
    with_reducible refine sX3_add (fun _ => ?_)
    simp only [eX3_digest_26, kx_l, nl_ref, nl_none, tl_s]
    with_reducible exact ih _ _ _ _ _ _ _ (ic_pl (by assumption) (by assumption) (by decide)) (by first | assumption | exact ext.rf | exact ext.tr hk (by assumption)) (by have e := dl1 (c := 4) (i := i3) (by assumption) (by decide); omega) (by have e := dl1 (c := 4) (i := i3) (by assumption) (by decide); omega) (by have e := dl1 (c := 4) (i := i3) (by assumption) (by decide); omega) (by have e := dl1 (c := 4) (i := i3) (by assumption) (by decide); omega)
end
end
/-! 70.law0.lean.txt -/
section
section
variable {g : RO} {Q : Ot → Hw → Prop} {w : Hw} {x nA cA lA y nM o : Nat} {kn km : Int32}
/-- the object, the reference, what is handed between them; nothing old is written -/
def LWS (g : RO) (w : Hw) (x nA cA lA y nM o : Nat) (kn km : Int32) : Prop := RC w x nA cA lA kn ∧ RMo g w y nM km ∧ nA ≠ nM ∧ (∃ a b : Value, w o = some (.inr (6, [a, b]))) ∧ ∀ (a : Nat) (z : Ob), g.2 a = some z → w a = none
theorem hgo_h {M : MT} {P : St → Prop} {pc : Nat} {L : List (Option Value)} {E : String} {k n h : Nat} {HH : List (Nat × Nat × Nat × Nat)} {NN : List (Nat × String)} (e1 : M.hh = HH) (e2 : M.hnm = NN) (h1 : hfind NN pc E HH = some h) (h2 : E ∈ EX3) (kk : ∀ q : Nat, P (h, L, [.ref q], w, k, n)) : hgo M Q P pc L E w k n := by
  refine ⟨Or.inr h2, ?_⟩
  rw [e1, e2, h1]
  exact kk
theorem LWS.cc (h : LWS g w x nA cA lA y nM o kn km) : CC g w x nA cA lA kn w := ⟨h.1, FC.rf⟩
theorem LWS.mm (h : LWS g w x nA cA lA y nM o kn km) : MM g w y nM km w := ⟨h.2.1, FM.rf⟩
theorem LWS.of {kn' : Int32} {w' : Hw} (h : LWS g w x nA cA lA y nM o kn km) (k : CC g w x nA cA lA kn' w') : LWS g w' x nA cA lA y nM o kn' km := by
  obtain ⟨h1, h2, h3, ⟨a, b, h4⟩, h5⟩ := h
  obtain ⟨n, rf, md, f, gc, gl, r1, r2, -⟩ := h1
  exact ⟨k.1, h2.FC k.2 r2 h3.symm, h3, ⟨a, b, k.2.ne r2 h4 (fun e => by cases e) rfl⟩, fun a z e => k.2.2 a z e (h5 a z e)⟩
theorem LWS.ofM {km' : Int32} {w' : Hw} (h : LWS g w x nA cA lA y nM o kn km) (k : MM g w y nM km' w') : LWS g w' x nA cA lA y nM o kn km' := by
  obtain ⟨h1, h2, h3, ⟨a, b, h4⟩, h5⟩ := h
  obtain ⟨cL, pL, D1, D2, c1, c2, th, rf, md, n, f, q1, q2, a1, a2, -⟩ := h2
  refine ⟨h1.FM k.2 ⟨f, a2⟩ h3, k.1, h3, ⟨a, b, k.2.1 _ _ h4 (ne_of h4 a2 (fun e => by cases e)) rfl⟩, fun a z e => k.2.2 a z e (h5 a z e)⟩
theorem LWS.ext {w' : Hw} (h : LWS g w x nA cA lA y nM o kn km) (k : ext g w w') : LWS g w' x nA cA lA y nM o kn km := h.of (h.cc.ext k)
/-- what is handed on is written -/
theorem LWS.out {a b a' b' : Value} (h : LWS g w x nA cA lA y nM o kn km) (ho : w o = some (.inr (6, [a, b]))) : LWS g (upw w o (.inr (6, [a', b']))) x nA cA lA y nM o kn km := by
  obtain ⟨h1, h2, h3, -, h5⟩ := h
  obtain ⟨n, rf, md, f, gc, gl, r1, r2, r3, r4, r5, r6, r7⟩ := h1
  obtain ⟨cL, pL, D1, D2, c1, c2, th, rf', md', n', f', q1, q2, a1, a2, a3, a4, a5, a6, a7⟩ := h2
  have mv : ∀ {a : Nat} {z : Ob}, w a = some z → (∀ fs, z ≠ .inr (6, fs)) → upw w o (.inr (6, [a', b'])) a = some z := fun e n => by
    rw [upw_n (ne_of e ho (n _))]
    exact e
  have rr : ∀ b, isR w b → isR (upw w o (.inr (6, [a', b']))) b := fun b ⟨r0, r1, r2, r3, hb⟩ => ⟨r0, r1, r2, r3, mv hb (fun _ e => by cases e)⟩
  refine ⟨⟨n, rf, md, f, gc, gl, mv r1 (fun _ e => by cases e), mv r2 (fun _ e => by cases e), mv r3 (fun _ e => by cases e), mv r4 (fun _ e => by cases e), fun i b z => rr b (r5 i b z), fun i b z => rr b (r6 i b z), r7⟩, ⟨cL, pL, D1, D2, c1, c2, th, rf', md', n', f', q1, q2, mv a1 (fun _ e => by cases e), mv a2 (fun _ e => by cases e), a3.up ho (fun _ e => by cases e) (fun _ e => by cases e), fun i b z => isRow_up (a4 i b z) ho (fun _ e => by cases e), a5.up ho (fun _ e => by cases e) (fun _ e => by cases e), fun i b z => isRow_up (a6 i b z) ho (fun _ e => by cases e), a7⟩, h3, ⟨a', b', upw_s _ _ _⟩, fun a z e => ?_⟩
  rw [upw_n]
  · exact h5 a z e
  · rintro rfl
    rw [h5 _ _ e] at ho
    cases ho
/-- what the old cells and numbers hold -/
def RG (g : RO) : Prop := SG g ∧ ((∃ e : Nat, g.1 0 = .ref e ∧ g.2 e = some (.inl (5, 0, qc fun _ => none))) ∧ ∃ mi : Nat, g.1 10 = .ref mi) ∧ ((∃ (a : Nat) (f : Nat → Int32), g.1 2 = .ref a ∧ g.2 a = some (.inl (2, 100, .inl f))) ∧ ∃ (a : Nat) (f : Nat → Int32), g.1 3 = .ref a ∧ g.2 a = some (.inl (2, 100, .inl f))) ∧ (∃ s, g.1 20 = .ref s) ∧ (∃ s, g.1 22 = .ref s) ∧ (∃ s, g.1 21 = .ref s ∧ (∃ (v M : Nat) (f : Nat → Int32) (h z : Value), g.2 s = some (.inr (0, [.ref v, .int 0, h, z])) ∧ g.2 v = some (.inl (2, M, .inl f)) ∧ bOK M f ∧ M ≤ 8) ∧ STB g s 0) ∧ ∃ s, g.1 23 = .ref s ∧ (∃ (v M : Nat) (f : Nat → Int32) (h z : Value), g.2 s = some (.inr (0, [.ref v, .int 0, h, z])) ∧ g.2 v = some (.inl (2, M, .inl f)) ∧ bOK M f ∧ M ≤ 8) ∧ STB g s 1
theorem RG.eg (h : RG g) (k : ∀ (a : Nat) (z : Ob), g.2 a = some z → w a = none) : EG g w := ⟨h.2.1.1.imp fun _ z => ⟨z.1, z.2, k _ _ z.2⟩, h.2.1.2⟩
theorem RG.dg (h : RG g) (k : ∀ (a : Nat) (z : Ob), g.2 a = some z → w a = none) : DG g w := ⟨h.1.1, h.2.2.1.1.imp fun _ z => z.imp fun _ z => ⟨z.1, z.2, k _ _ z.2⟩, h.2.2.1.2.imp fun _ z => z.imp fun _ z => ⟨z.1, z.2, k _ _ z.2⟩⟩
theorem RG.tx (h : RG g) (k : ∀ (a : Nat) (z : Ob), g.2 a = some z → w a = none) : TXT g w := by
  obtain ⟨-, -, -, -, h22, ⟨s, e1, ⟨v, M, f, h, z, q1, q2, q3, q4⟩, e3⟩, s', e1', ⟨v', M', f', h', z', q1', q2', q3', q4'⟩, e3'⟩ := h
  exact ⟨⟨s, e1, ⟨v, M, f, h, z, q1, k _ _ q1, q2, k _ _ q2, q3, q4⟩, e3⟩, h22, s', e1', ⟨v', M', f', h', z', q1', k _ _ q1', q2', k _ _ q2', q3', q4'⟩, e3'⟩
theorem RG.sg (h : RG g) : SG g := h.1
theorem RG.r20 (h : RG g) : ∃ s, g.1 20 = .ref s := h.2.2.2.1
theorem LWS.ro (h : LWS g w x nA cA lA y nM o kn km) : ∀ (a : Nat) (z : Ob), g.2 a = some z → w a = none := h.2.2.2.2
end
end
/-! 71.fn0.lean.txt -/
section
section
variable {g : RO} {Q : Ot → Hw → Prop} {w0 w : Hw} {x nA cA lA : Nat} {kn : Int32}
/-- guards: the goal's head -/
theorem isQ {Q : Ot → Hw → Prop} {o : Ot} {w : Hw} (h : Q o w) : Q o w := h
theorem isWP {M : MT} {Q : Ot → Hw → Prop} {pc k n : Nat} {L : List (Option Value)} {st : List Value} {w : Hw} (h : WP M Q (pc, L, st, w, k, n)) : WP M Q (pc, L, st, w, k, n) := h
abbrev R4 : Type := Int64 × Int64 × Int64 × Int64
theorem i10 : ((1 : Int32) = 0) = False := eq_false (by decide)
theorem i00 : ((0 : Int32) = 0) = True := eq_true rfl
theorem lgp {x y : Int64} : (0 < lg_cmp x y) = (y.toInt < x.toInt) := by
  unfold lg_cmp
  simp only [gt_iff_lt, Int64.lt_iff_toInt_lt, ← Int64.toInt_inj]
  refine propext ?_
  repeat' split
  all_goals (first | (constructor <;> intro h <;> first | assumption | (exfalso; omega) | (exfalso; revert h; decide) | decide))
theorem lgn {x y : Int64} : (lg_cmp x y < 0) = (x.toInt < y.toInt) := by
  unfold lg_cmp
  simp only [gt_iff_lt, Int64.lt_iff_toInt_lt, ← Int64.toInt_inj]
  refine propext ?_
  repeat' split
  all_goals (first | (constructor <;> intro h <;> first | assumption | omega | (exfalso; omega) | (exfalso; revert h; decide) | decide))
theorem lgz {x y : Int64} : (lg_cmp x y = 0) = (x.toInt = y.toInt) := by
  unfold lg_cmp
  simp only [gt_iff_lt, Int64.lt_iff_toInt_lt, ← Int64.toInt_inj]
  refine propext ?_
  repeat' split
  all_goals (first | (constructor <;> intro h <;> first | assumption | omega | (exfalso; omega) | (exfalso; revert h; decide) | decide))
def rAt (w : Hw) (b : Nat) (r : R4) : Prop := w b = some (.inr (4, [.long r.1, .long r.2.1, .long r.2.2.1, .long r.2.2.2]))
theorem rAt.ext {w' : Hw} {b : Nat} {r : R4} (h : rAt w b r) (k : ext g w w') : rAt w' b r := k.1 _ _ h
theorem rAt.isR {b : Nat} {r : R4} (h : rAt w b r) : isR w b := ⟨_, _, _, _, h⟩
theorem go_F {b : Nat} {r : R4} {K : List Value → Prop} (h : rAt w b r) (k : K [.long r.1, .long r.2.1, .long r.2.2.1, .long r.2.2.2]) : go (rd g w b) 4 K := by
  rw [rd_e h, go_s]
  exact k
/-- the four ends are in order -/
abbrev oP (a b c d : Int64) : Prop := a.toInt ≤ b.toInt ∧ c.toInt ≤ d.toInt ∧ a.toInt ≤ c.toInt ∧ b.toInt ≤ d.toInt
abbrev rOk (r : R4) : Prop := oP r.1 r.2.1 r.2.2.1 r.2.2.2
abbrev hP (r : R4) (v : Int64) : Prop := r.1.toInt ≤ v.toInt ∧ v.toInt ≤ r.2.2.2.toInt
abbrev sP (r : R4) : Prop := -2147483648 ≤ r.1.toInt ∧ r.2.2.2.toInt ≤ 2147483647
abbrev fP (r : R4) : Prop := r.1.toInt = r.2.1.toInt ∧ r.2.2.1.toInt = r.2.2.2.toInt
abbrev mP (r q : R4) : Prop := r.1.toInt = q.1.toInt ∧ r.2.1.toInt = q.2.1.toInt ∧ r.2.2.1.toInt = q.2.2.1.toInt ∧ r.2.2.2.toInt = q.2.2.2.toInt
def hV (r : R4) : Int64 := ((r.1 * 31 + r.2.1) * 31 + r.2.2.1) * 31 + r.2.2.2
def eV (r : R4) (a : Int32) : Int64 := if a = 0 then r.1 else if a = 1 then r.2.1 else if a = 2 then r.2.2.1 else r.2.2.2
theorem lmi : (-2147483648 : Int64).toInt = -2147483648 := by decide
theorem lmx : (2147483647 : Int64).toInt = 2147483647 := by decide
set_option maxHeartbeats 4000000 in
theorem fX0_isInOrder {a0 a1 a2 a3 : Int64}  (hT : oP a0 a1 a2 a3 → Q (.inl (some (.int 1))) w) (hF : ¬ (oP a0 a1 a2 a3) → Q (.inl (some (.int 0))) w) : WP (MX0_isInOrder g) Q (0, [some (.long a0), none, some (.long a1), none, some (.long a2), none, some (.long a3), none], [], w, 0, 0) := by
  simp only [eX0_isInOrder_0, eX0_isInOrder_6, eX0_isInOrder_14, eX0_isInOrder_21, eX0_isInOrder_28, eX0_isInOrder_32, eX0_isInOrder_33, lgp, nb_0, nb_1, true_and]
  split
  with_reducible refine And.intro ?_ ?_
  omega
  with_reducible refine And.intro ?_ ?_
  omega
  with_reducible exact hF (by omega)
  split
  with_reducible refine And.intro ?_ ?_
  omega
  with_reducible refine And.intro ?_ ?_
  omega
  with_reducible exact hF (by omega)
  split
  with_reducible refine And.intro ?_ ?_
  omega
  with_reducible refine And.intro ?_ ?_
  omega
  with_reducible exact hF (by omega)
  split
  with_reducible refine And.intro ?_ ?_
  omega
  with_reducible refine And.intro ?_ ?_
  omega
  with_reducible exact hF (by omega)
  with_reducible refine And.intro ?_ ?_
  omega
  with_reducible refine And.intro ?_ ?_
  omega
  with_reducible exact hT (by omega)
set_option maxHeartbeats 4000000 in
theorem fX0_holds {p : Nat} {r : R4} {a0 : Int64} (hp : rAt w p r) (hT : hP r a0 → Q (.inl (some (.int 1))) w) (hF : ¬ (hP r a0) → Q (.inl (some (.int 0))) w) : WP (MX0_holds g) Q (0, [some (.ref p), some (.long a0), none], [], w, 0, 0) := by
  simp only [eX0_holds_0, eX0_holds_4]
  with_reducible refine go_F (by assumption) ?_
  simp only [eX0_holds_5, eX0_holds_9, eX0_holds_22, eX0_holds_23, lgp, g0, ex1, nb_0, true_and]
  split
  with_reducible refine And.intro ?_ ?_
  omega
  with_reducible refine And.intro ?_ ?_
  omega
  with_reducible exact hF (by omega)
  with_reducible refine go_F (by assumption) ?_
  simp only [eX0_holds_14, eX0_holds_18, eX0_holds_22, eX0_holds_23, lgp, g0, gS, ex1, nb_0, nb_1, true_and]
  split
  with_reducible refine And.intro ?_ ?_
  omega
  with_reducible refine And.intro ?_ ?_
  omega
  with_reducible exact hF (by omega)
  with_reducible refine And.intro ?_ ?_
  omega
  with_reducible refine And.intro ?_ ?_
  omega
  with_reducible exact hT (by omega)
set_option maxHeartbeats 4000000 in
theorem fX0_fitsSmall {p : Nat} {r : R4} (hp : rAt w p r) (hT : sP r → Q (.inl (some (.int 1))) w) (hF : ¬ (sP r) → Q (.inl (some (.int 0))) w) : WP (MX0_fitsSmall g) Q (0, [some (.ref p)], [], w, 0, 0) := by
  simp only [eX0_fitsSmall_0, eX0_fitsSmall_4]
  with_reducible refine go_F (by assumption) ?_
  simp only [eX0_fitsSmall_7, eX0_fitsSmall_11, eX0_fitsSmall_15, eX0_fitsSmall_26, eX0_fitsSmall_27, lgn, lmi, g0, ex1, nb_0, true_and]
  split
  with_reducible refine And.intro ?_ ?_
  omega
  with_reducible refine And.intro ?_ ?_
  omega
  with_reducible exact hF (by omega)
  with_reducible refine go_F (by assumption) ?_
  simp only [eX0_fitsSmall_18, eX0_fitsSmall_22, eX0_fitsSmall_26, eX0_fitsSmall_27, lgp, lmx, g0, gS, ex1, nb_0, nb_1, true_and]
  split
  with_reducible refine And.intro ?_ ?_
  omega
  with_reducible refine And.intro ?_ ?_
  omega
  with_reducible exact hF (by omega)
  with_reducible refine And.intro ?_ ?_
  omega
  with_reducible refine And.intro ?_ ?_
  omega
  with_reducible exact hT (by omega)
set_option maxHeartbeats 4000000 in
theorem fX0_holdsAsSmall {p : Nat} {r : R4} {a0 : Int64} (hp : rAt w p r) (hT : (sP r ∧ hP r a0) → Q (.inl (some (.int 1))) w) (hF : ¬ (sP r ∧ hP r a0) → Q (.inl (some (.int 0))) w) : WP (MX0_holdsAsSmall g) Q (0, [some (.ref p), some (.long a0), none], [], w, 0, 0) := by
  simp only [eX0_holdsAsSmall_0, wt_nil, Nat.add_zero]
  with_reducible refine And.intro ?_ ?_
  with_reducible exact go_F (by assumption) trivial
  with_reducible refine And.intro ?_ ?_
  omega
  with_reducible refine And.intro ?_ ?_
  omega
  with_reducible refine And.intro ?_ ?_
  omega
  with_reducible refine fX0_fitsSmall (by assumption) (fun _ => ?_) (fun _ => ?_)
  simp only [eX0_holdsAsSmall_4, eX0_holdsAsSmall_7, eX0_holdsAsSmall_19, eX0_holdsAsSmall_20, i10, if_false, kx_l, wt_nil, tl_s, nb_0, true_and, Nat.add_zero]
  with_reducible refine And.intro ?_ ?_
  with_reducible exact go_F (by assumption) trivial
  with_reducible refine And.intro ?_ ?_
  omega
  with_reducible refine And.intro ?_ ?_
  omega
  with_reducible refine And.intro ?_ ?_
  omega
  with_reducible refine fX0_holds (by assumption) (fun _ => ?_) (fun _ => ?_)
  simp only [eX0_holdsAsSmall_12, eX0_holdsAsSmall_15, eX0_holdsAsSmall_19, eX0_holdsAsSmall_20, i10, if_false, kx_l, tl_s, nb_0, nb_1, true_and]
  with_reducible refine And.intro ?_ ?_
  omega
  with_reducible refine And.intro ?_ ?_
  omega
  with_reducible exact hT (by omega)
  simp only [eX0_holdsAsSmall_12, eX0_holdsAsSmall_15, eX0_holdsAsSmall_19, eX0_holdsAsSmall_20, if_true, kx_l, tl_s, nb_0, nb_1, true_and]
  with_reducible refine And.intro ?_ ?_
  omega
  with_reducible refine And.intro ?_ ?_
  omega
  with_reducible exact hF (by omega)
  simp only [eX0_holdsAsSmall_4, eX0_holdsAsSmall_7, eX0_holdsAsSmall_19, eX0_holdsAsSmall_20, if_true, kx_l, wt_nil, tl_s, nb_0, true_and, Nat.add_zero]
  with_reducible refine And.intro ?_ ?_
  omega
  with_reducible refine And.intro ?_ ?_
  omega
  with_reducible exact hF (by omega)
set_option maxHeartbeats 4000000 in
theorem fX0_holdsAs {p : Nat} {r : R4} {a0 : Int64} {a1 : Int32} (hp : rAt w p r) (hT : ((a1 = 0 ∨ sP r) ∧ hP r a0) → Q (.inl (some (.int 1))) w) (hF : ¬ ((a1 = 0 ∨ sP r) ∧ hP r a0) → Q (.inl (some (.int 0))) w) : WP (MX0_holdsAs g) Q (0, [some (.ref p), some (.long a0), none, some (.int a1)], [], w, 0, 0) := by
  simp only [eX0_holdsAs_0, eX0_holdsAs_4, eX0_holdsAs_9, eX0_holdsAs_12, wt_nil, Nat.add_zero]
  split
  with_reducible refine And.intro ?_ ?_
  with_reducible exact go_F (by assumption) trivial
  with_reducible refine And.intro ?_ ?_
  omega
  with_reducible refine And.intro ?_ ?_
  omega
  with_reducible refine And.intro ?_ ?_
  omega
  with_reducible refine fX0_holds (by assumption) (fun _ => ?_) (fun _ => ?_)
  simp only [eX0_holdsAs_17, kx_l, tl_s, nb_1, true_and]
  with_reducible refine And.intro ?_ ?_
  omega
  with_reducible refine And.intro ?_ ?_
  omega
  with_reducible exact hT ⟨Or.inl (by assumption), by assumption⟩
  simp only [eX0_holdsAs_17, kx_l, tl_s, nb_0, true_and]
  with_reducible refine And.intro ?_ ?_
  omega
  with_reducible refine And.intro ?_ ?_
  omega
  ((with_reducible refine isQ (Q := Q) ?_); exact hF (fun h => (by assumption : ¬ hP r a0) h.2))
  with_reducible refine And.intro ?_ ?_
  with_reducible exact go_F (by assumption) trivial
  with_reducible refine And.intro ?_ ?_
  omega
  with_reducible refine And.intro ?_ ?_
  omega
  with_reducible refine And.intro ?_ ?_
  omega
  with_reducible refine fX0_holdsAsSmall (by assumption) (fun _ => ?_) (fun _ => ?_)
  simp only [eX0_holdsAs_17, kx_l, tl_s, nb_1, true_and]
  with_reducible refine And.intro ?_ ?_
  omega
  with_reducible refine And.intro ?_ ?_
  omega
  with_reducible exact hT ⟨Or.inr (And.left (by assumption : sP r ∧ hP r a0)), And.right (by assumption : sP r ∧ hP r a0)⟩
  simp only [eX0_holdsAs_17, kx_l, tl_s, nb_0, true_and]
  with_reducible refine And.intro ?_ ?_
  omega
  with_reducible refine And.intro ?_ ?_
  omega
  ((with_reducible refine isQ (Q := Q) ?_); exact hF (fun h => (by assumption : ¬ (sP r ∧ hP r a0)) ⟨h.1.resolve_left (by assumption), h.2⟩))
set_option maxHeartbeats 4000000 in
theorem fX0_isSettled {p : Nat} {r : R4} (hp : rAt w p r) (hT : fP r → Q (.inl (some (.int 1))) w) (hF : ¬ (fP r) → Q (.inl (some (.int 0))) w) : WP (MX0_isSettled g) Q (0, [some (.ref p)], [], w, 0, 0) := by
  simp only [eX0_isSettled_0, eX0_isSettled_4]
  with_reducible refine go_F (by assumption) ?_
  simp only [g0, ex1]
  with_reducible refine go_F (by assumption) ?_
  simp only [eX0_isSettled_8, eX0_isSettled_12, eX0_isSettled_16, eX0_isSettled_28, eX0_isSettled_29, lgz, g0, gS, ex1, nb_0, true_and]
  split
  with_reducible refine go_F (by assumption) ?_
  simp only [g0, gS, ex1]
  with_reducible refine go_F (by assumption) ?_
  simp only [eX0_isSettled_20, eX0_isSettled_24, eX0_isSettled_28, eX0_isSettled_29, lgz, g0, gS, ex1, nb_0, nb_1, true_and]
  split
  with_reducible refine And.intro ?_ ?_
  omega
  with_reducible refine And.intro ?_ ?_
  omega
  with_reducible exact hT (by omega)
  with_reducible refine And.intro ?_ ?_
  omega
  with_reducible refine And.intro ?_ ?_
  omega
  with_reducible exact hF (by omega)
  with_reducible refine And.intro ?_ ?_
  omega
  with_reducible refine And.intro ?_ ?_
  omega
  with_reducible exact hF (by omega)
set_option maxHeartbeats 4000000 in
theorem fX0_matchesR {p q : Nat} {r s : R4} (hp : rAt w p r) (hq : rAt w q s) (hT : mP r s → Q (.inl (some (.int 1))) w) (hF : ¬ (mP r s) → Q (.inl (some (.int 0))) w) : WP (MX0_matches g) Q (0, [some (.ref p), some (.ref q)], [], w, 0, 0) := by
  simp only [eX0_matches_0, eX0_matches_1R, eX0_matches_4, eX0_matches_8]
  with_reducible refine go_F (by assumption) ?_
  simp only [g0, ex1]
  with_reducible refine go_F (by assumption) ?_
  simp only [eX0_matches_12, eX0_matches_16, eX0_matches_20, eX0_matches_56, eX0_matches_57, lgz, g0, ex1, nb_0, true_and]
  split
  with_reducible refine go_F (by assumption) ?_
  simp only [g0, gS, ex1]
  with_reducible refine go_F (by assumption) ?_
  simp only [eX0_matches_24, eX0_matches_28, eX0_matches_32, eX0_matches_56, eX0_matches_57, lgz, g0, gS, ex1, nb_0, true_and]
  split
  with_reducible refine go_F (by assumption) ?_
  simp only [g0, gS, ex1]
  with_reducible refine go_F (by assumption) ?_
  simp only [eX0_matches_36, eX0_matches_40, eX0_matches_44, eX0_matches_56, eX0_matches_57, lgz, g0, gS, ex1, nb_0, true_and]
  split
  with_reducible refine go_F (by assumption) ?_
  simp only [g0, gS, ex1]
  with_reducible refine go_F (by assumption) ?_
  simp only [eX0_matches_48, eX0_matches_52, eX0_matches_56, eX0_matches_57, lgz, g0, gS, ex1, nb_0, nb_1, true_and]
  split
  with_reducible refine And.intro ?_ ?_
  omega
  with_reducible refine And.intro ?_ ?_
  omega
  with_reducible exact hT (by omega)
  with_reducible refine And.intro ?_ ?_
  omega
  with_reducible refine And.intro ?_ ?_
  omega
  with_reducible exact hF (by omega)
  with_reducible refine And.intro ?_ ?_
  omega
  with_reducible refine And.intro ?_ ?_
  omega
  with_reducible exact hF (by omega)
  with_reducible refine And.intro ?_ ?_
  omega
  with_reducible refine And.intro ?_ ?_
  omega
  with_reducible exact hF (by omega)
  with_reducible refine And.intro ?_ ?_
  omega
  with_reducible refine And.intro ?_ ?_
  omega
  with_reducible exact hF (by omega)
set_option maxHeartbeats 4000000 in
theorem fX0_ofFour {a0 a1 a2 a3 : Int64} (hN : ¬ oP a0 a1 a2 a3 → Q (.inl (some .null)) w) (hQ : oP a0 a1 a2 a3 → ∀ q, rd g w q = none → Q (.inl (some (.ref q))) (upw w q (.inr (4, [.long a0, .long a1, .long a2, .long a3])))) : WP (MX0_ofFour g) Q (0, [some (.long a0), none, some (.long a1), none, some (.long a2), none, some (.long a3), none], [], w, 0, 0) := by
  simp only [eX0_ofFour_0, wt_nil, Nat.add_zero]
  with_reducible refine And.intro ?_ ?_
  omega
  with_reducible refine And.intro ?_ ?_
  omega
  with_reducible refine And.intro ?_ ?_
  omega
  with_reducible refine fX0_isInOrder (fun _ => ?_) (fun _ => ?_)
  simp only [eX0_ofFour_9, eX0_ofFour_12, eX0_ofFour_15R, eX0_ofFour_25, eX0_ofFour_28, eX0_ofFour_29, eX0_ofFour_29N, eX0_init_0, eX0_init_4, eX0_init_9, eX0_init_14, eX0_init_20, eX0_init_26, i10, if_false, upw2q, kx_l, go_s, wt_nil, wt_ref, tl_s, tl_n, nf_l, true_and, List.set_cons_zero, List.set_cons_succ, List.length_cons, List.length_nil, upw_s, Nat.zero_add, Nat.add_zero]
  with_reducible refine And.intro ?_ ?_
  omega
  with_reducible refine And.intro ?_ ?_
  omega
  with_reducible intro _
  with_reducible intro _
  with_reducible refine And.intro ?_ ?_
  omega
  with_reducible refine And.intro ?_ ?_
  omega
  with_reducible refine And.intro ?_ ?_
  omega
  with_reducible refine And.intro ?_ ?_
  omega
  with_reducible refine And.intro ?_ ?_
  omega
  with_reducible refine And.intro ?_ ?_
  omega
  with_reducible refine And.intro ?_ ?_
  omega
  with_reducible refine And.intro ?_ ?_
  omega
  with_reducible refine And.intro ?_ ?_
  omega
  with_reducible refine And.intro ?_ ?_
  omega
  with_reducible refine And.intro ?_ ?_
  omega
  with_reducible refine And.intro ?_ ?_
  omega
  with_reducible exact hQ (by assumption) _ (by assumption)
  simp only [eX0_ofFour_9, eX0_ofFour_12, eX0_ofFour_15R, eX0_ofFour_25, eX0_ofFour_28, eX0_ofFour_29, eX0_ofFour_29N, eX0_init_0, eX0_init_4, eX0_init_9, eX0_init_14, eX0_init_20, eX0_init_26, if_true, upw2q, kx_l, go_s, wt_nil, wt_ref, tl_s, tl_n, nf_l, true_and, List.set_cons_zero, List.set_cons_succ, List.length_cons, List.length_nil, upw_s, Nat.zero_add, Nat.add_zero]
  with_reducible refine And.intro ?_ ?_
  omega
  with_reducible refine And.intro ?_ ?_
  omega
  with_reducible exact hN (by assumption)
set_option maxHeartbeats 4000000 in
theorem fX0_ofThree {a0 a1 a2 : Int64} (hN : ¬ oP a0 a0 a1 a2 → Q (.inl (some .null)) w) (hQ : oP a0 a0 a1 a2 → ∀ q, rd g w q = none → Q (.inl (some (.ref q))) (upw w q (.inr (4, [.long a0, .long a0, .long a1, .long a2])))) : WP (MX0_ofThree g) Q (0, [some (.long a0), none, some (.long a1), none, some (.long a2), none], [], w, 0, 0) := by
  simp only [eX0_ofThree_0, wt_nil, Nat.zero_add]
  with_reducible refine And.intro ?_ ?_
  omega
  with_reducible refine And.intro ?_ ?_
  omega
  with_reducible refine And.intro ?_ ?_
  omega
  with_reducible refine fX0_ofFour (fun _ => ?_) (fun _ _ _ => ?_)
  simp only [eX0_ofThree_8N, kx_l, tl_s]
  with_reducible refine And.intro ?_ ?_
  omega
  with_reducible refine And.intro ?_ ?_
  omega
  with_reducible exact hN (by assumption)
  simp only [eX0_ofThree_8, kx_l, tl_s]
  with_reducible refine And.intro ?_ ?_
  omega
  with_reducible refine And.intro ?_ ?_
  omega
  with_reducible exact hQ (by assumption) _ (by assumption)
set_option maxHeartbeats 4000000 in
theorem fX0_ofTwo {a0 a1 : Int64} (hN : ¬ oP a0 a0 a1 a1 → Q (.inl (some .null)) w) (hQ : oP a0 a0 a1 a1 → ∀ q, rd g w q = none → Q (.inl (some (.ref q))) (upw w q (.inr (4, [.long a0, .long a0, .long a1, .long a1])))) : WP (MX0_ofTwo g) Q (0, [some (.long a0), none, some (.long a1), none], [], w, 0, 0) := by
  simp only [eX0_ofTwo_0, wt_nil, Nat.zero_add]
  with_reducible refine And.intro ?_ ?_
  omega
  with_reducible refine And.intro ?_ ?_
  omega
  with_reducible refine And.intro ?_ ?_
  omega
  with_reducible refine fX0_ofFour (fun _ => ?_) (fun _ _ _ => ?_)
  simp only [eX0_ofTwo_7N, kx_l, tl_s]
  with_reducible refine And.intro ?_ ?_
  omega
  with_reducible refine And.intro ?_ ?_
  omega
  with_reducible exact hN (by assumption)
  simp only [eX0_ofTwo_7, kx_l, tl_s]
  with_reducible refine And.intro ?_ ?_
  omega
  with_reducible refine And.intro ?_ ?_
  omega
  with_reducible exact hQ (by assumption) _ (by assumption)
theorem eV_d {r : R4} {a : Int32} (h : a.toInt < 0 ∨ 2 < a.toInt) : eV r a = r.2.2.2 := by
  unfold eV
  rw [if_neg, if_neg, if_neg]
  all_goals
    rintro rfl
    revert h
    decide
set_option maxHeartbeats 4000000 in
theorem fX0_endAt {p : Nat} {r : R4} {a0 : Int32} (hp : rAt w p r) (hQ : Q (.inl (some (.long (eV r a0)))) w) : WP (MX0_endAt g) Q (0, [some (.ref p), some (.int a0)], [], w, 0, 0) := by
  rcases sw02 a0 with rfl | rfl | rfl | hsw
  · skip
    simp only [eX0_endAt_0, eX0_endAt_1_0, eX0_endAt_28]
    with_reducible refine go_F (by assumption) ?_
    simp only [eX0_endAt_32, g0, ex1]
    with_reducible refine And.intro ?_ ?_
    omega
    with_reducible refine And.intro ?_ ?_
    omega
    ((with_reducible refine isQ (Q := Q) ?_); exact hQ)
  · skip
    simp only [eX0_endAt_0, eX0_endAt_1_1, eX0_endAt_33]
    with_reducible refine go_F (by assumption) ?_
    simp only [eX0_endAt_37, g0, gS, ex1]
    with_reducible refine And.intro ?_ ?_
    omega
    with_reducible refine And.intro ?_ ?_
    omega
    ((with_reducible refine isQ (Q := Q) ?_); exact hQ)
  · skip
    simp only [eX0_endAt_0, eX0_endAt_1_2, eX0_endAt_38]
    with_reducible refine go_F (by assumption) ?_
    simp only [eX0_endAt_42, g0, gS, ex1]
    with_reducible refine And.intro ?_ ?_
    omega
    with_reducible refine And.intro ?_ ?_
    omega
    ((with_reducible refine isQ (Q := Q) ?_); exact hQ)
  · rw [eV_d hsw] at hQ
    simp only [eX0_endAt_0, eX0_endAt_43, eX0_endAt_1_d hsw]
    with_reducible refine go_F (by assumption) ?_
    simp only [eX0_endAt_47, g0, gS, ex1]
    with_reducible refine And.intro ?_ ?_
    omega
    with_reducible refine And.intro ?_ ?_
    omega
    with_reducible assumption
end
end
/-! 71.fn1.lean.txt -/
section
section
variable {g : RO} {Q : Ot → Hw → Prop} {w0 w : Hw} {x nA cA lA : Nat} {kn : Int32}
abbrev AS : Type := (Nat → Int64) × (Nat → Option R4) × Int32 × (Nat → R4) × Int32 × Int32
def cM (w : Hw) : Option Nat → Option R4 → Prop
  | none, none => True
  | some b, some r => rAt w b r
  | _, _ => False
theorem cM.s {b : Nat} {o : Option R4} (h : cM w (some b) o) : ∃ r, o = some r ∧ rAt w b r := by
  cases o with
  | none => exact (h : False).elim
  | some r => exact ⟨r, rfl, h⟩
theorem cM.n {o : Option R4} (h : cM w none o) : o = none := by
  cases o with
  | none => rfl
  | some r => exact (h : False).elim
theorem cM.mp {w' : Hw} {q : Option Nat} {o : Option R4} (h : cM w q o) (k : ∀ b r, rAt w b r → rAt w' b r) : cM w' q o := by
  cases q <;> cases o <;> first | exact h | exact k _ _ h
/-- the class's cells hold the state s -/
def RF (w : Hw) (x nA cA lA : Nat) (kn : Int32) (s : AS) : Prop := ∃ gc gl : Nat → Option Nat,
  (w x = some (.inr (5, [.ref nA, .ref cA, .ref lA, .int s.2.2.1, .int s.2.2.2.2.1, .int kn, .int s.2.2.2.2.2])) ∧ w nA = some (.inl (0, 8, .inr (.inl s.1))) ∧ w cA = some (.inl (4, 6, qc gc)) ∧ w lA = some (.inl (4, 12, qc gl)) ∧
  (∀ (i b : Nat), gc i = some b → isR w b) ∧ (∀ (i b : Nat), gl i = some b → isR w b) ∧ ¬ s.2.2.1 < 0 ∧ ¬ 12 < s.2.2.1) ∧
  (∀ i, i < 6 → cM w (gc i) (s.2.1 i)) ∧ ∀ i : Nat, (i : Int) < s.2.2.1.toInt → ∃ b, gl i = some b ∧ rAt w b (s.2.2.2.1 i)
/-- what is always so of a state: its ranges are in order -/
def sOk (s : AS) : Prop := (∀ i r, i < 6 → s.2.1 i = some r → rOk r) ∧ (∀ i : Nat, (i : Int) < s.2.2.1.toInt → rOk (s.2.2.2.1 i)) ∧ ¬ s.2.2.1 < 0 ∧ ¬ 12 < s.2.2.1
theorem RF.rc {s : AS} (h : RF w x nA cA lA kn s) : RC w x nA cA lA kn := by
  obtain ⟨gc, gl, ⟨h1, h2, h3, h4, h5, h6, h7, h8⟩, -⟩ := h
  exact ⟨_, _, _, _, gc, gl, h1, h2, h3, h4, h5, h6, h7, h8⟩
def CS (g : RO) (w0 : Hw) (x nA cA lA : Nat) (kn : Int32) (s : AS) (w : Hw) : Prop := RF w x nA cA lA kn s ∧ FC g nA w0 w
theorem CS.cc {s : AS} (h : CS g w0 x nA cA lA kn s w) : CC g w0 x nA cA lA kn w := ⟨h.1.rc, h.2⟩
theorem rAt_up2 {a b : Nat} {r : R4} {o1 o2 : Ob} (h : rAt w b r) (ha : w a = some o1) (ho : ∀ fs, o1 ≠ .inr (4, fs)) : rAt (upw w a o2) b r := by
  unfold rAt
  rw [upw_n]
  · exact h
  · rintro rfl
    rw [h] at ha
    cases ha
    exact ho _ rfl
/-- the class's cells, as they are read and written -/
theorem RF.opn (g : RO) {s : AS} (h : RF w x nA cA lA kn s) : ∃ gc gl : Nat → Option Nat, RO5 g w x nA cA lA s.2.2.1 s.2.2.2.2.1 kn s.2.2.2.2.2 s.1 gc gl ∧ (∀ i, i < 6 → cM w (gc i) (s.2.1 i)) ∧ ∀ i : Nat, (i : Int) < s.2.2.1.toInt → ∃ b, gl i = some b ∧ rAt w b (s.2.2.2.1 i) := by
  obtain ⟨gc, gl, ⟨h1, h2, h3, h4, h5, h6, h7, h8⟩, k1, k2⟩ := h
  have e : ∀ {a b : Nat} {o1 o2 : Ob}, w a = some o1 → w b = some o2 → o1 ≠ o2 → a ≠ b := fun {a b o1 o2} z1 z2 z3 z4 => by
    subst z4
    exact z3 (Option.some.inj (z1.symm.trans z2))
  exact ⟨gc, gl, ⟨h1, h2, h3, h4, h5, h6, h7, h8, rd_e h1, rd_e h2, rd_e h3, rd_e h4, ⟨e h1 h2 (by simp), e h1 h3 (by simp), e h1 h4 (by simp), e h2 h1 (by simp), e h2 h3 (by simp), e h2 h4 (by simp)⟩, ⟨e h3 h1 (by simp), e h3 h2 (by simp), e h3 h4 (by simp), e h4 h1 (by simp), e h4 h2 (by simp), e h4 h3 (by simp)⟩⟩, k1, k2⟩
theorem CS.ext {s : AS} {w' : Hw} (h : CS g w0 x nA cA lA kn s w) (k : ext g w w') : CS g w0 x nA cA lA kn s w' := by
  obtain ⟨⟨gc, gl, ⟨h1, h2, h3, h4, h5, h6, h7⟩, k1, k2⟩, hf⟩ := h
  exact ⟨⟨gc, gl, ⟨k.1 _ _ h1, k.1 _ _ h2, k.1 _ _ h3, k.1 _ _ h4, fun i b z => (h5 i b z).ext k, fun i b z => (h6 i b z).ext k, h7⟩, fun i hi => (k1 i hi).mp fun b r hb => hb.ext k, fun i hi => (k2 i hi).imp fun b z => ⟨z.1, z.2.ext k⟩⟩, hf.ext k⟩
abbrev sN (s : AS) (f : Nat → Int64) : AS := (f, s.2)
abbrev sC (s : AS) (f : Nat → Option R4) : AS := (s.1, f, s.2.2)
abbrev sP_ (s : AS) (n : Int32) (f : Nat → R4) : AS := (s.1, s.2.1, n, f, s.2.2.2.2)
abbrev sR_ (s : AS) (r : Int32) : AS := (s.1, s.2.1, s.2.2.1, s.2.2.2.1, r, s.2.2.2.2.2)
abbrev sM_ (s : AS) (m : Int32) : AS := (s.1, s.2.1, s.2.2.1, s.2.2.2.1, s.2.2.2.2.1, m)
theorem CS.num {s : AS} (h : CS g w0 x nA cA lA kn s w) (f' : Nat → Int64) : CS g w0 x nA cA lA kn (sN s f') (upw w nA (.inl (0, 8, .inr (.inl f')))) := by
  obtain ⟨gc, gl, ⟨h1, h2, h3, h4, h5, h6, h7, h8, -, -, -, -, ⟨d1, d2, d3, d4, d5, d6⟩, ⟨d7, d8, d9, d10, d11, d12⟩⟩, k1, k2⟩ := h.1.opn (fun _ => .null, fun _ => none)
  exact ⟨⟨gc, gl, ⟨by rw [upw_n d1]; exact h1, upw_s _ _ _, by rw [upw_n d8]; exact h3, by rw [upw_n d11]; exact h4, fun i b z => isR_up2 (h5 i b z) h2 (by simp), fun i b z => isR_up2 (h6 i b z) h2 (by simp), h7, h8⟩, fun i hi => (k1 i hi).mp fun b r hb => rAt_up2 hb h2 (by simp), fun i hi => (k2 i hi).imp fun b z => ⟨z.1, rAt_up2 z.2 h2 (by simp)⟩⟩, h.2.up h2 (Or.inl rfl)⟩
/-- a card gets what stands at q (or nothing) -/
theorem CS.card {s : AS} (h : CS g w0 x nA cA lA kn s w) (gc : Nat → Option Nat) (hc : w cA = some (.inl (4, 6, qc gc))) (j : Nat) (q : Option Nat) (o : Option R4) (hq : cM w q o) : CS g w0 x nA cA lA kn (sC s (va_up s.2.1 j o)) (upw w cA (.inl (4, 6, qc (va_up gc j q)))) := by
  obtain ⟨gc', gl, ⟨h1, h2, h3, h4, h5, h6, h7, h8, -, -, -, -, ⟨d1, d2, d3, d4, d5, d6⟩, ⟨d7, d8, d9, d10, d11, d12⟩⟩, k1, k2⟩ := h.1.opn (fun _ => .null, fun _ => none)
  rw [hc] at h3
  cases h3
  refine ⟨⟨_, gl, ⟨by rw [upw_n d2]; exact h1, by rw [upw_n d5]; exact h2, upw_s _ _ _, by rw [upw_n d12]; exact h4, fun i b z => isR_up2 ?_ hc (by simp), fun i b z => isR_up2 (h6 i b z) hc (by simp), h7, h8⟩, fun i hi => cM.mp ?_ (fun b r hb => rAt_up2 hb hc (by simp)), fun i hi => (k2 i hi).imp fun b z => ⟨z.1, rAt_up2 z.2 hc (by simp)⟩⟩, h.2.up hc (Or.inr rfl)⟩
  · unfold va_up at z
    split at z
    · subst z
      obtain ⟨r, -, hr⟩ := hq.s
      exact hr.isR
    · exact h5 i b z
  · show cM w (va_up gc j q i) (va_up s.2.1 j o i)
    unfold va_up
    split
    · exact hq
    · exact k1 i hi
theorem CS.obj {s : AS} (h : CS g w0 x nA cA lA kn s w) (rf' kn' md' : Int32) : CS g w0 x nA cA lA kn' (sM_ (sR_ s rf') md') (upw w x (.inr (5, [.ref nA, .ref cA, .ref lA, .int s.2.2.1, .int rf', .int kn', .int md']))) := by
  obtain ⟨gc, gl, ⟨h1, h2, h3, h4, h5, h6, h7, h8, -, -, -, -, ⟨d1, d2, d3, d4, d5, d6⟩, ⟨d7, d8, d9, d10, d11, d12⟩⟩, k1, k2⟩ := h.1.opn (fun _ => .null, fun _ => none)
  exact ⟨⟨gc, gl, ⟨upw_s _ _ _, by rw [upw_n d4]; exact h2, by rw [upw_n d7]; exact h3, by rw [upw_n d10]; exact h4, fun i b z => isR_up2 (h5 i b z) h1 (by simp), fun i b z => isR_up2 (h6 i b z) h1 (by simp), h7, h8⟩, fun i hi => (k1 i hi).mp fun b r hb => rAt_up2 hb h1 (by simp), fun i hi => (k2 i hi).imp fun b z => ⟨z.1, rAt_up2 z.2 h1 (by simp)⟩⟩, h.2.up h1 (Or.inr rfl)⟩
end
end
/-! 71.fn2.lean.txt -/
section
section
variable {g : RO} {Q : Ot → Hw → Prop} {w0 w : Hw} {x nA cA lA : Nat} {kn : Int32}
abbrev okN (a : Int32) : Prop := ¬ a < 0 ∧ a < 8
abbrev okC (a : Int32) : Prop := ¬ a < 0 ∧ a < 6
abbrev okW (a m : Int32) : Prop := ¬ a < 0 ∧ ¬ m < a
def hiV (a : Int64) : Int32 := (a >>> ((32 : Int32).toInt64 &&& 63)).toInt32
def loV (a : Int64) : Int32 := a.toInt32
def hfV (a : Int64) (h : Int32) : Int32 := if h = 0 then loV a else hiV a
def stV (h l : Int32) : Int64 := (h.toInt64 <<< ((32 : Int32).toInt64 &&& 63)) ||| (l.toInt64 &&& 4294967295)
def frV (a : Int32) : Int64 := if a = 0 then -9223372036854775808 else if a = 1 then 9223372036854775807 else if a = 2 then -2147483648 else 2147483647
theorem frV_d {a : Int32} (h : a.toInt < 0 ∨ 2 < a.toInt) : frV a = 2147483647 := by
  unfold frV
  rw [if_neg, if_neg, if_neg]
  all_goals
    rintro rfl
    revert h
    decide
theorem hfV_n {a : Int64} {h : Int32} (k : ¬ h = 0) : hfV a h = hiV a := if_neg k
set_option maxHeartbeats 4000000 in
theorem fX1_needNumber {a0 : Int32} (hX : ¬ okN a0 → (Q (.inr "java/lang/IndexOutOfBoundsException") w)) (hQ : okN a0 → Q (.inl none) w) : WP (MX1_needNumber g) Q (0, [some (.int a0)], [], w, 0, 0) := by
  simp only [eX1_needNumber_0, eX1_needNumber_4, eX1_needNumber_10, eX1_needNumber_20, wt_nil, Nat.zero_add]
  split
  with_reducible refine And.intro ?_ ?_
  omega
  with_reducible refine And.intro ?_ ?_
  omega
  with_reducible refine And.intro ?_ ?_
  omega
  with_reducible refine And.intro ?_ ?_
  omega
  with_reducible exact hX (fun h => absurd (by assumption) h.1)
  split
  with_reducible refine And.intro ?_ ?_
  omega
  with_reducible refine And.intro ?_ ?_
  omega
  with_reducible exact hQ ⟨by assumption, by assumption⟩
  with_reducible refine And.intro ?_ ?_
  omega
  with_reducible refine And.intro ?_ ?_
  omega
  with_reducible refine And.intro ?_ ?_
  omega
  with_reducible refine And.intro ?_ ?_
  omega
  with_reducible exact hX (fun h => absurd h.2 (by assumption))
set_option maxHeartbeats 4000000 in
theorem fX1_needCard {a0 : Int32} (hX : ¬ okC a0 → (Q (.inr "java/lang/IndexOutOfBoundsException") w)) (hQ : okC a0 → Q (.inl none) w) : WP (MX1_needCard g) Q (0, [some (.int a0)], [], w, 0, 0) := by
  simp only [eX1_needCard_0, eX1_needCard_4, eX1_needCard_10, eX1_needCard_20, wt_nil, Nat.zero_add]
  split
  with_reducible refine And.intro ?_ ?_
  omega
  with_reducible refine And.intro ?_ ?_
  omega
  with_reducible refine And.intro ?_ ?_
  omega
  with_reducible refine And.intro ?_ ?_
  omega
  with_reducible exact hX (fun h => absurd (by assumption) h.1)
  split
  with_reducible refine And.intro ?_ ?_
  omega
  with_reducible refine And.intro ?_ ?_
  omega
  with_reducible exact hQ ⟨by assumption, by assumption⟩
  with_reducible refine And.intro ?_ ?_
  omega
  with_reducible refine And.intro ?_ ?_
  omega
  with_reducible refine And.intro ?_ ?_
  omega
  with_reducible refine And.intro ?_ ?_
  omega
  with_reducible exact hX (fun h => absurd h.2 (by assumption))
set_option maxHeartbeats 4000000 in
theorem fX1_needChoice {a0 a1 : Int32} (hX : ¬ okW a0 a1 → (Q (.inr "java/lang/IllegalArgumentException") w)) (hQ : okW a0 a1 → Q (.inl none) w) : WP (MX1_needChoice g) Q (0, [some (.int a0), some (.int a1)], [], w, 0, 0) := by
  simp only [eX1_needChoice_0, eX1_needChoice_4, eX1_needChoice_9, eX1_needChoice_19, ite_le, wt_nil, Nat.zero_add]
  split
  with_reducible refine And.intro ?_ ?_
  omega
  with_reducible refine And.intro ?_ ?_
  omega
  with_reducible refine And.intro ?_ ?_
  omega
  with_reducible refine And.intro ?_ ?_
  omega
  with_reducible exact hX (fun h => absurd (by assumption) h.1)
  split
  with_reducible refine And.intro ?_ ?_
  omega
  with_reducible refine And.intro ?_ ?_
  omega
  with_reducible refine And.intro ?_ ?_
  omega
  with_reducible refine And.intro ?_ ?_
  omega
  with_reducible exact hX (fun h => absurd (by assumption) h.2)
  with_reducible refine And.intro ?_ ?_
  omega
  with_reducible refine And.intro ?_ ?_
  omega
  with_reducible exact hQ ⟨by assumption, by assumption⟩
set_option maxHeartbeats 4000000 in
theorem fX1_highOf {a0 : Int64}  (hQ : Q (.inl (some (.int (hiV a0)))) w) : WP (MX1_highOf g) Q (0, [some (.long a0), none], [], w, 0, 0) := by
  simp only [eX1_highOf_0]
  with_reducible refine And.intro ?_ ?_
  omega
  with_reducible refine And.intro ?_ ?_
  omega
  ((with_reducible refine isQ (Q := Q) ?_); exact hQ)
set_option maxHeartbeats 4000000 in
theorem fX1_lowOf {a0 : Int64}  (hQ : Q (.inl (some (.int (loV a0)))) w) : WP (MX1_lowOf g) Q (0, [some (.long a0), none], [], w, 0, 0) := by
  simp only [eX1_lowOf_0]
  with_reducible refine And.intro ?_ ?_
  omega
  with_reducible refine And.intro ?_ ?_
  omega
  ((with_reducible refine isQ (Q := Q) ?_); exact hQ)
set_option maxHeartbeats 4000000 in
theorem fX1_halfOf {a0 : Int64} {a1 : Int32}  (hQ : Q (.inl (some (.int (hfV a0 a1)))) w) : WP (MX1_halfOf g) Q (0, [some (.long a0), none, some (.int a1)], [], w, 0, 0) := by
  simp only [eX1_halfOf_0, eX1_halfOf_4, eX1_halfOf_8, eX1_halfOf_11, wt_nil, Nat.add_zero]
  split
  with_reducible refine And.intro ?_ ?_
  omega
  with_reducible refine And.intro ?_ ?_
  omega
  with_reducible refine And.intro ?_ ?_
  omega
  with_reducible refine fX1_lowOf ?_
  simp only [eX1_halfOf_15, kx_l, tl_s]
  with_reducible refine And.intro ?_ ?_
  omega
  with_reducible refine And.intro ?_ ?_
  omega
  (subst_vars; exact hQ)
  with_reducible refine And.intro ?_ ?_
  omega
  with_reducible refine And.intro ?_ ?_
  omega
  with_reducible refine And.intro ?_ ?_
  omega
  with_reducible refine fX1_highOf ?_
  simp only [eX1_halfOf_15, kx_l, tl_s]
  with_reducible refine And.intro ?_ ?_
  omega
  with_reducible refine And.intro ?_ ?_
  omega
  (rw [hfV_n (by assumption)] at hQ; exact hQ)
set_option maxHeartbeats 4000000 in
theorem fX1_isSmallNumber {a0 : Int64}  (hT : (-2147483648 ≤ a0.toInt ∧ a0.toInt ≤ 2147483647) → Q (.inl (some (.int 1))) w) (hF : ¬ (-2147483648 ≤ a0.toInt ∧ a0.toInt ≤ 2147483647) → Q (.inl (some (.int 0))) w) : WP (MX1_isSmallNumber g) Q (0, [some (.long a0), none], [], w, 0, 0) := by
  simp only [eX1_isSmallNumber_0, eX1_isSmallNumber_8, eX1_isSmallNumber_16, eX1_isSmallNumber_20, eX1_isSmallNumber_21, lgp, lgn, lmi, lmx, nb_0, nb_1, true_and]
  split
  with_reducible refine And.intro ?_ ?_
  omega
  with_reducible refine And.intro ?_ ?_
  omega
  with_reducible exact hF (by omega)
  split
  with_reducible refine And.intro ?_ ?_
  omega
  with_reducible refine And.intro ?_ ?_
  omega
  with_reducible exact hF (by omega)
  with_reducible refine And.intro ?_ ?_
  omega
  with_reducible refine And.intro ?_ ?_
  omega
  with_reducible exact hT (by omega)
set_option maxHeartbeats 4000000 in
theorem fX1_asNumber {a0 : Int32} (h0 : a0 = 0 ∨ a0 = 1) (hQ : Q (.inl (some (.int a0))) w) : WP (MX1_asNumber g) Q (0, [some (.int a0)], [], w, 0, 0) := by
  rcases h0 with rfl | rfl
  · skip
    simp only [eX1_asNumber_0, eX1_asNumber_4, eX1_asNumber_8, eX1_asNumber_9, if_true]
    with_reducible refine And.intro ?_ ?_
    omega
    with_reducible refine And.intro ?_ ?_
    omega
    with_reducible assumption
  · skip
    simp only [eX1_asNumber_0, eX1_asNumber_4, eX1_asNumber_8, eX1_asNumber_9, i10, if_false]
    with_reducible refine And.intro ?_ ?_
    omega
    with_reducible refine And.intro ?_ ?_
    omega
    with_reducible assumption
set_option maxHeartbeats 4000000 in
theorem fX1_farNumber {a0 : Int32} (hQ : Q (.inl (some (.long (frV a0)))) w) : WP (MX1_farNumber g) Q (0, [some (.int a0)], [], w, 0, 0) := by
  rcases sw02 a0 with rfl | rfl | rfl | hsw
  · skip
    simp only [eX1_farNumber_0, eX1_farNumber_1_0, eX1_farNumber_28]
    with_reducible refine And.intro ?_ ?_
    omega
    with_reducible refine And.intro ?_ ?_
    omega
    ((with_reducible refine isQ (Q := Q) ?_); exact hQ)
  · skip
    simp only [eX1_farNumber_0, eX1_farNumber_1_1, eX1_farNumber_32]
    with_reducible refine And.intro ?_ ?_
    omega
    with_reducible refine And.intro ?_ ?_
    omega
    ((with_reducible refine isQ (Q := Q) ?_); exact hQ)
  · skip
    simp only [eX1_farNumber_0, eX1_farNumber_1_2, eX1_farNumber_36]
    with_reducible refine And.intro ?_ ?_
    omega
    with_reducible refine And.intro ?_ ?_
    omega
    ((with_reducible refine isQ (Q := Q) ?_); exact hQ)
  · rw [frV_d hsw] at hQ
    simp only [eX1_farNumber_0, eX1_farNumber_40, eX1_farNumber_1_d hsw]
    with_reducible refine And.intro ?_ ?_
    omega
    with_reducible refine And.intro ?_ ?_
    omega
    with_reducible assumption
set_option maxHeartbeats 4000000 in
theorem fX1_putNumber {s : AS} {a0 : Int32} {a1 : Int64} (hC : CS g w0 x nA cA lA kn s w) (k0 : ¬ a0 < 0) (k1 : a0 < 8) (hQ : ∀ w', CS g w0 x nA cA lA kn (sN s (vp_updL s.1 a0.toNatClampNeg a1)) w' → Q (.inl (some (.int (loV a1)))) w') : WP (MX1_putNumber g) Q (0, [some (.ref x), some (.int a0), some (.long a1), none], [], w, 0, 0) := by
  obtain ⟨gc, gl, ⟨hx, hn, hc, hl, hgc, hgl, hn0, hn1, rx, rn, rc, rl, ⟨d1, d2, d3, d4, d5, d6⟩, ⟨d7, d8, d9, d10, d11, d12⟩⟩, hcd, hpl⟩ := hC.1.opn g
  simp only [eX1_putNumber_0, eX1_putNumber_4, eX1_putNumber_7, rx, hn, go_s, gl_s, wt_nil, g0, ex1, Nat.add_zero]
  with_reducible refine And.intro ?_ ?_
  with_reducible exact vpi8 (by assumption) (by assumption)
  with_reducible refine And.intro ?_ ?_
  omega
  with_reducible refine And.intro ?_ ?_
  omega
  with_reducible refine And.intro ?_ ?_
  omega
  with_reducible refine fX1_lowOf ?_
  simp only [eX1_putNumber_11, kx_l, tl_s]
  with_reducible refine And.intro ?_ ?_
  omega
  with_reducible refine And.intro ?_ ?_
  omega
  with_reducible exact hQ _ (hC.num _)
set_option maxHeartbeats 4000000 in
theorem fX1_set {s : AS} {a0 a1 a2 : Int32} (hC : CS g w0 x nA cA lA kn s w) (hX : ¬ okN a0 → (Q (.inr "java/lang/IndexOutOfBoundsException") w)) (hQ : okN a0 → ∀ w', CS g w0 x nA cA lA kn (sN s (vp_updL s.1 a0.toNatClampNeg (stV a1 a2))) w' → Q (.inl (some (.int (hiV (s.1 a0.toNatClampNeg))))) w') : WP (MX1_set g) Q (0, [some (.ref x), some (.int a0), some (.int a1), some (.int a2), none], [], w, 0, 0) := by
  obtain ⟨gc, gl, ⟨hx, hn, hc, hl, hgc, hgl, hn0, hn1, rx, rn, rc, rl, ⟨d1, d2, d3, d4, d5, d6⟩, ⟨d7, d8, d9, d10, d11, d12⟩⟩, hcd, hpl⟩ := hC.1.opn g
  simp only [eX1_set_0, eX1_set_4, eX1_set_8, wt_nil, Nat.zero_add]
  with_reducible refine And.intro ?_ ?_
  omega
  with_reducible refine And.intro ?_ ?_
  omega
  with_reducible refine And.intro ?_ ?_
  omega
  with_reducible refine fX1_needNumber (fun _ => ?_) (fun hok => ?_)
  simp only [kx_r]
  with_reducible exact hX (by assumption)
  simp only [eX1_set_9, eX1_set_10, rx, rn, kx_l, go_s, gl_s, wt_nil, tl_n, g0, ex1, Nat.add_zero]
  with_reducible refine And.intro ?_ ?_
  with_reducible exact vpi8 hok.1 hok.2
  with_reducible refine And.intro ?_ ?_
  omega
  with_reducible refine And.intro ?_ ?_
  omega
  with_reducible refine And.intro ?_ ?_
  omega
  with_reducible refine fX1_highOf ?_
  simp only [eX1_set_13, eX1_set_19, eX1_set_33, rx, hn, kx_l, go_s, gl_s, nl_int, tl_s, g0, ex1]
  with_reducible refine And.intro ?_ ?_
  with_reducible exact vpi8 hok.1 hok.2
  with_reducible refine And.intro ?_ ?_
  omega
  with_reducible refine And.intro ?_ ?_
  omega
  with_reducible exact hQ hok _ (hC.num _)
set_option maxHeartbeats 4000000 in
theorem fX1_setSmall {s : AS} {a0 a1 : Int32} (hC : CS g w0 x nA cA lA kn s w) (hX : ¬ okN a0 → (Q (.inr "java/lang/IndexOutOfBoundsException") w)) (hQ : okN a0 → ∀ w', CS g w0 x nA cA lA kn (sN s (vp_updL s.1 a0.toNatClampNeg a1.toInt64)) w' → Q (.inl (some (.int (loV (s.1 a0.toNatClampNeg))))) w') : WP (MX1_setSmall g) Q (0, [some (.ref x), some (.int a0), some (.int a1), none], [], w, 0, 0) := by
  obtain ⟨gc, gl, ⟨hx, hn, hc, hl, hgc, hgl, hn0, hn1, rx, rn, rc, rl, ⟨d1, d2, d3, d4, d5, d6⟩, ⟨d7, d8, d9, d10, d11, d12⟩⟩, hcd, hpl⟩ := hC.1.opn g
  simp only [eX1_setSmall_0, eX1_setSmall_4, eX1_setSmall_8, wt_nil, Nat.zero_add]
  with_reducible refine And.intro ?_ ?_
  omega
  with_reducible refine And.intro ?_ ?_
  omega
  with_reducible refine And.intro ?_ ?_
  omega
  with_reducible refine fX1_needNumber (fun _ => ?_) (fun hok => ?_)
  simp only [kx_r]
  with_reducible exact hX (by assumption)
  simp only [eX1_setSmall_9, eX1_setSmall_10, rx, rn, kx_l, go_s, gl_s, wt_nil, tl_n, g0, ex1, Nat.add_zero]
  with_reducible refine And.intro ?_ ?_
  with_reducible exact vpi8 hok.1 hok.2
  with_reducible refine And.intro ?_ ?_
  omega
  with_reducible refine And.intro ?_ ?_
  omega
  with_reducible refine And.intro ?_ ?_
  omega
  with_reducible refine fX1_lowOf ?_
  simp only [eX1_setSmall_13, eX1_setSmall_18, eX1_setSmall_22, rx, hn, kx_l, go_s, gl_s, nl_int, tl_s, g0, ex1]
  with_reducible refine And.intro ?_ ?_
  with_reducible exact vpi8 hok.1 hok.2
  with_reducible refine And.intro ?_ ?_
  omega
  with_reducible refine And.intro ?_ ?_
  omega
  with_reducible exact hQ hok _ (hC.num _)
end
end
/-! 71.fn3.lean.txt -/
section
section
variable {g : RO} {Q : Ot → Hw → Prop} {w0 w : Hw} {x nA cA lA : Nat} {kn : Int32}
set_option maxHeartbeats 4000000 in
theorem fX1_setEnd {s : AS} {a0 a1 : Int32} (hC : CS g w0 x nA cA lA kn s w) (hX : ¬ okN a0 → (Q (.inr "java/lang/IndexOutOfBoundsException") w)) (hW : okN a0 → ¬ okW a1 3 → (Q (.inr "java/lang/IllegalArgumentException") w)) (hQ : okN a0 → okW a1 3 → ∀ w', CS g w0 x nA cA lA kn (sN s (vp_updL s.1 a0.toNatClampNeg (frV a1))) w' → Q (.inl (some (.int (loV (frV a1))))) w') : WP (MX1_setEnd g) Q (0, [some (.ref x), some (.int a0), some (.int a1)], [], w, 0, 0) := by
  obtain ⟨gc, gl, ⟨hx, hn, hc, hl, hgc, hgl, hn0, hn1, rx, rn, rc, rl, ⟨d1, d2, d3, d4, d5, d6⟩, ⟨d7, d8, d9, d10, d11, d12⟩⟩, hcd, hpl⟩ := hC.1.opn g
  simp only [eX1_setEnd_0, eX1_setEnd_4, eX1_setEnd_9, wt_nil, wt_int, wt_ref, Nat.zero_add, Nat.add_zero]
  with_reducible refine And.intro ?_ ?_
  omega
  with_reducible refine And.intro ?_ ?_
  omega
  with_reducible refine And.intro ?_ ?_
  omega
  with_reducible refine fX1_needNumber (fun _ => ?_) (fun hok => ?_)
  simp only [kx_r]
  with_reducible exact hX (by assumption)
  simp only [kx_l, wt_nil, tl_n]
  with_reducible refine And.intro ?_ ?_
  omega
  with_reducible refine And.intro ?_ ?_
  omega
  with_reducible refine And.intro ?_ ?_
  omega
  with_reducible refine fX1_needChoice (fun hnw => ?_) (fun hw => ?_)
  simp only [kx_r]
  with_reducible exact hW hok hnw
  simp only [kx_l, wt_nil, tl_n, Nat.add_zero]
  with_reducible refine And.intro ?_ ?_
  omega
  with_reducible refine And.intro ?_ ?_
  omega
  with_reducible refine And.intro ?_ ?_
  omega
  with_reducible refine fX1_farNumber ?_
  simp only [eX1_setEnd_15, rx, kx_l, go_s, wt_nil, tl_s, true_and, Nat.add_zero]
  with_reducible refine And.intro ?_ ?_
  omega
  with_reducible refine And.intro ?_ ?_
  omega
  with_reducible refine And.intro ?_ ?_
  omega
  with_reducible refine fX1_putNumber hC hok.1 hok.2 (fun w1 h1 => ?_)
  simp only [eX1_setEnd_18, kx_l, tl_s]
  with_reducible refine And.intro ?_ ?_
  omega
  with_reducible refine And.intro ?_ ?_
  omega
  with_reducible exact hQ hok hw _ h1
set_option maxHeartbeats 4000000 in
theorem fX1_move {s : AS} {a0 a1 : Int32} (hC : CS g w0 x nA cA lA kn s w) (hX : ¬ okN a0 → (Q (.inr "java/lang/IndexOutOfBoundsException") w)) (hQ : okN a0 → ∀ w', CS g w0 x nA cA lA kn (sN s (vp_updL s.1 a0.toNatClampNeg (s.1 a0.toNatClampNeg + a1.toInt64))) w' → Q (.inl (some (.int (loV (s.1 a0.toNatClampNeg + a1.toInt64))))) w') : WP (MX1_move g) Q (0, [some (.ref x), some (.int a0), some (.int a1)], [], w, 0, 0) := by
  obtain ⟨gc, gl, ⟨hx, hn, hc, hl, hgc, hgl, hn0, hn1, rx, rn, rc, rl, ⟨d1, d2, d3, d4, d5, d6⟩, ⟨d7, d8, d9, d10, d11, d12⟩⟩, hcd, hpl⟩ := hC.1.opn g
  simp only [eX1_move_0, eX1_move_4, eX1_move_10, wt_nil, Nat.zero_add]
  with_reducible refine And.intro ?_ ?_
  omega
  with_reducible refine And.intro ?_ ?_
  omega
  with_reducible refine And.intro ?_ ?_
  omega
  with_reducible refine fX1_needNumber (fun _ => ?_) (fun hok => ?_)
  simp only [kx_r]
  with_reducible exact hX (by assumption)
  simp only [eX1_move_11, eX1_move_12, rx, rn, kx_l, go_s, gl_s, wt_nil, tl_n, g0, ex1, true_and, Nat.add_zero]
  with_reducible refine And.intro ?_ ?_
  with_reducible exact vpi8 hok.1 hok.2
  with_reducible refine And.intro ?_ ?_
  omega
  with_reducible refine And.intro ?_ ?_
  omega
  with_reducible refine And.intro ?_ ?_
  omega
  with_reducible refine fX1_putNumber hC hok.1 hok.2 (fun w1 h1 => ?_)
  simp only [eX1_move_18, kx_l, tl_s]
  with_reducible refine And.intro ?_ ?_
  omega
  with_reducible refine And.intro ?_ ?_
  omega
  with_reducible exact hQ hok _ h1
set_option maxHeartbeats 4000000 in
theorem fX1_copy {s : AS} {a0 a1 : Int32} (hC : CS g w0 x nA cA lA kn s w) (hX : ¬ (okN a0 ∧ okN a1) → (Q (.inr "java/lang/IndexOutOfBoundsException") w)) (hQ : okN a0 → okN a1 → ∀ w', CS g w0 x nA cA lA kn (sN s (vp_updL s.1 a0.toNatClampNeg (s.1 a1.toNatClampNeg))) w' → Q (.inl (some (.int (loV (s.1 a1.toNatClampNeg))))) w') : WP (MX1_copy g) Q (0, [some (.ref x), some (.int a0), some (.int a1)], [], w, 0, 0) := by
  obtain ⟨gc, gl, ⟨hx, hn, hc, hl, hgc, hgl, hn0, hn1, rx, rn, rc, rl, ⟨d1, d2, d3, d4, d5, d6⟩, ⟨d7, d8, d9, d10, d11, d12⟩⟩, hcd, hpl⟩ := hC.1.opn g
  simp only [eX1_copy_0, eX1_copy_4, eX1_copy_8, eX1_copy_14, wt_nil, Nat.zero_add]
  with_reducible refine And.intro ?_ ?_
  omega
  with_reducible refine And.intro ?_ ?_
  omega
  with_reducible refine And.intro ?_ ?_
  omega
  with_reducible refine fX1_needNumber (a0 := a0) (fun _ => ?_) (fun ha => ?_)
  simp only [kx_r]
  with_reducible exact hX (fun h => absurd h.1 (by assumption))
  simp only [kx_l, wt_nil, tl_n]
  with_reducible refine And.intro ?_ ?_
  omega
  with_reducible refine And.intro ?_ ?_
  omega
  with_reducible refine And.intro ?_ ?_
  omega
  with_reducible refine fX1_needNumber (a0 := a1) (fun _ => ?_) (fun hb => ?_)
  simp only [kx_r]
  with_reducible exact hX (fun h => absurd h.2 (by assumption))
  simp only [eX1_copy_15, eX1_copy_16, rx, rn, kx_l, go_s, gl_s, wt_nil, tl_n, g0, ex1, true_and, Nat.add_zero]
  with_reducible refine And.intro ?_ ?_
  with_reducible exact vpi8 hb.1 hb.2
  with_reducible refine And.intro ?_ ?_
  omega
  with_reducible refine And.intro ?_ ?_
  omega
  with_reducible refine And.intro ?_ ?_
  omega
  with_reducible refine fX1_putNumber hC ha.1 ha.2 (fun w1 h1 => ?_)
  simp only [eX1_copy_19, kx_l, tl_s]
  with_reducible refine And.intro ?_ ?_
  omega
  with_reducible refine And.intro ?_ ?_
  omega
  with_reducible exact hQ ha hb _ h1
set_option maxHeartbeats 4000000 in
theorem fX1_ofNumber {s : AS} {a0 a1 : Int32} (hC : CS g w0 x nA cA lA kn s w) (hX : ¬ okN a0 → (Q (.inr "java/lang/IndexOutOfBoundsException") w)) (hQ : okN a0 → Q (.inl (some (.int (hfV (s.1 a0.toNatClampNeg) a1)))) w) : WP (MX1_ofNumber g) Q (0, [some (.ref x), some (.int a0), some (.int a1)], [], w, 0, 0) := by
  obtain ⟨gc, gl, ⟨hx, hn, hc, hl, hgc, hgl, hn0, hn1, rx, rn, rc, rl, ⟨d1, d2, d3, d4, d5, d6⟩, ⟨d7, d8, d9, d10, d11, d12⟩⟩, hcd, hpl⟩ := hC.1.opn g
  simp only [eX1_ofNumber_0, eX1_ofNumber_4, eX1_ofNumber_8, wt_nil, Nat.zero_add]
  with_reducible refine And.intro ?_ ?_
  omega
  with_reducible refine And.intro ?_ ?_
  omega
  with_reducible refine And.intro ?_ ?_
  omega
  with_reducible refine fX1_needNumber (fun _ => ?_) (fun hok => ?_)
  simp only [kx_r]
  with_reducible exact hX (by assumption)
  simp only [eX1_ofNumber_9, eX1_ofNumber_10, rx, rn, kx_l, go_s, gl_s, wt_nil, tl_n, g0, ex1, Nat.add_zero]
  with_reducible refine And.intro ?_ ?_
  with_reducible exact vpi8 hok.1 hok.2
  with_reducible refine And.intro ?_ ?_
  omega
  with_reducible refine And.intro ?_ ?_
  omega
  with_reducible refine And.intro ?_ ?_
  omega
  with_reducible refine fX1_halfOf ?_
  simp only [eX1_ofNumber_14, kx_l, tl_s]
  with_reducible refine And.intro ?_ ?_
  omega
  with_reducible refine And.intro ?_ ?_
  omega
  with_reducible exact hQ hok
def orV (a b : Int64) : Int32 := if a.toInt < b.toInt then -1 else if b.toInt < a.toInt then 1 else 0
theorem orV_1 {a b : Int64} (h : a.toInt < b.toInt) : orV a b = -1 := if_pos h
theorem orV_2 {a b : Int64} (h : ¬ a.toInt < b.toInt) (k : b.toInt < a.toInt) : orV a b = 1 := by
  unfold orV
  rw [if_neg h, if_pos k]
theorem orV_3 {a b : Int64} (h : ¬ a.toInt < b.toInt) (k : ¬ b.toInt < a.toInt) : orV a b = 0 := by
  unfold orV
  rw [if_neg h, if_neg k]
set_option maxHeartbeats 4000000 in
theorem fX1_order {s : AS} {a0 a1 : Int32} (hC : CS g w0 x nA cA lA kn s w) (hX : ¬ (okN a0 ∧ okN a1) → (Q (.inr "java/lang/IndexOutOfBoundsException") w)) (hQ : okN a0 → okN a1 → Q (.inl (some (.int (orV (s.1 a0.toNatClampNeg) (s.1 a1.toNatClampNeg))))) w) : WP (MX1_order g) Q (0, [some (.ref x), some (.int a0), some (.int a1)], [], w, 0, 0) := by
  obtain ⟨gc, gl, ⟨hx, hn, hc, hl, hgc, hgl, hn0, hn1, rx, rn, rc, rl, ⟨d1, d2, d3, d4, d5, d6⟩, ⟨d7, d8, d9, d10, d11, d12⟩⟩, hcd, hpl⟩ := hC.1.opn g
  simp only [eX1_order_0, eX1_order_4, eX1_order_8, eX1_order_12, wt_nil, Nat.zero_add]
  with_reducible refine And.intro ?_ ?_
  omega
  with_reducible refine And.intro ?_ ?_
  omega
  with_reducible refine And.intro ?_ ?_
  omega
  with_reducible refine fX1_needNumber (a0 := a0) (fun _ => ?_) (fun ha => ?_)
  simp only [kx_r]
  with_reducible exact hX (fun h => absurd h.1 (by assumption))
  simp only [kx_l, wt_nil, tl_n]
  with_reducible refine And.intro ?_ ?_
  omega
  with_reducible refine And.intro ?_ ?_
  omega
  with_reducible refine And.intro ?_ ?_
  omega
  with_reducible refine fX1_needNumber (a0 := a1) (fun _ => ?_) (fun hb => ?_)
  simp only [kx_r]
  with_reducible exact hX (fun h => absurd h.2 (by assumption))
  simp only [eX1_order_13, eX1_order_14, eX1_order_18, eX1_order_20, eX1_order_24, eX1_order_26, eX1_order_30, eX1_order_32, eX1_order_36, eX1_order_38, eX1_order_42, eX1_order_46, eX1_order_47, lgp, lgn, rx, rn, ite_le, kx_l, go_s, gl_s, tl_n, g0, ex1]
  with_reducible refine And.intro ?_ ?_
  with_reducible exact vpi8 ha.1 ha.2
  with_reducible refine And.intro ?_ ?_
  with_reducible exact vpi8 hb.1 hb.2
  split
  with_reducible refine And.intro ?_ ?_
  omega
  with_reducible refine And.intro ?_ ?_
  omega
  (rw [orV_1 (by assumption)] at hQ; exact hQ ha hb)
  with_reducible refine And.intro ?_ ?_
  with_reducible exact vpi8 ha.1 ha.2
  with_reducible refine And.intro ?_ ?_
  with_reducible exact vpi8 hb.1 hb.2
  split
  with_reducible refine And.intro ?_ ?_
  omega
  with_reducible refine And.intro ?_ ?_
  omega
  (rw [orV_2 (by assumption) (by assumption)] at hQ; exact hQ ha hb)
  with_reducible refine And.intro ?_ ?_
  omega
  with_reducible refine And.intro ?_ ?_
  omega
  (rw [orV_3 (by assumption) (by assumption)] at hQ; exact hQ ha hb)
set_option maxHeartbeats 4000000 in
theorem fX1_knock {s : AS} (hC : CS g w0 x nA cA lA kn s w) (hQ : ∀ w', CS g w0 x nA cA lA (kn + 1) s w' → Q (.inl (some (.int (kn + 1)))) w') : WP (MX1_knock g) Q (0, [some (.ref x)], [], w, 0, 0) := by
  obtain ⟨gc, gl, ⟨hx, hn, hc, hl, hgc, hgl, hn0, hn1, rx, rn, rc, rl, ⟨d1, d2, d3, d4, d5, d6⟩, ⟨d7, d8, d9, d10, d11, d12⟩⟩, hcd, hpl⟩ := hC.1.opn g
  simp only [eX1_knock_0, eX1_knock_5, eX1_knock_10, eX1_knock_14, rx, hx, go_s, g0, gS, ex1, nf_i, true_and, List.set_cons_zero, List.set_cons_succ, List.length_cons, List.length_nil, rd_s, Nat.zero_add]
  with_reducible refine And.intro ?_ ?_
  omega
  with_reducible refine And.intro ?_ ?_
  omega
  with_reducible refine And.intro ?_ ?_
  omega
  with_reducible exact hQ _ (hC.obj _ _ _)
set_option maxHeartbeats 4000000 in
theorem fX1_refuse {s : AS} (hC : CS g w0 x nA cA lA kn s w) (hQ : ∀ w', CS g w0 x nA cA lA kn (sR_ s (s.2.2.2.2.1 + 1)) w' → (∀ b r, rAt w b r → rAt w' b r) → Q (.inl (some (.int (-9)))) w') : WP (MX1_refuse g) Q (0, [some (.ref x)], [], w, 0, 0) := by
  obtain ⟨gc, gl, ⟨hx, hn, hc, hl, hgc, hgl, hn0, hn1, rx, rn, rc, rl, ⟨d1, d2, d3, d4, d5, d6⟩, ⟨d7, d8, d9, d10, d11, d12⟩⟩, hcd, hpl⟩ := hC.1.opn g
  simp only [eX1_refuse_0, eX1_refuse_5, eX1_refuse_10, rx, hx, go_s, g0, gS, ex1, nf_i, true_and, List.set_cons_zero, List.set_cons_succ, List.length_cons, List.length_nil, Nat.zero_add]
  with_reducible refine And.intro ?_ ?_
  omega
  with_reducible refine And.intro ?_ ?_
  omega
  with_reducible refine And.intro ?_ ?_
  omega
  with_reducible exact hQ _ (hC.obj _ _ _) (fun b r hb => rAt_up2 hb hx (by simp))
theorem go_Fw {b : Nat} {r : R4} {K : List Value → Prop} (h : rAt w b r) (k : K [.long r.1, .long r.2.1, .long r.2.2.1, .long r.2.2.2]) : go (w b) 4 K := by
  rw [h, go_s]
  exact k
theorem c6 {a : Int32} (h : okC a) : a.toNatClampNeg < 6 := by
  have h1 := i32_0 h.1
  have h2 := i32_lt h.2
  have z : (6 : Int32).toInt = 6 := rfl
  have e : a.toNatClampNeg = a.toInt.toNat := rfl
  omega
theorem cdN {gc : Nat → Option Nat} {s : AS} {a : Int32} (hcd : ∀ i, i < 6 → cM w (gc i) (s.2.1 i)) (hok : okC a) (h : gc a.toNatClampNeg = none) : s.2.1 a.toNatClampNeg = none := by
  have k := hcd _ (c6 hok)
  rw [h] at k
  exact k.n
theorem cdS {gc : Nat → Option Nat} {s : AS} {a : Int32} {b : Nat} (hcd : ∀ i, i < 6 → cM w (gc i) (s.2.1 i)) (hok : okC a) (h : gc a.toNatClampNeg = some b) : ∃ r, s.2.1 a.toNatClampNeg = some r ∧ rAt w b r := by
  have k := hcd _ (c6 hok)
  rw [h] at k
  exact k.s
set_option maxHeartbeats 4000000 in
theorem fX1_giveR {s : AS} {a0 : Int32} {a1 : Nat} {r : R4} (hC : CS g w0 x nA cA lA kn s w) (h1 : rAt w a1 r) (k0 : ¬ a0 < 0) (k1 : a0 < 6) (hQ : ∀ w', CS g w0 x nA cA lA kn (sM_ (sC s (va_up s.2.1 a0.toNatClampNeg (some r))) (s.2.2.2.2.2 + 1)) w' → (∀ b r, rAt w b r → rAt w' b r) → Q (.inl (some (.int 1))) w') : WP (MX1_give g) Q (0, [some (.ref x), some (.int a0), some (.ref a1)], [], w, 0, 0) := by
  obtain ⟨gc, gl, ⟨hx, hn, hc, hl, hgc, hgl, hn0, hn1, rx, rn, rc, rl, ⟨d1, d2, d3, d4, d5, d6⟩, ⟨d7, d8, d9, d10, d11, d12⟩⟩, hcd, hpl⟩ := hC.1.opn g
  simp only [eX1_give_0, eX1_give_1R, eX1_give_9, eX1_give_13, eX1_give_16, eX1_give_21, eX1_give_26, not_false_eq_true, rx, hx, hc, d2, rd_n, upw_n, n45, or_false, false_and, go_s, gq_s, g0, gS, ex1, nf_i, true_and, List.set_cons_zero, List.set_cons_succ, List.length_cons, List.length_nil, ne_eq, not_false_eq_true, Nat.zero_add]
  with_reducible refine And.intro ?_ ?_
  with_reducible exact vpi6 (by assumption) (by assumption)
  with_reducible refine And.intro ?_ ?_
  with_reducible exact go_Fw h1 trivial
  with_reducible refine And.intro ?_ ?_
  omega
  with_reducible refine And.intro ?_ ?_
  omega
  with_reducible refine And.intro ?_ ?_
  omega
  ((with_reducible refine isQ (Q := Q) ?_); exact hQ _ ((hC.card gc hc a0.toNatClampNeg (some a1) (some r) h1).obj _ _ _) (fun b q hb => rAt_up2 (rAt_up2 hb hc (by simp)) (by rw [upw_n d2]; exact hx) (by simp)))
set_option maxHeartbeats 4000000 in
theorem fX1_giveN {s : AS} {a0 : Int32} (hC : CS g w0 x nA cA lA kn s w) (hQ : ∀ w', CS g w0 x nA cA lA kn (sR_ s (s.2.2.2.2.1 + 1)) w' → (∀ b r, rAt w b r → rAt w' b r) → Q (.inl (some (.int (-9)))) w') : WP (MX1_give g) Q (0, [some (.ref x), some (.int a0), some .null], [], w, 0, 0) := by
  obtain ⟨gc, gl, ⟨hx, hn, hc, hl, hgc, hgl, hn0, hn1, rx, rn, rc, rl, ⟨d1, d2, d3, d4, d5, d6⟩, ⟨d7, d8, d9, d10, d11, d12⟩⟩, hcd, hpl⟩ := hC.1.opn g
  simp only [eX1_give_0N, eX1_give_1N, eX1_give_4, rx, go_s, wt_nil, true_and, Nat.add_zero]
  with_reducible refine And.intro ?_ ?_
  omega
  with_reducible refine And.intro ?_ ?_
  omega
  with_reducible refine And.intro ?_ ?_
  omega
  with_reducible refine fX1_refuse hC (fun w1 h1 h2 => ?_)
  simp only [eX1_give_8, kx_l, tl_s]
  with_reducible refine And.intro ?_ ?_
  omega
  with_reducible refine And.intro ?_ ?_
  omega
  with_reducible exact hQ _ (by assumption) (by assumption)
set_option maxHeartbeats 4000000 in
theorem fX1_rangeOf {s : AS} {a0 : Int32} (hC : CS g w0 x nA cA lA kn s w) (hX : ¬ okC a0 → (Q (.inr "java/lang/IndexOutOfBoundsException") w)) (hS : okC a0 → s.2.1 a0.toNatClampNeg = none → (Q (.inr "java/lang/IllegalStateException") w)) (hQ : okC a0 → ∀ b r, s.2.1 a0.toNatClampNeg = some r → rAt w b r → Q (.inl (some (.ref b))) w) : WP (MX1_rangeOf g) Q (0, [some (.ref x), some (.int a0), none], [], w, 0, 0) := by
  obtain ⟨gc, gl, ⟨hx, hn, hc, hl, hgc, hgl, hn0, hn1, rx, rn, rc, rl, ⟨d1, d2, d3, d4, d5, d6⟩, ⟨d7, d8, d9, d10, d11, d12⟩⟩, hcd, hpl⟩ := hC.1.opn g
  simp only [eX1_rangeOf_0, eX1_rangeOf_4, eX1_rangeOf_8, wt_nil, Nat.zero_add]
  with_reducible refine And.intro ?_ ?_
  omega
  with_reducible refine And.intro ?_ ?_
  omega
  with_reducible refine And.intro ?_ ?_
  omega
  with_reducible refine fX1_needCard (fun _ => ?_) (fun hok => ?_)
  simp only [kx_r]
  with_reducible exact hX (by assumption)
  simp only [eX1_rangeOf_9, eX1_rangeOf_10, eX1_rangeOf_10N, eX1_rangeOf_11, eX1_rangeOf_11N, eX1_rangeOf_12R, eX1_rangeOf_12N, eX1_rangeOf_15, eX1_rangeOf_25, rx, rc, n45, or_false, kx_l, go_s, gq_s, wt_nil, nl_int, rf_st, tl_n, g0, gS, ex1, true_and]
  with_reducible refine And.intro ?_ ?_
  with_reducible exact vpi6 hok.1 hok.2
  with_reducible refine And.intro ?_ ?_
  with_reducible intro _
  with_reducible refine And.intro ?_ ?_
  omega
  with_reducible refine And.intro ?_ ?_
  omega
  with_reducible refine And.intro ?_ ?_
  omega
  with_reducible refine And.intro ?_ ?_
  omega
  with_reducible exact hS hok (cdN hcd hok (by assumption))
  with_reducible intro _
  with_reducible intro _
  with_reducible refine And.intro ?_ ?_
  omega
  with_reducible refine And.intro ?_ ?_
  omega
  with_reducible exact (cdS hcd hok (by assumption)).elim (fun r h => hQ hok _ r h.1 h.2)
end
end
/-! 71.fn4.lean.txt -/
section
section
variable {g : RO} {Q : Ot → Hw → Prop} {w0 w : Hw} {x nA cA lA : Nat} {kn : Int32}
theorem rAt_new {q : Nat} {a b c d : Int64} : rAt (upw w q (.inr (4, [.long a, .long b, .long c, .long d]))) q (a, b, c, d) := upw_s _ _ _
theorem go_5 {s : AS} (h : CS g w0 x nA cA lA kn s w) : go (rd g w x) 5 fun _ => True := by
  obtain ⟨gc, gl, h1, -⟩ := h.1.opn g
  rw [h1.2.2.2.2.2.2.2.2.1, go_s]
  trivial
/-- a card gets the range (refused: counted) -/
abbrev sMk (s : AS) (j : Nat) (r : R4) : AS := sM_ (sC s (va_up s.2.1 j (some r))) (s.2.2.2.2.2 + 1)
abbrev sRf (s : AS) : AS := sR_ s (s.2.2.2.2.1 + 1)
set_option maxHeartbeats 4000000 in
theorem fX1_two {s : AS} {a0 : Int32} {a1 : Int32} {a2 : Int32} (hC : CS g w0 x nA cA lA kn s w) (hX : ¬ (okC a0 ∧ okN a1 ∧ okN a2) → (Q (.inr "java/lang/IndexOutOfBoundsException") w)) (hT : okC a0 → okN a1 → okN a2 → oP (s.1 a1.toNatClampNeg) (s.1 a1.toNatClampNeg) (s.1 a2.toNatClampNeg) (s.1 a2.toNatClampNeg) → ∀ w', CS g w0 x nA cA lA kn (sMk s a0.toNatClampNeg (s.1 a1.toNatClampNeg, s.1 a1.toNatClampNeg, s.1 a2.toNatClampNeg, s.1 a2.toNatClampNeg)) w' → Q (.inl (some (.int 1))) w') (hF : okC a0 → okN a1 → okN a2 → ¬ oP (s.1 a1.toNatClampNeg) (s.1 a1.toNatClampNeg) (s.1 a2.toNatClampNeg) (s.1 a2.toNatClampNeg) → ∀ w', CS g w0 x nA cA lA kn (sRf s) w' → Q (.inl (some (.int (-9)))) w') : WP (MX1_two g) Q (0, [some (.ref x), some (.int a0), some (.int a1), some (.int a2)], [], w, 0, 0) := by
  obtain ⟨gc, gl, ⟨hx, hn, hc, hl, hgc, hgl, hn0, hn1, rx, rn, rc, rl, ⟨d1, d2, d3, d4, d5, d6⟩, ⟨d7, d8, d9, d10, d11, d12⟩⟩, hcd, hpl⟩ := hC.1.opn g
  simp only [eX1_two_0, eX1_two_4, eX1_two_8, eX1_two_12, eX1_two_18, wt_nil, Nat.zero_add]
  with_reducible refine And.intro ?_ ?_
  omega
  with_reducible refine And.intro ?_ ?_
  omega
  with_reducible refine And.intro ?_ ?_
  omega
  with_reducible refine fX1_needCard (a0 := a0) (fun _ => ?_) (fun k0 => ?_)
  simp only [kx_r]
  with_reducible exact hX (fun h => absurd h.1 (by assumption))
  simp only [kx_l, wt_nil, tl_n]
  with_reducible refine And.intro ?_ ?_
  omega
  with_reducible refine And.intro ?_ ?_
  omega
  with_reducible refine And.intro ?_ ?_
  omega
  with_reducible refine fX1_needNumber (a0 := a1) (fun _ => ?_) (fun k1 => ?_)
  simp only [kx_r]
  with_reducible exact hX (fun h => absurd h.2.1 (by assumption))
  simp only [kx_l, wt_nil, tl_n]
  with_reducible refine And.intro ?_ ?_
  omega
  with_reducible refine And.intro ?_ ?_
  omega
  with_reducible refine And.intro ?_ ?_
  omega
  with_reducible refine fX1_needNumber (a0 := a2) (fun _ => ?_) (fun k2 => ?_)
  simp only [kx_r]
  with_reducible exact hX (fun h => absurd h.2.2 (by assumption))
  simp only [eX1_two_19, eX1_two_20, eX1_two_24, eX1_two_26, rx, rn, kx_l, go_s, gl_s, wt_nil, wt_int, wt_ref, tl_n, g0, ex1, Nat.add_zero]
  with_reducible refine And.intro ?_ ?_
  with_reducible exact vpi8 k1.1 k1.2
  with_reducible refine And.intro ?_ ?_
  with_reducible exact vpi8 k2.1 k2.2
  with_reducible refine And.intro ?_ ?_
  omega
  with_reducible refine And.intro ?_ ?_
  omega
  with_reducible refine And.intro ?_ ?_
  omega
  with_reducible refine fX0_ofTwo (fun hno => ?_) (fun hyes q hq => ?_)
  simp only [eX1_two_29N, rx, kx_l, go_s, wt_nil, tl_s, true_and, Nat.add_zero]
  with_reducible refine And.intro ?_ ?_
  omega
  with_reducible refine And.intro ?_ ?_
  omega
  with_reducible refine And.intro ?_ ?_
  omega
  with_reducible refine fX1_giveN hC (fun w1 g1 g2 => ?_)
  simp only [eX1_two_32, kx_l, tl_s]
  with_reducible refine And.intro ?_ ?_
  omega
  with_reducible refine And.intro ?_ ?_
  omega
  with_reducible exact hF k0 k1 k2 hno w1 g1
  simp only [eX1_two_29R, kx_l, wt_nil, tl_s, Nat.add_zero]
  with_reducible refine And.intro ?_ ?_
  with_reducible exact go_5 (hC.ext (ext_up2 ext.rf hq))
  with_reducible refine And.intro ?_ ?_
  omega
  with_reducible refine And.intro ?_ ?_
  omega
  with_reducible refine And.intro ?_ ?_
  omega
  with_reducible refine fX1_giveR (hC.ext (ext_up2 ext.rf hq)) rAt_new k0.1 k0.2 (fun w1 g1 g2 => ?_)
  simp only [eX1_two_32, kx_l, tl_s]
  with_reducible refine And.intro ?_ ?_
  omega
  with_reducible refine And.intro ?_ ?_
  omega
  with_reducible exact hT k0 k1 k2 hyes w1 g1
set_option maxHeartbeats 4000000 in
theorem fX1_three {s : AS} {a0 : Int32} {a1 : Int32} {a2 : Int32} {a3 : Int32} (hC : CS g w0 x nA cA lA kn s w) (hX : ¬ (okC a0 ∧ okN a1 ∧ okN a2 ∧ okN a3) → (Q (.inr "java/lang/IndexOutOfBoundsException") w)) (hT : okC a0 → okN a1 → okN a2 → okN a3 → oP (s.1 a1.toNatClampNeg) (s.1 a1.toNatClampNeg) (s.1 a2.toNatClampNeg) (s.1 a3.toNatClampNeg) → ∀ w', CS g w0 x nA cA lA kn (sMk s a0.toNatClampNeg (s.1 a1.toNatClampNeg, s.1 a1.toNatClampNeg, s.1 a2.toNatClampNeg, s.1 a3.toNatClampNeg)) w' → Q (.inl (some (.int 1))) w') (hF : okC a0 → okN a1 → okN a2 → okN a3 → ¬ oP (s.1 a1.toNatClampNeg) (s.1 a1.toNatClampNeg) (s.1 a2.toNatClampNeg) (s.1 a3.toNatClampNeg) → ∀ w', CS g w0 x nA cA lA kn (sRf s) w' → Q (.inl (some (.int (-9)))) w') : WP (MX1_three g) Q (0, [some (.ref x), some (.int a0), some (.int a1), some (.int a2), some (.int a3)], [], w, 0, 0) := by
  obtain ⟨gc, gl, ⟨hx, hn, hc, hl, hgc, hgl, hn0, hn1, rx, rn, rc, rl, ⟨d1, d2, d3, d4, d5, d6⟩, ⟨d7, d8, d9, d10, d11, d12⟩⟩, hcd, hpl⟩ := hC.1.opn g
  simp only [eX1_three_0, eX1_three_4, eX1_three_8, eX1_three_12, eX1_three_17, eX1_three_23, wt_nil, Nat.zero_add]
  with_reducible refine And.intro ?_ ?_
  omega
  with_reducible refine And.intro ?_ ?_
  omega
  with_reducible refine And.intro ?_ ?_
  omega
  with_reducible refine fX1_needCard (a0 := a0) (fun _ => ?_) (fun k0 => ?_)
  simp only [kx_r]
  with_reducible exact hX (fun h => absurd h.1 (by assumption))
  simp only [kx_l, wt_nil, tl_n]
  with_reducible refine And.intro ?_ ?_
  omega
  with_reducible refine And.intro ?_ ?_
  omega
  with_reducible refine And.intro ?_ ?_
  omega
  with_reducible refine fX1_needNumber (a0 := a1) (fun _ => ?_) (fun k1 => ?_)
  simp only [kx_r]
  with_reducible exact hX (fun h => absurd h.2.1 (by assumption))
  simp only [kx_l, wt_nil, tl_n]
  with_reducible refine And.intro ?_ ?_
  omega
  with_reducible refine And.intro ?_ ?_
  omega
  with_reducible refine And.intro ?_ ?_
  omega
  with_reducible refine fX1_needNumber (a0 := a2) (fun _ => ?_) (fun k2 => ?_)
  simp only [kx_r]
  with_reducible exact hX (fun h => absurd h.2.2.1 (by assumption))
  simp only [kx_l, wt_nil, tl_n]
  with_reducible refine And.intro ?_ ?_
  omega
  with_reducible refine And.intro ?_ ?_
  omega
  with_reducible refine And.intro ?_ ?_
  omega
  with_reducible refine fX1_needNumber (a0 := a3) (fun _ => ?_) (fun k3 => ?_)
  simp only [kx_r]
  with_reducible exact hX (fun h => absurd h.2.2.2 (by assumption))
  simp only [eX1_three_24, eX1_three_25, eX1_three_29, eX1_three_31, eX1_three_35, eX1_three_38, rx, rn, kx_l, go_s, gl_s, wt_nil, wt_int, wt_ref, tl_n, g0, ex1, Nat.add_zero]
  with_reducible refine And.intro ?_ ?_
  with_reducible exact vpi8 k1.1 k1.2
  with_reducible refine And.intro ?_ ?_
  with_reducible exact vpi8 k2.1 k2.2
  with_reducible refine And.intro ?_ ?_
  with_reducible exact vpi8 k3.1 k3.2
  with_reducible refine And.intro ?_ ?_
  omega
  with_reducible refine And.intro ?_ ?_
  omega
  with_reducible refine And.intro ?_ ?_
  omega
  with_reducible refine fX0_ofThree (fun hno => ?_) (fun hyes q hq => ?_)
  simp only [eX1_three_41N, rx, kx_l, go_s, wt_nil, tl_s, true_and, Nat.add_zero]
  with_reducible refine And.intro ?_ ?_
  omega
  with_reducible refine And.intro ?_ ?_
  omega
  with_reducible refine And.intro ?_ ?_
  omega
  with_reducible refine fX1_giveN hC (fun w1 g1 g2 => ?_)
  simp only [eX1_three_44, kx_l, tl_s]
  with_reducible refine And.intro ?_ ?_
  omega
  with_reducible refine And.intro ?_ ?_
  omega
  with_reducible exact hF k0 k1 k2 k3 hno w1 g1
  simp only [eX1_three_41R, kx_l, wt_nil, tl_s, Nat.add_zero]
  with_reducible refine And.intro ?_ ?_
  with_reducible exact go_5 (hC.ext (ext_up2 ext.rf hq))
  with_reducible refine And.intro ?_ ?_
  omega
  with_reducible refine And.intro ?_ ?_
  omega
  with_reducible refine And.intro ?_ ?_
  omega
  with_reducible refine fX1_giveR (hC.ext (ext_up2 ext.rf hq)) rAt_new k0.1 k0.2 (fun w1 g1 g2 => ?_)
  simp only [eX1_three_44, kx_l, tl_s]
  with_reducible refine And.intro ?_ ?_
  omega
  with_reducible refine And.intro ?_ ?_
  omega
  with_reducible exact hT k0 k1 k2 k3 hyes w1 g1
set_option maxHeartbeats 4000000 in
theorem fX1_four {s : AS} {a0 : Int32} {a1 : Int32} {a2 : Int32} {a3 : Int32} {a4 : Int32} (hC : CS g w0 x nA cA lA kn s w) (hX : ¬ (okC a0 ∧ okN a1 ∧ okN a2 ∧ okN a3 ∧ okN a4) → (Q (.inr "java/lang/IndexOutOfBoundsException") w)) (hT : okC a0 → okN a1 → okN a2 → okN a3 → okN a4 → oP (s.1 a1.toNatClampNeg) (s.1 a2.toNatClampNeg) (s.1 a3.toNatClampNeg) (s.1 a4.toNatClampNeg) → ∀ w', CS g w0 x nA cA lA kn (sMk s a0.toNatClampNeg (s.1 a1.toNatClampNeg, s.1 a2.toNatClampNeg, s.1 a3.toNatClampNeg, s.1 a4.toNatClampNeg)) w' → Q (.inl (some (.int 1))) w') (hF : okC a0 → okN a1 → okN a2 → okN a3 → okN a4 → ¬ oP (s.1 a1.toNatClampNeg) (s.1 a2.toNatClampNeg) (s.1 a3.toNatClampNeg) (s.1 a4.toNatClampNeg) → ∀ w', CS g w0 x nA cA lA kn (sRf s) w' → Q (.inl (some (.int (-9)))) w') : WP (MX1_four g) Q (0, [some (.ref x), some (.int a0), some (.int a1), some (.int a2), some (.int a3), some (.int a4)], [], w, 0, 0) := by
  obtain ⟨gc, gl, ⟨hx, hn, hc, hl, hgc, hgl, hn0, hn1, rx, rn, rc, rl, ⟨d1, d2, d3, d4, d5, d6⟩, ⟨d7, d8, d9, d10, d11, d12⟩⟩, hcd, hpl⟩ := hC.1.opn g
  simp only [eX1_four_0, eX1_four_4, eX1_four_8, eX1_four_12, eX1_four_17, eX1_four_22, eX1_four_28, wt_nil, Nat.zero_add]
  with_reducible refine And.intro ?_ ?_
  omega
  with_reducible refine And.intro ?_ ?_
  omega
  with_reducible refine And.intro ?_ ?_
  omega
  with_reducible refine fX1_needCard (a0 := a0) (fun _ => ?_) (fun k0 => ?_)
  simp only [kx_r]
  with_reducible exact hX (fun h => absurd h.1 (by assumption))
  simp only [kx_l, wt_nil, tl_n]
  with_reducible refine And.intro ?_ ?_
  omega
  with_reducible refine And.intro ?_ ?_
  omega
  with_reducible refine And.intro ?_ ?_
  omega
  with_reducible refine fX1_needNumber (a0 := a1) (fun _ => ?_) (fun k1 => ?_)
  simp only [kx_r]
  with_reducible exact hX (fun h => absurd h.2.1 (by assumption))
  simp only [kx_l, wt_nil, tl_n]
  with_reducible refine And.intro ?_ ?_
  omega
  with_reducible refine And.intro ?_ ?_
  omega
  with_reducible refine And.intro ?_ ?_
  omega
  with_reducible refine fX1_needNumber (a0 := a2) (fun _ => ?_) (fun k2 => ?_)
  simp only [kx_r]
  with_reducible exact hX (fun h => absurd h.2.2.1 (by assumption))
  simp only [kx_l, wt_nil, tl_n]
  with_reducible refine And.intro ?_ ?_
  omega
  with_reducible refine And.intro ?_ ?_
  omega
  with_reducible refine And.intro ?_ ?_
  omega
  with_reducible refine fX1_needNumber (a0 := a3) (fun _ => ?_) (fun k3 => ?_)
  simp only [kx_r]
  with_reducible exact hX (fun h => absurd h.2.2.2.1 (by assumption))
  simp only [kx_l, wt_nil, tl_n]
  with_reducible refine And.intro ?_ ?_
  omega
  with_reducible refine And.intro ?_ ?_
  omega
  with_reducible refine And.intro ?_ ?_
  omega
  with_reducible refine fX1_needNumber (a0 := a4) (fun _ => ?_) (fun k4 => ?_)
  simp only [kx_r]
  with_reducible exact hX (fun h => absurd h.2.2.2.2 (by assumption))
  simp only [eX1_four_29, eX1_four_30, eX1_four_34, eX1_four_36, eX1_four_40, eX1_four_43, eX1_four_47, eX1_four_50, rx, rn, kx_l, go_s, gl_s, wt_nil, wt_int, wt_ref, tl_n, g0, ex1, Nat.add_zero]
  with_reducible refine And.intro ?_ ?_
  with_reducible exact vpi8 k1.1 k1.2
  with_reducible refine And.intro ?_ ?_
  with_reducible exact vpi8 k2.1 k2.2
  with_reducible refine And.intro ?_ ?_
  with_reducible exact vpi8 k3.1 k3.2
  with_reducible refine And.intro ?_ ?_
  with_reducible exact vpi8 k4.1 k4.2
  with_reducible refine And.intro ?_ ?_
  omega
  with_reducible refine And.intro ?_ ?_
  omega
  with_reducible refine And.intro ?_ ?_
  omega
  with_reducible refine fX0_ofFour (fun hno => ?_) (fun hyes q hq => ?_)
  simp only [eX1_four_53N, rx, kx_l, go_s, wt_nil, tl_s, true_and, Nat.add_zero]
  with_reducible refine And.intro ?_ ?_
  omega
  with_reducible refine And.intro ?_ ?_
  omega
  with_reducible refine And.intro ?_ ?_
  omega
  with_reducible refine fX1_giveN hC (fun w1 g1 g2 => ?_)
  simp only [eX1_four_56, kx_l, tl_s]
  with_reducible refine And.intro ?_ ?_
  omega
  with_reducible refine And.intro ?_ ?_
  omega
  with_reducible exact hF k0 k1 k2 k3 k4 hno w1 g1
  simp only [eX1_four_53R, kx_l, wt_nil, tl_s, Nat.add_zero]
  with_reducible refine And.intro ?_ ?_
  with_reducible exact go_5 (hC.ext (ext_up2 ext.rf hq))
  with_reducible refine And.intro ?_ ?_
  omega
  with_reducible refine And.intro ?_ ?_
  omega
  with_reducible refine And.intro ?_ ?_
  omega
  with_reducible refine fX1_giveR (hC.ext (ext_up2 ext.rf hq)) rAt_new k0.1 k0.2 (fun w1 g1 g2 => ?_)
  simp only [eX1_four_56, kx_l, tl_s]
  with_reducible refine And.intro ?_ ?_
  omega
  with_reducible refine And.intro ?_ ?_
  omega
  with_reducible exact hT k0 k1 k2 k3 k4 hyes w1 g1
set_option maxHeartbeats 4000000 in
theorem fX1_twoSmall {s : AS} {a0 : Int32} {a1 : Int32} {a2 : Int32} (hC : CS g w0 x nA cA lA kn s w) (hX : ¬ (okC a0) → (Q (.inr "java/lang/IndexOutOfBoundsException") w)) (hT : okC a0 → oP (a1.toInt64) (a1.toInt64) (a2.toInt64) (a2.toInt64) → ∀ w', CS g w0 x nA cA lA kn (sMk s a0.toNatClampNeg (a1.toInt64, a1.toInt64, a2.toInt64, a2.toInt64)) w' → Q (.inl (some (.int 1))) w') (hF : okC a0 → ¬ oP (a1.toInt64) (a1.toInt64) (a2.toInt64) (a2.toInt64) → ∀ w', CS g w0 x nA cA lA kn (sRf s) w' → Q (.inl (some (.int (-9)))) w') : WP (MX1_twoSmall g) Q (0, [some (.ref x), some (.int a0), some (.int a1), some (.int a2)], [], w, 0, 0) := by
  obtain ⟨gc, gl, ⟨hx, hn, hc, hl, hgc, hgl, hn0, hn1, rx, rn, rc, rl, ⟨d1, d2, d3, d4, d5, d6⟩, ⟨d7, d8, d9, d10, d11, d12⟩⟩, hcd, hpl⟩ := hC.1.opn g
  simp only [eX1_twoSmall_0, eX1_twoSmall_4, wt_nil, wt_int, wt_ref, Nat.zero_add]
  with_reducible refine And.intro ?_ ?_
  omega
  with_reducible refine And.intro ?_ ?_
  omega
  with_reducible refine And.intro ?_ ?_
  omega
  with_reducible refine fX1_needCard (a0 := a0) (fun _ => ?_) (fun k0 => ?_)
  simp only [kx_r]
  with_reducible exact hX (fun h => absurd h (by assumption))
  simp only [kx_l, wt_nil, tl_n, Nat.add_zero]
  with_reducible refine And.intro ?_ ?_
  omega
  with_reducible refine And.intro ?_ ?_
  omega
  with_reducible refine And.intro ?_ ?_
  omega
  with_reducible refine fX0_ofTwo (fun hno => ?_) (fun hyes q hq => ?_)
  simp only [eX1_twoSmall_13N, rx, kx_l, go_s, wt_nil, tl_s, true_and, Nat.add_zero]
  with_reducible refine And.intro ?_ ?_
  omega
  with_reducible refine And.intro ?_ ?_
  omega
  with_reducible refine And.intro ?_ ?_
  omega
  with_reducible refine fX1_giveN hC (fun w1 g1 g2 => ?_)
  simp only [eX1_twoSmall_16, kx_l, tl_s]
  with_reducible refine And.intro ?_ ?_
  omega
  with_reducible refine And.intro ?_ ?_
  omega
  with_reducible exact hF k0 hno w1 g1
  simp only [eX1_twoSmall_13R, kx_l, wt_nil, tl_s, Nat.add_zero]
  with_reducible refine And.intro ?_ ?_
  with_reducible exact go_5 (hC.ext (ext_up2 ext.rf hq))
  with_reducible refine And.intro ?_ ?_
  omega
  with_reducible refine And.intro ?_ ?_
  omega
  with_reducible refine And.intro ?_ ?_
  omega
  with_reducible refine fX1_giveR (hC.ext (ext_up2 ext.rf hq)) rAt_new k0.1 k0.2 (fun w1 g1 g2 => ?_)
  simp only [eX1_twoSmall_16, kx_l, tl_s]
  with_reducible refine And.intro ?_ ?_
  omega
  with_reducible refine And.intro ?_ ?_
  omega
  with_reducible exact hT k0 hyes w1 g1
set_option maxHeartbeats 4000000 in
theorem fX1_threeSmall {s : AS} {a0 : Int32} {a1 : Int32} {a2 : Int32} {a3 : Int32} (hC : CS g w0 x nA cA lA kn s w) (hX : ¬ (okC a0) → (Q (.inr "java/lang/IndexOutOfBoundsException") w)) (hT : okC a0 → oP (a1.toInt64) (a1.toInt64) (a2.toInt64) (a3.toInt64) → ∀ w', CS g w0 x nA cA lA kn (sMk s a0.toNatClampNeg (a1.toInt64, a1.toInt64, a2.toInt64, a3.toInt64)) w' → Q (.inl (some (.int 1))) w') (hF : okC a0 → ¬ oP (a1.toInt64) (a1.toInt64) (a2.toInt64) (a3.toInt64) → ∀ w', CS g w0 x nA cA lA kn (sRf s) w' → Q (.inl (some (.int (-9)))) w') : WP (MX1_threeSmall g) Q (0, [some (.ref x), some (.int a0), some (.int a1), some (.int a2), some (.int a3)], [], w, 0, 0) := by
  obtain ⟨gc, gl, ⟨hx, hn, hc, hl, hgc, hgl, hn0, hn1, rx, rn, rc, rl, ⟨d1, d2, d3, d4, d5, d6⟩, ⟨d7, d8, d9, d10, d11, d12⟩⟩, hcd, hpl⟩ := hC.1.opn g
  simp only [eX1_threeSmall_0, eX1_threeSmall_4, wt_nil, wt_int, wt_ref, Nat.zero_add]
  with_reducible refine And.intro ?_ ?_
  omega
  with_reducible refine And.intro ?_ ?_
  omega
  with_reducible refine And.intro ?_ ?_
  omega
  with_reducible refine fX1_needCard (a0 := a0) (fun _ => ?_) (fun k0 => ?_)
  simp only [kx_r]
  with_reducible exact hX (fun h => absurd h (by assumption))
  simp only [kx_l, wt_nil, tl_n, Nat.add_zero]
  with_reducible refine And.intro ?_ ?_
  omega
  with_reducible refine And.intro ?_ ?_
  omega
  with_reducible refine And.intro ?_ ?_
  omega
  with_reducible refine fX0_ofThree (fun hno => ?_) (fun hyes q hq => ?_)
  simp only [eX1_threeSmall_16N, rx, kx_l, go_s, wt_nil, tl_s, true_and, Nat.add_zero]
  with_reducible refine And.intro ?_ ?_
  omega
  with_reducible refine And.intro ?_ ?_
  omega
  with_reducible refine And.intro ?_ ?_
  omega
  with_reducible refine fX1_giveN hC (fun w1 g1 g2 => ?_)
  simp only [eX1_threeSmall_19, kx_l, tl_s]
  with_reducible refine And.intro ?_ ?_
  omega
  with_reducible refine And.intro ?_ ?_
  omega
  with_reducible exact hF k0 hno w1 g1
  simp only [eX1_threeSmall_16R, kx_l, wt_nil, tl_s, Nat.add_zero]
  with_reducible refine And.intro ?_ ?_
  with_reducible exact go_5 (hC.ext (ext_up2 ext.rf hq))
  with_reducible refine And.intro ?_ ?_
  omega
  with_reducible refine And.intro ?_ ?_
  omega
  with_reducible refine And.intro ?_ ?_
  omega
  with_reducible refine fX1_giveR (hC.ext (ext_up2 ext.rf hq)) rAt_new k0.1 k0.2 (fun w1 g1 g2 => ?_)
  simp only [eX1_threeSmall_19, kx_l, tl_s]
  with_reducible refine And.intro ?_ ?_
  omega
  with_reducible refine And.intro ?_ ?_
  omega
  with_reducible exact hT k0 hyes w1 g1
set_option maxHeartbeats 4000000 in
theorem fX1_fourSmall {s : AS} {a0 : Int32} {a1 : Int32} {a2 : Int32} {a3 : Int32} {a4 : Int32} (hC : CS g w0 x nA cA lA kn s w) (hX : ¬ (okC a0) → (Q (.inr "java/lang/IndexOutOfBoundsException") w)) (hT : okC a0 → oP (a1.toInt64) (a2.toInt64) (a3.toInt64) (a4.toInt64) → ∀ w', CS g w0 x nA cA lA kn (sMk s a0.toNatClampNeg (a1.toInt64, a2.toInt64, a3.toInt64, a4.toInt64)) w' → Q (.inl (some (.int 1))) w') (hF : okC a0 → ¬ oP (a1.toInt64) (a2.toInt64) (a3.toInt64) (a4.toInt64) → ∀ w', CS g w0 x nA cA lA kn (sRf s) w' → Q (.inl (some (.int (-9)))) w') : WP (MX1_fourSmall g) Q (0, [some (.ref x), some (.int a0), some (.int a1), some (.int a2), some (.int a3), some (.int a4)], [], w, 0, 0) := by
  obtain ⟨gc, gl, ⟨hx, hn, hc, hl, hgc, hgl, hn0, hn1, rx, rn, rc, rl, ⟨d1, d2, d3, d4, d5, d6⟩, ⟨d7, d8, d9, d10, d11, d12⟩⟩, hcd, hpl⟩ := hC.1.opn g
  simp only [eX1_fourSmall_0, eX1_fourSmall_4, wt_nil, wt_int, wt_ref, Nat.zero_add]
  with_reducible refine And.intro ?_ ?_
  omega
  with_reducible refine And.intro ?_ ?_
  omega
  with_reducible refine And.intro ?_ ?_
  omega
  with_reducible refine fX1_needCard (a0 := a0) (fun _ => ?_) (fun k0 => ?_)
  simp only [kx_r]
  with_reducible exact hX (fun h => absurd h (by assumption))
  simp only [kx_l, wt_nil, tl_n, Nat.add_zero]
  with_reducible refine And.intro ?_ ?_
  omega
  with_reducible refine And.intro ?_ ?_
  omega
  with_reducible refine And.intro ?_ ?_
  omega
  with_reducible refine fX0_ofFour (fun hno => ?_) (fun hyes q hq => ?_)
  simp only [eX1_fourSmall_19N, rx, kx_l, go_s, wt_nil, tl_s, true_and, Nat.add_zero]
  with_reducible refine And.intro ?_ ?_
  omega
  with_reducible refine And.intro ?_ ?_
  omega
  with_reducible refine And.intro ?_ ?_
  omega
  with_reducible refine fX1_giveN hC (fun w1 g1 g2 => ?_)
  simp only [eX1_fourSmall_22, kx_l, tl_s]
  with_reducible refine And.intro ?_ ?_
  omega
  with_reducible refine And.intro ?_ ?_
  omega
  with_reducible exact hF k0 hno w1 g1
  simp only [eX1_fourSmall_19R, kx_l, wt_nil, tl_s, Nat.add_zero]
  with_reducible refine And.intro ?_ ?_
  with_reducible exact go_5 (hC.ext (ext_up2 ext.rf hq))
  with_reducible refine And.intro ?_ ?_
  omega
  with_reducible refine And.intro ?_ ?_
  omega
  with_reducible refine And.intro ?_ ?_
  omega
  with_reducible refine fX1_giveR (hC.ext (ext_up2 ext.rf hq)) rAt_new k0.1 k0.2 (fun w1 g1 g2 => ?_)
  simp only [eX1_fourSmall_22, kx_l, tl_s]
  with_reducible refine And.intro ?_ ?_
  omega
  with_reducible refine And.intro ?_ ?_
  omega
  with_reducible exact hT k0 hyes w1 g1
set_option maxHeartbeats 4000000 in
theorem fX1_copyOf {p : Nat} {r : R4} (hp : rAt w p r) (hN : ¬ rOk r → Q (.inl (some .null)) w) (hQ : rOk r → ∀ q, rd g w q = none → Q (.inl (some (.ref q))) (upw w q (.inr (4, [.long r.1, .long r.2.1, .long r.2.2.1, .long r.2.2.2])))) : WP (MX1_copyOf g) Q (0, [some (.ref p)], [], w, 0, 0) := by
  simp only [eX1_copyOf_0, eX1_copyOf_4, eX1_copyOf_8, eX1_copyOf_12]
  with_reducible refine go_F (by assumption) ?_
  simp only [g0, ex1]
  with_reducible refine go_F (by assumption) ?_
  simp only [g0, gS, ex1]
  with_reducible refine go_F (by assumption) ?_
  simp only [g0, gS, ex1]
  with_reducible refine go_F (by assumption) ?_
  simp only [eX1_copyOf_16, wt_nil, g0, gS, ex1, Nat.zero_add]
  with_reducible refine And.intro ?_ ?_
  omega
  with_reducible refine And.intro ?_ ?_
  omega
  with_reducible refine And.intro ?_ ?_
  omega
  with_reducible refine fX0_ofFour (fun hno => ?_) (fun hyes q hq => ?_)
  simp only [eX1_copyOf_19N, kx_l, tl_s]
  with_reducible refine And.intro ?_ ?_
  omega
  with_reducible refine And.intro ?_ ?_
  omega
  with_reducible exact hN hno
  simp only [eX1_copyOf_19, kx_l, tl_s]
  with_reducible refine And.intro ?_ ?_
  omega
  with_reducible refine And.intro ?_ ?_
  omega
  with_reducible exact hQ hyes q hq
set_option maxHeartbeats 4000000 in
theorem fX1_outerOf {p : Nat} {r : R4} (hp : rAt w p r) (hN : ¬ oP r.1 r.1 r.2.2.2 r.2.2.2 → Q (.inl (some .null)) w) (hQ : oP r.1 r.1 r.2.2.2 r.2.2.2 → ∀ q, rd g w q = none → Q (.inl (some (.ref q))) (upw w q (.inr (4, [.long r.1, .long r.1, .long r.2.2.2, .long r.2.2.2])))) : WP (MX1_outerOf g) Q (0, [some (.ref p)], [], w, 0, 0) := by
  simp only [eX1_outerOf_0, eX1_outerOf_4]
  with_reducible refine go_F (by assumption) ?_
  simp only [g0, ex1]
  with_reducible refine go_F (by assumption) ?_
  simp only [eX1_outerOf_8, wt_nil, g0, gS, ex1, Nat.zero_add]
  with_reducible refine And.intro ?_ ?_
  omega
  with_reducible refine And.intro ?_ ?_
  omega
  with_reducible refine And.intro ?_ ?_
  omega
  with_reducible refine fX0_ofTwo (fun hno => ?_) (fun hyes q hq => ?_)
  simp only [eX1_outerOf_11N, kx_l, tl_s]
  with_reducible refine And.intro ?_ ?_
  omega
  with_reducible refine And.intro ?_ ?_
  omega
  with_reducible exact hN hno
  simp only [eX1_outerOf_11, kx_l, tl_s]
  with_reducible refine And.intro ?_ ?_
  omega
  with_reducible refine And.intro ?_ ?_
  omega
  with_reducible exact hQ hyes q hq
set_option maxHeartbeats 4000000 in
theorem fX1_inner {s : AS} {a0 a1 : Int32} (hC : CS g w0 x nA cA lA kn s w) (hX : ¬ (okC a0 ∧ okC a1) → (Q (.inr "java/lang/IndexOutOfBoundsException") w)) (hS : okC a0 → okC a1 → s.2.1 a1.toNatClampNeg = none → (Q (.inr "java/lang/IllegalStateException") w)) (hT : okC a0 → okC a1 → ∀ r, s.2.1 a1.toNatClampNeg = some r → oP r.2.1 r.2.1 r.2.2.1 r.2.2.1 → ∀ w', CS g w0 x nA cA lA kn (sMk s a0.toNatClampNeg (r.2.1, r.2.1, r.2.2.1, r.2.2.1)) w' → Q (.inl (some (.int 1))) w') (hF : okC a0 → okC a1 → ∀ r, s.2.1 a1.toNatClampNeg = some r → ¬ oP r.2.1 r.2.1 r.2.2.1 r.2.2.1 → ∀ w', CS g w0 x nA cA lA kn (sRf s) w' → Q (.inl (some (.int (-9)))) w') : WP (MX1_inner g) Q (0, [some (.ref x), some (.int a0), some (.int a1), none], [], w, 0, 0) := by
  obtain ⟨gc, gl, ⟨hx, hn, hc, hl, hgc, hgl, hn0, hn1, rx, rn, rc, rl, ⟨d1, d2, d3, d4, d5, d6⟩, ⟨d7, d8, d9, d10, d11, d12⟩⟩, hcd, hpl⟩ := hC.1.opn g
  simp only [eX1_inner_0, eX1_inner_4, wt_nil, Nat.zero_add]
  with_reducible refine And.intro ?_ ?_
  omega
  with_reducible refine And.intro ?_ ?_
  omega
  with_reducible refine And.intro ?_ ?_
  omega
  with_reducible refine fX1_needCard (a0 := a0) (fun _ => ?_) (fun k0 => ?_)
  simp only [kx_r]
  with_reducible exact hX (fun h => absurd h.1 (by assumption))
  simp only [rx, kx_l, go_s, wt_nil, tl_n, true_and]
  with_reducible refine And.intro ?_ ?_
  omega
  with_reducible refine And.intro ?_ ?_
  omega
  with_reducible refine And.intro ?_ ?_
  omega
  with_reducible refine fX1_rangeOf hC (fun _ => ?_) (fun k1 e1 => ?_) (fun k1 p r e1 hp => ?_)
  simp only [kx_r]
  with_reducible exact hX (fun h => absurd h.2 (by assumption))
  simp only [kx_r]
  with_reducible exact hS k0 k1 e1
  simp only [eX1_inner_9, eX1_inner_16, kx_l, nl_int, tl_s]
  with_reducible refine go_F hp ?_
  simp only [g0, gS, ex1]
  with_reducible refine go_F hp ?_
  simp only [eX1_inner_20, wt_nil, wt_int, wt_ref, g0, gS, ex1, Nat.add_zero]
  with_reducible refine And.intro ?_ ?_
  omega
  with_reducible refine And.intro ?_ ?_
  omega
  with_reducible refine And.intro ?_ ?_
  omega
  with_reducible refine fX0_ofTwo (fun hno => ?_) (fun hyes q hq => ?_)
  simp only [eX1_inner_23N, rx, kx_l, go_s, wt_nil, tl_s, true_and, Nat.add_zero]
  with_reducible refine And.intro ?_ ?_
  omega
  with_reducible refine And.intro ?_ ?_
  omega
  with_reducible refine And.intro ?_ ?_
  omega
  with_reducible refine fX1_giveN hC (fun w1 g1 g2 => ?_)
  simp only [eX1_inner_26, kx_l, tl_s]
  with_reducible refine And.intro ?_ ?_
  omega
  with_reducible refine And.intro ?_ ?_
  omega
  with_reducible exact hF k0 k1 r e1 hno w1 g1
  simp only [eX1_inner_23R, kx_l, wt_nil, tl_s, Nat.add_zero]
  with_reducible refine And.intro ?_ ?_
  with_reducible exact go_5 (hC.ext (ext_up2 ext.rf hq))
  with_reducible refine And.intro ?_ ?_
  omega
  with_reducible refine And.intro ?_ ?_
  omega
  with_reducible refine And.intro ?_ ?_
  omega
  with_reducible refine fX1_giveR (hC.ext (ext_up2 ext.rf hq)) rAt_new k0.1 k0.2 (fun w1 g1 g2 => ?_)
  simp only [eX1_inner_26, kx_l, tl_s]
  with_reducible refine And.intro ?_ ?_
  omega
  with_reducible refine And.intro ?_ ?_
  omega
  with_reducible exact hT k0 k1 r e1 hyes w1 g1
set_option maxHeartbeats 4000000 in
theorem fX1_shift {s : AS} {a0 a1 : Int32} (hC : CS g w0 x nA cA lA kn s w) (hX : ¬ okC a0 → (Q (.inr "java/lang/IndexOutOfBoundsException") w)) (hS : okC a0 → s.2.1 a0.toNatClampNeg = none → (Q (.inr "java/lang/IllegalStateException") w)) (hT : okC a0 → ∀ r, s.2.1 a0.toNatClampNeg = some r → oP (r.1 + a1.toInt64) (r.2.1 + a1.toInt64) (r.2.2.1 + a1.toInt64) (r.2.2.2 + a1.toInt64) → ∀ w', CS g w0 x nA cA lA kn (sMk s a0.toNatClampNeg (r.1 + a1.toInt64, r.2.1 + a1.toInt64, r.2.2.1 + a1.toInt64, r.2.2.2 + a1.toInt64)) w' → Q (.inl (some (.int 1))) w') (hF : okC a0 → ∀ r, s.2.1 a0.toNatClampNeg = some r → ¬ oP (r.1 + a1.toInt64) (r.2.1 + a1.toInt64) (r.2.2.1 + a1.toInt64) (r.2.2.2 + a1.toInt64) → ∀ w', CS g w0 x nA cA lA kn (sRf s) w' → Q (.inl (some (.int (-9)))) w') : WP (MX1_shift g) Q (0, [some (.ref x), some (.int a0), some (.int a1), none], [], w, 0, 0) := by
  obtain ⟨gc, gl, ⟨hx, hn, hc, hl, hgc, hgl, hn0, hn1, rx, rn, rc, rl, ⟨d1, d2, d3, d4, d5, d6⟩, ⟨d7, d8, d9, d10, d11, d12⟩⟩, hcd, hpl⟩ := hC.1.opn g
  simp only [eX1_shift_0, rx, go_s, wt_nil, true_and, Nat.zero_add]
  with_reducible refine And.intro ?_ ?_
  omega
  with_reducible refine And.intro ?_ ?_
  omega
  with_reducible refine And.intro ?_ ?_
  omega
  with_reducible refine fX1_rangeOf hC (fun _ => ?_) (fun k0 e1 => ?_) (fun k0 p r e1 hp => ?_)
  simp only [kx_r]
  with_reducible exact hX (by assumption)
  simp only [kx_r]
  with_reducible exact hS k0 e1
  simp only [eX1_shift_5, eX1_shift_12, kx_l, nl_int, tl_s]
  with_reducible refine go_F hp ?_
  simp only [eX1_shift_14, eX1_shift_19, g0, ex1]
  with_reducible refine go_F hp ?_
  simp only [eX1_shift_21, eX1_shift_26, g0, gS, ex1]
  with_reducible refine go_F hp ?_
  simp only [eX1_shift_28, eX1_shift_33, g0, gS, ex1]
  with_reducible refine go_F hp ?_
  simp only [eX1_shift_35, wt_nil, wt_int, wt_ref, g0, gS, ex1, Nat.add_zero]
  with_reducible refine And.intro ?_ ?_
  omega
  with_reducible refine And.intro ?_ ?_
  omega
  with_reducible refine And.intro ?_ ?_
  omega
  with_reducible refine fX0_ofFour (fun hno => ?_) (fun hyes q hq => ?_)
  simp only [eX1_shift_39N, rx, kx_l, go_s, wt_nil, tl_s, true_and, Nat.add_zero]
  with_reducible refine And.intro ?_ ?_
  omega
  with_reducible refine And.intro ?_ ?_
  omega
  with_reducible refine And.intro ?_ ?_
  omega
  with_reducible refine fX1_giveN hC (fun w1 g1 g2 => ?_)
  simp only [eX1_shift_42, kx_l, tl_s]
  with_reducible refine And.intro ?_ ?_
  omega
  with_reducible refine And.intro ?_ ?_
  omega
  with_reducible exact hF k0 r e1 hno w1 g1
  simp only [eX1_shift_39R, kx_l, wt_nil, tl_s, Nat.add_zero]
  with_reducible refine And.intro ?_ ?_
  with_reducible exact go_5 (hC.ext (ext_up2 ext.rf hq))
  with_reducible refine And.intro ?_ ?_
  omega
  with_reducible refine And.intro ?_ ?_
  omega
  with_reducible refine And.intro ?_ ?_
  omega
  with_reducible refine fX1_giveR (hC.ext (ext_up2 ext.rf hq)) rAt_new k0.1 k0.2 (fun w1 g1 g2 => ?_)
  simp only [eX1_shift_42, kx_l, tl_s]
  with_reducible refine And.intro ?_ ?_
  omega
  with_reducible refine And.intro ?_ ?_
  omega
  with_reducible exact hT k0 r e1 hyes w1 g1
set_option maxHeartbeats 4000000 in
theorem fX1_span {s : AS} {a0 a1 a2 : Int32} (hC : CS g w0 x nA cA lA kn s w) (hX : ¬ (okC a0 ∧ okC a1 ∧ okC a2) → (Q (.inr "java/lang/IndexOutOfBoundsException") w)) (hS : okC a0 → okC a1 → okC a2 → (s.2.1 a1.toNatClampNeg = none ∨ s.2.1 a2.toNatClampNeg = none) → (Q (.inr "java/lang/IllegalStateException") w)) (hT : okC a0 → okC a1 → okC a2 → ∀ r q, s.2.1 a1.toNatClampNeg = some r → s.2.1 a2.toNatClampNeg = some q → oP r.1 r.2.1 q.2.2.1 q.2.2.2 → ∀ w', CS g w0 x nA cA lA kn (sMk s a0.toNatClampNeg (r.1, r.2.1, q.2.2.1, q.2.2.2)) w' → Q (.inl (some (.int 1))) w') (hF : okC a0 → okC a1 → okC a2 → ∀ r q, s.2.1 a1.toNatClampNeg = some r → s.2.1 a2.toNatClampNeg = some q → ¬ oP r.1 r.2.1 q.2.2.1 q.2.2.2 → ∀ w', CS g w0 x nA cA lA kn (sRf s) w' → Q (.inl (some (.int (-9)))) w') : WP (MX1_span g) Q (0, [some (.ref x), some (.int a0), some (.int a1), some (.int a2), none, none], [], w, 0, 0) := by
  obtain ⟨gc, gl, ⟨hx, hn, hc, hl, hgc, hgl, hn0, hn1, rx, rn, rc, rl, ⟨d1, d2, d3, d4, d5, d6⟩, ⟨d7, d8, d9, d10, d11, d12⟩⟩, hcd, hpl⟩ := hC.1.opn g
  simp only [eX1_span_0, eX1_span_4, eX1_span_8, eX1_span_12, wt_nil, Nat.zero_add]
  with_reducible refine And.intro ?_ ?_
  omega
  with_reducible refine And.intro ?_ ?_
  omega
  with_reducible refine And.intro ?_ ?_
  omega
  with_reducible refine fX1_needCard (a0 := a0) (fun _ => ?_) (fun k0 => ?_)
  simp only [kx_r]
  with_reducible exact hX (fun h => absurd h.1 (by assumption))
  simp only [kx_l, wt_nil, tl_n]
  with_reducible refine And.intro ?_ ?_
  omega
  with_reducible refine And.intro ?_ ?_
  omega
  with_reducible refine And.intro ?_ ?_
  omega
  with_reducible refine fX1_needCard (a0 := a1) (fun _ => ?_) (fun k1 => ?_)
  simp only [kx_r]
  with_reducible exact hX (fun h => absurd h.2.1 (by assumption))
  simp only [kx_l, wt_nil, tl_n]
  with_reducible refine And.intro ?_ ?_
  omega
  with_reducible refine And.intro ?_ ?_
  omega
  with_reducible refine And.intro ?_ ?_
  omega
  with_reducible refine fX1_needCard (a0 := a2) (fun _ => ?_) (fun k2 => ?_)
  simp only [kx_r]
  with_reducible exact hX (fun h => absurd h.2.2 (by assumption))
  simp only [rx, kx_l, go_s, wt_nil, tl_n, true_and]
  with_reducible refine And.intro ?_ ?_
  omega
  with_reducible refine And.intro ?_ ?_
  omega
  with_reducible refine And.intro ?_ ?_
  omega
  with_reducible refine fX1_rangeOf (a0 := a1) hC (fun _ => ?_) (fun _ e1 => ?_) (fun _ p r e1 hp => ?_)
  simp only [kx_r]
  with_reducible exact hX (fun h => absurd h.2.1 (by assumption))
  simp only [kx_r]
  with_reducible exact hS k0 k1 k2 (Or.inl e1)
  simp only [eX1_span_17, eX1_span_20, rx, kx_l, go_s, wt_nil, nl_int, tl_s, true_and]
  with_reducible refine And.intro ?_ ?_
  omega
  with_reducible refine And.intro ?_ ?_
  omega
  with_reducible refine And.intro ?_ ?_
  omega
  with_reducible refine fX1_rangeOf (a0 := a2) hC (fun _ => ?_) (fun _ e2 => ?_) (fun _ p2 r2 e2 hp2 => ?_)
  simp only [kx_r]
  with_reducible exact hX (fun h => absurd h.2.2 (by assumption))
  simp only [kx_r]
  with_reducible exact hS k0 k1 k2 (Or.inr e2)
  simp only [eX1_span_24, eX1_span_28, eX1_span_33, eX1_span_38, eX1_span_43, kx_l, nl_ref, tl_s]
  with_reducible refine go_F hp ?_
  simp only [g0, ex1]
  with_reducible refine go_F hp ?_
  simp only [g0, gS, ex1]
  with_reducible refine go_F hp2 ?_
  simp only [g0, gS, ex1]
  with_reducible refine go_F hp2 ?_
  simp only [eX1_span_48, wt_nil, wt_int, wt_ref, g0, gS, ex1, Nat.add_zero]
  with_reducible refine And.intro ?_ ?_
  omega
  with_reducible refine And.intro ?_ ?_
  omega
  with_reducible refine And.intro ?_ ?_
  omega
  with_reducible refine fX0_ofFour (fun hno => ?_) (fun hyes q hq => ?_)
  simp only [eX1_span_51N, rx, kx_l, go_s, wt_nil, tl_s, true_and, Nat.add_zero]
  with_reducible refine And.intro ?_ ?_
  omega
  with_reducible refine And.intro ?_ ?_
  omega
  with_reducible refine And.intro ?_ ?_
  omega
  with_reducible refine fX1_giveN hC (fun w1 g1 g2 => ?_)
  simp only [eX1_span_54, kx_l, tl_s]
  with_reducible refine And.intro ?_ ?_
  omega
  with_reducible refine And.intro ?_ ?_
  omega
  with_reducible exact hF k0 k1 k2 r r2 e1 e2 hno w1 g1
  simp only [eX1_span_51R, kx_l, wt_nil, tl_s, Nat.add_zero]
  with_reducible refine And.intro ?_ ?_
  with_reducible exact go_5 (hC.ext (ext_up2 ext.rf hq))
  with_reducible refine And.intro ?_ ?_
  omega
  with_reducible refine And.intro ?_ ?_
  omega
  with_reducible refine And.intro ?_ ?_
  omega
  with_reducible refine fX1_giveR (hC.ext (ext_up2 ext.rf hq)) rAt_new k0.1 k0.2 (fun w1 g1 g2 => ?_)
  simp only [eX1_span_54, kx_l, tl_s]
  with_reducible refine And.intro ?_ ?_
  omega
  with_reducible refine And.intro ?_ ?_
  omega
  with_reducible exact hT k0 k1 k2 r r2 e1 e2 hyes w1 g1
end
end
/-! 71.fn5.lean.txt -/
section
section
variable {g : RO} {Q : Ot → Hw → Prop} {w0 w : Hw} {x nA cA lA : Nat} {kn : Int32}
def fsum (f : Nat → Int32) : Nat → Int32
  | 0 => 0
  | n + 1 => fsum f n + f n
theorem bI01 (b : Bool) : bI b = 0 ∨ bI b = 1 := by cases b <;> first | exact Or.inl rfl | exact Or.inr rfl
theorem oN1 {j : Nat} : Int32.ofNat j + 1 = Int32.ofNat (j + 1) := (nI_succ j).symm
theorem oNt {j : Nat} (h : j < 1000) : (Int32.ofNat j).toInt = (j : Int) := nI_toInt (by omega)
theorem oNc {j : Nat} (h : j < 1000) : (Int32.ofNat j).toNatClampNeg = j := nI_clamp (by omega)
theorem oN0 {j : Nat} (h : j < 1000) : ¬ Int32.ofNat j < 0 := i32_of_nlt (by
  rw [oNt h]
  show (0 : Int) ≤ (j : Int)
  omega)
theorem oNl {j : Nat} {b : Int32} {B : Nat} (h : j < 1000) (e : b.toInt = (B : Int)) (k : j < B) : Int32.ofNat j < b := i32_of_lt (by rw [oNt h, e]; omega)
theorem oNg {j : Nat} {b : Int32} {B : Nat} (h : j < 1000) (e : b.toInt = (B : Int)) (k : B ≤ j) : ¬ Int32.ofNat j < b := i32_of_nlt (by rw [oNt h, e]; omega)
theorem vX0_holds {p : Nat} {r : R4} {a0 : Int64} (hp : rAt w p r) (hQ : Q (.inl (some (.int (bI (decide (hP r a0)))))) w) : WP (MX0_holds g) Q (0, [some (.ref p), some (.long a0), none], [], w, 0, 0) := fX0_holds hp (fun h => by rw [decide_eq_true h] at hQ; exact hQ) (fun h => by rw [decide_eq_false h] at hQ; exact hQ)
theorem vX0_holdsAsSmall {p : Nat} {r : R4} {a0 : Int64} (hp : rAt w p r) (hQ : Q (.inl (some (.int (bI (decide (sP r ∧ hP r a0)))))) w) : WP (MX0_holdsAsSmall g) Q (0, [some (.ref p), some (.long a0), none], [], w, 0, 0) := fX0_holdsAsSmall hp (fun h => by rw [decide_eq_true h] at hQ; exact hQ) (fun h => by rw [decide_eq_false h] at hQ; exact hQ)
theorem vX0_holdsAs {p : Nat} {r : R4} {a0 : Int64} {a1 : Int32} (hp : rAt w p r) (hQ : Q (.inl (some (.int (bI (decide ((a1 = 0 ∨ sP r) ∧ hP r a0)))))) w) : WP (MX0_holdsAs g) Q (0, [some (.ref p), some (.long a0), none, some (.int a1)], [], w, 0, 0) := fX0_holdsAs hp (fun h => by rw [decide_eq_true h] at hQ; exact hQ) (fun h => by rw [decide_eq_false h] at hQ; exact hQ)
theorem vX1_isSmallNumber {a0 : Int64} (hQ : Q (.inl (some (.int (bI (decide (-2147483648 ≤ a0.toInt ∧ a0.toInt ≤ 2147483647)))))) w) : WP (MX1_isSmallNumber g) Q (0, [some (.long a0), none], [], w, 0, 0) := fX1_isSmallNumber (fun h => by rw [decide_eq_true h] at hQ; exact hQ) (fun h => by rw [decide_eq_false h] at hQ; exact hQ)
/-- how many ends are small numbers -/
def seV (r : R4) : Int32 := fsum (fun j => bI (decide (-2147483648 ≤ (eV r (Int32.ofNat j)).toInt ∧ (eV r (Int32.ofNat j)).toInt ≤ 2147483647))) 4
set_option maxHeartbeats 4000000 in
theorem flX1_smallEnds_4 {p : Nat} {r : R4} (hp : rAt w p r) (hQ : Q (.inl (some (.int (seV r)))) w) : ∀ (d j : Nat)  (k m : Nat), j + d = 4 → k ≤ 0 → m ≤ 0 → WP (MX1_smallEnds g) Q (4, [some (.ref p), some (.int (fsum (fun j => bI (decide (-2147483648 ≤ (eV r (Int32.ofNat j)).toInt ∧ (eV r (Int32.ofNat j)).toInt ≤ 2147483647))) j)), some (.int (Int32.ofNat j))], [], w, k, m) := by
  intro d
  induction d with
  | zero =>
    intro j  k m hjd hk hm
    have h9 : j < 1000 := (by omega)
    have hlt : ¬ Int32.ofNat j < 4 := oNg (B := 4) h9 rfl (by omega)
    have hnn := oN0 h9
    have hcl := oNc h9
    obtain rfl : j = 4 := by omega
    rw [eX1_smallEnds_4]
    simp only [eX1_smallEnds_5, eX1_smallEnds_9, eX1_smallEnds_29, if_false, hlt, ite_le, wt_nil, wt_int, Nat.add_zero]
    with_reducible refine And.intro ?_ ?_
    with_reducible assumption
    with_reducible refine And.intro ?_ ?_
    with_reducible assumption
    ((with_reducible refine isQ (Q := Q) ?_); exact hQ)
  | succ d ih =>
    intro j  k m hjd hk hm
    have h9 : j < 1000 := (by omega)
    have hlt : Int32.ofNat j < 4 := oNl (B := 4) h9 rfl (by omega)
    have hnn := oN0 h9
    have hcl := oNc h9
    rw [eX1_smallEnds_4]
    simp only [eX1_smallEnds_5, eX1_smallEnds_9, eX1_smallEnds_29, if_true, hlt, ite_le, wt_nil, wt_int, Nat.add_zero]
    with_reducible refine And.intro ?_ ?_
    with_reducible exact go_F hp trivial
    with_reducible refine And.intro ?_ ?_
    omega
    with_reducible refine And.intro ?_ ?_
    with_reducible assumption
    with_reducible refine And.intro ?_ ?_
    with_reducible assumption
    with_reducible refine fX0_endAt hp ?_
    simp only [eX1_smallEnds_15, kx_l, wt_nil, wt_int, tl_s, Nat.add_zero]
    with_reducible refine And.intro ?_ ?_
    omega
    with_reducible refine And.intro ?_ ?_
    with_reducible assumption
    with_reducible refine And.intro ?_ ?_
    with_reducible assumption
    with_reducible refine vX1_isSmallNumber ?_
    simp only [eX1_smallEnds_18, kx_l, wt_nil, wt_int, tl_s, Nat.add_zero]
    with_reducible refine And.intro ?_ ?_
    omega
    with_reducible refine And.intro ?_ ?_
    with_reducible assumption
    with_reducible refine And.intro ?_ ?_
    with_reducible assumption
    with_reducible refine fX1_asNumber (bI01 _) ?_
    simp only [eX1_smallEnds_21, kx_l, nl_int, nl_ref, tl_s]
    (rw [oN1]; exact ih (j + 1)  _ _ (by omega) (by first | assumption | omega) (by first | assumption | omega))
set_option maxHeartbeats 4000000 in
theorem fX1_smallEnds {p : Nat} {r : R4} (hp : rAt w p r) (hQ : Q (.inl (some (.int (seV r)))) w) : WP (MX1_smallEnds g) Q (0, [some (.ref p), none, none], [], w, 0, 0) := by
  simp only [eX1_smallEnds_0, nl_int, nl_ref]
  ((with_reducible refine isWP (pc := 4) ?_); exact flX1_smallEnds_4 hp hQ 4 0 _ _ rfl (by decide) (by decide))
end
end
/-! 71.fn6.lean.txt -/
section
section
variable {g : RO} {Q : Ot → Hw → Prop} {w0 w : Hw} {x nA cA lA : Nat} {kn : Int32}
theorem sOk.c {s : AS} {a : Int32} {r : R4} (h : sOk s) (k : okC a) (e : s.2.1 a.toNatClampNeg = some r) : rOk r := h.1 _ _ (c6 k) e
theorem oOut {r : R4} (h : rOk r) : oP r.1 r.1 r.2.2.2 r.2.2.2 := by
  obtain ⟨h1, h2, h3, h4⟩ := h
  exact ⟨Int.le_refl _, Int.le_refl _, by omega, by omega⟩
theorem mOut {r : R4} (h : mP r (r.1, r.1, r.2.2.2, r.2.2.2)) : fP r := ⟨h.2.1.symm, h.2.2.1⟩
theorem mOutN {r : R4} (h : ¬ mP r (r.1, r.1, r.2.2.2, r.2.2.2)) : ¬ fP r := fun k => h ⟨rfl, k.1.symm, k.2, rfl⟩
set_option maxHeartbeats 4000000 in
theorem fX1_again {s : AS} {a0 a1 : Int32} (hC : CS g w0 x nA cA lA kn s w) (ho : sOk s) (hX : ¬ (okC a0 ∧ okC a1) → (Q (.inr "java/lang/IndexOutOfBoundsException") w)) (hS : okC a0 → okC a1 → s.2.1 a1.toNatClampNeg = none → (Q (.inr "java/lang/IllegalStateException") w)) (hQ : okC a0 → okC a1 → ∀ r, s.2.1 a1.toNatClampNeg = some r → ∀ w', CS g w0 x nA cA lA kn (sMk s a0.toNatClampNeg r) w' → Q (.inl (some (.int (seV r)))) w') : WP (MX1_again g) Q (0, [some (.ref x), some (.int a0), some (.int a1), none], [], w, 0, 0) := by
  obtain ⟨gc, gl, ⟨hx, hn, hc, hl, hgc, hgl, hn0, hn1, rx, rn, rc, rl, ⟨d1, d2, d3, d4, d5, d6⟩, ⟨d7, d8, d9, d10, d11, d12⟩⟩, hcd, hpl⟩ := hC.1.opn g
  simp only [eX1_again_0, eX1_again_4, wt_nil, Nat.zero_add]
  with_reducible refine And.intro ?_ ?_
  omega
  with_reducible refine And.intro ?_ ?_
  omega
  with_reducible refine And.intro ?_ ?_
  omega
  with_reducible refine fX1_needCard (a0 := a0) (fun _ => ?_) (fun k0 => ?_)
  simp only [kx_r]
  with_reducible exact hX (fun h => absurd h.1 (by assumption))
  simp only [rx, kx_l, go_s, wt_nil, tl_n, true_and]
  with_reducible refine And.intro ?_ ?_
  omega
  with_reducible refine And.intro ?_ ?_
  omega
  with_reducible refine And.intro ?_ ?_
  omega
  with_reducible refine fX1_rangeOf (a0 := a1) hC (fun _ => ?_) (fun k1 e1 => ?_) (fun k1 p r e1 hp => ?_)
  simp only [kx_r]
  with_reducible exact hX (fun h => absurd h.2 (by assumption))
  simp only [kx_r]
  with_reducible exact hS k0 k1 e1
  simp only [eX1_again_9, kx_l, wt_nil, wt_int, wt_ref, nl_int, tl_s, Nat.add_zero]
  with_reducible refine And.intro ?_ ?_
  omega
  with_reducible refine And.intro ?_ ?_
  omega
  with_reducible refine And.intro ?_ ?_
  omega
  with_reducible refine fX1_copyOf hp (fun hno => ?_) (fun hyes q hq => ?_)
  with_reducible exact absurd (ho.c k1 e1) hno
  simp only [eX1_again_16R, kx_l, wt_nil, tl_s, Nat.add_zero]
  with_reducible refine And.intro ?_ ?_
  with_reducible exact go_5 (hC.ext (ext_up2 ext.rf hq))
  with_reducible refine And.intro ?_ ?_
  omega
  with_reducible refine And.intro ?_ ?_
  omega
  with_reducible refine And.intro ?_ ?_
  omega
  with_reducible refine fX1_giveR (hC.ext (ext_up2 ext.rf hq)) rAt_new k0.1 k0.2 (fun w1 g1 g2 => ?_)
  simp only [eX1_again_19, kx_l, wt_nil, tl_s, Nat.add_zero]
  with_reducible refine And.intro ?_ ?_
  omega
  with_reducible refine And.intro ?_ ?_
  omega
  with_reducible refine And.intro ?_ ?_
  omega
  with_reducible refine fX1_smallEnds (g2 _ _ (hp.ext (ext_up2 ext.rf hq))) ?_
  simp only [eX1_again_24, kx_l, tl_s]
  with_reducible refine And.intro ?_ ?_
  omega
  with_reducible refine And.intro ?_ ?_
  omega
  ((with_reducible refine isQ (Q := Q) ?_); exact hQ k0 k1 r e1 w1 g1)
set_option maxHeartbeats 4000000 in
theorem fX1_outer {s : AS} {a0 a1 : Int32} (hC : CS g w0 x nA cA lA kn s w) (ho : sOk s) (hX : ¬ (okC a0 ∧ okC a1) → (Q (.inr "java/lang/IndexOutOfBoundsException") w)) (hS : okC a0 → okC a1 → s.2.1 a1.toNatClampNeg = none → (Q (.inr "java/lang/IllegalStateException") w)) (hT : okC a0 → okC a1 → ∀ r, s.2.1 a1.toNatClampNeg = some r → fP r → ∀ w', CS g w0 x nA cA lA kn (sMk s a0.toNatClampNeg (r.1, r.1, r.2.2.2, r.2.2.2)) w' → Q (.inl (some (.int 1))) w') (hF : okC a0 → okC a1 → ∀ r, s.2.1 a1.toNatClampNeg = some r → ¬ fP r → ∀ w', CS g w0 x nA cA lA kn (sMk s a0.toNatClampNeg (r.1, r.1, r.2.2.2, r.2.2.2)) w' → Q (.inl (some (.int 0))) w') : WP (MX1_outer g) Q (0, [some (.ref x), some (.int a0), some (.int a1), none, none], [], w, 0, 0) := by
  obtain ⟨gc, gl, ⟨hx, hn, hc, hl, hgc, hgl, hn0, hn1, rx, rn, rc, rl, ⟨d1, d2, d3, d4, d5, d6⟩, ⟨d7, d8, d9, d10, d11, d12⟩⟩, hcd, hpl⟩ := hC.1.opn g
  simp only [eX1_outer_0, eX1_outer_4, wt_nil, Nat.zero_add]
  with_reducible refine And.intro ?_ ?_
  omega
  with_reducible refine And.intro ?_ ?_
  omega
  with_reducible refine And.intro ?_ ?_
  omega
  with_reducible refine fX1_needCard (a0 := a0) (fun _ => ?_) (fun k0 => ?_)
  simp only [kx_r]
  with_reducible exact hX (fun h => absurd h.1 (by assumption))
  simp only [rx, kx_l, go_s, wt_nil, tl_n, true_and]
  with_reducible refine And.intro ?_ ?_
  omega
  with_reducible refine And.intro ?_ ?_
  omega
  with_reducible refine And.intro ?_ ?_
  omega
  with_reducible refine fX1_rangeOf (a0 := a1) hC (fun _ => ?_) (fun k1 e1 => ?_) (fun k1 p r e1 hp => ?_)
  simp only [kx_r]
  with_reducible exact hX (fun h => absurd h.2 (by assumption))
  simp only [kx_r]
  with_reducible exact hS k0 k1 e1
  simp only [eX1_outer_9, kx_l, wt_nil, nl_int, tl_s]
  with_reducible refine And.intro ?_ ?_
  omega
  with_reducible refine And.intro ?_ ?_
  omega
  with_reducible refine And.intro ?_ ?_
  omega
  with_reducible refine fX1_outerOf hp (fun hno => ?_) (fun hyes q hq => ?_)
  with_reducible exact absurd (oOut (ho.c k1 e1)) hno
  simp only [eX1_outer_14, kx_l, wt_nil, nl_ref, tl_s, Nat.add_zero]
  with_reducible refine And.intro ?_ ?_
  with_reducible exact go_5 (hC.ext (ext_up2 ext.rf hq))
  with_reducible refine And.intro ?_ ?_
  omega
  with_reducible refine And.intro ?_ ?_
  omega
  with_reducible refine And.intro ?_ ?_
  omega
  with_reducible refine fX1_giveR (hC.ext (ext_up2 ext.rf hq)) rAt_new k0.1 k0.2 (fun w1 g1 g2 => ?_)
  simp only [eX1_outer_23, kx_l, wt_nil, tl_s, Nat.add_zero]
  with_reducible refine And.intro ?_ ?_
  with_reducible exact go_F (g2 _ _ (hp.ext (ext_up2 ext.rf hq))) trivial
  with_reducible refine And.intro ?_ ?_
  omega
  with_reducible refine And.intro ?_ ?_
  omega
  with_reducible refine And.intro ?_ ?_
  omega
  with_reducible refine fX0_matchesR (g2 _ _ (hp.ext (ext_up2 ext.rf hq))) (g2 _ _ rAt_new) (fun hm => ?_) (fun hm => ?_)
  simp only [eX1_outer_30, eX1_outer_33, eX1_outer_37, eX1_outer_38, i10, if_false, kx_l, tl_s]
  with_reducible refine And.intro ?_ ?_
  omega
  with_reducible refine And.intro ?_ ?_
  omega
  with_reducible exact hT k0 k1 r e1 (mOut hm) w1 g1
  simp only [eX1_outer_30, eX1_outer_33, eX1_outer_37, eX1_outer_38, if_true, kx_l, tl_s]
  with_reducible refine And.intro ?_ ?_
  omega
  with_reducible refine And.intro ?_ ?_
  omega
  with_reducible exact hF k0 k1 r e1 (mOutN hm) w1 g1
set_option maxHeartbeats 4000000 in
theorem fX1_same {s : AS} {a0 a1 : Int32} (hC : CS g w0 x nA cA lA kn s w) (hX : ¬ (okC a0 ∧ okC a1) → (Q (.inr "java/lang/IndexOutOfBoundsException") w)) (hS : okC a0 → okC a1 → s.2.1 a1.toNatClampNeg = none → (Q (.inr "java/lang/IllegalStateException") w)) (hN : okC a0 → okC a1 → ∀ r, s.2.1 a1.toNatClampNeg = some r → s.2.1 a0.toNatClampNeg = none → ∀ w', CS g w0 x nA cA lA kn (sC s (va_up s.2.1 a0.toNatClampNeg (some r))) w' → Q (.inl (some (.int (-1)))) w') (hT : okC a0 → okC a1 → ∀ r, s.2.1 a1.toNatClampNeg = some r → ∀ q, s.2.1 a0.toNatClampNeg = some q → mP q r → ∀ w', CS g w0 x nA cA lA kn (sC s (va_up s.2.1 a0.toNatClampNeg (some r))) w' → Q (.inl (some (.int 1))) w') (hF : okC a0 → okC a1 → ∀ r, s.2.1 a1.toNatClampNeg = some r → ∀ q, s.2.1 a0.toNatClampNeg = some q → ¬ mP q r → ∀ w', CS g w0 x nA cA lA kn (sC s (va_up s.2.1 a0.toNatClampNeg (some r))) w' → Q (.inl (some (.int 0))) w') : WP (MX1_same g) Q (0, [some (.ref x), some (.int a0), some (.int a1), none, none], [], w, 0, 0) := by
  obtain ⟨gc, gl, ⟨hx, hn, hc, hl, hgc, hgl, hn0, hn1, rx, rn, rc, rl, ⟨d1, d2, d3, d4, d5, d6⟩, ⟨d7, d8, d9, d10, d11, d12⟩⟩, hcd, hpl⟩ := hC.1.opn g
  simp only [eX1_same_0, eX1_same_4, wt_nil, Nat.zero_add]
  with_reducible refine And.intro ?_ ?_
  omega
  with_reducible refine And.intro ?_ ?_
  omega
  with_reducible refine And.intro ?_ ?_
  omega
  with_reducible refine fX1_needCard (a0 := a0) (fun _ => ?_) (fun k0 => ?_)
  simp only [kx_r]
  with_reducible exact hX (fun h => absurd h.1 (by assumption))
  simp only [rx, kx_l, go_s, wt_nil, tl_n, true_and]
  with_reducible refine And.intro ?_ ?_
  omega
  with_reducible refine And.intro ?_ ?_
  omega
  with_reducible refine And.intro ?_ ?_
  omega
  with_reducible refine fX1_rangeOf (a0 := a1) hC (fun _ => ?_) (fun k1 e1 => ?_) (fun k1 p r e1 hp => ?_)
  simp only [kx_r]
  with_reducible exact hX (fun h => absurd h.2 (by assumption))
  simp only [kx_r]
  with_reducible exact hS k0 k1 e1
  simp only [eX1_same_9, eX1_same_14, eX1_same_16, eX1_same_16N, eX1_same_18, eX1_same_22, eX1_same_25, eX1_same_25N, eX1_same_27R, eX1_same_27N, eX1_same_30, eX1_same_32, rx, rc, hc, n45, or_false, false_and, kx_l, go_s, gq_s, wt_nil, nl_int, nl_ref, rf_st, tl_s, g0, gS, ex1, true_and, Nat.add_zero]
  with_reducible refine And.intro ?_ ?_
  with_reducible exact vpi6 k0.1 k0.2
  with_reducible refine And.intro ?_ ?_
  with_reducible intro _
  with_reducible refine And.intro ?_ ?_
  with_reducible exact vpi6 k0.1 k0.2
  with_reducible refine And.intro ?_ ?_
  with_reducible exact go_Fw hp trivial
  with_reducible refine And.intro ?_ ?_
  omega
  with_reducible refine And.intro ?_ ?_
  omega
  ((with_reducible refine isQ (Q := Q) ?_); exact hN k0 k1 r e1 (cdN hcd k0 (by assumption)) _ (hC.card gc hc a0.toNatClampNeg (some p) (some r) hp))
  with_reducible intro _
  with_reducible intro _
  with_reducible refine And.intro ?_ ?_
  with_reducible exact vpi6 k0.1 k0.2
  with_reducible refine And.intro ?_ ?_
  with_reducible exact go_Fw hp trivial
  with_reducible refine And.intro ?_ ?_
  (obtain ⟨q0, e0, hq0⟩ := cdS hcd k0 (by assumption); with_reducible exact go_F (rAt_up2 hq0 hc (by simp)) trivial)
  with_reducible refine And.intro ?_ ?_
  omega
  with_reducible refine And.intro ?_ ?_
  omega
  with_reducible refine And.intro ?_ ?_
  omega
  (obtain ⟨q0, e0, hq0⟩ := cdS hcd k0 (by assumption); with_reducible refine fX0_matchesR (rAt_up2 hq0 hc (by simp)) (rAt_up2 hp hc (by simp)) (fun hm => ?_) (fun hm => ?_))
  simp only [eX1_same_38, eX1_same_41, eX1_same_45, eX1_same_46, i10, if_false, kx_l, tl_s]
  with_reducible refine And.intro ?_ ?_
  omega
  with_reducible refine And.intro ?_ ?_
  omega
  ((with_reducible refine isQ (Q := Q) ?_); exact hT k0 k1 r e1 q0 e0 hm _ (hC.card gc hc a0.toNatClampNeg (some p) (some r) hp))
  simp only [eX1_same_38, eX1_same_41, eX1_same_45, eX1_same_46, if_true, kx_l, tl_s]
  with_reducible refine And.intro ?_ ?_
  omega
  with_reducible refine And.intro ?_ ?_
  omega
  ((with_reducible refine isQ (Q := Q) ?_); exact hF k0 k1 r e1 q0 e0 hm _ (hC.card gc hc a0.toNatClampNeg (some p) (some r) hp))
set_option maxHeartbeats 4000000 in
theorem fX1_drop {s : AS} {a0 : Int32} (hC : CS g w0 x nA cA lA kn s w) (hX : ¬ okC a0 → (Q (.inr "java/lang/IndexOutOfBoundsException") w)) (hN : okC a0 → s.2.1 a0.toNatClampNeg = none → ∀ w', CS g w0 x nA cA lA kn (sC s (va_up s.2.1 a0.toNatClampNeg none)) w' → Q (.inl (some (.int 0))) w') (hS : okC a0 → ∀ r, s.2.1 a0.toNatClampNeg = some r → ∀ w', CS g w0 x nA cA lA kn (sC s (va_up s.2.1 a0.toNatClampNeg none)) w' → Q (.inl (some (.int 1))) w') : WP (MX1_drop g) Q (0, [some (.ref x), some (.int a0), none], [], w, 0, 0) := by
  obtain ⟨gc, gl, ⟨hx, hn, hc, hl, hgc, hgl, hn0, hn1, rx, rn, rc, rl, ⟨d1, d2, d3, d4, d5, d6⟩, ⟨d7, d8, d9, d10, d11, d12⟩⟩, hcd, hpl⟩ := hC.1.opn g
  simp only [eX1_drop_0, eX1_drop_4, eX1_drop_8, wt_nil, Nat.zero_add]
  with_reducible refine And.intro ?_ ?_
  omega
  with_reducible refine And.intro ?_ ?_
  omega
  with_reducible refine And.intro ?_ ?_
  omega
  with_reducible refine fX1_needCard (a0 := a0) (fun _ => ?_) (fun k0 => ?_)
  simp only [kx_r]
  with_reducible exact hX (by assumption)
  simp only [eX1_drop_9, eX1_drop_10R, eX1_drop_10N, eX1_drop_13, eX1_drop_17, eX1_drop_18, rx, rc, n45, or_false, kx_l, go_s, gq_s, wt_nil, rf_st, tl_n, g0, gS, ex1, true_and, Nat.add_zero]
  with_reducible refine And.intro ?_ ?_
  with_reducible exact vpi6 k0.1 k0.2
  with_reducible refine And.intro ?_ ?_
  with_reducible intro _
  with_reducible refine And.intro ?_ ?_
  omega
  with_reducible refine And.intro ?_ ?_
  omega
  with_reducible refine And.intro ?_ ?_
  omega
  with_reducible refine fX1_asNumber (Or.inl rfl) ?_
  simp only [eX1_drop_21, eX1_drop_26, eX1_drop_29, rx, hc, n45, or_false, kx_l, go_s, gq_s, nl_int, tl_s, g0, gS, ex1, true_and]
  with_reducible refine And.intro ?_ ?_
  with_reducible exact vpi6 k0.1 k0.2
  with_reducible refine And.intro ?_ ?_
  omega
  with_reducible refine And.intro ?_ ?_
  omega
  ((with_reducible refine isQ (Q := Q) ?_); exact hN k0 (cdN hcd k0 (by assumption)) _ (hC.card gc hc a0.toNatClampNeg none none trivial))
  with_reducible intro _
  with_reducible intro _
  with_reducible refine And.intro ?_ ?_
  omega
  with_reducible refine And.intro ?_ ?_
  omega
  with_reducible refine And.intro ?_ ?_
  omega
  with_reducible refine fX1_asNumber (Or.inr rfl) ?_
  simp only [eX1_drop_21, eX1_drop_26, eX1_drop_29, rx, hc, n45, or_false, kx_l, go_s, gq_s, nl_int, tl_s, g0, gS, ex1, true_and]
  with_reducible refine And.intro ?_ ?_
  with_reducible exact vpi6 k0.1 k0.2
  with_reducible refine And.intro ?_ ?_
  omega
  with_reducible refine And.intro ?_ ?_
  omega
  ((with_reducible refine isQ (Q := Q) ?_); exact (cdS hcd k0 (by assumption)).elim (fun r h => hS k0 r h.1 _ (hC.card gc hc a0.toNatClampNeg none none trivial)))
end
end
/-! 71.fn7.lean.txt -/
section
section
variable {g : RO} {Q : Ot → Hw → Prop} {w0 w : Hw} {x nA cA lA : Nat} {kn : Int32}
set_option maxHeartbeats 4000000 in
theorem fX1_take {s : AS} {a0 a1 a2 : Int32} (hC : CS g w0 x nA cA lA kn s w) (hX : ¬ (okC a0 ∧ okN a2) → (Q (.inr "java/lang/IndexOutOfBoundsException") w)) (hW : okC a0 → okN a2 → ¬ okW a1 3 → (Q (.inr "java/lang/IllegalArgumentException") w)) (hS : okC a0 → okN a2 → okW a1 3 → s.2.1 a0.toNatClampNeg = none → (Q (.inr "java/lang/IllegalStateException") w)) (hQ : okC a0 → okN a2 → okW a1 3 → ∀ r, s.2.1 a0.toNatClampNeg = some r → ∀ w', CS g w0 x nA cA lA kn (sN s (vp_updL s.1 a2.toNatClampNeg (eV r a1))) w' → Q (.inl (some (.int (loV (eV r a1))))) w') : WP (MX1_take g) Q (0, [some (.ref x), some (.int a0), some (.int a1), some (.int a2)], [], w, 0, 0) := by
  obtain ⟨gc, gl, ⟨hx, hn, hc, hl, hgc, hgl, hn0, hn1, rx, rn, rc, rl, ⟨d1, d2, d3, d4, d5, d6⟩, ⟨d7, d8, d9, d10, d11, d12⟩⟩, hcd, hpl⟩ := hC.1.opn g
  simp only [eX1_take_0, eX1_take_4, eX1_take_8, eX1_take_13, eX1_take_20, wt_nil, wt_int, wt_ref, Nat.zero_add]
  with_reducible refine And.intro ?_ ?_
  omega
  with_reducible refine And.intro ?_ ?_
  omega
  with_reducible refine And.intro ?_ ?_
  omega
  with_reducible refine fX1_needCard (a0 := a0) (fun _ => ?_) (fun k0 => ?_)
  simp only [kx_r]
  with_reducible exact hX (fun h => absurd h.1 (by assumption))
  simp only [kx_l, wt_nil, tl_n]
  with_reducible refine And.intro ?_ ?_
  omega
  with_reducible refine And.intro ?_ ?_
  omega
  with_reducible refine And.intro ?_ ?_
  omega
  with_reducible refine fX1_needNumber (a0 := a2) (fun _ => ?_) (fun k2 => ?_)
  simp only [kx_r]
  with_reducible exact hX (fun h => absurd h.2 (by assumption))
  simp only [kx_l, wt_nil, tl_n]
  with_reducible refine And.intro ?_ ?_
  omega
  with_reducible refine And.intro ?_ ?_
  omega
  with_reducible refine And.intro ?_ ?_
  omega
  with_reducible refine fX1_needChoice (fun hnw => ?_) (fun hw => ?_)
  simp only [kx_r]
  with_reducible exact hW k0 k2 hnw
  simp only [rx, kx_l, go_s, wt_nil, tl_n, true_and, Nat.add_zero]
  with_reducible refine And.intro ?_ ?_
  omega
  with_reducible refine And.intro ?_ ?_
  omega
  with_reducible refine And.intro ?_ ?_
  omega
  with_reducible refine fX1_rangeOf (a0 := a0) hC (fun _ => ?_) (fun _ e1 => ?_) (fun _ p r e1 hp => ?_)
  simp only [kx_r]
  with_reducible exact hX (fun h => absurd h.1 (by assumption))
  simp only [kx_r]
  with_reducible exact hS k0 k2 hw e1
  simp only [eX1_take_21, kx_l, wt_nil, wt_int, wt_ref, tl_s, Nat.add_zero]
  with_reducible refine And.intro ?_ ?_
  with_reducible refine go_F hp ?_
  with_reducible exact trivial
  with_reducible refine And.intro ?_ ?_
  omega
  with_reducible refine And.intro ?_ ?_
  omega
  with_reducible refine And.intro ?_ ?_
  omega
  with_reducible refine fX0_endAt hp ?_
  simp only [eX1_take_24, rx, kx_l, go_s, wt_nil, tl_s, true_and, Nat.add_zero]
  with_reducible refine And.intro ?_ ?_
  omega
  with_reducible refine And.intro ?_ ?_
  omega
  with_reducible refine And.intro ?_ ?_
  omega
  with_reducible refine fX1_putNumber hC k2.1 k2.2 (fun w1 g1 => ?_)
  simp only [eX1_take_27, kx_l, tl_s]
  with_reducible refine And.intro ?_ ?_
  omega
  with_reducible refine And.intro ?_ ?_
  omega
  with_reducible exact hQ k0 k2 hw r e1 w1 g1
set_option maxHeartbeats 4000000 in
theorem fX1_end {s : AS} {a0 a1 a2 : Int32} (hC : CS g w0 x nA cA lA kn s w) (hX : ¬ okC a0 → (Q (.inr "java/lang/IndexOutOfBoundsException") w)) (hW : okC a0 → ¬ okW a1 3 → (Q (.inr "java/lang/IllegalArgumentException") w)) (hS : okC a0 → okW a1 3 → s.2.1 a0.toNatClampNeg = none → (Q (.inr "java/lang/IllegalStateException") w)) (hQ : okC a0 → okW a1 3 → ∀ r, s.2.1 a0.toNatClampNeg = some r → Q (.inl (some (.int (hfV (eV r a1) a2)))) w) : WP (MX1_end g) Q (0, [some (.ref x), some (.int a0), some (.int a1), some (.int a2)], [], w, 0, 0) := by
  obtain ⟨gc, gl, ⟨hx, hn, hc, hl, hgc, hgl, hn0, hn1, rx, rn, rc, rl, ⟨d1, d2, d3, d4, d5, d6⟩, ⟨d7, d8, d9, d10, d11, d12⟩⟩, hcd, hpl⟩ := hC.1.opn g
  simp only [eX1_end_0, eX1_end_4, eX1_end_9, eX1_end_14, wt_nil, Nat.zero_add]
  with_reducible refine And.intro ?_ ?_
  omega
  with_reducible refine And.intro ?_ ?_
  omega
  with_reducible refine And.intro ?_ ?_
  omega
  with_reducible refine fX1_needCard (a0 := a0) (fun _ => ?_) (fun k0 => ?_)
  simp only [kx_r]
  with_reducible exact hX (by assumption)
  simp only [kx_l, wt_nil, tl_n]
  with_reducible refine And.intro ?_ ?_
  omega
  with_reducible refine And.intro ?_ ?_
  omega
  with_reducible refine And.intro ?_ ?_
  omega
  with_reducible refine fX1_needChoice (fun hnw => ?_) (fun hw => ?_)
  simp only [kx_r]
  with_reducible exact hW k0 hnw
  simp only [rx, kx_l, go_s, wt_nil, tl_n, true_and]
  with_reducible refine And.intro ?_ ?_
  omega
  with_reducible refine And.intro ?_ ?_
  omega
  with_reducible refine And.intro ?_ ?_
  omega
  with_reducible refine fX1_rangeOf (a0 := a0) hC (fun _ => ?_) (fun _ e1 => ?_) (fun _ p r e1 hp => ?_)
  simp only [kx_r]
  with_reducible exact hX (by assumption)
  simp only [kx_r]
  with_reducible exact hS k0 hw e1
  simp only [eX1_end_15, eX1_end_18, kx_l, wt_nil, tl_s, Nat.add_zero]
  with_reducible refine And.intro ?_ ?_
  with_reducible refine go_F hp ?_
  with_reducible exact trivial
  with_reducible refine And.intro ?_ ?_
  omega
  with_reducible refine And.intro ?_ ?_
  omega
  with_reducible refine And.intro ?_ ?_
  omega
  with_reducible refine fX0_endAt hp ?_
  simp only [eX1_end_19, kx_l, wt_nil, tl_s, Nat.add_zero]
  with_reducible refine And.intro ?_ ?_
  omega
  with_reducible refine And.intro ?_ ?_
  omega
  with_reducible refine And.intro ?_ ?_
  omega
  with_reducible refine fX1_halfOf ?_
  simp only [eX1_end_22, kx_l, tl_s]
  with_reducible refine And.intro ?_ ?_
  omega
  with_reducible refine And.intro ?_ ?_
  omega
  with_reducible exact hQ k0 hw r e1
set_option maxHeartbeats 4000000 in
theorem fX1_isThere {s : AS} {a0 : Int32} (hC : CS g w0 x nA cA lA kn s w) (hX : ¬ okC a0 → (Q (.inr "java/lang/IndexOutOfBoundsException") w)) (hF : okC a0 → s.2.1 a0.toNatClampNeg = none → Q (.inl (some (.int 0))) w) (hT : okC a0 → ∀ r, s.2.1 a0.toNatClampNeg = some r → Q (.inl (some (.int 1))) w) : WP (MX1_isThere g) Q (0, [some (.ref x), some (.int a0)], [], w, 0, 0) := by
  obtain ⟨gc, gl, ⟨hx, hn, hc, hl, hgc, hgl, hn0, hn1, rx, rn, rc, rl, ⟨d1, d2, d3, d4, d5, d6⟩, ⟨d7, d8, d9, d10, d11, d12⟩⟩, hcd, hpl⟩ := hC.1.opn g
  simp only [eX1_isThere_0, eX1_isThere_4, eX1_isThere_8, wt_nil, Nat.zero_add]
  with_reducible refine And.intro ?_ ?_
  omega
  with_reducible refine And.intro ?_ ?_
  omega
  with_reducible refine And.intro ?_ ?_
  omega
  with_reducible refine fX1_needCard (a0 := a0) (fun _ => ?_) (fun k0 => ?_)
  simp only [kx_r]
  with_reducible exact hX (by assumption)
  simp only [eX1_isThere_9, eX1_isThere_10R, eX1_isThere_10N, eX1_isThere_13, eX1_isThere_17, eX1_isThere_18, rx, rc, n45, or_false, kx_l, go_s, gq_s, rf_st, tl_n, g0, gS, ex1, nb_0, nb_1, true_and]
  with_reducible refine And.intro ?_ ?_
  with_reducible exact vpi6 k0.1 k0.2
  with_reducible refine And.intro ?_ ?_
  with_reducible intro _
  with_reducible refine And.intro ?_ ?_
  omega
  with_reducible refine And.intro ?_ ?_
  omega
  with_reducible exact hF k0 (cdN hcd k0 (by assumption))
  with_reducible intro _
  with_reducible intro _
  with_reducible refine And.intro ?_ ?_
  omega
  with_reducible refine And.intro ?_ ?_
  omega
  with_reducible exact (cdS hcd k0 (by assumption)).elim (fun r h => hT k0 r h.1)
set_option maxHeartbeats 4000000 in
theorem fX1_isFixed {s : AS} {a0 : Int32} (hC : CS g w0 x nA cA lA kn s w) (hX : ¬ okC a0 → (Q (.inr "java/lang/IndexOutOfBoundsException") w)) (hS : okC a0 → s.2.1 a0.toNatClampNeg = none → (Q (.inr "java/lang/IllegalStateException") w)) (hT : okC a0 → ∀ r, s.2.1 a0.toNatClampNeg = some r → fP r → Q (.inl (some (.int 1))) w) (hF : okC a0 → ∀ r, s.2.1 a0.toNatClampNeg = some r → ¬ (fP r) → Q (.inl (some (.int 0))) w) : WP (MX1_isFixed g) Q (0, [some (.ref x), some (.int a0)], [], w, 0, 0) := by
  obtain ⟨gc, gl, ⟨hx, hn, hc, hl, hgc, hgl, hn0, hn1, rx, rn, rc, rl, ⟨d1, d2, d3, d4, d5, d6⟩, ⟨d7, d8, d9, d10, d11, d12⟩⟩, hcd, hpl⟩ := hC.1.opn g
  simp only [eX1_isFixed_0, rx, go_s, wt_nil, true_and, Nat.zero_add]
  with_reducible refine And.intro ?_ ?_
  omega
  with_reducible refine And.intro ?_ ?_
  omega
  with_reducible refine And.intro ?_ ?_
  omega
  with_reducible refine fX1_rangeOf (a0 := a0) hC (fun _ => ?_) (fun k0 e1 => ?_) (fun k0 p r e1 hp => ?_)
  simp only [kx_r]
  with_reducible exact hX (by assumption)
  simp only [kx_r]
  with_reducible exact hS k0 e1
  simp only [eX1_isFixed_5, kx_l, wt_nil, tl_s, Nat.add_zero]
  with_reducible refine And.intro ?_ ?_
  with_reducible refine go_F hp ?_
  with_reducible exact trivial
  with_reducible refine And.intro ?_ ?_
  omega
  with_reducible refine And.intro ?_ ?_
  omega
  with_reducible refine And.intro ?_ ?_
  omega
  with_reducible refine fX0_isSettled hp (fun hm => ?_) (fun hm => ?_)
  simp only [eX1_isFixed_8, kx_l, tl_s, nb_1, true_and]
  with_reducible refine And.intro ?_ ?_
  omega
  with_reducible refine And.intro ?_ ?_
  omega
  with_reducible exact hT k0 r e1 hm
  simp only [eX1_isFixed_8, kx_l, tl_s, nb_0, true_and]
  with_reducible refine And.intro ?_ ?_
  omega
  with_reducible refine And.intro ?_ ?_
  omega
  with_reducible exact hF k0 r e1 hm
set_option maxHeartbeats 4000000 in
theorem fX1_isSmall {s : AS} {a0 : Int32} (hC : CS g w0 x nA cA lA kn s w) (hX : ¬ okC a0 → (Q (.inr "java/lang/IndexOutOfBoundsException") w)) (hS : okC a0 → s.2.1 a0.toNatClampNeg = none → (Q (.inr "java/lang/IllegalStateException") w)) (hT : okC a0 → ∀ r, s.2.1 a0.toNatClampNeg = some r → sP r → Q (.inl (some (.int 1))) w) (hF : okC a0 → ∀ r, s.2.1 a0.toNatClampNeg = some r → ¬ (sP r) → Q (.inl (some (.int 0))) w) : WP (MX1_isSmall g) Q (0, [some (.ref x), some (.int a0)], [], w, 0, 0) := by
  obtain ⟨gc, gl, ⟨hx, hn, hc, hl, hgc, hgl, hn0, hn1, rx, rn, rc, rl, ⟨d1, d2, d3, d4, d5, d6⟩, ⟨d7, d8, d9, d10, d11, d12⟩⟩, hcd, hpl⟩ := hC.1.opn g
  simp only [eX1_isSmall_0, rx, go_s, wt_nil, true_and, Nat.zero_add]
  with_reducible refine And.intro ?_ ?_
  omega
  with_reducible refine And.intro ?_ ?_
  omega
  with_reducible refine And.intro ?_ ?_
  omega
  with_reducible refine fX1_rangeOf (a0 := a0) hC (fun _ => ?_) (fun k0 e1 => ?_) (fun k0 p r e1 hp => ?_)
  simp only [kx_r]
  with_reducible exact hX (by assumption)
  simp only [kx_r]
  with_reducible exact hS k0 e1
  simp only [eX1_isSmall_5, kx_l, wt_nil, tl_s, Nat.add_zero]
  with_reducible refine And.intro ?_ ?_
  with_reducible refine go_F hp ?_
  with_reducible exact trivial
  with_reducible refine And.intro ?_ ?_
  omega
  with_reducible refine And.intro ?_ ?_
  omega
  with_reducible refine And.intro ?_ ?_
  omega
  with_reducible refine fX0_fitsSmall hp (fun hm => ?_) (fun hm => ?_)
  simp only [eX1_isSmall_8, kx_l, tl_s, nb_1, true_and]
  with_reducible refine And.intro ?_ ?_
  omega
  with_reducible refine And.intro ?_ ?_
  omega
  with_reducible exact hT k0 r e1 hm
  simp only [eX1_isSmall_8, kx_l, tl_s, nb_0, true_and]
  with_reducible refine And.intro ?_ ?_
  omega
  with_reducible refine And.intro ?_ ?_
  omega
  with_reducible exact hF k0 r e1 hm
set_option maxHeartbeats 4000000 in
theorem fX1_isValid {s : AS} {a0 a1 : Int32} (hC : CS g w0 x nA cA lA kn s w) (hX : ¬ (okC a0 ∧ okN a1) → (Q (.inr "java/lang/IndexOutOfBoundsException") w)) (hS : okC a0 → okN a1 → s.2.1 a0.toNatClampNeg = none → (Q (.inr "java/lang/IllegalStateException") w)) (hT : okC a0 → okN a1 → ∀ r, s.2.1 a0.toNatClampNeg = some r → hP r (s.1 a1.toNatClampNeg) → Q (.inl (some (.int 1))) w) (hF : okC a0 → okN a1 → ∀ r, s.2.1 a0.toNatClampNeg = some r → ¬ (hP r (s.1 a1.toNatClampNeg)) → Q (.inl (some (.int 0))) w) : WP (MX1_isValid g) Q (0, [some (.ref x), some (.int a0), some (.int a1)], [], w, 0, 0) := by
  obtain ⟨gc, gl, ⟨hx, hn, hc, hl, hgc, hgl, hn0, hn1, rx, rn, rc, rl, ⟨d1, d2, d3, d4, d5, d6⟩, ⟨d7, d8, d9, d10, d11, d12⟩⟩, hcd, hpl⟩ := hC.1.opn g
  simp only [eX1_isValid_0, eX1_isValid_4, eX1_isValid_8, eX1_isValid_13, eX1_isValid_17, wt_nil, Nat.zero_add]
  with_reducible refine And.intro ?_ ?_
  omega
  with_reducible refine And.intro ?_ ?_
  omega
  with_reducible refine And.intro ?_ ?_
  omega
  with_reducible refine fX1_needCard (a0 := a0) (fun _ => ?_) (fun k0 => ?_)
  simp only [kx_r]
  with_reducible exact hX (fun h => absurd h.1 (by assumption))
  simp only [kx_l, wt_nil, tl_n]
  with_reducible refine And.intro ?_ ?_
  omega
  with_reducible refine And.intro ?_ ?_
  omega
  with_reducible refine And.intro ?_ ?_
  omega
  with_reducible refine fX1_needNumber (a0 := a1) (fun _ => ?_) (fun k1 => ?_)
  simp only [kx_r]
  with_reducible exact hX (fun h => absurd h.2 (by assumption))
  simp only [rx, kx_l, go_s, wt_nil, tl_n, true_and]
  with_reducible refine And.intro ?_ ?_
  omega
  with_reducible refine And.intro ?_ ?_
  omega
  with_reducible refine And.intro ?_ ?_
  omega
  with_reducible refine fX1_rangeOf (a0 := a0) hC (fun _ => ?_) (fun _ e1 => ?_) (fun _ p r e1 hp => ?_)
  simp only [kx_r]
  with_reducible exact hX (fun h => absurd h.1 (by assumption))
  simp only [kx_r]
  with_reducible exact hS k0 k1 e1
  simp only [eX1_isValid_18, eX1_isValid_19, rx, rn, kx_l, go_s, gl_s, wt_nil, tl_s, g0, ex1, Nat.add_zero]
  with_reducible refine And.intro ?_ ?_
  with_reducible exact vpi8 k1.1 k1.2
  with_reducible refine And.intro ?_ ?_
  with_reducible refine go_F hp ?_
  with_reducible exact trivial
  with_reducible refine And.intro ?_ ?_
  omega
  with_reducible refine And.intro ?_ ?_
  omega
  with_reducible refine And.intro ?_ ?_
  omega
  with_reducible refine fX0_holds hp (fun hm => ?_) (fun hm => ?_)
  simp only [eX1_isValid_22, kx_l, tl_s, nb_1, true_and]
  with_reducible refine And.intro ?_ ?_
  omega
  with_reducible refine And.intro ?_ ?_
  omega
  with_reducible exact hT k0 k1 r e1 hm
  simp only [eX1_isValid_22, kx_l, tl_s, nb_0, true_and]
  with_reducible refine And.intro ?_ ?_
  omega
  with_reducible refine And.intro ?_ ?_
  omega
  with_reducible exact hF k0 k1 r e1 hm
set_option maxHeartbeats 4000000 in
theorem fX1_isValidSmall {s : AS} {a0 a1 : Int32} (hC : CS g w0 x nA cA lA kn s w) (hX : ¬ (okC a0 ∧ okN a1) → (Q (.inr "java/lang/IndexOutOfBoundsException") w)) (hS : okC a0 → okN a1 → s.2.1 a0.toNatClampNeg = none → (Q (.inr "java/lang/IllegalStateException") w)) (hT : okC a0 → okN a1 → ∀ r, s.2.1 a0.toNatClampNeg = some r → (sP r ∧ hP r (s.1 a1.toNatClampNeg)) → Q (.inl (some (.int 1))) w) (hF : okC a0 → okN a1 → ∀ r, s.2.1 a0.toNatClampNeg = some r → ¬ ((sP r ∧ hP r (s.1 a1.toNatClampNeg))) → Q (.inl (some (.int 0))) w) : WP (MX1_isValidSmall g) Q (0, [some (.ref x), some (.int a0), some (.int a1)], [], w, 0, 0) := by
  obtain ⟨gc, gl, ⟨hx, hn, hc, hl, hgc, hgl, hn0, hn1, rx, rn, rc, rl, ⟨d1, d2, d3, d4, d5, d6⟩, ⟨d7, d8, d9, d10, d11, d12⟩⟩, hcd, hpl⟩ := hC.1.opn g
  simp only [eX1_isValidSmall_0, eX1_isValidSmall_4, eX1_isValidSmall_8, eX1_isValidSmall_13, eX1_isValidSmall_17, wt_nil, Nat.zero_add]
  with_reducible refine And.intro ?_ ?_
  omega
  with_reducible refine And.intro ?_ ?_
  omega
  with_reducible refine And.intro ?_ ?_
  omega
  with_reducible refine fX1_needCard (a0 := a0) (fun _ => ?_) (fun k0 => ?_)
  simp only [kx_r]
  with_reducible exact hX (fun h => absurd h.1 (by assumption))
  simp only [kx_l, wt_nil, tl_n]
  with_reducible refine And.intro ?_ ?_
  omega
  with_reducible refine And.intro ?_ ?_
  omega
  with_reducible refine And.intro ?_ ?_
  omega
  with_reducible refine fX1_needNumber (a0 := a1) (fun _ => ?_) (fun k1 => ?_)
  simp only [kx_r]
  with_reducible exact hX (fun h => absurd h.2 (by assumption))
  simp only [rx, kx_l, go_s, wt_nil, tl_n, true_and]
  with_reducible refine And.intro ?_ ?_
  omega
  with_reducible refine And.intro ?_ ?_
  omega
  with_reducible refine And.intro ?_ ?_
  omega
  with_reducible refine fX1_rangeOf (a0 := a0) hC (fun _ => ?_) (fun _ e1 => ?_) (fun _ p r e1 hp => ?_)
  simp only [kx_r]
  with_reducible exact hX (fun h => absurd h.1 (by assumption))
  simp only [kx_r]
  with_reducible exact hS k0 k1 e1
  simp only [eX1_isValidSmall_18, eX1_isValidSmall_19, rx, rn, kx_l, go_s, gl_s, wt_nil, tl_s, g0, ex1, Nat.add_zero]
  with_reducible refine And.intro ?_ ?_
  with_reducible exact vpi8 k1.1 k1.2
  with_reducible refine And.intro ?_ ?_
  with_reducible refine go_F hp ?_
  with_reducible exact trivial
  with_reducible refine And.intro ?_ ?_
  omega
  with_reducible refine And.intro ?_ ?_
  omega
  with_reducible refine And.intro ?_ ?_
  omega
  with_reducible refine fX0_holdsAsSmall hp (fun hm => ?_) (fun hm => ?_)
  simp only [eX1_isValidSmall_22, kx_l, tl_s, nb_1, true_and]
  with_reducible refine And.intro ?_ ?_
  omega
  with_reducible refine And.intro ?_ ?_
  omega
  with_reducible exact hT k0 k1 r e1 hm
  simp only [eX1_isValidSmall_22, kx_l, tl_s, nb_0, true_and]
  with_reducible refine And.intro ?_ ?_
  omega
  with_reducible refine And.intro ?_ ?_
  omega
  with_reducible exact hF k0 k1 r e1 hm
def wV (r : R4) (v : Int64) : Int32 := bI (decide (hP r v)) + bI (decide (sP r ∧ hP r v))
def nV (r : R4) (v : Int64) (a : Int32) : Int32 := bI (decide ((a = 0 ∨ sP r) ∧ hP r (v - 1))) + 2 * bI (decide ((a = 0 ∨ sP r) ∧ hP r v)) + 4 * bI (decide ((a = 0 ∨ sP r) ∧ hP r (v + 1)))
set_option maxHeartbeats 4000000 in
theorem fX1_validityIn {p : Nat} {r : R4} {a0 : Int64} (hp : rAt w p r) (hQ : Q (.inl (some (.int (wV r a0)))) w) : WP (MX1_validityIn g) Q (0, [some (.ref p), some (.long a0), none], [], w, 0, 0) := by
  simp only [eX1_validityIn_0, wt_nil, Nat.add_zero]
  with_reducible refine And.intro ?_ ?_
  with_reducible exact go_F (by assumption) trivial
  with_reducible refine And.intro ?_ ?_
  omega
  with_reducible refine And.intro ?_ ?_
  omega
  with_reducible refine And.intro ?_ ?_
  omega
  with_reducible refine vX0_holds hp ?_
  simp only [eX1_validityIn_5, eX1_validityIn_8, kx_l, wt_nil, tl_s, Nat.add_zero]
  with_reducible refine And.intro ?_ ?_
  omega
  with_reducible refine And.intro ?_ ?_
  omega
  with_reducible refine And.intro ?_ ?_
  omega
  with_reducible refine fX1_asNumber (bI01 _) ?_
  simp only [kx_l, wt_nil, wt_int, tl_s, Nat.add_zero]
  with_reducible refine And.intro ?_ ?_
  with_reducible exact go_F (by assumption) trivial
  with_reducible refine And.intro ?_ ?_
  omega
  with_reducible refine And.intro ?_ ?_
  omega
  with_reducible refine And.intro ?_ ?_
  omega
  with_reducible refine vX0_holdsAsSmall hp ?_
  simp only [eX1_validityIn_13, kx_l, wt_nil, wt_int, tl_s, Nat.add_zero]
  with_reducible refine And.intro ?_ ?_
  omega
  with_reducible refine And.intro ?_ ?_
  omega
  with_reducible refine And.intro ?_ ?_
  omega
  with_reducible refine fX1_asNumber (bI01 _) ?_
  simp only [eX1_validityIn_16, kx_l, tl_s]
  with_reducible refine And.intro ?_ ?_
  omega
  with_reducible refine And.intro ?_ ?_
  omega
  ((with_reducible refine isQ (Q := Q) ?_); exact hQ)
set_option maxHeartbeats 4000000 in
theorem fX1_neighboursIn {p : Nat} {r : R4} {a0 : Int64} {a1 : Int32} (hp : rAt w p r) (hQ : Q (.inl (some (.int (nV r a0 a1)))) w) : WP (MX1_neighboursIn g) Q (0, [some (.ref p), some (.long a0), none, some (.int a1)], [], w, 0, 0) := by
  simp only [eX1_neighboursIn_0, wt_nil, Nat.add_zero]
  with_reducible refine And.intro ?_ ?_
  with_reducible exact go_F (by assumption) trivial
  with_reducible refine And.intro ?_ ?_
  omega
  with_reducible refine And.intro ?_ ?_
  omega
  with_reducible refine And.intro ?_ ?_
  omega
  with_reducible refine vX0_holdsAs hp ?_
  simp only [eX1_neighboursIn_8, eX1_neighboursIn_11, kx_l, wt_nil, wt_int, tl_s, Nat.add_zero]
  with_reducible refine And.intro ?_ ?_
  omega
  with_reducible refine And.intro ?_ ?_
  omega
  with_reducible refine And.intro ?_ ?_
  omega
  with_reducible refine fX1_asNumber (bI01 _) ?_
  simp only [kx_l, wt_nil, wt_int, tl_s, Nat.add_zero]
  with_reducible refine And.intro ?_ ?_
  with_reducible exact go_F (by assumption) trivial
  with_reducible refine And.intro ?_ ?_
  omega
  with_reducible refine And.intro ?_ ?_
  omega
  with_reducible refine And.intro ?_ ?_
  omega
  with_reducible refine vX0_holdsAs hp ?_
  simp only [eX1_neighboursIn_18, kx_l, wt_nil, wt_int, tl_s, Nat.add_zero]
  with_reducible refine And.intro ?_ ?_
  omega
  with_reducible refine And.intro ?_ ?_
  omega
  with_reducible refine And.intro ?_ ?_
  omega
  with_reducible refine fX1_asNumber (bI01 _) ?_
  simp only [eX1_neighboursIn_21, kx_l, wt_nil, wt_int, tl_s, Nat.add_zero]
  with_reducible refine And.intro ?_ ?_
  with_reducible exact go_F (by assumption) trivial
  with_reducible refine And.intro ?_ ?_
  omega
  with_reducible refine And.intro ?_ ?_
  omega
  with_reducible refine And.intro ?_ ?_
  omega
  with_reducible refine vX0_holdsAs hp ?_
  simp only [eX1_neighboursIn_32, kx_l, wt_nil, wt_int, tl_s, Nat.add_zero]
  with_reducible refine And.intro ?_ ?_
  omega
  with_reducible refine And.intro ?_ ?_
  omega
  with_reducible refine And.intro ?_ ?_
  omega
  with_reducible refine fX1_asNumber (bI01 _) ?_
  simp only [eX1_neighboursIn_35, kx_l, tl_s]
  with_reducible refine And.intro ?_ ?_
  omega
  with_reducible refine And.intro ?_ ?_
  omega
  ((with_reducible refine isQ (Q := Q) ?_); exact hQ)
set_option maxHeartbeats 4000000 in
theorem fX1_whichValid {s : AS} {a0 a1 : Int32} (hC : CS g w0 x nA cA lA kn s w) (hX : ¬ okC a0 → (Q (.inr "java/lang/IndexOutOfBoundsException") w)) (hS : okC a0 → s.2.1 a0.toNatClampNeg = none → (Q (.inr "java/lang/IllegalStateException") w)) (hQ : okC a0 → ∀ r, s.2.1 a0.toNatClampNeg = some r → Q (.inl (some (.int (wV r a1.toInt64)))) w) : WP (MX1_whichValid g) Q (0, [some (.ref x), some (.int a0), some (.int a1)], [], w, 0, 0) := by
  obtain ⟨gc, gl, ⟨hx, hn, hc, hl, hgc, hgl, hn0, hn1, rx, rn, rc, rl, ⟨d1, d2, d3, d4, d5, d6⟩, ⟨d7, d8, d9, d10, d11, d12⟩⟩, hcd, hpl⟩ := hC.1.opn g
  simp only [eX1_whichValid_0, eX1_whichValid_5, rx, go_s, wt_nil, true_and, Nat.zero_add]
  with_reducible refine And.intro ?_ ?_
  omega
  with_reducible refine And.intro ?_ ?_
  omega
  with_reducible refine And.intro ?_ ?_
  omega
  with_reducible refine fX1_rangeOf (a0 := a0) hC (fun _ => ?_) (fun k0 e1 => ?_) (fun k0 p r e1 hp => ?_)
  simp only [kx_r]
  with_reducible exact hX (by assumption)
  simp only [kx_r]
  with_reducible exact hS k0 e1
  simp only [eX1_whichValid_7R, kx_l, wt_nil, tl_s, Nat.add_zero]
  with_reducible refine And.intro ?_ ?_
  omega
  with_reducible refine And.intro ?_ ?_
  omega
  with_reducible refine And.intro ?_ ?_
  omega
  with_reducible refine fX1_validityIn hp ?_
  simp only [eX1_whichValid_10, kx_l, tl_s]
  with_reducible refine And.intro ?_ ?_
  omega
  with_reducible refine And.intro ?_ ?_
  omega
  with_reducible exact hQ k0 r e1
set_option maxHeartbeats 4000000 in
theorem fX1_around {s : AS} {a0 a1 a2 : Int32} (hC : CS g w0 x nA cA lA kn s w) (hX : ¬ okC a0 → (Q (.inr "java/lang/IndexOutOfBoundsException") w)) (hW : okC a0 → ¬ okW a1 3 → (Q (.inr "java/lang/IllegalArgumentException") w)) (hS : okC a0 → okW a1 3 → s.2.1 a0.toNatClampNeg = none → (Q (.inr "java/lang/IllegalStateException") w)) (hQ : okC a0 → okW a1 3 → ∀ r, s.2.1 a0.toNatClampNeg = some r → Q (.inl (some (.int (nV r (eV r a1) a2)))) w) : WP (MX1_around g) Q (0, [some (.ref x), some (.int a0), some (.int a1), some (.int a2), none], [], w, 0, 0) := by
  obtain ⟨gc, gl, ⟨hx, hn, hc, hl, hgc, hgl, hn0, hn1, rx, rn, rc, rl, ⟨d1, d2, d3, d4, d5, d6⟩, ⟨d7, d8, d9, d10, d11, d12⟩⟩, hcd, hpl⟩ := hC.1.opn g
  simp only [eX1_around_0, eX1_around_4, eX1_around_9, wt_nil, Nat.zero_add]
  with_reducible refine And.intro ?_ ?_
  omega
  with_reducible refine And.intro ?_ ?_
  omega
  with_reducible refine And.intro ?_ ?_
  omega
  with_reducible refine fX1_needCard (a0 := a0) (fun _ => ?_) (fun k0 => ?_)
  simp only [kx_r]
  with_reducible exact hX (by assumption)
  simp only [kx_l, wt_nil, tl_n]
  with_reducible refine And.intro ?_ ?_
  omega
  with_reducible refine And.intro ?_ ?_
  omega
  with_reducible refine And.intro ?_ ?_
  omega
  with_reducible refine fX1_needChoice (fun hnw => ?_) (fun hw => ?_)
  simp only [kx_r]
  with_reducible exact hW k0 hnw
  simp only [rx, kx_l, go_s, wt_nil, tl_n, true_and]
  with_reducible refine And.intro ?_ ?_
  omega
  with_reducible refine And.intro ?_ ?_
  omega
  with_reducible refine And.intro ?_ ?_
  omega
  with_reducible refine fX1_rangeOf (a0 := a0) hC (fun _ => ?_) (fun _ e1 => ?_) (fun _ p r e1 hp => ?_)
  simp only [kx_r]
  with_reducible exact hX (by assumption)
  simp only [kx_r]
  with_reducible exact hS k0 hw e1
  simp only [eX1_around_14, eX1_around_24, kx_l, wt_nil, wt_ref, nl_int, tl_s, Nat.add_zero]
  with_reducible refine And.intro ?_ ?_
  with_reducible refine go_F hp ?_
  with_reducible exact trivial
  with_reducible refine And.intro ?_ ?_
  omega
  with_reducible refine And.intro ?_ ?_
  omega
  with_reducible refine And.intro ?_ ?_
  omega
  with_reducible refine fX0_endAt hp ?_
  simp only [eX1_around_25R, kx_l, wt_nil, tl_s, Nat.add_zero]
  with_reducible refine And.intro ?_ ?_
  omega
  with_reducible refine And.intro ?_ ?_
  omega
  with_reducible refine And.intro ?_ ?_
  omega
  with_reducible refine fX1_neighboursIn hp ?_
  simp only [eX1_around_28, kx_l, tl_s]
  with_reducible refine And.intro ?_ ?_
  omega
  with_reducible refine And.intro ?_ ?_
  omega
  with_reducible exact hQ k0 hw r e1
set_option maxHeartbeats 4000000 in
theorem fX1_areSame {s : AS} {a0 a1 : Int32} (hC : CS g w0 x nA cA lA kn s w) (hX : ¬ (okC a0 ∧ okC a1) → (Q (.inr "java/lang/IndexOutOfBoundsException") w)) (hS : okC a0 → okC a1 → (s.2.1 a0.toNatClampNeg = none ∨ s.2.1 a1.toNatClampNeg = none) → (Q (.inr "java/lang/IllegalStateException") w)) (hT : okC a0 → okC a1 → ∀ r q, s.2.1 a0.toNatClampNeg = some r → s.2.1 a1.toNatClampNeg = some q → mP r q → Q (.inl (some (.int 1))) w) (hF : okC a0 → okC a1 → ∀ r q, s.2.1 a0.toNatClampNeg = some r → s.2.1 a1.toNatClampNeg = some q → ¬ mP r q → Q (.inl (some (.int 0))) w) : WP (MX1_areSame g) Q (0, [some (.ref x), some (.int a0), some (.int a1)], [], w, 0, 0) := by
  obtain ⟨gc, gl, ⟨hx, hn, hc, hl, hgc, hgl, hn0, hn1, rx, rn, rc, rl, ⟨d1, d2, d3, d4, d5, d6⟩, ⟨d7, d8, d9, d10, d11, d12⟩⟩, hcd, hpl⟩ := hC.1.opn g
  simp only [eX1_areSame_0, eX1_areSame_4, eX1_areSame_8, eX1_areSame_13, wt_nil, Nat.zero_add]
  with_reducible refine And.intro ?_ ?_
  omega
  with_reducible refine And.intro ?_ ?_
  omega
  with_reducible refine And.intro ?_ ?_
  omega
  with_reducible refine fX1_needCard (a0 := a0) (fun _ => ?_) (fun k0 => ?_)
  simp only [kx_r]
  with_reducible exact hX (fun h => absurd h.1 (by assumption))
  simp only [kx_l, wt_nil, tl_n]
  with_reducible refine And.intro ?_ ?_
  omega
  with_reducible refine And.intro ?_ ?_
  omega
  with_reducible refine And.intro ?_ ?_
  omega
  with_reducible refine fX1_needCard (a0 := a1) (fun _ => ?_) (fun k1 => ?_)
  simp only [kx_r]
  with_reducible exact hX (fun h => absurd h.2 (by assumption))
  simp only [rx, kx_l, go_s, wt_nil, tl_n, true_and]
  with_reducible refine And.intro ?_ ?_
  omega
  with_reducible refine And.intro ?_ ?_
  omega
  with_reducible refine And.intro ?_ ?_
  omega
  with_reducible refine fX1_rangeOf (a0 := a0) hC (fun _ => ?_) (fun _ e1 => ?_) (fun _ p r e1 hp => ?_)
  simp only [kx_r]
  with_reducible exact hX (fun h => absurd h.1 (by assumption))
  simp only [kx_r]
  with_reducible exact hS k0 k1 (Or.inl e1)
  simp only [rx, kx_l, go_s, wt_nil, wt_ref, tl_s, true_and, Nat.add_zero]
  with_reducible refine And.intro ?_ ?_
  omega
  with_reducible refine And.intro ?_ ?_
  omega
  with_reducible refine And.intro ?_ ?_
  omega
  with_reducible refine fX1_rangeOf (a0 := a1) hC (fun _ => ?_) (fun _ e2 => ?_) (fun _ p2 r2 e2 hp2 => ?_)
  simp only [kx_r]
  with_reducible exact hX (fun h => absurd h.2 (by assumption))
  simp only [kx_r]
  with_reducible exact hS k0 k1 (Or.inr e2)
  simp only [eX1_areSame_18R, kx_l, wt_nil, tl_s, Nat.add_zero]
  with_reducible refine And.intro ?_ ?_
  with_reducible refine go_F hp ?_
  with_reducible exact trivial
  with_reducible refine And.intro ?_ ?_
  omega
  with_reducible refine And.intro ?_ ?_
  omega
  with_reducible refine And.intro ?_ ?_
  omega
  with_reducible refine fX0_matchesR hp hp2 (fun hm => ?_) (fun hm => ?_)
  simp only [eX1_areSame_21, kx_l, tl_s, nb_1, true_and]
  with_reducible refine And.intro ?_ ?_
  omega
  with_reducible refine And.intro ?_ ?_
  omega
  with_reducible exact hT k0 k1 r r2 e1 e2 hm
  simp only [eX1_areSame_21, kx_l, tl_s, nb_0, true_and]
  with_reducible refine And.intro ?_ ?_
  omega
  with_reducible refine And.intro ?_ ?_
  omega
  with_reducible exact hF k0 k1 r r2 e1 e2 hm
end
end
/-! 71.fn8.lean.txt -/
section
section
variable {g : RO} {Q : Ot → Hw → Prop} {w0 w : Hw} {x nA cA lA : Nat} {kn : Int32}
theorem sal {b : Nat} {P : Nat → Prop} : (∀ c, some b = some c → P c) = P b := propext ⟨fun h => h b rfl, fun h c e => by cases e; exact h⟩
theorem snn {b : Nat} {P : Prop} : ((some b : Option Nat) = none → P) = True := eq_true (fun e => by cases e)
theorem inv_s {P : Nat → Prop} {j : Nat} (h : ∀ i, i < j → P i) (hj : P j) : ∀ i, i < j + 1 → P i := fun i hi => by
  rcases Nat.lt_succ_iff_lt_or_eq.mp hi with k | rfl
  · exact h i k
  · exact hj
theorem cnt12 {n : Int32} (h0 : ¬ n < 0) (h1 : ¬ 12 < n) : n.toInt = ((n.toInt.toNat : Nat) : Int) ∧ n.toInt.toNat ≤ 12 := by
  have k0 := i32_0 h0
  have k1 := i32_nlt h1
  have z : (12 : Int32).toInt = 12 := rfl
  omega
theorem vpj {j : Nat} (h : j < 12) : vp_in (Int32.ofNat j) 12 := by
  rintro (k | k)
  · exact oN0 (by omega) k
  · rw [oNc (by omega)] at k
    omega
set_option maxHeartbeats 4000000 in
theorem flX1_firstPlaceOf_2 {s : AS} {p : Nat} {r : R4} (hC : CS g w0 x nA cA lA kn s w) (hp : rAt w p r) (hN : (∀ i, i < s.2.2.1.toInt.toNat → ¬ mP r (s.2.2.2.1 i)) → Q (.inl (some (.int (-1)))) w) (hS : ∀ i, i < s.2.2.1.toInt.toNat → mP r (s.2.2.2.1 i) → (∀ k, k < i → ¬ mP r (s.2.2.2.1 k)) → Q (.inl (some (.int (Int32.ofNat i)))) w) : ∀ (d j : Nat) (k m : Nat), j + d = s.2.2.1.toInt.toNat → (∀ i, i < j → ¬ mP r (s.2.2.2.1 i)) → k ≤ 0 → m ≤ 0 → WP (MX1_firstPlaceOf g) Q (2, [some (.ref x), some (.ref p), some (.int (Int32.ofNat j))], [], w, k, m) := by
  obtain ⟨gc, gl, ⟨hx, hn, hc, hl, hgc, hgl, hn0, hn1, rx, rn, rc, rl, ⟨d1, d2, d3, d4, d5, d6⟩, ⟨d7, d8, d9, d10, d11, d12⟩⟩, hcd, hpl⟩ := hC.1.opn g
  obtain ⟨he, h12⟩ := cnt12 hn0 hn1
  intro d
  induction d with
  | zero =>
    intro j k m hjd hinv hk hm
    have h9 : j < 1000 := by omega
    have hlt : ¬ Int32.ofNat j < s.2.2.1 := oNg h9 he (by omega)
    obtain rfl : j = s.2.2.1.toInt.toNat := by omega
    rw [eX1_firstPlaceOf_2]
    simp only [eX1_firstPlaceOf_3, eX1_firstPlaceOf_7, eX1_firstPlaceOf_10, eX1_firstPlaceOf_15, eX1_firstPlaceOf_17R, eX1_firstPlaceOf_17N, eX1_firstPlaceOf_31, if_false, rx, rl, hlt, ite_le, n45, or_false, go_s, gq_s, wt_nil, rf_st, g0, gS, ex1, true_and, Nat.add_zero]
    with_reducible refine And.intro ?_ ?_
    with_reducible assumption
    with_reducible refine And.intro ?_ ?_
    with_reducible assumption
    with_reducible exact hN hinv
  | succ d ih =>
    intro j k m hjd hinv hk hm
    have h9 : j < 1000 := by omega
    have hlt : Int32.ofNat j < s.2.2.1 := oNl h9 he (by omega)
    have hcl := oNc h9
    obtain ⟨b, hb, hrb⟩ := hpl j (by omega)
    rw [eX1_firstPlaceOf_2]
    simp only [eX1_firstPlaceOf_3, eX1_firstPlaceOf_7, eX1_firstPlaceOf_10, eX1_firstPlaceOf_15, eX1_firstPlaceOf_17R, eX1_firstPlaceOf_17N, eX1_firstPlaceOf_31, if_true, rx, rl, hlt, hcl, hb, sal, snn, ite_le, n45, or_false, go_s, gq_s, wt_nil, rf_st, g0, gS, ex1, true_and, Nat.add_zero]
    with_reducible refine And.intro ?_ ?_
    with_reducible exact vpj (by omega)
    with_reducible refine And.intro ?_ ?_
    with_reducible exact go_F hp trivial
    with_reducible refine And.intro ?_ ?_
    omega
    with_reducible refine And.intro ?_ ?_
    with_reducible assumption
    with_reducible refine And.intro ?_ ?_
    with_reducible assumption
    with_reducible refine fX0_matchesR hp hrb (fun hm => ?_) (fun hm => ?_)
    simp only [eX1_firstPlaceOf_20, eX1_firstPlaceOf_23, eX1_firstPlaceOf_25, i10, if_false, kx_l, nl_ref, tl_s]
    with_reducible refine And.intro ?_ ?_
    with_reducible assumption
    with_reducible refine And.intro ?_ ?_
    with_reducible assumption
    with_reducible exact hS j (by omega) hm hinv
    simp only [eX1_firstPlaceOf_20, eX1_firstPlaceOf_23, eX1_firstPlaceOf_25, if_true, kx_l, nl_ref, tl_s]
    (rw [oN1]; exact ih (j + 1) _ _ (by omega) (inv_s hinv hm) (by first | assumption | omega) (by first | assumption | omega))
set_option maxHeartbeats 4000000 in
theorem fX1_firstPlaceOf {s : AS} {p : Nat} {r : R4} (hC : CS g w0 x nA cA lA kn s w) (hp : rAt w p r) (hN : (∀ i, i < s.2.2.1.toInt.toNat → ¬ mP r (s.2.2.2.1 i)) → Q (.inl (some (.int (-1)))) w) (hS : ∀ i, i < s.2.2.1.toInt.toNat → mP r (s.2.2.2.1 i) → (∀ k, k < i → ¬ mP r (s.2.2.2.1 k)) → Q (.inl (some (.int (Int32.ofNat i)))) w) : WP (MX1_firstPlaceOf g) Q (0, [some (.ref x), some (.ref p), none], [], w, 0, 0) := by
  simp only [eX1_firstPlaceOf_0, nl_ref]
  ((with_reducible refine isWP (pc := 2) ?_); exact flX1_firstPlaceOf_2 hC hp hN hS _ 0 _ _ (Nat.zero_add _) (fun i h => absurd h (Nat.not_lt_zero i)) (by decide) (by decide))
theorem CS.lay {s : AS} {b : Nat} {r : R4} {gl : Nat → Option Nat} (h : CS g w0 x nA cA lA kn s w) (hl : w lA = some (.inl (4, 12, qc gl))) (hb : rAt w b r) (h11 : s.2.2.1 < 12) : CS g w0 x nA cA lA kn (sP_ s (s.2.2.1 + 1) (va_up s.2.2.2.1 s.2.2.1.toNatClampNeg r)) (upw (upw w lA (.inl (4, 12, qc (va_up gl s.2.2.1.toNatClampNeg (some b))))) x (.inr (5, [.ref nA, .ref cA, .ref lA, .int (s.2.2.1 + 1), .int s.2.2.2.2.1, .int kn, .int s.2.2.2.2.2]))) := by
  obtain ⟨gc, gl', ⟨h1, h2, h3, h4, h5, h6, h7, h8, -, -, -, -, ⟨d1, d2, d3, d4, d5, d6⟩, ⟨d7, d8, d9, d10, d11, d12⟩⟩, k1, k2⟩ := h.1.opn (fun _ => .null, fun _ => none)
  rw [hl] at h4
  cases h4
  have q0 := i32_0 h7
  have q1 := i32_lt h11
  have z : (12 : Int32).toInt = 12 := rfl
  have e1 : (s.2.2.1 + 1).toInt = s.2.2.1.toInt + 1 := i32p1 q0 (by omega)
  have hx' : upw w lA (.inl (4, 12, qc (va_up gl s.2.2.1.toNatClampNeg (some b)))) x = some (.inr (5, [.ref nA, .ref cA, .ref lA, .int s.2.2.1, .int s.2.2.2.2.1, .int kn, .int s.2.2.2.2.2])) := by rw [upw_n d3]; exact h1
  have R : ∀ c q, rAt w c q → rAt (upw (upw w lA (.inl (4, 12, qc (va_up gl s.2.2.1.toNatClampNeg (some b))))) x (.inr (5, [.ref nA, .ref cA, .ref lA, .int (s.2.2.1 + 1), .int s.2.2.2.2.1, .int kn, .int s.2.2.2.2.2]))) c q := fun c q hc => rAt_up2 (rAt_up2 hc hl (by simp)) hx' (by simp)
  have RR : ∀ c, isR w c → isR (upw (upw w lA (.inl (4, 12, qc (va_up gl s.2.2.1.toNatClampNeg (some b))))) x (.inr (5, [.ref nA, .ref cA, .ref lA, .int (s.2.2.1 + 1), .int s.2.2.2.2.1, .int kn, .int s.2.2.2.2.2]))) c := fun c hc => isR_up2 (isR_up2 hc hl (by simp)) hx' (by simp)
  refine ⟨⟨gc, va_up gl s.2.2.1.toNatClampNeg (some b), ⟨upw_s _ _ _, by rw [upw_n d4, upw_n d6]; exact h2, by rw [upw_n d7, upw_n d9]; exact h3, by rw [upw_n d10]; exact upw_s _ _ _, fun i c z => RR c (h5 i c z), fun i c z => RR c ?_, i32_of_nlt (by show (0 : Int) ≤ (s.2.2.1 + 1).toInt; omega), i32_of_nlt (by show (s.2.2.1 + 1).toInt ≤ (12 : Int); omega)⟩, fun i hi => (k1 i hi).mp R, fun i hi => ?_⟩, (h.2.up hl (Or.inr rfl)).up hx' (Or.inr rfl)⟩
  · exact up_ok h6 (fun c e => by cases e; exact hb.isR) i c z
  · have hi' : (i : Int) < s.2.2.1.toInt + 1 := by
      have hi2 : (i : Int) < (s.2.2.1 + 1).toInt := hi
      omega
    have t : s.2.2.1.toNatClampNeg = s.2.2.1.toInt.toNat := rfl
    show ∃ c, va_up gl s.2.2.1.toNatClampNeg (some b) i = some c ∧ rAt _ c (va_up s.2.2.2.1 s.2.2.1.toNatClampNeg r i)
    unfold va_up
    by_cases e : i = s.2.2.1.toNatClampNeg
    · rw [if_pos e, if_pos e]
      exact ⟨b, rfl, R _ _ hb⟩
    · rw [if_neg e, if_neg e]
      exact (k2 i (by omega)).imp fun c z => ⟨z.1, R _ _ z.2⟩
theorem o12 : Int32.ofNat 12 = 12 := rfl
theorem i12n : ¬ (12 : Int32) < 12 := by decide
set_option maxHeartbeats 4000000 in
theorem fX1_lay {s : AS} {a0 : Int32} (hC : CS g w0 x nA cA lA kn s w) (hX : ¬ okC a0 → (Q (.inr "java/lang/IndexOutOfBoundsException") w)) (hS : okC a0 → s.2.1 a0.toNatClampNeg = none → (Q (.inr "java/lang/IllegalStateException") w)) (hF : okC a0 → ∀ r, s.2.1 a0.toNatClampNeg = some r → ¬ s.2.2.1 < 12 → ∀ w', CS g w0 x nA cA lA kn (sRf s) w' → Q (.inl (some (.int (-9)))) w') (hQ : okC a0 → ∀ r, s.2.1 a0.toNatClampNeg = some r → s.2.2.1 < 12 → ∀ w', CS g w0 x nA cA lA kn (sP_ s (s.2.2.1 + 1) (va_up s.2.2.2.1 s.2.2.1.toNatClampNeg r)) w' → Q (.inl (some (.int (s.2.2.1 + 1)))) w') : WP (MX1_lay g) Q (0, [some (.ref x), some (.int a0), none], [], w, 0, 0) := by
  obtain ⟨gc, gl, ⟨hx, hn, hc, hl, hgc, hgl, hn0, hn1, rx, rn, rc, rl, ⟨d1, d2, d3, d4, d5, d6⟩, ⟨d7, d8, d9, d10, d11, d12⟩⟩, hcd, hpl⟩ := hC.1.opn g
  simp only [eX1_lay_0, rx, go_s, wt_nil, true_and, Nat.zero_add]
  with_reducible refine And.intro ?_ ?_
  omega
  with_reducible refine And.intro ?_ ?_
  omega
  with_reducible refine And.intro ?_ ?_
  omega
  with_reducible refine fX1_rangeOf (a0 := a0) hC (fun _ => ?_) (fun k0 e1 => ?_) (fun k0 p r e1 hp => ?_)
  simp only [kx_r]
  with_reducible exact hX (by assumption)
  simp only [kx_r]
  with_reducible exact hS k0 e1
  simp only [eX1_lay_5, eX1_lay_10, eX1_lay_13, eX1_lay_17, eX1_lay_21, eX1_lay_22, eX1_lay_25, eX1_lay_30, eX1_lay_34, eX1_lay_38, eX1_lay_40, eX1_lay_45, eX1_lay_50, eX1_lay_54, not_false_eq_true, rx, rl, hx, hl, d3, rd_n, upw_n, exal, o12, n45, or_false, false_and, kx_l, go_s, gq_s, wt_nil, nl_int, tl_s, g0, gS, ex1, nf_i, true_and, List.set_cons_zero, List.set_cons_succ, List.length_cons, List.length_nil, rd_s, ne_eq, not_false_eq_true, Nat.zero_add, Nat.add_zero]
  split
  with_reducible refine And.intro ?_ ?_
  with_reducible exact absurd (by assumption) hn0
  with_reducible refine And.intro ?_ ?_
  with_reducible exact absurd (by assumption) hn0
  with_reducible refine And.intro ?_ ?_
  with_reducible exact absurd (by assumption) hn0
  with_reducible exact absurd (by assumption) hn0
  with_reducible refine And.intro ?_ ?_
  omega
  split
  with_reducible refine And.intro ?_ ?_
  with_reducible exact vpi12 hn0 (by assumption) i12n
  with_reducible refine And.intro ?_ ?_
  with_reducible exact go_Fw hp trivial
  with_reducible refine And.intro ?_ ?_
  omega
  with_reducible refine And.intro ?_ ?_
  omega
  with_reducible refine And.intro ?_ ?_
  omega
  ((with_reducible refine isQ (Q := Q) ?_); exact hQ k0 r e1 (by assumption) _ (hC.lay hl hp (by assumption)))
  with_reducible refine And.intro ?_ ?_
  omega
  with_reducible refine And.intro ?_ ?_
  omega
  with_reducible refine And.intro ?_ ?_
  omega
  with_reducible refine fX1_refuse hC (fun w1 g1 g2 => ?_)
  simp only [eX1_lay_29, kx_l, tl_s]
  with_reducible refine And.intro ?_ ?_
  omega
  with_reducible refine And.intro ?_ ?_
  omega
  with_reducible exact hF k0 r e1 (by assumption) w1 g1
end
end
/-! 71.fn9.lean.txt -/
section
section
variable {g : RO} {Q : Ot → Hw → Prop} {w0 w : Hw} {x nA cA lA : Nat} {kn : Int32}
abbrev okP (n a : Int32) : Prop := ¬ a < 0 ∧ a < n
theorem plB {n a : Int32} (h : okP n a) : (a.toNatClampNeg : Int) < n.toInt := by
  have h1 := i32_0 h.1
  have h2 := i32_lt h.2
  have e : a.toNatClampNeg = a.toInt.toNat := rfl
  omega
theorem plj {gl : Nat → Option Nat} {f : Nat → R4} {n : Int} {j b : Nat} (hpl : ∀ i : Nat, (i : Int) < n → ∃ b, gl i = some b ∧ rAt w b (f i)) (h : (j : Int) < n) (e : gl j = some b) : rAt w b (f j) := by
  obtain ⟨c, hc, hr⟩ := hpl j h
  rw [hc] at e
  cases e
  exact hr
theorem pln {gl : Nat → Option Nat} {f : Nat → R4} {n : Int} {j : Nat} (hpl : ∀ i : Nat, (i : Int) < n → ∃ b, gl i = some b ∧ rAt w b (f i)) (h : (j : Int) < n) : ¬ gl j = none := by
  obtain ⟨c, hc, hr⟩ := hpl j h
  rw [hc]
  exact fun z => by cases z
theorem cntE {n : Int32} (h0 : ¬ n < 0) (h1 : ¬ 12 < n) : Int32.ofNat n.toInt.toNat = n := by
  obtain ⟨h2, h3⟩ := cnt12 h0 h1
  exact Int32.toInt_inj.1 (by rw [oNt (by omega)]; omega)
theorem oMz : Int32.ofNat 0 - 1 < 0 := by decide
theorem oMd {j : Nat} : Int32.ofNat j + -1 = Int32.ofNat j - 1 := (Int32.sub_eq_add_neg _ _).symm
theorem oMs {j : Nat} (h : j + 1 < 1000) : Int32.ofNat (j + 1) - 1 = Int32.ofNat j := by
  refine Int32.toInt_inj.1 ?_
  have e1 : (1 : Int32).toInt = 1 := rfl
  have a1 := oNt h
  have a2 := oNt (j := j) (by omega)
  rw [i32_sub (by rw [a1, e1]; omega) (by rw [a1, e1]; omega), a1, a2, e1]
  omega
theorem vX0_matches {p q : Nat} {r s : R4} (hp : rAt w p r) (hq : rAt w q s) (hQ : Q (.inl (some (.int (bI (decide (mP r s)))))) w) : WP (MX0_matches g) Q (0, [some (.ref p), some (.ref q)], [], w, 0, 0) := fX0_matchesR hp hq (fun h => by rw [decide_eq_true h] at hQ; exact hQ) (fun h => by rw [decide_eq_false h] at hQ; exact hQ)
set_option maxHeartbeats 4000000 in
theorem fX1_needPlace {s : AS} {a0 : Int32} (hC : CS g w0 x nA cA lA kn s w) (hX : ¬ okP s.2.2.1 a0 → (Q (.inr "java/lang/IndexOutOfBoundsException") w)) (hQ : okP s.2.2.1 a0 → Q (.inl none) w) : WP (MX1_needPlace g) Q (0, [some (.ref x), some (.int a0)], [], w, 0, 0) := by
  obtain ⟨gc, gl, ⟨hx, hn, hc, hl, hgc, hgl, hn0, hn1, rx, rn, rc, rl, ⟨d1, d2, d3, d4, d5, d6⟩, ⟨d7, d8, d9, d10, d11, d12⟩⟩, hcd, hpl⟩ := hC.1.opn g
  simp only [eX1_needPlace_0, eX1_needPlace_4, eX1_needPlace_9, eX1_needPlace_12, eX1_needPlace_22, rx, go_s, wt_nil, g0, gS, ex1, Nat.zero_add]
  split
  with_reducible refine And.intro ?_ ?_
  omega
  with_reducible refine And.intro ?_ ?_
  omega
  with_reducible refine And.intro ?_ ?_
  omega
  with_reducible refine And.intro ?_ ?_
  omega
  with_reducible exact hX (fun h => absurd (by assumption) h.1)
  split
  with_reducible refine And.intro ?_ ?_
  omega
  with_reducible refine And.intro ?_ ?_
  omega
  with_reducible exact hQ ⟨by assumption, by assumption⟩
  with_reducible refine And.intro ?_ ?_
  omega
  with_reducible refine And.intro ?_ ?_
  omega
  with_reducible refine And.intro ?_ ?_
  omega
  with_reducible refine And.intro ?_ ?_
  omega
  with_reducible exact hX (fun h => absurd h.2 (by assumption))
set_option maxHeartbeats 4000000 in
theorem fX1_pick {s : AS} {a0 a1 : Int32} (hC : CS g w0 x nA cA lA kn s w) (hX : ¬ (okP s.2.2.1 a0 ∧ okC a1) → (Q (.inr "java/lang/IndexOutOfBoundsException") w)) (hN : okP s.2.2.1 a0 → okC a1 → s.2.1 a1.toNatClampNeg = none → ∀ w', CS g w0 x nA cA lA kn (sC s (va_up s.2.1 a1.toNatClampNeg (some (s.2.2.2.1 a0.toNatClampNeg)))) w' → Q (.inl (some (.int 0))) w') (hS : okP s.2.2.1 a0 → okC a1 → ∀ r, s.2.1 a1.toNatClampNeg = some r → ∀ w', CS g w0 x nA cA lA kn (sC s (va_up s.2.1 a1.toNatClampNeg (some (s.2.2.2.1 a0.toNatClampNeg)))) w' → Q (.inl (some (.int 1))) w') : WP (MX1_pick g) Q (0, [some (.ref x), some (.int a0), some (.int a1), none], [], w, 0, 0) := by
  obtain ⟨gc, gl, ⟨hx, hn, hc, hl, hgc, hgl, hn0, hn1, rx, rn, rc, rl, ⟨d1, d2, d3, d4, d5, d6⟩, ⟨d7, d8, d9, d10, d11, d12⟩⟩, hcd, hpl⟩ := hC.1.opn g
  simp only [eX1_pick_0, eX1_pick_5, eX1_pick_9, eX1_pick_13, rx, go_s, wt_nil, true_and, Nat.zero_add]
  with_reducible refine And.intro ?_ ?_
  omega
  with_reducible refine And.intro ?_ ?_
  omega
  with_reducible refine And.intro ?_ ?_
  omega
  with_reducible refine fX1_needPlace (a0 := a0) hC (fun _ => ?_) (fun k0 => ?_)
  simp only [kx_r]
  with_reducible exact hX (fun h => absurd h.1 (by assumption))
  simp only [kx_l, wt_nil, tl_n]
  with_reducible refine And.intro ?_ ?_
  omega
  with_reducible refine And.intro ?_ ?_
  omega
  with_reducible refine And.intro ?_ ?_
  omega
  with_reducible refine fX1_needCard (a0 := a1) (fun _ => ?_) (fun k1 => ?_)
  simp only [kx_r]
  with_reducible exact hX (fun h => absurd h.2 (by assumption))
  simp only [eX1_pick_14, eX1_pick_15R, eX1_pick_15N, eX1_pick_18, eX1_pick_22, eX1_pick_23, rx, rc, n45, or_false, kx_l, go_s, gq_s, wt_nil, rf_st, tl_n, g0, gS, ex1, true_and, Nat.add_zero]
  with_reducible refine And.intro ?_ ?_
  with_reducible exact vpi6 k1.1 k1.2
  with_reducible refine And.intro ?_ ?_
  with_reducible intro _
  with_reducible refine And.intro ?_ ?_
  omega
  with_reducible refine And.intro ?_ ?_
  omega
  with_reducible refine And.intro ?_ ?_
  omega
  with_reducible refine fX1_asNumber (Or.inl rfl) ?_
  simp only [eX1_pick_26, eX1_pick_31, eX1_pick_36, eX1_pick_38N, eX1_pick_38R, eX1_pick_39, rx, rl, hc, n45, or_false, false_and, kx_l, go_s, gq_s, nl_int, rf_st, tl_s, g0, gS, ex1, true_and]
  with_reducible refine And.intro ?_ ?_
  with_reducible exact vpi12 k0.1 k0.2 hn1
  with_reducible refine And.intro ?_ ?_
  with_reducible intro _
  with_reducible refine And.intro ?_ ?_
  with_reducible exact vpi6 k1.1 k1.2
  with_reducible refine And.intro ?_ ?_
  with_reducible exact absurd (by assumption) (pln hpl (plB k0))
  with_reducible refine And.intro ?_ ?_
  with_reducible exact absurd (by assumption) (pln hpl (plB k0))
  with_reducible exact absurd (by assumption) (pln hpl (plB k0))
  with_reducible intro _
  with_reducible intro _
  with_reducible refine And.intro ?_ ?_
  with_reducible exact vpi6 k1.1 k1.2
  with_reducible refine And.intro ?_ ?_
  with_reducible exact go_Fw (plj hpl (plB k0) (by assumption)) trivial
  with_reducible refine And.intro ?_ ?_
  omega
  with_reducible refine And.intro ?_ ?_
  omega
  ((with_reducible refine isQ (Q := Q) ?_); exact hN k0 k1 (cdN hcd k1 (by assumption)) _ (hC.card gc hc a1.toNatClampNeg (some _) (some _) (plj hpl (plB k0) (by assumption))))
  with_reducible intro _
  with_reducible intro _
  with_reducible refine And.intro ?_ ?_
  omega
  with_reducible refine And.intro ?_ ?_
  omega
  with_reducible refine And.intro ?_ ?_
  omega
  with_reducible refine fX1_asNumber (Or.inr rfl) ?_
  simp only [eX1_pick_26, eX1_pick_31, eX1_pick_36, eX1_pick_38N, eX1_pick_38R, eX1_pick_39, rx, rl, hc, n45, or_false, false_and, kx_l, go_s, gq_s, nl_int, rf_st, tl_s, g0, gS, ex1, true_and]
  with_reducible refine And.intro ?_ ?_
  with_reducible exact vpi12 k0.1 k0.2 hn1
  with_reducible refine And.intro ?_ ?_
  with_reducible intro _
  with_reducible refine And.intro ?_ ?_
  with_reducible exact vpi6 k1.1 k1.2
  with_reducible refine And.intro ?_ ?_
  with_reducible exact absurd (by assumption) (pln hpl (plB k0))
  with_reducible refine And.intro ?_ ?_
  with_reducible exact absurd (by assumption) (pln hpl (plB k0))
  with_reducible exact absurd (by assumption) (pln hpl (plB k0))
  with_reducible intro _
  with_reducible intro _
  with_reducible refine And.intro ?_ ?_
  with_reducible exact vpi6 k1.1 k1.2
  with_reducible refine And.intro ?_ ?_
  with_reducible exact go_Fw (plj hpl (plB k0) (by assumption)) trivial
  with_reducible refine And.intro ?_ ?_
  omega
  with_reducible refine And.intro ?_ ?_
  omega
  ((with_reducible refine isQ (Q := Q) ?_); exact (cdS hcd k1 (by assumption)).elim (fun r h => hS k0 k1 r h.1 _ (hC.card gc hc a1.toNatClampNeg (some _) (some _) (plj hpl (plB k0) (by assumption)))))
set_option maxHeartbeats 4000000 in
theorem flX1_timesLaid_4 {s : AS} {p : Nat} {r : R4} (hC : CS g w0 x nA cA lA kn s w) (hp : rAt w p r) (hQ : Q (.inl (some (.int (fsum (fun j => bI (decide (mP r (s.2.2.2.1 j)))) s.2.2.1.toInt.toNat)))) w) : ∀ (d j : Nat)  (k m : Nat), j + d = s.2.2.1.toInt.toNat → k ≤ 0 → m ≤ 0 → WP (MX1_timesLaid g) Q (4, [some (.ref x), some (.ref p), some (.int (fsum (fun j => bI (decide (mP r (s.2.2.2.1 j)))) j)), some (.int (Int32.ofNat j))], [], w, k, m) := by
  obtain ⟨gc, gl, ⟨hx, hn, hc, hl, hgc, hgl, hn0, hn1, rx, rn, rc, rl, ⟨d1, d2, d3, d4, d5, d6⟩, ⟨d7, d8, d9, d10, d11, d12⟩⟩, hcd, hpl⟩ := hC.1.opn g
  intro d
  induction d with
  | zero =>
    intro j  k m hjd hk hm
    have h9 : j < 1000 := (by have := (cnt12 hn0 hn1).2; omega)
    have hlt : ¬ Int32.ofNat j < s.2.2.1 := oNg (B := s.2.2.1.toInt.toNat) h9 (cnt12 hn0 hn1).1 (by omega)
    have hnn := oN0 h9
    have hcl := oNc h9
    obtain rfl : j = s.2.2.1.toInt.toNat := by omega
    rw [eX1_timesLaid_4]
    simp only [eX1_timesLaid_5, eX1_timesLaid_9, eX1_timesLaid_12, eX1_timesLaid_18, eX1_timesLaid_20R, eX1_timesLaid_20N, eX1_timesLaid_34, if_false, hlt, hcl, rx, rl, ite_le, n45, or_false, go_s, gq_s, wt_nil, wt_int, rf_st, g0, gS, ex1, true_and, Nat.add_zero]
    with_reducible refine And.intro ?_ ?_
    with_reducible assumption
    with_reducible refine And.intro ?_ ?_
    with_reducible assumption
    with_reducible assumption
  | succ d ih =>
    intro j  k m hjd hk hm
    have h9 : j < 1000 := (by have := (cnt12 hn0 hn1).2; omega)
    have hlt : Int32.ofNat j < s.2.2.1 := oNl (B := s.2.2.1.toInt.toNat) h9 (cnt12 hn0 hn1).1 (by omega)
    have hnn := oN0 h9
    have hcl := oNc h9
    rw [eX1_timesLaid_4]
    simp only [eX1_timesLaid_5, eX1_timesLaid_9, eX1_timesLaid_12, eX1_timesLaid_18, eX1_timesLaid_20R, eX1_timesLaid_20N, eX1_timesLaid_34, if_true, hlt, hcl, rx, rl, ite_le, n45, or_false, go_s, gq_s, wt_nil, wt_int, rf_st, g0, gS, ex1, true_and, Nat.add_zero]
    with_reducible refine And.intro ?_ ?_
    with_reducible exact vpj (j := j) (by have := (cnt12 hn0 hn1).2; omega)
    with_reducible refine And.intro ?_ ?_
    with_reducible intro _
    with_reducible refine And.intro ?_ ?_
    with_reducible exact go_F hp trivial
    with_reducible refine And.intro ?_ ?_
    with_reducible exact absurd (by assumption) (pln (j := j) hpl (by omega))
    with_reducible refine And.intro ?_ ?_
    with_reducible assumption
    with_reducible refine And.intro ?_ ?_
    with_reducible assumption
    with_reducible exact absurd (by assumption) (pln (j := j) hpl (by omega))
    with_reducible intro _
    with_reducible intro _
    with_reducible refine And.intro ?_ ?_
    with_reducible exact go_F hp trivial
    with_reducible refine And.intro ?_ ?_
    omega
    with_reducible refine And.intro ?_ ?_
    with_reducible assumption
    with_reducible refine And.intro ?_ ?_
    with_reducible assumption
    with_reducible refine vX0_matches hp (plj (j := j) hpl (by omega) (by assumption)) ?_
    simp only [eX1_timesLaid_23, kx_l, wt_nil, wt_int, tl_s, Nat.add_zero]
    with_reducible refine And.intro ?_ ?_
    omega
    with_reducible refine And.intro ?_ ?_
    with_reducible assumption
    with_reducible refine And.intro ?_ ?_
    with_reducible assumption
    with_reducible refine fX1_asNumber (bI01 _) ?_
    simp only [eX1_timesLaid_26, kx_l, nl_int, nl_ref, tl_s]
    (rw [oN1]; exact ih (j + 1)  _ _ (by omega) (by first | assumption | omega) (by first | assumption | omega))
set_option maxHeartbeats 4000000 in
theorem fX1_timesLaid {s : AS} {p : Nat} {r : R4} (hC : CS g w0 x nA cA lA kn s w) (hp : rAt w p r) (hQ : Q (.inl (some (.int (fsum (fun j => bI (decide (mP r (s.2.2.2.1 j)))) s.2.2.1.toInt.toNat)))) w) : WP (MX1_timesLaid g) Q (0, [some (.ref x), some (.ref p), none, none], [], w, 0, 0) := by
  simp only [eX1_timesLaid_0, nl_int, nl_ref]
  ((with_reducible refine isWP (pc := 4) ?_); exact flX1_timesLaid_4 hC hp hQ _ 0 _ _ (Nat.zero_add _) (by decide) (by decide))
set_option maxHeartbeats 4000000 in
theorem fX1_howOften {s : AS} {a0 : Int32} (hC : CS g w0 x nA cA lA kn s w) (hX : ¬ okC a0 → (Q (.inr "java/lang/IndexOutOfBoundsException") w)) (hS : okC a0 → s.2.1 a0.toNatClampNeg = none → (Q (.inr "java/lang/IllegalStateException") w)) (hQ : okC a0 → ∀ r, s.2.1 a0.toNatClampNeg = some r → Q (.inl (some (.int (fsum (fun j => bI (decide (mP r (s.2.2.2.1 j)))) s.2.2.1.toInt.toNat)))) w) : WP (MX1_howOften g) Q (0, [some (.ref x), some (.int a0)], [], w, 0, 0) := by
  obtain ⟨gc, gl, ⟨hx, hn, hc, hl, hgc, hgl, hn0, hn1, rx, rn, rc, rl, ⟨d1, d2, d3, d4, d5, d6⟩, ⟨d7, d8, d9, d10, d11, d12⟩⟩, hcd, hpl⟩ := hC.1.opn g
  simp only [eX1_howOften_0, rx, go_s, wt_nil, wt_ref, true_and, Nat.zero_add, Nat.add_zero]
  with_reducible refine And.intro ?_ ?_
  omega
  with_reducible refine And.intro ?_ ?_
  omega
  with_reducible refine And.intro ?_ ?_
  omega
  with_reducible refine fX1_rangeOf (a0 := a0) hC (fun _ => ?_) (fun k0 e1 => ?_) (fun k0 p r e1 hp => ?_)
  simp only [kx_r]
  with_reducible exact hX (by assumption)
  simp only [kx_r]
  with_reducible exact hS k0 e1
  simp only [eX1_howOften_6R, rx, kx_l, go_s, wt_nil, tl_s, true_and, Nat.add_zero]
  with_reducible refine And.intro ?_ ?_
  omega
  with_reducible refine And.intro ?_ ?_
  omega
  with_reducible refine And.intro ?_ ?_
  omega
  with_reducible refine fX1_timesLaid hC hp ?_
  simp only [eX1_howOften_9, kx_l, tl_s]
  with_reducible refine And.intro ?_ ?_
  omega
  with_reducible refine And.intro ?_ ?_
  omega
  with_reducible exact hQ k0 r e1
theorem inv_d {P : Nat → Prop} {j N : Nat} (h : ∀ i, j + 1 ≤ i → i < N → P i) (hj : P j) : ∀ i, j ≤ i → i < N → P i := fun i hi hN => by
  rcases Nat.eq_or_lt_of_le hi with rfl | k
  · exact hj
  · exact h i k hN
set_option maxHeartbeats 4000000 in
theorem flX1_lastPlaceOf_7 {s : AS} {p : Nat} {r : R4} (hC : CS g w0 x nA cA lA kn s w) (hp : rAt w p r) (hN : (∀ i, i < s.2.2.1.toInt.toNat → ¬ mP r (s.2.2.2.1 i)) → Q (.inl (some (.int (-1)))) w) (hS : ∀ i, i < s.2.2.1.toInt.toNat → mP r (s.2.2.2.1 i) → (∀ k, i + 1 ≤ k → k < s.2.2.1.toInt.toNat → ¬ mP r (s.2.2.2.1 k)) → Q (.inl (some (.int (Int32.ofNat i)))) w) : ∀ (j : Nat) (k m : Nat), j ≤ s.2.2.1.toInt.toNat → (∀ i, j ≤ i → i < s.2.2.1.toInt.toNat → ¬ mP r (s.2.2.2.1 i)) → k ≤ 0 → m ≤ 0 → WP (MX1_lastPlaceOf g) Q (7, [some (.ref x), some (.ref p), some (.int (Int32.ofNat j - 1))], [], w, k, m) := by
  obtain ⟨gc, gl, ⟨hx, hn, hc, hl, hgc, hgl, hn0, hn1, rx, rn, rc, rl, ⟨d1, d2, d3, d4, d5, d6⟩, ⟨d7, d8, d9, d10, d11, d12⟩⟩, hcd, hpl⟩ := hC.1.opn g
  obtain ⟨he, h12⟩ := cnt12 hn0 hn1
  intro j
  induction j with
  | zero =>
    intro k m hj hinv hk hm
    rw [eX1_lastPlaceOf_7]
    simp only [eX1_lastPlaceOf_8, eX1_lastPlaceOf_11, eX1_lastPlaceOf_16, eX1_lastPlaceOf_18R, eX1_lastPlaceOf_18N, eX1_lastPlaceOf_32, if_true, rx, rl, oMz, n45, or_false, go_s, gq_s, wt_nil, rf_st, g0, gS, ex1, true_and, Nat.add_zero]
    with_reducible refine And.intro ?_ ?_
    with_reducible assumption
    with_reducible refine And.intro ?_ ?_
    with_reducible assumption
    with_reducible exact hN (fun i h => hinv i (Nat.zero_le i) h)
  | succ j ih =>
    intro k m hj hinv hk hm
    have h9 : j < 1000 := by omega
    rw [oMs (j := j) (by omega), eX1_lastPlaceOf_7]
    have hlt := oN0 h9
    have hcl := oNc h9
    obtain ⟨b, hb, hrb⟩ := hpl j (by omega)
    simp only [eX1_lastPlaceOf_8, eX1_lastPlaceOf_11, eX1_lastPlaceOf_16, eX1_lastPlaceOf_18R, eX1_lastPlaceOf_18N, eX1_lastPlaceOf_32, if_false, rx, rl, hlt, hcl, hb, sal, snn, n45, or_false, go_s, gq_s, wt_nil, rf_st, g0, gS, ex1, true_and, Nat.add_zero]
    with_reducible refine And.intro ?_ ?_
    with_reducible exact vpj (by omega)
    with_reducible refine And.intro ?_ ?_
    with_reducible exact go_F hp trivial
    with_reducible refine And.intro ?_ ?_
    omega
    with_reducible refine And.intro ?_ ?_
    with_reducible assumption
    with_reducible refine And.intro ?_ ?_
    with_reducible assumption
    with_reducible refine fX0_matchesR hp hrb (fun hm => ?_) (fun hm => ?_)
    simp only [eX1_lastPlaceOf_21, eX1_lastPlaceOf_24, eX1_lastPlaceOf_26, i10, if_false, kx_l, nl_ref, tl_s]
    with_reducible refine And.intro ?_ ?_
    with_reducible assumption
    with_reducible refine And.intro ?_ ?_
    with_reducible assumption
    with_reducible exact hS j (by omega) hm hinv
    simp only [eX1_lastPlaceOf_21, eX1_lastPlaceOf_24, eX1_lastPlaceOf_26, if_true, kx_l, nl_ref, tl_s]
    (rw [oMd]; exact ih _ _ (by omega) (inv_d hinv hm) (by first | assumption | omega) (by first | assumption | omega))
set_option maxHeartbeats 4000000 in
theorem fX1_lastPlaceOf {s : AS} {p : Nat} {r : R4} (hC : CS g w0 x nA cA lA kn s w) (hp : rAt w p r) (hN : (∀ i, i < s.2.2.1.toInt.toNat → ¬ mP r (s.2.2.2.1 i)) → Q (.inl (some (.int (-1)))) w) (hS : ∀ i, i < s.2.2.1.toInt.toNat → mP r (s.2.2.2.1 i) → (∀ k, i + 1 ≤ k → k < s.2.2.1.toInt.toNat → ¬ mP r (s.2.2.2.1 k)) → Q (.inl (some (.int (Int32.ofNat i)))) w) : WP (MX1_lastPlaceOf g) Q (0, [some (.ref x), some (.ref p), none], [], w, 0, 0) := by
  obtain ⟨gc, gl, ⟨hx, hn, hc, hl, hgc, hgl, hn0, hn1, rx, rn, rc, rl, ⟨d1, d2, d3, d4, d5, d6⟩, ⟨d7, d8, d9, d10, d11, d12⟩⟩, hcd, hpl⟩ := hC.1.opn g
  simp only [eX1_lastPlaceOf_0, eX1_lastPlaceOf_4, rx, go_s, nl_ref, g0, gS, ex1]
  (have z := flX1_lastPlaceOf_7 hC hp hN hS _ 0 0 (Nat.le_refl _) (fun i h1 h2 => absurd h2 (Nat.not_lt.mpr h1)) (by decide) (by decide); rw [cntE hn0 hn1] at z; exact z)
set_option maxHeartbeats 4000000 in
theorem fX1_seek {s : AS} {a0 a1 : Int32} (hC : CS g w0 x nA cA lA kn s w) (hX : ¬ okC a0 → (Q (.inr "java/lang/IndexOutOfBoundsException") w)) (hS : okC a0 → s.2.1 a0.toNatClampNeg = none → (Q (.inr "java/lang/IllegalStateException") w)) (hN : okC a0 → ∀ r, s.2.1 a0.toNatClampNeg = some r → (∀ i, i < s.2.2.1.toInt.toNat → ¬ mP r (s.2.2.2.1 i)) → Q (.inl (some (.int (-1)))) w) (hF : a1 = 0 → okC a0 → ∀ r, s.2.1 a0.toNatClampNeg = some r → ∀ i, i < s.2.2.1.toInt.toNat → mP r (s.2.2.2.1 i) → (∀ k, k < i → ¬ mP r (s.2.2.2.1 k)) → Q (.inl (some (.int (Int32.ofNat i)))) w) (hL : ¬ a1 = 0 → okC a0 → ∀ r, s.2.1 a0.toNatClampNeg = some r → ∀ i, i < s.2.2.1.toInt.toNat → mP r (s.2.2.2.1 i) → (∀ k, i + 1 ≤ k → k < s.2.2.1.toInt.toNat → ¬ mP r (s.2.2.2.1 k)) → Q (.inl (some (.int (Int32.ofNat i)))) w) : WP (MX1_seek g) Q (0, [some (.ref x), some (.int a0), some (.int a1), none], [], w, 0, 0) := by
  obtain ⟨gc, gl, ⟨hx, hn, hc, hl, hgc, hgl, hn0, hn1, rx, rn, rc, rl, ⟨d1, d2, d3, d4, d5, d6⟩, ⟨d7, d8, d9, d10, d11, d12⟩⟩, hcd, hpl⟩ := hC.1.opn g
  simp only [eX1_seek_0, rx, go_s, wt_nil, true_and, Nat.zero_add]
  with_reducible refine And.intro ?_ ?_
  omega
  with_reducible refine And.intro ?_ ?_
  omega
  with_reducible refine And.intro ?_ ?_
  omega
  with_reducible refine fX1_rangeOf (a0 := a0) hC (fun _ => ?_) (fun k0 e1 => ?_) (fun k0 p r e1 hp => ?_)
  simp only [kx_r]
  with_reducible exact hX (by assumption)
  simp only [kx_r]
  with_reducible exact hS k0 e1
  simp only [eX1_seek_5, eX1_seek_6, eX1_seek_10, eX1_seek_15, eX1_seek_18, rx, kx_l, go_s, wt_nil, nl_int, tl_s, true_and, Nat.add_zero]
  split
  with_reducible refine And.intro ?_ ?_
  omega
  with_reducible refine And.intro ?_ ?_
  omega
  with_reducible refine And.intro ?_ ?_
  omega
  with_reducible refine fX1_firstPlaceOf hC hp (fun z1 => ?_) (fun i z1 z2 z3 => ?_)
  simp only [eX1_seek_23, kx_l, tl_s]
  with_reducible refine And.intro ?_ ?_
  omega
  with_reducible refine And.intro ?_ ?_
  omega
  with_reducible exact hN k0 r e1 z1
  simp only [eX1_seek_23, kx_l, tl_s]
  with_reducible refine And.intro ?_ ?_
  omega
  with_reducible refine And.intro ?_ ?_
  omega
  with_reducible exact hF (by assumption) k0 r e1 i z1 z2 z3
  with_reducible refine And.intro ?_ ?_
  omega
  with_reducible refine And.intro ?_ ?_
  omega
  with_reducible refine And.intro ?_ ?_
  omega
  with_reducible refine fX1_lastPlaceOf hC hp (fun z1 => ?_) (fun i z1 z2 z3 => ?_)
  simp only [eX1_seek_23, kx_l, tl_s]
  with_reducible refine And.intro ?_ ?_
  omega
  with_reducible refine And.intro ?_ ?_
  omega
  with_reducible exact hN k0 r e1 z1
  simp only [eX1_seek_23, kx_l, tl_s]
  with_reducible refine And.intro ?_ ?_
  omega
  with_reducible refine And.intro ?_ ?_
  omega
  with_reducible exact hL (by assumption) k0 r e1 i z1 z2 z3
end
end
/-! 71.fna.lean.txt -/
section
section
variable {g : RO} {Q : Ot → Hw → Prop} {w0 w : Hw} {x nA cA lA : Nat} {kn : Int32}
theorem CS.opnP {s : AS} {n : Int32} {F : Nat → R4} (h : CS g w0 x nA cA lA kn (sP_ s n F) w) : ∃ gc gl : Nat → Option Nat, RO5 g w x nA cA lA n s.2.2.2.2.1 kn s.2.2.2.2.2 s.1 gc gl ∧ (∀ i, i < 6 → cM w (gc i) (s.2.1 i)) ∧ ∀ i : Nat, (i : Int) < n.toInt → ∃ b, gl i = some b ∧ rAt w b (F i) := h.1.opn g
theorem CS.pcg {s : AS} {n : Int32} {F G : Nat → R4} (h : CS g w0 x nA cA lA kn (sP_ s n F) w) (e : ∀ i : Nat, (i : Int) < n.toInt → F i = G i) : CS g w0 x nA cA lA kn (sP_ s n G) w := by
  obtain ⟨⟨gc, gl, h1, k1, k2⟩, hf⟩ := h
  exact ⟨⟨gc, gl, h1, k1, fun i hi => by
    obtain ⟨b, z1, z2⟩ := k2 i hi
    have z3 : rAt w b (F i) := z2
    rw [e i hi] at z3
    exact ⟨b, z1, z3⟩⟩, hf⟩
/-- the laid row gets another content -/
theorem CS.ll {s : AS} {gl gl' : Nat → Option Nat} {F : Nat → R4} (h : CS g w0 x nA cA lA kn s w) (hl : w lA = some (.inl (4, 12, qc gl))) (h6 : ∀ i c, gl' i = some c → isR w c) (k : ∀ i : Nat, (i : Int) < s.2.2.1.toInt → ∃ c, gl' i = some c ∧ rAt w c (F i)) : CS g w0 x nA cA lA kn (sP_ s s.2.2.1 F) (upw w lA (.inl (4, 12, qc gl'))) := by
  obtain ⟨gc, gl0, ⟨h1, h2, h3, h4, h5, -, h7, h8, -, -, -, -, ⟨d1, d2, d3, d4, d5, d6⟩, ⟨d7, d8, d9, d10, d11, d12⟩⟩, k1, k2⟩ := h.1.opn (fun _ => .null, fun _ => none)
  exact ⟨⟨gc, gl', ⟨by rw [upw_n d3]; exact h1, by rw [upw_n d6]; exact h2, by rw [upw_n d9]; exact h3, upw_s _ _ _, fun i b z => isR_up2 (h5 i b z) hl (by simp), fun i b z => isR_up2 (h6 i b z) hl (by simp), h7, h8⟩, fun i hi => (k1 i hi).mp fun b r hb => rAt_up2 hb hl (by simp), fun i hi => (k i hi).imp fun b z => ⟨z.1, rAt_up2 z.2 hl (by simp)⟩⟩, h.2.up hl (Or.inr rfl)⟩
/-- the laid row and how many are laid -/
theorem CS.xl {s : AS} {gl gl' : Nat → Option Nat} {F : Nat → R4} {n' : Int32} (h : CS g w0 x nA cA lA kn s w) (hl : w lA = some (.inl (4, 12, qc gl))) (h6 : ∀ i c, gl' i = some c → isR w c) (h7 : ¬ n' < 0) (h8 : ¬ 12 < n') (k : ∀ i : Nat, (i : Int) < n'.toInt → ∃ c, gl' i = some c ∧ rAt w c (F i)) : CS g w0 x nA cA lA kn (sP_ s n' F) (upw (upw w x (.inr (5, [.ref nA, .ref cA, .ref lA, .int n', .int s.2.2.2.2.1, .int kn, .int s.2.2.2.2.2]))) lA (.inl (4, 12, qc gl'))) := by
  obtain ⟨gc, gl0, ⟨h1, h2, h3, h4, h5, -, -, -, -, -, -, -, ⟨d1, d2, d3, d4, d5, d6⟩, ⟨d7, d8, d9, d10, d11, d12⟩⟩, k1, k2⟩ := h.1.opn (fun _ => .null, fun _ => none)
  have hl' : upw w x (.inr (5, [.ref nA, .ref cA, .ref lA, .int n', .int s.2.2.2.2.1, .int kn, .int s.2.2.2.2.2])) lA = some (.inl (4, 12, qc gl)) := by rw [upw_n d10]; exact hl
  have R : ∀ c q, rAt w c q → rAt (upw (upw w x (.inr (5, [.ref nA, .ref cA, .ref lA, .int n', .int s.2.2.2.2.1, .int kn, .int s.2.2.2.2.2]))) lA (.inl (4, 12, qc gl'))) c q := fun c q hc => rAt_up2 (rAt_up2 hc h1 (by simp)) hl' (by simp)
  have RR : ∀ c, isR w c → isR (upw (upw w x (.inr (5, [.ref nA, .ref cA, .ref lA, .int n', .int s.2.2.2.2.1, .int kn, .int s.2.2.2.2.2]))) lA (.inl (4, 12, qc gl'))) c := fun c hc => isR_up2 (isR_up2 hc h1 (by simp)) hl' (by simp)
  exact ⟨⟨gc, gl', ⟨by rw [upw_n d3]; exact upw_s _ _ _, by rw [upw_n d6, upw_n d4]; exact h2, by rw [upw_n d9, upw_n d7]; exact h3, upw_s _ _ _, fun i b z => RR b (h5 i b z), fun i b z => RR b (h6 i b z), h7, h8⟩, fun i hi => (k1 i hi).mp R, fun i hi => (k i hi).imp fun b z => ⟨z.1, R _ _ z.2⟩⟩, (h.2.up h1 (Or.inr rfl)).up hl' (Or.inr rfl)⟩
theorem CS.laid {s : AS} {gl : Nat → Option Nat} {b : Nat} {r : R4} (h : CS g w0 x nA cA lA kn s w) (hl : w lA = some (.inl (4, 12, qc gl))) (hgl : ∀ i c, gl i = some c → isR w c) (k : ∀ i : Nat, (i : Int) < s.2.2.1.toInt → ∃ c, gl i = some c ∧ rAt w c (s.2.2.2.1 i)) (hb : rAt w b r) (j : Nat) : CS g w0 x nA cA lA kn (sP_ s s.2.2.1 (va_up s.2.2.2.1 j r)) (upw w lA (.inl (4, 12, qc (va_up gl j (some b))))) := by
  refine h.ll hl (up_ok hgl fun c e => by cases e; exact hb.isR) fun i hi => ?_
  unfold va_up
  by_cases e : i = j
  · rw [if_pos e, if_pos e]
    exact ⟨b, rfl, hb⟩
  · rw [if_neg e, if_neg e]
    exact k i hi
/-- the pile with the gap at p closed up to e -/
def shf (f : Nat → R4) (p e : Nat) : Nat → R4 := fun i => if p ≤ i ∧ i < e then f (i + 1) else f i
/-- the pile without the place p -/
def rmv (f : Nat → R4) (p : Nat) : Nat → R4 := fun i => if i < p then f i else f (i + 1)
theorem shf_0 {f : Nat → R4} {p : Nat} : shf f p p = f := funext fun i => if_neg (by omega)
theorem shf_s {f : Nat → R4} {p e : Nat} (h : p ≤ e) : va_up (shf f p e) e (shf f p e (e + 1)) = shf f p (e + 1) := funext fun i => by
  unfold va_up shf
  by_cases k : i = e
  · subst k
    rw [if_pos rfl, if_neg (by omega), if_pos (by omega)]
  · rw [if_neg k]
    by_cases z : p ≤ i ∧ i < e
    · rw [if_pos z, if_pos (by omega)]
    · rw [if_neg z, if_neg (by omega)]
theorem shf_r {f : Nat → R4} {p e i : Nat} (h : i < e) : shf f p e i = rmv f p i := by
  unfold shf rmv
  by_cases z : i < p
  · rw [if_neg (by omega), if_pos z]
  · rw [if_pos (by omega), if_neg z]
theorem CS.gapS {s : AS} {n : Int32} {f : Nat → R4} {p e b : Nat} {gl : Nat → Option Nat} (h : CS g w0 x nA cA lA kn (sP_ s n (shf f p e)) w) (hl : w lA = some (.inl (4, 12, qc gl))) (hgl : ∀ i c, gl i = some c → isR w c) (k : ∀ i : Nat, (i : Int) < n.toInt → ∃ c, gl i = some c ∧ rAt w c (shf f p e i)) (hb : rAt w b (shf f p e (e + 1))) (hpe : p ≤ e) : CS g w0 x nA cA lA kn (sP_ s n (shf f p (e + 1))) (upw w lA (.inl (4, 12, qc (va_up gl e (some b))))) := by
  have z : CS g w0 x nA cA lA kn (sP_ s n (va_up (shf f p e) e (shf f p e (e + 1)))) (upw w lA (.inl (4, 12, qc (va_up gl e (some b))))) := CS.laid h hl hgl k hb e
  rw [shf_s hpe] at z
  exact z
theorem CS.gapE {s : AS} {n : Int32} {f : Nat → R4} {p e : Nat} {gl : Nat → Option Nat} (h : CS g w0 x nA cA lA kn (sP_ s n (shf f p e)) w) (hl : w lA = some (.inl (4, 12, qc gl))) (hgl : ∀ i c, gl i = some c → isR w c) (k : ∀ i : Nat, (i : Int) < n.toInt → ∃ c, gl i = some c ∧ rAt w c (shf f p e i)) (h0 : 0 < n) (h8 : ¬ 12 < n) (he : n.toInt = ((e + 1 : Nat) : Int)) : CS g w0 x nA cA lA kn (sP_ s (n - 1) (rmv f p)) (upw (upw w x (.inr (5, [.ref nA, .ref cA, .ref lA, .int (n - 1), .int s.2.2.2.2.1, .int kn, .int s.2.2.2.2.2]))) lA (.inl (4, 12, qc (va_up gl (n - 1).toNatClampNeg none)))) := by
  have e1 := cg_sub h0
  have e2 : (n - 1).toNatClampNeg = (n - 1).toInt.toNat := rfl
  refine CS.xl (s := sP_ s n (shf f p e)) (F := rmv f p) h hl (up_ok hgl fun c e => by cases e) (cg3 h0) (cg4 h0 h8) fun i hi => ?_
  rw [show va_up gl (n - 1).toNatClampNeg none i = gl i from if_neg (by omega), ← shf_r (f := f) (p := p) (e := e) (i := i) (by omega)]
  exact k i (by omega)
set_option maxHeartbeats 4000000 in
theorem flX1_closeGap_4 {s : AS} {a0 : Int32} {f : Nat → R4} {n : Int32} {p N : Nat} (he : n.toInt = (N : Int)) (h12 : N ≤ 12) (hp0 : 0 < n) (hQ : ∀ w', CS g w0 x nA cA lA kn (sP_ s (n - 1) (rmv f p)) w' → Q (.inl none) w') : ∀ (d e : Nat) (w : Hw) (k m : Nat), e + 1 + d = N → p ≤ e → CS g w0 x nA cA lA kn (sP_ s n (shf f p e)) w → k ≤ 0 → m ≤ 0 → WP (MX1_closeGap g) Q (4, [some (.ref x), some (.int a0), some (.int (Int32.ofNat (e + 1)))], [], w, k, m) := by
  intro d
  induction d with
  | zero =>
    intro e w k m hjd hpe hC hk hm
    obtain ⟨gc, gl, ⟨hx, hn, hc, hl, hgc, hgl, hn0, hn1, rx, rn, rc, rl, ⟨d1, d2, d3, d4, d5, d6⟩, ⟨d7, d8, d9, d10, d11, d12⟩⟩, hcd, hpl⟩ := hC.opnP
    have h9 : e + 1 < 1000 := by omega
    have hlt : ¬ Int32.ofNat (e + 1) < n := oNg h9 he (by omega)
    rw [eX1_closeGap_4]
    simp only [eX1_closeGap_5, eX1_closeGap_9, eX1_closeGap_12, eX1_closeGap_16, eX1_closeGap_23, eX1_closeGap_25N, eX1_closeGap_25R, eX1_closeGap_26, eX1_closeGap_32, eX1_closeGap_37, eX1_closeGap_42, eX1_closeGap_46, eX1_closeGap_50, eX1_closeGap_52, if_false, not_false_eq_true, rx, rl, hx, hl, d10, upw_n, hlt, ite_le, n45, or_false, false_and, go_s, gq_s, nl_int, rf_st, g0, gS, ex1, nf_i, true_and, List.set_cons_zero, List.set_cons_succ, List.length_cons, List.length_nil, rd_s, ne_eq, not_false_eq_true, Nat.zero_add]
    with_reducible refine And.intro ?_ ?_
    omega
    with_reducible refine And.intro ?_ ?_
    with_reducible exact cg2 hp0 hn1
    with_reducible refine And.intro ?_ ?_
    with_reducible assumption
    with_reducible refine And.intro ?_ ?_
    with_reducible assumption
    ((with_reducible refine isQ (Q := Q) ?_); exact hQ _ (hC.gapE hl hgl hpl hp0 hn1 (by omega)))
  | succ d ih =>
    intro e w k m hjd hpe hC hk hm
    obtain ⟨gc, gl, ⟨hx, hn, hc, hl, hgc, hgl, hn0, hn1, rx, rn, rc, rl, ⟨d1, d2, d3, d4, d5, d6⟩, ⟨d7, d8, d9, d10, d11, d12⟩⟩, hcd, hpl⟩ := hC.opnP
    have h9 : e + 1 < 1000 := by omega
    have hlt : Int32.ofNat (e + 1) < n := oNl h9 he (by omega)
    have hms := oMs h9
    have hcl := oNc h9
    have hcm := oNc (j := e) (by omega)
    obtain ⟨b, hb, hrb⟩ := hpl (e + 1) (by omega)
    rw [eX1_closeGap_4]
    simp only [eX1_closeGap_5, eX1_closeGap_9, eX1_closeGap_12, eX1_closeGap_16, eX1_closeGap_23, eX1_closeGap_25R, eX1_closeGap_26, eX1_closeGap_32, eX1_closeGap_37, eX1_closeGap_42, eX1_closeGap_46, eX1_closeGap_50, eX1_closeGap_52, if_true, not_false_eq_true, rx, rl, hx, hl, d10, upw_n, hlt, hms, hcl, hcm, hb, sal, snn, ite_le, n45, or_false, false_and, go_s, gq_s, nl_int, rf_st, g0, gS, ex1, nf_i, true_and, List.set_cons_zero, List.set_cons_succ, List.length_cons, List.length_nil, rd_s, ne_eq, not_false_eq_true, Nat.zero_add]
    with_reducible refine And.intro ?_ ?_
    with_reducible exact vpj (by omega)
    with_reducible refine And.intro ?_ ?_
    with_reducible exact vpj (by omega)
    with_reducible refine And.intro ?_ ?_
    with_reducible exact go_Fw hrb trivial
    (rw [oN1]; exact ih (e + 1) _ _ _ (by omega) (by omega) (hC.gapS hl hgl hpl hrb hpe) (by first | assumption | omega) (by first | assumption | omega))
theorem n0p {n : Int32} {p : Nat} (h : p < n.toInt.toNat) : 0 < n := i32_of_lt (by
  show (0 : Int) < n.toInt
  omega)
theorem oN9 {i : Nat} (h : i < 1000) : ¬ Int32.ofNat i = -1 := fun e => oN0 h (by rw [e]; decide)
set_option maxHeartbeats 4000000 in
theorem fX1_closeGap {s : AS} {p : Nat} (hC : CS g w0 x nA cA lA kn s w) (hp : p < s.2.2.1.toInt.toNat) (hQ : ∀ w', CS g w0 x nA cA lA kn (sP_ s (s.2.2.1 - 1) (rmv s.2.2.2.1 p)) w' → Q (.inl none) w') : WP (MX1_closeGap g) Q (0, [some (.ref x), some (.int (Int32.ofNat p)), none], [], w, 0, 0) := by
  obtain ⟨gc, gl, ⟨hx, hn, hc, hl, hgc, hgl, hn0, hn1, rx, rn, rc, rl, ⟨d1, d2, d3, d4, d5, d6⟩, ⟨d7, d8, d9, d10, d11, d12⟩⟩, hcd, hpl⟩ := hC.1.opn g
  simp only [eX1_closeGap_0, nl_int]
  (rw [oN1]; exact flX1_closeGap_4 (s := s) (f := s.2.2.2.1) (n := s.2.2.1) (p := p) (cnt12 hn0 hn1).1 (cnt12 hn0 hn1).2 (n0p hp) hQ (s.2.2.1.toInt.toNat - (p + 1)) p w 0 0 (by omega) (Nat.le_refl p) (by rw [shf_0]; exact hC) (by decide) (by decide))
set_option maxHeartbeats 4000000 in
theorem fX1_lift {s : AS} {a0 : Int32} (hC : CS g w0 x nA cA lA kn s w) (hX : ¬ okC a0 → (Q (.inr "java/lang/IndexOutOfBoundsException") w)) (hS : okC a0 → s.2.1 a0.toNatClampNeg = none → (Q (.inr "java/lang/IllegalStateException") w)) (hN : okC a0 → ∀ r, s.2.1 a0.toNatClampNeg = some r → (∀ i, i < s.2.2.1.toInt.toNat → ¬ mP r (s.2.2.2.1 i)) → Q (.inl (some (.int 0))) w) (hQ : okC a0 → ∀ r, s.2.1 a0.toNatClampNeg = some r → ∀ i, i < s.2.2.1.toInt.toNat → mP r (s.2.2.2.1 i) → (∀ k, k < i → ¬ mP r (s.2.2.2.1 k)) → ∀ w', CS g w0 x nA cA lA kn (sP_ s (s.2.2.1 - 1) (rmv s.2.2.2.1 i)) w' → Q (.inl (some (.int 1))) w') : WP (MX1_lift g) Q (0, [some (.ref x), some (.int a0), none], [], w, 0, 0) := by
  obtain ⟨gc, gl, ⟨hx, hn, hc, hl, hgc, hgl, hn0, hn1, rx, rn, rc, rl, ⟨d1, d2, d3, d4, d5, d6⟩, ⟨d7, d8, d9, d10, d11, d12⟩⟩, hcd, hpl⟩ := hC.1.opn g
  simp only [eX1_lift_0, rx, go_s, wt_nil, wt_ref, true_and, Nat.zero_add, Nat.add_zero]
  with_reducible refine And.intro ?_ ?_
  omega
  with_reducible refine And.intro ?_ ?_
  omega
  with_reducible refine And.intro ?_ ?_
  omega
  with_reducible refine fX1_rangeOf (a0 := a0) hC (fun _ => ?_) (fun k0 e1 => ?_) (fun k0 p r e1 hp => ?_)
  simp only [kx_r]
  with_reducible exact hX (by assumption)
  simp only [kx_r]
  with_reducible exact hS k0 e1
  simp only [eX1_lift_6R, rx, kx_l, go_s, wt_nil, tl_s, true_and, Nat.add_zero]
  with_reducible refine And.intro ?_ ?_
  omega
  with_reducible refine And.intro ?_ ?_
  omega
  with_reducible refine And.intro ?_ ?_
  omega
  with_reducible refine fX1_firstPlaceOf hC hp (fun z1 => ?_) (fun i z1 z2 z3 => ?_)
  simp only [eX1_lift_9, eX1_lift_15, eX1_lift_17, eX1_lift_22, if_true, rx, kx_l, go_s, wt_nil, nl_int, tl_s, true_and, Nat.add_zero]
  with_reducible refine And.intro ?_ ?_
  omega
  with_reducible refine And.intro ?_ ?_
  omega
  with_reducible exact hN k0 r e1 z1
  simp only [eX1_lift_9, eX1_lift_15, eX1_lift_17, eX1_lift_22, rx, kx_l, go_s, wt_nil, nl_int, tl_s, true_and, Nat.add_zero]
  split
  with_reducible refine And.intro ?_ ?_
  with_reducible exact absurd (by assumption) (oN9 (i := i) (by have := (cnt12 hn0 hn1).2; omega))
  with_reducible refine And.intro ?_ ?_
  with_reducible exact absurd (by assumption) (oN9 (i := i) (by have := (cnt12 hn0 hn1).2; omega))
  with_reducible exact absurd (by assumption) (oN9 (i := i) (by have := (cnt12 hn0 hn1).2; omega))
  with_reducible refine And.intro ?_ ?_
  omega
  with_reducible refine And.intro ?_ ?_
  omega
  with_reducible refine And.intro ?_ ?_
  omega
  with_reducible refine fX1_closeGap hC z1 (fun w1 g1 => ?_)
  simp only [eX1_lift_23, kx_l, tl_n]
  with_reducible refine And.intro ?_ ?_
  omega
  with_reducible refine And.intro ?_ ?_
  omega
  with_reducible exact hQ k0 r e1 i z1 z2 z3 w1 g1
end
end
/-! 71.fnb.lean.txt -/
section
section
variable {g : RO} {Q : Ot → Hw → Prop} {w0 w : Hw} {x nA cA lA : Nat} {kn : Int32}
def tur (f : Nat → R4) (N j : Nat) : Nat → R4 := fun i => if i < j ∨ (N - j ≤ i ∧ i < N) then f (N - 1 - i) else f i
def rev (f : Nat → R4) (N : Nat) : Nat → R4 := fun i => f (N - 1 - i)
theorem tur_0 {f : Nat → R4} {N : Nat} : tur f N 0 = f := funext fun i => if_neg (by omega)
theorem tur_s {f : Nat → R4} {N j : Nat} (h : 2 * j + 2 ≤ N) : va_up (va_up (tur f N j) j (tur f N j (N - 1 - j))) (N - 1 - j) (tur f N j j) = tur f N (j + 1) := funext fun i => by
  unfold va_up tur
  rw [if_neg (show ¬ (N - 1 - j < j ∨ (N - j ≤ N - 1 - j ∧ N - 1 - j < N)) by omega), if_neg (show ¬ (j < j ∨ (N - j ≤ j ∧ j < N)) by omega)]
  by_cases k : i = N - 1 - j
  · rw [if_pos k, if_pos (by omega)]
    exact congrArg f (by omega)
  · rw [if_neg k]
    by_cases z : i = j
    · rw [if_pos z, if_pos (by omega)]
      exact congrArg f (by omega)
    · rw [if_neg z]
      by_cases y : i < j ∨ (N - j ≤ i ∧ i < N)
      · rw [if_pos y, if_pos (by omega)]
      · rw [if_neg y, if_neg (by omega)]
theorem tur_e {f : Nat → R4} {N i : Nat} (h : i < N) : tur f N (N / 2) i = rev f N i := by
  unfold tur rev
  by_cases y : i < N / 2 ∨ (N - N / 2 ≤ i ∧ i < N)
  · rw [if_pos y]
  · rw [if_neg y]
    exact congrArg f (by omega)
theorem hlfE {n : Int32} (h0 : ¬ n < 0) (h1 : ¬ 12 < n) : (n / 2).toInt = ((n.toInt.toNat / 2 : Nat) : Int) := by
  have e12 : (12 : Int32).toInt = 12 := rfl
  rcases sw_0 n 12 (by decide) with ⟨k, h, rfl⟩ | h
  · match k, h with
    | 0, _ => decide
    | 1, _ => decide
    | 2, _ => decide
    | 3, _ => decide
    | 4, _ => decide
    | 5, _ => decide
    | 6, _ => decide
    | 7, _ => decide
    | 8, _ => decide
    | 9, _ => decide
    | 10, _ => decide
    | 11, _ => decide
    | 12, _ => decide
  · exfalso
    have a := i32_0 h0
    have b := i32_nlt h1
    omega
theorem acE {n : Int32} {N j : Nat} (he : n.toInt = (N : Int)) (h12 : N ≤ 12) (h : j < N) : n - 1 - Int32.ofNat j = Int32.ofNat (N - 1 - j) := by
  have e1 : (1 : Int32).toInt = 1 := rfl
  have a1 := oNt (j := j) (by omega)
  have a2 := oNt (j := N - 1 - j) (by omega)
  have s1 : (n - 1).toInt = n.toInt - 1 := by rw [i32_sub (by omega) (by omega), e1]
  refine Int32.toInt_inj.1 ?_
  rw [i32_sub (by omega) (by omega), s1, a1, a2]
  omega
theorem CS.turS {s : AS} {n : Int32} {f : Nat → R4} {N j b1 b2 : Nat} {gl : Nat → Option Nat} (h : CS g w0 x nA cA lA kn (sP_ s n (tur f N j)) w) (hl : w lA = some (.inl (4, 12, qc gl))) (hgl : ∀ i c, gl i = some c → isR w c) (k : ∀ i : Nat, (i : Int) < n.toInt → ∃ c, gl i = some c ∧ rAt w c (tur f N j i)) (h1 : rAt w b1 (tur f N j j)) (h2 : rAt w b2 (tur f N j (N - 1 - j))) (hj : 2 * j + 2 ≤ N) : CS g w0 x nA cA lA kn (sP_ s n (tur f N (j + 1))) (upw (upw w lA (.inl (4, 12, qc (va_up gl j (some b2))))) lA (.inl (4, 12, qc (va_up (va_up gl j (some b2)) (N - 1 - j) (some b1))))) := by
  have z : CS g w0 x nA cA lA kn (sP_ s n (va_up (tur f N j) j (tur f N j (N - 1 - j)))) (upw w lA (.inl (4, 12, qc (va_up gl j (some b2))))) := CS.laid h hl hgl k h2 j
  have y : CS g w0 x nA cA lA kn (sP_ s n (va_up (va_up (tur f N j) j (tur f N j (N - 1 - j))) (N - 1 - j) (tur f N j j))) (upw (upw w lA (.inl (4, 12, qc (va_up gl j (some b2))))) lA (.inl (4, 12, qc (va_up (va_up gl j (some b2)) (N - 1 - j) (some b1))))) := CS.laid z (upw_s _ _ _) (fun i c e => isR_up2 (up_ok hgl (fun c e => by cases e; exact h2.isR) i c e) hl (by simp)) (fun i hi => by
    obtain ⟨c, c1, c2⟩ := k i hi
    show ∃ c, va_up gl j (some b2) i = some c ∧ rAt _ c (va_up (tur f N j) j (tur f N j (N - 1 - j)) i)
    unfold va_up
    by_cases e : i = j
    · rw [if_pos e, if_pos e]
      exact ⟨b2, rfl, rAt_up2 h2 hl (by simp)⟩
    · rw [if_neg e, if_neg e]
      exact ⟨c, c1, rAt_up2 c2 hl (by simp)⟩) (rAt_up2 h1 hl (by simp)) (N - 1 - j)
  rw [tur_s hj] at y
  exact y
theorem CS.turE {s : AS} {n : Int32} {f : Nat → R4} {N j : Nat} (h : CS g w0 x nA cA lA kn (sP_ s n (tur f N j)) w) (he : n.toInt = (N : Int)) (hj : j = N / 2) : CS g w0 x nA cA lA kn (sP_ s n (rev f N)) w := by
  subst hj
  exact h.pcg fun i hi => tur_e (by omega)
set_option maxHeartbeats 4000000 in
theorem flX1_turn_2 {s : AS} {f : Nat → R4} {n : Int32} {N : Nat} (he : n.toInt = (N : Int)) (h12 : N ≤ 12) (hv : (n / 2).toInt = ((N / 2 : Nat) : Int)) (hQ : ∀ w', CS g w0 x nA cA lA kn (sP_ s n (rev f N)) w' → Q (.inl (some (.int n))) w') : ∀ (d j : Nat) (i2 i3 : Option Value) (w : Hw) (k m : Nat), j + d = N / 2 → CS g w0 x nA cA lA kn (sP_ s n (tur f N j)) w → k ≤ 0 → m ≤ 0 → WP (MX1_turn g) Q (2, [some (.ref x), some (.int (Int32.ofNat j)), i2, i3], [], w, k, m) := by
  intro d
  induction d with
  | zero =>
    intro j i2 i3 w k m hjd hC hk hm
    obtain ⟨gc, gl, ⟨hx, hn, hc, hl, hgc, hgl, hn0, hn1, rx, rn, rc, rl, ⟨d1, d2, d3, d4, d5, d6⟩, ⟨d7, d8, d9, d10, d11, d12⟩⟩, hcd, hpl⟩ := hC.opnP
    have h9 : j < 1000 := by omega
    have hlt : ¬ Int32.ofNat j < n / 2 := oNg h9 hv (by omega)
    rw [eX1_turn_2]
    simp only [eX1_turn_3, eX1_turn_7, eX1_turn_9, eX1_turn_12, eX1_turn_16, eX1_turn_25, eX1_turn_27, eX1_turn_27N, eX1_turn_28, eX1_turn_32, eX1_turn_37, eX1_turn_39N, eX1_turn_39R, eX1_turn_40, eX1_turn_44, eX1_turn_45, eX1_turn_45N, eX1_turn_46N, eX1_turn_46R, eX1_turn_47, eX1_turn_53, eX1_turn_57, if_false, not_false_eq_true, rx, rl, hl, d3, rd_n, hlt, tn_2, ite_le, n45, or_false, false_and, go_s, gq_s, nl_int, nl_ref, rf_st, g0, gS, ex1, true_and, upw_s, ne_eq, not_false_eq_true]
    with_reducible refine And.intro ?_ ?_
    with_reducible assumption
    with_reducible refine And.intro ?_ ?_
    with_reducible assumption
    ((with_reducible refine isQ (Q := Q) ?_); exact hQ _ (hC.turE he (by omega)))
  | succ d ih =>
    intro j i2 i3 w k m hjd hC hk hm
    obtain ⟨gc, gl, ⟨hx, hn, hc, hl, hgc, hgl, hn0, hn1, rx, rn, rc, rl, ⟨d1, d2, d3, d4, d5, d6⟩, ⟨d7, d8, d9, d10, d11, d12⟩⟩, hcd, hpl⟩ := hC.opnP
    have h9 : j < 1000 := by omega
    have hlt : Int32.ofNat j < n / 2 := oNl h9 hv (by omega)
    have hac := acE (j := j) he h12 (by omega)
    have hcl := oNc h9
    have hcm := oNc (j := N - 1 - j) (by omega)
    obtain ⟨b1, hb1, hr1⟩ := hpl j (by omega)
    obtain ⟨b2, hb2, hr2⟩ := hpl (N - 1 - j) (by omega)
    rw [eX1_turn_2]
    simp only [eX1_turn_3, eX1_turn_7, eX1_turn_9, eX1_turn_12, eX1_turn_16, eX1_turn_25, eX1_turn_27, eX1_turn_27N, eX1_turn_28, eX1_turn_32, eX1_turn_37, eX1_turn_39R, eX1_turn_40, eX1_turn_44, eX1_turn_45, eX1_turn_45N, eX1_turn_46N, eX1_turn_46R, eX1_turn_47, eX1_turn_53, eX1_turn_57, if_true, not_false_eq_true, rx, rl, hl, d3, rd_n, hlt, tn_2, hac, hcl, hcm, hb1, hb2, sal, snn, ite_le, n45, or_false, false_and, go_s, gq_s, nl_int, nl_ref, rf_st, g0, gS, ex1, true_and, upw_s, ne_eq, not_false_eq_true]
    with_reducible refine And.intro ?_ ?_
    with_reducible exact vpj (by omega)
    with_reducible refine And.intro ?_ ?_
    with_reducible exact vpj (by omega)
    with_reducible refine And.intro ?_ ?_
    with_reducible exact vpj (by omega)
    with_reducible refine And.intro ?_ ?_
    with_reducible exact go_Fw hr2 trivial
    with_reducible refine And.intro ?_ ?_
    with_reducible exact vpj (by omega)
    with_reducible refine And.intro ?_ ?_
    with_reducible exact go_Fw (rAt_up2 hr1 hl (by simp)) trivial
    (rw [oN1]; exact ih (j + 1) _ _ _ _ _ (by omega) (hC.turS hl hgl hpl hr1 hr2 (by omega)) (by first | assumption | omega) (by first | assumption | omega))
set_option maxHeartbeats 4000000 in
theorem fX1_turn {s : AS} (hC : CS g w0 x nA cA lA kn s w) (hQ : ∀ w', CS g w0 x nA cA lA kn (sP_ s s.2.2.1 (rev s.2.2.2.1 s.2.2.1.toInt.toNat)) w' → Q (.inl (some (.int s.2.2.1))) w') : WP (MX1_turn g) Q (0, [some (.ref x), none, none, none], [], w, 0, 0) := by
  obtain ⟨gc, gl, ⟨hx, hn, hc, hl, hgc, hgl, hn0, hn1, rx, rn, rc, rl, ⟨d1, d2, d3, d4, d5, d6⟩, ⟨d7, d8, d9, d10, d11, d12⟩⟩, hcd, hpl⟩ := hC.1.opn g
  simp only [eX1_turn_0, nl_ref]
  ((with_reducible refine isWP (pc := 2) ?_); exact flX1_turn_2 (s := s) (f := s.2.2.2.1) (n := s.2.2.1) (cnt12 hn0 hn1).1 (cnt12 hn0 hn1).2 (hlfE hn0 hn1) hQ (s.2.2.1.toInt.toNat / 2) 0 _ _ w 0 0 (by omega) (by rw [tur_0]; exact hC) (by decide) (by decide))
theorem upw_upw {w : Hw} {a : Nat} {o o' : Ob} : upw (upw w a o) a o' = upw w a o' := funext fun c => by
  by_cases e : c = a
  · subst e
    rw [upw_s, upw_s]
  · rw [upw_n e, upw_n e, upw_n e]
theorem upw_id {w : Hw} {a : Nat} {o : Ob} (h : w a = some o) : upw w a o = w := funext fun c => by
  by_cases e : c = a
  · subst e
    rw [upw_s, h]
  · rw [upw_n e]
/-- while the pile is swept: the rest is as it was -/
def SW (g : RO) (w0 : Hw) (x nA cA lA : Nat) (kn : Int32) (s : AS) (w1 : Hw) : Prop := ∃ (w : Hw) (gl gl1 : Nat → Option Nat), CS g w0 x nA cA lA kn s w ∧ w lA = some (.inl (4, 12, qc gl)) ∧ (∀ i b, gl1 i = some b → isR w b) ∧ w1 = upw w lA (.inl (4, 12, qc gl1))
theorem SW.of {s : AS} (h : CS g w0 x nA cA lA kn s w) : SW g w0 x nA cA lA kn s w := by
  obtain ⟨gc, gl, ⟨h1, h2, h3, h4, h5, h6, -⟩, -⟩ := h.1.opn g
  exact ⟨w, gl, gl, h, h4, h6, (upw_id h4).symm⟩
theorem SW.opn {s : AS} (h : SW g w0 x nA cA lA kn s w) : ∃ gc gl : Nat → Option Nat, RO5 g w x nA cA lA s.2.2.1 s.2.2.2.2.1 kn s.2.2.2.2.2 s.1 gc gl := by
  obtain ⟨w, gl, gl1, hC, hl, h6', rfl⟩ := h
  obtain ⟨gc, gl', ⟨h1, h2, h3, h4, h5, h6, h7, h8, -, -, -, -, ⟨d1, d2, d3, d4, d5, d6⟩, ⟨d7, d8, d9, d10, d11, d12⟩⟩, -⟩ := hC.1.opn g
  have g1 := (upw_n (o := .inl (4, 12, qc gl1)) d3).trans h1
  have g2 := (upw_n (o := .inl (4, 12, qc gl1)) d6).trans h2
  have g3 := (upw_n (o := .inl (4, 12, qc gl1)) d9).trans h3
  have g4 := upw_s w lA (.inl (4, 12, qc gl1))
  exact ⟨gc, gl1, g1, g2, g3, g4, fun i b z => isR_up2 (h5 i b z) hl (by simp), fun i b z => isR_up2 (h6' i b z) hl (by simp), h7, h8, rd_e g1, rd_e g2, rd_e g3, rd_e g4, ⟨d1, d2, d3, d4, d5, d6⟩, ⟨d7, d8, d9, d10, d11, d12⟩⟩
theorem SW.nul {s : AS} {gl : Nat → Option Nat} (h : SW g w0 x nA cA lA kn s w) (hl : w lA = some (.inl (4, 12, qc gl))) (j : Nat) : SW g w0 x nA cA lA kn s (upw w lA (.inl (4, 12, qc (va_up gl j none)))) := by
  obtain ⟨w, gl', gl1, hC, hl', h6, rfl⟩ := h
  rw [upw_s] at hl
  cases hl
  exact ⟨w, gl', va_up gl j none, hC, hl', up_ok h6 (fun c e => by cases e), upw_upw⟩
theorem SW.fin {s : AS} (h : SW g w0 x nA cA lA kn s w) (F : Nat → R4) : CS g w0 x nA cA lA kn (sP_ s 0 F) (upw w x (.inr (5, [.ref nA, .ref cA, .ref lA, .int 0, .int s.2.2.2.2.1, .int kn, .int s.2.2.2.2.2]))) := by
  obtain ⟨w, gl', gl1, hC, hl, h6, rfl⟩ := h
  obtain ⟨gc, gl', ⟨h1, h2, h3, h4, h5, -, -, -, -, -, -, -, ⟨d1, d2, d3, d4, d5, d6⟩, ⟨d7, d8, d9, d10, d11, d12⟩⟩, k1, k2⟩ := hC.1.opn g
  have hx' := (upw_n (o := .inl (4, 12, qc gl1)) d3).trans h1
  have R : ∀ c q, rAt w c q → rAt (upw (upw w lA (.inl (4, 12, qc gl1))) x (.inr (5, [.ref nA, .ref cA, .ref lA, .int 0, .int s.2.2.2.2.1, .int kn, .int s.2.2.2.2.2]))) c q := fun c q hc => rAt_up2 (rAt_up2 hc hl (by simp)) hx' (by simp)
  have RR : ∀ c, isR w c → isR (upw (upw w lA (.inl (4, 12, qc gl1))) x (.inr (5, [.ref nA, .ref cA, .ref lA, .int 0, .int s.2.2.2.2.1, .int kn, .int s.2.2.2.2.2]))) c := fun c hc => isR_up2 (isR_up2 hc hl (by simp)) hx' (by simp)
  exact ⟨⟨gc, gl1, ⟨upw_s _ _ _, by rw [upw_n d4, upw_n d6]; exact h2, by rw [upw_n d7, upw_n d9]; exact h3, by rw [upw_n d10]; exact upw_s _ _ _, fun i c z => RR c (h5 i c z), fun i c z => RR c (h6 i c z), show ¬ (0 : Int32) < 0 by decide, show ¬ (12 : Int32) < 0 by decide⟩, fun i hi => (k1 i hi).mp R, fun i hi => by
    have hi' : (i : Int) < (0 : Int32).toInt := hi
    have e0 : (0 : Int32).toInt = 0 := rfl
    omega⟩, (hC.2.up hl (Or.inr rfl)).up hx' (Or.inr rfl)⟩
set_option maxHeartbeats 4000000 in
theorem flX1_sweep_7 {s : AS} (hQ : ∀ w', (∀ F, CS g w0 x nA cA lA kn (sP_ s 0 F) w') → Q (.inl (some (.int s.2.2.1))) w') : ∀ (d j : Nat) (w : Hw) (k m : Nat), j + d = 12 → SW g w0 x nA cA lA kn s w → k ≤ 0 → m ≤ 0 → WP (MX1_sweep g) Q (7, [some (.ref x), some (.int s.2.2.1), some (.int (Int32.ofNat j))], [], w, k, m) := by
  intro d
  induction d with
  | zero =>
    intro j w k m hjd hC hk hm
    obtain ⟨gc, gl, hx, hn, hc, hl, hgc, hgl, hn0, hn1, rx, rn, rc, rl, ⟨d1, d2, d3, d4, d5, d6⟩, ⟨d7, d8, d9, d10, d11, d12⟩⟩ := hC.opn
    have h9 : j < 1000 := by omega
    have hlt : ¬ Int32.ofNat j < 12 := oNg (B := 12) h9 rfl (by omega)
    rw [eX1_sweep_7]
    simp only [eX1_sweep_8, eX1_sweep_12, eX1_sweep_13, eX1_sweep_16, eX1_sweep_20, eX1_sweep_23, eX1_sweep_29, eX1_sweep_34, if_false, rx, rl, hx, hl, hlt, exal, o12, ite_le, n45, or_false, go_s, gq_s, nl_int, g0, gS, ex1, nf_i, true_and, List.set_cons_zero, List.set_cons_succ, List.length_cons, List.length_nil, Nat.zero_add]
    with_reducible refine And.intro ?_ ?_
    omega
    with_reducible refine And.intro ?_ ?_
    omega
    with_reducible refine And.intro ?_ ?_
    with_reducible assumption
    with_reducible refine And.intro ?_ ?_
    with_reducible assumption
    ((with_reducible refine isQ (Q := Q) ?_); exact hQ _ (fun F => hC.fin F))
  | succ d ih =>
    intro j w k m hjd hC hk hm
    obtain ⟨gc, gl, hx, hn, hc, hl, hgc, hgl, hn0, hn1, rx, rn, rc, rl, ⟨d1, d2, d3, d4, d5, d6⟩, ⟨d7, d8, d9, d10, d11, d12⟩⟩ := hC.opn
    have h9 : j < 1000 := by omega
    have hlt : Int32.ofNat j < 12 := oNl (B := 12) h9 rfl (by omega)
    have hcl := oNc h9
    rw [eX1_sweep_7]
    simp only [eX1_sweep_8, eX1_sweep_12, eX1_sweep_13, eX1_sweep_16, eX1_sweep_20, eX1_sweep_23, eX1_sweep_29, eX1_sweep_34, if_true, rx, rl, hx, hl, hlt, hcl, exal, o12, ite_le, n45, or_false, go_s, gq_s, nl_int, g0, gS, ex1, nf_i, true_and, List.set_cons_zero, List.set_cons_succ, List.length_cons, List.length_nil, Nat.zero_add]
    with_reducible refine And.intro ?_ ?_
    omega
    with_reducible refine And.intro ?_ ?_
    with_reducible exact vpj (by omega)
    (rw [oN1]; exact ih (j + 1) _ _ _ (by omega) (hC.nul hl _) (by first | assumption | omega) (by first | assumption | omega))
set_option maxHeartbeats 4000000 in
theorem fX1_sweep {s : AS} (hC : CS g w0 x nA cA lA kn s w) (hQ : ∀ w', (∀ F, CS g w0 x nA cA lA kn (sP_ s 0 F) w') → Q (.inl (some (.int s.2.2.1))) w') : WP (MX1_sweep g) Q (0, [some (.ref x), none, none], [], w, 0, 0) := by
  obtain ⟨gc, gl, ⟨hx, hn, hc, hl, hgc, hgl, hn0, hn1, rx, rn, rc, rl, ⟨d1, d2, d3, d4, d5, d6⟩, ⟨d7, d8, d9, d10, d11, d12⟩⟩, hcd, hpl⟩ := hC.1.opn g
  simp only [eX1_sweep_0, eX1_sweep_4, rx, go_s, nl_int, nl_ref, g0, gS, ex1]
  ((with_reducible refine isWP (pc := 7) ?_); exact flX1_sweep_7 hQ 12 0 w 0 0 rfl (SW.of hC) (by decide) (by decide))
end
end
/-! 71.fnc.lean.txt -/
section
section
variable {g : RO} {Q : Ot → Hw → Prop} {w0 w : Hw} {x nA cA lA : Nat} {kn : Int32}
theorem mSy {r q : R4} (h : mP r q) : mP q r := ⟨h.1.symm, h.2.1.symm, h.2.2.1.symm, h.2.2.2.symm⟩
end
end
/-! 71.fnd.lean.txt -/
section
section
variable {g : RO} {Q : Ot → Hw → Prop} {w0 w : Hw} {x nA cA lA : Nat} {kn : Int32}
/-- the class stands in some state whose ranges are in order -/
def CO (g : RO) (w0 : Hw) (x nA cA lA : Nat) (kn : Int32) (w : Hw) : Prop := ∃ s, sOk s ∧ CS g w0 x nA cA lA kn s w
theorem CO.cc (h : CO g w0 x nA cA lA kn w) : CC g w0 x nA cA lA kn w := by
  obtain ⟨s, -, h⟩ := h
  exact h.cc
theorem CO.ext {w' : Hw} (h : CO g w0 x nA cA lA kn w) (k : ext g w w') : CO g w0 x nA cA lA kn w' := by
  obtain ⟨s, ho, h⟩ := h
  exact ⟨s, ho, h.ext k⟩
theorem CO.mk {s : AS} (h : CS g w0 x nA cA lA kn s w) (ho : sOk s) : CO g w0 x nA cA lA kn w := ⟨s, ho, h⟩
theorem sOk.c' {s : AS} {a : Int32} {r : R4} (h : sOk s) (e : s.2.1 a.toNatClampNeg = some r) (k : okC a) : rOk r := h.c k e
theorem sOk.p' {s : AS} {a : Int32} (h : sOk s) (k : okP s.2.2.1 a) : rOk (s.2.2.2.1 a.toNatClampNeg) := h.2.1 _ (plB k)
theorem sOk.num {s : AS} {f : Nat → Int64} (h : sOk s) : sOk (sN s f) := h
theorem sOk.rf {s : AS} (h : sOk s) : sOk (sRf s) := h
theorem sOk.card {s : AS} {j : Nat} {r : R4} (h : sOk s) (hr : rOk r) : sOk (sC s (va_up s.2.1 j (some r))) := by
  refine ⟨fun i q hi e => ?_, h.2⟩
  have e' : va_up s.2.1 j (some r) i = some q := e
  unfold va_up at e'
  by_cases k : i = j
  · rw [if_pos k] at e'
    cases e'
    exact hr
  · rw [if_neg k] at e'
    exact h.1 i q hi e'
theorem sOk.card0 {s : AS} {j : Nat} (h : sOk s) : sOk (sC s (va_up s.2.1 j none)) := by
  refine ⟨fun i q hi e => ?_, h.2⟩
  have e' : va_up s.2.1 j none i = some q := e
  unfold va_up at e'
  by_cases k : i = j
  · rw [if_pos k] at e'
    cases e'
  · rw [if_neg k] at e'
    exact h.1 i q hi e'
theorem sOk.mk {s : AS} {j : Nat} {r : R4} (h : sOk s) (hr : rOk r) : sOk (sMk s j r) := h.card hr
theorem sOk.mkO {s : AS} {j : Nat} {a : Int32} {r : R4} (h : sOk s) (e : s.2.1 a.toNatClampNeg = some r) (k : okC a) : sOk (sMk s j (r.1, r.1, r.2.2.2, r.2.2.2)) := h.mk (oOut (r := r) (h.c k e))
theorem sOk.lay {s : AS} {r : R4} (h : sOk s) (hr : rOk r) (h11 : s.2.2.1 < 12) : sOk (sP_ s (s.2.2.1 + 1) (va_up s.2.2.2.1 s.2.2.1.toNatClampNeg r)) := by
  have q0 := i32_0 h.2.2.1
  have q1 := i32_lt h11
  have z : (12 : Int32).toInt = 12 := rfl
  have e1 : (s.2.2.1 + 1).toInt = s.2.2.1.toInt + 1 := i32p1 q0 (by omega)
  have t : s.2.2.1.toNatClampNeg = s.2.2.1.toInt.toNat := rfl
  refine ⟨h.1, fun i hi => ?_, i32_of_nlt (by show (0 : Int) ≤ (s.2.2.1 + 1).toInt; omega), i32_of_nlt (by show (s.2.2.1 + 1).toInt ≤ (12 : Int); omega)⟩
  have hi2 : (i : Int) < (s.2.2.1 + 1).toInt := hi
  show rOk (va_up s.2.2.2.1 s.2.2.1.toNatClampNeg r i)
  unfold va_up
  by_cases e : i = s.2.2.1.toNatClampNeg
  · rw [if_pos e]
    exact hr
  · rw [if_neg e]
    exact h.2.1 i (by omega)
theorem sOk.gap {s : AS} {p : Nat} (h : sOk s) (hp : p < s.2.2.1.toInt.toNat) : sOk (sP_ s (s.2.2.1 - 1) (rmv s.2.2.2.1 p)) := by
  have h0 := n0p hp
  have e1 := cg_sub h0
  refine ⟨h.1, fun i hi => ?_, cg3 h0, cg4 h0 h.2.2.2⟩
  have hi2 : (i : Int) < (s.2.2.1 - 1).toInt := hi
  show rOk (rmv s.2.2.2.1 p i)
  unfold rmv
  by_cases e : i < p
  · rw [if_pos e]
    exact h.2.1 i (by omega)
  · rw [if_neg e]
    exact h.2.1 (i + 1) (by omega)
theorem sOk.tur {s : AS} (h : sOk s) : sOk (sP_ s s.2.2.1 (rev s.2.2.2.1 s.2.2.1.toInt.toNat)) := by
  refine ⟨h.1, fun i hi => ?_, h.2.2⟩
  have hi2 : (i : Int) < s.2.2.1.toInt := hi
  exact h.2.1 (s.2.2.1.toInt.toNat - 1 - i) (by omega)
theorem sOk.zero {s : AS} {F : Nat → R4} (h : sOk s) : sOk (sP_ s 0 F) := by
  refine ⟨h.1, fun i hi => ?_, show ¬ (0 : Int32) < 0 by decide, show ¬ (12 : Int32) < 0 by decide⟩
  have hi2 : (i : Int) < (0 : Int32).toInt := hi
  have e0 : (0 : Int32).toInt = 0 := rfl
  omega
end
end
/-! 71.fne.lean.txt -/
section
section
variable {g : RO} {Q : Ot → Hw → Prop} {w0 w : Hw} {x nA cA lA : Nat} {kn : Int32}
def RFO (w : Hw) (x nA cA lA : Nat) (kn : Int32) : Prop := ∃ s, sOk s ∧ RF w x nA cA lA kn s
theorem RFO.rc (h : RFO w x nA cA lA kn) : RC w x nA cA lA kn := by
  obtain ⟨s, -, h⟩ := h
  exact h.rc
theorem z32 {i : Nat} (h : (i : Int) < (0 : Int32).toInt) : False := by
  have e0 : (0 : Int32).toInt = 0 := rfl
  omega
abbrev S00 : AS := (fun _ => 0, fun _ => none, 0, fun _ => (0, 0, 0, 0), 0, 0)
theorem S00_n {i : Nat} {r : R4} (e : S00.2.1 i = some r) : False := by
  have e' : (none : Option R4) = some r := e
  cases e'
theorem S00_ok : sOk S00 := ⟨fun i r hi e => (S00_n e).elim, fun i hi => (z32 hi).elim, show ¬ (0 : Int32) < 0 by decide, show ¬ (12 : Int32) < 0 by decide⟩
end
end
/-! 75.mf0.lean.txt -/
section
section
variable {g : RO} {Q : Ot → Hw → Prop} {w0 w : Hw} {y nM : Nat} {kd th : Int32} {s : AS}
def rV (r : R4) : Nat → Int64 := vp_updL (vp_updL (vp_updL (vp_updL (fun _ => 0) 0 r.1) 1 r.2.1) 2 r.2.2.1) 3 r.2.2.2
/-- a row's cells: its four numbers -/
def rowA (w : Hw) (b : Nat) (r : R4) : Prop := w b = some (.inl (0, 4, .inr (.inl (rV r))))
theorem rowA.row {b : Nat} {r : R4} (h : rowA w b r) : isRow w b := ⟨_, h⟩
theorem rowA.ext {b : Nat} {r : R4} {w' : Hw} (h : rowA w b r) (k : ext g w w') : rowA w' b r := k.1 _ _ h
theorem rowA.ca {b : Nat} {r : R4} (h : rowA w b r) : ∃ x, w b = some (.inl (0, x)) := ⟨_, h⟩
theorem rowA_up {a b : Nat} {r : R4} {o1 o2 : Ob} (h : rowA w b r) (ha : w a = some o1) (ho : ∀ z, o1 ≠ .inl (0, 4, z)) : rowA (upw w a o2) b r := by
  unfold rowA
  rw [upw_n]
  · exact h
  · rintro rfl
    rw [h] at ha
    cases ha
    exact ho _ rfl
theorem gl_A {b : Nat} {r : R4} {K : Nat → (Nat → Int64) → Prop} (h : rowA w b r) (k : K 4 (rV r)) : gl (rd g w b) 0 K := by
  rw [rd_e h, gl_s]
  exact k
theorem rv0 {r : R4} : rV r (0 : Int32).toNatClampNeg = r.1 := Eq.trans rfl rfl
theorem rv1 {r : R4} : rV r (1 : Int32).toNatClampNeg = r.2.1 := Eq.trans rfl rfl
theorem rv2 {r : R4} : rV r (2 : Int32).toNatClampNeg = r.2.2.1 := Eq.trans rfl rfl
theorem rv3 {r : R4} : rV r (3 : Int32).toNatClampNeg = r.2.2.2 := Eq.trans rfl rfl
theorem rvE {r : R4} {a : Int32} (h0 : ¬ a < 0) (h1 : ¬ 3 < a) : rV r a.toNatClampNeg = eV r a := by
  rcases sw02 a with rfl | rfl | rfl | h
  · rfl
  · rfl
  · rfl
  · have e3 : (3 : Int32).toInt = 3 := rfl
    have e0 := i32_0 h0
    have e1 := i32_nlt h1
    obtain rfl : a = 3 := i32_eq (by omega)
    rfl
theorem rvj {r : R4} {j : Nat} (h : j < 4) : rV r j = eV r (Int32.ofNat j) := by
  match j, h with
  | 0, _ => rfl
  | 1, _ => rfl
  | 2, _ => rfl
  | 3, _ => rfl
  | j + 4, h => exact absurd h (by omega)
def cR (w : Hw) : Option Nat → Option R4 → Prop
  | none, none => True
  | some b, some r => rowA w b r
  | _, _ => False
theorem cR.sm {b : Nat} {o : Option R4} (h : cR w (some b) o) : ∃ r, o = some r ∧ rowA w b r := by
  cases o with
  | none => exact (h : False).elim
  | some r => exact ⟨r, rfl, h⟩
theorem cR.n {o : Option R4} (h : cR w none o) : o = none := by
  cases o with
  | none => rfl
  | some r => exact (h : False).elim
theorem cR.mp {w' : Hw} {q : Option Nat} {o : Option R4} (h : cR w q o) (k : ∀ b r, rowA w b r → rowA w' b r) : cR w' q o := by
  cases q <;> cases o <;> first | exact h | exact k _ _ h
/-- the model's cells hold the state s -/
def MF (g : RO) (w : Hw) (y nM : Nat) (kd th : Int32) (s : AS) : Prop := ∃ (cL pL D1 D2 c1 c2 : Nat) (h1 h2 : Nat → Option Nat),
  w y = some (.inr (7, [.int th, .ref nM, .ref cL, .ref pL, .int s.2.2.2.2.1, .int kd, .int s.2.2.2.2.2])) ∧ w nM = some (.inl (0, 8, .inr (.inl s.1))) ∧ LL g w cL D1 c1 6 h1 ∧ (∀ i b, h1 i = some b → isRow w b) ∧ LL g w pL D2 c2 s.2.2.1 h2 ∧ (∀ i b, h2 i = some b → isRow w b) ∧ s.2.2.1.toInt ≤ 12 ∧ cL ≠ pL ∧ D1 ≠ D2 ∧
  (∀ i, i < 6 → cR w (h1 i) (s.2.1 i)) ∧ ∀ i : Nat, (i : Int) < s.2.2.1.toInt → ∃ b, h2 i = some b ∧ rowA w b (s.2.2.2.1 i)
theorem MF.rmo (h : MF g w y nM kd th s) : RMo g w y nM kd := by
  obtain ⟨cL, pL, D1, D2, c1, c2, h1, h2, a1, a2, a3, a4, a5, a6, a7, a8, a9, b1, b2⟩ := h
  exact ⟨cL, pL, D1, D2, c1, c2, th, _, _, _, _, h1, h2, a1, a2, a3, a4, a5, a6, a7, a8, a9, fun i hi => (b2 i hi).imp fun _ z => z.1⟩
def MS (g : RO) (w0 : Hw) (y nM : Nat) (kd th : Int32) (s : AS) (w : Hw) : Prop := MF g w y nM kd th s ∧ FM g nM w0 w
theorem MS.mm (h : MS g w0 y nM kd th s w) : MM g w0 y nM kd w := ⟨h.1.rmo, h.2⟩
theorem MF.ext {w' : Hw} (h : MF g w y nM kd th s) (k : ext g w w') : MF g w' y nM kd th s := by
  obtain ⟨cL, pL, D1, D2, c1, c2, h1, h2, a1, a2, a3, a4, a5, a6, a7, a8, a9, b1, b2⟩ := h
  exact ⟨cL, pL, D1, D2, c1, c2, h1, h2, k.1 _ _ a1, k.1 _ _ a2, a3.ext k, fun i b z => (a4 i b z).ext k, a5.ext k, fun i b z => (a6 i b z).ext k, a7, a8, a9, fun i hi => (b1 i hi).mp fun _ _ z => z.ext k, fun i hi => (b2 i hi).imp fun _ z => ⟨z.1, z.2.ext k⟩⟩
theorem MS.ext {w' : Hw} (h : MS g w0 y nM kd th s w) (k : ext g w w') : MS g w0 y nM kd th s w' := ⟨h.1.ext k, h.2.ext k⟩
theorem MS.fr {q : Nat} {o : Ob} (h : MS g w0 y nM kd th s w) (hq : rd g w q = none) : MS g w0 y nM kd th s (upw w q o) := h.ext (ext_up2 ext.rf hq)
theorem MS.st (h : MS g w0 y nM kd th s w) : MS g w y nM kd th s w := ⟨h.1, FM.rf⟩
theorem MS.cat {kd' th' : Int32} {s' : AS} {w' : Hw} (h : MS g w0 y nM kd th s w) (k : MS g w y nM kd' th' s' w') : MS g w0 y nM kd' th' s' w' := ⟨k.1, h.2.tr k.2⟩
theorem MS.rA {b : Nat} {r : R4} {kd' th' : Int32} {s' : AS} {w' : Hw} (h : MS g w0 y nM kd th s w) (k : MS g w y nM kd' th' s' w') (hb : rowA w b r) : rowA w' b r := by
  obtain ⟨cL, pL, D1, D2, c1, c2, h1, h2, a1, a2, -⟩ := h.1
  exact k.2.1 _ _ hb (fun e => by
    subst e
    rw [hb] at a2
    cases a2) rfl
theorem MF.set {cL pL : Nat} {th0 kd' th' rf' md' rf0 md0 : Int32} (h : MF g w y nM kd th s) (hy : w y = some (.inr (7, [.int th0, .ref nM, .ref cL, .ref pL, .int rf0, .int kd, .int md0]))) : MF g (upw w y (.inr (7, [.int th', .ref nM, .ref cL, .ref pL, .int rf', .int kd', .int md']))) y nM kd' th' (sM_ (sR_ s rf') md') := by
  obtain ⟨cL1, pL1, D1, D2, c1, c2, h1, h2, a1, a2, a3, a4, a5, a6, a7, a8, a9, b1, b2⟩ := h
  rw [hy] at a1
  cases a1
  exact ⟨cL, pL, D1, D2, c1, c2, h1, h2, upw_s _ _ _, by rw [upw_n (ne_of a2 hy (fun e => by cases e))]; exact a2, a3.up hy (fun _ e => by cases e) (fun _ e => by cases e), fun i b z => isRow_up (a4 i b z) hy (fun _ e => by cases e), a5.up hy (fun _ e => by cases e) (fun _ e => by cases e), fun i b z => isRow_up (a6 i b z) hy (fun _ e => by cases e), a7, a8, a9, fun i hi => (b1 i hi).mp fun _ _ z => rowA_up z hy (fun _ e => by cases e), fun i hi => (b2 i hi).imp fun _ z => ⟨z.1, rowA_up z.2 hy (fun _ e => by cases e)⟩⟩
theorem MS.set {cL pL : Nat} {th0 kd' th' rf' md' rf0 md0 : Int32} (h : MS g w0 y nM kd th s w) (hy : w y = some (.inr (7, [.int th0, .ref nM, .ref cL, .ref pL, .int rf0, .int kd, .int md0]))) : MS g w0 y nM kd' th' (sM_ (sR_ s rf') md') (upw w y (.inr (7, [.int th', .ref nM, .ref cL, .ref pL, .int rf', .int kd', .int md']))) := ⟨h.1.set hy, h.2.up hy (Or.inr rfl)⟩
theorem MS.num (h : MS g w0 y nM kd th s w) (f' : Nat → Int64) : MS g w0 y nM kd th (sN s f') (upw w nM (.inl (0, 8, .inr (.inl f')))) := by
  obtain ⟨⟨cL, pL, D1, D2, c1, c2, h1, h2, a1, a2, a3, a4, a5, a6, a7, a8, a9, b1, b2⟩, hf⟩ := h
  exact ⟨⟨cL, pL, D1, D2, c1, c2, h1, h2, by rw [upw_n (ne_of a1 a2 (fun e => by cases e))]; exact a1, upw_s _ _ _, a3.up a2 (fun _ e => by cases e) (fun _ e => by cases e), fun i b z => isRow_up (a4 i b z) a2 (fun _ e => by cases e), a5.up a2 (fun _ e => by cases e) (fun _ e => by cases e), fun i b z => isRow_up (a6 i b z) a2 (fun _ e => by cases e), a7, a8, a9, fun i hi => (b1 i hi).mp fun _ _ z => rowA_up z a2 (fun _ e => by cases e), fun i hi => (b2 i hi).imp fun _ z => ⟨z.1, rowA_up z.2 a2 (fun _ e => by cases e)⟩⟩, hf.up a2 (Or.inl rfl)⟩
theorem go_S {K : List Value → Prop} (h : MS g w0 y nM kd th s w) (k : ∀ cL pL : Nat, isY w y nM cL pL → K [.int th, .ref nM, .ref cL, .ref pL, .int s.2.2.2.2.1, .int kd, .int s.2.2.2.2.2]) : go (rd g w y) 7 K := by
  obtain ⟨cL, pL, D1, D2, c1, c2, h1, h2, a1, -⟩ := h.1
  rw [rd_e a1, go_s]
  exact k _ _ ⟨_, _, _, _, a1⟩
theorem go_Sw {K : List Value → Prop} (h : MS g w0 y nM kd th s w) (k : ∀ cL pL : Nat, isY w y nM cL pL → (∀ th' rf' kd' md' : Int32, MS g w0 y nM kd' th' (sM_ (sR_ s rf') md') (upw w y (.inr (7, [.int th', .ref nM, .ref cL, .ref pL, .int rf', .int kd', .int md'])))) → K [.int th, .ref nM, .ref cL, .ref pL, .int s.2.2.2.2.1, .int kd, .int s.2.2.2.2.2]) : go (w y) 7 K := by
  have h0 := h.1
  obtain ⟨cL, pL, D1, D2, c1, c2, h1, h2, a1, -⟩ := h0
  rw [a1, go_s]
  exact k _ _ ⟨_, _, _, _, a1⟩ (fun _ _ _ _ => h.set a1)
theorem gl_S {K : Nat → (Nat → Int64) → Prop} (h : MS g w0 y nM kd th s w) (k : K 8 s.1) : gl (rd g w nM) 0 K := by
  obtain ⟨cL, pL, D1, D2, c1, c2, h1, h2, a1, a2, -⟩ := h.1
  rw [rd_e a2, gl_s]
  exact k
theorem gl_Sw {K : Nat → (Nat → Int64) → Prop} (h : MS g w0 y nM kd th s w) (k : (∀ f', MS g w0 y nM kd th (sN s f') (upw w nM (.inl (0, 8, .inr (.inl f'))))) → K 8 s.1) : gl (w nM) 0 K := by
  have h0 := h.1
  obtain ⟨cL, pL, D1, D2, c1, c2, h1, h2, a1, a2, -⟩ := h0
  rw [a2, gl_s]
  exact k (fun _ => h.num _)
theorem MF.yS {cL pL : Nat} (h : MF g w y nM kd th s) (hY : isY w y nM cL pL) : ∃ (D1 D2 c1 c2 : Nat) (h1 h2 : Nat → Option Nat), w y = some (.inr (7, [.int th, .ref nM, .ref cL, .ref pL, .int s.2.2.2.2.1, .int kd, .int s.2.2.2.2.2])) ∧ w nM = some (.inl (0, 8, .inr (.inl s.1))) ∧ LL g w cL D1 c1 6 h1 ∧ (∀ i b, h1 i = some b → isRow w b) ∧ LL g w pL D2 c2 s.2.2.1 h2 ∧ (∀ i b, h2 i = some b → isRow w b) ∧ s.2.2.1.toInt ≤ 12 ∧ cL ≠ pL ∧ D1 ≠ D2 ∧ (∀ i, i < 6 → cR w (h1 i) (s.2.1 i)) ∧ (∀ i : Nat, (i : Int) < s.2.2.1.toInt → ∃ b, h2 i = some b ∧ rowA w b (s.2.2.2.1 i)) ∧ w D1 = some (.inl (5, c1, qc h1)) ∧ (c1 = 10 ∨ c1 = 15) := by
  obtain ⟨cL1, pL1, D1, D2, c1, c2, h1, h2, a1, a2, a3, a4, a5, a6, a7, a8, a9, b1, b2⟩ := h
  obtain ⟨-, e1, e2⟩ := hY.un ⟨_, _, _, _, a1⟩
  subst e1 e2
  refine ⟨D1, D2, c1, c2, h1, h2, a1, a2, a3, a4, a5, a6, a7, a8, a9, b1, b2, ?_⟩
  rcases a3.2.1 with k | ⟨k, -⟩
  · exact k
  · have k2 := a3.2.2.2
    have e6 : (6 : Int32).toInt = 6 := rfl
    omega
theorem MS.gC {cL pL : Nat} (h : MS g w0 y nM kd th s w) (hY : isY w y nM cL pL) : go (rd g w cL) 3 fun _ => True := gtC h.mm hY
theorem MS.gP {cL pL : Nat} (h : MS g w0 y nM kd th s w) (hY : isY w y nM cL pL) : go (rd g w pL) 3 fun _ => True := gtP h.mm hY
theorem lt6c {a : Int32} (h : okC a) : a.toInt < (6 : Int32).toInt := i32_lt h.2
/-- what stands at a card -/
theorem sGetF {cL pL : Nat} {i : Int32} (hM : MS g w0 y nM kd th s w) (hY : isY w y nM cL pL) (k : okC i) (hN : s.2.1 i.toNatClampNeg = none → Q (.inl (some .null)) w) (hR : ∀ b r, s.2.1 i.toNatClampNeg = some r → rowA w b r → Q (.inl (some (.ref b))) w) : WP (MJx4a65c_get_915e3 g) Q (0, [some (.ref cL), some (.int i)], [], w, 0, 0) := by
  obtain ⟨D1, D2, c1, c2, h1, h2, a1, a2, a3, a4, a5, a6, a7, a8, a9, b1, b2, hD, hc⟩ := hM.1.yS hY
  have kk := b1 _ (c6 k)
  refine sJx4a65c_get a3 (i32_0 k.1) (lt6c k) (fun e => ?_) (fun b e => ?_)
  · rw [e] at kk
    exact hN kk.n
  · rw [e] at kk
    obtain ⟨r, e1, e2⟩ := kk.sm
    exact hR b r e1 e2
theorem sGetK {cL pL : Nat} {i : Int32} {r : R4} (hM : MS g w0 y nM kd th s w) (hY : isY w y nM cL pL) (k : okC i) (e : s.2.1 i.toNatClampNeg = some r) (hR : ∀ b, rowA w b r → Q (.inl (some (.ref b))) w) : WP (MJx4a65c_get_915e3 g) Q (0, [some (.ref cL), some (.int i)], [], w, 0, 0) := sGetF hM hY k (fun h => by
  rw [e] at h
  cases h) (fun b r' h hb => by
  rw [e] at h
  cases h
  exact hR b hb)
/-- the cards' array written -/
theorem MS.crd {cL pL D1 D2 c1 c2 j : Nat} {h1 h2 : Nat → Option Nat} {q : Option Nat} {o : Option R4} (h : MS g w0 y nM kd th s w) (a1 : w y = some (.inr (7, [.int th, .ref nM, .ref cL, .ref pL, .int s.2.2.2.2.1, .int kd, .int s.2.2.2.2.2]))) (a2 : w nM = some (.inl (0, 8, .inr (.inl s.1)))) (a3 : LL g w cL D1 c1 6 h1) (a4 : ∀ i b, h1 i = some b → isRow w b) (a5 : LL g w pL D2 c2 s.2.2.1 h2) (a6 : ∀ i b, h2 i = some b → isRow w b) (a7 : s.2.2.1.toInt ≤ 12) (a8 : cL ≠ pL) (a9 : D1 ≠ D2) (b1 : ∀ i, i < 6 → cR w (h1 i) (s.2.1 i)) (b2 : ∀ i : Nat, (i : Int) < s.2.2.1.toInt → ∃ b, h2 i = some b ∧ rowA w b (s.2.2.2.1 i)) (hD : w D1 = some (.inl (5, c1, qc h1))) (hc : c1 = 10 ∨ c1 = 15) (hq : cR w q o) : MS g w0 y nM kd th (sC s (va_up s.2.1 j o)) (upw w D1 (.inl (5, c1, qc (va_up h1 j q)))) := by
  have hr : ∀ i b, va_up h1 j q i = some b → isRow w b := va_up_row a4 (fun b0 e => by
    subst e
    obtain ⟨r, -, hr⟩ := hq.sm
    exact hr.row)
  obtain ⟨⟨mc, hL⟩, -, h3, h4⟩ := a3
  have up : ∀ b r, rowA w b r → rowA (upw w D1 (.inl (5, c1, qc (va_up h1 j q)))) b r := fun b r hb => rowA_up hb hD (fun _ e => by cases e)
  refine ⟨⟨cL, pL, D1, D2, c1, c2, _, h2, ?_, ?_, ⟨⟨mc, ?_⟩, Or.inl ⟨upw_s _ _ _, hc⟩, h3, h4⟩, fun i b z => isRow_up (hr i b z) hD (fun _ e => by cases e), ?_, fun i b z => isRow_up (a6 i b z) hD (fun _ e => by cases e), a7, a8, a9, fun i hi => cR.mp ?_ up, fun i hi => (b2 i hi).imp fun _ z => ⟨z.1, up _ _ z.2⟩⟩, h.2.up hD (Or.inr rfl)⟩
  · rw [upw_n (ne_of a1 hD (fun e => by cases e))]
    exact a1
  · rw [upw_n (ne_of a2 hD (fun e => by cases e))]
    exact a2
  · rw [upw_n (ne_of hL hD (fun e => by cases e))]
    exact hL
  · refine a5.kp (fun fs e => ?_) (fun z e => ?_) (fun o _ e => ?_)
    · rw [upw_n (ne_of e hD (fun e => by cases e))]
      exact e
    · rw [upw_n (Ne.symm a9)]
      exact e
    · rw [upw_n (Ne.symm a9)]
      exact e
  · show cR w (va_up h1 j q i) (va_up s.2.1 j o i)
    unfold va_up
    split
    · exact hq
    · exact b1 i hi
theorem sSetFR {cL pL b : Nat} {i : Int32} {r : R4} (hM : MS g w0 y nM kd th s w) (hY : isY w y nM cL pL) (hb : rowA w b r) (k : okC i) (hN : ∀ w', MS g w0 y nM kd th (sC s (va_up s.2.1 i.toNatClampNeg (some r))) w' → Q (.inl (some .null)) w') (hR : ∀ b0 w', MS g w0 y nM kd th (sC s (va_up s.2.1 i.toNatClampNeg (some r))) w' → Q (.inl (some (.ref b0))) w') : WP (MJx4a65c_set_bcc79 g) Q (0, [some (.ref cL), some (.int i), some (.ref b), none], [], w, 0, 0) := by
  obtain ⟨D1, D2, c1, c2, h1, h2, a1, a2, a3, a4, a5, a6, a7, a8, a9, b1, b2, hD, hc⟩ := hM.1.yS hY
  have hX := hM.crd a1 a2 a3 a4 a5 a6 a7 a8 a9 b1 b2 hD hc (j := i.toNatClampNeg) (q := some b) (o := some r) hb
  exact sJx4a65c_setR hb.row a3 hD (i32_0 k.1) (lt6c k) (fun _ => hN _ hX) (fun b0 _ => hR b0 _ hX)
theorem sSetFN {cL pL : Nat} {i : Int32} (hM : MS g w0 y nM kd th s w) (hY : isY w y nM cL pL) (k : okC i) (hN : ∀ w', MS g w0 y nM kd th (sC s (va_up s.2.1 i.toNatClampNeg none)) w' → Q (.inl (some .null)) w') (hR : ∀ b0 w', MS g w0 y nM kd th (sC s (va_up s.2.1 i.toNatClampNeg none)) w' → Q (.inl (some (.ref b0))) w') : WP (MJx4a65c_set_bcc79 g) Q (0, [some (.ref cL), some (.int i), some .null, none], [], w, 0, 0) := by
  obtain ⟨D1, D2, c1, c2, h1, h2, a1, a2, a3, a4, a5, a6, a7, a8, a9, b1, b2, hD, hc⟩ := hM.1.yS hY
  have hX := hM.crd a1 a2 a3 a4 a5 a6 a7 a8 a9 b1 b2 hD hc (j := i.toNatClampNeg) (q := none) (o := none) trivial
  exact sJx4a65c_setN a3 hD (i32_0 k.1) (lt6c k) (fun _ => hN _ hX) (fun b0 _ => hR b0 _ hX)
end
end
/-! 75.mf1.lean.txt -/
section
section
variable {g : RO} {Q : Ot → Hw → Prop} {w0 w : Hw} {y nM : Nat} {kd th : Int32} {s : AS}
theorem MS.n0 (h : MS g w0 y nM kd th s w) : 0 ≤ s.2.2.1.toInt ∧ s.2.2.1.toInt ≤ 12 := by
  obtain ⟨cL, pL, D1, D2, c1, c2, h1, h2, a1, a2, a3, a4, a5, a6, a7, -⟩ := h.1
  exact ⟨a5.2.2.1, a7⟩
theorem MS.nn (h : MS g w0 y nM kd th s w) : s.2.2.1.toInt = ((s.2.2.1.toInt.toNat : Nat) : Int) ∧ s.2.2.1.toInt.toNat ≤ 12 := by
  have k := h.n0
  omega
theorem sSizeF {cL pL : Nat} (hM : MS g w0 y nM kd th s w) (hY : isY w y nM cL pL) (hQ : Q (.inl (some (.int s.2.2.1))) w) : WP (MJx4a65c_size_8abf5 g) Q (0, [some (.ref pL)], [], w, 0, 0) := by
  obtain ⟨D1, D2, c1, c2, h1, h2, a1, a2, a3, a4, a5, -⟩ := hM.1.yS hY
  exact sJx4a65c_size a5 hQ
theorem sGetPF {cL pL : Nat} {i : Int32} (hM : MS g w0 y nM kd th s w) (hY : isY w y nM cL pL) (k : okP s.2.2.1 i) (hQ : ∀ b, rowA w b (s.2.2.2.1 i.toNatClampNeg) → Q (.inl (some (.ref b))) w) : WP (MJx4a65c_get_915e3 g) Q (0, [some (.ref pL), some (.int i)], [], w, 0, 0) := by
  obtain ⟨D1, D2, c1, c2, h1, h2, a1, a2, a3, a4, a5, a6, a7, a8, a9, b1, b2, hD, hc⟩ := hM.1.yS hY
  obtain ⟨b, hb, hr⟩ := b2 i.toNatClampNeg (plB k)
  refine sJx4a65c_get a5 (i32_0 k.1) (i32_lt k.2) (fun e => ?_) (fun b' e => ?_)
  · rw [hb] at e
    cases e
  · rw [hb] at e
    cases e
    exact hQ b hr
/-- the pile's list another -/
theorem MS.lpo {cL pL D1 D2 c1 c2 : Nat} {n' : Int32} {h1 h2 : Nat → Option Nat} {w' : Hw} {F : Nat → R4} {H : (Nat → Option Nat) → Prop} (h : MS g w0 y nM kd th s w) (a1 : w y = some (.inr (7, [.int th, .ref nM, .ref cL, .ref pL, .int s.2.2.2.2.1, .int kd, .int s.2.2.2.2.2]))) (a2 : w nM = some (.inl (0, 8, .inr (.inl s.1)))) (a3 : LL g w cL D1 c1 6 h1) (a4 : ∀ i b, h1 i = some b → isRow w b) (a5 : LL g w pL D2 c2 s.2.2.1 h2) (a8 : cL ≠ pL) (a9 : D1 ≠ D2) (b1 : ∀ i, i < 6 → cR w (h1 i) (s.2.1 i)) (hD : w D1 = some (.inl (5, c1, qc h1))) (hl : LPo g w w' pL D2 n' H) (hn : n'.toInt ≤ 12) (hH : ∀ h', H h' → ∀ i : Nat, (i : Int) < n'.toInt → ∃ b, h' i = some b ∧ rowA w b (F i)) : MS g w0 y nM kd th (sP_ s n' F) w' := by
  obtain ⟨D', c', h', l1, l2, f1, f2, fD, hh⟩ := hl
  have hL := a5.1
  obtain ⟨mcp, hL⟩ := hL
  have nD : ∀ {a : Nat} {o : Ob}, w a = some o → (∀ z, o ≠ .inl (5, z)) → a ≠ D2 := fun ha ho e => by
    rcases a5.2.1 with ⟨k, -⟩ | ⟨-, -, k, -⟩
    · rw [e, k] at ha
      cases ha
      exact ho _ rfl
    · rw [e, k] at ha
      cases ha
  have mv : ∀ {a : Nat} {o : Ob}, w a = some o → (∀ z, o ≠ .inl (5, z)) → (∀ fs, o ≠ .inr (3, fs)) → w' a = some o := fun ha h5 h3 => f1 _ _ ha (ne_of ha hL (h3 _)) (nD ha h5)
  have rw1 : ∀ b, isRow w b → isRow w' b := fun b ⟨f0, hb⟩ => ⟨f0, mv hb (fun _ e => by cases e) (fun _ e => by cases e)⟩
  have rw2 : ∀ b r, rowA w b r → rowA w' b r := fun b r hb => mv hb (fun _ e => by cases e) (fun _ e => by cases e)
  refine ⟨⟨cL, pL, D1, D', c1, c', h1, h', mv a1 (fun _ e => by cases e) (fun _ e => by cases e), mv a2 (fun _ e => by cases e) (fun _ e => by cases e), ?_, fun i b z => rw1 b (a4 i b z), l1, l2, hn, a8, ?_, fun i hi => (b1 i hi).mp rw2, fun i hi => (hH h' hh i hi).imp fun _ z => ⟨z.1, rw2 _ _ z.2⟩⟩, h.2.tr ⟨fun a o e1 e2 e3 => ?_, f2⟩⟩
  · refine a3.kp (fun fs e => f1 _ _ e a8 (nD e (fun _ e => by cases e))) (fun z e => f1 _ _ e (ne_of e hL (fun e => by cases e)) a9) (fun o e1 e2 => f2 _ _ e1 e2)
  · rcases fD with rfl | ⟨fD, -⟩
    · exact a9
    · intro e
      rw [e, fD] at hD
      cases hD
  · refine mv e1 (fun z e => ?_) (fun fs e => ?_)
    · subst e
      cases e3
    · subst e
      cases e3
theorem va_up4 {f : Nat → R4} {k : Nat} {r : R4} : va_up f k r k = r := by
  unfold va_up
  rw [if_pos rfl]
theorem va_up4o {f : Nat → R4} {k j : Nat} {r : R4} (e : j ≠ k) : va_up f k r j = f j := by
  unfold va_up
  rw [if_neg e]
theorem sAddF {cL pL b : Nat} {r : R4} (hM : MS g w0 y nM kd th s w) (hY : isY w y nM cL pL) (hE : EG g w0) (hS : SG g) (hb : rowA w b r) (hn : s.2.2.1 < 12) (hQ : ∀ w', MS g w0 y nM kd th (sP_ s (s.2.2.1 + 1) (va_up s.2.2.2.1 s.2.2.1.toNatClampNeg r)) w' → Q (.inl (some (.int 1))) w') : WP (MJx4a65c_add_9ea2d g) Q (0, [some (.ref pL), some (.ref b)], [], w, 0, 0) := by
  obtain ⟨D1, D2, c1, c2, h1, h2, a1, a2, a3, a4, a5, a6, a7, a8, a9, b1, b2, hD, hc⟩ := hM.1.yS hY
  have hlt := i32_lt hn
  have e12 : (12 : Int32).toInt = 12 := rfl
  have n0 := a5.2.2.1
  have e1 := i32p1 (c := s.2.2.1) n0 (by omega)
  refine sJx4a65c_add_9ea2dR hb.row (hM.mm.eg hE) hS a5 a6 (by omega) (fun w' hl => hQ _ (hM.lpo a1 a2 a3 a4 a5 a8 a9 b1 hD hl (by omega) (fun h' hh i hi => ?_)))
  have t : s.2.2.1.toNatClampNeg = s.2.2.1.toInt.toNat := rfl
  rcases Nat.lt_or_ge i s.2.2.1.toNatClampNeg with q | q
  · rw [hh.1 i q, va_up4o (by omega)]
    exact b2 i (by omega)
  · have : i = s.2.2.1.toNatClampNeg := by omega
    subst this
    rw [va_up4]
    exact ⟨b, hh.2, hb⟩
theorem sRemF {cL pL p : Nat} (hM : MS g w0 y nM kd th s w) (hY : isY w y nM cL pL) (hp : p < s.2.2.1.toInt.toNat) (hQ : ∀ b w', MS g w0 y nM kd th (sP_ s (s.2.2.1 - 1) (rmv s.2.2.2.1 p)) w' → Q (.inl (some (.ref b))) w') : WP (MJx4a65c_remove_915e3 g) Q (0, [some (.ref pL), some (.int (Int32.ofNat p)), none, none], [], w, 0, 0) := by
  have nn := hM.n0
  obtain ⟨D1, D2, c1, c2, h1, h2, a1, a2, a3, a4, a5, a6, a7, a8, a9, b1, b2, hD, hc⟩ := hM.1.yS hY
  have z1' : (1 : Int32).toInt = 1 := rfl
  have ep : (Int32.ofNat p).toInt = (p : Int) := oNt (by omega)
  have ec : (Int32.ofNat p).toNatClampNeg = p := oNc (by omega)
  have e1 : (s.2.2.1 - 1).toInt = s.2.2.1.toInt - 1 := by rw [i32_sub (by omega) (by omega), z1']
  have t : s.2.2.1.toNatClampNeg = s.2.2.1.toInt.toNat := rfl
  have hX : ∀ w', LPo g w w' pL D2 (s.2.2.1 - 1) (HRm h2 s.2.2.1.toNatClampNeg (Int32.ofNat p).toNatClampNeg) → MS g w0 y nM kd th (sP_ s (s.2.2.1 - 1) (rmv s.2.2.2.1 p)) w' := fun w' hl => hM.lpo a1 a2 a3 a4 a5 a8 a9 b1 hD hl (by omega) (fun h' hh i hi => by
    rw [ec] at hh
    unfold rmv
    rcases Nat.lt_or_ge i p with q | q
    · rw [hh.1 i q, if_pos q]
      exact b2 i (by omega)
    · rw [hh.2 i q (by omega), if_neg (by omega)]
      exact b2 (i + 1) (by omega))
  refine sJx4a65c_remove_915e3 a5 a6 (by omega) (by omega) (fun e => ?_) (fun b _ w' hl => hQ b w' (hX w' hl))
  rw [ec] at e
  obtain ⟨b, hb, -⟩ := b2 p (by omega)
  rw [hb] at e
  cases e
theorem rowA_cg {b : Nat} {r r' : R4} (h : rowA w b r) (e : r = r') : rowA w b r' := by
  rw [← e]
  exact h
theorem MS.pcg {n : Int32} {F G : Nat → R4} (h : MS g w0 y nM kd th (sP_ s n F) w) (e : ∀ i : Nat, (i : Int) < n.toInt → F i = G i) : MS g w0 y nM kd th (sP_ s n G) w := by
  obtain ⟨⟨cL, pL, D1, D2, c1, c2, h1, h2, a1, a2, a3, a4, a5, a6, a7, a8, a9, b1, b2⟩, hf⟩ := h
  exact ⟨⟨cL, pL, D1, D2, c1, c2, h1, h2, a1, a2, a3, a4, a5, a6, a7, a8, a9, b1, fun i hi => (b2 i hi).imp fun _ z => ⟨z.1, rowA_cg z.2 (e i hi)⟩⟩, hf⟩
end
end
/-! 75.mf2.lean.txt -/
section
section
variable {g : RO} {Q : Ot → Hw → Prop} {w0 w : Hw} {y nM : Nat} {kd th : Int32} {s : AS}
theorem itx {c : Prop} {i : Decidable c} {A B : Prop} (h1 : c → A) (h2 : ¬ c → B) : @ite Prop c i A B := by
  by_cases h : c
  · rw [if_pos h]
    exact h1 h
  · rw [if_neg h]
    exact h2 h
theorem n00x {P : Prop} (h : ¬ (0 : Int32) = 0) : P := absurd rfl h
theorem lt8m {a : Int32} (h : ¬ 7 < a) : a < 8 := by
  have k := i32_nlt h
  have e7 : (7 : Int32).toInt = 7 := rfl
  have e8 : (8 : Int32).toInt = 8 := rfl
  exact i32_of_lt (by omega)
theorem lt6m {a : Int32} (h : ¬ 5 < a) : a < 6 := by
  have k := i32_nlt h
  have e7 : (5 : Int32).toInt = 5 := rfl
  have e8 : (6 : Int32).toInt = 6 := rfl
  exact i32_of_lt (by omega)
theorem nokN {a : Int32} (h : a < 0 ∨ 7 < a) : ¬ okN a := fun k => by
  rcases h with h | h
  · exact k.1 h
  · have q := i32_lt h
    have q2 := i32_lt k.2
    have e7 : (7 : Int32).toInt = 7 := rfl
    have e8 : (8 : Int32).toInt = 8 := rfl
    omega
theorem nokC {a : Int32} (h : a < 0 ∨ 5 < a) : ¬ okC a := fun k => by
  rcases h with h | h
  · exact k.1 h
  · have q := i32_lt h
    have q2 := i32_lt k.2
    have e7 : (5 : Int32).toInt = 5 := rfl
    have e8 : (6 : Int32).toInt = 6 := rfl
    omega
theorem nokW {a m : Int32} (h : a < 0 ∨ m < a) : ¬ okW a m := fun k => h.elim k.1 k.2
theorem vpi8k {a : Int32} (h : okN a) : vp_in a 8 := vpi8 h.1 h.2
theorem vpi4k {a : Int32} (h : okW a 3) : vp_in a 4 := vpi4n h.1 h.2
theorem tdE (V : Int) : V.tdiv 4294967296 = if 0 ≤ V then V / 4294967296 else -((-V) / 4294967296) := by
  split
  · rename_i h
    exact Int.tdiv_eq_ediv_of_nonneg h
  · rename_i h
    obtain ⟨W, e⟩ : ∃ W, V = -W := ⟨-V, by omega⟩
    subst e
    rw [Int.neg_tdiv, Int.tdiv_eq_ediv_of_nonneg (by omega), Int.neg_neg]
theorem eT : (4294967296 : Int64).toInt = 4294967296 := by decide
theorem jadd {x y : Int64} (h1 : -9223372036854775808 ≤ x.toInt + y.toInt) (h2 : x.toInt + y.toInt < 9223372036854775808) : (x + y).toInt = x.toInt + y.toInt := by
  rw [Int64.toInt_add]
  exact Int.bmod_eq_of_le (by omega) (by omega)
theorem jsub {x y : Int64} (h1 : -9223372036854775808 ≤ x.toInt - y.toInt) (h2 : x.toInt - y.toInt < 9223372036854775808) : (x - y).toInt = x.toInt - y.toInt := by
  rw [Int64.toInt_sub]
  exact Int.bmod_eq_of_le (by omega) (by omega)
theorem jint {x : Int64} (h1 : -2147483648 ≤ x.toInt) (h2 : x.toInt < 2147483648) : x.toInt32.toInt = x.toInt := by
  rw [Int64.toInt_toInt32]
  exact Int.bmod_eq_of_le (by omega) (by omega)
theorem muT {x : Int64} (h1 : -2147483648 ≤ x.toInt) (h2 : x.toInt < 2147483648) : (x * 4294967296).toInt = x.toInt * 4294967296 := by
  rw [Int64.toInt_mul, eT]
  exact Int.bmod_eq_of_le (by omega) (by omega)
theorem dvT {x : Int64} : (x / 4294967296).toInt = if 0 ≤ x.toInt then x.toInt / 4294967296 else -((-x.toInt) / 4294967296) := by
  rw [Int64.toInt_div_of_ne_right _ _ (by decide), eT, tdE]
theorem rmT {x : Int64} : (x - x / 4294967296 * 4294967296).toInt = if 0 ≤ x.toInt then x.toInt % 4294967296 else -((-x.toInt) % 4294967296) := by
  have l0 : -9223372036854775808 ≤ x.toInt := x.le_toInt
  have l1 : x.toInt < 9223372036854775808 := x.toInt_lt
  have d := dvT (x := x)
  have b : -2147483648 ≤ (x / 4294967296).toInt ∧ (x / 4294967296).toInt < 2147483648 := by
    rw [d]
    split <;> omega
  have m := muT b.1 b.2
  rw [d] at m
  have q : (x - x / 4294967296 * 4294967296).toInt = x.toInt - (x / 4294967296 * 4294967296).toInt := jsub (by rw [m]; split <;> omega) (by rw [m]; split <;> omega)
  rw [q, m]
  split <;> omega
/-- the lower half, not below 0 -/
theorem mdT {v : Int64} : ((v - v / 4294967296 * 4294967296 + 4294967296) - (v - v / 4294967296 * 4294967296 + 4294967296) / 4294967296 * 4294967296).toInt = v.toInt % 4294967296 := by
  have h1 := rmT (x := v)
  obtain ⟨x1, e1⟩ : ∃ x1, v - v / 4294967296 * 4294967296 = x1 := ⟨_, rfl⟩
  rw [e1] at h1 ⊢
  have b : -4294967296 < x1.toInt ∧ x1.toInt < 4294967296 := by
    rw [h1]
    split <;> omega
  have h2 : (x1 + 4294967296).toInt = x1.toInt + 4294967296 := by
    rw [jadd (by rw [eT]; omega) (by rw [eT]; omega), eT]
  have h3 := rmT (x := x1 + 4294967296)
  rw [h2, if_pos (by omega)] at h3
  rw [h3, h1]
  split <;> omega
theorem shT {v : Int64} : (v >>> ((32 : Int32).toInt64 &&& 63)).toInt = v.toInt / 4294967296 := by
  have e : (((32 : Int32).toInt64 &&& 63).toBitVec.smod 64) = 32#64 := by decide
  show (v.toBitVec.sshiftRight' (((32 : Int32).toInt64 &&& 63).toBitVec.smod 64)).toInt = _
  rw [e, BitVec.toInt_sshiftRight', Int.shiftRight_eq_div_pow]
  rfl
theorem hiE {v : Int64} : ((v - ((v - v / 4294967296 * 4294967296 + 4294967296) - (v - v / 4294967296 * 4294967296 + 4294967296) / 4294967296 * 4294967296)) / 4294967296).toInt32 = hiV v := by
  have m := mdT (v := v)
  obtain ⟨x2, e2⟩ : ∃ x2, (v - v / 4294967296 * 4294967296 + 4294967296) - (v - v / 4294967296 * 4294967296 + 4294967296) / 4294967296 * 4294967296 = x2 := ⟨_, rfl⟩
  rw [e2] at m ⊢
  have l0 : -9223372036854775808 ≤ v.toInt := v.le_toInt
  have l1 : v.toInt < 9223372036854775808 := v.toInt_lt
  have h1 : (v - x2).toInt = v.toInt - v.toInt % 4294967296 := by
    rw [jsub (by rw [m]; omega) (by rw [m]; omega), m]
  have h2 := dvT (x := v - x2)
  rw [h1] at h2
  have h4 : ((v - x2) / 4294967296).toInt = v.toInt / 4294967296 := by
    rw [h2]
    split <;> omega
  have h3 := shT (v := v)
  apply Int32.toInt_inj.mp
  unfold hiV
  rw [jint (by rw [h4]; omega) (by rw [h4]; omega), jint (by rw [h3]; omega) (by rw [h3]; omega), h4, h3]
theorem loE {v : Int64} : ((v - v / 4294967296 * 4294967296 + 4294967296) - (v - v / 4294967296 * 4294967296 + 4294967296) / 4294967296 * 4294967296).toInt32 = loV v := by
  apply Int32.toInt_inj.mp
  unfold loV
  rw [Int64.toInt_toInt32, Int64.toInt_toInt32, mdT]
  have t : ((2 ^ 32 : Nat) : Int) = 4294967296 := by decide
  rw [← t]
  exact Int.emod_bmod ..
theorem loS {x : Int64} (h : -9223372032559808512 ≤ x.toInt) : (x - 4294967296).toInt32 = x.toInt32 := by
  apply Int32.toInt_inj.mp
  rw [Int64.toInt_toInt32, Int64.toInt_toInt32, jsub (by rw [eT]; omega) (by rw [eT]; have : x.toInt < 9223372036854775808 := x.toInt_lt; omega), eT]
  have t : ((2 ^ 32 : Nat) : Int) = 4294967296 := by decide
  rw [← t]
  exact Int.sub_bmod_right ..
theorem loE2 {v : Int64} : (((v - v / 4294967296 * 4294967296 + 4294967296) - (v - v / 4294967296 * 4294967296 + 4294967296) / 4294967296 * 4294967296) - 4294967296).toInt32 = loV v := by
  rw [loS (by rw [mdT]; omega), loE]
theorem slT {x : Int64} : x <<< ((32 : Int32).toInt64 &&& 63) = x * 4294967296 := by
  apply Int64.toBitVec_inj.mp
  have e : (((32 : Int32).toInt64 &&& 63).toBitVec.smod 64) = 32#64 := by decide
  show x.toBitVec <<< (((32 : Int32).toInt64 &&& 63).toBitVec.smod 64) = x.toBitVec * 4294967296#64
  rw [e]
  show x.toBitVec <<< (32 : Nat) = _
  rw [BitVec.shiftLeft_eq_mul_twoPow]
  rfl
theorem mkT {x : Int64} : (x &&& 4294967295).toInt = x.toInt % 4294967296 := by
  have e1 : (x &&& 4294967295).toBitVec.toNat = x.toBitVec.toNat % 4294967296 := by
    show (x.toBitVec &&& 4294967295#64).toNat = _
    rw [BitVec.toNat_and]
    exact Nat.and_two_pow_sub_one_eq_mod _ 32
  have e2 : (x &&& 4294967295).toInt = (x &&& 4294967295).toBitVec.toInt := rfl
  have e3 : x.toInt = x.toBitVec.toInt := rfl
  have lt := x.toBitVec.isLt
  rw [e2, e3, BitVec.toInt_eq_toNat_cond, BitVec.toInt_eq_toNat_cond, e1]
  split <;> split <;> omega
theorem stA {a b : BitVec 64} : (a <<< (32 : Nat)) &&& (b &&& 4294967295#64) = 0#64 := by
  apply BitVec.eq_of_getLsbD_eq
  intro i hi
  have e : (4294967295#64).getLsbD i = decide (i < 32) := Nat.testBit_two_pow_sub_one 32 i
  rw [BitVec.getLsbD_and, BitVec.getLsbD_and, BitVec.getLsbD_shiftLeft, e]
  by_cases h : i < 32 <;> simp [h]
theorem stO {h l : Int32} : stV h l = h.toInt64 * 4294967296 + (l.toInt64 &&& 4294967295) := by
  rw [← slT]
  apply Int64.toBitVec_inj.mp
  unfold stV
  have e : (((32 : Int32).toInt64 &&& 63).toBitVec.smod 64) = 32#64 := by decide
  show (h.toInt64.toBitVec <<< (((32 : Int32).toInt64 &&& 63).toBitVec.smod 64)) ||| (l.toInt64.toBitVec &&& 4294967295#64) = (h.toInt64.toBitVec <<< (((32 : Int32).toInt64 &&& 63).toBitVec.smod 64)) + (l.toInt64.toBitVec &&& 4294967295#64)
  rw [e]
  exact (BitVec.add_eq_or_of_and_eq_zero _ _ (stA (a := h.toInt64.toBitVec) (b := l.toInt64.toBitVec))).symm
theorem i64i (x : Int32) : x.toInt64.toInt = x.toInt := Int32.toInt_toInt64 x
theorem stI {h l : Int32} : (stV h l).toInt = h.toInt * 4294967296 + l.toInt % 4294967296 := by
  have b0 : -2147483648 ≤ h.toInt := h.le_toInt
  have b1 : h.toInt < 2147483648 := h.toInt_lt
  have a1 := muT (x := h.toInt64) (by rw [i64i]; exact b0) (by rw [i64i]; exact b1)
  have a2 := mkT (x := l.toInt64)
  rw [i64i] at a1 a2
  rw [stO, jadd (by rw [a1, a2]; omega) (by rw [a1, a2]; omega), a1, a2]
theorem stN {h l : Int32} (k : l < 0) : h.toInt64 * 4294967296 + (l.toInt64 + 4294967296) = stV h l := by
  apply Int64.toInt_inj.mp
  have b0 : -2147483648 ≤ h.toInt := h.le_toInt
  have b1 : h.toInt < 2147483648 := h.toInt_lt
  have c0 : -2147483648 ≤ l.toInt := l.le_toInt
  have k1 := i32_lt k
  have e0 : (0 : Int32).toInt = 0 := rfl
  have m := muT (x := h.toInt64) (by rw [i64i]; exact b0) (by rw [i64i]; exact b1)
  rw [i64i] at m
  have a : (l.toInt64 + 4294967296).toInt = l.toInt + 4294967296 := by rw [jadd (by rw [i64i, eT]; omega) (by rw [i64i, eT]; omega), i64i, eT]
  rw [stI, jadd (by rw [m, a]; omega) (by rw [m, a]; omega), m, a]
  omega
theorem stP {h l : Int32} (k : ¬ l < 0) : h.toInt64 * 4294967296 + l.toInt64 = stV h l := by
  apply Int64.toInt_inj.mp
  have b0 : -2147483648 ≤ h.toInt := h.le_toInt
  have b1 : h.toInt < 2147483648 := h.toInt_lt
  have c0 : l.toInt < 2147483648 := l.toInt_lt
  have k1 := i32_nlt k
  have e0 : (0 : Int32).toInt = 0 := rfl
  have m := muT (x := h.toInt64) (by rw [i64i]; exact b0) (by rw [i64i]; exact b1)
  rw [i64i] at m
  rw [stI, jadd (by rw [m, i64i]; omega) (by rw [m, i64i]; omega), m, i64i]
  omega
theorem hfV_e {a : Int64} {h : Int32} (k : h = 0) : hfV a h = loV a := if_pos k
set_option maxHeartbeats 4000000 in
theorem fX3_isIn {a b c : Int32} (h1 : ¬ a < b → ¬ c < a → Q (.inl (some (.int 1))) w) (h0 : (a < b ∨ c < a) → Q (.inl (some (.int 0))) w) : WP (MX3_isIn g) Q (0, [some (.int a), some (.int b), some (.int c)], [], w, 0, 0) := by
  simp only [eX3_isIn_0, eX3_isIn_5, eX3_isIn_10, eX3_isIn_14, eX3_isIn_15, nb_0, nb_1, true_and]
  with_reducible refine itx (fun _ => ?_) (fun _ => ?_)
  with_reducible refine And.intro ?_ ?_
  omega
  with_reducible refine And.intro ?_ ?_
  omega
  with_reducible exact h0 (Or.inl (by assumption))
  with_reducible refine itx (fun _ => ?_) (fun _ => ?_)
  with_reducible refine And.intro ?_ ?_
  omega
  with_reducible refine And.intro ?_ ?_
  omega
  with_reducible exact h0 (Or.inr (by assumption))
  with_reducible refine And.intro ?_ ?_
  omega
  with_reducible refine And.intro ?_ ?_
  omega
  with_reducible exact h1 (by assumption) (by assumption)
set_option maxHeartbeats 4000000 in
theorem fX3_isNoNumber {a : Int32} (h1 : ¬ okN a → Q (.inl (some (.int 1))) w) (h0 : okN a → Q (.inl (some (.int 0))) w) : WP (MX3_isNoNumber g) Q (0, [some (.int a)], [], w, 0, 0) := by
  simp only [eX3_isNoNumber_0, wt_nil, Nat.add_zero]
  with_reducible refine And.intro ?_ ?_
  omega
  with_reducible refine And.intro ?_ ?_
  omega
  with_reducible refine And.intro ?_ ?_
  omega
  with_reducible refine fX3_isIn (fun _ _ => ?_) (fun _ => ?_)
  simp only [eX3_isNoNumber_7, eX3_isNoNumber_10, eX3_isNoNumber_14, eX3_isNoNumber_15, i10, if_false, kx_l, tl_s, nb_0, nb_1, true_and]
  with_reducible refine And.intro ?_ ?_
  omega
  with_reducible refine And.intro ?_ ?_
  omega
  with_reducible exact h0 ⟨by assumption, lt8m (by assumption)⟩
  simp only [eX3_isNoNumber_7, eX3_isNoNumber_10, eX3_isNoNumber_14, eX3_isNoNumber_15, if_true, kx_l, tl_s, nb_0, nb_1, true_and]
  with_reducible refine And.intro ?_ ?_
  omega
  with_reducible refine And.intro ?_ ?_
  omega
  with_reducible exact h1 (nokN (by assumption))
set_option maxHeartbeats 4000000 in
theorem fX3_isNoCard {a : Int32} (h1 : ¬ okC a → Q (.inl (some (.int 1))) w) (h0 : okC a → Q (.inl (some (.int 0))) w) : WP (MX3_isNoCard g) Q (0, [some (.int a)], [], w, 0, 0) := by
  simp only [eX3_isNoCard_0, wt_nil, Nat.add_zero]
  with_reducible refine And.intro ?_ ?_
  omega
  with_reducible refine And.intro ?_ ?_
  omega
  with_reducible refine And.intro ?_ ?_
  omega
  with_reducible refine fX3_isIn (fun _ _ => ?_) (fun _ => ?_)
  simp only [eX3_isNoCard_6, eX3_isNoCard_9, eX3_isNoCard_13, eX3_isNoCard_14, i10, if_false, kx_l, tl_s, nb_0, nb_1, true_and]
  with_reducible refine And.intro ?_ ?_
  omega
  with_reducible refine And.intro ?_ ?_
  omega
  with_reducible exact h0 ⟨by assumption, lt6m (by assumption)⟩
  simp only [eX3_isNoCard_6, eX3_isNoCard_9, eX3_isNoCard_13, eX3_isNoCard_14, if_true, kx_l, tl_s, nb_0, nb_1, true_and]
  with_reducible refine And.intro ?_ ?_
  omega
  with_reducible refine And.intro ?_ ?_
  omega
  with_reducible exact h1 (nokC (by assumption))
set_option maxHeartbeats 4000000 in
theorem fX3_isNoEnd {a : Int32} (h1 : ¬ okW a 3 → Q (.inl (some (.int 1))) w) (h0 : okW a 3 → Q (.inl (some (.int 0))) w) : WP (MX3_isNoEnd g) Q (0, [some (.int a)], [], w, 0, 0) := by
  simp only [eX3_isNoEnd_0, wt_nil, Nat.add_zero]
  with_reducible refine And.intro ?_ ?_
  omega
  with_reducible refine And.intro ?_ ?_
  omega
  with_reducible refine And.intro ?_ ?_
  omega
  with_reducible refine fX3_isIn (fun _ _ => ?_) (fun _ => ?_)
  simp only [eX3_isNoEnd_6, eX3_isNoEnd_9, eX3_isNoEnd_13, eX3_isNoEnd_14, i10, if_false, kx_l, tl_s, nb_0, nb_1, true_and]
  with_reducible refine And.intro ?_ ?_
  omega
  with_reducible refine And.intro ?_ ?_
  omega
  with_reducible exact h0 ⟨by assumption, by assumption⟩
  simp only [eX3_isNoEnd_6, eX3_isNoEnd_9, eX3_isNoEnd_13, eX3_isNoEnd_14, if_true, kx_l, tl_s, nb_0, nb_1, true_and]
  with_reducible refine And.intro ?_ ?_
  omega
  with_reducible refine And.intro ?_ ?_
  omega
  with_reducible exact h1 (nokW (by assumption))
theorem MF.op (h : MF g w y nM kd th s) : ∃ cL pL : Nat, w y = some (.inr (7, [.int th, .ref nM, .ref cL, .ref pL, .int s.2.2.2.2.1, .int kd, .int s.2.2.2.2.2])) ∧ rd g w y = some (.inr (7, [.int th, .ref nM, .ref cL, .ref pL, .int s.2.2.2.2.1, .int kd, .int s.2.2.2.2.2])) := by
  obtain ⟨cL, pL, D1, D2, c1, c2, h1, h2, a1, -⟩ := h
  exact ⟨cL, pL, a1, rd_e a1⟩
set_option maxHeartbeats 4000000 in
theorem fX3_refuse {a c : Int32} (hM : MS g w0 y nM kd 0 s w) (hc : 0 < c) (h0 : a = 0 → Q (.inl (some (.int 0))) w) (h1 : ¬ a = 0 → ∀ w', MS g w0 y nM kd c s w' → Q (.inl (some (.int 1))) w') : WP (MX3_refuse g) Q (0, [some (.ref y), some (.int a), some (.int c)], [], w, 0, 0) := by
  obtain ⟨cL, pL, hy, ry⟩ := hM.1.op
  have q1 : (c ≤ 0) = False := eq_false (fun h => absurd hc (Int32.not_lt.mpr h))
  have q2 : ((0 : Int32) ≤ 0) = True := eq_true (Int32.le_refl _)
  have q3 : ((0 : Int32) < 0) = False := eq_false (by decide)
  have q4 : (0 < c) = True := eq_true hc
  simp only [eX3_refuse_0, eX3_refuse_4, eX3_refuse_8, eX3_refuse_11, eX3_refuse_16, eX3_refuse_20, eX3_refuse_23, eX3_refuse_27, eX3_refuse_28, if_true, if_false, hy, ry, q1, q2, go_s, g0, ex1, nb_0, nb_1, nf_i, true_and, List.set_cons_zero, List.length_cons, List.length_nil, rd_s, Nat.zero_add]
  with_reducible refine itx (fun _ => ?_) (fun _ => ?_)
  with_reducible refine And.intro ?_ ?_
  omega
  with_reducible refine And.intro ?_ ?_
  omega
  with_reducible exact h0 (by assumption)
  with_reducible refine And.intro ?_ ?_
  omega
  with_reducible refine And.intro ?_ ?_
  omega
  with_reducible refine And.intro ?_ ?_
  omega
  ((with_reducible refine isQ (Q := Q) ?_); exact h1 (by assumption) _ (hM.set hy))
set_option maxHeartbeats 4000000 in
theorem fX3_start {a c : Int32} (hM : MS g w0 y nM kd th s w) (hc : 0 < c) (h0 : a = 0 → ∀ w', MS g w0 y nM kd 0 s w' → Q (.inl (some (.int 0))) w') (h1 : ¬ a = 0 → ∀ w', MS g w0 y nM kd c s w' → Q (.inl (some (.int 1))) w') : WP (MX3_start g) Q (0, [some (.ref y), some (.int a), some (.int c)], [], w, 0, 0) := by
  obtain ⟨cL, pL, hy, ry⟩ := hM.1.op
  have hz : MS g w0 y nM kd 0 s (upw w y (.inr (7, [.int 0, .ref nM, .ref cL, .ref pL, .int s.2.2.2.2.1, .int kd, .int s.2.2.2.2.2]))) := hM.set hy
  simp only [eX3_start_0, eX3_start_5, hy, go_s, wt_nil, nf_i, true_and, List.set_cons_zero, List.length_cons, List.length_nil, rd_s, Nat.zero_add, Nat.add_zero]
  with_reducible refine And.intro ?_ ?_
  omega
  with_reducible refine And.intro ?_ ?_
  omega
  with_reducible refine And.intro ?_ ?_
  omega
  with_reducible refine And.intro ?_ ?_
  omega
  with_reducible refine fX3_refuse hz hc (fun _ => ?_) (fun _ _ _ => ?_)
  simp only [eX3_start_11, kx_l, tl_s, nb_0, true_and]
  with_reducible refine And.intro ?_ ?_
  omega
  with_reducible refine And.intro ?_ ?_
  omega
  with_reducible exact h0 (by assumption) _ hz
  simp only [eX3_start_11, kx_l, tl_s, nb_1, true_and]
  with_reducible refine And.intro ?_ ?_
  omega
  with_reducible refine And.intro ?_ ?_
  omega
  with_reducible exact h1 (by assumption) _ (by assumption)
set_option maxHeartbeats 4000000 in
theorem fX3_no  (hM : MS g w0 y nM kd th s w) (hQ : ∀ w', MS g w0 y nM kd th (sRf s) w' → Q (.inl (some (.int (-9)))) w') : WP (MX3_no g) Q (0, [some (.ref y)], [], w, 0, 0) := by
  obtain ⟨cL, pL, hy, ry⟩ := hM.1.op
  simp only [eX3_no_0, eX3_no_5, eX3_no_10, hy, ry, go_s, g0, gS, ex1, nf_i, true_and, List.set_cons_zero, List.set_cons_succ, List.length_cons, List.length_nil, Nat.zero_add]
  with_reducible refine And.intro ?_ ?_
  omega
  with_reducible refine And.intro ?_ ?_
  omega
  with_reducible refine And.intro ?_ ?_
  omega
  ((with_reducible refine isQ (Q := Q) ?_); exact hQ _ (hM.set hy))
set_option maxHeartbeats 4000000 in
theorem fX3_knock  (hM : MS g w0 y nM kd th s w) (hQ : ∀ w', MS g w0 y nM (kd + 1) 0 s w' → Q (.inl (some (.int (kd + 1)))) w') : WP (MX3_knock g) Q (0, [some (.ref y)], [], w, 0, 0) := by
  obtain ⟨cL, pL, hy, ry⟩ := hM.1.op
  simp only [eX3_knock_0, eX3_knock_5, eX3_knock_10, eX3_knock_15, eX3_knock_19, upw2q, hy, go_s, g0, gS, ex1, nf_i, true_and, List.set_cons_zero, List.set_cons_succ, List.length_cons, List.length_nil, rd_s, upw_s, Nat.zero_add]
  with_reducible refine And.intro ?_ ?_
  omega
  with_reducible refine And.intro ?_ ?_
  omega
  with_reducible refine And.intro ?_ ?_
  omega
  with_reducible refine And.intro ?_ ?_
  omega
  ((with_reducible refine isQ (Q := Q) ?_); exact hQ _ (hM.set hy))
set_option maxHeartbeats 4000000 in
theorem fX3_isSound  (hM : MS g w0 y nM kd th s w) (hQ : ∀ w', MS g w0 y nM kd 0 s w' → Q (.inl (some (.int 1))) w') : WP (MX3_isSound g) Q (0, [some (.ref y)], [], w, 0, 0) := by
  obtain ⟨cL, pL, hy, ry⟩ := hM.1.op
  simp only [eX3_isSound_0, eX3_isSound_5, hy, go_s, nb_1, nf_i, true_and, List.set_cons_zero, List.length_cons, List.length_nil, Nat.zero_add]
  with_reducible refine And.intro ?_ ?_
  omega
  with_reducible refine And.intro ?_ ?_
  omega
  with_reducible refine And.intro ?_ ?_
  omega
  ((with_reducible refine isQ (Q := Q) ?_); exact hQ _ (hM.set hy))
set_option maxHeartbeats 4000000 in
theorem fX3_thrown  (hM : MS g w0 y nM kd th s w) (hQ : Q (.inl (some (.int th))) w) : WP (MX3_thrown g) Q (0, [some (.ref y)], [], w, 0, 0) := by
  obtain ⟨cL, pL, hy, ry⟩ := hM.1.op
  simp only [eX3_thrown_0, eX3_thrown_4, ry, go_s, g0, ex1]
  with_reducible refine And.intro ?_ ?_
  omega
  with_reducible refine And.intro ?_ ?_
  omega
  with_reducible assumption
set_option maxHeartbeats 4000000 in
theorem fX3_high {a : Int64} (hQ : Q (.inl (some (.int (hiV a)))) w) : WP (MX3_high g) Q (0, [some (.long a), none], [], w, 0, 0) := by
  simp only [eX3_high_0, eX3_high_6, eX3_high_14, eX3_high_19, hiE]
  with_reducible refine And.intro ?_ ?_
  with_reducible exact n4g
  with_reducible refine And.intro ?_ ?_
  with_reducible exact n4g
  with_reducible refine And.intro ?_ ?_
  with_reducible exact n4g
  with_reducible refine And.intro ?_ ?_
  omega
  with_reducible refine And.intro ?_ ?_
  omega
  with_reducible assumption
set_option maxHeartbeats 4000000 in
theorem fX3_low {a : Int64} (hQ : Q (.inl (some (.int (loV a)))) w) : WP (MX3_low g) Q (0, [some (.long a), none, none, none], [], w, 0, 0) := by
  simp only [eX3_low_0, eX3_low_5, eX3_low_13, eX3_low_22, eX3_low_30, eX3_low_31, lgp, lmx, loE2, loE, ite_le, nl_none]
  with_reducible refine And.intro ?_ ?_
  with_reducible exact n4g
  with_reducible refine And.intro ?_ ?_
  with_reducible exact n4g
  with_reducible refine ite_cs ?_ ?_
  with_reducible refine And.intro ?_ ?_
  omega
  with_reducible refine And.intro ?_ ?_
  omega
  with_reducible assumption
  with_reducible refine And.intro ?_ ?_
  omega
  with_reducible refine And.intro ?_ ?_
  omega
  with_reducible assumption
set_option maxHeartbeats 4000000 in
theorem fX3_one {a : Int32} (h0 : a = 0 ∨ a = 1) (hQ : Q (.inl (some (.int a))) w) : WP (MX3_one g) Q (0, [some (.int a)], [], w, 0, 0) := by
  rcases h0 with rfl | rfl
  · skip
    simp only [eX3_one_0, eX3_one_4, eX3_one_8, eX3_one_9, if_true]
    with_reducible refine And.intro ?_ ?_
    omega
    with_reducible refine And.intro ?_ ?_
    omega
    with_reducible assumption
  · skip
    simp only [eX3_one_0, eX3_one_4, eX3_one_8, eX3_one_9, i10, if_false]
    with_reducible refine And.intro ?_ ?_
    omega
    with_reducible refine And.intro ?_ ?_
    omega
    with_reducible assumption
set_option maxHeartbeats 4000000 in
theorem fX3_become {a : Int32} {b : Int64} (hM : MS g w0 y nM kd th s w) (k : okN a) (hQ : ∀ w', MS g w0 y nM kd th (sN s (vp_updL s.1 a.toNatClampNeg b)) w' → Q (.inl (some (.int (loV b)))) w') : WP (MX3_become g) Q (0, [some (.ref y), some (.int a), some (.long b), none], [], w, 0, 0) := by
  simp only [eX3_become_0, eX3_become_4]
  with_reducible refine go_S (by assumption) (fun _ _ hY => ?_)
  simp only [eX3_become_6, eX3_become_7, wt_nil, g0, gS, ex1, Nat.add_zero]
  with_reducible refine gl_Sw hM (fun hf => ?_)
  with_reducible refine And.intro ?_ ?_
  with_reducible exact vpi8k k
  with_reducible refine And.intro ?_ ?_
  omega
  with_reducible refine And.intro ?_ ?_
  omega
  with_reducible refine And.intro ?_ ?_
  omega
  with_reducible refine fX3_low ?_
  simp only [eX3_become_11, kx_l, tl_s]
  with_reducible refine And.intro ?_ ?_
  omega
  with_reducible refine And.intro ?_ ?_
  omega
  with_reducible exact hQ _ (hf _)
end
end
/-! 75.mf3.lean.txt -/
section
section
variable {g : RO} {Q : Ot → Hw → Prop} {w0 w : Hw} {y nM : Nat} {kd th : Int32} {s : AS}
theorem frE {a : Int32} (h : okW a 3) : vp_updL (vp_updL (vp_updL (vp_updL (fun _ => 0) (0 : Int32).toNatClampNeg (-9223372036854775808)) (1 : Int32).toNatClampNeg 9223372036854775807) (2 : Int32).toNatClampNeg (-2147483648)) (3 : Int32).toNatClampNeg 2147483647 a.toNatClampNeg = frV a := rvE (r := (-9223372036854775808, 9223372036854775807, -2147483648, 2147483647)) h.1 h.2
set_option maxHeartbeats 4000000 in
theorem fX3_set {a0 a1 a2 : Int32} (hM : MS g w0 y nM kd th s w) (hX : ¬ (okN a0) → ∀ w', MS g w0 y nM kd 1 s w' → Q (.inl (some (.int 0))) w') (hQ : okN a0 → ∀ w', MS g w0 y nM kd 0 (sN s (vp_updL s.1 a0.toNatClampNeg (stV a1 a2))) w' → Q (.inl (some (.int (hiV (s.1 a0.toNatClampNeg))))) w') : WP (MX3_set g) Q (0, [some (.ref y), some (.int a0), some (.int a1), some (.int a2), none], [], w, 0, 0) := by
  simp only [eX3_set_0, eX3_set_5, wt_nil, wt_ref, Nat.add_zero]
  with_reducible refine And.intro ?_ ?_
  omega
  with_reducible refine And.intro ?_ ?_
  omega
  with_reducible refine And.intro ?_ ?_
  omega
  with_reducible refine fX3_isNoNumber (fun _ => ?_) (fun _ => ?_)
  simp only [eX3_set_6, kx_l, wt_nil, tl_s, Nat.add_zero]
  with_reducible refine And.intro ?_ ?_
  with_reducible refine go_S (by assumption) (fun _ _ hY => ?_)
  with_reducible exact trivial
  with_reducible refine And.intro ?_ ?_
  omega
  with_reducible refine And.intro ?_ ?_
  omega
  with_reducible refine And.intro ?_ ?_
  omega
  with_reducible refine fX3_start (by assumption) (by decide) (fun _ w1 h1 => ?_) (fun _ w1 h1 => ?_)
  with_reducible exact absurd (by assumption) n10'
  simp only [eX3_set_9, eX3_set_12, eX3_set_14, eX3_set_18, i10, if_false, kx_l, tl_s]
  with_reducible refine And.intro ?_ ?_
  omega
  with_reducible refine And.intro ?_ ?_
  omega
  with_reducible exact hX (fun h => absurd h (by assumption)) _ (by assumption)
  simp only [eX3_set_6, kx_l, wt_nil, tl_s, Nat.add_zero]
  with_reducible refine And.intro ?_ ?_
  with_reducible refine go_S (by assumption) (fun _ _ hY => ?_)
  with_reducible exact trivial
  with_reducible refine And.intro ?_ ?_
  omega
  with_reducible refine And.intro ?_ ?_
  omega
  with_reducible refine And.intro ?_ ?_
  omega
  with_reducible refine fX3_start (by assumption) (by decide) (fun _ w1 h1 => ?_) (fun _ w1 h1 => ?_)
  simp only [eX3_set_9, eX3_set_12, eX3_set_14, eX3_set_18, if_true, kx_l, tl_s]
  with_reducible refine go_S (by assumption) (fun _ _ hY => ?_)
  simp only [eX3_set_19, eX3_set_20, wt_nil, g0, gS, ex1, Nat.add_zero]
  with_reducible refine gl_S (by assumption) ?_
  with_reducible refine And.intro ?_ ?_
  with_reducible exact vpi8k (by assumption)
  with_reducible refine And.intro ?_ ?_
  omega
  with_reducible refine And.intro ?_ ?_
  omega
  with_reducible refine And.intro ?_ ?_
  omega
  with_reducible refine fX3_high ?_
  simp only [eX3_set_23, eX3_set_29, eX3_set_40, eX3_set_49, eX3_set_51, ite_le, kx_l, nl_int, tl_s]
  with_reducible refine go_S (by assumption) (fun _ _ hY => ?_)
  simp only [eX3_set_52, eX3_set_53, g0, gS, ex1]
  with_reducible refine itx (fun _ => ?_) (fun _ => ?_)
  with_reducible refine gl_Sw (by assumption) (fun hf => ?_)
  with_reducible refine And.intro ?_ ?_
  with_reducible exact vpi8k (by assumption)
  with_reducible refine And.intro ?_ ?_
  omega
  with_reducible refine And.intro ?_ ?_
  omega
  (rw [stN (by assumption)]; exact hQ (by assumption) _ (hf _))
  with_reducible refine gl_Sw (by assumption) (fun hf => ?_)
  with_reducible refine And.intro ?_ ?_
  with_reducible exact vpi8k (by assumption)
  with_reducible refine And.intro ?_ ?_
  omega
  with_reducible refine And.intro ?_ ?_
  omega
  (rw [stP (by assumption)]; exact hQ (by assumption) _ (hf _))
  with_reducible exact n00x (by assumption)
set_option maxHeartbeats 4000000 in
theorem fX3_setSmall {a0 a1 : Int32} (hM : MS g w0 y nM kd th s w) (hX : ¬ (okN a0) → ∀ w', MS g w0 y nM kd 1 s w' → Q (.inl (some (.int 0))) w') (hQ : okN a0 → ∀ w', MS g w0 y nM kd 0 (sN s (vp_updL s.1 a0.toNatClampNeg a1.toInt64)) w' → Q (.inl (some (.int (loV (s.1 a0.toNatClampNeg))))) w') : WP (MX3_setSmall g) Q (0, [some (.ref y), some (.int a0), some (.int a1), none], [], w, 0, 0) := by
  simp only [eX3_setSmall_0, eX3_setSmall_5, wt_nil, wt_ref, Nat.add_zero]
  with_reducible refine And.intro ?_ ?_
  omega
  with_reducible refine And.intro ?_ ?_
  omega
  with_reducible refine And.intro ?_ ?_
  omega
  with_reducible refine fX3_isNoNumber (fun _ => ?_) (fun _ => ?_)
  simp only [eX3_setSmall_6, kx_l, wt_nil, tl_s, Nat.add_zero]
  with_reducible refine And.intro ?_ ?_
  with_reducible refine go_S (by assumption) (fun _ _ hY => ?_)
  with_reducible exact trivial
  with_reducible refine And.intro ?_ ?_
  omega
  with_reducible refine And.intro ?_ ?_
  omega
  with_reducible refine And.intro ?_ ?_
  omega
  with_reducible refine fX3_start (by assumption) (by decide) (fun _ w1 h1 => ?_) (fun _ w1 h1 => ?_)
  with_reducible exact absurd (by assumption) n10'
  simp only [eX3_setSmall_9, eX3_setSmall_12, eX3_setSmall_14, eX3_setSmall_18, i10, if_false, kx_l, tl_s]
  with_reducible refine And.intro ?_ ?_
  omega
  with_reducible refine And.intro ?_ ?_
  omega
  with_reducible exact hX (fun h => absurd h (by assumption)) _ (by assumption)
  simp only [eX3_setSmall_6, kx_l, wt_nil, tl_s, Nat.add_zero]
  with_reducible refine And.intro ?_ ?_
  with_reducible refine go_S (by assumption) (fun _ _ hY => ?_)
  with_reducible exact trivial
  with_reducible refine And.intro ?_ ?_
  omega
  with_reducible refine And.intro ?_ ?_
  omega
  with_reducible refine And.intro ?_ ?_
  omega
  with_reducible refine fX3_start (by assumption) (by decide) (fun _ w1 h1 => ?_) (fun _ w1 h1 => ?_)
  simp only [eX3_setSmall_9, eX3_setSmall_12, eX3_setSmall_14, eX3_setSmall_18, if_true, kx_l, tl_s]
  with_reducible refine go_S (by assumption) (fun _ _ hY => ?_)
  simp only [eX3_setSmall_19, eX3_setSmall_20, wt_nil, g0, gS, ex1, Nat.add_zero]
  with_reducible refine gl_S (by assumption) ?_
  with_reducible refine And.intro ?_ ?_
  with_reducible exact vpi8k (by assumption)
  with_reducible refine And.intro ?_ ?_
  omega
  with_reducible refine And.intro ?_ ?_
  omega
  with_reducible refine And.intro ?_ ?_
  omega
  with_reducible refine fX3_low ?_
  simp only [eX3_setSmall_23, eX3_setSmall_28, kx_l, nl_int, tl_s]
  with_reducible refine go_S (by assumption) (fun _ _ hY => ?_)
  simp only [eX3_setSmall_31, eX3_setSmall_32, g0, gS, ex1]
  with_reducible refine gl_Sw (by assumption) (fun hf => ?_)
  with_reducible refine And.intro ?_ ?_
  with_reducible exact vpi8k (by assumption)
  with_reducible refine And.intro ?_ ?_
  omega
  with_reducible refine And.intro ?_ ?_
  omega
  with_reducible exact hQ (by assumption) _ (hf _)
  with_reducible exact n00x (by assumption)
set_option maxHeartbeats 4000000 in
theorem fX3_setEnd {a0 a1 : Int32} (hM : MS g w0 y nM kd th s w) (hX : ¬ (okN a0) → ∀ w', MS g w0 y nM kd 1 s w' → Q (.inl (some (.int 0))) w') (hW : okN a0 → ¬ okW a1 3 → ∀ w', MS g w0 y nM kd 2 s w' → Q (.inl (some (.int 0))) w') (hQ : okN a0 → okW a1 3 → ∀ w', MS g w0 y nM kd 0 (sN s (vp_updL s.1 a0.toNatClampNeg (frV a1))) w' → Q (.inl (some (.int (loV (frV a1))))) w') : WP (MX3_setEnd g) Q (0, [some (.ref y), some (.int a0), some (.int a1), none], [], w, 0, 0) := by
  simp only [eX3_setEnd_0, eX3_setEnd_5, wt_nil, wt_ref, Nat.add_zero]
  with_reducible refine And.intro ?_ ?_
  omega
  with_reducible refine And.intro ?_ ?_
  omega
  with_reducible refine And.intro ?_ ?_
  omega
  with_reducible refine fX3_isNoNumber (fun _ => ?_) (fun _ => ?_)
  simp only [eX3_setEnd_6, kx_l, wt_nil, tl_s, Nat.add_zero]
  with_reducible refine And.intro ?_ ?_
  with_reducible refine go_S (by assumption) (fun _ _ hY => ?_)
  with_reducible exact trivial
  with_reducible refine And.intro ?_ ?_
  omega
  with_reducible refine And.intro ?_ ?_
  omega
  with_reducible refine And.intro ?_ ?_
  omega
  with_reducible refine fX3_start (by assumption) (by decide) (fun _ w1 h1 => ?_) (fun _ w1 h1 => ?_)
  with_reducible exact absurd (by assumption) n10'
  simp only [eX3_setEnd_9, eX3_setEnd_12, eX3_setEnd_34, i10, if_false, kx_l, wt_nil, wt_ref, tl_s, Nat.add_zero]
  with_reducible refine And.intro ?_ ?_
  omega
  with_reducible refine And.intro ?_ ?_
  omega
  with_reducible exact hX (fun h => absurd h (by assumption)) _ (by assumption)
  simp only [eX3_setEnd_6, kx_l, wt_nil, tl_s, Nat.add_zero]
  with_reducible refine And.intro ?_ ?_
  with_reducible refine go_S (by assumption) (fun _ _ hY => ?_)
  with_reducible exact trivial
  with_reducible refine And.intro ?_ ?_
  omega
  with_reducible refine And.intro ?_ ?_
  omega
  with_reducible refine And.intro ?_ ?_
  omega
  with_reducible refine fX3_start (by assumption) (by decide) (fun _ w1 h1 => ?_) (fun _ w1 h1 => ?_)
  simp only [eX3_setEnd_9, eX3_setEnd_12, eX3_setEnd_34, if_true, kx_l, wt_nil, wt_ref, tl_s, Nat.add_zero]
  with_reducible refine And.intro ?_ ?_
  omega
  with_reducible refine And.intro ?_ ?_
  omega
  with_reducible refine And.intro ?_ ?_
  omega
  with_reducible refine fX3_isIn (fun _ _ => ?_) (fun _ => ?_)
  simp only [eX3_setEnd_19, eX3_setEnd_22, eX3_setEnd_26, eX3_setEnd_27, i10, if_false, kx_l, wt_nil, tl_s, Nat.add_zero]
  with_reducible refine And.intro ?_ ?_
  with_reducible refine go_S (by assumption) (fun _ _ hY => ?_)
  with_reducible exact trivial
  with_reducible refine And.intro ?_ ?_
  omega
  with_reducible refine And.intro ?_ ?_
  omega
  with_reducible refine And.intro ?_ ?_
  omega
  with_reducible refine fX3_refuse (by assumption) (by decide) (fun _ => ?_) (fun _ w2 h2 => ?_)
  simp only [eX3_setEnd_31, eX3_setEnd_34, eX3_setEnd_36, eX3_setEnd_39R, eX3_setEnd_45R, eX3_setEnd_51R, eX3_setEnd_57R, eX3_setEnd_63, eX3_setEnd_67, eX3_setEnd_69, if_true, n4e, upw2q, kx_l, gl_s, wt_nil, nl_int, tl_s, rd_s, upw_s, Nat.zero_add, Nat.add_zero]
  with_reducible refine And.intro ?_ ?_
  with_reducible exact n4a
  with_reducible refine And.intro ?_ ?_
  omega
  with_reducible refine And.intro ?_ ?_
  omega
  with_reducible refine And.intro ?_ ?_
  omega
  with_reducible intro _
  with_reducible intro _
  with_reducible refine And.intro ?_ ?_
  with_reducible exact vpi4.1
  with_reducible refine And.intro ?_ ?_
  with_reducible exact vpi4.2.1
  with_reducible refine And.intro ?_ ?_
  with_reducible exact vpi4.2.2.1
  with_reducible refine And.intro ?_ ?_
  with_reducible exact vpi4.2.2.2
  with_reducible refine And.intro ?_ ?_
  with_reducible exact vpi4n (by assumption) (by assumption)
  with_reducible refine And.intro ?_ ?_
  with_reducible refine go_S (MS.fr (by assumption) (by assumption)) (fun _ _ hY => ?_)
  with_reducible exact trivial
  with_reducible refine And.intro ?_ ?_
  omega
  with_reducible refine And.intro ?_ ?_
  omega
  with_reducible refine And.intro ?_ ?_
  omega
  (rw [frE ⟨by assumption, by assumption⟩]; refine fX3_become (MS.fr (by assumption) (by assumption)) (by assumption) (fun w3 h3 => ?_))
  simp only [eX3_setEnd_72, kx_l, tl_s]
  with_reducible refine And.intro ?_ ?_
  omega
  with_reducible refine And.intro ?_ ?_
  omega
  with_reducible exact hQ (by assumption) ⟨by assumption, by assumption⟩ _ (by assumption)
  with_reducible exact n00x (by assumption)
  simp only [eX3_setEnd_19, eX3_setEnd_22, eX3_setEnd_26, eX3_setEnd_27, if_true, kx_l, wt_nil, tl_s, Nat.add_zero]
  with_reducible refine And.intro ?_ ?_
  with_reducible refine go_S (by assumption) (fun _ _ hY => ?_)
  with_reducible exact trivial
  with_reducible refine And.intro ?_ ?_
  omega
  with_reducible refine And.intro ?_ ?_
  omega
  with_reducible refine And.intro ?_ ?_
  omega
  with_reducible refine fX3_refuse (by assumption) (by decide) (fun _ => ?_) (fun _ w2 h2 => ?_)
  with_reducible exact absurd (by assumption) n10'
  simp only [eX3_setEnd_31, eX3_setEnd_34, eX3_setEnd_36, eX3_setEnd_39R, eX3_setEnd_45R, eX3_setEnd_51R, eX3_setEnd_57R, eX3_setEnd_63, eX3_setEnd_67, eX3_setEnd_69, i10, if_false, n4e, upw2q, kx_l, gl_s, wt_nil, nl_int, tl_s, rd_s, upw_s, Nat.zero_add, Nat.add_zero]
  with_reducible refine And.intro ?_ ?_
  omega
  with_reducible refine And.intro ?_ ?_
  omega
  with_reducible exact hW (by assumption) (nokW (by assumption)) _ (by assumption)
  with_reducible exact n00x (by assumption)
set_option maxHeartbeats 4000000 in
theorem fX3_move {a0 a1 : Int32} (hM : MS g w0 y nM kd th s w) (hX : ¬ (okN a0) → ∀ w', MS g w0 y nM kd 1 s w' → Q (.inl (some (.int 0))) w') (hQ : okN a0 → ∀ w', MS g w0 y nM kd 0 (sN s (vp_updL s.1 a0.toNatClampNeg (s.1 a0.toNatClampNeg + a1.toInt64))) w' → Q (.inl (some (.int (loV (s.1 a0.toNatClampNeg + a1.toInt64))))) w') : WP (MX3_move g) Q (0, [some (.ref y), some (.int a0), some (.int a1)], [], w, 0, 0) := by
  simp only [eX3_move_0, eX3_move_5, wt_nil, wt_ref, Nat.add_zero]
  with_reducible refine And.intro ?_ ?_
  omega
  with_reducible refine And.intro ?_ ?_
  omega
  with_reducible refine And.intro ?_ ?_
  omega
  with_reducible refine fX3_isNoNumber (fun _ => ?_) (fun _ => ?_)
  simp only [eX3_move_6, kx_l, wt_nil, tl_s, Nat.add_zero]
  with_reducible refine And.intro ?_ ?_
  with_reducible refine go_S (by assumption) (fun _ _ hY => ?_)
  with_reducible exact trivial
  with_reducible refine And.intro ?_ ?_
  omega
  with_reducible refine And.intro ?_ ?_
  omega
  with_reducible refine And.intro ?_ ?_
  omega
  with_reducible refine fX3_start (by assumption) (by decide) (fun _ w1 h1 => ?_) (fun _ w1 h1 => ?_)
  with_reducible exact absurd (by assumption) n10'
  simp only [eX3_move_9, eX3_move_12, eX3_move_16, eX3_move_22, eX3_move_30, i10, if_false, kx_l, tl_s]
  with_reducible refine And.intro ?_ ?_
  omega
  with_reducible refine And.intro ?_ ?_
  omega
  with_reducible exact hX (fun h => absurd h (by assumption)) _ (by assumption)
  simp only [eX3_move_6, kx_l, wt_nil, tl_s, Nat.add_zero]
  with_reducible refine And.intro ?_ ?_
  with_reducible refine go_S (by assumption) (fun _ _ hY => ?_)
  with_reducible exact trivial
  with_reducible refine And.intro ?_ ?_
  omega
  with_reducible refine And.intro ?_ ?_
  omega
  with_reducible refine And.intro ?_ ?_
  omega
  with_reducible refine fX3_start (by assumption) (by decide) (fun _ w1 h1 => ?_) (fun _ w1 h1 => ?_)
  simp only [eX3_move_9, eX3_move_12, eX3_move_16, eX3_move_22, eX3_move_30, if_true, kx_l, tl_s]
  with_reducible refine go_S (by assumption) (fun _ _ hY => ?_)
  simp only [eX3_move_23, eX3_move_24, wt_nil, g0, gS, ex1, Nat.add_zero]
  with_reducible refine gl_S (by assumption) ?_
  with_reducible refine And.intro ?_ ?_
  with_reducible exact vpi8k (by assumption)
  with_reducible refine And.intro ?_ ?_
  with_reducible refine go_S (by assumption) (fun _ _ hY => ?_)
  with_reducible exact trivial
  with_reducible refine And.intro ?_ ?_
  omega
  with_reducible refine And.intro ?_ ?_
  omega
  with_reducible refine And.intro ?_ ?_
  omega
  with_reducible refine fX3_become (by assumption) (by assumption) (fun w3 h3 => ?_)
  simp only [eX3_move_30, kx_l, tl_s]
  with_reducible refine And.intro ?_ ?_
  omega
  with_reducible refine And.intro ?_ ?_
  omega
  with_reducible exact hQ (by assumption) _ (by assumption)
  with_reducible exact n00x (by assumption)
set_option maxHeartbeats 4000000 in
theorem fX3_copy {a0 a1 : Int32} (hM : MS g w0 y nM kd th s w) (hX : ¬ (okN a0 ∧ okN a1) → ∀ w', MS g w0 y nM kd 1 s w' → Q (.inl (some (.int 0))) w') (hQ : okN a0 → okN a1 → ∀ w', MS g w0 y nM kd 0 (sN s (vp_updL s.1 a0.toNatClampNeg (s.1 a1.toNatClampNeg))) w' → Q (.inl (some (.int (loV (s.1 a1.toNatClampNeg))))) w') : WP (MX3_copy g) Q (0, [some (.ref y), some (.int a0), some (.int a1)], [], w, 0, 0) := by
  simp only [eX3_copy_0, wt_nil, wt_ref, Nat.add_zero]
  with_reducible refine And.intro ?_ ?_
  omega
  with_reducible refine And.intro ?_ ?_
  omega
  with_reducible refine And.intro ?_ ?_
  omega
  with_reducible refine fX3_isNoNumber (fun _ => ?_) (fun _ => ?_)
  simp only [eX3_copy_5, eX3_copy_8, eX3_copy_15, eX3_copy_20, i10, if_false, kx_l, wt_nil, wt_ref, tl_s, Nat.add_zero]
  with_reducible refine And.intro ?_ ?_
  with_reducible refine go_S (by assumption) (fun _ _ hY => ?_)
  with_reducible exact trivial
  with_reducible refine And.intro ?_ ?_
  omega
  with_reducible refine And.intro ?_ ?_
  omega
  with_reducible refine And.intro ?_ ?_
  omega
  with_reducible refine fX3_start (by assumption) (by decide) (fun _ w1 h1 => ?_) (fun _ w1 h1 => ?_)
  with_reducible exact absurd (by assumption) n10'
  simp only [eX3_copy_24, eX3_copy_27, eX3_copy_31, eX3_copy_37, eX3_copy_42, i10, if_false, kx_l, tl_s]
  with_reducible refine And.intro ?_ ?_
  omega
  with_reducible refine And.intro ?_ ?_
  omega
  with_reducible exact hX (fun h => absurd h.1 (by assumption)) _ (by assumption)
  simp only [eX3_copy_5, eX3_copy_8, eX3_copy_15, eX3_copy_20, if_true, kx_l, wt_nil, wt_ref, tl_s, Nat.add_zero]
  with_reducible refine And.intro ?_ ?_
  omega
  with_reducible refine And.intro ?_ ?_
  omega
  with_reducible refine And.intro ?_ ?_
  omega
  with_reducible refine fX3_isNoNumber (fun _ => ?_) (fun _ => ?_)
  simp only [eX3_copy_12, eX3_copy_15, eX3_copy_19, eX3_copy_20, i10, if_false, kx_l, wt_nil, tl_s, Nat.add_zero]
  with_reducible refine And.intro ?_ ?_
  with_reducible refine go_S (by assumption) (fun _ _ hY => ?_)
  with_reducible exact trivial
  with_reducible refine And.intro ?_ ?_
  omega
  with_reducible refine And.intro ?_ ?_
  omega
  with_reducible refine And.intro ?_ ?_
  omega
  with_reducible refine fX3_start (by assumption) (by decide) (fun _ w1 h1 => ?_) (fun _ w1 h1 => ?_)
  with_reducible exact absurd (by assumption) n10'
  simp only [eX3_copy_24, eX3_copy_27, eX3_copy_31, eX3_copy_37, eX3_copy_42, i10, if_false, kx_l, tl_s]
  with_reducible refine And.intro ?_ ?_
  omega
  with_reducible refine And.intro ?_ ?_
  omega
  with_reducible exact hX (fun h => absurd h.2 (by assumption)) _ (by assumption)
  simp only [eX3_copy_12, eX3_copy_15, eX3_copy_19, eX3_copy_20, if_true, kx_l, wt_nil, tl_s, Nat.add_zero]
  with_reducible refine And.intro ?_ ?_
  with_reducible refine go_S (by assumption) (fun _ _ hY => ?_)
  with_reducible exact trivial
  with_reducible refine And.intro ?_ ?_
  omega
  with_reducible refine And.intro ?_ ?_
  omega
  with_reducible refine And.intro ?_ ?_
  omega
  with_reducible refine fX3_start (by assumption) (by decide) (fun _ w1 h1 => ?_) (fun _ w1 h1 => ?_)
  simp only [eX3_copy_24, eX3_copy_27, eX3_copy_31, eX3_copy_37, eX3_copy_42, if_true, kx_l, tl_s]
  with_reducible refine go_S (by assumption) (fun _ _ hY => ?_)
  simp only [eX3_copy_38, eX3_copy_39, wt_nil, g0, gS, ex1, Nat.add_zero]
  with_reducible refine gl_S (by assumption) ?_
  with_reducible refine And.intro ?_ ?_
  with_reducible exact vpi8k (by assumption)
  with_reducible refine And.intro ?_ ?_
  with_reducible refine go_S (by assumption) (fun _ _ hY => ?_)
  with_reducible exact trivial
  with_reducible refine And.intro ?_ ?_
  omega
  with_reducible refine And.intro ?_ ?_
  omega
  with_reducible refine And.intro ?_ ?_
  omega
  with_reducible refine fX3_become (by assumption) (by assumption) (fun w3 h3 => ?_)
  simp only [eX3_copy_42, kx_l, tl_s]
  with_reducible refine And.intro ?_ ?_
  omega
  with_reducible refine And.intro ?_ ?_
  omega
  with_reducible exact hQ (by assumption) (by assumption) _ (by assumption)
  with_reducible exact n00x (by assumption)
set_option maxHeartbeats 4000000 in
theorem fX3_ofNumber {a0 a1 : Int32} (hM : MS g w0 y nM kd th s w) (hX : ¬ (okN a0) → ∀ w', MS g w0 y nM kd 1 s w' → Q (.inl (some (.int 0))) w') (hQ : okN a0 → ∀ w', MS g w0 y nM kd 0 s w' → Q (.inl (some (.int (hfV (s.1 a0.toNatClampNeg) a1)))) w') : WP (MX3_ofNumber g) Q (0, [some (.ref y), some (.int a0), some (.int a1)], [], w, 0, 0) := by
  simp only [eX3_ofNumber_0, eX3_ofNumber_5, wt_nil, wt_ref, Nat.add_zero]
  with_reducible refine And.intro ?_ ?_
  omega
  with_reducible refine And.intro ?_ ?_
  omega
  with_reducible refine And.intro ?_ ?_
  omega
  with_reducible refine fX3_isNoNumber (fun _ => ?_) (fun _ => ?_)
  simp only [eX3_ofNumber_6, kx_l, wt_nil, tl_s, Nat.add_zero]
  with_reducible refine And.intro ?_ ?_
  with_reducible refine go_S (by assumption) (fun _ _ hY => ?_)
  with_reducible exact trivial
  with_reducible refine And.intro ?_ ?_
  omega
  with_reducible refine And.intro ?_ ?_
  omega
  with_reducible refine And.intro ?_ ?_
  omega
  with_reducible refine fX3_start (by assumption) (by decide) (fun _ w1 h1 => ?_) (fun _ w1 h1 => ?_)
  with_reducible exact absurd (by assumption) n10'
  simp only [eX3_ofNumber_9, eX3_ofNumber_12, eX3_ofNumber_14, eX3_ofNumber_18, eX3_ofNumber_22, eX3_ofNumber_30, eX3_ofNumber_34, i10, if_false, kx_l, tl_s]
  with_reducible refine And.intro ?_ ?_
  omega
  with_reducible refine And.intro ?_ ?_
  omega
  with_reducible exact hX (fun h => absurd h (by assumption)) _ (by assumption)
  simp only [eX3_ofNumber_6, kx_l, wt_nil, tl_s, Nat.add_zero]
  with_reducible refine And.intro ?_ ?_
  with_reducible refine go_S (by assumption) (fun _ _ hY => ?_)
  with_reducible exact trivial
  with_reducible refine And.intro ?_ ?_
  omega
  with_reducible refine And.intro ?_ ?_
  omega
  with_reducible refine And.intro ?_ ?_
  omega
  with_reducible refine fX3_start (by assumption) (by decide) (fun _ w1 h1 => ?_) (fun _ w1 h1 => ?_)
  simp only [eX3_ofNumber_9, eX3_ofNumber_12, eX3_ofNumber_14, eX3_ofNumber_18, eX3_ofNumber_22, eX3_ofNumber_30, eX3_ofNumber_34, if_true, kx_l, tl_s]
  with_reducible refine itx (fun _ => ?_) (fun _ => ?_)
  with_reducible refine go_S (by assumption) (fun _ _ hY => ?_)
  simp only [eX3_ofNumber_35, eX3_ofNumber_36, wt_nil, g0, gS, ex1, Nat.add_zero]
  with_reducible refine gl_S (by assumption) ?_
  with_reducible refine And.intro ?_ ?_
  with_reducible exact vpi8k (by assumption)
  with_reducible refine And.intro ?_ ?_
  omega
  with_reducible refine And.intro ?_ ?_
  omega
  with_reducible refine And.intro ?_ ?_
  omega
  with_reducible refine fX3_low ?_
  simp only [eX3_ofNumber_39, kx_l, tl_s]
  with_reducible refine And.intro ?_ ?_
  omega
  with_reducible refine And.intro ?_ ?_
  omega
  (rw [← hfV_e (a := s.1 a0.toNatClampNeg) (h := a1) (by assumption)]; exact hQ (by assumption) _ (by assumption))
  with_reducible refine go_S (by assumption) (fun _ _ hY => ?_)
  simp only [eX3_ofNumber_23, eX3_ofNumber_24, eX3_ofNumber_27, wt_nil, g0, gS, ex1, Nat.add_zero]
  with_reducible refine gl_S (by assumption) ?_
  with_reducible refine And.intro ?_ ?_
  with_reducible exact vpi8k (by assumption)
  with_reducible refine And.intro ?_ ?_
  omega
  with_reducible refine And.intro ?_ ?_
  omega
  with_reducible refine And.intro ?_ ?_
  omega
  with_reducible refine fX3_high ?_
  simp only [eX3_ofNumber_39, kx_l, tl_s]
  with_reducible refine And.intro ?_ ?_
  omega
  with_reducible refine And.intro ?_ ?_
  omega
  (rw [← hfV_n (a := s.1 a0.toNatClampNeg) (h := a1) (by assumption)]; exact hQ (by assumption) _ (by assumption))
  with_reducible exact n00x (by assumption)
set_option maxHeartbeats 4000000 in
theorem fX3_order {a0 a1 : Int32} (hM : MS g w0 y nM kd th s w) (hX : ¬ (okN a0 ∧ okN a1) → ∀ w', MS g w0 y nM kd 1 s w' → Q (.inl (some (.int 0))) w') (hQ : okN a0 → okN a1 → ∀ w', MS g w0 y nM kd 0 s w' → Q (.inl (some (.int (orV (s.1 a0.toNatClampNeg) (s.1 a1.toNatClampNeg))))) w') : WP (MX3_order g) Q (0, [some (.ref y), some (.int a0), some (.int a1)], [], w, 0, 0) := by
  simp only [eX3_order_0, wt_nil, wt_ref, Nat.add_zero]
  with_reducible refine And.intro ?_ ?_
  omega
  with_reducible refine And.intro ?_ ?_
  omega
  with_reducible refine And.intro ?_ ?_
  omega
  with_reducible refine fX3_isNoNumber (fun _ => ?_) (fun _ => ?_)
  simp only [eX3_order_5, eX3_order_8, eX3_order_15, eX3_order_20, i10, if_false, kx_l, wt_nil, wt_ref, tl_s, Nat.add_zero]
  with_reducible refine And.intro ?_ ?_
  with_reducible refine go_S (by assumption) (fun _ _ hY => ?_)
  with_reducible exact trivial
  with_reducible refine And.intro ?_ ?_
  omega
  with_reducible refine And.intro ?_ ?_
  omega
  with_reducible refine And.intro ?_ ?_
  omega
  with_reducible refine fX3_start (by assumption) (by decide) (fun _ w1 h1 => ?_) (fun _ w1 h1 => ?_)
  with_reducible exact absurd (by assumption) n10'
  simp only [eX3_order_24, eX3_order_27, eX3_order_29, eX3_order_33, i10, if_false, kx_l, tl_s]
  with_reducible refine And.intro ?_ ?_
  omega
  with_reducible refine And.intro ?_ ?_
  omega
  with_reducible exact hX (fun h => absurd h.1 (by assumption)) _ (by assumption)
  simp only [eX3_order_5, eX3_order_8, eX3_order_15, eX3_order_20, if_true, kx_l, wt_nil, wt_ref, tl_s, Nat.add_zero]
  with_reducible refine And.intro ?_ ?_
  omega
  with_reducible refine And.intro ?_ ?_
  omega
  with_reducible refine And.intro ?_ ?_
  omega
  with_reducible refine fX3_isNoNumber (fun _ => ?_) (fun _ => ?_)
  simp only [eX3_order_12, eX3_order_15, eX3_order_19, eX3_order_20, i10, if_false, kx_l, wt_nil, tl_s, Nat.add_zero]
  with_reducible refine And.intro ?_ ?_
  with_reducible refine go_S (by assumption) (fun _ _ hY => ?_)
  with_reducible exact trivial
  with_reducible refine And.intro ?_ ?_
  omega
  with_reducible refine And.intro ?_ ?_
  omega
  with_reducible refine And.intro ?_ ?_
  omega
  with_reducible refine fX3_start (by assumption) (by decide) (fun _ w1 h1 => ?_) (fun _ w1 h1 => ?_)
  with_reducible exact absurd (by assumption) n10'
  simp only [eX3_order_24, eX3_order_27, eX3_order_29, eX3_order_33, i10, if_false, kx_l, tl_s]
  with_reducible refine And.intro ?_ ?_
  omega
  with_reducible refine And.intro ?_ ?_
  omega
  with_reducible exact hX (fun h => absurd h.2 (by assumption)) _ (by assumption)
  simp only [eX3_order_12, eX3_order_15, eX3_order_19, eX3_order_20, if_true, kx_l, wt_nil, tl_s, Nat.add_zero]
  with_reducible refine And.intro ?_ ?_
  with_reducible refine go_S (by assumption) (fun _ _ hY => ?_)
  with_reducible exact trivial
  with_reducible refine And.intro ?_ ?_
  omega
  with_reducible refine And.intro ?_ ?_
  omega
  with_reducible refine And.intro ?_ ?_
  omega
  with_reducible refine fX3_start (by assumption) (by decide) (fun _ w1 h1 => ?_) (fun _ w1 h1 => ?_)
  simp only [eX3_order_24, eX3_order_27, eX3_order_29, eX3_order_33, if_true, kx_l, tl_s]
  with_reducible refine go_S (by assumption) (fun _ _ hY => ?_)
  simp only [eX3_order_34, eX3_order_35, eX3_order_39, g0, gS, ex1]
  with_reducible refine gl_S (by assumption) ?_
  with_reducible refine And.intro ?_ ?_
  with_reducible exact vpi8k (by assumption)
  with_reducible refine go_S (by assumption) (fun _ _ hY => ?_)
  simp only [eX3_order_40, eX3_order_41, eX3_order_45, eX3_order_49, eX3_order_53, eX3_order_73, lgn, ite_le, g0, gS, ex1]
  with_reducible refine gl_S (by assumption) ?_
  with_reducible refine And.intro ?_ ?_
  with_reducible exact vpi8k (by assumption)
  with_reducible refine itx (fun _ => ?_) (fun _ => ?_)
  with_reducible refine And.intro ?_ ?_
  omega
  with_reducible refine And.intro ?_ ?_
  omega
  (rw [← orV_1 (a := s.1 a0.toNatClampNeg) (b := s.1 a1.toNatClampNeg) (by assumption)]; exact hQ (by assumption) (by assumption) _ (by assumption))
  with_reducible refine go_S (by assumption) (fun _ _ hY => ?_)
  simp only [eX3_order_54, eX3_order_55, eX3_order_59, g0, gS, ex1]
  with_reducible refine gl_S (by assumption) ?_
  with_reducible refine And.intro ?_ ?_
  with_reducible exact vpi8k (by assumption)
  with_reducible refine go_S (by assumption) (fun _ _ hY => ?_)
  simp only [eX3_order_60, eX3_order_61, eX3_order_65, eX3_order_69, eX3_order_70, lgp, ite_le, wt_nil, g0, gS, ex1, Nat.add_zero]
  with_reducible refine gl_S (by assumption) ?_
  with_reducible refine And.intro ?_ ?_
  with_reducible exact vpi8k (by assumption)
  with_reducible refine itx (fun _ => ?_) (fun _ => ?_)
  with_reducible refine And.intro ?_ ?_
  omega
  with_reducible refine And.intro ?_ ?_
  omega
  with_reducible refine And.intro ?_ ?_
  omega
  with_reducible refine fX3_one (Or.inr rfl) ?_
  simp only [eX3_order_73, kx_l, tl_s]
  with_reducible refine And.intro ?_ ?_
  omega
  with_reducible refine And.intro ?_ ?_
  omega
  (rw [← orV_2 (a := s.1 a0.toNatClampNeg) (b := s.1 a1.toNatClampNeg) (by assumption) (by assumption)]; exact hQ (by assumption) (by assumption) _ (by assumption))
  with_reducible refine And.intro ?_ ?_
  omega
  with_reducible refine And.intro ?_ ?_
  omega
  with_reducible refine And.intro ?_ ?_
  omega
  with_reducible refine fX3_one (Or.inl rfl) ?_
  simp only [eX3_order_73, kx_l, tl_s]
  with_reducible refine And.intro ?_ ?_
  omega
  with_reducible refine And.intro ?_ ?_
  omega
  (rw [← orV_3 (a := s.1 a0.toNatClampNeg) (b := s.1 a1.toNatClampNeg) (by assumption) (by assumption)]; exact hQ (by assumption) (by assumption) _ (by assumption))
  with_reducible exact n00x (by assumption)
end
end
/-! 75.mf4.lean.txt -/
section
section
variable {g : RO} {Q : Ot → Hw → Prop} {w0 w : Hw} {y nM : Nat} {kd th : Int32} {s : AS}
theorem rowA_nw {q : Nat} {a b c d : Int64} : rowA (upw w q (.inl (0, 4, .inr (.inl (vp_updL (vp_updL (vp_updL (vp_updL (fun _ => 0) (0 : Int32).toNatClampNeg a) (1 : Int32).toNatClampNeg b) (2 : Int32).toNatClampNeg c) (3 : Int32).toNatClampNeg d))))) q (a, b, c, d) := upw_s _ _ _
/-- two rows compared: each place so far -/
def eqF (r t : R4) : Nat → Int32
  | 0 => 1
  | j + 1 => eqF r t j &&& (if (rV r j).toInt = (rV t j).toInt then 1 else 0)
theorem eqF_t {r t : R4} {j : Nat} (h : (rV r j).toInt = (rV t j).toInt) : eqF r t j &&& 1 = eqF r t (j + 1) := by
  show _ = eqF r t j &&& (if (rV r j).toInt = (rV t j).toInt then 1 else 0)
  rw [if_pos h]
theorem eqF_f {r t : R4} {j : Nat} (h : ¬ (rV r j).toInt = (rV t j).toInt) : eqF r t j &&& 0 = eqF r t (j + 1) := by
  show _ = eqF r t j &&& (if (rV r j).toInt = (rV t j).toInt then 1 else 0)
  rw [if_neg h]
theorem eqF_4 {r t : R4} : eqF r t 4 = (((1 &&& (if r.1.toInt = t.1.toInt then 1 else 0)) &&& (if r.2.1.toInt = t.2.1.toInt then 1 else 0)) &&& (if r.2.2.1.toInt = t.2.2.1.toInt then 1 else 0)) &&& (if r.2.2.2.toInt = t.2.2.2.toInt then 1 else 0) := rfl
theorem eqF_T {r t : R4} (h : mP r t) : eqF r t 4 = 1 := by
  rw [eqF_4, if_pos h.1, if_pos h.2.1, if_pos h.2.2.1, if_pos h.2.2.2]
  decide
theorem eqF_F {r t : R4} (h : ¬ mP r t) : eqF r t 4 = 0 := by
  rw [eqF_4]
  by_cases h1 : r.1.toInt = t.1.toInt
  · by_cases h2 : r.2.1.toInt = t.2.1.toInt
    · by_cases h3 : r.2.2.1.toInt = t.2.2.1.toInt
      · by_cases h4 : r.2.2.2.toInt = t.2.2.2.toInt
        · exact absurd ⟨h1, h2, h3, h4⟩ h
        · rw [if_pos h1, if_pos h2, if_pos h3, if_neg h4]
          decide
      · rw [if_pos h1, if_pos h2, if_neg h3]
        split <;> decide
    · rw [if_pos h1, if_neg h2]
      split <;> split <;> decide
  · rw [if_neg h1]
    split <;> split <;> split <;> decide
theorem eqF_b {r t : R4} {v : Int32} (h : v = 1 ∨ v = 0) : narrow .boolean (.int v) = .int v := by rcases h with rfl | rfl <;> rfl
theorem eqF_z {r t : R4} : eqF r t 4 = 1 ∨ eqF r t 4 = 0 := by
  by_cases h : mP r t
  · exact Or.inl (eqF_T h)
  · exact Or.inr (eqF_F h)
theorem nbF {r t : R4} : narrow .boolean (.int (eqF r t 4)) = .int (eqF r t 4) := eqF_b (r := r) (t := t) eqF_z
theorem vpi4j {j : Nat} (h : j < 4) : vp_in (Int32.ofNat j) 4 := by
  have h9 : j < 1000 := by omega
  refine vpi (oN0 h9) (i32_of_lt (b := 4) ?_) (by decide)
  rw [oNt h9]
  show (j : Int) < 4
  omega
set_option maxHeartbeats 4000000 in
theorem flX3_same_4 {p q : Nat} {r t : R4} (hp : rowA w p r) (hq : rowA w q t) (hQ : Q (.inl (some (.int (eqF r t 4)))) w) : ∀ (d j : Nat)  (kz mz : Nat), j + d = 4 → kz ≤ 0 → mz ≤ 0 → WP (MX3_same g) Q (4, [some (.ref p), some (.ref q), some (.int (eqF r t j)), some (.int (Int32.ofNat j))], [], w, kz, mz) := by
  intro d
  induction d with
  | zero =>
    intro j  kz mz hjd hkz hmz
    have h9 : j < 1000 := (by omega)
    have hlt : ¬ Int32.ofNat j < 4 := oNg (B := 4) h9 rfl (by omega)
    have hnn := oN0 h9
    have hcl := oNc h9
    obtain rfl : j = 4 := by omega
    rw [eX3_same_4]
    simp only [eX3_same_5, eX3_same_9, eX3_same_13, eX3_same_16, eX3_same_20, eX3_same_24, eX3_same_25, eX3_same_33, lgz, if_false, hlt, hcl, ite_le, nl_int, nl_ref]
    with_reducible refine And.intro ?_ ?_
    with_reducible exact nbF
    with_reducible refine And.intro ?_ ?_
    with_reducible assumption
    with_reducible refine And.intro ?_ ?_
    with_reducible assumption
    with_reducible assumption
  | succ d ih =>
    intro j  kz mz hjd hkz hmz
    have h9 : j < 1000 := (by omega)
    have hlt : Int32.ofNat j < 4 := oNl (B := 4) h9 rfl (by omega)
    have hjN : j < 4 := by omega
    have hnn := oN0 h9
    have hcl := oNc h9
    rw [eX3_same_4]
    simp only [eX3_same_5, eX3_same_9, eX3_same_13, eX3_same_16, eX3_same_20, eX3_same_24, eX3_same_25, eX3_same_33, lgz, if_true, hlt, hcl, ite_le, nl_int, nl_ref]
    with_reducible refine gl_A hp ?_
    with_reducible refine And.intro ?_ ?_
    with_reducible exact vpi4j (by omega)
    with_reducible refine gl_A hq ?_
    with_reducible refine And.intro ?_ ?_
    with_reducible exact vpi4j (by omega)
    with_reducible refine itx (fun _ => ?_) (fun _ => ?_)
    (rw [oN1, eqF_t (by assumption)]; exact ih (j + 1)  _ _ (by omega) (by first | assumption | omega) (by first | assumption | omega))
    (rw [oN1, eqF_f (by assumption)]; exact ih (j + 1)  _ _ (by omega) (by first | assumption | omega) (by first | assumption | omega))
set_option maxHeartbeats 4000000 in
theorem fX3_same {p q : Nat} {r t : R4} (hp : rowA w p r) (hq : rowA w q t) (hT : mP r t → Q (.inl (some (.int 1))) w) (hF : ¬ mP r t → Q (.inl (some (.int 0))) w) : WP (MX3_same g) Q (0, [some (.ref p), some (.ref q), none, none], [], w, 0, 0) := by
  have hQ : Q (.inl (some (.int (eqF r t 4)))) w := by
    by_cases h : mP r t
    · rw [eqF_T h]
      exact hT h
    · rw [eqF_F h]
      exact hF h
  simp only [eX3_same_0, nl_int, nl_ref]
  ((with_reducible refine isWP (pc := 4) ?_); exact flX3_same_4 hp hq hQ 4 0 _ _ rfl (by decide) (by decide))
set_option maxHeartbeats 4000000 in
theorem fX3_areInOrder {a0 a1 a2 a3 : Int64}  (hT : oP a0 a1 a2 a3 → Q (.inl (some (.int 1))) w) (hF : ¬ (oP a0 a1 a2 a3) → Q (.inl (some (.int 0))) w) : WP (MX3_areInOrder g) Q (0, [some (.long a0), none, some (.long a1), none, some (.long a2), none, some (.long a3), none], [], w, 0, 0) := by
  simp only [eX3_areInOrder_0, eX3_areInOrder_6, eX3_areInOrder_14, eX3_areInOrder_21, eX3_areInOrder_28, eX3_areInOrder_32, eX3_areInOrder_33, lgp, nb_0, nb_1, true_and]
  with_reducible refine itx (fun _ => ?_) (fun _ => ?_)
  with_reducible refine And.intro ?_ ?_
  omega
  with_reducible refine And.intro ?_ ?_
  omega
  with_reducible exact hF (by omega)
  with_reducible refine itx (fun _ => ?_) (fun _ => ?_)
  with_reducible refine And.intro ?_ ?_
  omega
  with_reducible refine And.intro ?_ ?_
  omega
  with_reducible exact hF (by omega)
  with_reducible refine itx (fun _ => ?_) (fun _ => ?_)
  with_reducible refine And.intro ?_ ?_
  omega
  with_reducible refine And.intro ?_ ?_
  omega
  with_reducible exact hF (by omega)
  with_reducible refine itx (fun _ => ?_) (fun _ => ?_)
  with_reducible refine And.intro ?_ ?_
  omega
  with_reducible refine And.intro ?_ ?_
  omega
  with_reducible exact hF (by omega)
  with_reducible refine And.intro ?_ ?_
  omega
  with_reducible refine And.intro ?_ ?_
  omega
  with_reducible exact hT (by omega)
set_option maxHeartbeats 4000000 in
theorem fX3_fixed {p : Nat} {r : R4} (hp : rowA w p r) (hT : fP r → Q (.inl (some (.int 1))) w) (hF : ¬ (fP r) → Q (.inl (some (.int 0))) w) : WP (MX3_fixed g) Q (0, [some (.ref p)], [], w, 0, 0) := by
  simp only [eX3_fixed_0, eX3_fixed_3, eX3_fixed_6, eX3_fixed_10, eX3_fixed_13, eX3_fixed_16, eX3_fixed_20, eX3_fixed_24, eX3_fixed_25, lgz, nb_0, nb_1, true_and]
  with_reducible refine gl_A (by assumption) ?_
  with_reducible refine And.intro ?_ ?_
  with_reducible exact vpi4.1
  with_reducible refine gl_A (by assumption) ?_
  with_reducible refine And.intro ?_ ?_
  with_reducible exact vpi4.2.1
  simp only [rv0, rv1]
  with_reducible refine itx (fun _ => ?_) (fun _ => ?_)
  with_reducible refine gl_A (by assumption) ?_
  with_reducible refine And.intro ?_ ?_
  with_reducible exact vpi4.2.2.1
  with_reducible refine gl_A (by assumption) ?_
  with_reducible refine And.intro ?_ ?_
  with_reducible exact vpi4.2.2.2
  simp only [rv2, rv3]
  with_reducible refine itx (fun _ => ?_) (fun _ => ?_)
  with_reducible refine And.intro ?_ ?_
  omega
  with_reducible refine And.intro ?_ ?_
  omega
  with_reducible exact hT (by omega)
  with_reducible refine And.intro ?_ ?_
  omega
  with_reducible refine And.intro ?_ ?_
  omega
  with_reducible exact hF (by omega)
  with_reducible refine And.intro ?_ ?_
  omega
  with_reducible refine And.intro ?_ ?_
  omega
  with_reducible exact hF (by omega)
set_option maxHeartbeats 4000000 in
theorem fX3_small {p : Nat} {r : R4} (hp : rowA w p r) (hT : sP r → Q (.inl (some (.int 1))) w) (hF : ¬ (sP r) → Q (.inl (some (.int 0))) w) : WP (MX3_small g) Q (0, [some (.ref p)], [], w, 0, 0) := by
  simp only [eX3_small_0, eX3_small_3, eX3_small_10, eX3_small_13, eX3_small_20, eX3_small_24, eX3_small_25, lgp, lgn, lmi, lmx, nb_0, nb_1, true_and]
  with_reducible refine gl_A (by assumption) ?_
  with_reducible refine And.intro ?_ ?_
  with_reducible exact vpi4.1
  simp only [rv0]
  with_reducible refine itx (fun _ => ?_) (fun _ => ?_)
  with_reducible refine And.intro ?_ ?_
  omega
  with_reducible refine And.intro ?_ ?_
  omega
  with_reducible exact hF (by omega)
  with_reducible refine gl_A (by assumption) ?_
  with_reducible refine And.intro ?_ ?_
  with_reducible exact vpi4.2.2.2
  simp only [rv3]
  with_reducible refine itx (fun _ => ?_) (fun _ => ?_)
  with_reducible refine And.intro ?_ ?_
  omega
  with_reducible refine And.intro ?_ ?_
  omega
  with_reducible exact hF (by omega)
  with_reducible refine And.intro ?_ ?_
  omega
  with_reducible refine And.intro ?_ ?_
  omega
  with_reducible exact hT (by omega)
set_option maxHeartbeats 4000000 in
theorem fX3_valid {p : Nat} {r : R4} {a : Int64} {b : Int32} (hp : rowA w p r) (hT : ((b = 0 ∨ sP r) ∧ hP r a) → Q (.inl (some (.int 1))) w) (hF : ¬ ((b = 0 ∨ sP r) ∧ hP r a) → Q (.inl (some (.int 0))) w) : WP (MX3_valid g) Q (0, [some (.ref p), some (.long a), none, some (.int b)], [], w, 0, 0) := by
  simp only [eX3_valid_0, eX3_valid_4, eX3_valid_8, eX3_valid_12, eX3_valid_16, eX3_valid_20, eX3_valid_27, eX3_valid_31, eX3_valid_32, lgp, lgn, wt_nil, nb_0, nb_1, true_and, Nat.add_zero]
  with_reducible refine gl_A (by assumption) ?_
  with_reducible refine And.intro ?_ ?_
  with_reducible exact vpi4.1
  simp only [rv0]
  with_reducible refine itx (fun _ => ?_) (fun _ => ?_)
  with_reducible refine And.intro ?_ ?_
  omega
  with_reducible refine And.intro ?_ ?_
  omega
  with_reducible exact hF (fun h => absurd h.2 (by omega))
  with_reducible refine gl_A (by assumption) ?_
  with_reducible refine And.intro ?_ ?_
  with_reducible exact vpi4.2.2.2
  simp only [rv3]
  with_reducible refine itx (fun _ => ?_) (fun _ => ?_)
  with_reducible refine And.intro ?_ ?_
  omega
  with_reducible refine And.intro ?_ ?_
  omega
  with_reducible exact hF (fun h => absurd h.2 (by omega))
  with_reducible refine itx (fun _ => ?_) (fun _ => ?_)
  with_reducible refine And.intro ?_ ?_
  omega
  with_reducible refine And.intro ?_ ?_
  omega
  with_reducible exact hT ⟨Or.inl (by assumption), by omega⟩
  with_reducible refine And.intro ?_ ?_
  omega
  with_reducible refine And.intro ?_ ?_
  omega
  with_reducible refine And.intro ?_ ?_
  omega
  with_reducible refine fX3_small hp (fun _ => ?_) (fun _ => ?_)
  simp only [eX3_valid_24, eX3_valid_27, eX3_valid_31, eX3_valid_32, i10, if_false, kx_l, tl_s, nb_0, nb_1, true_and]
  with_reducible refine And.intro ?_ ?_
  omega
  with_reducible refine And.intro ?_ ?_
  omega
  with_reducible exact hT ⟨Or.inr (by assumption), by omega⟩
  simp only [eX3_valid_24, eX3_valid_27, eX3_valid_31, eX3_valid_32, if_true, kx_l, tl_s, nb_0, nb_1, true_and]
  with_reducible refine And.intro ?_ ?_
  omega
  with_reducible refine And.intro ?_ ?_
  omega
  with_reducible exact hF (fun h => h.1.elim (fun e => absurd e (by assumption)) (fun e => absurd e (by assumption)))
set_option maxHeartbeats 4000000 in
theorem fX3_isBare {a : Int32} (hM : MS g w0 y nM kd th s w) (k : okC a) (h1 : s.2.1 a.toNatClampNeg = none → Q (.inl (some (.int 1))) w) (h0 : ∀ r, s.2.1 a.toNatClampNeg = some r → Q (.inl (some (.int 0))) w) : WP (MX3_isBare g) Q (0, [some (.ref y), some (.int a)], [], w, 0, 0) := by
  simp only [eX3_isBare_0, eX3_isBare_1, eX3_isBare_4]
  with_reducible refine go_S (by assumption) (fun _ _ hY => ?_)
  simp only [eX3_isBare_5, wt_nil, g0, gS, ex1, Nat.add_zero]
  with_reducible refine And.intro ?_ ?_
  with_reducible exact MS.gC (by assumption) (by assumption)
  with_reducible refine And.intro ?_ ?_
  omega
  with_reducible refine And.intro ?_ ?_
  omega
  with_reducible refine And.intro ?_ ?_
  omega
  with_reducible refine sGetF (by assumption) (by assumption) k (fun _ => ?_) (fun _ _ _ hb => ?_)
  simp only [eX3_isBare_8N, eX3_isBare_11, eX3_isBare_16, kx_l, tl_s, nb_1, true_and]
  with_reducible refine And.intro ?_ ?_
  omega
  with_reducible refine And.intro ?_ ?_
  omega
  with_reducible exact h1 (by assumption)
  simp only [eX3_isBare_8R, eX3_isBare_15, eX3_isBare_16, kx_l, tl_s, nb_0, true_and]
  with_reducible refine And.intro ?_ ?_
  omega
  with_reducible refine And.intro ?_ ?_
  omega
  with_reducible exact h0 _ (by assumption)
set_option maxHeartbeats 4000000 in
theorem fX3_make {a : Int32} {p q r t : Int64} (hM : MS g w0 y nM kd th s w) (k : okC a) (hT : oP p q r t → ∀ w', MS g w0 y nM kd th (sMk s a.toNatClampNeg (p, q, r, t)) w' → Q (.inl (some (.int 1))) w') (hF : ¬ oP p q r t → ∀ w', MS g w0 y nM kd th (sRf s) w' → Q (.inl (some (.int (-9)))) w') : WP (MX3_make g) Q (0, [some (.ref y), some (.int a), some (.long p), none, some (.long q), none, some (.long r), none, some (.long t), none], [], w, 0, 0) := by
  simp only [eX3_make_0, wt_nil, Nat.add_zero]
  with_reducible refine And.intro ?_ ?_
  omega
  with_reducible refine And.intro ?_ ?_
  omega
  with_reducible refine And.intro ?_ ?_
  omega
  with_reducible refine fX3_areInOrder (fun hyes => ?_) (fun hno => ?_)
  simp only [eX3_make_10, eX3_make_13, eX3_make_18, eX3_make_22, eX3_make_26R, eX3_make_30R, eX3_make_35R, eX3_make_40R, i10, if_false, n4e, upw2q, kx_l, gl_s, wt_nil, tl_s, upw_s, Nat.zero_add, Nat.add_zero]
  with_reducible refine go_S hM (fun _ _ hY => ?_)
  simp only [eX3_make_45R, wt_nil, g0, gS, ex1, Nat.add_zero]
  with_reducible refine And.intro ?_ ?_
  with_reducible exact n4a
  with_reducible refine And.intro ?_ ?_
  omega
  with_reducible refine And.intro ?_ ?_
  omega
  with_reducible refine And.intro ?_ ?_
  omega
  with_reducible intro _
  with_reducible intro _
  with_reducible refine And.intro ?_ ?_
  with_reducible exact vpi4.1
  with_reducible refine And.intro ?_ ?_
  with_reducible exact vpi4.2.1
  with_reducible refine And.intro ?_ ?_
  with_reducible exact vpi4.2.2.1
  with_reducible refine And.intro ?_ ?_
  with_reducible exact vpi4.2.2.2
  with_reducible refine And.intro ?_ ?_
  with_reducible exact MS.gC (MS.fr hM (by assumption)) (isY.fr hY (by assumption))
  with_reducible refine And.intro ?_ ?_
  omega
  with_reducible refine And.intro ?_ ?_
  omega
  with_reducible refine And.intro ?_ ?_
  omega
  (with_reducible refine sSetFR (MS.fr hM (by assumption)) (isY.fr hY (by assumption)) rowA_nw k (fun w1 h1 => ?_) (fun _ w1 h1 => ?_))
  simp only [eX3_make_48N, eX3_make_49, eX3_make_54, kx_l, tl_s]
  with_reducible refine go_S h1 (fun _ _ hY1 => ?_)
  simp only [eX3_make_55, eX3_make_59, g0, gS, ex1, nf_i, true_and]
  with_reducible refine go_Sw h1 (fun _ _ _ hw => ?_)
  with_reducible refine And.intro ?_ ?_
  simp only [List.length_cons, List.length_nil, Nat.zero_add]
  omega
  with_reducible refine And.intro ?_ ?_
  omega
  with_reducible refine And.intro ?_ ?_
  omega
  ((with_reducible refine isQ (Q := Q) ?_); exact hT hyes _ (hw _ _ _ _))
  simp only [eX3_make_48R, eX3_make_49, eX3_make_54, kx_l, tl_s]
  with_reducible refine go_S h1 (fun _ _ hY1 => ?_)
  simp only [eX3_make_55, eX3_make_59, g0, gS, ex1, nf_i, true_and]
  with_reducible refine go_Sw h1 (fun _ _ _ hw => ?_)
  with_reducible refine And.intro ?_ ?_
  simp only [List.length_cons, List.length_nil, Nat.zero_add]
  omega
  with_reducible refine And.intro ?_ ?_
  omega
  with_reducible refine And.intro ?_ ?_
  omega
  ((with_reducible refine isQ (Q := Q) ?_); exact hT hyes _ (hw _ _ _ _))
  simp only [eX3_make_10, eX3_make_13, eX3_make_18, eX3_make_22, eX3_make_26R, eX3_make_30R, eX3_make_35R, eX3_make_40R, if_true, n4e, upw2q, kx_l, gl_s, wt_nil, tl_s, upw_s, Nat.zero_add, Nat.add_zero]
  with_reducible refine And.intro ?_ ?_
  with_reducible refine go_S hM (fun _ _ hY => ?_)
  with_reducible exact trivial
  with_reducible refine And.intro ?_ ?_
  omega
  with_reducible refine And.intro ?_ ?_
  omega
  with_reducible refine And.intro ?_ ?_
  omega
  with_reducible refine fX3_no hM (fun w1 h1 => ?_)
  simp only [eX3_make_17, kx_l, tl_s]
  with_reducible refine And.intro ?_ ?_
  omega
  with_reducible refine And.intro ?_ ?_
  omega
  with_reducible exact hF hno _ h1
theorem fX3_makeR {a : Int32} {p q r t : Int64} (hM : MS g w0 y nM kd th s w) (k : okC a) (hT : oP p q r t → ∀ w', MS g w0 y nM kd th (sMk s a.toNatClampNeg (p, q, r, t)) w' → MS g w y nM kd th (sMk s a.toNatClampNeg (p, q, r, t)) w' → Q (.inl (some (.int 1))) w') (hF : ¬ oP p q r t → ∀ w', MS g w0 y nM kd th (sRf s) w' → Q (.inl (some (.int (-9)))) w') : WP (MX3_make g) Q (0, [some (.ref y), some (.int a), some (.long p), none, some (.long q), none, some (.long r), none, some (.long t), none], [], w, 0, 0) := fX3_make hM.st k (fun e w' h => hT e w' (hM.cat h) h) (fun e w' h => hF e w' (hM.cat h))
set_option maxHeartbeats 4000000 in
theorem fX3_isNoPair {a c : Int32} (hM : MS g w0 y nM kd th s w) (hX : ¬ (okC a ∧ okC c) → ∀ w', MS g w0 y nM kd 1 s w' → Q (.inl (some (.int 1))) w') (hS : okC a → okC c → s.2.1 c.toNatClampNeg = none → ∀ w', MS g w0 y nM kd 2 s w' → Q (.inl (some (.int 1))) w') (hQ : okC a → okC c → ∀ r, s.2.1 c.toNatClampNeg = some r → ∀ w', MS g w0 y nM kd 0 s w' → Q (.inl (some (.int 0))) w') : WP (MX3_isNoPair g) Q (0, [some (.ref y), some (.int a), some (.int c)], [], w, 0, 0) := by
  simp only [eX3_isNoPair_0, wt_nil, wt_ref, Nat.add_zero]
  with_reducible refine And.intro ?_ ?_
  omega
  with_reducible refine And.intro ?_ ?_
  omega
  with_reducible refine And.intro ?_ ?_
  omega
  with_reducible refine fX3_isNoCard (fun _ => ?_) (fun _ => ?_)
  simp only [eX3_isNoPair_5, eX3_isNoPair_8, eX3_isNoPair_15, eX3_isNoPair_20, i10, if_false, kx_l, wt_nil, wt_ref, tl_s, Nat.add_zero]
  with_reducible refine And.intro ?_ ?_
  with_reducible refine go_S (by assumption) (fun _ _ hY => ?_)
  with_reducible exact trivial
  with_reducible refine And.intro ?_ ?_
  omega
  with_reducible refine And.intro ?_ ?_
  omega
  with_reducible refine And.intro ?_ ?_
  omega
  with_reducible refine fX3_start (by assumption) (by decide) (fun _ w1 h1 => ?_) (fun _ w1 h1 => ?_)
  with_reducible exact absurd (by assumption) n10'
  simp only [eX3_isNoPair_24, eX3_isNoPair_27, eX3_isNoPair_33, eX3_isNoPair_40, eX3_isNoPair_45, i10, if_false, kx_l, wt_nil, wt_ref, tl_s, nb_1, true_and, Nat.add_zero]
  with_reducible refine And.intro ?_ ?_
  omega
  with_reducible refine And.intro ?_ ?_
  omega
  with_reducible exact hX (fun h => absurd h.1 (by assumption)) _ (by assumption)
  simp only [eX3_isNoPair_5, eX3_isNoPair_8, eX3_isNoPair_15, eX3_isNoPair_20, if_true, kx_l, wt_nil, wt_ref, tl_s, Nat.add_zero]
  with_reducible refine And.intro ?_ ?_
  omega
  with_reducible refine And.intro ?_ ?_
  omega
  with_reducible refine And.intro ?_ ?_
  omega
  with_reducible refine fX3_isNoCard (fun _ => ?_) (fun _ => ?_)
  simp only [eX3_isNoPair_12, eX3_isNoPair_15, eX3_isNoPair_19, eX3_isNoPair_20, i10, if_false, kx_l, wt_nil, tl_s, Nat.add_zero]
  with_reducible refine And.intro ?_ ?_
  with_reducible refine go_S (by assumption) (fun _ _ hY => ?_)
  with_reducible exact trivial
  with_reducible refine And.intro ?_ ?_
  omega
  with_reducible refine And.intro ?_ ?_
  omega
  with_reducible refine And.intro ?_ ?_
  omega
  with_reducible refine fX3_start (by assumption) (by decide) (fun _ w1 h1 => ?_) (fun _ w1 h1 => ?_)
  with_reducible exact absurd (by assumption) n10'
  simp only [eX3_isNoPair_24, eX3_isNoPair_27, eX3_isNoPair_33, eX3_isNoPair_40, eX3_isNoPair_45, i10, if_false, kx_l, wt_nil, wt_ref, tl_s, nb_1, true_and, Nat.add_zero]
  with_reducible refine And.intro ?_ ?_
  omega
  with_reducible refine And.intro ?_ ?_
  omega
  with_reducible exact hX (fun h => absurd h.2 (by assumption)) _ (by assumption)
  simp only [eX3_isNoPair_12, eX3_isNoPair_15, eX3_isNoPair_19, eX3_isNoPair_20, if_true, kx_l, wt_nil, tl_s, Nat.add_zero]
  with_reducible refine And.intro ?_ ?_
  with_reducible refine go_S (by assumption) (fun _ _ hY => ?_)
  with_reducible exact trivial
  with_reducible refine And.intro ?_ ?_
  omega
  with_reducible refine And.intro ?_ ?_
  omega
  with_reducible refine And.intro ?_ ?_
  omega
  with_reducible refine fX3_start (by assumption) (by decide) (fun _ w1 h1 => ?_) (fun _ w1 h1 => ?_)
  simp only [eX3_isNoPair_24, eX3_isNoPair_27, eX3_isNoPair_33, eX3_isNoPair_40, eX3_isNoPair_45, if_true, kx_l, wt_nil, wt_ref, tl_s, nb_1, true_and, Nat.add_zero]
  with_reducible refine And.intro ?_ ?_
  with_reducible refine go_S (by assumption) (fun _ _ hY => ?_)
  with_reducible exact trivial
  with_reducible refine And.intro ?_ ?_
  omega
  with_reducible refine And.intro ?_ ?_
  omega
  with_reducible refine And.intro ?_ ?_
  omega
  with_reducible refine fX3_isBare (by assumption) (by assumption) (fun _ => ?_) (fun _ _ => ?_)
  simp only [eX3_isNoPair_34, kx_l, wt_nil, tl_s, Nat.add_zero]
  with_reducible refine And.intro ?_ ?_
  with_reducible refine go_S (by assumption) (fun _ _ hY => ?_)
  with_reducible exact trivial
  with_reducible refine And.intro ?_ ?_
  omega
  with_reducible refine And.intro ?_ ?_
  omega
  with_reducible refine And.intro ?_ ?_
  omega
  with_reducible refine fX3_refuse (by assumption) (by decide) (fun _ => ?_) (fun _ w2 h2 => ?_)
  with_reducible exact absurd (by assumption) n10'
  simp only [eX3_isNoPair_37, eX3_isNoPair_40, eX3_isNoPair_44, eX3_isNoPair_45, i10, if_false, kx_l, tl_s, nb_0, nb_1, true_and]
  with_reducible refine And.intro ?_ ?_
  omega
  with_reducible refine And.intro ?_ ?_
  omega
  with_reducible exact hS (by assumption) (by assumption) (by assumption) _ (by assumption)
  simp only [eX3_isNoPair_34, kx_l, wt_nil, tl_s, Nat.add_zero]
  with_reducible refine And.intro ?_ ?_
  with_reducible refine go_S (by assumption) (fun _ _ hY => ?_)
  with_reducible exact trivial
  with_reducible refine And.intro ?_ ?_
  omega
  with_reducible refine And.intro ?_ ?_
  omega
  with_reducible refine And.intro ?_ ?_
  omega
  with_reducible refine fX3_refuse (by assumption) (by decide) (fun _ => ?_) (fun _ w2 h2 => ?_)
  simp only [eX3_isNoPair_37, eX3_isNoPair_40, eX3_isNoPair_44, eX3_isNoPair_45, if_true, kx_l, tl_s, nb_0, nb_1, true_and]
  with_reducible refine And.intro ?_ ?_
  omega
  with_reducible refine And.intro ?_ ?_
  omega
  with_reducible exact hQ (by assumption) (by assumption) _ (by assumption) _ (by assumption)
  with_reducible exact n00x (by assumption)
  with_reducible exact n00x (by assumption)
set_option maxHeartbeats 4000000 in
theorem fX3_isNone {a : Int32} (hM : MS g w0 y nM kd th s w) (hX : ¬ (okC a) → ∀ w', MS g w0 y nM kd 1 s w' → Q (.inl (some (.int 1))) w') (hS : okC a → s.2.1 a.toNatClampNeg = none → ∀ w', MS g w0 y nM kd 2 s w' → Q (.inl (some (.int 1))) w') (hQ : okC a → ∀ r, s.2.1 a.toNatClampNeg = some r → ∀ w', MS g w0 y nM kd 0 s w' → Q (.inl (some (.int 0))) w') : WP (MX3_isNone g) Q (0, [some (.ref y), some (.int a)], [], w, 0, 0) := by
  simp only [eX3_isNone_0, eX3_isNone_5, wt_nil, wt_ref, Nat.add_zero]
  with_reducible refine And.intro ?_ ?_
  omega
  with_reducible refine And.intro ?_ ?_
  omega
  with_reducible refine And.intro ?_ ?_
  omega
  with_reducible refine fX3_isNoCard (fun _ => ?_) (fun _ => ?_)
  simp only [eX3_isNone_6, kx_l, wt_nil, tl_s, Nat.add_zero]
  with_reducible refine And.intro ?_ ?_
  with_reducible refine go_S (by assumption) (fun _ _ hY => ?_)
  with_reducible exact trivial
  with_reducible refine And.intro ?_ ?_
  omega
  with_reducible refine And.intro ?_ ?_
  omega
  with_reducible refine And.intro ?_ ?_
  omega
  with_reducible refine fX3_start (by assumption) (by decide) (fun _ w1 h1 => ?_) (fun _ w1 h1 => ?_)
  with_reducible exact absurd (by assumption) n10'
  simp only [eX3_isNone_9, eX3_isNone_12, eX3_isNone_18, eX3_isNone_25, eX3_isNone_30, i10, if_false, kx_l, wt_nil, wt_ref, tl_s, nb_1, true_and, Nat.add_zero]
  with_reducible refine And.intro ?_ ?_
  omega
  with_reducible refine And.intro ?_ ?_
  omega
  with_reducible exact hX (fun h => absurd h (by assumption)) _ (by assumption)
  simp only [eX3_isNone_6, kx_l, wt_nil, tl_s, Nat.add_zero]
  with_reducible refine And.intro ?_ ?_
  with_reducible refine go_S (by assumption) (fun _ _ hY => ?_)
  with_reducible exact trivial
  with_reducible refine And.intro ?_ ?_
  omega
  with_reducible refine And.intro ?_ ?_
  omega
  with_reducible refine And.intro ?_ ?_
  omega
  with_reducible refine fX3_start (by assumption) (by decide) (fun _ w1 h1 => ?_) (fun _ w1 h1 => ?_)
  simp only [eX3_isNone_9, eX3_isNone_12, eX3_isNone_18, eX3_isNone_25, eX3_isNone_30, if_true, kx_l, wt_nil, wt_ref, tl_s, nb_1, true_and, Nat.add_zero]
  with_reducible refine And.intro ?_ ?_
  with_reducible refine go_S (by assumption) (fun _ _ hY => ?_)
  with_reducible exact trivial
  with_reducible refine And.intro ?_ ?_
  omega
  with_reducible refine And.intro ?_ ?_
  omega
  with_reducible refine And.intro ?_ ?_
  omega
  with_reducible refine fX3_isBare (by assumption) (by assumption) (fun _ => ?_) (fun _ _ => ?_)
  simp only [eX3_isNone_19, kx_l, wt_nil, tl_s, Nat.add_zero]
  with_reducible refine And.intro ?_ ?_
  with_reducible refine go_S (by assumption) (fun _ _ hY => ?_)
  with_reducible exact trivial
  with_reducible refine And.intro ?_ ?_
  omega
  with_reducible refine And.intro ?_ ?_
  omega
  with_reducible refine And.intro ?_ ?_
  omega
  with_reducible refine fX3_refuse (by assumption) (by decide) (fun _ => ?_) (fun _ w2 h2 => ?_)
  with_reducible exact absurd (by assumption) n10'
  simp only [eX3_isNone_22, eX3_isNone_25, eX3_isNone_29, eX3_isNone_30, i10, if_false, kx_l, tl_s, nb_0, nb_1, true_and]
  with_reducible refine And.intro ?_ ?_
  omega
  with_reducible refine And.intro ?_ ?_
  omega
  with_reducible exact hS (by assumption) (by assumption) _ (by assumption)
  simp only [eX3_isNone_19, kx_l, wt_nil, tl_s, Nat.add_zero]
  with_reducible refine And.intro ?_ ?_
  with_reducible refine go_S (by assumption) (fun _ _ hY => ?_)
  with_reducible exact trivial
  with_reducible refine And.intro ?_ ?_
  omega
  with_reducible refine And.intro ?_ ?_
  omega
  with_reducible refine And.intro ?_ ?_
  omega
  with_reducible refine fX3_refuse (by assumption) (by decide) (fun _ => ?_) (fun _ w2 h2 => ?_)
  simp only [eX3_isNone_22, eX3_isNone_25, eX3_isNone_29, eX3_isNone_30, if_true, kx_l, tl_s, nb_0, nb_1, true_and]
  with_reducible refine And.intro ?_ ?_
  omega
  with_reducible refine And.intro ?_ ?_
  omega
  with_reducible exact hQ (by assumption) _ (by assumption) _ (by assumption)
  with_reducible exact n00x (by assumption)
  with_reducible exact n00x (by assumption)
set_option maxHeartbeats 4000000 in
theorem fX3_isNoEnd_ {a c : Int32} (hM : MS g w0 y nM kd th s w) (hX : ¬ (okC a) → ∀ w', MS g w0 y nM kd 1 s w' → Q (.inl (some (.int 1))) w') (hW : okC a → ¬ okW c 3 → ∀ w', MS g w0 y nM kd 2 s w' → Q (.inl (some (.int 1))) w') (hS : okC a → okW c 3 → s.2.1 a.toNatClampNeg = none → ∀ w', MS g w0 y nM kd 3 s w' → Q (.inl (some (.int 1))) w') (hQ : okC a → okW c 3 → ∀ r, s.2.1 a.toNatClampNeg = some r → ∀ w', MS g w0 y nM kd 0 s w' → Q (.inl (some (.int 0))) w') : WP (MX3_isNoEnd_ g) Q (0, [some (.ref y), some (.int a), some (.int c)], [], w, 0, 0) := by
  simp only [eX3_isNoEnd__0, eX3_isNoEnd__5, wt_nil, wt_ref, Nat.add_zero]
  with_reducible refine And.intro ?_ ?_
  omega
  with_reducible refine And.intro ?_ ?_
  omega
  with_reducible refine And.intro ?_ ?_
  omega
  with_reducible refine fX3_isNoCard (fun _ => ?_) (fun _ => ?_)
  simp only [eX3_isNoEnd__6, kx_l, wt_nil, tl_s, Nat.add_zero]
  with_reducible refine And.intro ?_ ?_
  with_reducible refine go_S (by assumption) (fun _ _ hY => ?_)
  with_reducible exact trivial
  with_reducible refine And.intro ?_ ?_
  omega
  with_reducible refine And.intro ?_ ?_
  omega
  with_reducible refine And.intro ?_ ?_
  omega
  with_reducible refine fX3_start (by assumption) (by decide) (fun _ w1 h1 => ?_) (fun _ w1 h1 => ?_)
  with_reducible exact absurd (by assumption) n10'
  simp only [eX3_isNoEnd__9, eX3_isNoEnd__12, eX3_isNoEnd__17, eX3_isNoEnd__37, eX3_isNoEnd__42, i10, if_false, kx_l, wt_nil, wt_ref, tl_s, nb_1, true_and, Nat.add_zero]
  with_reducible refine And.intro ?_ ?_
  omega
  with_reducible refine And.intro ?_ ?_
  omega
  with_reducible exact hX (fun h => absurd h (by assumption)) _ (by assumption)
  simp only [eX3_isNoEnd__6, kx_l, wt_nil, tl_s, Nat.add_zero]
  with_reducible refine And.intro ?_ ?_
  with_reducible refine go_S (by assumption) (fun _ _ hY => ?_)
  with_reducible exact trivial
  with_reducible refine And.intro ?_ ?_
  omega
  with_reducible refine And.intro ?_ ?_
  omega
  with_reducible refine And.intro ?_ ?_
  omega
  with_reducible refine fX3_start (by assumption) (by decide) (fun _ w1 h1 => ?_) (fun _ w1 h1 => ?_)
  simp only [eX3_isNoEnd__9, eX3_isNoEnd__12, eX3_isNoEnd__17, eX3_isNoEnd__37, eX3_isNoEnd__42, if_true, kx_l, wt_nil, wt_ref, tl_s, nb_1, true_and, Nat.add_zero]
  with_reducible refine And.intro ?_ ?_
  omega
  with_reducible refine And.intro ?_ ?_
  omega
  with_reducible refine And.intro ?_ ?_
  omega
  with_reducible refine fX3_isNoEnd (fun _ => ?_) (fun _ => ?_)
  simp only [eX3_isNoEnd__18, kx_l, wt_nil, tl_s, Nat.add_zero]
  with_reducible refine And.intro ?_ ?_
  with_reducible refine go_S (by assumption) (fun _ _ hY => ?_)
  with_reducible exact trivial
  with_reducible refine And.intro ?_ ?_
  omega
  with_reducible refine And.intro ?_ ?_
  omega
  with_reducible refine And.intro ?_ ?_
  omega
  with_reducible refine fX3_refuse (by assumption) (by decide) (fun _ => ?_) (fun _ w2 h2 => ?_)
  with_reducible exact absurd (by assumption) n10'
  simp only [eX3_isNoEnd__21, eX3_isNoEnd__24, eX3_isNoEnd__30, eX3_isNoEnd__37, eX3_isNoEnd__42, i10, if_false, kx_l, wt_nil, wt_ref, tl_s, nb_1, true_and, Nat.add_zero]
  with_reducible refine And.intro ?_ ?_
  omega
  with_reducible refine And.intro ?_ ?_
  omega
  with_reducible exact hW (by assumption) (by assumption) _ (by assumption)
  simp only [eX3_isNoEnd__18, kx_l, wt_nil, tl_s, Nat.add_zero]
  with_reducible refine And.intro ?_ ?_
  with_reducible refine go_S (by assumption) (fun _ _ hY => ?_)
  with_reducible exact trivial
  with_reducible refine And.intro ?_ ?_
  omega
  with_reducible refine And.intro ?_ ?_
  omega
  with_reducible refine And.intro ?_ ?_
  omega
  with_reducible refine fX3_refuse (by assumption) (by decide) (fun _ => ?_) (fun _ w2 h2 => ?_)
  simp only [eX3_isNoEnd__21, eX3_isNoEnd__24, eX3_isNoEnd__30, eX3_isNoEnd__37, eX3_isNoEnd__42, if_true, kx_l, wt_nil, wt_ref, tl_s, nb_1, true_and, Nat.add_zero]
  with_reducible refine And.intro ?_ ?_
  with_reducible refine go_S (by assumption) (fun _ _ hY => ?_)
  with_reducible exact trivial
  with_reducible refine And.intro ?_ ?_
  omega
  with_reducible refine And.intro ?_ ?_
  omega
  with_reducible refine And.intro ?_ ?_
  omega
  with_reducible refine fX3_isBare (by assumption) (by assumption) (fun _ => ?_) (fun _ _ => ?_)
  simp only [eX3_isNoEnd__31, kx_l, wt_nil, tl_s, Nat.add_zero]
  with_reducible refine And.intro ?_ ?_
  with_reducible refine go_S (by assumption) (fun _ _ hY => ?_)
  with_reducible exact trivial
  with_reducible refine And.intro ?_ ?_
  omega
  with_reducible refine And.intro ?_ ?_
  omega
  with_reducible refine And.intro ?_ ?_
  omega
  with_reducible refine fX3_refuse (by assumption) (by decide) (fun _ => ?_) (fun _ w2 h2 => ?_)
  with_reducible exact absurd (by assumption) n10'
  simp only [eX3_isNoEnd__34, eX3_isNoEnd__37, eX3_isNoEnd__41, eX3_isNoEnd__42, i10, if_false, kx_l, tl_s, nb_0, nb_1, true_and]
  with_reducible refine And.intro ?_ ?_
  omega
  with_reducible refine And.intro ?_ ?_
  omega
  with_reducible exact hS (by assumption) (by assumption) (by assumption) _ (by assumption)
  simp only [eX3_isNoEnd__31, kx_l, wt_nil, tl_s, Nat.add_zero]
  with_reducible refine And.intro ?_ ?_
  with_reducible refine go_S (by assumption) (fun _ _ hY => ?_)
  with_reducible exact trivial
  with_reducible refine And.intro ?_ ?_
  omega
  with_reducible refine And.intro ?_ ?_
  omega
  with_reducible refine And.intro ?_ ?_
  omega
  with_reducible refine fX3_refuse (by assumption) (by decide) (fun _ => ?_) (fun _ w2 h2 => ?_)
  simp only [eX3_isNoEnd__34, eX3_isNoEnd__37, eX3_isNoEnd__41, eX3_isNoEnd__42, if_true, kx_l, tl_s, nb_0, nb_1, true_and]
  with_reducible refine And.intro ?_ ?_
  omega
  with_reducible refine And.intro ?_ ?_
  omega
  with_reducible exact hQ (by assumption) (by assumption) _ (by assumption) _ (by assumption)
  with_reducible exact n00x (by assumption)
  with_reducible exact n00x (by assumption)
  with_reducible exact n00x (by assumption)
set_option maxHeartbeats 4000000 in
theorem fX3_isNoAsked {a c : Int32} (hM : MS g w0 y nM kd th s w) (hX : ¬ (okC a ∧ okN c) → ∀ w', MS g w0 y nM kd 1 s w' → Q (.inl (some (.int 1))) w') (hS : okC a → okN c → s.2.1 a.toNatClampNeg = none → ∀ w', MS g w0 y nM kd 2 s w' → Q (.inl (some (.int 1))) w') (hQ : okC a → okN c → ∀ r, s.2.1 a.toNatClampNeg = some r → ∀ w', MS g w0 y nM kd 0 s w' → Q (.inl (some (.int 0))) w') : WP (MX3_isNoAsked g) Q (0, [some (.ref y), some (.int a), some (.int c)], [], w, 0, 0) := by
  simp only [eX3_isNoAsked_0, wt_nil, wt_ref, Nat.add_zero]
  with_reducible refine And.intro ?_ ?_
  omega
  with_reducible refine And.intro ?_ ?_
  omega
  with_reducible refine And.intro ?_ ?_
  omega
  with_reducible refine fX3_isNoCard (fun _ => ?_) (fun _ => ?_)
  simp only [eX3_isNoAsked_5, eX3_isNoAsked_8, eX3_isNoAsked_15, eX3_isNoAsked_20, i10, if_false, kx_l, wt_nil, wt_ref, tl_s, Nat.add_zero]
  with_reducible refine And.intro ?_ ?_
  with_reducible refine go_S (by assumption) (fun _ _ hY => ?_)
  with_reducible exact trivial
  with_reducible refine And.intro ?_ ?_
  omega
  with_reducible refine And.intro ?_ ?_
  omega
  with_reducible refine And.intro ?_ ?_
  omega
  with_reducible refine fX3_start (by assumption) (by decide) (fun _ w1 h1 => ?_) (fun _ w1 h1 => ?_)
  with_reducible exact absurd (by assumption) n10'
  simp only [eX3_isNoAsked_24, eX3_isNoAsked_27, eX3_isNoAsked_33, eX3_isNoAsked_40, eX3_isNoAsked_45, i10, if_false, kx_l, wt_nil, wt_ref, tl_s, nb_1, true_and, Nat.add_zero]
  with_reducible refine And.intro ?_ ?_
  omega
  with_reducible refine And.intro ?_ ?_
  omega
  with_reducible exact hX (fun h => absurd h.1 (by assumption)) _ (by assumption)
  simp only [eX3_isNoAsked_5, eX3_isNoAsked_8, eX3_isNoAsked_15, eX3_isNoAsked_20, if_true, kx_l, wt_nil, wt_ref, tl_s, Nat.add_zero]
  with_reducible refine And.intro ?_ ?_
  omega
  with_reducible refine And.intro ?_ ?_
  omega
  with_reducible refine And.intro ?_ ?_
  omega
  with_reducible refine fX3_isNoNumber (fun _ => ?_) (fun _ => ?_)
  simp only [eX3_isNoAsked_12, eX3_isNoAsked_15, eX3_isNoAsked_19, eX3_isNoAsked_20, i10, if_false, kx_l, wt_nil, tl_s, Nat.add_zero]
  with_reducible refine And.intro ?_ ?_
  with_reducible refine go_S (by assumption) (fun _ _ hY => ?_)
  with_reducible exact trivial
  with_reducible refine And.intro ?_ ?_
  omega
  with_reducible refine And.intro ?_ ?_
  omega
  with_reducible refine And.intro ?_ ?_
  omega
  with_reducible refine fX3_start (by assumption) (by decide) (fun _ w1 h1 => ?_) (fun _ w1 h1 => ?_)
  with_reducible exact absurd (by assumption) n10'
  simp only [eX3_isNoAsked_24, eX3_isNoAsked_27, eX3_isNoAsked_33, eX3_isNoAsked_40, eX3_isNoAsked_45, i10, if_false, kx_l, wt_nil, wt_ref, tl_s, nb_1, true_and, Nat.add_zero]
  with_reducible refine And.intro ?_ ?_
  omega
  with_reducible refine And.intro ?_ ?_
  omega
  with_reducible exact hX (fun h => absurd h.2 (by assumption)) _ (by assumption)
  simp only [eX3_isNoAsked_12, eX3_isNoAsked_15, eX3_isNoAsked_19, eX3_isNoAsked_20, if_true, kx_l, wt_nil, tl_s, Nat.add_zero]
  with_reducible refine And.intro ?_ ?_
  with_reducible refine go_S (by assumption) (fun _ _ hY => ?_)
  with_reducible exact trivial
  with_reducible refine And.intro ?_ ?_
  omega
  with_reducible refine And.intro ?_ ?_
  omega
  with_reducible refine And.intro ?_ ?_
  omega
  with_reducible refine fX3_start (by assumption) (by decide) (fun _ w1 h1 => ?_) (fun _ w1 h1 => ?_)
  simp only [eX3_isNoAsked_24, eX3_isNoAsked_27, eX3_isNoAsked_33, eX3_isNoAsked_40, eX3_isNoAsked_45, if_true, kx_l, wt_nil, wt_ref, tl_s, nb_1, true_and, Nat.add_zero]
  with_reducible refine And.intro ?_ ?_
  with_reducible refine go_S (by assumption) (fun _ _ hY => ?_)
  with_reducible exact trivial
  with_reducible refine And.intro ?_ ?_
  omega
  with_reducible refine And.intro ?_ ?_
  omega
  with_reducible refine And.intro ?_ ?_
  omega
  with_reducible refine fX3_isBare (by assumption) (by assumption) (fun _ => ?_) (fun _ _ => ?_)
  simp only [eX3_isNoAsked_34, kx_l, wt_nil, tl_s, Nat.add_zero]
  with_reducible refine And.intro ?_ ?_
  with_reducible refine go_S (by assumption) (fun _ _ hY => ?_)
  with_reducible exact trivial
  with_reducible refine And.intro ?_ ?_
  omega
  with_reducible refine And.intro ?_ ?_
  omega
  with_reducible refine And.intro ?_ ?_
  omega
  with_reducible refine fX3_refuse (by assumption) (by decide) (fun _ => ?_) (fun _ w2 h2 => ?_)
  with_reducible exact absurd (by assumption) n10'
  simp only [eX3_isNoAsked_37, eX3_isNoAsked_40, eX3_isNoAsked_44, eX3_isNoAsked_45, i10, if_false, kx_l, tl_s, nb_0, nb_1, true_and]
  with_reducible refine And.intro ?_ ?_
  omega
  with_reducible refine And.intro ?_ ?_
  omega
  with_reducible exact hS (by assumption) (by assumption) (by assumption) _ (by assumption)
  simp only [eX3_isNoAsked_34, kx_l, wt_nil, tl_s, Nat.add_zero]
  with_reducible refine And.intro ?_ ?_
  with_reducible refine go_S (by assumption) (fun _ _ hY => ?_)
  with_reducible exact trivial
  with_reducible refine And.intro ?_ ?_
  omega
  with_reducible refine And.intro ?_ ?_
  omega
  with_reducible refine And.intro ?_ ?_
  omega
  with_reducible refine fX3_refuse (by assumption) (by decide) (fun _ => ?_) (fun _ w2 h2 => ?_)
  simp only [eX3_isNoAsked_37, eX3_isNoAsked_40, eX3_isNoAsked_44, eX3_isNoAsked_45, if_true, kx_l, tl_s, nb_0, nb_1, true_and]
  with_reducible refine And.intro ?_ ?_
  omega
  with_reducible refine And.intro ?_ ?_
  omega
  with_reducible exact hQ (by assumption) (by assumption) _ (by assumption) _ (by assumption)
  with_reducible exact n00x (by assumption)
  with_reducible exact n00x (by assumption)
end
end
/-! 75.mf5.lean.txt -/
section
section
variable {g : RO} {Q : Ot → Hw → Prop} {w0 w : Hw} {y nM : Nat} {kd th : Int32} {s : AS}
set_option maxHeartbeats 4000000 in
theorem fX3_two {a0 a1 a2 : Int32} (hM : MS g w0 y nM kd th s w) (hX : ¬ (okC a0 ∧ okN a1 ∧ okN a2) → ∀ w', MS g w0 y nM kd 1 s w' → Q (.inl (some (.int 0))) w') (hT : okC a0 → okN a1 → okN a2 → oP (s.1 a1.toNatClampNeg) (s.1 a1.toNatClampNeg) (s.1 a2.toNatClampNeg) (s.1 a2.toNatClampNeg) → ∀ w', MS g w0 y nM kd 0 (sMk s a0.toNatClampNeg (s.1 a1.toNatClampNeg, s.1 a1.toNatClampNeg, s.1 a2.toNatClampNeg, s.1 a2.toNatClampNeg)) w' → Q (.inl (some (.int 1))) w') (hF : okC a0 → okN a1 → okN a2 → ¬ oP (s.1 a1.toNatClampNeg) (s.1 a1.toNatClampNeg) (s.1 a2.toNatClampNeg) (s.1 a2.toNatClampNeg) → ∀ w', MS g w0 y nM kd 0 (sRf s) w' → Q (.inl (some (.int (-9)))) w') : WP (MX3_two g) Q (0, [some (.ref y), some (.int a0), some (.int a1), some (.int a2)], [], w, 0, 0) := by
  simp only [eX3_two_0, wt_nil, wt_ref, Nat.add_zero]
  with_reducible refine And.intro ?_ ?_
  omega
  with_reducible refine And.intro ?_ ?_
  omega
  with_reducible refine And.intro ?_ ?_
  omega
  with_reducible refine fX3_isNoCard (fun _ => ?_) (fun _ => ?_)
  simp only [eX3_two_5, eX3_two_8, eX3_two_22, eX3_two_27, i10, if_false, kx_l, wt_nil, wt_ref, tl_s, Nat.add_zero]
  with_reducible refine And.intro ?_ ?_
  with_reducible refine go_S (by assumption) (fun _ _ hY => ?_)
  with_reducible exact trivial
  with_reducible refine And.intro ?_ ?_
  omega
  with_reducible refine And.intro ?_ ?_
  omega
  with_reducible refine And.intro ?_ ?_
  omega
  with_reducible refine fX3_start (by assumption) (by decide) (fun _ w1 h1 => ?_) (fun _ w1 h1 => ?_)
  with_reducible exact absurd (by assumption) n10'
  simp only [eX3_two_31, eX3_two_34, eX3_two_38, eX3_two_44, eX3_two_67, i10, if_false, kx_l, tl_s]
  with_reducible refine And.intro ?_ ?_
  omega
  with_reducible refine And.intro ?_ ?_
  omega
  with_reducible exact hX (fun h => absurd h.1 (by assumption)) _ (by assumption)
  simp only [eX3_two_5, eX3_two_8, eX3_two_22, eX3_two_27, if_true, kx_l, wt_nil, wt_ref, tl_s, Nat.add_zero]
  with_reducible refine And.intro ?_ ?_
  omega
  with_reducible refine And.intro ?_ ?_
  omega
  with_reducible refine And.intro ?_ ?_
  omega
  with_reducible refine fX3_isNoNumber (fun _ => ?_) (fun _ => ?_)
  simp only [eX3_two_12, eX3_two_15, eX3_two_22, eX3_two_27, i10, if_false, kx_l, wt_nil, wt_ref, tl_s, Nat.add_zero]
  with_reducible refine And.intro ?_ ?_
  with_reducible refine go_S (by assumption) (fun _ _ hY => ?_)
  with_reducible exact trivial
  with_reducible refine And.intro ?_ ?_
  omega
  with_reducible refine And.intro ?_ ?_
  omega
  with_reducible refine And.intro ?_ ?_
  omega
  with_reducible refine fX3_start (by assumption) (by decide) (fun _ w1 h1 => ?_) (fun _ w1 h1 => ?_)
  with_reducible exact absurd (by assumption) n10'
  simp only [eX3_two_31, eX3_two_34, eX3_two_38, eX3_two_44, eX3_two_67, i10, if_false, kx_l, tl_s]
  with_reducible refine And.intro ?_ ?_
  omega
  with_reducible refine And.intro ?_ ?_
  omega
  with_reducible exact hX (fun h => absurd h.2.1 (by assumption)) _ (by assumption)
  simp only [eX3_two_12, eX3_two_15, eX3_two_22, eX3_two_27, if_true, kx_l, wt_nil, wt_ref, tl_s, Nat.add_zero]
  with_reducible refine And.intro ?_ ?_
  omega
  with_reducible refine And.intro ?_ ?_
  omega
  with_reducible refine And.intro ?_ ?_
  omega
  with_reducible refine fX3_isNoNumber (fun _ => ?_) (fun _ => ?_)
  simp only [eX3_two_19, eX3_two_22, eX3_two_26, eX3_two_27, i10, if_false, kx_l, wt_nil, tl_s, Nat.add_zero]
  with_reducible refine And.intro ?_ ?_
  with_reducible refine go_S (by assumption) (fun _ _ hY => ?_)
  with_reducible exact trivial
  with_reducible refine And.intro ?_ ?_
  omega
  with_reducible refine And.intro ?_ ?_
  omega
  with_reducible refine And.intro ?_ ?_
  omega
  with_reducible refine fX3_start (by assumption) (by decide) (fun _ w1 h1 => ?_) (fun _ w1 h1 => ?_)
  with_reducible exact absurd (by assumption) n10'
  simp only [eX3_two_31, eX3_two_34, eX3_two_38, eX3_two_44, eX3_two_67, i10, if_false, kx_l, tl_s]
  with_reducible refine And.intro ?_ ?_
  omega
  with_reducible refine And.intro ?_ ?_
  omega
  with_reducible exact hX (fun h => absurd h.2.2 (by assumption)) _ (by assumption)
  simp only [eX3_two_19, eX3_two_22, eX3_two_26, eX3_two_27, if_true, kx_l, wt_nil, tl_s, Nat.add_zero]
  with_reducible refine And.intro ?_ ?_
  with_reducible refine go_S (by assumption) (fun _ _ hY => ?_)
  with_reducible exact trivial
  with_reducible refine And.intro ?_ ?_
  omega
  with_reducible refine And.intro ?_ ?_
  omega
  with_reducible refine And.intro ?_ ?_
  omega
  with_reducible refine fX3_start (by assumption) (by decide) (fun _ w1 h1 => ?_) (fun _ w1 h1 => ?_)
  simp only [eX3_two_31, eX3_two_34, eX3_two_38, eX3_two_44, eX3_two_67, if_true, kx_l, tl_s]
  with_reducible refine go_S (by assumption) (fun _ _ hY => ?_)
  simp only [eX3_two_45, eX3_two_46, eX3_two_50, g0, gS, ex1]
  with_reducible refine gl_S (by assumption) ?_
  with_reducible refine And.intro ?_ ?_
  with_reducible exact vpi8k (by assumption)
  with_reducible refine go_S (by assumption) (fun _ _ hY => ?_)
  simp only [eX3_two_51, eX3_two_52, eX3_two_56, g0, gS, ex1]
  with_reducible refine gl_S (by assumption) ?_
  with_reducible refine And.intro ?_ ?_
  with_reducible exact vpi8k (by assumption)
  with_reducible refine go_S (by assumption) (fun _ _ hY => ?_)
  simp only [eX3_two_57, eX3_two_58, eX3_two_62, g0, gS, ex1]
  with_reducible refine gl_S (by assumption) ?_
  with_reducible refine And.intro ?_ ?_
  with_reducible exact vpi8k (by assumption)
  with_reducible refine go_S (by assumption) (fun _ _ hY => ?_)
  simp only [eX3_two_63, eX3_two_64, wt_nil, g0, gS, ex1, Nat.zero_add]
  with_reducible refine gl_S (by assumption) ?_
  with_reducible refine And.intro ?_ ?_
  with_reducible exact vpi8k (by assumption)
  with_reducible refine And.intro ?_ ?_
  with_reducible refine go_S (by assumption) (fun _ _ hY => ?_)
  with_reducible exact trivial
  with_reducible refine And.intro ?_ ?_
  omega
  with_reducible refine And.intro ?_ ?_
  omega
  with_reducible refine And.intro ?_ ?_
  omega
  with_reducible refine fX3_make (by assumption) (by assumption) (fun hyes w3 h3 => ?_) (fun hno w3 h3 => ?_)
  simp only [eX3_two_67, kx_l, tl_s]
  with_reducible refine And.intro ?_ ?_
  omega
  with_reducible refine And.intro ?_ ?_
  omega
  with_reducible exact hT (by assumption) (by assumption) (by assumption) hyes _ h3
  simp only [eX3_two_67, kx_l, tl_s]
  with_reducible refine And.intro ?_ ?_
  omega
  with_reducible refine And.intro ?_ ?_
  omega
  with_reducible exact hF (by assumption) (by assumption) (by assumption) hno _ h3
  with_reducible exact n00x (by assumption)
set_option maxHeartbeats 4000000 in
theorem fX3_three {a0 a1 a2 a3 : Int32} (hM : MS g w0 y nM kd th s w) (hX : ¬ (okC a0 ∧ okN a1 ∧ okN a2 ∧ okN a3) → ∀ w', MS g w0 y nM kd 1 s w' → Q (.inl (some (.int 0))) w') (hT : okC a0 → okN a1 → okN a2 → okN a3 → oP (s.1 a1.toNatClampNeg) (s.1 a1.toNatClampNeg) (s.1 a2.toNatClampNeg) (s.1 a3.toNatClampNeg) → ∀ w', MS g w0 y nM kd 0 (sMk s a0.toNatClampNeg (s.1 a1.toNatClampNeg, s.1 a1.toNatClampNeg, s.1 a2.toNatClampNeg, s.1 a3.toNatClampNeg)) w' → Q (.inl (some (.int 1))) w') (hF : okC a0 → okN a1 → okN a2 → okN a3 → ¬ oP (s.1 a1.toNatClampNeg) (s.1 a1.toNatClampNeg) (s.1 a2.toNatClampNeg) (s.1 a3.toNatClampNeg) → ∀ w', MS g w0 y nM kd 0 (sRf s) w' → Q (.inl (some (.int (-9)))) w') : WP (MX3_three g) Q (0, [some (.ref y), some (.int a0), some (.int a1), some (.int a2), some (.int a3)], [], w, 0, 0) := by
  simp only [eX3_three_0, wt_nil, wt_ref, Nat.add_zero]
  with_reducible refine And.intro ?_ ?_
  omega
  with_reducible refine And.intro ?_ ?_
  omega
  with_reducible refine And.intro ?_ ?_
  omega
  with_reducible refine fX3_isNoCard (fun _ => ?_) (fun _ => ?_)
  simp only [eX3_three_5, eX3_three_8, eX3_three_30, eX3_three_35, i10, if_false, kx_l, wt_nil, wt_ref, tl_s, Nat.add_zero]
  with_reducible refine And.intro ?_ ?_
  with_reducible refine go_S (by assumption) (fun _ _ hY => ?_)
  with_reducible exact trivial
  with_reducible refine And.intro ?_ ?_
  omega
  with_reducible refine And.intro ?_ ?_
  omega
  with_reducible refine And.intro ?_ ?_
  omega
  with_reducible refine fX3_start (by assumption) (by decide) (fun _ w1 h1 => ?_) (fun _ w1 h1 => ?_)
  with_reducible exact absurd (by assumption) n10'
  simp only [eX3_three_39, eX3_three_42, eX3_three_46, eX3_three_52, eX3_three_76, i10, if_false, kx_l, tl_s]
  with_reducible refine And.intro ?_ ?_
  omega
  with_reducible refine And.intro ?_ ?_
  omega
  with_reducible exact hX (fun h => absurd h.1 (by assumption)) _ (by assumption)
  simp only [eX3_three_5, eX3_three_8, eX3_three_30, eX3_three_35, if_true, kx_l, wt_nil, wt_ref, tl_s, Nat.add_zero]
  with_reducible refine And.intro ?_ ?_
  omega
  with_reducible refine And.intro ?_ ?_
  omega
  with_reducible refine And.intro ?_ ?_
  omega
  with_reducible refine fX3_isNoNumber (fun _ => ?_) (fun _ => ?_)
  simp only [eX3_three_12, eX3_three_15, eX3_three_30, eX3_three_35, i10, if_false, kx_l, wt_nil, wt_ref, tl_s, Nat.add_zero]
  with_reducible refine And.intro ?_ ?_
  with_reducible refine go_S (by assumption) (fun _ _ hY => ?_)
  with_reducible exact trivial
  with_reducible refine And.intro ?_ ?_
  omega
  with_reducible refine And.intro ?_ ?_
  omega
  with_reducible refine And.intro ?_ ?_
  omega
  with_reducible refine fX3_start (by assumption) (by decide) (fun _ w1 h1 => ?_) (fun _ w1 h1 => ?_)
  with_reducible exact absurd (by assumption) n10'
  simp only [eX3_three_39, eX3_three_42, eX3_three_46, eX3_three_52, eX3_three_76, i10, if_false, kx_l, tl_s]
  with_reducible refine And.intro ?_ ?_
  omega
  with_reducible refine And.intro ?_ ?_
  omega
  with_reducible exact hX (fun h => absurd h.2.1 (by assumption)) _ (by assumption)
  simp only [eX3_three_12, eX3_three_15, eX3_three_30, eX3_three_35, if_true, kx_l, wt_nil, wt_ref, tl_s, Nat.add_zero]
  with_reducible refine And.intro ?_ ?_
  omega
  with_reducible refine And.intro ?_ ?_
  omega
  with_reducible refine And.intro ?_ ?_
  omega
  with_reducible refine fX3_isNoNumber (fun _ => ?_) (fun _ => ?_)
  simp only [eX3_three_19, eX3_three_22, eX3_three_30, eX3_three_35, i10, if_false, kx_l, wt_nil, wt_ref, tl_s, Nat.add_zero]
  with_reducible refine And.intro ?_ ?_
  with_reducible refine go_S (by assumption) (fun _ _ hY => ?_)
  with_reducible exact trivial
  with_reducible refine And.intro ?_ ?_
  omega
  with_reducible refine And.intro ?_ ?_
  omega
  with_reducible refine And.intro ?_ ?_
  omega
  with_reducible refine fX3_start (by assumption) (by decide) (fun _ w1 h1 => ?_) (fun _ w1 h1 => ?_)
  with_reducible exact absurd (by assumption) n10'
  simp only [eX3_three_39, eX3_three_42, eX3_three_46, eX3_three_52, eX3_three_76, i10, if_false, kx_l, tl_s]
  with_reducible refine And.intro ?_ ?_
  omega
  with_reducible refine And.intro ?_ ?_
  omega
  with_reducible exact hX (fun h => absurd h.2.2.1 (by assumption)) _ (by assumption)
  simp only [eX3_three_19, eX3_three_22, eX3_three_30, eX3_three_35, if_true, kx_l, wt_nil, wt_ref, tl_s, Nat.add_zero]
  with_reducible refine And.intro ?_ ?_
  omega
  with_reducible refine And.intro ?_ ?_
  omega
  with_reducible refine And.intro ?_ ?_
  omega
  with_reducible refine fX3_isNoNumber (fun _ => ?_) (fun _ => ?_)
  simp only [eX3_three_27, eX3_three_30, eX3_three_34, eX3_three_35, i10, if_false, kx_l, wt_nil, tl_s, Nat.add_zero]
  with_reducible refine And.intro ?_ ?_
  with_reducible refine go_S (by assumption) (fun _ _ hY => ?_)
  with_reducible exact trivial
  with_reducible refine And.intro ?_ ?_
  omega
  with_reducible refine And.intro ?_ ?_
  omega
  with_reducible refine And.intro ?_ ?_
  omega
  with_reducible refine fX3_start (by assumption) (by decide) (fun _ w1 h1 => ?_) (fun _ w1 h1 => ?_)
  with_reducible exact absurd (by assumption) n10'
  simp only [eX3_three_39, eX3_three_42, eX3_three_46, eX3_three_52, eX3_three_76, i10, if_false, kx_l, tl_s]
  with_reducible refine And.intro ?_ ?_
  omega
  with_reducible refine And.intro ?_ ?_
  omega
  with_reducible exact hX (fun h => absurd h.2.2.2 (by assumption)) _ (by assumption)
  simp only [eX3_three_27, eX3_three_30, eX3_three_34, eX3_three_35, if_true, kx_l, wt_nil, tl_s, Nat.add_zero]
  with_reducible refine And.intro ?_ ?_
  with_reducible refine go_S (by assumption) (fun _ _ hY => ?_)
  with_reducible exact trivial
  with_reducible refine And.intro ?_ ?_
  omega
  with_reducible refine And.intro ?_ ?_
  omega
  with_reducible refine And.intro ?_ ?_
  omega
  with_reducible refine fX3_start (by assumption) (by decide) (fun _ w1 h1 => ?_) (fun _ w1 h1 => ?_)
  simp only [eX3_three_39, eX3_three_42, eX3_three_46, eX3_three_52, eX3_three_76, if_true, kx_l, tl_s]
  with_reducible refine go_S (by assumption) (fun _ _ hY => ?_)
  simp only [eX3_three_53, eX3_three_54, eX3_three_58, g0, gS, ex1]
  with_reducible refine gl_S (by assumption) ?_
  with_reducible refine And.intro ?_ ?_
  with_reducible exact vpi8k (by assumption)
  with_reducible refine go_S (by assumption) (fun _ _ hY => ?_)
  simp only [eX3_three_59, eX3_three_60, eX3_three_64, g0, gS, ex1]
  with_reducible refine gl_S (by assumption) ?_
  with_reducible refine And.intro ?_ ?_
  with_reducible exact vpi8k (by assumption)
  with_reducible refine go_S (by assumption) (fun _ _ hY => ?_)
  simp only [eX3_three_65, eX3_three_66, eX3_three_70, g0, gS, ex1]
  with_reducible refine gl_S (by assumption) ?_
  with_reducible refine And.intro ?_ ?_
  with_reducible exact vpi8k (by assumption)
  with_reducible refine go_S (by assumption) (fun _ _ hY => ?_)
  simp only [eX3_three_72, eX3_three_73, wt_nil, g0, gS, ex1, Nat.zero_add]
  with_reducible refine gl_S (by assumption) ?_
  with_reducible refine And.intro ?_ ?_
  with_reducible exact vpi8k (by assumption)
  with_reducible refine And.intro ?_ ?_
  with_reducible refine go_S (by assumption) (fun _ _ hY => ?_)
  with_reducible exact trivial
  with_reducible refine And.intro ?_ ?_
  omega
  with_reducible refine And.intro ?_ ?_
  omega
  with_reducible refine And.intro ?_ ?_
  omega
  with_reducible refine fX3_make (by assumption) (by assumption) (fun hyes w3 h3 => ?_) (fun hno w3 h3 => ?_)
  simp only [eX3_three_76, kx_l, tl_s]
  with_reducible refine And.intro ?_ ?_
  omega
  with_reducible refine And.intro ?_ ?_
  omega
  with_reducible exact hT (by assumption) (by assumption) (by assumption) (by assumption) hyes _ h3
  simp only [eX3_three_76, kx_l, tl_s]
  with_reducible refine And.intro ?_ ?_
  omega
  with_reducible refine And.intro ?_ ?_
  omega
  with_reducible exact hF (by assumption) (by assumption) (by assumption) (by assumption) hno _ h3
  with_reducible exact n00x (by assumption)
set_option maxHeartbeats 4000000 in
theorem fX3_four {a0 a1 a2 a3 a4 : Int32} (hM : MS g w0 y nM kd th s w) (hX : ¬ (okC a0 ∧ okN a1 ∧ okN a2 ∧ okN a3 ∧ okN a4) → ∀ w', MS g w0 y nM kd 1 s w' → Q (.inl (some (.int 0))) w') (hT : okC a0 → okN a1 → okN a2 → okN a3 → okN a4 → oP (s.1 a1.toNatClampNeg) (s.1 a2.toNatClampNeg) (s.1 a3.toNatClampNeg) (s.1 a4.toNatClampNeg) → ∀ w', MS g w0 y nM kd 0 (sMk s a0.toNatClampNeg (s.1 a1.toNatClampNeg, s.1 a2.toNatClampNeg, s.1 a3.toNatClampNeg, s.1 a4.toNatClampNeg)) w' → Q (.inl (some (.int 1))) w') (hF : okC a0 → okN a1 → okN a2 → okN a3 → okN a4 → ¬ oP (s.1 a1.toNatClampNeg) (s.1 a2.toNatClampNeg) (s.1 a3.toNatClampNeg) (s.1 a4.toNatClampNeg) → ∀ w', MS g w0 y nM kd 0 (sRf s) w' → Q (.inl (some (.int (-9)))) w') : WP (MX3_four g) Q (0, [some (.ref y), some (.int a0), some (.int a1), some (.int a2), some (.int a3), some (.int a4)], [], w, 0, 0) := by
  simp only [eX3_four_0, wt_nil, wt_ref, Nat.add_zero]
  with_reducible refine And.intro ?_ ?_
  omega
  with_reducible refine And.intro ?_ ?_
  omega
  with_reducible refine And.intro ?_ ?_
  omega
  with_reducible refine fX3_isNoCard (fun _ => ?_) (fun _ => ?_)
  simp only [eX3_four_5, eX3_four_8, eX3_four_38, eX3_four_43, i10, if_false, kx_l, wt_nil, wt_ref, tl_s, Nat.add_zero]
  with_reducible refine And.intro ?_ ?_
  with_reducible refine go_S (by assumption) (fun _ _ hY => ?_)
  with_reducible exact trivial
  with_reducible refine And.intro ?_ ?_
  omega
  with_reducible refine And.intro ?_ ?_
  omega
  with_reducible refine And.intro ?_ ?_
  omega
  with_reducible refine fX3_start (by assumption) (by decide) (fun _ w1 h1 => ?_) (fun _ w1 h1 => ?_)
  with_reducible exact absurd (by assumption) n10'
  simp only [eX3_four_47, eX3_four_50, eX3_four_54, eX3_four_60, eX3_four_85, i10, if_false, kx_l, tl_s]
  with_reducible refine And.intro ?_ ?_
  omega
  with_reducible refine And.intro ?_ ?_
  omega
  with_reducible exact hX (fun h => absurd h.1 (by assumption)) _ (by assumption)
  simp only [eX3_four_5, eX3_four_8, eX3_four_38, eX3_four_43, if_true, kx_l, wt_nil, wt_ref, tl_s, Nat.add_zero]
  with_reducible refine And.intro ?_ ?_
  omega
  with_reducible refine And.intro ?_ ?_
  omega
  with_reducible refine And.intro ?_ ?_
  omega
  with_reducible refine fX3_isNoNumber (fun _ => ?_) (fun _ => ?_)
  simp only [eX3_four_12, eX3_four_15, eX3_four_38, eX3_four_43, i10, if_false, kx_l, wt_nil, wt_ref, tl_s, Nat.add_zero]
  with_reducible refine And.intro ?_ ?_
  with_reducible refine go_S (by assumption) (fun _ _ hY => ?_)
  with_reducible exact trivial
  with_reducible refine And.intro ?_ ?_
  omega
  with_reducible refine And.intro ?_ ?_
  omega
  with_reducible refine And.intro ?_ ?_
  omega
  with_reducible refine fX3_start (by assumption) (by decide) (fun _ w1 h1 => ?_) (fun _ w1 h1 => ?_)
  with_reducible exact absurd (by assumption) n10'
  simp only [eX3_four_47, eX3_four_50, eX3_four_54, eX3_four_60, eX3_four_85, i10, if_false, kx_l, tl_s]
  with_reducible refine And.intro ?_ ?_
  omega
  with_reducible refine And.intro ?_ ?_
  omega
  with_reducible exact hX (fun h => absurd h.2.1 (by assumption)) _ (by assumption)
  simp only [eX3_four_12, eX3_four_15, eX3_four_38, eX3_four_43, if_true, kx_l, wt_nil, wt_ref, tl_s, Nat.add_zero]
  with_reducible refine And.intro ?_ ?_
  omega
  with_reducible refine And.intro ?_ ?_
  omega
  with_reducible refine And.intro ?_ ?_
  omega
  with_reducible refine fX3_isNoNumber (fun _ => ?_) (fun _ => ?_)
  simp only [eX3_four_19, eX3_four_22, eX3_four_38, eX3_four_43, i10, if_false, kx_l, wt_nil, wt_ref, tl_s, Nat.add_zero]
  with_reducible refine And.intro ?_ ?_
  with_reducible refine go_S (by assumption) (fun _ _ hY => ?_)
  with_reducible exact trivial
  with_reducible refine And.intro ?_ ?_
  omega
  with_reducible refine And.intro ?_ ?_
  omega
  with_reducible refine And.intro ?_ ?_
  omega
  with_reducible refine fX3_start (by assumption) (by decide) (fun _ w1 h1 => ?_) (fun _ w1 h1 => ?_)
  with_reducible exact absurd (by assumption) n10'
  simp only [eX3_four_47, eX3_four_50, eX3_four_54, eX3_four_60, eX3_four_85, i10, if_false, kx_l, tl_s]
  with_reducible refine And.intro ?_ ?_
  omega
  with_reducible refine And.intro ?_ ?_
  omega
  with_reducible exact hX (fun h => absurd h.2.2.1 (by assumption)) _ (by assumption)
  simp only [eX3_four_19, eX3_four_22, eX3_four_38, eX3_four_43, if_true, kx_l, wt_nil, wt_ref, tl_s, Nat.add_zero]
  with_reducible refine And.intro ?_ ?_
  omega
  with_reducible refine And.intro ?_ ?_
  omega
  with_reducible refine And.intro ?_ ?_
  omega
  with_reducible refine fX3_isNoNumber (fun _ => ?_) (fun _ => ?_)
  simp only [eX3_four_27, eX3_four_30, eX3_four_38, eX3_four_43, i10, if_false, kx_l, wt_nil, wt_ref, tl_s, Nat.add_zero]
  with_reducible refine And.intro ?_ ?_
  with_reducible refine go_S (by assumption) (fun _ _ hY => ?_)
  with_reducible exact trivial
  with_reducible refine And.intro ?_ ?_
  omega
  with_reducible refine And.intro ?_ ?_
  omega
  with_reducible refine And.intro ?_ ?_
  omega
  with_reducible refine fX3_start (by assumption) (by decide) (fun _ w1 h1 => ?_) (fun _ w1 h1 => ?_)
  with_reducible exact absurd (by assumption) n10'
  simp only [eX3_four_47, eX3_four_50, eX3_four_54, eX3_four_60, eX3_four_85, i10, if_false, kx_l, tl_s]
  with_reducible refine And.intro ?_ ?_
  omega
  with_reducible refine And.intro ?_ ?_
  omega
  with_reducible exact hX (fun h => absurd h.2.2.2.1 (by assumption)) _ (by assumption)
  simp only [eX3_four_27, eX3_four_30, eX3_four_38, eX3_four_43, if_true, kx_l, wt_nil, wt_ref, tl_s, Nat.add_zero]
  with_reducible refine And.intro ?_ ?_
  omega
  with_reducible refine And.intro ?_ ?_
  omega
  with_reducible refine And.intro ?_ ?_
  omega
  with_reducible refine fX3_isNoNumber (fun _ => ?_) (fun _ => ?_)
  simp only [eX3_four_35, eX3_four_38, eX3_four_42, eX3_four_43, i10, if_false, kx_l, wt_nil, tl_s, Nat.add_zero]
  with_reducible refine And.intro ?_ ?_
  with_reducible refine go_S (by assumption) (fun _ _ hY => ?_)
  with_reducible exact trivial
  with_reducible refine And.intro ?_ ?_
  omega
  with_reducible refine And.intro ?_ ?_
  omega
  with_reducible refine And.intro ?_ ?_
  omega
  with_reducible refine fX3_start (by assumption) (by decide) (fun _ w1 h1 => ?_) (fun _ w1 h1 => ?_)
  with_reducible exact absurd (by assumption) n10'
  simp only [eX3_four_47, eX3_four_50, eX3_four_54, eX3_four_60, eX3_four_85, i10, if_false, kx_l, tl_s]
  with_reducible refine And.intro ?_ ?_
  omega
  with_reducible refine And.intro ?_ ?_
  omega
  with_reducible exact hX (fun h => absurd h.2.2.2.2 (by assumption)) _ (by assumption)
  simp only [eX3_four_35, eX3_four_38, eX3_four_42, eX3_four_43, if_true, kx_l, wt_nil, tl_s, Nat.add_zero]
  with_reducible refine And.intro ?_ ?_
  with_reducible refine go_S (by assumption) (fun _ _ hY => ?_)
  with_reducible exact trivial
  with_reducible refine And.intro ?_ ?_
  omega
  with_reducible refine And.intro ?_ ?_
  omega
  with_reducible refine And.intro ?_ ?_
  omega
  with_reducible refine fX3_start (by assumption) (by decide) (fun _ w1 h1 => ?_) (fun _ w1 h1 => ?_)
  simp only [eX3_four_47, eX3_four_50, eX3_four_54, eX3_four_60, eX3_four_85, if_true, kx_l, tl_s]
  with_reducible refine go_S (by assumption) (fun _ _ hY => ?_)
  simp only [eX3_four_61, eX3_four_62, eX3_four_66, g0, gS, ex1]
  with_reducible refine gl_S (by assumption) ?_
  with_reducible refine And.intro ?_ ?_
  with_reducible exact vpi8k (by assumption)
  with_reducible refine go_S (by assumption) (fun _ _ hY => ?_)
  simp only [eX3_four_67, eX3_four_68, eX3_four_72, g0, gS, ex1]
  with_reducible refine gl_S (by assumption) ?_
  with_reducible refine And.intro ?_ ?_
  with_reducible exact vpi8k (by assumption)
  with_reducible refine go_S (by assumption) (fun _ _ hY => ?_)
  simp only [eX3_four_74, eX3_four_75, eX3_four_79, g0, gS, ex1]
  with_reducible refine gl_S (by assumption) ?_
  with_reducible refine And.intro ?_ ?_
  with_reducible exact vpi8k (by assumption)
  with_reducible refine go_S (by assumption) (fun _ _ hY => ?_)
  simp only [eX3_four_81, eX3_four_82, wt_nil, g0, gS, ex1, Nat.zero_add]
  with_reducible refine gl_S (by assumption) ?_
  with_reducible refine And.intro ?_ ?_
  with_reducible exact vpi8k (by assumption)
  with_reducible refine And.intro ?_ ?_
  with_reducible refine go_S (by assumption) (fun _ _ hY => ?_)
  with_reducible exact trivial
  with_reducible refine And.intro ?_ ?_
  omega
  with_reducible refine And.intro ?_ ?_
  omega
  with_reducible refine And.intro ?_ ?_
  omega
  with_reducible refine fX3_make (by assumption) (by assumption) (fun hyes w3 h3 => ?_) (fun hno w3 h3 => ?_)
  simp only [eX3_four_85, kx_l, tl_s]
  with_reducible refine And.intro ?_ ?_
  omega
  with_reducible refine And.intro ?_ ?_
  omega
  with_reducible exact hT (by assumption) (by assumption) (by assumption) (by assumption) (by assumption) hyes _ h3
  simp only [eX3_four_85, kx_l, tl_s]
  with_reducible refine And.intro ?_ ?_
  omega
  with_reducible refine And.intro ?_ ?_
  omega
  with_reducible exact hF (by assumption) (by assumption) (by assumption) (by assumption) (by assumption) hno _ h3
  with_reducible exact n00x (by assumption)
set_option maxHeartbeats 4000000 in
theorem fX3_twoSmall {a0 a1 a2 : Int32} (hM : MS g w0 y nM kd th s w) (hX : ¬ (okC a0) → ∀ w', MS g w0 y nM kd 1 s w' → Q (.inl (some (.int 0))) w') (hT : okC a0 → oP (a1.toInt64) (a1.toInt64) (a2.toInt64) (a2.toInt64) → ∀ w', MS g w0 y nM kd 0 (sMk s a0.toNatClampNeg (a1.toInt64, a1.toInt64, a2.toInt64, a2.toInt64)) w' → Q (.inl (some (.int 1))) w') (hF : okC a0 → ¬ oP (a1.toInt64) (a1.toInt64) (a2.toInt64) (a2.toInt64) → ∀ w', MS g w0 y nM kd 0 (sRf s) w' → Q (.inl (some (.int (-9)))) w') : WP (MX3_twoSmall g) Q (0, [some (.ref y), some (.int a0), some (.int a1), some (.int a2)], [], w, 0, 0) := by
  simp only [eX3_twoSmall_0, eX3_twoSmall_5, wt_nil, wt_ref, Nat.add_zero]
  with_reducible refine And.intro ?_ ?_
  omega
  with_reducible refine And.intro ?_ ?_
  omega
  with_reducible refine And.intro ?_ ?_
  omega
  with_reducible refine fX3_isNoCard (fun _ => ?_) (fun _ => ?_)
  simp only [eX3_twoSmall_6, kx_l, wt_nil, tl_s, Nat.add_zero]
  with_reducible refine And.intro ?_ ?_
  with_reducible refine go_S (by assumption) (fun _ _ hY => ?_)
  with_reducible exact trivial
  with_reducible refine And.intro ?_ ?_
  omega
  with_reducible refine And.intro ?_ ?_
  omega
  with_reducible refine And.intro ?_ ?_
  omega
  with_reducible refine fX3_start (by assumption) (by decide) (fun _ w1 h1 => ?_) (fun _ w1 h1 => ?_)
  with_reducible exact absurd (by assumption) n10'
  simp only [eX3_twoSmall_9, eX3_twoSmall_12, eX3_twoSmall_16, eX3_twoSmall_29, i10, if_false, kx_l, wt_nil, tl_s, Nat.zero_add]
  with_reducible refine And.intro ?_ ?_
  omega
  with_reducible refine And.intro ?_ ?_
  omega
  with_reducible exact hX (fun h => absurd h (by assumption)) _ (by assumption)
  simp only [eX3_twoSmall_6, kx_l, wt_nil, tl_s, Nat.add_zero]
  with_reducible refine And.intro ?_ ?_
  with_reducible refine go_S (by assumption) (fun _ _ hY => ?_)
  with_reducible exact trivial
  with_reducible refine And.intro ?_ ?_
  omega
  with_reducible refine And.intro ?_ ?_
  omega
  with_reducible refine And.intro ?_ ?_
  omega
  with_reducible refine fX3_start (by assumption) (by decide) (fun _ w1 h1 => ?_) (fun _ w1 h1 => ?_)
  simp only [eX3_twoSmall_9, eX3_twoSmall_12, eX3_twoSmall_16, eX3_twoSmall_29, if_true, kx_l, wt_nil, tl_s, Nat.zero_add]
  with_reducible refine And.intro ?_ ?_
  with_reducible refine go_S (by assumption) (fun _ _ hY => ?_)
  with_reducible exact trivial
  with_reducible refine And.intro ?_ ?_
  omega
  with_reducible refine And.intro ?_ ?_
  omega
  with_reducible refine And.intro ?_ ?_
  omega
  with_reducible refine fX3_make (by assumption) (by assumption) (fun hyes w3 h3 => ?_) (fun hno w3 h3 => ?_)
  simp only [eX3_twoSmall_29, kx_l, tl_s]
  with_reducible refine And.intro ?_ ?_
  omega
  with_reducible refine And.intro ?_ ?_
  omega
  with_reducible exact hT (by assumption) hyes _ h3
  simp only [eX3_twoSmall_29, kx_l, tl_s]
  with_reducible refine And.intro ?_ ?_
  omega
  with_reducible refine And.intro ?_ ?_
  omega
  with_reducible exact hF (by assumption) hno _ h3
  with_reducible exact n00x (by assumption)
set_option maxHeartbeats 4000000 in
theorem fX3_threeSmall {a0 a1 a2 a3 : Int32} (hM : MS g w0 y nM kd th s w) (hX : ¬ (okC a0) → ∀ w', MS g w0 y nM kd 1 s w' → Q (.inl (some (.int 0))) w') (hT : okC a0 → oP (a1.toInt64) (a1.toInt64) (a2.toInt64) (a3.toInt64) → ∀ w', MS g w0 y nM kd 0 (sMk s a0.toNatClampNeg (a1.toInt64, a1.toInt64, a2.toInt64, a3.toInt64)) w' → Q (.inl (some (.int 1))) w') (hF : okC a0 → ¬ oP (a1.toInt64) (a1.toInt64) (a2.toInt64) (a3.toInt64) → ∀ w', MS g w0 y nM kd 0 (sRf s) w' → Q (.inl (some (.int (-9)))) w') : WP (MX3_threeSmall g) Q (0, [some (.ref y), some (.int a0), some (.int a1), some (.int a2), some (.int a3)], [], w, 0, 0) := by
  simp only [eX3_threeSmall_0, eX3_threeSmall_5, wt_nil, wt_ref, Nat.add_zero]
  with_reducible refine And.intro ?_ ?_
  omega
  with_reducible refine And.intro ?_ ?_
  omega
  with_reducible refine And.intro ?_ ?_
  omega
  with_reducible refine fX3_isNoCard (fun _ => ?_) (fun _ => ?_)
  simp only [eX3_threeSmall_6, kx_l, wt_nil, tl_s, Nat.add_zero]
  with_reducible refine And.intro ?_ ?_
  with_reducible refine go_S (by assumption) (fun _ _ hY => ?_)
  with_reducible exact trivial
  with_reducible refine And.intro ?_ ?_
  omega
  with_reducible refine And.intro ?_ ?_
  omega
  with_reducible refine And.intro ?_ ?_
  omega
  with_reducible refine fX3_start (by assumption) (by decide) (fun _ w1 h1 => ?_) (fun _ w1 h1 => ?_)
  with_reducible exact absurd (by assumption) n10'
  simp only [eX3_threeSmall_9, eX3_threeSmall_12, eX3_threeSmall_16, eX3_threeSmall_30, i10, if_false, kx_l, wt_nil, tl_s, Nat.zero_add]
  with_reducible refine And.intro ?_ ?_
  omega
  with_reducible refine And.intro ?_ ?_
  omega
  with_reducible exact hX (fun h => absurd h (by assumption)) _ (by assumption)
  simp only [eX3_threeSmall_6, kx_l, wt_nil, tl_s, Nat.add_zero]
  with_reducible refine And.intro ?_ ?_
  with_reducible refine go_S (by assumption) (fun _ _ hY => ?_)
  with_reducible exact trivial
  with_reducible refine And.intro ?_ ?_
  omega
  with_reducible refine And.intro ?_ ?_
  omega
  with_reducible refine And.intro ?_ ?_
  omega
  with_reducible refine fX3_start (by assumption) (by decide) (fun _ w1 h1 => ?_) (fun _ w1 h1 => ?_)
  simp only [eX3_threeSmall_9, eX3_threeSmall_12, eX3_threeSmall_16, eX3_threeSmall_30, if_true, kx_l, wt_nil, tl_s, Nat.zero_add]
  with_reducible refine And.intro ?_ ?_
  with_reducible refine go_S (by assumption) (fun _ _ hY => ?_)
  with_reducible exact trivial
  with_reducible refine And.intro ?_ ?_
  omega
  with_reducible refine And.intro ?_ ?_
  omega
  with_reducible refine And.intro ?_ ?_
  omega
  with_reducible refine fX3_make (by assumption) (by assumption) (fun hyes w3 h3 => ?_) (fun hno w3 h3 => ?_)
  simp only [eX3_threeSmall_30, kx_l, tl_s]
  with_reducible refine And.intro ?_ ?_
  omega
  with_reducible refine And.intro ?_ ?_
  omega
  with_reducible exact hT (by assumption) hyes _ h3
  simp only [eX3_threeSmall_30, kx_l, tl_s]
  with_reducible refine And.intro ?_ ?_
  omega
  with_reducible refine And.intro ?_ ?_
  omega
  with_reducible exact hF (by assumption) hno _ h3
  with_reducible exact n00x (by assumption)
set_option maxHeartbeats 4000000 in
theorem fX3_fourSmall {a0 a1 a2 a3 a4 : Int32} (hM : MS g w0 y nM kd th s w) (hX : ¬ (okC a0) → ∀ w', MS g w0 y nM kd 1 s w' → Q (.inl (some (.int 0))) w') (hT : okC a0 → oP (a1.toInt64) (a2.toInt64) (a3.toInt64) (a4.toInt64) → ∀ w', MS g w0 y nM kd 0 (sMk s a0.toNatClampNeg (a1.toInt64, a2.toInt64, a3.toInt64, a4.toInt64)) w' → Q (.inl (some (.int 1))) w') (hF : okC a0 → ¬ oP (a1.toInt64) (a2.toInt64) (a3.toInt64) (a4.toInt64) → ∀ w', MS g w0 y nM kd 0 (sRf s) w' → Q (.inl (some (.int (-9)))) w') : WP (MX3_fourSmall g) Q (0, [some (.ref y), some (.int a0), some (.int a1), some (.int a2), some (.int a3), some (.int a4)], [], w, 0, 0) := by
  simp only [eX3_fourSmall_0, eX3_fourSmall_5, wt_nil, wt_ref, Nat.add_zero]
  with_reducible refine And.intro ?_ ?_
  omega
  with_reducible refine And.intro ?_ ?_
  omega
  with_reducible refine And.intro ?_ ?_
  omega
  with_reducible refine fX3_isNoCard (fun _ => ?_) (fun _ => ?_)
  simp only [eX3_fourSmall_6, kx_l, wt_nil, tl_s, Nat.add_zero]
  with_reducible refine And.intro ?_ ?_
  with_reducible refine go_S (by assumption) (fun _ _ hY => ?_)
  with_reducible exact trivial
  with_reducible refine And.intro ?_ ?_
  omega
  with_reducible refine And.intro ?_ ?_
  omega
  with_reducible refine And.intro ?_ ?_
  omega
  with_reducible refine fX3_start (by assumption) (by decide) (fun _ w1 h1 => ?_) (fun _ w1 h1 => ?_)
  with_reducible exact absurd (by assumption) n10'
  simp only [eX3_fourSmall_9, eX3_fourSmall_12, eX3_fourSmall_16, eX3_fourSmall_31, i10, if_false, kx_l, wt_nil, tl_s, Nat.zero_add]
  with_reducible refine And.intro ?_ ?_
  omega
  with_reducible refine And.intro ?_ ?_
  omega
  with_reducible exact hX (fun h => absurd h (by assumption)) _ (by assumption)
  simp only [eX3_fourSmall_6, kx_l, wt_nil, tl_s, Nat.add_zero]
  with_reducible refine And.intro ?_ ?_
  with_reducible refine go_S (by assumption) (fun _ _ hY => ?_)
  with_reducible exact trivial
  with_reducible refine And.intro ?_ ?_
  omega
  with_reducible refine And.intro ?_ ?_
  omega
  with_reducible refine And.intro ?_ ?_
  omega
  with_reducible refine fX3_start (by assumption) (by decide) (fun _ w1 h1 => ?_) (fun _ w1 h1 => ?_)
  simp only [eX3_fourSmall_9, eX3_fourSmall_12, eX3_fourSmall_16, eX3_fourSmall_31, if_true, kx_l, wt_nil, tl_s, Nat.zero_add]
  with_reducible refine And.intro ?_ ?_
  with_reducible refine go_S (by assumption) (fun _ _ hY => ?_)
  with_reducible exact trivial
  with_reducible refine And.intro ?_ ?_
  omega
  with_reducible refine And.intro ?_ ?_
  omega
  with_reducible refine And.intro ?_ ?_
  omega
  with_reducible refine fX3_make (by assumption) (by assumption) (fun hyes w3 h3 => ?_) (fun hno w3 h3 => ?_)
  simp only [eX3_fourSmall_31, kx_l, tl_s]
  with_reducible refine And.intro ?_ ?_
  omega
  with_reducible refine And.intro ?_ ?_
  omega
  with_reducible exact hT (by assumption) hyes _ h3
  simp only [eX3_fourSmall_31, kx_l, tl_s]
  with_reducible refine And.intro ?_ ?_
  omega
  with_reducible refine And.intro ?_ ?_
  omega
  with_reducible exact hF (by assumption) hno _ h3
  with_reducible exact n00x (by assumption)
end
end
/-! 75.mf6.lean.txt -/
section
section
variable {g : RO} {Q : Ot → Hw → Prop} {w0 w : Hw} {y nM : Nat} {kd th : Int32} {s : AS}
def smF (r : R4) (j : Nat) : Int32 := bI (decide (-2147483648 ≤ (rV r j).toInt ∧ (rV r j).toInt ≤ 2147483647))
theorem smT {r : R4} {j : Nat} (h : -2147483648 ≤ (rV r j).toInt ∧ (rV r j).toInt ≤ 2147483647) : fsum (smF r) j + 1 = fsum (smF r) (j + 1) := by
  show _ = fsum (smF r) j + smF r j
  unfold smF
  rw [decide_eq_true h]
  rfl
theorem smN {r : R4} {j : Nat} (h : ¬ (-2147483648 ≤ (rV r j).toInt ∧ (rV r j).toInt ≤ 2147483647)) : fsum (smF r) j + 0 = fsum (smF r) (j + 1) := by
  show _ = fsum (smF r) j + smF r j
  unfold smF
  rw [decide_eq_false h]
  rfl
theorem fsum_cg {f f' : Nat → Int32} : ∀ {N : Nat}, (∀ j, j < N → f j = f' j) → fsum f N = fsum f' N
  | 0, _ => rfl
  | N + 1, h => by
    show fsum f N + f N = fsum f' N + f' N
    rw [fsum_cg (fun j hj => h j (by omega)), h N (by omega)]
theorem smE {r : R4} : fsum (smF r) 4 = seV r := fsum_cg (fun j hj => by
  show bI (decide (-2147483648 ≤ (rV r j).toInt ∧ (rV r j).toInt ≤ 2147483647)) = _
  rw [rvj hj])
theorem oEta {r : R4} (h : rOk r) (hno : ¬ oP r.1 r.2.1 r.2.2.1 r.2.2.2) : False := hno h
set_option maxHeartbeats 4000000 in
theorem flX3_again_37 {a c : Int32} {b : Nat} {r : R4} (hM : MS g w0 y nM kd th s w) (hb : rowA w b r) (k : okC a) (ho : rOk r) (hQ : ∀ w', MS g w0 y nM kd th (sMk s a.toNatClampNeg r) w' → Q (.inl (some (.int (seV r)))) w') : ∀ (d j : Nat) (i8 : Option Value) (i9 : Option Value) (kz mz : Nat), j + d = 4 → kz ≤ 0 → mz ≤ 0 → WP (MX3_again g) Q (37, [some (.ref y), some (.int a), some (.int c), some (.ref b), some (.int (fsum (smF r) j)), some (.ref b), some (.int 4), some (.int (Int32.ofNat j)), i8, i9], [], w, kz, mz) := by
  intro d
  induction d with
  | zero =>
    intro j i8 i9 kz mz hjd hkz hmz
    have h9 : j < 1000 := (by omega)
    have hlt : ¬ Int32.ofNat j < 4 := oNg (B := 4) h9 rfl (by omega)
    have hnn := oN0 h9
    have hcl := oNc h9
    obtain rfl : j = 4 := by omega
    rw [eX3_again_37]
    simp only [eX3_again_39, eX3_again_44, eX3_again_49, eX3_again_62, eX3_again_71, eX3_again_75, eX3_again_76, eX3_again_88, eX3_again_93, eX3_again_96, eX3_again_99, eX3_again_102, lgp, lgn, if_false, lmi, lmx, hlt, hcl, ite_le, wt_nil, wt_int, nl_int, Nat.add_zero]
    with_reducible refine gl_A hb ?_
    with_reducible refine And.intro ?_ ?_
    with_reducible exact vpi4.1
    (simp only [rv0, rv1, rv2, rv3])
    with_reducible refine gl_A hb ?_
    with_reducible refine And.intro ?_ ?_
    with_reducible exact vpi4.2.1
    (simp only [rv0, rv1, rv2, rv3])
    with_reducible refine gl_A hb ?_
    with_reducible refine And.intro ?_ ?_
    with_reducible exact vpi4.2.2.1
    (simp only [rv0, rv1, rv2, rv3])
    with_reducible refine gl_A hb ?_
    with_reducible refine And.intro ?_ ?_
    with_reducible exact vpi4.2.2.2
    with_reducible refine And.intro ?_ ?_
    with_reducible refine go_S hM (fun _ _ hY => ?_)
    with_reducible exact trivial
    with_reducible refine And.intro ?_ ?_
    omega
    with_reducible refine And.intro ?_ ?_
    omega
    with_reducible refine And.intro ?_ ?_
    omega
    (simp only [rv0, rv1, rv2, rv3])
    with_reducible refine fX3_make hM k (fun hyes w3 h3 => ?_) (fun hno w3 h3 => ?_)
    simp only [eX3_again_105, kx_l, tl_s]
    with_reducible refine And.intro ?_ ?_
    omega
    with_reducible refine And.intro ?_ ?_
    omega
    (rw [smE]; exact hQ _ h3)
    with_reducible exact (oEta ho hno).elim
  | succ d ih =>
    intro j i8 i9 kz mz hjd hkz hmz
    have h9 : j < 1000 := (by omega)
    have hlt : Int32.ofNat j < 4 := oNl (B := 4) h9 rfl (by omega)
    have hjN : j < 4 := by omega
    have hnn := oN0 h9
    have hcl := oNc h9
    rw [eX3_again_37]
    simp only [eX3_again_39, eX3_again_44, eX3_again_49, eX3_again_62, eX3_again_71, eX3_again_75, eX3_again_76, eX3_again_88, eX3_again_93, eX3_again_96, eX3_again_99, eX3_again_102, lgp, lgn, if_true, lmi, lmx, hlt, hcl, ite_le, wt_nil, wt_int, nl_int, Nat.add_zero]
    with_reducible refine gl_A hb ?_
    with_reducible refine And.intro ?_ ?_
    with_reducible exact vpi4j (by omega)
    with_reducible refine itx (fun _ => ?_) (fun _ => ?_)
    with_reducible refine And.intro ?_ ?_
    omega
    with_reducible refine And.intro ?_ ?_
    omega
    with_reducible refine And.intro ?_ ?_
    omega
    with_reducible refine fX3_one (Or.inl rfl) ?_
    simp only [eX3_again_79, kx_l, nl_int, nl_ref, tl_s]
    (rw [oN1, smN (r := r) (j := j) (by omega)]; exact ih (j + 1) _ _ _ _ (by omega) (by first | assumption | omega) (by first | assumption | omega))
    with_reducible refine itx (fun _ => ?_) (fun _ => ?_)
    with_reducible refine And.intro ?_ ?_
    omega
    with_reducible refine And.intro ?_ ?_
    omega
    with_reducible refine And.intro ?_ ?_
    omega
    with_reducible refine fX3_one (Or.inl rfl) ?_
    simp only [eX3_again_79, kx_l, nl_int, nl_ref, tl_s]
    (rw [oN1, smN (r := r) (j := j) (by omega)]; exact ih (j + 1) _ _ _ _ (by omega) (by first | assumption | omega) (by first | assumption | omega))
    with_reducible refine And.intro ?_ ?_
    omega
    with_reducible refine And.intro ?_ ?_
    omega
    with_reducible refine And.intro ?_ ?_
    omega
    with_reducible refine fX3_one (Or.inr rfl) ?_
    simp only [eX3_again_79, kx_l, nl_int, nl_ref, tl_s]
    (rw [oN1, smT (r := r) (j := j) (by omega)]; exact ih (j + 1) _ _ _ _ (by omega) (by first | assumption | omega) (by first | assumption | omega))
theorem al_A {b : Nat} {r : R4} {K : vp_A → Prop} (h : rowA w b r) (k : K (4, .inr (.inl (rV r)))) : ∃ t z, rd g w b = some (.inl (t, z)) ∧ t < 6 ∧ K z := ⟨0, _, rd_e h, by decide, k⟩
set_option maxHeartbeats 4000000 in
theorem fX3_again {a0 a1 : Int32} (hM : MS g w0 y nM kd th s w) (ho : sOk s) (hX : ¬ (okC a0 ∧ okC a1) → ∀ w', MS g w0 y nM kd 1 s w' → Q (.inl (some (.int 0))) w') (hS : okC a0 → okC a1 → s.2.1 a1.toNatClampNeg = none → ∀ w', MS g w0 y nM kd 2 s w' → Q (.inl (some (.int 0))) w') (hQ : okC a0 → okC a1 → ∀ r, s.2.1 a1.toNatClampNeg = some r → ∀ w', MS g w0 y nM kd 0 (sMk s a0.toNatClampNeg r) w' → Q (.inl (some (.int (seV r)))) w') : WP (MX3_again g) Q (0, [some (.ref y), some (.int a0), some (.int a1), none, none, none, none, none, none, none], [], w, 0, 0) := by
  simp only [eX3_again_0, wt_nil, Nat.add_zero]
  with_reducible refine And.intro ?_ ?_
  with_reducible refine go_S (by assumption) (fun _ _ hY => ?_)
  with_reducible exact trivial
  with_reducible refine And.intro ?_ ?_
  omega
  with_reducible refine And.intro ?_ ?_
  omega
  with_reducible refine And.intro ?_ ?_
  omega
  with_reducible refine fX3_isNoPair (by assumption) (fun _ w1 h1 => ?_) (fun _ _ _ w1 h1 => ?_) (fun ka kc r e1 w1 h1 => ?_)
  simp only [eX3_again_6, eX3_again_9, eX3_again_11, eX3_again_15, i10, if_false, kx_l, tl_s]
  with_reducible refine And.intro ?_ ?_
  omega
  with_reducible refine And.intro ?_ ?_
  omega
  with_reducible exact hX (by assumption) _ (by assumption)
  simp only [eX3_again_6, eX3_again_9, eX3_again_11, eX3_again_15, i10, if_false, kx_l, tl_s]
  with_reducible refine And.intro ?_ ?_
  omega
  with_reducible refine And.intro ?_ ?_
  omega
  with_reducible exact hS (by assumption) (by assumption) (by assumption) _ (by assumption)
  simp only [eX3_again_6, eX3_again_9, eX3_again_11, eX3_again_15, if_true, kx_l, tl_s]
  with_reducible refine go_S (by assumption) (fun _ _ hY => ?_)
  simp only [eX3_again_16, wt_nil, g0, gS, ex1, Nat.add_zero]
  with_reducible refine And.intro ?_ ?_
  with_reducible exact MS.gC (by assumption) (by assumption)
  with_reducible refine And.intro ?_ ?_
  omega
  with_reducible refine And.intro ?_ ?_
  omega
  with_reducible refine And.intro ?_ ?_
  omega
  with_reducible refine sGetK (by assumption) (by assumption) (by assumption) (by assumption) (fun _ hb => ?_)
  simp only [eX3_again_19R, eX3_again_22, eX3_again_26, eX3_again_32, kx_l, nl_int, nl_ref, tl_s]
  with_reducible refine And.intro ?_ ?_
  with_reducible exact rowA.ca (by assumption)
  with_reducible refine al_A (by assumption) ?_
  (simp only [rv0, rv1, rv2, rv3])
  ((with_reducible refine isWP (pc := 37) ?_); exact flX3_again_37 h1 hb ka (ho.c kc e1) (fun w3 h3 => hQ ka kc r e1 w3 h3) 4 0 _ _ _ _ rfl (by decide) (by decide))
set_option maxHeartbeats 4000000 in
theorem fX3_outer {a0 a1 : Int32} (hM : MS g w0 y nM kd th s w) (ho : sOk s) (hX : ¬ (okC a0 ∧ okC a1) → ∀ w', MS g w0 y nM kd 1 s w' → Q (.inl (some (.int 0))) w') (hS : okC a0 → okC a1 → s.2.1 a1.toNatClampNeg = none → ∀ w', MS g w0 y nM kd 2 s w' → Q (.inl (some (.int 0))) w') (hT : okC a0 → okC a1 → ∀ r, s.2.1 a1.toNatClampNeg = some r → fP r → ∀ w', MS g w0 y nM kd 0 (sMk s a0.toNatClampNeg (r.1, r.1, r.2.2.2, r.2.2.2)) w' → Q (.inl (some (.int 1))) w') (hF : okC a0 → okC a1 → ∀ r, s.2.1 a1.toNatClampNeg = some r → ¬ fP r → ∀ w', MS g w0 y nM kd 0 (sMk s a0.toNatClampNeg (r.1, r.1, r.2.2.2, r.2.2.2)) w' → Q (.inl (some (.int 0))) w') : WP (MX3_outer g) Q (0, [some (.ref y), some (.int a0), some (.int a1), none], [], w, 0, 0) := by
  simp only [eX3_outer_0, wt_nil, Nat.add_zero]
  with_reducible refine And.intro ?_ ?_
  with_reducible refine go_S (by assumption) (fun _ _ hY => ?_)
  with_reducible exact trivial
  with_reducible refine And.intro ?_ ?_
  omega
  with_reducible refine And.intro ?_ ?_
  omega
  with_reducible refine And.intro ?_ ?_
  omega
  with_reducible refine fX3_isNoPair (by assumption) (fun _ w1 h1 => ?_) (fun _ _ _ w1 h1 => ?_) (fun ka kc r e1 w1 h1 => ?_)
  simp only [eX3_outer_6, eX3_outer_9, eX3_outer_11, eX3_outer_15, i10, if_false, kx_l, tl_s]
  with_reducible refine And.intro ?_ ?_
  omega
  with_reducible refine And.intro ?_ ?_
  omega
  with_reducible exact hX (by assumption) _ (by assumption)
  simp only [eX3_outer_6, eX3_outer_9, eX3_outer_11, eX3_outer_15, i10, if_false, kx_l, tl_s]
  with_reducible refine And.intro ?_ ?_
  omega
  with_reducible refine And.intro ?_ ?_
  omega
  with_reducible exact hS (by assumption) (by assumption) (by assumption) _ (by assumption)
  simp only [eX3_outer_6, eX3_outer_9, eX3_outer_11, eX3_outer_15, if_true, kx_l, tl_s]
  with_reducible refine go_S (by assumption) (fun _ _ hY => ?_)
  simp only [eX3_outer_16, wt_nil, g0, gS, ex1, Nat.add_zero]
  with_reducible refine And.intro ?_ ?_
  with_reducible exact MS.gC (by assumption) (by assumption)
  with_reducible refine And.intro ?_ ?_
  omega
  with_reducible refine And.intro ?_ ?_
  omega
  with_reducible refine And.intro ?_ ?_
  omega
  with_reducible refine sGetK (by assumption) (by assumption) (by assumption) (by assumption) (fun _ hb => ?_)
  simp only [eX3_outer_19R, eX3_outer_22, eX3_outer_28, eX3_outer_31, eX3_outer_34, eX3_outer_37, kx_l, wt_nil, nl_int, tl_s, Nat.zero_add]
  with_reducible refine And.intro ?_ ?_
  with_reducible exact rowA.ca (by assumption)
  with_reducible refine gl_A (by assumption) ?_
  with_reducible refine And.intro ?_ ?_
  with_reducible exact vpi4.1
  (simp only [rv0, rv1, rv2, rv3])
  with_reducible refine gl_A (by assumption) ?_
  with_reducible refine And.intro ?_ ?_
  with_reducible exact vpi4.1
  (simp only [rv0, rv1, rv2, rv3])
  with_reducible refine gl_A (by assumption) ?_
  with_reducible refine And.intro ?_ ?_
  with_reducible exact vpi4.2.2.2
  (simp only [rv0, rv1, rv2, rv3])
  with_reducible refine gl_A (by assumption) ?_
  with_reducible refine And.intro ?_ ?_
  with_reducible exact vpi4.2.2.2
  with_reducible refine And.intro ?_ ?_
  with_reducible refine go_S (by assumption) (fun _ _ hY => ?_)
  with_reducible exact trivial
  with_reducible refine And.intro ?_ ?_
  omega
  with_reducible refine And.intro ?_ ?_
  omega
  with_reducible refine And.intro ?_ ?_
  omega
  (simp only [rv0, rv1, rv2, rv3])
  with_reducible refine fX3_makeR (by assumption) (by assumption) (fun hyes w3 h3 z3 => ?_) (fun hno w3 h3 => ?_)
  simp only [eX3_outer_40, kx_l, wt_nil, tl_s, Nat.add_zero]
  with_reducible refine And.intro ?_ ?_
  omega
  with_reducible refine And.intro ?_ ?_
  omega
  with_reducible refine And.intro ?_ ?_
  omega
  with_reducible refine fX3_fixed (MS.rA h1 z3 hb) (fun hm => ?_) (fun hm => ?_)
  simp only [eX3_outer_45, kx_l, wt_nil, tl_s, Nat.add_zero]
  with_reducible refine And.intro ?_ ?_
  omega
  with_reducible refine And.intro ?_ ?_
  omega
  with_reducible refine And.intro ?_ ?_
  omega
  with_reducible refine fX3_one (Or.inr rfl) ?_
  simp only [eX3_outer_48, kx_l, tl_s]
  with_reducible refine And.intro ?_ ?_
  omega
  with_reducible refine And.intro ?_ ?_
  omega
  with_reducible exact hT ka kc r e1 hm _ h3
  simp only [eX3_outer_45, kx_l, wt_nil, tl_s, Nat.add_zero]
  with_reducible refine And.intro ?_ ?_
  omega
  with_reducible refine And.intro ?_ ?_
  omega
  with_reducible refine And.intro ?_ ?_
  omega
  with_reducible refine fX3_one (Or.inl rfl) ?_
  simp only [eX3_outer_48, kx_l, tl_s]
  with_reducible refine And.intro ?_ ?_
  omega
  with_reducible refine And.intro ?_ ?_
  omega
  with_reducible exact hF ka kc r e1 hm _ h3
  with_reducible exact absurd (oOut (ho.c kc e1)) hno
set_option maxHeartbeats 4000000 in
theorem fX3_inner {a0 a1 : Int32} (hM : MS g w0 y nM kd th s w) (hX : ¬ (okC a0 ∧ okC a1) → ∀ w', MS g w0 y nM kd 1 s w' → Q (.inl (some (.int 0))) w') (hS : okC a0 → okC a1 → s.2.1 a1.toNatClampNeg = none → ∀ w', MS g w0 y nM kd 2 s w' → Q (.inl (some (.int 0))) w') (hT : okC a0 → okC a1 → ∀ r, s.2.1 a1.toNatClampNeg = some r → oP r.2.1 r.2.1 r.2.2.1 r.2.2.1 → ∀ w', MS g w0 y nM kd 0 (sMk s a0.toNatClampNeg (r.2.1, r.2.1, r.2.2.1, r.2.2.1)) w' → Q (.inl (some (.int 1))) w') (hF : okC a0 → okC a1 → ∀ r, s.2.1 a1.toNatClampNeg = some r → ¬ oP r.2.1 r.2.1 r.2.2.1 r.2.2.1 → ∀ w', MS g w0 y nM kd 0 (sRf s) w' → Q (.inl (some (.int (-9)))) w') : WP (MX3_inner g) Q (0, [some (.ref y), some (.int a0), some (.int a1), none], [], w, 0, 0) := by
  simp only [eX3_inner_0, wt_nil, Nat.add_zero]
  with_reducible refine And.intro ?_ ?_
  with_reducible refine go_S (by assumption) (fun _ _ hY => ?_)
  with_reducible exact trivial
  with_reducible refine And.intro ?_ ?_
  omega
  with_reducible refine And.intro ?_ ?_
  omega
  with_reducible refine And.intro ?_ ?_
  omega
  with_reducible refine fX3_isNoPair (by assumption) (fun _ w1 h1 => ?_) (fun _ _ _ w1 h1 => ?_) (fun ka kc r e1 w1 h1 => ?_)
  simp only [eX3_inner_6, eX3_inner_9, eX3_inner_11, eX3_inner_15, i10, if_false, kx_l, tl_s]
  with_reducible refine And.intro ?_ ?_
  omega
  with_reducible refine And.intro ?_ ?_
  omega
  with_reducible exact hX (by assumption) _ (by assumption)
  simp only [eX3_inner_6, eX3_inner_9, eX3_inner_11, eX3_inner_15, i10, if_false, kx_l, tl_s]
  with_reducible refine And.intro ?_ ?_
  omega
  with_reducible refine And.intro ?_ ?_
  omega
  with_reducible exact hS (by assumption) (by assumption) (by assumption) _ (by assumption)
  simp only [eX3_inner_6, eX3_inner_9, eX3_inner_11, eX3_inner_15, if_true, kx_l, tl_s]
  with_reducible refine go_S (by assumption) (fun _ _ hY => ?_)
  simp only [eX3_inner_16, wt_nil, g0, gS, ex1, Nat.add_zero]
  with_reducible refine And.intro ?_ ?_
  with_reducible exact MS.gC (by assumption) (by assumption)
  with_reducible refine And.intro ?_ ?_
  omega
  with_reducible refine And.intro ?_ ?_
  omega
  with_reducible refine And.intro ?_ ?_
  omega
  with_reducible refine sGetK (by assumption) (by assumption) (by assumption) (by assumption) (fun _ hb => ?_)
  simp only [eX3_inner_19R, eX3_inner_22, eX3_inner_28, eX3_inner_31, eX3_inner_34, eX3_inner_37, kx_l, wt_nil, nl_int, tl_s, Nat.zero_add]
  with_reducible refine And.intro ?_ ?_
  with_reducible exact rowA.ca (by assumption)
  with_reducible refine gl_A (by assumption) ?_
  with_reducible refine And.intro ?_ ?_
  with_reducible exact vpi4.2.1
  (simp only [rv0, rv1, rv2, rv3])
  with_reducible refine gl_A (by assumption) ?_
  with_reducible refine And.intro ?_ ?_
  with_reducible exact vpi4.2.1
  (simp only [rv0, rv1, rv2, rv3])
  with_reducible refine gl_A (by assumption) ?_
  with_reducible refine And.intro ?_ ?_
  with_reducible exact vpi4.2.2.1
  (simp only [rv0, rv1, rv2, rv3])
  with_reducible refine gl_A (by assumption) ?_
  with_reducible refine And.intro ?_ ?_
  with_reducible exact vpi4.2.2.1
  with_reducible refine And.intro ?_ ?_
  with_reducible refine go_S (by assumption) (fun _ _ hY => ?_)
  with_reducible exact trivial
  with_reducible refine And.intro ?_ ?_
  omega
  with_reducible refine And.intro ?_ ?_
  omega
  with_reducible refine And.intro ?_ ?_
  omega
  (simp only [rv0, rv1, rv2, rv3])
  with_reducible refine fX3_make (by assumption) (by assumption) (fun hyes w3 h3 => ?_) (fun hno w3 h3 => ?_)
  simp only [eX3_inner_40, kx_l, tl_s]
  with_reducible refine And.intro ?_ ?_
  omega
  with_reducible refine And.intro ?_ ?_
  omega
  with_reducible exact hT ka kc r e1 hyes _ h3
  simp only [eX3_inner_40, kx_l, tl_s]
  with_reducible refine And.intro ?_ ?_
  omega
  with_reducible refine And.intro ?_ ?_
  omega
  with_reducible exact hF ka kc r e1 hno _ h3
set_option maxHeartbeats 4000000 in
theorem fX3_shift {a0 a1 : Int32} (hM : MS g w0 y nM kd th s w) (hX : ¬ (okC a0) → ∀ w', MS g w0 y nM kd 1 s w' → Q (.inl (some (.int 0))) w') (hS : okC a0 → s.2.1 a0.toNatClampNeg = none → ∀ w', MS g w0 y nM kd 2 s w' → Q (.inl (some (.int 0))) w') (hT : okC a0 → ∀ r, s.2.1 a0.toNatClampNeg = some r → oP (r.1 + a1.toInt64) (r.2.1 + a1.toInt64) (r.2.2.1 + a1.toInt64) (r.2.2.2 + a1.toInt64) → ∀ w', MS g w0 y nM kd 0 (sMk s a0.toNatClampNeg (r.1 + a1.toInt64, r.2.1 + a1.toInt64, r.2.2.1 + a1.toInt64, r.2.2.2 + a1.toInt64)) w' → Q (.inl (some (.int 1))) w') (hF : okC a0 → ∀ r, s.2.1 a0.toNatClampNeg = some r → ¬ oP (r.1 + a1.toInt64) (r.2.1 + a1.toInt64) (r.2.2.1 + a1.toInt64) (r.2.2.2 + a1.toInt64) → ∀ w', MS g w0 y nM kd 0 (sRf s) w' → Q (.inl (some (.int (-9)))) w') : WP (MX3_shift g) Q (0, [some (.ref y), some (.int a0), some (.int a1), none], [], w, 0, 0) := by
  simp only [eX3_shift_0, wt_nil, Nat.add_zero]
  with_reducible refine And.intro ?_ ?_
  with_reducible refine go_S (by assumption) (fun _ _ hY => ?_)
  with_reducible exact trivial
  with_reducible refine And.intro ?_ ?_
  omega
  with_reducible refine And.intro ?_ ?_
  omega
  with_reducible refine And.intro ?_ ?_
  omega
  with_reducible refine fX3_isNone (by assumption) (fun _ w1 h1 => ?_) (fun _ _ w1 h1 => ?_) (fun ka r e1 w1 h1 => ?_)
  simp only [eX3_shift_5, eX3_shift_8, eX3_shift_10, eX3_shift_14, i10, if_false, kx_l, tl_s]
  with_reducible refine And.intro ?_ ?_
  omega
  with_reducible refine And.intro ?_ ?_
  omega
  with_reducible exact hX (fun h => absurd h (by assumption)) _ (by assumption)
  simp only [eX3_shift_5, eX3_shift_8, eX3_shift_10, eX3_shift_14, i10, if_false, kx_l, tl_s]
  with_reducible refine And.intro ?_ ?_
  omega
  with_reducible refine And.intro ?_ ?_
  omega
  with_reducible exact hS (by assumption) (by assumption) _ (by assumption)
  simp only [eX3_shift_5, eX3_shift_8, eX3_shift_10, eX3_shift_14, if_true, kx_l, tl_s]
  with_reducible refine go_S (by assumption) (fun _ _ hY => ?_)
  simp only [eX3_shift_15, wt_nil, g0, gS, ex1, Nat.add_zero]
  with_reducible refine And.intro ?_ ?_
  with_reducible exact MS.gC (by assumption) (by assumption)
  with_reducible refine And.intro ?_ ?_
  omega
  with_reducible refine And.intro ?_ ?_
  omega
  with_reducible refine And.intro ?_ ?_
  omega
  with_reducible refine sGetK (by assumption) (by assumption) (by assumption) (by assumption) (fun _ hb => ?_)
  simp only [eX3_shift_18R, eX3_shift_21, eX3_shift_27, eX3_shift_33, eX3_shift_39, eX3_shift_45, kx_l, wt_nil, nl_int, tl_s, Nat.zero_add]
  with_reducible refine And.intro ?_ ?_
  with_reducible exact rowA.ca (by assumption)
  with_reducible refine gl_A (by assumption) ?_
  with_reducible refine And.intro ?_ ?_
  with_reducible exact vpi4.1
  (simp only [rv0, rv1, rv2, rv3])
  with_reducible refine gl_A (by assumption) ?_
  with_reducible refine And.intro ?_ ?_
  with_reducible exact vpi4.2.1
  (simp only [rv0, rv1, rv2, rv3])
  with_reducible refine gl_A (by assumption) ?_
  with_reducible refine And.intro ?_ ?_
  with_reducible exact vpi4.2.2.1
  (simp only [rv0, rv1, rv2, rv3])
  with_reducible refine gl_A (by assumption) ?_
  with_reducible refine And.intro ?_ ?_
  with_reducible exact vpi4.2.2.2
  with_reducible refine And.intro ?_ ?_
  with_reducible refine go_S (by assumption) (fun _ _ hY => ?_)
  with_reducible exact trivial
  with_reducible refine And.intro ?_ ?_
  omega
  with_reducible refine And.intro ?_ ?_
  omega
  with_reducible refine And.intro ?_ ?_
  omega
  (simp only [rv0, rv1, rv2, rv3])
  with_reducible refine fX3_make (by assumption) (by assumption) (fun hyes w3 h3 => ?_) (fun hno w3 h3 => ?_)
  simp only [eX3_shift_51, kx_l, tl_s]
  with_reducible refine And.intro ?_ ?_
  omega
  with_reducible refine And.intro ?_ ?_
  omega
  with_reducible exact hT ka r e1 hyes _ h3
  simp only [eX3_shift_51, kx_l, tl_s]
  with_reducible refine And.intro ?_ ?_
  omega
  with_reducible refine And.intro ?_ ?_
  omega
  with_reducible exact hF ka r e1 hno _ h3
set_option maxHeartbeats 4000000 in
theorem fX3_span {a0 a1 a2 : Int32} (hM : MS g w0 y nM kd th s w) (hX : ¬ (okC a0 ∧ okC a1 ∧ okC a2) → ∀ w', MS g w0 y nM kd 1 s w' → Q (.inl (some (.int 0))) w') (hS : okC a0 → okC a1 → okC a2 → (s.2.1 a1.toNatClampNeg = none ∨ s.2.1 a2.toNatClampNeg = none) → ∀ w', MS g w0 y nM kd 2 s w' → Q (.inl (some (.int 0))) w') (hT : okC a0 → okC a1 → okC a2 → ∀ r q, s.2.1 a1.toNatClampNeg = some r → s.2.1 a2.toNatClampNeg = some q → oP r.1 r.2.1 q.2.2.1 q.2.2.2 → ∀ w', MS g w0 y nM kd 0 (sMk s a0.toNatClampNeg (r.1, r.2.1, q.2.2.1, q.2.2.2)) w' → Q (.inl (some (.int 1))) w') (hF : okC a0 → okC a1 → okC a2 → ∀ r q, s.2.1 a1.toNatClampNeg = some r → s.2.1 a2.toNatClampNeg = some q → ¬ oP r.1 r.2.1 q.2.2.1 q.2.2.2 → ∀ w', MS g w0 y nM kd 0 (sRf s) w' → Q (.inl (some (.int (-9)))) w') : WP (MX3_span g) Q (0, [some (.ref y), some (.int a0), some (.int a1), some (.int a2)], [], w, 0, 0) := by
  simp only [eX3_span_0, wt_nil, wt_ref, Nat.add_zero]
  with_reducible refine And.intro ?_ ?_
  omega
  with_reducible refine And.intro ?_ ?_
  omega
  with_reducible refine And.intro ?_ ?_
  omega
  with_reducible refine fX3_isNoCard (fun _ => ?_) (fun _ => ?_)
  simp only [eX3_span_5, eX3_span_8, eX3_span_22, eX3_span_27, i10, if_false, kx_l, wt_nil, wt_ref, tl_s, Nat.add_zero]
  with_reducible refine And.intro ?_ ?_
  with_reducible refine go_S (by assumption) (fun _ _ hY => ?_)
  with_reducible exact trivial
  with_reducible refine And.intro ?_ ?_
  omega
  with_reducible refine And.intro ?_ ?_
  omega
  with_reducible refine And.intro ?_ ?_
  omega
  with_reducible refine fX3_start (by assumption) (by decide) (fun _ w1 h1 => ?_) (fun _ w1 h1 => ?_)
  with_reducible exact absurd (by assumption) n10'
  simp only [eX3_span_31, eX3_span_34, eX3_span_63, i10, if_false, kx_l, wt_nil, wt_ref, tl_s, Nat.add_zero]
  with_reducible refine And.intro ?_ ?_
  omega
  with_reducible refine And.intro ?_ ?_
  omega
  with_reducible exact hX (fun h => absurd h.1 (by assumption)) _ (by assumption)
  simp only [eX3_span_5, eX3_span_8, eX3_span_22, eX3_span_27, if_true, kx_l, wt_nil, wt_ref, tl_s, Nat.add_zero]
  with_reducible refine And.intro ?_ ?_
  omega
  with_reducible refine And.intro ?_ ?_
  omega
  with_reducible refine And.intro ?_ ?_
  omega
  with_reducible refine fX3_isNoCard (fun _ => ?_) (fun _ => ?_)
  simp only [eX3_span_12, eX3_span_15, eX3_span_22, eX3_span_27, i10, if_false, kx_l, wt_nil, wt_ref, tl_s, Nat.add_zero]
  with_reducible refine And.intro ?_ ?_
  with_reducible refine go_S (by assumption) (fun _ _ hY => ?_)
  with_reducible exact trivial
  with_reducible refine And.intro ?_ ?_
  omega
  with_reducible refine And.intro ?_ ?_
  omega
  with_reducible refine And.intro ?_ ?_
  omega
  with_reducible refine fX3_start (by assumption) (by decide) (fun _ w1 h1 => ?_) (fun _ w1 h1 => ?_)
  with_reducible exact absurd (by assumption) n10'
  simp only [eX3_span_31, eX3_span_34, eX3_span_63, i10, if_false, kx_l, wt_nil, wt_ref, tl_s, Nat.add_zero]
  with_reducible refine And.intro ?_ ?_
  omega
  with_reducible refine And.intro ?_ ?_
  omega
  with_reducible exact hX (fun h => absurd h.2.1 (by assumption)) _ (by assumption)
  simp only [eX3_span_12, eX3_span_15, eX3_span_22, eX3_span_27, if_true, kx_l, wt_nil, wt_ref, tl_s, Nat.add_zero]
  with_reducible refine And.intro ?_ ?_
  omega
  with_reducible refine And.intro ?_ ?_
  omega
  with_reducible refine And.intro ?_ ?_
  omega
  with_reducible refine fX3_isNoCard (fun _ => ?_) (fun _ => ?_)
  simp only [eX3_span_19, eX3_span_22, eX3_span_26, eX3_span_27, i10, if_false, kx_l, wt_nil, tl_s, Nat.add_zero]
  with_reducible refine And.intro ?_ ?_
  with_reducible refine go_S (by assumption) (fun _ _ hY => ?_)
  with_reducible exact trivial
  with_reducible refine And.intro ?_ ?_
  omega
  with_reducible refine And.intro ?_ ?_
  omega
  with_reducible refine And.intro ?_ ?_
  omega
  with_reducible refine fX3_start (by assumption) (by decide) (fun _ w1 h1 => ?_) (fun _ w1 h1 => ?_)
  with_reducible exact absurd (by assumption) n10'
  simp only [eX3_span_31, eX3_span_34, eX3_span_63, i10, if_false, kx_l, wt_nil, wt_ref, tl_s, Nat.add_zero]
  with_reducible refine And.intro ?_ ?_
  omega
  with_reducible refine And.intro ?_ ?_
  omega
  with_reducible exact hX (fun h => absurd h.2.2 (by assumption)) _ (by assumption)
  simp only [eX3_span_19, eX3_span_22, eX3_span_26, eX3_span_27, if_true, kx_l, wt_nil, tl_s, Nat.add_zero]
  with_reducible refine And.intro ?_ ?_
  with_reducible refine go_S (by assumption) (fun _ _ hY => ?_)
  with_reducible exact trivial
  with_reducible refine And.intro ?_ ?_
  omega
  with_reducible refine And.intro ?_ ?_
  omega
  with_reducible refine And.intro ?_ ?_
  omega
  with_reducible refine fX3_start (by assumption) (by decide) (fun _ w1 h1 => ?_) (fun _ w1 h1 => ?_)
  simp only [eX3_span_31, eX3_span_34, eX3_span_63, if_true, kx_l, wt_nil, wt_ref, tl_s, Nat.add_zero]
  with_reducible refine And.intro ?_ ?_
  with_reducible refine go_S (by assumption) (fun _ _ hY => ?_)
  with_reducible exact trivial
  with_reducible refine And.intro ?_ ?_
  omega
  with_reducible refine And.intro ?_ ?_
  omega
  with_reducible refine And.intro ?_ ?_
  omega
  with_reducible refine fX3_isBare (by assumption) (by assumption) (fun _ => ?_) (fun _ _ => ?_)
  simp only [eX3_span_40, eX3_span_43, eX3_span_51, eX3_span_56, i10, if_false, kx_l, wt_nil, wt_ref, tl_s, Nat.add_zero]
  with_reducible refine And.intro ?_ ?_
  with_reducible refine go_S (by assumption) (fun _ _ hY => ?_)
  with_reducible exact trivial
  with_reducible refine And.intro ?_ ?_
  omega
  with_reducible refine And.intro ?_ ?_
  omega
  with_reducible refine And.intro ?_ ?_
  omega
  with_reducible refine fX3_refuse (by assumption) (by decide) (fun _ => ?_) (fun _ w2 h2 => ?_)
  with_reducible exact absurd (by assumption) n10'
  simp only [eX3_span_60, eX3_span_63, eX3_span_65, eX3_span_71, i10, if_false, kx_l, tl_s]
  with_reducible refine And.intro ?_ ?_
  omega
  with_reducible refine And.intro ?_ ?_
  omega
  with_reducible exact hS (by assumption) (by assumption) (by assumption) (Or.inl (by assumption)) _ (by assumption)
  simp only [eX3_span_40, eX3_span_43, eX3_span_51, eX3_span_56, if_true, kx_l, wt_nil, wt_ref, tl_s, Nat.add_zero]
  with_reducible refine And.intro ?_ ?_
  with_reducible refine go_S (by assumption) (fun _ _ hY => ?_)
  with_reducible exact trivial
  with_reducible refine And.intro ?_ ?_
  omega
  with_reducible refine And.intro ?_ ?_
  omega
  with_reducible refine And.intro ?_ ?_
  omega
  with_reducible refine fX3_isBare (by assumption) (by assumption) (fun _ => ?_) (fun _ _ => ?_)
  simp only [eX3_span_48, eX3_span_51, eX3_span_55, eX3_span_56, i10, if_false, kx_l, wt_nil, tl_s, Nat.add_zero]
  with_reducible refine And.intro ?_ ?_
  with_reducible refine go_S (by assumption) (fun _ _ hY => ?_)
  with_reducible exact trivial
  with_reducible refine And.intro ?_ ?_
  omega
  with_reducible refine And.intro ?_ ?_
  omega
  with_reducible refine And.intro ?_ ?_
  omega
  with_reducible refine fX3_refuse (by assumption) (by decide) (fun _ => ?_) (fun _ w2 h2 => ?_)
  with_reducible exact absurd (by assumption) n10'
  simp only [eX3_span_60, eX3_span_63, eX3_span_65, eX3_span_71, i10, if_false, kx_l, tl_s]
  with_reducible refine And.intro ?_ ?_
  omega
  with_reducible refine And.intro ?_ ?_
  omega
  with_reducible exact hS (by assumption) (by assumption) (by assumption) (Or.inr (by assumption)) _ (by assumption)
  simp only [eX3_span_48, eX3_span_51, eX3_span_55, eX3_span_56, if_true, kx_l, wt_nil, tl_s, Nat.add_zero]
  with_reducible refine And.intro ?_ ?_
  with_reducible refine go_S (by assumption) (fun _ _ hY => ?_)
  with_reducible exact trivial
  with_reducible refine And.intro ?_ ?_
  omega
  with_reducible refine And.intro ?_ ?_
  omega
  with_reducible refine And.intro ?_ ?_
  omega
  with_reducible refine fX3_refuse (by assumption) (by decide) (fun _ => ?_) (fun _ w2 h2 => ?_)
  simp only [eX3_span_60, eX3_span_63, eX3_span_65, eX3_span_71, if_true, kx_l, tl_s]
  with_reducible refine go_S (by assumption) (fun _ _ hY => ?_)
  simp only [eX3_span_72, wt_nil, wt_int, wt_ref, g0, gS, ex1, Nat.add_zero]
  with_reducible refine And.intro ?_ ?_
  with_reducible exact MS.gC (by assumption) (by assumption)
  with_reducible refine And.intro ?_ ?_
  omega
  with_reducible refine And.intro ?_ ?_
  omega
  with_reducible refine And.intro ?_ ?_
  omega
  with_reducible refine sGetK (by assumption) (by assumption) (by assumption) (by assumption) (fun _ hb => ?_)
  simp only [eX3_span_75R, eX3_span_78, eX3_span_80, eX3_span_84, kx_l, tl_s]
  with_reducible refine And.intro ?_ ?_
  with_reducible exact rowA.ca (by assumption)
  with_reducible refine gl_A (by assumption) ?_
  with_reducible refine And.intro ?_ ?_
  with_reducible exact vpi4.1
  with_reducible refine go_S (by assumption) (fun _ _ hY => ?_)
  (simp only [rv0, rv1, rv2, rv3])
  simp only [eX3_span_85, wt_nil, wt_int, wt_long, wt_ref, g0, gS, ex1, Nat.add_zero]
  with_reducible refine And.intro ?_ ?_
  with_reducible exact MS.gC (by assumption) (by assumption)
  with_reducible refine And.intro ?_ ?_
  omega
  with_reducible refine And.intro ?_ ?_
  omega
  with_reducible refine And.intro ?_ ?_
  omega
  with_reducible refine sGetK (by assumption) (by assumption) (by assumption) (by assumption) (fun _ hb => ?_)
  simp only [eX3_span_88R, eX3_span_91, eX3_span_93, eX3_span_97, kx_l, tl_s]
  with_reducible refine And.intro ?_ ?_
  with_reducible exact rowA.ca (by assumption)
  with_reducible refine gl_A (by assumption) ?_
  with_reducible refine And.intro ?_ ?_
  with_reducible exact vpi4.2.1
  with_reducible refine go_S (by assumption) (fun _ _ hY => ?_)
  (simp only [rv0, rv1, rv2, rv3])
  simp only [eX3_span_98, wt_nil, wt_int, wt_long, wt_ref, g0, gS, ex1, Nat.add_zero]
  with_reducible refine And.intro ?_ ?_
  with_reducible exact MS.gC (by assumption) (by assumption)
  with_reducible refine And.intro ?_ ?_
  omega
  with_reducible refine And.intro ?_ ?_
  omega
  with_reducible refine And.intro ?_ ?_
  omega
  with_reducible refine sGetK (by assumption) (by assumption) (by assumption) (by assumption) (fun _ hb => ?_)
  simp only [eX3_span_101R, eX3_span_104, eX3_span_106, eX3_span_110, kx_l, tl_s]
  with_reducible refine And.intro ?_ ?_
  with_reducible exact rowA.ca (by assumption)
  with_reducible refine gl_A (by assumption) ?_
  with_reducible refine And.intro ?_ ?_
  with_reducible exact vpi4.2.2.1
  with_reducible refine go_S (by assumption) (fun _ _ hY => ?_)
  (simp only [rv0, rv1, rv2, rv3])
  simp only [eX3_span_111, wt_nil, wt_int, wt_long, wt_ref, g0, gS, ex1, Nat.add_zero]
  with_reducible refine And.intro ?_ ?_
  with_reducible exact MS.gC (by assumption) (by assumption)
  with_reducible refine And.intro ?_ ?_
  omega
  with_reducible refine And.intro ?_ ?_
  omega
  with_reducible refine And.intro ?_ ?_
  omega
  with_reducible refine sGetK (by assumption) (by assumption) (by assumption) (by assumption) (fun _ hb => ?_)
  simp only [eX3_span_114R, eX3_span_117, eX3_span_119, kx_l, wt_nil, tl_s, Nat.zero_add]
  with_reducible refine And.intro ?_ ?_
  with_reducible exact rowA.ca (by assumption)
  with_reducible refine gl_A (by assumption) ?_
  with_reducible refine And.intro ?_ ?_
  with_reducible exact vpi4.2.2.2
  with_reducible refine And.intro ?_ ?_
  with_reducible refine go_S (by assumption) (fun _ _ hY => ?_)
  with_reducible exact trivial
  with_reducible refine And.intro ?_ ?_
  omega
  with_reducible refine And.intro ?_ ?_
  omega
  with_reducible refine And.intro ?_ ?_
  omega
  (simp only [rv0, rv1, rv2, rv3])
  with_reducible refine fX3_make (by assumption) (by assumption) (fun hyes w3 h3 => ?_) (fun hno w3 h3 => ?_)
  simp only [eX3_span_122, kx_l, tl_s]
  with_reducible refine And.intro ?_ ?_
  omega
  with_reducible refine And.intro ?_ ?_
  omega
  with_reducible exact hT (by assumption) (by assumption) (by assumption) _ _ (by assumption) (by assumption) hyes _ h3
  simp only [eX3_span_122, kx_l, tl_s]
  with_reducible refine And.intro ?_ ?_
  omega
  with_reducible refine And.intro ?_ ?_
  omega
  with_reducible exact hF (by assumption) (by assumption) (by assumption) _ _ (by assumption) (by assumption) hno _ h3
  with_reducible exact n00x (by assumption)
  with_reducible exact n00x (by assumption)
end
end
