section
section
variable {g : RO} {Q : Ot → Hw → Prop} {w0 w : Hw}
variable {y nM : Nat} {kd : Int32}
set_option maxHeartbeats 8000000 in
theorem elX3_digest_152 {w' : Hw} {b k m : Nat} {i3 : Int32} (hk : ext g w w') (hb : isRow w' b) (hkk : k ≤ 90) (hmm : m ≤ 520) (hK : ∀ (i1 : Int64) (i5 : Int32), WP (MX3_digest g) Q (214, [some (.ref y), some (.long i1), none, some (.int i3), some (.ref b), some (.int i5)], [], w', k, m)) : ∀ (d : Nat) (i1 : Int64) (i5 : Int32), ¬ i5 < 0 → 4 - i5.toInt ≤ (d : Int) → WP (MX3_digest g) Q (152, [some (.ref y), some (.long i1), none, some (.int i3), some (.ref b), some (.int i5)], [], w', k, m) := by
  have zb : (4 : Int32).toInt = 4 := rfl
  intro d
  induction d with
  | zero =>
    intro i1 i5 z0 hm
    rw [eX3_digest_152]
    simp only [eX3_digest_154, eX3_digest_158, eX3_digest_164, ite_le, wt_nil, wt_long, Nat.add_zero]
    split
    with_reducible exact (by exfalso; have e := dl2 (c := 4) (i := i5) (by assumption); omega)
    with_reducible exact hK _ _
  | succ d ih =>
    intro i1 i5 z0 hm
    rw [eX3_digest_152]
    simp only [eX3_digest_154, eX3_digest_158, eX3_digest_164, ite_le, wt_nil, wt_long, Nat.add_zero]
    split
    with_reducible refine gl_Row (by first | assumption | exact CAt.row (by assumption) | exact isRow.ext (CAt.row (by assumption)) (by assumption)) (fun _ => ?_)
    with_reducible refine And.intro ?_ ?_
    with_reducible exact vpi4l (by assumption) (by assumption)
    with_reducible refine And.intro ?_ ?_
    omega
    with_reducible refine And.intro ?_ ?_
    with_reducible assumption
    with_reducible refine And.intro ?_ ?_
    with_reducible assumption
    with_reducible refine sX3_high (fun _ => ?_)
    simp only [eX3_digest_167, eX3_digest_171, eX3_digest_176, kx_l, wt_nil, tl_s, Nat.add_zero]
    with_reducible refine And.intro ?_ ?_
    omega
    with_reducible refine And.intro ?_ ?_
    with_reducible assumption
    with_reducible refine And.intro ?_ ?_
    with_reducible assumption
    with_reducible refine sX3_add (fun _ => ?_)
    simp only [kx_l, wt_nil, wt_long, tl_s, Nat.add_zero]
    with_reducible refine gl_Row (by first | assumption | exact CAt.row (by assumption) | exact isRow.ext (CAt.row (by assumption)) (by assumption)) (fun _ => ?_)
    with_reducible refine And.intro ?_ ?_
    with_reducible exact vpi4l (by assumption) (by assumption)
    with_reducible refine And.intro ?_ ?_
    omega
    with_reducible refine And.intro ?_ ?_
    with_reducible assumption
    with_reducible refine And.intro ?_ ?_
    with_reducible assumption
    with_reducible refine sX3_low (fun _ => ?_)
    simp only [eX3_digest_179, eX3_digest_183, kx_l, wt_nil, tl_s, Nat.add_zero]
    with_reducible refine And.intro ?_ ?_
    omega
    with_reducible refine And.intro ?_ ?_
    with_reducible assumption
    with_reducible refine And.intro ?_ ?_
    with_reducible assumption
    with_reducible refine sX3_add (fun _ => ?_)
    simp only [kx_l, wt_nil, wt_long, tl_s, Nat.add_zero]
    with_reducible refine And.intro ?_ ?_
    omega
    with_reducible refine And.intro ?_ ?_
    with_reducible assumption
    with_reducible refine And.intro ?_ ?_
    with_reducible assumption
    with_reducible refine sX3_aroundNow (by first | assumption | exact CAt.row (by assumption) | exact isRow.ext (CAt.row (by assumption)) (by assumption)) (by assumption) (by first | assumption | exact lt43 (by assumption)) (fun _ => ?_)
    simp only [eX3_digest_191, eX3_digest_195, kx_l, wt_nil, tl_s, Nat.add_zero]
    with_reducible refine And.intro ?_ ?_
    omega
    with_reducible refine And.intro ?_ ?_
    with_reducible assumption
    with_reducible refine And.intro ?_ ?_
    with_reducible assumption
    with_reducible refine sX3_add (fun _ => ?_)
    simp only [kx_l, wt_nil, wt_long, tl_s, Nat.add_zero]
    with_reducible refine And.intro ?_ ?_
    omega
    with_reducible refine And.intro ?_ ?_
    with_reducible assumption
    with_reducible refine And.intro ?_ ?_
    with_reducible assumption
    with_reducible refine sX3_aroundNow (by first | assumption | exact CAt.row (by assumption) | exact isRow.ext (CAt.row (by assumption)) (by assumption)) (by assumption) (by first | assumption | exact lt43 (by assumption)) (fun _ => ?_)
    simp only [eX3_digest_203, kx_l, wt_nil, tl_s, Nat.add_zero]
    with_reducible refine And.intro ?_ ?_
    omega
    with_reducible refine And.intro ?_ ?_
    with_reducible assumption
    with_reducible refine And.intro ?_ ?_
    with_reducible assumption
    with_reducible refine sX3_add (fun _ => ?_)
    simp only [eX3_digest_207, kx_l, nl_ref, tl_s]
    with_reducible exact ih _ _ (ic_p (by assumption) (by assumption)) (by have e := dl2 (c := 4) (i := i5) (by assumption); omega)
    with_reducible exact hK _ _
set_option maxHeartbeats 8000000 in
theorem elX3_digest_283 {w' : Hw} {b k m : Nat} {i3 : Int32} (hk : ext g w w') (hb : isRow w' b) (hkk : k ≤ 90) (hmm : m ≤ 520) (hK : ∀ (i1 : Int64) (i5 : Int32), WP (MX3_digest g) Q (308, [some (.ref y), some (.long i1), none, some (.int i3), some (.ref b), some (.int i5)], [], w', k, m)) : ∀ (d : Nat) (i1 : Int64) (i5 : Int32), 2 - i5.toInt ≤ (d : Int) → WP (MX3_digest g) Q (283, [some (.ref y), some (.long i1), none, some (.int i3), some (.ref b), some (.int i5)], [], w', k, m) := by
  have zb : (1 : Int32).toInt = 1 := rfl
  intro d
  induction d with
  | zero =>
    intro i1 i5 hm
    rw [eX3_digest_283]
    simp only [eX3_digest_285, eX3_digest_289, wt_nil, wt_long, Nat.add_zero]
    split
    with_reducible exact hK _ _
    with_reducible refine And.intro ?_ ?_
    with_reducible exact (by exfalso; have e := dl1 (c := 1) (i := i5) (by assumption) (by decide); omega)
    with_reducible refine And.intro ?_ ?_
    with_reducible assumption
    with_reducible refine And.intro ?_ ?_
    with_reducible assumption
    with_reducible exact (by exfalso; have e := dl1 (c := 1) (i := i5) (by assumption) (by decide); omega)
  | succ d ih =>
    intro i1 i5 hm
    rw [eX3_digest_283]
    simp only [eX3_digest_285, eX3_digest_289, wt_nil, wt_long, Nat.add_zero]
    split
    with_reducible exact hK _ _
    with_reducible refine And.intro ?_ ?_
    omega
    with_reducible refine And.intro ?_ ?_
    with_reducible assumption
    with_reducible refine And.intro ?_ ?_
    with_reducible assumption
    with_reducible refine sX3_whichNow (by first | assumption | exact CAt.row (by assumption) | exact isRow.ext (CAt.row (by assumption)) (by assumption)) (fun _ => ?_)
    simp only [eX3_digest_297, kx_l, wt_nil, tl_s, Nat.add_zero]
    with_reducible refine And.intro ?_ ?_
    omega
    with_reducible refine And.intro ?_ ?_
    with_reducible assumption
    with_reducible refine And.intro ?_ ?_
    with_reducible assumption
    with_reducible refine sX3_add (fun _ => ?_)
    simp only [eX3_digest_301, kx_l, nl_ref, tl_s]
    with_reducible exact ih _ _ (by have e := dl1 (c := 1) (i := i5) (by assumption) (by decide); omega)
set_option maxHeartbeats 8000000 in
theorem elX3_digest_97 (hM : MM g w0 y nM kd w) (hQ : ∀ (v : Int64) w', ext g w w' → Q (.inl (some (.long v))) w') : ∀ (d : Nat) (i1 : Int64) (i3 : Int32) (o4 o5 : Option Value) (w' : Hw) (k m : Nat), ¬ i3 < 0 → ext g w w' → 6 - i3.toInt ≤ (d : Int) → i3.toInt ≤ 6 → (k : Int) ≤ 10 + i3.toInt → (m : Int) ≤ 45 + 4 * i3.toInt → WP (MX3_digest g) Q (97, [some (.ref y), some (.long i1), none, some (.int i3), o4, o5], [], w', k, m) := by
  have zb : (6 : Int32).toInt = 6 := rfl
  intro d
  induction d with
  | zero =>
    intro i1 i3 o4 o5 w' k m z0 hk hm hi km mm
    rw [eX3_digest_97]
    simp only [eX3_digest_98, eX3_digest_103, eX3_digest_314, ite_le, wt_nil, wt_long, nl_none, Nat.add_zero]
    split
    with_reducible refine And.intro ?_ ?_
    with_reducible exact (by exfalso; have e := dl2 (c := 6) (i := i3) (by assumption); omega)
    with_reducible refine And.intro ?_ ?_
    with_reducible exact (by exfalso; have e := dl2 (c := 6) (i := i3) (by assumption); omega)
    with_reducible refine And.intro ?_ ?_
    with_reducible exact (by exfalso; have e := dl2 (c := 6) (i := i3) (by assumption); omega)
    with_reducible refine And.intro ?_ ?_
    with_reducible exact (by exfalso; have e := dl2 (c := 6) (i := i3) (by assumption); omega)
    with_reducible exact (by exfalso; have e := dl2 (c := 6) (i := i3) (by assumption); omega)
    with_reducible exact elX3_digest_316 hM hQ 70 _ _ _ _ _ _ _ (by decide) hk (by decide) (by decide) (by omega) (by omega)
  | succ d ih =>
    intro i1 i3 o4 o5 w' k m z0 hk hm hi km mm
    rw [eX3_digest_97]
    simp only [eX3_digest_98, eX3_digest_103, eX3_digest_314, ite_le, wt_nil, wt_long, nl_none, Nat.add_zero]
    split
    with_reducible refine And.intro ?_ ?_
    with_reducible refine go_Y (hM.ext' (by first | assumption | exact ext.rf | exact ext.tr hk (by assumption))) (fun _ _ _ _ _ _ => ?_)
    simp only []
    with_reducible refine And.intro ?_ ?_
    omega
    with_reducible refine And.intro ?_ ?_
    omega
    with_reducible refine And.intro ?_ ?_
    omega
    with_reducible refine sX3_isBareM (hM.ext' (by first | assumption | exact ext.rf | exact ext.tr hk (by assumption))) (by assumption) (by first | assumption | exact lt65 (by assumption)) ?_ (fun _ _ => ?_)
    simp only [eX3_digest_109, eX3_digest_112, eX3_digest_116, eX3_digest_117, kx_l, wt_nil, wt_long, tl_s, Nat.add_zero, if_false, m10]
    with_reducible refine And.intro ?_ ?_
    omega
    with_reducible refine And.intro ?_ ?_
    omega
    with_reducible refine And.intro ?_ ?_
    omega
    with_reducible refine sX3_one (fun _ => ?_)
    simp only [eX3_digest_120, kx_l, wt_nil, tl_s, Nat.add_zero]
    with_reducible refine And.intro ?_ ?_
    omega
    with_reducible refine And.intro ?_ ?_
    omega
    with_reducible refine And.intro ?_ ?_
    omega
    with_reducible refine sX3_add (fun _ => ?_)
    simp only [eX3_digest_124, eX3_digest_125, kx_l, wt_nil, nl_ref, tl_s, Nat.add_zero]
    with_reducible refine And.intro ?_ ?_
    with_reducible refine go_Y (hM.ext' (by first | assumption | exact ext.rf | exact ext.tr hk (by assumption))) (fun _ _ _ _ _ _ => ?_)
    simp only []
    with_reducible refine And.intro ?_ ?_
    omega
    with_reducible refine And.intro ?_ ?_
    omega
    with_reducible refine And.intro ?_ ?_
    omega
    with_reducible refine sX3_isBareM (hM.ext' (by first | assumption | exact ext.rf | exact ext.tr hk (by assumption))) (by assumption) (by first | assumption | exact lt65 (by assumption)) ?_ (fun _ _ => ?_)
    simp only [eX3_digest_130, eX3_digest_133, eX3_digest_136, eX3_digest_140, eX3_digest_308, kx_l, nl_none, tl_s, if_false, m10]
    with_reducible exact ih _ _ _ _ _ _ _ (ic_p (by assumption) (by assumption)) (by first | assumption | exact ext.rf | exact ext.tr hk (by assumption)) (by have e := dl2 (c := 6) (i := i3) (by assumption); omega) (by have e := dl2 (c := 6) (i := i3) (by assumption); omega) (by have e := dl2 (c := 6) (i := i3) (by assumption); omega) (by have e := dl2 (c := 6) (i := i3) (by assumption); omega)
    simp only [eX3_digest_130, eX3_digest_133, eX3_digest_136, eX3_digest_140, eX3_digest_308, kx_l, nl_none, tl_s, if_true]
    with_reducible refine go_Y (hM.ext' (by first | assumption | exact ext.rf | exact ext.tr hk (by assumption))) (fun _ _ _ _ _ _ => ?_)
    simp only [eX3_digest_141, wt_nil, g0, gS, ex1, Nat.add_zero]
    with_reducible refine And.intro ?_ ?_
    with_reducible exact gtC (hM.ext' (by first | assumption | exact ext.rf | exact ext.tr hk (by assumption))) (by assumption)
    with_reducible refine And.intro ?_ ?_
    omega
    with_reducible refine And.intro ?_ ?_
    omega
    with_reducible refine And.intro ?_ ?_
    omega
    with_reducible refine sGetY (by assumption) (by assumption) (by assumption) (by first | assumption | exact lt65 (by assumption)) ?_
    simp only [eX3_digest_144R, eX3_digest_147, kx_l, nl_int, nl_ref, tl_s]
    with_reducible refine And.intro ?_ ?_
    with_reducible exact isRow.ca (by first | assumption | exact CAt.row (by assumption) | exact isRow.ext (CAt.row (by assumption)) (by assumption))
    with_reducible refine elX3_digest_152 hk (by first | assumption | exact CAt.row (by assumption) | exact isRow.ext (CAt.row (by assumption)) (by assumption)) (by omega) (by omega) (fun _ _ => ?_) 70 _ _ (by decide) (by decide)
    simp only [eX3_digest_214, wt_nil, wt_long, Nat.add_zero]
    with_reducible refine And.intro ?_ ?_
    omega
    with_reducible refine And.intro ?_ ?_
    omega
    with_reducible refine And.intro ?_ ?_
    omega
    with_reducible refine sX3_fixedV (by first | assumption | exact CAt.row (by assumption) | exact isRow.ext (CAt.row (by assumption)) (by assumption)) (fun _ => ?_)
    simp only [eX3_digest_220, kx_l, wt_nil, wt_long, tl_s, Nat.add_zero]
    with_reducible refine And.intro ?_ ?_
    omega
    with_reducible refine And.intro ?_ ?_
    omega
    with_reducible refine And.intro ?_ ?_
    omega
    with_reducible refine sX3_one (fun _ => ?_)
    simp only [eX3_digest_223, eX3_digest_227, kx_l, wt_nil, tl_s, Nat.add_zero]
    with_reducible refine And.intro ?_ ?_
    omega
    with_reducible refine And.intro ?_ ?_
    omega
    with_reducible refine And.intro ?_ ?_
    omega
    with_reducible refine sX3_add (fun _ => ?_)
    simp only [kx_l, wt_nil, wt_long, tl_s, Nat.add_zero]
    with_reducible refine And.intro ?_ ?_
    omega
    with_reducible refine And.intro ?_ ?_
    omega
    with_reducible refine And.intro ?_ ?_
    omega
    with_reducible refine sX3_smallV (by first | assumption | exact CAt.row (by assumption) | exact isRow.ext (CAt.row (by assumption)) (by assumption)) (fun _ => ?_)
    simp only [eX3_digest_232, kx_l, wt_nil, wt_long, tl_s, Nat.add_zero]
    with_reducible refine And.intro ?_ ?_
    omega
    with_reducible refine And.intro ?_ ?_
    omega
    with_reducible refine And.intro ?_ ?_
    omega
    with_reducible refine sX3_one (fun _ => ?_)
    simp only [eX3_digest_235, eX3_digest_239, kx_l, wt_nil, tl_s, Nat.add_zero]
    with_reducible refine And.intro ?_ ?_
    omega
    with_reducible refine And.intro ?_ ?_
    omega
    with_reducible refine And.intro ?_ ?_
    omega
    with_reducible refine sX3_add (fun _ => ?_)
    simp only [kx_l, wt_nil, wt_long, tl_s, Nat.add_zero]
    with_reducible refine And.intro ?_ ?_
    with_reducible refine go_Y (hM.ext' (by first | assumption | exact ext.rf | exact ext.tr hk (by assumption))) (fun _ _ _ _ _ _ => ?_)
    simp only []
    with_reducible refine And.intro ?_ ?_
    omega
    with_reducible refine And.intro ?_ ?_
    omega
    with_reducible refine And.intro ?_ ?_
    omega
    with_reducible refine sX3_likesNow (hM.ext' (by first | assumption | exact ext.rf | exact ext.tr hk (by assumption))) (by assumption) (by assumption) (by first | assumption | exact lt65 (by assumption)) (fun _ => ?_)
    simp only [eX3_digest_244, kx_l, wt_nil, tl_s, Nat.add_zero]
    with_reducible refine And.intro ?_ ?_
    omega
    with_reducible refine And.intro ?_ ?_
    omega
    with_reducible refine And.intro ?_ ?_
    omega
    with_reducible refine sX3_add (fun _ => ?_)
    simp only [eX3_digest_248, eX3_digest_250, kx_l, wt_nil, wt_long, nl_ref, tl_s, Nat.add_zero]
    with_reducible refine And.intro ?_ ?_
    with_reducible refine go_Y (hM.ext' (by first | assumption | exact ext.rf | exact ext.tr hk (by assumption))) (fun _ _ _ _ _ _ => ?_)
    simp only []
    with_reducible refine And.intro ?_ ?_
    omega
    with_reducible refine And.intro ?_ ?_
    omega
    with_reducible refine And.intro ?_ ?_
    omega
    with_reducible refine sX3_seekNowM (hM.ext' (by first | assumption | exact ext.rf | exact ext.tr hk (by assumption))) (by assumption) (by assumption) (by first | assumption | exact lt65 (by assumption)) (fun _ _ _ _ => ?_)
    simp only [eX3_digest_256, eX3_digest_260, kx_l, wt_nil, tl_s, Nat.add_zero]
    with_reducible refine And.intro ?_ ?_
    omega
    with_reducible refine And.intro ?_ ?_
    omega
    with_reducible refine And.intro ?_ ?_
    omega
    with_reducible refine sX3_add (fun _ => ?_)
    simp only [kx_l, wt_nil, wt_long, tl_s, Nat.add_zero]
    with_reducible refine And.intro ?_ ?_
    with_reducible refine go_Y (hM.ext' (by first | assumption | exact ext.rf | exact ext.tr hk (by assumption))) (fun _ _ _ _ _ _ => ?_)
    simp only []
    with_reducible refine And.intro ?_ ?_
    omega
    with_reducible refine And.intro ?_ ?_
    omega
    with_reducible refine And.intro ?_ ?_
    omega
    with_reducible refine sX3_seekNowM (hM.ext' (by first | assumption | exact ext.rf | exact ext.tr hk (by assumption))) (by assumption) (by assumption) (by first | assumption | exact lt65 (by assumption)) (fun _ _ _ _ => ?_)
    simp only [eX3_digest_266, eX3_digest_270, kx_l, wt_nil, tl_s, Nat.add_zero]
    with_reducible refine And.intro ?_ ?_
    omega
    with_reducible refine And.intro ?_ ?_
    omega
    with_reducible refine And.intro ?_ ?_
    omega
    with_reducible refine sX3_add (fun _ => ?_)
    simp only [kx_l, wt_nil, wt_long, tl_s, Nat.add_zero]
    with_reducible refine And.intro ?_ ?_
    with_reducible refine go_Y (hM.ext' (by first | assumption | exact ext.rf | exact ext.tr hk (by assumption))) (fun _ _ _ _ _ _ => ?_)
    simp only []
    with_reducible refine And.intro ?_ ?_
    omega
    with_reducible refine And.intro ?_ ?_
    omega
    with_reducible refine And.intro ?_ ?_
    omega
    with_reducible refine sX3_oftenNow (hM.ext' (by first | assumption | exact ext.rf | exact ext.tr hk (by assumption))) (by assumption) (by assumption) (by first | assumption | exact lt65 (by assumption)) (fun _ _ _ => ?_)
    simp only [eX3_digest_275, kx_l, wt_nil, tl_s, Nat.add_zero]
    with_reducible refine And.intro ?_ ?_
    omega
    with_reducible refine And.intro ?_ ?_
    omega
    with_reducible refine And.intro ?_ ?_
    omega
    with_reducible refine sX3_add (fun _ => ?_)
    simp only [eX3_digest_279, kx_l, nl_ref, tl_s]
    with_reducible refine elX3_digest_283 (by first | assumption | exact ext.rf | exact ext.tr hk (by assumption)) (by first | assumption | exact CAt.row (by assumption) | exact isRow.ext (CAt.row (by assumption)) (by assumption)) (by omega) (by omega) (fun _ _ => ?_) 70 _ _ (by decide)
    simp only [eX3_digest_308, nl_none]
    with_reducible exact ih _ _ _ _ _ _ _ (ic_p (by assumption) (by assumption)) (by first | assumption | exact ext.rf | exact ext.tr hk (by assumption)) (by have e := dl2 (c := 6) (i := i3) (by assumption); omega) (by have e := dl2 (c := 6) (i := i3) (by assumption); omega) (by have e := dl2 (c := 6) (i := i3) (by assumption); omega) (by have e := dl2 (c := 6) (i := i3) (by assumption); omega)
    simp only [eX3_digest_109, eX3_digest_112, eX3_digest_116, eX3_digest_117, kx_l, wt_nil, wt_long, tl_s, Nat.add_zero, if_true]
    with_reducible refine And.intro ?_ ?_
    omega
    with_reducible refine And.intro ?_ ?_
    omega
    with_reducible refine And.intro ?_ ?_
    omega
    with_reducible refine sX3_one (fun _ => ?_)
    simp only [eX3_digest_120, kx_l, wt_nil, tl_s, Nat.add_zero]
    with_reducible refine And.intro ?_ ?_
    omega
    with_reducible refine And.intro ?_ ?_
    omega
    with_reducible refine And.intro ?_ ?_
    omega
    with_reducible refine sX3_add (fun _ => ?_)
    simp only [eX3_digest_124, eX3_digest_125, kx_l, wt_nil, nl_ref, tl_s, Nat.add_zero]
    with_reducible refine And.intro ?_ ?_
    with_reducible refine go_Y (hM.ext' (by first | assumption | exact ext.rf | exact ext.tr hk (by assumption))) (fun _ _ _ _ _ _ => ?_)
    simp only []
    with_reducible refine And.intro ?_ ?_
    omega
    with_reducible refine And.intro ?_ ?_
    omega
    with_reducible refine And.intro ?_ ?_
    omega
    with_reducible refine sX3_isBareM (hM.ext' (by first | assumption | exact ext.rf | exact ext.tr hk (by assumption))) (by assumption) (by first | assumption | exact lt65 (by assumption)) ?_ (fun _ _ => ?_)
    simp only [eX3_digest_130, eX3_digest_133, eX3_digest_136, eX3_digest_140, eX3_digest_308, kx_l, nl_none, tl_s, if_false, m10]
    with_reducible exact ih _ _ _ _ _ _ _ (ic_p (by assumption) (by assumption)) (by first | assumption | exact ext.rf | exact ext.tr hk (by assumption)) (by have e := dl2 (c := 6) (i := i3) (by assumption); omega) (by have e := dl2 (c := 6) (i := i3) (by assumption); omega) (by have e := dl2 (c := 6) (i := i3) (by assumption); omega) (by have e := dl2 (c := 6) (i := i3) (by assumption); omega)
    simp only [eX3_digest_130, eX3_digest_133, eX3_digest_136, eX3_digest_140, eX3_digest_308, kx_l, nl_none, tl_s, if_true]
    with_reducible refine go_Y (hM.ext' (by first | assumption | exact ext.rf | exact ext.tr hk (by assumption))) (fun _ _ _ _ _ _ => ?_)
    simp only [eX3_digest_141, wt_nil, g0, gS, ex1, Nat.add_zero]
    with_reducible refine And.intro ?_ ?_
    with_reducible exact gtC (hM.ext' (by first | assumption | exact ext.rf | exact ext.tr hk (by assumption))) (by assumption)
    with_reducible refine And.intro ?_ ?_
    omega
    with_reducible refine And.intro ?_ ?_
    omega
    with_reducible refine And.intro ?_ ?_
    omega
    with_reducible refine sGetY (by assumption) (by assumption) (by assumption) (by first | assumption | exact lt65 (by assumption)) ?_
    simp only [eX3_digest_144R, eX3_digest_147, kx_l, nl_int, nl_ref, tl_s]
    with_reducible refine And.intro ?_ ?_
    with_reducible exact isRow.ca (by first | assumption | exact CAt.row (by assumption) | exact isRow.ext (CAt.row (by assumption)) (by assumption))
    with_reducible refine elX3_digest_152 hk (by first | assumption | exact CAt.row (by assumption) | exact isRow.ext (CAt.row (by assumption)) (by assumption)) (by omega) (by omega) (fun _ _ => ?_) 70 _ _ (by decide) (by decide)
    simp only [eX3_digest_214, wt_nil, wt_long, Nat.add_zero]
    with_reducible refine And.intro ?_ ?_
    omega
    with_reducible refine And.intro ?_ ?_
    omega
    with_reducible refine And.intro ?_ ?_
    omega
    with_reducible refine sX3_fixedV (by first | assumption | exact CAt.row (by assumption) | exact isRow.ext (CAt.row (by assumption)) (by assumption)) (fun _ => ?_)
    simp only [eX3_digest_220, kx_l, wt_nil, wt_long, tl_s, Nat.add_zero]
    with_reducible refine And.intro ?_ ?_
    omega
    with_reducible refine And.intro ?_ ?_
    omega
    with_reducible refine And.intro ?_ ?_
    omega
    with_reducible refine sX3_one (fun _ => ?_)
    simp only [eX3_digest_223, eX3_digest_227, kx_l, wt_nil, tl_s, Nat.add_zero]
    with_reducible refine And.intro ?_ ?_
    omega
    with_reducible refine And.intro ?_ ?_
    omega
    with_reducible refine And.intro ?_ ?_
    omega
    with_reducible refine sX3_add (fun _ => ?_)
    simp only [kx_l, wt_nil, wt_long, tl_s, Nat.add_zero]
    with_reducible refine And.intro ?_ ?_
    omega
    with_reducible refine And.intro ?_ ?_
    omega
    with_reducible refine And.intro ?_ ?_
    omega
    with_reducible refine sX3_smallV (by first | assumption | exact CAt.row (by assumption) | exact isRow.ext (CAt.row (by assumption)) (by assumption)) (fun _ => ?_)
    simp only [eX3_digest_232, kx_l, wt_nil, wt_long, tl_s, Nat.add_zero]
    with_reducible refine And.intro ?_ ?_
    omega
    with_reducible refine And.intro ?_ ?_
    omega
    with_reducible refine And.intro ?_ ?_
    omega
    with_reducible refine sX3_one (fun _ => ?_)
    simp only [eX3_digest_235, eX3_digest_239, kx_l, wt_nil, tl_s, Nat.add_zero]
    with_reducible refine And.intro ?_ ?_
    omega
    with_reducible refine And.intro ?_ ?_
    omega
    with_reducible refine And.intro ?_ ?_
    omega
    with_reducible refine sX3_add (fun _ => ?_)
    simp only [kx_l, wt_nil, wt_long, tl_s, Nat.add_zero]
    with_reducible refine And.intro ?_ ?_
    with_reducible refine go_Y (hM.ext' (by first | assumption | exact ext.rf | exact ext.tr hk (by assumption))) (fun _ _ _ _ _ _ => ?_)
    simp only []
    with_reducible refine And.intro ?_ ?_
    omega
    with_reducible refine And.intro ?_ ?_
    omega
    with_reducible refine And.intro ?_ ?_
    omega
    with_reducible refine sX3_likesNow (hM.ext' (by first | assumption | exact ext.rf | exact ext.tr hk (by assumption))) (by assumption) (by assumption) (by first | assumption | exact lt65 (by assumption)) (fun _ => ?_)
    simp only [eX3_digest_244, kx_l, wt_nil, tl_s, Nat.add_zero]
    with_reducible refine And.intro ?_ ?_
    omega
    with_reducible refine And.intro ?_ ?_
    omega
    with_reducible refine And.intro ?_ ?_
    omega
    with_reducible refine sX3_add (fun _ => ?_)
    simp only [eX3_digest_248, eX3_digest_250, kx_l, wt_nil, wt_long, nl_ref, tl_s, Nat.add_zero]
    with_reducible refine And.intro ?_ ?_
    with_reducible refine go_Y (hM.ext' (by first | assumption | exact ext.rf | exact ext.tr hk (by assumption))) (fun _ _ _ _ _ _ => ?_)
    simp only []
    with_reducible refine And.intro ?_ ?_
    omega
    with_reducible refine And.intro ?_ ?_
    omega
    with_reducible refine And.intro ?_ ?_
    omega
    with_reducible refine sX3_seekNowM (hM.ext' (by first | assumption | exact ext.rf | exact ext.tr hk (by assumption))) (by assumption) (by assumption) (by first | assumption | exact lt65 (by assumption)) (fun _ _ _ _ => ?_)
    simp only [eX3_digest_256, eX3_digest_260, kx_l, wt_nil, tl_s, Nat.add_zero]
    with_reducible refine And.intro ?_ ?_
    omega
    with_reducible refine And.intro ?_ ?_
    omega
    with_reducible refine And.intro ?_ ?_
    omega
    with_reducible refine sX3_add (fun _ => ?_)
    simp only [kx_l, wt_nil, wt_long, tl_s, Nat.add_zero]
    with_reducible refine And.intro ?_ ?_
    with_reducible refine go_Y (hM.ext' (by first | assumption | exact ext.rf | exact ext.tr hk (by assumption))) (fun _ _ _ _ _ _ => ?_)
    simp only []
    with_reducible refine And.intro ?_ ?_
    omega
    with_reducible refine And.intro ?_ ?_
    omega
    with_reducible refine And.intro ?_ ?_
    omega
    with_reducible refine sX3_seekNowM (hM.ext' (by first | assumption | exact ext.rf | exact ext.tr hk (by assumption))) (by assumption) (by assumption) (by first | assumption | exact lt65 (by assumption)) (fun _ _ _ _ => ?_)
    simp only [eX3_digest_266, eX3_digest_270, kx_l, wt_nil, tl_s, Nat.add_zero]
    with_reducible refine And.intro ?_ ?_
    omega
    with_reducible refine And.intro ?_ ?_
    omega
    with_reducible refine And.intro ?_ ?_
    omega
    with_reducible refine sX3_add (fun _ => ?_)
    simp only [kx_l, wt_nil, wt_long, tl_s, Nat.add_zero]
    with_reducible refine And.intro ?_ ?_
    with_reducible refine go_Y (hM.ext' (by first | assumption | exact ext.rf | exact ext.tr hk (by assumption))) (fun _ _ _ _ _ _ => ?_)
    simp only []
    with_reducible refine And.intro ?_ ?_
    omega
    with_reducible refine And.intro ?_ ?_
    omega
    with_reducible refine And.intro ?_ ?_
    omega
    with_reducible refine sX3_oftenNow (hM.ext' (by first | assumption | exact ext.rf | exact ext.tr hk (by assumption))) (by assumption) (by assumption) (by first | assumption | exact lt65 (by assumption)) (fun _ _ _ => ?_)
    simp only [eX3_digest_275, kx_l, wt_nil, tl_s, Nat.add_zero]
    with_reducible refine And.intro ?_ ?_
    omega
    with_reducible refine And.intro ?_ ?_
    omega
    with_reducible refine And.intro ?_ ?_
    omega
    with_reducible refine sX3_add (fun _ => ?_)
    simp only [eX3_digest_279, kx_l, nl_ref, tl_s]
    with_reducible refine elX3_digest_283 (by first | assumption | exact ext.rf | exact ext.tr hk (by assumption)) (by first | assumption | exact CAt.row (by assumption) | exact isRow.ext (CAt.row (by assumption)) (by assumption)) (by omega) (by omega) (fun _ _ => ?_) 70 _ _ (by decide)
    simp only [eX3_digest_308, nl_none]
    with_reducible exact ih _ _ _ _ _ _ _ (ic_p (by assumption) (by assumption)) (by first | assumption | exact ext.rf | exact ext.tr hk (by assumption)) (by have e := dl2 (c := 6) (i := i3) (by assumption); omega) (by have e := dl2 (c := 6) (i := i3) (by assumption); omega) (by have e := dl2 (c := 6) (i := i3) (by assumption); omega) (by have e := dl2 (c := 6) (i := i3) (by assumption); omega)
    with_reducible exact elX3_digest_316 hM hQ 70 _ _ _ _ _ _ _ (by decide) hk (by decide) (by decide) (by omega) (by omega)
end
end
