/-! 69p.pile.lean.txt -/
section
section
variable {g : RO} {Q : Ot → Hw → Prop} {w0 w : Hw}
variable {y nM : Nat} {kd : Int32}
set_option maxHeartbeats 8000000 in
theorem elX3_digest_35 (hM : MM g w0 y nM kd w) (hQ : ∀ (v : Int64) w', ext g w w' → Q (.inl (some (.long v))) w') : ∀ (d : Nat) (i1 : Int64) (i3 : Int32) (o4 o5 : Option Value) (w' : Hw) (k m : Nat), ¬ i3 < 0 → ext g w w' → 8 - i3.toInt ≤ (d : Int) → i3.toInt ≤ 8 → (k : Int) ≤ 10 → (m : Int) ≤ 45 → WP (MX3_digest g) Q (35, [some (.ref y), some (.long i1), none, some (.int i3), o4, o5], [], w', k, m) := by
  have zb : (8 : Int32).toInt = 8 := rfl
  intro d
  induction d with
  | zero =>
    intro i1 i3 o4 o5 w' k m z0 hk hm hi km mm
    rw [eX3_digest_35]
    repeat' first
      | with_reducible assumption
      | with_reducible refine And.intro ?_ ?_
      | with_reducible exact (by exfalso; have e := dl2 (c := 8) (i := i3) (by assumption); omega)
      | with_reducible exact elX3_digest_97 hM hQ 70 _ _ _ _ _ _ _ (by decide) hk (by decide) (by decide) (by have z := i0z; omega) (by have z := i0z; omega)
      | with_reducible refine sX3_add (fun _ => ?_)
      | with_reducible refine sX3_houseNow (hM.ext' (by first | assumption | exact ext.rf | exact ext.tr hk (by assumption))) (by assumption) (by assumption) (fun _ _ _ => ?_)
      | with_reducible refine sX3_whoNow (hM.ext' (by first | assumption | exact ext.rf | exact ext.tr hk (by assumption))) (by assumption) (by first | assumption | exact lt87 (by assumption)) (fun _ => ?_)
      | with_reducible refine sX3_whichNow_ (hM.ext' (by first | assumption | exact ext.rf | exact ext.tr hk (by assumption))) (fun _ => ?_)
      | with_reducible refine sX3_pileNowM (hM.ext' (by first | assumption | exact ext.rf | exact ext.tr hk (by assumption))) (by decide) (by decide) (by assumption) (by assumption) (fun _ _ _ => ?_)
      | with_reducible refine sX3_isBareM (hM.ext' (by first | assumption | exact ext.rf | exact ext.tr hk (by assumption))) (by assumption) (by first | assumption | exact lt65 (by assumption)) ?_ (fun _ _ => ?_)
      | with_reducible refine sX3_likesNow (hM.ext' (by first | assumption | exact ext.rf | exact ext.tr hk (by assumption))) (by assumption) (by assumption) (by first | assumption | exact lt65 (by assumption)) (fun _ => ?_)
      | with_reducible refine sX3_seekNowM (hM.ext' (by first | assumption | exact ext.rf | exact ext.tr hk (by assumption))) (by assumption) (by assumption) (by first | assumption | exact lt65 (by assumption)) (fun _ _ _ _ => ?_)
      | with_reducible refine sX3_oftenNow (hM.ext' (by first | assumption | exact ext.rf | exact ext.tr hk (by assumption))) (by assumption) (by assumption) (by first | assumption | exact lt65 (by assumption)) (fun _ _ _ => ?_)
      | with_reducible refine sX3_high (fun _ => ?_)
      | with_reducible refine sX3_low (fun _ => ?_)
      | with_reducible refine sX3_one (fun _ => ?_)
      | with_reducible refine sX3_fixed (by first | assumption | exact CAt.row (by assumption) | exact isRow.ext (CAt.row (by assumption)) (by assumption)) ?_ ?_
      | with_reducible refine sX3_small (by first | assumption | exact CAt.row (by assumption) | exact isRow.ext (CAt.row (by assumption)) (by assumption)) ?_ ?_
      | with_reducible refine sX3_aroundNow (by first | assumption | exact CAt.row (by assumption) | exact isRow.ext (CAt.row (by assumption)) (by assumption)) (by assumption) (by first | assumption | exact lt43 (by assumption)) (fun _ => ?_)
      | with_reducible refine sX3_whichNow (by first | assumption | exact CAt.row (by assumption) | exact isRow.ext (CAt.row (by assumption)) (by assumption)) (fun _ => ?_)
      | with_reducible refine go_Y (hM.ext' (by first | assumption | exact ext.rf | exact ext.tr hk (by assumption))) (fun _ _ _ _ _ _ => ?_)
      | with_reducible refine gl_M (hM.ext' (by first | assumption | exact ext.rf | exact ext.tr hk (by assumption))) ?_
      | with_reducible exact vpi8 (by assumption) (by assumption)
      | with_reducible exact vpi4l (by assumption) (by assumption)
      | with_reducible exact gtC (hM.ext' (by first | assumption | exact ext.rf | exact ext.tr hk (by assumption))) (by assumption)
      | with_reducible refine sGetY (by assumption) (by assumption) (by assumption) (by first | assumption | exact lt65 (by assumption)) ?_
      | with_reducible exact isRow.ca (by first | assumption | exact CAt.row (by assumption) | exact isRow.ext (CAt.row (by assumption)) (by assumption))
      | with_reducible refine gl_Row (by first | assumption | exact CAt.row (by assumption) | exact isRow.ext (CAt.row (by assumption)) (by assumption)) (fun _ => ?_)
      | with_reducible exact hQ _ _ ((by first | assumption | exact ext.rf | exact ext.tr hk (by assumption)))
      | simp only [eX3_digest_0, eX3_digest_0N, eX3_digest_1, eX3_digest_2, eX3_digest_5, eX3_digest_8, eX3_digest_9, eX3_digest_10, eX3_digest_12, eX3_digest_13, eX3_digest_16, eX3_digest_17, eX3_digest_17N, eX3_digest_18, eX3_digest_19, eX3_digest_22, eX3_digest_23, eX3_digest_26, eX3_digest_27, eX3_digest_30, eX3_digest_33, eX3_digest_34, eX3_digest_36, eX3_digest_38, eX3_digest_41, eX3_digest_42, eX3_digest_42N, eX3_digest_43, eX3_digest_46, eX3_digest_47, eX3_digest_48, eX3_digest_51, eX3_digest_52, eX3_digest_55, eX3_digest_55N, eX3_digest_56, eX3_digest_59, eX3_digest_60, eX3_digest_61, eX3_digest_64, eX3_digest_65, eX3_digest_68, eX3_digest_68N, eX3_digest_69, eX3_digest_70, eX3_digest_71, eX3_digest_74, eX3_digest_75, eX3_digest_78, eX3_digest_78N, eX3_digest_79, eX3_digest_80, eX3_digest_81, eX3_digest_84, eX3_digest_85, eX3_digest_88, eX3_digest_89, eX3_digest_92, eX3_digest_95, eX3_digest_96, eX3_digest_98, eX3_digest_100, eX3_digest_103, eX3_digest_104, eX3_digest_104N, eX3_digest_105, eX3_digest_106, eX3_digest_109, eX3_digest_112, eX3_digest_113, eX3_digest_116, eX3_digest_117, eX3_digest_120, eX3_digest_121, eX3_digest_124, eX3_digest_125, eX3_digest_125N, eX3_digest_126, eX3_digest_127, eX3_digest_130, eX3_digest_133, eX3_digest_136, eX3_digest_136N, eX3_digest_137, eX3_digest_140, eX3_digest_141, eX3_digest_144N, eX3_digest_144R, eX3_digest_147, eX3_digest_147N, eX3_digest_149, eX3_digest_150, eX3_digest_154, eX3_digest_155, eX3_digest_158, eX3_digest_159, eX3_digest_159N, eX3_digest_161, eX3_digest_163, eX3_digest_164, eX3_digest_167, eX3_digest_168, eX3_digest_171, eX3_digest_171N, eX3_digest_173, eX3_digest_175, eX3_digest_176, eX3_digest_179, eX3_digest_180, eX3_digest_183, eX3_digest_183N, eX3_digest_185, eX3_digest_187, eX3_digest_188R, eX3_digest_188N, eX3_digest_191, eX3_digest_192, eX3_digest_195, eX3_digest_195N, eX3_digest_197, eX3_digest_199, eX3_digest_200R, eX3_digest_200N, eX3_digest_203, eX3_digest_204, eX3_digest_207, eX3_digest_208, eX3_digest_211, eX3_digest_214, eX3_digest_215, eX3_digest_215N, eX3_digest_217R, eX3_digest_217N, eX3_digest_220, eX3_digest_223, eX3_digest_224, eX3_digest_227, eX3_digest_227N, eX3_digest_229R, eX3_digest_229N, eX3_digest_232, eX3_digest_235, eX3_digest_236, eX3_digest_239, eX3_digest_239N, eX3_digest_240, eX3_digest_241, eX3_digest_244, eX3_digest_245, eX3_digest_248, eX3_digest_249, eX3_digest_250, eX3_digest_250N, eX3_digest_251, eX3_digest_252, eX3_digest_253, eX3_digest_256, eX3_digest_257, eX3_digest_260, eX3_digest_260N, eX3_digest_261, eX3_digest_262, eX3_digest_263, eX3_digest_266, eX3_digest_267, eX3_digest_270, eX3_digest_270N, eX3_digest_271, eX3_digest_272, eX3_digest_275, eX3_digest_276, eX3_digest_279, eX3_digest_280, eX3_digest_281, eX3_digest_285, eX3_digest_286, eX3_digest_289, eX3_digest_290, eX3_digest_290N, eX3_digest_292, eX3_digest_294R, eX3_digest_294N, eX3_digest_297, eX3_digest_298, eX3_digest_301, eX3_digest_302, eX3_digest_305, eX3_digest_308, eX3_digest_311, eX3_digest_314, eX3_digest_315, eX3_digest_317, eX3_digest_318, eX3_digest_321, eX3_digest_322, eX3_digest_322N, eX3_digest_323, eX3_digest_324, eX3_digest_327, eX3_digest_328, eX3_digest_331, eX3_digest_332, eX3_digest_335, eX3_digest_338, eX3_digest_339, eX3_digest_341, eX3_digest_342, eX3_digest_345, eX3_digest_346, eX3_digest_346N, eX3_digest_347, eX3_digest_348, eX3_digest_349, eX3_digest_352, eX3_digest_353, eX3_digest_356, eX3_digest_357, eX3_digest_360, eX3_digest_363, eX3_digest_364, eX3_digest_365, eX3_digest_368, ite_le, n45, n54, true_or, or_true, false_or, or_false, false_and, and_false, kx_l, kx_r, go_s, gl_s, gi_s, gb_s2, gb_s3, gq_s, wt_nil, wt_int, wt_long, wt_ref, wt_null, nl_int, nl_long, nl_ref, nl_null, nl_none, rf_n, rf_s, rf_st, tl_s, tl_n, g0, gS, ex1, nb_b, nb_0, nb_1, nf_i, nf_l, nf_ra, nf_ro, nf_na, nf_no, nf_b0, nf_z0, t45_4, t45_5, true_and, and_true, List.set_cons_zero, List.set_cons_succ, List.length_cons, List.length_nil, rd_s, upw_s, ne_eq, not_false_eq_true, Nat.zero_add, Nat.add_zero, if_true, if_false, eq_self, m10]
      | split
      | with_reducible intro _
      | omega
  | succ d ih =>
    intro i1 i3 o4 o5 w' k m z0 hk hm hi km mm
    rw [eX3_digest_35]
    repeat' first
      | with_reducible assumption
      | with_reducible refine And.intro ?_ ?_
      | with_reducible exact ih _ _ _ _ _ _ _ (ic_p (by assumption) (by assumption)) (by first | assumption | exact ext.rf | exact ext.tr hk (by assumption)) (by have e := dl2 (c := 8) (i := i3) (by assumption); omega) (by have e := dl2 (c := 8) (i := i3) (by assumption); omega) (by have e := dl2 (c := 8) (i := i3) (by assumption); omega) (by have e := dl2 (c := 8) (i := i3) (by assumption); omega)
      | with_reducible exact elX3_digest_97 hM hQ 70 _ _ _ _ _ _ _ (by decide) hk (by decide) (by decide) (by have z := i0z; omega) (by have z := i0z; omega)
      | with_reducible refine sX3_add (fun _ => ?_)
      | with_reducible refine sX3_houseNow (hM.ext' (by first | assumption | exact ext.rf | exact ext.tr hk (by assumption))) (by assumption) (by assumption) (fun _ _ _ => ?_)
      | with_reducible refine sX3_whoNow (hM.ext' (by first | assumption | exact ext.rf | exact ext.tr hk (by assumption))) (by assumption) (by first | assumption | exact lt87 (by assumption)) (fun _ => ?_)
      | with_reducible refine sX3_whichNow_ (hM.ext' (by first | assumption | exact ext.rf | exact ext.tr hk (by assumption))) (fun _ => ?_)
      | with_reducible refine sX3_pileNowM (hM.ext' (by first | assumption | exact ext.rf | exact ext.tr hk (by assumption))) (by decide) (by decide) (by assumption) (by assumption) (fun _ _ _ => ?_)
      | with_reducible refine sX3_isBareM (hM.ext' (by first | assumption | exact ext.rf | exact ext.tr hk (by assumption))) (by assumption) (by first | assumption | exact lt65 (by assumption)) ?_ (fun _ _ => ?_)
      | with_reducible refine sX3_likesNow (hM.ext' (by first | assumption | exact ext.rf | exact ext.tr hk (by assumption))) (by assumption) (by assumption) (by first | assumption | exact lt65 (by assumption)) (fun _ => ?_)
      | with_reducible refine sX3_seekNowM (hM.ext' (by first | assumption | exact ext.rf | exact ext.tr hk (by assumption))) (by assumption) (by assumption) (by first | assumption | exact lt65 (by assumption)) (fun _ _ _ _ => ?_)
      | with_reducible refine sX3_oftenNow (hM.ext' (by first | assumption | exact ext.rf | exact ext.tr hk (by assumption))) (by assumption) (by assumption) (by first | assumption | exact lt65 (by assumption)) (fun _ _ _ => ?_)
      | with_reducible refine sX3_high (fun _ => ?_)
      | with_reducible refine sX3_low (fun _ => ?_)
      | with_reducible refine sX3_one (fun _ => ?_)
      | with_reducible refine sX3_fixed (by first | assumption | exact CAt.row (by assumption) | exact isRow.ext (CAt.row (by assumption)) (by assumption)) ?_ ?_
      | with_reducible refine sX3_small (by first | assumption | exact CAt.row (by assumption) | exact isRow.ext (CAt.row (by assumption)) (by assumption)) ?_ ?_
      | with_reducible refine sX3_aroundNow (by first | assumption | exact CAt.row (by assumption) | exact isRow.ext (CAt.row (by assumption)) (by assumption)) (by assumption) (by first | assumption | exact lt43 (by assumption)) (fun _ => ?_)
      | with_reducible refine sX3_whichNow (by first | assumption | exact CAt.row (by assumption) | exact isRow.ext (CAt.row (by assumption)) (by assumption)) (fun _ => ?_)
      | with_reducible refine go_Y (hM.ext' (by first | assumption | exact ext.rf | exact ext.tr hk (by assumption))) (fun _ _ _ _ _ _ => ?_)
      | with_reducible refine gl_M (hM.ext' (by first | assumption | exact ext.rf | exact ext.tr hk (by assumption))) ?_
      | with_reducible exact vpi8 (by assumption) (by assumption)
      | with_reducible exact vpi4l (by assumption) (by assumption)
      | with_reducible exact gtC (hM.ext' (by first | assumption | exact ext.rf | exact ext.tr hk (by assumption))) (by assumption)
      | with_reducible refine sGetY (by assumption) (by assumption) (by assumption) (by first | assumption | exact lt65 (by assumption)) ?_
      | with_reducible exact isRow.ca (by first | assumption | exact CAt.row (by assumption) | exact isRow.ext (CAt.row (by assumption)) (by assumption))
      | with_reducible refine gl_Row (by first | assumption | exact CAt.row (by assumption) | exact isRow.ext (CAt.row (by assumption)) (by assumption)) (fun _ => ?_)
      | with_reducible exact hQ _ _ ((by first | assumption | exact ext.rf | exact ext.tr hk (by assumption)))
      | simp only [eX3_digest_0, eX3_digest_0N, eX3_digest_1, eX3_digest_2, eX3_digest_5, eX3_digest_8, eX3_digest_9, eX3_digest_10, eX3_digest_12, eX3_digest_13, eX3_digest_16, eX3_digest_17, eX3_digest_17N, eX3_digest_18, eX3_digest_19, eX3_digest_22, eX3_digest_23, eX3_digest_26, eX3_digest_27, eX3_digest_30, eX3_digest_33, eX3_digest_34, eX3_digest_36, eX3_digest_38, eX3_digest_41, eX3_digest_42, eX3_digest_42N, eX3_digest_43, eX3_digest_46, eX3_digest_47, eX3_digest_48, eX3_digest_51, eX3_digest_52, eX3_digest_55, eX3_digest_55N, eX3_digest_56, eX3_digest_59, eX3_digest_60, eX3_digest_61, eX3_digest_64, eX3_digest_65, eX3_digest_68, eX3_digest_68N, eX3_digest_69, eX3_digest_70, eX3_digest_71, eX3_digest_74, eX3_digest_75, eX3_digest_78, eX3_digest_78N, eX3_digest_79, eX3_digest_80, eX3_digest_81, eX3_digest_84, eX3_digest_85, eX3_digest_88, eX3_digest_89, eX3_digest_92, eX3_digest_95, eX3_digest_96, eX3_digest_98, eX3_digest_100, eX3_digest_103, eX3_digest_104, eX3_digest_104N, eX3_digest_105, eX3_digest_106, eX3_digest_109, eX3_digest_112, eX3_digest_113, eX3_digest_116, eX3_digest_117, eX3_digest_120, eX3_digest_121, eX3_digest_124, eX3_digest_125, eX3_digest_125N, eX3_digest_126, eX3_digest_127, eX3_digest_130, eX3_digest_133, eX3_digest_136, eX3_digest_136N, eX3_digest_137, eX3_digest_140, eX3_digest_141, eX3_digest_144N, eX3_digest_144R, eX3_digest_147, eX3_digest_147N, eX3_digest_149, eX3_digest_150, eX3_digest_154, eX3_digest_155, eX3_digest_158, eX3_digest_159, eX3_digest_159N, eX3_digest_161, eX3_digest_163, eX3_digest_164, eX3_digest_167, eX3_digest_168, eX3_digest_171, eX3_digest_171N, eX3_digest_173, eX3_digest_175, eX3_digest_176, eX3_digest_179, eX3_digest_180, eX3_digest_183, eX3_digest_183N, eX3_digest_185, eX3_digest_187, eX3_digest_188R, eX3_digest_188N, eX3_digest_191, eX3_digest_192, eX3_digest_195, eX3_digest_195N, eX3_digest_197, eX3_digest_199, eX3_digest_200R, eX3_digest_200N, eX3_digest_203, eX3_digest_204, eX3_digest_207, eX3_digest_208, eX3_digest_211, eX3_digest_214, eX3_digest_215, eX3_digest_215N, eX3_digest_217R, eX3_digest_217N, eX3_digest_220, eX3_digest_223, eX3_digest_224, eX3_digest_227, eX3_digest_227N, eX3_digest_229R, eX3_digest_229N, eX3_digest_232, eX3_digest_235, eX3_digest_236, eX3_digest_239, eX3_digest_239N, eX3_digest_240, eX3_digest_241, eX3_digest_244, eX3_digest_245, eX3_digest_248, eX3_digest_249, eX3_digest_250, eX3_digest_250N, eX3_digest_251, eX3_digest_252, eX3_digest_253, eX3_digest_256, eX3_digest_257, eX3_digest_260, eX3_digest_260N, eX3_digest_261, eX3_digest_262, eX3_digest_263, eX3_digest_266, eX3_digest_267, eX3_digest_270, eX3_digest_270N, eX3_digest_271, eX3_digest_272, eX3_digest_275, eX3_digest_276, eX3_digest_279, eX3_digest_280, eX3_digest_281, eX3_digest_285, eX3_digest_286, eX3_digest_289, eX3_digest_290, eX3_digest_290N, eX3_digest_292, eX3_digest_294R, eX3_digest_294N, eX3_digest_297, eX3_digest_298, eX3_digest_301, eX3_digest_302, eX3_digest_305, eX3_digest_308, eX3_digest_311, eX3_digest_314, eX3_digest_315, eX3_digest_317, eX3_digest_318, eX3_digest_321, eX3_digest_322, eX3_digest_322N, eX3_digest_323, eX3_digest_324, eX3_digest_327, eX3_digest_328, eX3_digest_331, eX3_digest_332, eX3_digest_335, eX3_digest_338, eX3_digest_339, eX3_digest_341, eX3_digest_342, eX3_digest_345, eX3_digest_346, eX3_digest_346N, eX3_digest_347, eX3_digest_348, eX3_digest_349, eX3_digest_352, eX3_digest_353, eX3_digest_356, eX3_digest_357, eX3_digest_360, eX3_digest_363, eX3_digest_364, eX3_digest_365, eX3_digest_368, ite_le, n45, n54, true_or, or_true, false_or, or_false, false_and, and_false, kx_l, kx_r, go_s, gl_s, gi_s, gb_s2, gb_s3, gq_s, wt_nil, wt_int, wt_long, wt_ref, wt_null, nl_int, nl_long, nl_ref, nl_null, nl_none, rf_n, rf_s, rf_st, tl_s, tl_n, g0, gS, ex1, nb_b, nb_0, nb_1, nf_i, nf_l, nf_ra, nf_ro, nf_na, nf_no, nf_b0, nf_z0, t45_4, t45_5, true_and, and_true, List.set_cons_zero, List.set_cons_succ, List.length_cons, List.length_nil, rd_s, upw_s, ne_eq, not_false_eq_true, Nat.zero_add, Nat.add_zero, if_true, if_false, eq_self, m10]
      | split
      | with_reducible intro _
      | omega
set_option maxHeartbeats 8000000 in
theorem elX3_digest_11 (hM : MM g w0 y nM kd w) (hQ : ∀ (v : Int64) w', ext g w w' → Q (.inl (some (.long v))) w') : ∀ (d : Nat) (i1 : Int64) (i3 : Int32) (o4 o5 : Option Value) (w' : Hw) (k m : Nat), ¬ i3 < 0 → ext g w w' → 5 - i3.toInt ≤ (d : Int) → i3.toInt ≤ 5 → (k : Int) ≤ 2 * i3.toInt → (m : Int) ≤ 9 * i3.toInt → WP (MX3_digest g) Q (11, [some (.ref y), some (.long i1), none, some (.int i3), o4, o5], [], w', k, m) := by
  have zb : (4 : Int32).toInt = 4 := rfl
  intro d
  induction d with
  | zero =>
    intro i1 i3 o4 o5 w' k m z0 hk hm hi km mm
    rw [eX3_digest_11]
    repeat' first
      | with_reducible assumption
      | with_reducible refine And.intro ?_ ?_
      | with_reducible exact (by exfalso; have e := dl1 (c := 4) (i := i3) (by assumption) (by decide); omega)
      | with_reducible exact elX3_digest_35 hM hQ 70 _ _ _ _ _ _ _ (by decide) hk (by decide) (by decide) (by omega) (by omega)
      | with_reducible refine sX3_add (fun _ => ?_)
      | with_reducible refine sX3_houseNow (hM.ext' (by first | assumption | exact ext.rf | exact ext.tr hk (by assumption))) (by assumption) (by assumption) (fun _ _ _ => ?_)
      | with_reducible refine sX3_whoNow (hM.ext' (by first | assumption | exact ext.rf | exact ext.tr hk (by assumption))) (by assumption) (by first | assumption | exact lt87 (by assumption)) (fun _ => ?_)
      | with_reducible refine sX3_whichNow_ (hM.ext' (by first | assumption | exact ext.rf | exact ext.tr hk (by assumption))) (fun _ => ?_)
      | with_reducible refine sX3_pileNowM (hM.ext' (by first | assumption | exact ext.rf | exact ext.tr hk (by assumption))) (by decide) (by decide) (by assumption) (by assumption) (fun _ _ _ => ?_)
      | with_reducible refine sX3_isBareM (hM.ext' (by first | assumption | exact ext.rf | exact ext.tr hk (by assumption))) (by assumption) (by first | assumption | exact lt65 (by assumption)) ?_ (fun _ _ => ?_)
      | with_reducible refine sX3_likesNow (hM.ext' (by first | assumption | exact ext.rf | exact ext.tr hk (by assumption))) (by assumption) (by assumption) (by first | assumption | exact lt65 (by assumption)) (fun _ => ?_)
      | with_reducible refine sX3_seekNowM (hM.ext' (by first | assumption | exact ext.rf | exact ext.tr hk (by assumption))) (by assumption) (by assumption) (by first | assumption | exact lt65 (by assumption)) (fun _ _ _ _ => ?_)
      | with_reducible refine sX3_oftenNow (hM.ext' (by first | assumption | exact ext.rf | exact ext.tr hk (by assumption))) (by assumption) (by assumption) (by first | assumption | exact lt65 (by assumption)) (fun _ _ _ => ?_)
      | with_reducible refine sX3_high (fun _ => ?_)
      | with_reducible refine sX3_low (fun _ => ?_)
      | with_reducible refine sX3_one (fun _ => ?_)
      | with_reducible refine sX3_fixed (by first | assumption | exact CAt.row (by assumption) | exact isRow.ext (CAt.row (by assumption)) (by assumption)) ?_ ?_
      | with_reducible refine sX3_small (by first | assumption | exact CAt.row (by assumption) | exact isRow.ext (CAt.row (by assumption)) (by assumption)) ?_ ?_
      | with_reducible refine sX3_aroundNow (by first | assumption | exact CAt.row (by assumption) | exact isRow.ext (CAt.row (by assumption)) (by assumption)) (by assumption) (by first | assumption | exact lt43 (by assumption)) (fun _ => ?_)
      | with_reducible refine sX3_whichNow (by first | assumption | exact CAt.row (by assumption) | exact isRow.ext (CAt.row (by assumption)) (by assumption)) (fun _ => ?_)
      | with_reducible refine go_Y (hM.ext' (by first | assumption | exact ext.rf | exact ext.tr hk (by assumption))) (fun _ _ _ _ _ _ => ?_)
      | with_reducible refine gl_M (hM.ext' (by first | assumption | exact ext.rf | exact ext.tr hk (by assumption))) ?_
      | with_reducible exact vpi8 (by assumption) (by assumption)
      | with_reducible exact vpi4l (by assumption) (by assumption)
      | with_reducible exact gtC (hM.ext' (by first | assumption | exact ext.rf | exact ext.tr hk (by assumption))) (by assumption)
      | with_reducible refine sGetY (by assumption) (by assumption) (by assumption) (by first | assumption | exact lt65 (by assumption)) ?_
      | with_reducible exact isRow.ca (by first | assumption | exact CAt.row (by assumption) | exact isRow.ext (CAt.row (by assumption)) (by assumption))
      | with_reducible refine gl_Row (by first | assumption | exact CAt.row (by assumption) | exact isRow.ext (CAt.row (by assumption)) (by assumption)) (fun _ => ?_)
      | with_reducible exact hQ _ _ ((by first | assumption | exact ext.rf | exact ext.tr hk (by assumption)))
      | simp only [eX3_digest_0, eX3_digest_0N, eX3_digest_1, eX3_digest_2, eX3_digest_5, eX3_digest_8, eX3_digest_9, eX3_digest_10, eX3_digest_12, eX3_digest_13, eX3_digest_16, eX3_digest_17, eX3_digest_17N, eX3_digest_18, eX3_digest_19, eX3_digest_22, eX3_digest_23, eX3_digest_26, eX3_digest_27, eX3_digest_30, eX3_digest_33, eX3_digest_34, eX3_digest_36, eX3_digest_38, eX3_digest_41, eX3_digest_42, eX3_digest_42N, eX3_digest_43, eX3_digest_46, eX3_digest_47, eX3_digest_48, eX3_digest_51, eX3_digest_52, eX3_digest_55, eX3_digest_55N, eX3_digest_56, eX3_digest_59, eX3_digest_60, eX3_digest_61, eX3_digest_64, eX3_digest_65, eX3_digest_68, eX3_digest_68N, eX3_digest_69, eX3_digest_70, eX3_digest_71, eX3_digest_74, eX3_digest_75, eX3_digest_78, eX3_digest_78N, eX3_digest_79, eX3_digest_80, eX3_digest_81, eX3_digest_84, eX3_digest_85, eX3_digest_88, eX3_digest_89, eX3_digest_92, eX3_digest_95, eX3_digest_96, eX3_digest_98, eX3_digest_100, eX3_digest_103, eX3_digest_104, eX3_digest_104N, eX3_digest_105, eX3_digest_106, eX3_digest_109, eX3_digest_112, eX3_digest_113, eX3_digest_116, eX3_digest_117, eX3_digest_120, eX3_digest_121, eX3_digest_124, eX3_digest_125, eX3_digest_125N, eX3_digest_126, eX3_digest_127, eX3_digest_130, eX3_digest_133, eX3_digest_136, eX3_digest_136N, eX3_digest_137, eX3_digest_140, eX3_digest_141, eX3_digest_144N, eX3_digest_144R, eX3_digest_147, eX3_digest_147N, eX3_digest_149, eX3_digest_150, eX3_digest_154, eX3_digest_155, eX3_digest_158, eX3_digest_159, eX3_digest_159N, eX3_digest_161, eX3_digest_163, eX3_digest_164, eX3_digest_167, eX3_digest_168, eX3_digest_171, eX3_digest_171N, eX3_digest_173, eX3_digest_175, eX3_digest_176, eX3_digest_179, eX3_digest_180, eX3_digest_183, eX3_digest_183N, eX3_digest_185, eX3_digest_187, eX3_digest_188R, eX3_digest_188N, eX3_digest_191, eX3_digest_192, eX3_digest_195, eX3_digest_195N, eX3_digest_197, eX3_digest_199, eX3_digest_200R, eX3_digest_200N, eX3_digest_203, eX3_digest_204, eX3_digest_207, eX3_digest_208, eX3_digest_211, eX3_digest_214, eX3_digest_215, eX3_digest_215N, eX3_digest_217R, eX3_digest_217N, eX3_digest_220, eX3_digest_223, eX3_digest_224, eX3_digest_227, eX3_digest_227N, eX3_digest_229R, eX3_digest_229N, eX3_digest_232, eX3_digest_235, eX3_digest_236, eX3_digest_239, eX3_digest_239N, eX3_digest_240, eX3_digest_241, eX3_digest_244, eX3_digest_245, eX3_digest_248, eX3_digest_249, eX3_digest_250, eX3_digest_250N, eX3_digest_251, eX3_digest_252, eX3_digest_253, eX3_digest_256, eX3_digest_257, eX3_digest_260, eX3_digest_260N, eX3_digest_261, eX3_digest_262, eX3_digest_263, eX3_digest_266, eX3_digest_267, eX3_digest_270, eX3_digest_270N, eX3_digest_271, eX3_digest_272, eX3_digest_275, eX3_digest_276, eX3_digest_279, eX3_digest_280, eX3_digest_281, eX3_digest_285, eX3_digest_286, eX3_digest_289, eX3_digest_290, eX3_digest_290N, eX3_digest_292, eX3_digest_294R, eX3_digest_294N, eX3_digest_297, eX3_digest_298, eX3_digest_301, eX3_digest_302, eX3_digest_305, eX3_digest_308, eX3_digest_311, eX3_digest_314, eX3_digest_315, eX3_digest_317, eX3_digest_318, eX3_digest_321, eX3_digest_322, eX3_digest_322N, eX3_digest_323, eX3_digest_324, eX3_digest_327, eX3_digest_328, eX3_digest_331, eX3_digest_332, eX3_digest_335, eX3_digest_338, eX3_digest_339, eX3_digest_341, eX3_digest_342, eX3_digest_345, eX3_digest_346, eX3_digest_346N, eX3_digest_347, eX3_digest_348, eX3_digest_349, eX3_digest_352, eX3_digest_353, eX3_digest_356, eX3_digest_357, eX3_digest_360, eX3_digest_363, eX3_digest_364, eX3_digest_365, eX3_digest_368, ite_le, n45, n54, true_or, or_true, false_or, or_false, false_and, and_false, kx_l, kx_r, go_s, gl_s, gi_s, gb_s2, gb_s3, gq_s, wt_nil, wt_int, wt_long, wt_ref, wt_null, nl_int, nl_long, nl_ref, nl_null, nl_none, rf_n, rf_s, rf_st, tl_s, tl_n, g0, gS, ex1, nb_b, nb_0, nb_1, nf_i, nf_l, nf_ra, nf_ro, nf_na, nf_no, nf_b0, nf_z0, t45_4, t45_5, true_and, and_true, List.set_cons_zero, List.set_cons_succ, List.length_cons, List.length_nil, rd_s, upw_s, ne_eq, not_false_eq_true, Nat.zero_add, Nat.add_zero, if_true, if_false, eq_self, m10]
      | split
      | with_reducible intro _
      | omega
  | succ d ih =>
    intro i1 i3 o4 o5 w' k m z0 hk hm hi km mm
    rw [eX3_digest_11]
    repeat' first
      | with_reducible assumption
      | with_reducible refine And.intro ?_ ?_
      | with_reducible exact ih _ _ _ _ _ _ _ (ic_pl (by assumption) (by assumption) (by decide)) (by first | assumption | exact ext.rf | exact ext.tr hk (by assumption)) (by have e := dl1 (c := 4) (i := i3) (by assumption) (by decide); omega) (by have e := dl1 (c := 4) (i := i3) (by assumption) (by decide); omega) (by have e := dl1 (c := 4) (i := i3) (by assumption) (by decide); omega) (by have e := dl1 (c := 4) (i := i3) (by assumption) (by decide); omega)
      | with_reducible exact elX3_digest_35 hM hQ 70 _ _ _ _ _ _ _ (by decide) hk (by decide) (by decide) (by omega) (by omega)
      | with_reducible refine sX3_add (fun _ => ?_)
      | with_reducible refine sX3_houseNow (hM.ext' (by first | assumption | exact ext.rf | exact ext.tr hk (by assumption))) (by assumption) (by assumption) (fun _ _ _ => ?_)
      | with_reducible refine sX3_whoNow (hM.ext' (by first | assumption | exact ext.rf | exact ext.tr hk (by assumption))) (by assumption) (by first | assumption | exact lt87 (by assumption)) (fun _ => ?_)
      | with_reducible refine sX3_whichNow_ (hM.ext' (by first | assumption | exact ext.rf | exact ext.tr hk (by assumption))) (fun _ => ?_)
      | with_reducible refine sX3_pileNowM (hM.ext' (by first | assumption | exact ext.rf | exact ext.tr hk (by assumption))) (by decide) (by decide) (by assumption) (by assumption) (fun _ _ _ => ?_)
      | with_reducible refine sX3_isBareM (hM.ext' (by first | assumption | exact ext.rf | exact ext.tr hk (by assumption))) (by assumption) (by first | assumption | exact lt65 (by assumption)) ?_ (fun _ _ => ?_)
      | with_reducible refine sX3_likesNow (hM.ext' (by first | assumption | exact ext.rf | exact ext.tr hk (by assumption))) (by assumption) (by assumption) (by first | assumption | exact lt65 (by assumption)) (fun _ => ?_)
      | with_reducible refine sX3_seekNowM (hM.ext' (by first | assumption | exact ext.rf | exact ext.tr hk (by assumption))) (by assumption) (by assumption) (by first | assumption | exact lt65 (by assumption)) (fun _ _ _ _ => ?_)
      | with_reducible refine sX3_oftenNow (hM.ext' (by first | assumption | exact ext.rf | exact ext.tr hk (by assumption))) (by assumption) (by assumption) (by first | assumption | exact lt65 (by assumption)) (fun _ _ _ => ?_)
      | with_reducible refine sX3_high (fun _ => ?_)
      | with_reducible refine sX3_low (fun _ => ?_)
      | with_reducible refine sX3_one (fun _ => ?_)
      | with_reducible refine sX3_fixed (by first | assumption | exact CAt.row (by assumption) | exact isRow.ext (CAt.row (by assumption)) (by assumption)) ?_ ?_
      | with_reducible refine sX3_small (by first | assumption | exact CAt.row (by assumption) | exact isRow.ext (CAt.row (by assumption)) (by assumption)) ?_ ?_
      | with_reducible refine sX3_aroundNow (by first | assumption | exact CAt.row (by assumption) | exact isRow.ext (CAt.row (by assumption)) (by assumption)) (by assumption) (by first | assumption | exact lt43 (by assumption)) (fun _ => ?_)
      | with_reducible refine sX3_whichNow (by first | assumption | exact CAt.row (by assumption) | exact isRow.ext (CAt.row (by assumption)) (by assumption)) (fun _ => ?_)
      | with_reducible refine go_Y (hM.ext' (by first | assumption | exact ext.rf | exact ext.tr hk (by assumption))) (fun _ _ _ _ _ _ => ?_)
      | with_reducible refine gl_M (hM.ext' (by first | assumption | exact ext.rf | exact ext.tr hk (by assumption))) ?_
      | with_reducible exact vpi8 (by assumption) (by assumption)
      | with_reducible exact vpi4l (by assumption) (by assumption)
      | with_reducible exact gtC (hM.ext' (by first | assumption | exact ext.rf | exact ext.tr hk (by assumption))) (by assumption)
      | with_reducible refine sGetY (by assumption) (by assumption) (by assumption) (by first | assumption | exact lt65 (by assumption)) ?_
      | with_reducible exact isRow.ca (by first | assumption | exact CAt.row (by assumption) | exact isRow.ext (CAt.row (by assumption)) (by assumption))
      | with_reducible refine gl_Row (by first | assumption | exact CAt.row (by assumption) | exact isRow.ext (CAt.row (by assumption)) (by assumption)) (fun _ => ?_)
      | with_reducible exact hQ _ _ ((by first | assumption | exact ext.rf | exact ext.tr hk (by assumption)))
      | simp only [eX3_digest_0, eX3_digest_0N, eX3_digest_1, eX3_digest_2, eX3_digest_5, eX3_digest_8, eX3_digest_9, eX3_digest_10, eX3_digest_12, eX3_digest_13, eX3_digest_16, eX3_digest_17, eX3_digest_17N, eX3_digest_18, eX3_digest_19, eX3_digest_22, eX3_digest_23, eX3_digest_26, eX3_digest_27, eX3_digest_30, eX3_digest_33, eX3_digest_34, eX3_digest_36, eX3_digest_38, eX3_digest_41, eX3_digest_42, eX3_digest_42N, eX3_digest_43, eX3_digest_46, eX3_digest_47, eX3_digest_48, eX3_digest_51, eX3_digest_52, eX3_digest_55, eX3_digest_55N, eX3_digest_56, eX3_digest_59, eX3_digest_60, eX3_digest_61, eX3_digest_64, eX3_digest_65, eX3_digest_68, eX3_digest_68N, eX3_digest_69, eX3_digest_70, eX3_digest_71, eX3_digest_74, eX3_digest_75, eX3_digest_78, eX3_digest_78N, eX3_digest_79, eX3_digest_80, eX3_digest_81, eX3_digest_84, eX3_digest_85, eX3_digest_88, eX3_digest_89, eX3_digest_92, eX3_digest_95, eX3_digest_96, eX3_digest_98, eX3_digest_100, eX3_digest_103, eX3_digest_104, eX3_digest_104N, eX3_digest_105, eX3_digest_106, eX3_digest_109, eX3_digest_112, eX3_digest_113, eX3_digest_116, eX3_digest_117, eX3_digest_120, eX3_digest_121, eX3_digest_124, eX3_digest_125, eX3_digest_125N, eX3_digest_126, eX3_digest_127, eX3_digest_130, eX3_digest_133, eX3_digest_136, eX3_digest_136N, eX3_digest_137, eX3_digest_140, eX3_digest_141, eX3_digest_144N, eX3_digest_144R, eX3_digest_147, eX3_digest_147N, eX3_digest_149, eX3_digest_150, eX3_digest_154, eX3_digest_155, eX3_digest_158, eX3_digest_159, eX3_digest_159N, eX3_digest_161, eX3_digest_163, eX3_digest_164, eX3_digest_167, eX3_digest_168, eX3_digest_171, eX3_digest_171N, eX3_digest_173, eX3_digest_175, eX3_digest_176, eX3_digest_179, eX3_digest_180, eX3_digest_183, eX3_digest_183N, eX3_digest_185, eX3_digest_187, eX3_digest_188R, eX3_digest_188N, eX3_digest_191, eX3_digest_192, eX3_digest_195, eX3_digest_195N, eX3_digest_197, eX3_digest_199, eX3_digest_200R, eX3_digest_200N, eX3_digest_203, eX3_digest_204, eX3_digest_207, eX3_digest_208, eX3_digest_211, eX3_digest_214, eX3_digest_215, eX3_digest_215N, eX3_digest_217R, eX3_digest_217N, eX3_digest_220, eX3_digest_223, eX3_digest_224, eX3_digest_227, eX3_digest_227N, eX3_digest_229R, eX3_digest_229N, eX3_digest_232, eX3_digest_235, eX3_digest_236, eX3_digest_239, eX3_digest_239N, eX3_digest_240, eX3_digest_241, eX3_digest_244, eX3_digest_245, eX3_digest_248, eX3_digest_249, eX3_digest_250, eX3_digest_250N, eX3_digest_251, eX3_digest_252, eX3_digest_253, eX3_digest_256, eX3_digest_257, eX3_digest_260, eX3_digest_260N, eX3_digest_261, eX3_digest_262, eX3_digest_263, eX3_digest_266, eX3_digest_267, eX3_digest_270, eX3_digest_270N, eX3_digest_271, eX3_digest_272, eX3_digest_275, eX3_digest_276, eX3_digest_279, eX3_digest_280, eX3_digest_281, eX3_digest_285, eX3_digest_286, eX3_digest_289, eX3_digest_290, eX3_digest_290N, eX3_digest_292, eX3_digest_294R, eX3_digest_294N, eX3_digest_297, eX3_digest_298, eX3_digest_301, eX3_digest_302, eX3_digest_305, eX3_digest_308, eX3_digest_311, eX3_digest_314, eX3_digest_315, eX3_digest_317, eX3_digest_318, eX3_digest_321, eX3_digest_322, eX3_digest_322N, eX3_digest_323, eX3_digest_324, eX3_digest_327, eX3_digest_328, eX3_digest_331, eX3_digest_332, eX3_digest_335, eX3_digest_338, eX3_digest_339, eX3_digest_341, eX3_digest_342, eX3_digest_345, eX3_digest_346, eX3_digest_346N, eX3_digest_347, eX3_digest_348, eX3_digest_349, eX3_digest_352, eX3_digest_353, eX3_digest_356, eX3_digest_357, eX3_digest_360, eX3_digest_363, eX3_digest_364, eX3_digest_365, eX3_digest_368, ite_le, n45, n54, true_or, or_true, false_or, or_false, false_and, and_false, kx_l, kx_r, go_s, gl_s, gi_s, gb_s2, gb_s3, gq_s, wt_nil, wt_int, wt_long, wt_ref, wt_null, nl_int, nl_long, nl_ref, nl_null, nl_none, rf_n, rf_s, rf_st, tl_s, tl_n, g0, gS, ex1, nb_b, nb_0, nb_1, nf_i, nf_l, nf_ra, nf_ro, nf_na, nf_no, nf_b0, nf_z0, t45_4, t45_5, true_and, and_true, List.set_cons_zero, List.set_cons_succ, List.length_cons, List.length_nil, rd_s, upw_s, ne_eq, not_false_eq_true, Nat.zero_add, Nat.add_zero, if_true, if_false, eq_self, m10]
      | split
      | with_reducible intro _
      | omega
end
end
/-! 70.law0.lean.txt -/
section
section
variable {g : RO} {Q : Ot → Hw → Prop} {w : Hw} {x nA cA lA y nM o : Nat} {kn km : Int32}
/-! THE LAW: its state -/
/-- the object, the reference, what is handed between them; nothing old is written -/
def LWS (g : RO) (w : Hw) (x nA cA lA y nM o : Nat) (kn km : Int32) : Prop := RC w x nA cA lA kn ∧ RMo g w y nM km ∧ nA ≠ nM ∧ (∃ a b : Value, w o = some (.inr (6, [a, b]))) ∧ ∀ (a : Nat) (z : Ob), g.2 a = some z → w a = none
theorem hgo_h {M : MT} {P : St → Prop} {pc : Nat} {L : List (Option Value)} {E : String} {k n h : Nat} {HH : List (Nat × Nat × Nat × Nat)} {NN : List (Nat × String)} (e1 : M.hh = HH) (e2 : M.hnm = NN) (h1 : hfind NN pc E HH = some h) (h2 : E ∈ EX3) (kk : ∀ q : Nat, P (h, L, [.ref q], w, k, n)) : hgo M Q P pc L E w k n := by
  refine ⟨Or.inr h2, ?_⟩
  rw [e1, e2, h1]
  exact kk
theorem LWS.cc (h : LWS g w x nA cA lA y nM o kn km) : CC g w x nA cA lA kn w := ⟨h.1, FC.rf⟩
theorem LWS.mm (h : LWS g w x nA cA lA y nM o kn km) : MM g w y nM km w := ⟨h.2.1, FM.rf⟩
theorem LWS.of {kn' : Int32} {w' : Hw} (h : LWS g w x nA cA lA y nM o kn km) (k : CC g w x nA cA lA kn' w') : LWS g w' x nA cA lA y nM o kn' km := by
  obtain ⟨h1, h2, h3, ⟨a, b, h4⟩, h5⟩ := h
  obtain ⟨n, rf, md, f, gc, gl, r1, r2, -⟩ := h1
  exact ⟨k.1, h2.FC k.2 r2 h3.symm, h3, ⟨a, b, k.2.ne r2 h4 (fun e => by cases e) rfl⟩, fun a z e => k.2.2 a z e (h5 a z e)⟩
theorem LWS.ofM {km' : Int32} {w' : Hw} (h : LWS g w x nA cA lA y nM o kn km) (k : MM g w y nM km' w') : LWS g w' x nA cA lA y nM o kn km' := by
  obtain ⟨h1, h2, h3, ⟨a, b, h4⟩, h5⟩ := h
  obtain ⟨cL, pL, D1, D2, c1, c2, th, rf, md, n, f, q1, q2, a1, a2, -⟩ := h2
  refine ⟨h1.FM k.2 ⟨f, a2⟩ h3, k.1, h3, ⟨a, b, k.2.1 _ _ h4 (ne_of h4 a2 (fun e => by cases e)) rfl⟩, fun a z e => k.2.2 a z e (h5 a z e)⟩
theorem LWS.ext {w' : Hw} (h : LWS g w x nA cA lA y nM o kn km) (k : ext g w w') : LWS g w' x nA cA lA y nM o kn km := h.of (h.cc.ext k)
/-- what is handed on is written -/
theorem LWS.out {a b a' b' : Value} (h : LWS g w x nA cA lA y nM o kn km) (ho : w o = some (.inr (6, [a, b]))) : LWS g (upw w o (.inr (6, [a', b']))) x nA cA lA y nM o kn km := by
  obtain ⟨h1, h2, h3, -, h5⟩ := h
  obtain ⟨n, rf, md, f, gc, gl, r1, r2, r3, r4, r5, r6, r7⟩ := h1
  obtain ⟨cL, pL, D1, D2, c1, c2, th, rf', md', n', f', q1, q2, a1, a2, a3, a4, a5, a6, a7⟩ := h2
  have mv : ∀ {a : Nat} {z : Ob}, w a = some z → (∀ fs, z ≠ .inr (6, fs)) → upw w o (.inr (6, [a', b'])) a = some z := fun e n => by
    rw [upw_n (ne_of e ho (n _))]
    exact e
  have rr : ∀ b, isR w b → isR (upw w o (.inr (6, [a', b']))) b := fun b ⟨r0, r1, r2, r3, hb⟩ => ⟨r0, r1, r2, r3, mv hb (fun _ e => by cases e)⟩
  refine ⟨⟨n, rf, md, f, gc, gl, mv r1 (fun _ e => by cases e), mv r2 (fun _ e => by cases e), mv r3 (fun _ e => by cases e), mv r4 (fun _ e => by cases e), fun i b z => rr b (r5 i b z), fun i b z => rr b (r6 i b z), r7⟩, ⟨cL, pL, D1, D2, c1, c2, th, rf', md', n', f', q1, q2, mv a1 (fun _ e => by cases e), mv a2 (fun _ e => by cases e), a3.up ho (fun _ e => by cases e) (fun _ e => by cases e), fun i b z => isRow_up (a4 i b z) ho (fun _ e => by cases e), a5.up ho (fun _ e => by cases e) (fun _ e => by cases e), fun i b z => isRow_up (a6 i b z) ho (fun _ e => by cases e), a7⟩, h3, ⟨a', b', upw_s _ _ _⟩, fun a z e => ?_⟩
  rw [upw_n]
  · exact h5 a z e
  · rintro rfl
    rw [h5 _ _ e] at ho
    cases ho
/-- what the old cells and numbers hold -/
def RG (g : RO) : Prop := SG g ∧ ((∃ e : Nat, g.1 0 = .ref e ∧ g.2 e = some (.inl (5, 0, qc fun _ => none))) ∧ ∃ mi : Nat, g.1 10 = .ref mi) ∧ ((∃ (a : Nat) (f : Nat → Int32), g.1 2 = .ref a ∧ g.2 a = some (.inl (2, 100, .inl f))) ∧ ∃ (a : Nat) (f : Nat → Int32), g.1 3 = .ref a ∧ g.2 a = some (.inl (2, 100, .inl f))) ∧ (∃ s, g.1 20 = .ref s) ∧ (∃ s, g.1 22 = .ref s) ∧ (∃ s, g.1 21 = .ref s ∧ (∃ (v M : Nat) (f : Nat → Int32) (h z : Value), g.2 s = some (.inr (0, [.ref v, .int 0, h, z])) ∧ g.2 v = some (.inl (2, M, .inl f)) ∧ bOK M f ∧ M ≤ 8) ∧ STB g s 0) ∧ ∃ s, g.1 23 = .ref s ∧ (∃ (v M : Nat) (f : Nat → Int32) (h z : Value), g.2 s = some (.inr (0, [.ref v, .int 0, h, z])) ∧ g.2 v = some (.inl (2, M, .inl f)) ∧ bOK M f ∧ M ≤ 8) ∧ STB g s 1
theorem RG.eg (h : RG g) (k : ∀ (a : Nat) (z : Ob), g.2 a = some z → w a = none) : EG g w := ⟨h.2.1.1.imp fun _ z => ⟨z.1, z.2, k _ _ z.2⟩, h.2.1.2⟩
theorem RG.dg (h : RG g) (k : ∀ (a : Nat) (z : Ob), g.2 a = some z → w a = none) : DG g w := ⟨h.1.1, h.2.2.1.1.imp fun _ z => z.imp fun _ z => ⟨z.1, z.2, k _ _ z.2⟩, h.2.2.1.2.imp fun _ z => z.imp fun _ z => ⟨z.1, z.2, k _ _ z.2⟩⟩
theorem RG.tx (h : RG g) (k : ∀ (a : Nat) (z : Ob), g.2 a = some z → w a = none) : TXT g w := by
  obtain ⟨-, -, -, -, h22, ⟨s, e1, ⟨v, M, f, h, z, q1, q2, q3, q4⟩, e3⟩, s', e1', ⟨v', M', f', h', z', q1', q2', q3', q4'⟩, e3'⟩ := h
  exact ⟨⟨s, e1, ⟨v, M, f, h, z, q1, k _ _ q1, q2, k _ _ q2, q3, q4⟩, e3⟩, h22, s', e1', ⟨v', M', f', h', z', q1', k _ _ q1', q2', k _ _ q2', q3', q4'⟩, e3'⟩
theorem RG.sg (h : RG g) : SG g := h.1
theorem RG.r20 (h : RG g) : ∃ s, g.1 20 = .ref s := h.2.2.2.1
theorem LWS.ro (h : LWS g w x nA cA lA y nM o kn km) : ∀ (a : Nat) (z : Ob), g.2 a = some z → w a = none := h.2.2.2.2
end
end
/-! 71.fn0.lean.txt -/
section
section
variable {g : RO} {Q : Ot → Hw → Prop} {w0 w : Hw} {x nA cA lA : Nat} {kn : Int32}
/-! FUNCTIONAL SPECS, 1: ranges -/
/-- guards: the goal's head -/
theorem isQ {Q : Ot → Hw → Prop} {o : Ot} {w : Hw} (h : Q o w) : Q o w := h
theorem isWP {M : MT} {Q : Ot → Hw → Prop} {pc k n : Nat} {L : List (Option Value)} {st : List Value} {w : Hw} (h : WP M Q (pc, L, st, w, k, n)) : WP M Q (pc, L, st, w, k, n) := h
abbrev R4 : Type := Int64 × Int64 × Int64 × Int64
theorem i10 : ((1 : Int32) = 0) = False := eq_false (by decide)
theorem i00 : ((0 : Int32) = 0) = True := eq_true rfl
theorem lgp {x y : Int64} : (0 < lg_cmp x y) = (y.toInt < x.toInt) := by
  unfold lg_cmp
  simp only [gt_iff_lt, Int64.lt_iff_toInt_lt, ← Int64.toInt_inj]
  refine propext ?_
  repeat' split
  all_goals (first | (constructor <;> intro h <;> first | assumption | (exfalso; omega) | (exfalso; revert h; decide) | decide))
theorem lgn {x y : Int64} : (lg_cmp x y < 0) = (x.toInt < y.toInt) := by
  unfold lg_cmp
  simp only [gt_iff_lt, Int64.lt_iff_toInt_lt, ← Int64.toInt_inj]
  refine propext ?_
  repeat' split
  all_goals (first | (constructor <;> intro h <;> first | assumption | omega | (exfalso; omega) | (exfalso; revert h; decide) | decide))
theorem lgz {x y : Int64} : (lg_cmp x y = 0) = (x.toInt = y.toInt) := by
  unfold lg_cmp
  simp only [gt_iff_lt, Int64.lt_iff_toInt_lt, ← Int64.toInt_inj]
  refine propext ?_
  repeat' split
  all_goals (first | (constructor <;> intro h <;> first | assumption | omega | (exfalso; omega) | (exfalso; revert h; decide) | decide))
def rAt (w : Hw) (b : Nat) (r : R4) : Prop := w b = some (.inr (4, [.long r.1, .long r.2.1, .long r.2.2.1, .long r.2.2.2]))
theorem rAt.ext {w' : Hw} {b : Nat} {r : R4} (h : rAt w b r) (k : ext g w w') : rAt w' b r := k.1 _ _ h
theorem rAt.isR {b : Nat} {r : R4} (h : rAt w b r) : isR w b := ⟨_, _, _, _, h⟩
theorem go_F {b : Nat} {r : R4} {K : List Value → Prop} (h : rAt w b r) (k : K [.long r.1, .long r.2.1, .long r.2.2.1, .long r.2.2.2]) : go (rd g w b) 4 K := by
  rw [rd_e h, go_s]
  exact k
/-- the four ends are in order -/
abbrev oP (a b c d : Int64) : Prop := a.toInt ≤ b.toInt ∧ c.toInt ≤ d.toInt ∧ a.toInt ≤ c.toInt ∧ b.toInt ≤ d.toInt
abbrev rOk (r : R4) : Prop := oP r.1 r.2.1 r.2.2.1 r.2.2.2
abbrev hP (r : R4) (v : Int64) : Prop := r.1.toInt ≤ v.toInt ∧ v.toInt ≤ r.2.2.2.toInt
abbrev sP (r : R4) : Prop := -2147483648 ≤ r.1.toInt ∧ r.2.2.2.toInt ≤ 2147483647
abbrev fP (r : R4) : Prop := r.1.toInt = r.2.1.toInt ∧ r.2.2.1.toInt = r.2.2.2.toInt
abbrev mP (r q : R4) : Prop := r.1.toInt = q.1.toInt ∧ r.2.1.toInt = q.2.1.toInt ∧ r.2.2.1.toInt = q.2.2.1.toInt ∧ r.2.2.2.toInt = q.2.2.2.toInt
def hV (r : R4) : Int64 := ((r.1 * 31 + r.2.1) * 31 + r.2.2.1) * 31 + r.2.2.2
def eV (r : R4) (a : Int32) : Int64 := if a = 0 then r.1 else if a = 1 then r.2.1 else if a = 2 then r.2.2.1 else r.2.2.2
theorem lmi : (-2147483648 : Int64).toInt = -2147483648 := by decide
theorem lmx : (2147483647 : Int64).toInt = 2147483647 := by decide
set_option maxHeartbeats 4000000 in
theorem fX0_isInOrder {a0 a1 a2 a3 : Int64}  (hT : oP a0 a1 a2 a3 → Q (.inl (some (.int 1))) w) (hF : ¬ (oP a0 a1 a2 a3) → Q (.inl (some (.int 0))) w) : WP (MX0_isInOrder g) Q (0, [some (.long a0), none, some (.long a1), none, some (.long a2), none, some (.long a3), none], [], w, 0, 0) := by
  repeat' first
    | with_reducible assumption
    | with_reducible refine And.intro ?_ ?_
    | with_reducible exact vpi6 (by assumption) (by assumption)
    | with_reducible exact vpi8 (by assumption) (by assumption)
    | with_reducible exact trivial
    | with_reducible exact go_F (by assumption) trivial
    | with_reducible exact hT (by omega)
    | with_reducible exact hF (by omega)
    | simp only [eX0_isInOrder_0, eX0_isInOrder_1, eX0_isInOrder_2, eX0_isInOrder_3, eX0_isInOrder_6, eX0_isInOrder_8, eX0_isInOrder_10, eX0_isInOrder_11, eX0_isInOrder_14, eX0_isInOrder_15, eX0_isInOrder_17, eX0_isInOrder_18, eX0_isInOrder_21, eX0_isInOrder_22, eX0_isInOrder_24, eX0_isInOrder_25, eX0_isInOrder_28, eX0_isInOrder_29, eX0_isInOrder_32, eX0_isInOrder_33, lgp, lgn, lgz, i10, i00, if_true, if_false, eq_self, not_true, not_false_eq_true, ite_le, n45, n54, true_or, or_true, false_or, or_false, false_and, and_false, kx_l, kx_r, go_s, gl_s, gi_s, gb_s2, gb_s3, gq_s, wt_nil, wt_int, wt_long, wt_ref, wt_null, nl_int, nl_long, nl_ref, nl_null, nl_none, rf_n, rf_s, rf_st, tl_s, tl_n, g0, gS, ex1, nb_b, nb_0, nb_1, nf_i, nf_l, nf_ra, nf_ro, nf_na, nf_no, nf_b0, nf_z0, t45_4, t45_5, true_and, and_true, List.set_cons_zero, List.set_cons_succ, List.length_cons, List.length_nil, rd_s, upw_s, ne_eq, not_false_eq_true, Nat.zero_add, Nat.add_zero]
    | split
    | with_reducible intro _
    | omega
set_option maxHeartbeats 4000000 in
theorem fX0_holds {p : Nat} {r : R4} {a0 : Int64} (hp : rAt w p r) (hT : hP r a0 → Q (.inl (some (.int 1))) w) (hF : ¬ (hP r a0) → Q (.inl (some (.int 0))) w) : WP (MX0_holds g) Q (0, [some (.ref p), some (.long a0), none], [], w, 0, 0) := by
  repeat' first
    | with_reducible assumption
    | with_reducible refine And.intro ?_ ?_
    | with_reducible exact vpi6 (by assumption) (by assumption)
    | with_reducible exact vpi8 (by assumption) (by assumption)
    | with_reducible exact trivial
    | with_reducible exact go_F (by assumption) trivial
    | with_reducible refine go_F (by assumption) ?_
    | with_reducible exact hT (by omega)
    | with_reducible exact hF (by omega)
    | simp only [eX0_holds_0, eX0_holds_0N, eX0_holds_1, eX0_holds_4, eX0_holds_5, eX0_holds_6, eX0_holds_9, eX0_holds_10, eX0_holds_10N, eX0_holds_11, eX0_holds_14, eX0_holds_15, eX0_holds_18, eX0_holds_19, eX0_holds_22, eX0_holds_23, lgp, lgn, lgz, i10, i00, if_true, if_false, eq_self, not_true, not_false_eq_true, ite_le, n45, n54, true_or, or_true, false_or, or_false, false_and, and_false, kx_l, kx_r, go_s, gl_s, gi_s, gb_s2, gb_s3, gq_s, wt_nil, wt_int, wt_long, wt_ref, wt_null, nl_int, nl_long, nl_ref, nl_null, nl_none, rf_n, rf_s, rf_st, tl_s, tl_n, g0, gS, ex1, nb_b, nb_0, nb_1, nf_i, nf_l, nf_ra, nf_ro, nf_na, nf_no, nf_b0, nf_z0, t45_4, t45_5, true_and, and_true, List.set_cons_zero, List.set_cons_succ, List.length_cons, List.length_nil, rd_s, upw_s, ne_eq, not_false_eq_true, Nat.zero_add, Nat.add_zero]
    | split
    | with_reducible intro _
    | omega
set_option maxHeartbeats 4000000 in
theorem fX0_fitsSmall {p : Nat} {r : R4} (hp : rAt w p r) (hT : sP r → Q (.inl (some (.int 1))) w) (hF : ¬ (sP r) → Q (.inl (some (.int 0))) w) : WP (MX0_fitsSmall g) Q (0, [some (.ref p)], [], w, 0, 0) := by
  repeat' first
    | with_reducible assumption
    | with_reducible refine And.intro ?_ ?_
    | with_reducible exact vpi6 (by assumption) (by assumption)
    | with_reducible exact vpi8 (by assumption) (by assumption)
    | with_reducible exact trivial
    | with_reducible exact go_F (by assumption) trivial
    | with_reducible refine go_F (by assumption) ?_
    | with_reducible exact hT (by omega)
    | with_reducible exact hF (by omega)
    | simp only [eX0_fitsSmall_0, eX0_fitsSmall_0N, eX0_fitsSmall_1, eX0_fitsSmall_4, eX0_fitsSmall_7, eX0_fitsSmall_8, eX0_fitsSmall_11, eX0_fitsSmall_11N, eX0_fitsSmall_12, eX0_fitsSmall_15, eX0_fitsSmall_18, eX0_fitsSmall_19, eX0_fitsSmall_22, eX0_fitsSmall_23, eX0_fitsSmall_26, eX0_fitsSmall_27, lgp, lgn, lgz, i10, i00, if_true, if_false, eq_self, not_true, not_false_eq_true, lmi, lmx, ite_le, n45, n54, true_or, or_true, false_or, or_false, false_and, and_false, kx_l, kx_r, go_s, gl_s, gi_s, gb_s2, gb_s3, gq_s, wt_nil, wt_int, wt_long, wt_ref, wt_null, nl_int, nl_long, nl_ref, nl_null, nl_none, rf_n, rf_s, rf_st, tl_s, tl_n, g0, gS, ex1, nb_b, nb_0, nb_1, nf_i, nf_l, nf_ra, nf_ro, nf_na, nf_no, nf_b0, nf_z0, t45_4, t45_5, true_and, and_true, List.set_cons_zero, List.set_cons_succ, List.length_cons, List.length_nil, rd_s, upw_s, ne_eq, not_false_eq_true, Nat.zero_add, Nat.add_zero]
    | split
    | with_reducible intro _
    | omega
set_option maxHeartbeats 4000000 in
theorem fX0_holdsAsSmall {p : Nat} {r : R4} {a0 : Int64} (hp : rAt w p r) (hT : (sP r ∧ hP r a0) → Q (.inl (some (.int 1))) w) (hF : ¬ (sP r ∧ hP r a0) → Q (.inl (some (.int 0))) w) : WP (MX0_holdsAsSmall g) Q (0, [some (.ref p), some (.long a0), none], [], w, 0, 0) := by
  repeat' first
    | with_reducible assumption
    | with_reducible refine And.intro ?_ ?_
    | with_reducible exact vpi6 (by assumption) (by assumption)
    | with_reducible exact vpi8 (by assumption) (by assumption)
    | with_reducible exact trivial
    | with_reducible exact go_F (by assumption) trivial
    | with_reducible refine go_F (by assumption) ?_
    | with_reducible refine fX0_holds (by assumption) (fun _ => ?_) (fun _ => ?_)
    | with_reducible refine fX0_fitsSmall (by assumption) (fun _ => ?_) (fun _ => ?_)
    | with_reducible exact hT (by omega)
    | with_reducible exact hF (by omega)
    | simp only [eX0_holdsAsSmall_0, eX0_holdsAsSmall_0N, eX0_holdsAsSmall_1, eX0_holdsAsSmall_4, eX0_holdsAsSmall_7, eX0_holdsAsSmall_7N, eX0_holdsAsSmall_8, eX0_holdsAsSmall_9, eX0_holdsAsSmall_12, eX0_holdsAsSmall_15, eX0_holdsAsSmall_16, eX0_holdsAsSmall_19, eX0_holdsAsSmall_20, lgp, lgn, lgz, i10, i00, if_true, if_false, eq_self, not_true, not_false_eq_true, ite_le, n45, n54, true_or, or_true, false_or, or_false, false_and, and_false, kx_l, kx_r, go_s, gl_s, gi_s, gb_s2, gb_s3, gq_s, wt_nil, wt_int, wt_long, wt_ref, wt_null, nl_int, nl_long, nl_ref, nl_null, nl_none, rf_n, rf_s, rf_st, tl_s, tl_n, g0, gS, ex1, nb_b, nb_0, nb_1, nf_i, nf_l, nf_ra, nf_ro, nf_na, nf_no, nf_b0, nf_z0, t45_4, t45_5, true_and, and_true, List.set_cons_zero, List.set_cons_succ, List.length_cons, List.length_nil, rd_s, upw_s, ne_eq, not_false_eq_true, Nat.zero_add, Nat.add_zero]
    | split
    | with_reducible intro _
    | omega
set_option maxHeartbeats 4000000 in
theorem fX0_holdsAs {p : Nat} {r : R4} {a0 : Int64} {a1 : Int32} (hp : rAt w p r) (hT : ((a1 = 0 ∨ sP r) ∧ hP r a0) → Q (.inl (some (.int 1))) w) (hF : ¬ ((a1 = 0 ∨ sP r) ∧ hP r a0) → Q (.inl (some (.int 0))) w) : WP (MX0_holdsAs g) Q (0, [some (.ref p), some (.long a0), none, some (.int a1)], [], w, 0, 0) := by
  repeat' first
    | with_reducible assumption
    | with_reducible refine And.intro ?_ ?_
    | with_reducible exact vpi6 (by assumption) (by assumption)
    | with_reducible exact vpi8 (by assumption) (by assumption)
    | with_reducible exact trivial
    | with_reducible exact go_F (by assumption) trivial
    | with_reducible exact hT ⟨Or.inl (by assumption), by assumption⟩
    | with_reducible exact hT ⟨Or.inr (And.left (by assumption : sP r ∧ hP r a0)), And.right (by assumption : sP r ∧ hP r a0)⟩
    | ((with_reducible refine isQ (Q := Q) ?_); exact hF (fun h => (by assumption : ¬ hP r a0) h.2))
    | ((with_reducible refine isQ (Q := Q) ?_); exact hF (fun h => (by assumption : ¬ (sP r ∧ hP r a0)) ⟨h.1.resolve_left (by assumption), h.2⟩))
    | with_reducible refine fX0_holds (by assumption) (fun _ => ?_) (fun _ => ?_)
    | with_reducible refine fX0_holdsAsSmall (by assumption) (fun _ => ?_) (fun _ => ?_)
    | with_reducible exact hT (by omega)
    | with_reducible exact hF (by omega)
    | simp only [eX0_holdsAs_0, eX0_holdsAs_1, eX0_holdsAs_4, eX0_holdsAs_4N, eX0_holdsAs_5, eX0_holdsAs_6, eX0_holdsAs_9, eX0_holdsAs_12, eX0_holdsAs_12N, eX0_holdsAs_13, eX0_holdsAs_14, eX0_holdsAs_17, lgp, lgn, lgz, i10, i00, if_true, if_false, eq_self, not_true, not_false_eq_true, ite_le, n45, n54, true_or, or_true, false_or, or_false, false_and, and_false, kx_l, kx_r, go_s, gl_s, gi_s, gb_s2, gb_s3, gq_s, wt_nil, wt_int, wt_long, wt_ref, wt_null, nl_int, nl_long, nl_ref, nl_null, nl_none, rf_n, rf_s, rf_st, tl_s, tl_n, g0, gS, ex1, nb_b, nb_0, nb_1, nf_i, nf_l, nf_ra, nf_ro, nf_na, nf_no, nf_b0, nf_z0, t45_4, t45_5, true_and, and_true, List.set_cons_zero, List.set_cons_succ, List.length_cons, List.length_nil, rd_s, upw_s, ne_eq, not_false_eq_true, Nat.zero_add, Nat.add_zero]
    | split
    | with_reducible intro _
    | omega
set_option maxHeartbeats 4000000 in
theorem fX0_isSettled {p : Nat} {r : R4} (hp : rAt w p r) (hT : fP r → Q (.inl (some (.int 1))) w) (hF : ¬ (fP r) → Q (.inl (some (.int 0))) w) : WP (MX0_isSettled g) Q (0, [some (.ref p)], [], w, 0, 0) := by
  repeat' first
    | with_reducible assumption
    | with_reducible refine And.intro ?_ ?_
    | with_reducible exact vpi6 (by assumption) (by assumption)
    | with_reducible exact vpi8 (by assumption) (by assumption)
    | with_reducible exact trivial
    | with_reducible exact go_F (by assumption) trivial
    | with_reducible refine go_F (by assumption) ?_
    | with_reducible exact hT (by omega)
    | with_reducible exact hF (by omega)
    | simp only [eX0_isSettled_0, eX0_isSettled_0N, eX0_isSettled_1, eX0_isSettled_4, eX0_isSettled_4N, eX0_isSettled_5, eX0_isSettled_8, eX0_isSettled_9, eX0_isSettled_12, eX0_isSettled_12N, eX0_isSettled_13, eX0_isSettled_16, eX0_isSettled_16N, eX0_isSettled_17, eX0_isSettled_20, eX0_isSettled_21, eX0_isSettled_24, eX0_isSettled_25, eX0_isSettled_28, eX0_isSettled_29, lgp, lgn, lgz, i10, i00, if_true, if_false, eq_self, not_true, not_false_eq_true, ite_le, n45, n54, true_or, or_true, false_or, or_false, false_and, and_false, kx_l, kx_r, go_s, gl_s, gi_s, gb_s2, gb_s3, gq_s, wt_nil, wt_int, wt_long, wt_ref, wt_null, nl_int, nl_long, nl_ref, nl_null, nl_none, rf_n, rf_s, rf_st, tl_s, tl_n, g0, gS, ex1, nb_b, nb_0, nb_1, nf_i, nf_l, nf_ra, nf_ro, nf_na, nf_no, nf_b0, nf_z0, t45_4, t45_5, true_and, and_true, List.set_cons_zero, List.set_cons_succ, List.length_cons, List.length_nil, rd_s, upw_s, ne_eq, not_false_eq_true, Nat.zero_add, Nat.add_zero]
    | split
    | with_reducible intro _
    | omega
set_option maxHeartbeats 4000000 in
theorem fX0_matchesR {p q : Nat} {r s : R4} (hp : rAt w p r) (hq : rAt w q s) (hT : mP r s → Q (.inl (some (.int 1))) w) (hF : ¬ (mP r s) → Q (.inl (some (.int 0))) w) : WP (MX0_matches g) Q (0, [some (.ref p), some (.ref q)], [], w, 0, 0) := by
  repeat' first
    | with_reducible assumption
    | with_reducible refine And.intro ?_ ?_
    | with_reducible exact vpi6 (by assumption) (by assumption)
    | with_reducible exact vpi8 (by assumption) (by assumption)
    | with_reducible exact trivial
    | with_reducible exact go_F (by assumption) trivial
    | with_reducible refine go_F (by assumption) ?_
    | with_reducible exact hT (by omega)
    | with_reducible exact hF (by omega)
    | simp only [eX0_matches_0, eX0_matches_0N, eX0_matches_1R, eX0_matches_1N, eX0_matches_4, eX0_matches_4N, eX0_matches_5, eX0_matches_8, eX0_matches_8N, eX0_matches_9, eX0_matches_12, eX0_matches_13, eX0_matches_16, eX0_matches_16N, eX0_matches_17, eX0_matches_20, eX0_matches_20N, eX0_matches_21, eX0_matches_24, eX0_matches_25, eX0_matches_28, eX0_matches_28N, eX0_matches_29, eX0_matches_32, eX0_matches_32N, eX0_matches_33, eX0_matches_36, eX0_matches_37, eX0_matches_40, eX0_matches_40N, eX0_matches_41, eX0_matches_44, eX0_matches_44N, eX0_matches_45, eX0_matches_48, eX0_matches_49, eX0_matches_52, eX0_matches_53, eX0_matches_56, eX0_matches_57, lgp, lgn, lgz, i10, i00, if_true, if_false, eq_self, not_true, not_false_eq_true, ite_le, n45, n54, true_or, or_true, false_or, or_false, false_and, and_false, kx_l, kx_r, go_s, gl_s, gi_s, gb_s2, gb_s3, gq_s, wt_nil, wt_int, wt_long, wt_ref, wt_null, nl_int, nl_long, nl_ref, nl_null, nl_none, rf_n, rf_s, rf_st, tl_s, tl_n, g0, gS, ex1, nb_b, nb_0, nb_1, nf_i, nf_l, nf_ra, nf_ro, nf_na, nf_no, nf_b0, nf_z0, t45_4, t45_5, true_and, and_true, List.set_cons_zero, List.set_cons_succ, List.length_cons, List.length_nil, rd_s, upw_s, ne_eq, not_false_eq_true, Nat.zero_add, Nat.add_zero]
    | split
    | with_reducible intro _
    | omega
set_option maxHeartbeats 4000000 in
theorem fX0_hash {p : Nat} {r : R4} (hp : rAt w p r) (hQ : Q (.inl (some (.long (hV r)))) w) : WP (MX0_hash g) Q (0, [some (.ref p), none, none], [], w, 0, 0) := by
  repeat' first
    | with_reducible assumption
    | with_reducible refine And.intro ?_ ?_
    | with_reducible exact vpi6 (by assumption) (by assumption)
    | with_reducible exact vpi8 (by assumption) (by assumption)
    | with_reducible exact trivial
    | with_reducible exact go_F (by assumption) trivial
    | with_reducible refine go_F (by assumption) ?_
    | ((with_reducible refine isQ (Q := Q) ?_); exact hQ)
    | simp only [eX0_hash_0, eX0_hash_0N, eX0_hash_1, eX0_hash_4, eX0_hash_5, eX0_hash_6, eX0_hash_9, eX0_hash_10, eX0_hash_10N, eX0_hash_11, eX0_hash_14, eX0_hash_15, eX0_hash_16, eX0_hash_17, eX0_hash_20, eX0_hash_21, eX0_hash_21N, eX0_hash_22, eX0_hash_25, eX0_hash_26, eX0_hash_27, eX0_hash_28, eX0_hash_31, eX0_hash_32, eX0_hash_32N, eX0_hash_33, eX0_hash_36, eX0_hash_37, lgp, lgn, lgz, i10, i00, if_true, if_false, eq_self, not_true, not_false_eq_true, ite_le, n45, n54, true_or, or_true, false_or, or_false, false_and, and_false, kx_l, kx_r, go_s, gl_s, gi_s, gb_s2, gb_s3, gq_s, wt_nil, wt_int, wt_long, wt_ref, wt_null, nl_int, nl_long, nl_ref, nl_null, nl_none, rf_n, rf_s, rf_st, tl_s, tl_n, g0, gS, ex1, nb_b, nb_0, nb_1, nf_i, nf_l, nf_ra, nf_ro, nf_na, nf_no, nf_b0, nf_z0, t45_4, t45_5, true_and, and_true, List.set_cons_zero, List.set_cons_succ, List.length_cons, List.length_nil, rd_s, upw_s, ne_eq, not_false_eq_true, Nat.zero_add, Nat.add_zero]
    | split
    | with_reducible intro _
    | omega
set_option maxHeartbeats 4000000 in
theorem fX0_ofFour {a0 a1 a2 a3 : Int64} (hN : ¬ oP a0 a1 a2 a3 → Q (.inl (some .null)) w) (hQ : oP a0 a1 a2 a3 → ∀ q, rd g w q = none → Q (.inl (some (.ref q))) (upw w q (.inr (4, [.long a0, .long a1, .long a2, .long a3])))) : WP (MX0_ofFour g) Q (0, [some (.long a0), none, some (.long a1), none, some (.long a2), none, some (.long a3), none], [], w, 0, 0) := by
  repeat' first
    | with_reducible assumption
    | with_reducible refine And.intro ?_ ?_
    | with_reducible exact vpi6 (by assumption) (by assumption)
    | with_reducible exact vpi8 (by assumption) (by assumption)
    | with_reducible refine fX0_isInOrder (fun _ => ?_) (fun _ => ?_)
    | with_reducible exact hN (by assumption)
    | with_reducible exact hQ (by assumption) _ (by assumption)
    | simp only [eX0_ofFour_0, eX0_ofFour_1, eX0_ofFour_2, eX0_ofFour_4, eX0_ofFour_6, eX0_ofFour_9, eX0_ofFour_12, eX0_ofFour_15, eX0_ofFour_15R, eX0_ofFour_16, eX0_ofFour_17, eX0_ofFour_18, eX0_ofFour_20, eX0_ofFour_22, eX0_ofFour_25, eX0_ofFour_28, eX0_ofFour_29, eX0_ofFour_29N, eX0_init_0, eX0_init_0N, eX0_init_1, eX0_init_4, eX0_init_4N, eX0_init_5, eX0_init_6, eX0_init_9, eX0_init_9N, eX0_init_10, eX0_init_11, eX0_init_14, eX0_init_14N, eX0_init_15, eX0_init_17, eX0_init_20, eX0_init_20N, eX0_init_21, eX0_init_23, eX0_init_26, lgp, lgn, lgz, i10, i00, if_true, if_false, eq_self, not_true, not_false_eq_true, upw2q, ite_le, n45, n54, true_or, or_true, false_or, or_false, false_and, and_false, kx_l, kx_r, go_s, gl_s, gi_s, gb_s2, gb_s3, gq_s, wt_nil, wt_int, wt_long, wt_ref, wt_null, nl_int, nl_long, nl_ref, nl_null, nl_none, rf_n, rf_s, rf_st, tl_s, tl_n, g0, gS, ex1, nb_b, nb_0, nb_1, nf_i, nf_l, nf_ra, nf_ro, nf_na, nf_no, nf_b0, nf_z0, t45_4, t45_5, true_and, and_true, List.set_cons_zero, List.set_cons_succ, List.length_cons, List.length_nil, rd_s, upw_s, ne_eq, not_false_eq_true, Nat.zero_add, Nat.add_zero]
    | split
    | with_reducible intro _
    | omega
set_option maxHeartbeats 4000000 in
theorem fX0_ofThree {a0 a1 a2 : Int64} (hN : ¬ oP a0 a0 a1 a2 → Q (.inl (some .null)) w) (hQ : oP a0 a0 a1 a2 → ∀ q, rd g w q = none → Q (.inl (some (.ref q))) (upw w q (.inr (4, [.long a0, .long a0, .long a1, .long a2])))) : WP (MX0_ofThree g) Q (0, [some (.long a0), none, some (.long a1), none, some (.long a2), none], [], w, 0, 0) := by
  repeat' first
    | with_reducible assumption
    | with_reducible refine And.intro ?_ ?_
    | with_reducible exact vpi6 (by assumption) (by assumption)
    | with_reducible exact vpi8 (by assumption) (by assumption)
    | with_reducible exact hN (by assumption)
    | with_reducible exact hQ (by assumption) _ (by assumption)
    | with_reducible refine fX0_ofFour (fun _ => ?_) (fun _ _ _ => ?_)
    | simp only [eX0_ofThree_0, eX0_ofThree_1, eX0_ofThree_2, eX0_ofThree_3, eX0_ofThree_5, eX0_ofThree_8, eX0_ofThree_8N, lgp, lgn, lgz, i10, i00, if_true, if_false, eq_self, not_true, not_false_eq_true, ite_le, n45, n54, true_or, or_true, false_or, or_false, false_and, and_false, kx_l, kx_r, go_s, gl_s, gi_s, gb_s2, gb_s3, gq_s, wt_nil, wt_int, wt_long, wt_ref, wt_null, nl_int, nl_long, nl_ref, nl_null, nl_none, rf_n, rf_s, rf_st, tl_s, tl_n, g0, gS, ex1, nb_b, nb_0, nb_1, nf_i, nf_l, nf_ra, nf_ro, nf_na, nf_no, nf_b0, nf_z0, t45_4, t45_5, true_and, and_true, List.set_cons_zero, List.set_cons_succ, List.length_cons, List.length_nil, rd_s, upw_s, ne_eq, not_false_eq_true, Nat.zero_add, Nat.add_zero]
    | split
    | with_reducible intro _
    | omega
set_option maxHeartbeats 4000000 in
theorem fX0_ofTwo {a0 a1 : Int64} (hN : ¬ oP a0 a0 a1 a1 → Q (.inl (some .null)) w) (hQ : oP a0 a0 a1 a1 → ∀ q, rd g w q = none → Q (.inl (some (.ref q))) (upw w q (.inr (4, [.long a0, .long a0, .long a1, .long a1])))) : WP (MX0_ofTwo g) Q (0, [some (.long a0), none, some (.long a1), none], [], w, 0, 0) := by
  repeat' first
    | with_reducible assumption
    | with_reducible refine And.intro ?_ ?_
    | with_reducible exact vpi6 (by assumption) (by assumption)
    | with_reducible exact vpi8 (by assumption) (by assumption)
    | with_reducible exact hN (by assumption)
    | with_reducible exact hQ (by assumption) _ (by assumption)
    | with_reducible refine fX0_ofFour (fun _ => ?_) (fun _ _ _ => ?_)
    | simp only [eX0_ofTwo_0, eX0_ofTwo_1, eX0_ofTwo_2, eX0_ofTwo_3, eX0_ofTwo_4, eX0_ofTwo_7, eX0_ofTwo_7N, lgp, lgn, lgz, i10, i00, if_true, if_false, eq_self, not_true, not_false_eq_true, ite_le, n45, n54, true_or, or_true, false_or, or_false, false_and, and_false, kx_l, kx_r, go_s, gl_s, gi_s, gb_s2, gb_s3, gq_s, wt_nil, wt_int, wt_long, wt_ref, wt_null, nl_int, nl_long, nl_ref, nl_null, nl_none, rf_n, rf_s, rf_st, tl_s, tl_n, g0, gS, ex1, nb_b, nb_0, nb_1, nf_i, nf_l, nf_ra, nf_ro, nf_na, nf_no, nf_b0, nf_z0, t45_4, t45_5, true_and, and_true, List.set_cons_zero, List.set_cons_succ, List.length_cons, List.length_nil, rd_s, upw_s, ne_eq, not_false_eq_true, Nat.zero_add, Nat.add_zero]
    | split
    | with_reducible intro _
    | omega
theorem eV_d {r : R4} {a : Int32} (h : a.toInt < 0 ∨ 2 < a.toInt) : eV r a = r.2.2.2 := by
  unfold eV
  rw [if_neg, if_neg, if_neg]
  all_goals
    rintro rfl
    revert h
    decide
set_option maxHeartbeats 4000000 in
theorem fX0_endAt {p : Nat} {r : R4} {a0 : Int32} (hp : rAt w p r) (hQ : Q (.inl (some (.long (eV r a0)))) w) : WP (MX0_endAt g) Q (0, [some (.ref p), some (.int a0)], [], w, 0, 0) := by
  rcases sw02 a0 with rfl | rfl | rfl | hsw
  · skip
    repeat' first
      | with_reducible assumption
      | with_reducible refine And.intro ?_ ?_
      | with_reducible exact vpi6 (by assumption) (by assumption)
      | with_reducible exact vpi8 (by assumption) (by assumption)
      | with_reducible refine go_F (by assumption) ?_
      | ((with_reducible refine isQ (Q := Q) ?_); exact hQ)
      | simp only [eX0_endAt_0, eX0_endAt_1_0, eX0_endAt_1_1, eX0_endAt_1_2, eX0_endAt_1_d3, eX0_endAt_1_d4, eX0_endAt_28, eX0_endAt_28N, eX0_endAt_29, eX0_endAt_32, eX0_endAt_33, eX0_endAt_33N, eX0_endAt_34, eX0_endAt_37, eX0_endAt_38, eX0_endAt_38N, eX0_endAt_39, eX0_endAt_42, eX0_endAt_43, eX0_endAt_43N, eX0_endAt_44, eX0_endAt_47, ite_le, n45, n54, true_or, or_true, false_or, or_false, false_and, and_false, kx_l, kx_r, go_s, gl_s, gi_s, gb_s2, gb_s3, gq_s, wt_nil, wt_int, wt_long, wt_ref, wt_null, nl_int, nl_long, nl_ref, nl_null, nl_none, rf_n, rf_s, rf_st, tl_s, tl_n, g0, gS, ex1, nb_b, nb_0, nb_1, nf_i, nf_l, nf_ra, nf_ro, nf_na, nf_no, nf_b0, nf_z0, t45_4, t45_5, true_and, and_true, List.set_cons_zero, List.set_cons_succ, List.length_cons, List.length_nil, rd_s, upw_s, ne_eq, not_false_eq_true, Nat.zero_add, Nat.add_zero]
      | split
      | with_reducible intro _
      | omega
  · skip
    repeat' first
      | with_reducible assumption
      | with_reducible refine And.intro ?_ ?_
      | with_reducible exact vpi6 (by assumption) (by assumption)
      | with_reducible exact vpi8 (by assumption) (by assumption)
      | with_reducible refine go_F (by assumption) ?_
      | ((with_reducible refine isQ (Q := Q) ?_); exact hQ)
      | simp only [eX0_endAt_0, eX0_endAt_1_0, eX0_endAt_1_1, eX0_endAt_1_2, eX0_endAt_1_d3, eX0_endAt_1_d4, eX0_endAt_28, eX0_endAt_28N, eX0_endAt_29, eX0_endAt_32, eX0_endAt_33, eX0_endAt_33N, eX0_endAt_34, eX0_endAt_37, eX0_endAt_38, eX0_endAt_38N, eX0_endAt_39, eX0_endAt_42, eX0_endAt_43, eX0_endAt_43N, eX0_endAt_44, eX0_endAt_47, ite_le, n45, n54, true_or, or_true, false_or, or_false, false_and, and_false, kx_l, kx_r, go_s, gl_s, gi_s, gb_s2, gb_s3, gq_s, wt_nil, wt_int, wt_long, wt_ref, wt_null, nl_int, nl_long, nl_ref, nl_null, nl_none, rf_n, rf_s, rf_st, tl_s, tl_n, g0, gS, ex1, nb_b, nb_0, nb_1, nf_i, nf_l, nf_ra, nf_ro, nf_na, nf_no, nf_b0, nf_z0, t45_4, t45_5, true_and, and_true, List.set_cons_zero, List.set_cons_succ, List.length_cons, List.length_nil, rd_s, upw_s, ne_eq, not_false_eq_true, Nat.zero_add, Nat.add_zero]
      | split
      | with_reducible intro _
      | omega
  · skip
    repeat' first
      | with_reducible assumption
      | with_reducible refine And.intro ?_ ?_
      | with_reducible exact vpi6 (by assumption) (by assumption)
      | with_reducible exact vpi8 (by assumption) (by assumption)
      | with_reducible refine go_F (by assumption) ?_
      | ((with_reducible refine isQ (Q := Q) ?_); exact hQ)
      | simp only [eX0_endAt_0, eX0_endAt_1_0, eX0_endAt_1_1, eX0_endAt_1_2, eX0_endAt_1_d3, eX0_endAt_1_d4, eX0_endAt_28, eX0_endAt_28N, eX0_endAt_29, eX0_endAt_32, eX0_endAt_33, eX0_endAt_33N, eX0_endAt_34, eX0_endAt_37, eX0_endAt_38, eX0_endAt_38N, eX0_endAt_39, eX0_endAt_42, eX0_endAt_43, eX0_endAt_43N, eX0_endAt_44, eX0_endAt_47, ite_le, n45, n54, true_or, or_true, false_or, or_false, false_and, and_false, kx_l, kx_r, go_s, gl_s, gi_s, gb_s2, gb_s3, gq_s, wt_nil, wt_int, wt_long, wt_ref, wt_null, nl_int, nl_long, nl_ref, nl_null, nl_none, rf_n, rf_s, rf_st, tl_s, tl_n, g0, gS, ex1, nb_b, nb_0, nb_1, nf_i, nf_l, nf_ra, nf_ro, nf_na, nf_no, nf_b0, nf_z0, t45_4, t45_5, true_and, and_true, List.set_cons_zero, List.set_cons_succ, List.length_cons, List.length_nil, rd_s, upw_s, ne_eq, not_false_eq_true, Nat.zero_add, Nat.add_zero]
      | split
      | with_reducible intro _
      | omega
  · rw [eV_d hsw] at hQ
    repeat' first
      | with_reducible assumption
      | with_reducible refine And.intro ?_ ?_
      | with_reducible exact vpi6 (by assumption) (by assumption)
      | with_reducible exact vpi8 (by assumption) (by assumption)
      | with_reducible refine go_F (by assumption) ?_
      | ((with_reducible refine isQ (Q := Q) ?_); exact hQ)
      | simp only [eX0_endAt_0, eX0_endAt_1_0, eX0_endAt_1_1, eX0_endAt_1_2, eX0_endAt_1_d3, eX0_endAt_1_d4, eX0_endAt_28, eX0_endAt_28N, eX0_endAt_29, eX0_endAt_32, eX0_endAt_33, eX0_endAt_33N, eX0_endAt_34, eX0_endAt_37, eX0_endAt_38, eX0_endAt_38N, eX0_endAt_39, eX0_endAt_42, eX0_endAt_43, eX0_endAt_43N, eX0_endAt_44, eX0_endAt_47, eX0_endAt_1_d hsw, ite_le, n45, n54, true_or, or_true, false_or, or_false, false_and, and_false, kx_l, kx_r, go_s, gl_s, gi_s, gb_s2, gb_s3, gq_s, wt_nil, wt_int, wt_long, wt_ref, wt_null, nl_int, nl_long, nl_ref, nl_null, nl_none, rf_n, rf_s, rf_st, tl_s, tl_n, g0, gS, ex1, nb_b, nb_0, nb_1, nf_i, nf_l, nf_ra, nf_ro, nf_na, nf_no, nf_b0, nf_z0, t45_4, t45_5, true_and, and_true, List.set_cons_zero, List.set_cons_succ, List.length_cons, List.length_nil, rd_s, upw_s, ne_eq, not_false_eq_true, Nat.zero_add, Nat.add_zero]
      | split
      | with_reducible intro _
      | omega
end
end
/-! 71.fn1.lean.txt -/
section
section
variable {g : RO} {Q : Ot → Hw → Prop} {w0 w : Hw} {x nA cA lA : Nat} {kn : Int32}
/-! FUNCTIONAL SPECS, 2: the class's state: numbers, cards, how many are laid, what is laid, refusals, made -/
abbrev AS : Type := (Nat → Int64) × (Nat → Option R4) × Int32 × (Nat → R4) × Int32 × Int32
def cM (w : Hw) : Option Nat → Option R4 → Prop
  | none, none => True
  | some b, some r => rAt w b r
  | _, _ => False
theorem cM.s {b : Nat} {o : Option R4} (h : cM w (some b) o) : ∃ r, o = some r ∧ rAt w b r := by
  cases o with
  | none => exact (h : False).elim
  | some r => exact ⟨r, rfl, h⟩
theorem cM.n {o : Option R4} (h : cM w none o) : o = none := by
  cases o with
  | none => rfl
  | some r => exact (h : False).elim
theorem cM.mp {w' : Hw} {q : Option Nat} {o : Option R4} (h : cM w q o) (k : ∀ b r, rAt w b r → rAt w' b r) : cM w' q o := by
  cases q <;> cases o <;> first | exact h | exact k _ _ h
/-- the class's cells hold the state s -/
def RF (w : Hw) (x nA cA lA : Nat) (kn : Int32) (s : AS) : Prop := ∃ gc gl : Nat → Option Nat,
  (w x = some (.inr (5, [.ref nA, .ref cA, .ref lA, .int s.2.2.1, .int s.2.2.2.2.1, .int kn, .int s.2.2.2.2.2])) ∧ w nA = some (.inl (0, 8, .inr (.inl s.1))) ∧ w cA = some (.inl (4, 6, qc gc)) ∧ w lA = some (.inl (4, 12, qc gl)) ∧
  (∀ (i b : Nat), gc i = some b → isR w b) ∧ (∀ (i b : Nat), gl i = some b → isR w b) ∧ ¬ s.2.2.1 < 0 ∧ ¬ 12 < s.2.2.1) ∧
  (∀ i, i < 6 → cM w (gc i) (s.2.1 i)) ∧ ∀ i : Nat, (i : Int) < s.2.2.1.toInt → ∃ b, gl i = some b ∧ rAt w b (s.2.2.2.1 i)
/-- what is always so of a state: its ranges are in order -/
def sOk (s : AS) : Prop := (∀ i r, i < 6 → s.2.1 i = some r → rOk r) ∧ (∀ i : Nat, (i : Int) < s.2.2.1.toInt → rOk (s.2.2.2.1 i)) ∧ ¬ s.2.2.1 < 0 ∧ ¬ 12 < s.2.2.1
theorem RF.rc {s : AS} (h : RF w x nA cA lA kn s) : RC w x nA cA lA kn := by
  obtain ⟨gc, gl, ⟨h1, h2, h3, h4, h5, h6, h7, h8⟩, -⟩ := h
  exact ⟨_, _, _, _, gc, gl, h1, h2, h3, h4, h5, h6, h7, h8⟩
def CS (g : RO) (w0 : Hw) (x nA cA lA : Nat) (kn : Int32) (s : AS) (w : Hw) : Prop := RF w x nA cA lA kn s ∧ FC g nA w0 w
theorem CS.cc {s : AS} (h : CS g w0 x nA cA lA kn s w) : CC g w0 x nA cA lA kn w := ⟨h.1.rc, h.2⟩
theorem rAt_up2 {a b : Nat} {r : R4} {o1 o2 : Ob} (h : rAt w b r) (ha : w a = some o1) (ho : ∀ fs, o1 ≠ .inr (4, fs)) : rAt (upw w a o2) b r := by
  unfold rAt
  rw [upw_n]
  · exact h
  · rintro rfl
    rw [h] at ha
    cases ha
    exact ho _ rfl
/-- the class's cells, as they are read and written -/
theorem RF.opn (g : RO) {s : AS} (h : RF w x nA cA lA kn s) : ∃ gc gl : Nat → Option Nat, RO5 g w x nA cA lA s.2.2.1 s.2.2.2.2.1 kn s.2.2.2.2.2 s.1 gc gl ∧ (∀ i, i < 6 → cM w (gc i) (s.2.1 i)) ∧ ∀ i : Nat, (i : Int) < s.2.2.1.toInt → ∃ b, gl i = some b ∧ rAt w b (s.2.2.2.1 i) := by
  obtain ⟨gc, gl, ⟨h1, h2, h3, h4, h5, h6, h7, h8⟩, k1, k2⟩ := h
  have e : ∀ {a b : Nat} {o1 o2 : Ob}, w a = some o1 → w b = some o2 → o1 ≠ o2 → a ≠ b := fun {a b o1 o2} z1 z2 z3 z4 => by
    subst z4
    exact z3 (Option.some.inj (z1.symm.trans z2))
  exact ⟨gc, gl, ⟨h1, h2, h3, h4, h5, h6, h7, h8, rd_e h1, rd_e h2, rd_e h3, rd_e h4, ⟨e h1 h2 (by simp), e h1 h3 (by simp), e h1 h4 (by simp), e h2 h1 (by simp), e h2 h3 (by simp), e h2 h4 (by simp)⟩, ⟨e h3 h1 (by simp), e h3 h2 (by simp), e h3 h4 (by simp), e h4 h1 (by simp), e h4 h2 (by simp), e h4 h3 (by simp)⟩⟩, k1, k2⟩
theorem CS.ext {s : AS} {w' : Hw} (h : CS g w0 x nA cA lA kn s w) (k : ext g w w') : CS g w0 x nA cA lA kn s w' := by
  obtain ⟨⟨gc, gl, ⟨h1, h2, h3, h4, h5, h6, h7⟩, k1, k2⟩, hf⟩ := h
  exact ⟨⟨gc, gl, ⟨k.1 _ _ h1, k.1 _ _ h2, k.1 _ _ h3, k.1 _ _ h4, fun i b z => (h5 i b z).ext k, fun i b z => (h6 i b z).ext k, h7⟩, fun i hi => (k1 i hi).mp fun b r hb => hb.ext k, fun i hi => (k2 i hi).imp fun b z => ⟨z.1, z.2.ext k⟩⟩, hf.ext k⟩
abbrev sN (s : AS) (f : Nat → Int64) : AS := (f, s.2)
abbrev sC (s : AS) (f : Nat → Option R4) : AS := (s.1, f, s.2.2)
abbrev sP_ (s : AS) (n : Int32) (f : Nat → R4) : AS := (s.1, s.2.1, n, f, s.2.2.2.2)
abbrev sR_ (s : AS) (r : Int32) : AS := (s.1, s.2.1, s.2.2.1, s.2.2.2.1, r, s.2.2.2.2.2)
abbrev sM_ (s : AS) (m : Int32) : AS := (s.1, s.2.1, s.2.2.1, s.2.2.2.1, s.2.2.2.2.1, m)
theorem CS.num {s : AS} (h : CS g w0 x nA cA lA kn s w) (f' : Nat → Int64) : CS g w0 x nA cA lA kn (sN s f') (upw w nA (.inl (0, 8, .inr (.inl f')))) := by
  obtain ⟨gc, gl, ⟨h1, h2, h3, h4, h5, h6, h7, h8, -, -, -, -, ⟨d1, d2, d3, d4, d5, d6⟩, ⟨d7, d8, d9, d10, d11, d12⟩⟩, k1, k2⟩ := h.1.opn (fun _ => .null, fun _ => none)
  exact ⟨⟨gc, gl, ⟨by rw [upw_n d1]; exact h1, upw_s _ _ _, by rw [upw_n d8]; exact h3, by rw [upw_n d11]; exact h4, fun i b z => isR_up2 (h5 i b z) h2 (by simp), fun i b z => isR_up2 (h6 i b z) h2 (by simp), h7, h8⟩, fun i hi => (k1 i hi).mp fun b r hb => rAt_up2 hb h2 (by simp), fun i hi => (k2 i hi).imp fun b z => ⟨z.1, rAt_up2 z.2 h2 (by simp)⟩⟩, h.2.up h2 (Or.inl rfl)⟩
/-- a card gets what stands at q (or nothing) -/
theorem CS.card {s : AS} (h : CS g w0 x nA cA lA kn s w) (gc : Nat → Option Nat) (hc : w cA = some (.inl (4, 6, qc gc))) (j : Nat) (q : Option Nat) (o : Option R4) (hq : cM w q o) : CS g w0 x nA cA lA kn (sC s (va_up s.2.1 j o)) (upw w cA (.inl (4, 6, qc (va_up gc j q)))) := by
  obtain ⟨gc', gl, ⟨h1, h2, h3, h4, h5, h6, h7, h8, -, -, -, -, ⟨d1, d2, d3, d4, d5, d6⟩, ⟨d7, d8, d9, d10, d11, d12⟩⟩, k1, k2⟩ := h.1.opn (fun _ => .null, fun _ => none)
  rw [hc] at h3
  cases h3
  refine ⟨⟨_, gl, ⟨by rw [upw_n d2]; exact h1, by rw [upw_n d5]; exact h2, upw_s _ _ _, by rw [upw_n d12]; exact h4, fun i b z => isR_up2 ?_ hc (by simp), fun i b z => isR_up2 (h6 i b z) hc (by simp), h7, h8⟩, fun i hi => cM.mp ?_ (fun b r hb => rAt_up2 hb hc (by simp)), fun i hi => (k2 i hi).imp fun b z => ⟨z.1, rAt_up2 z.2 hc (by simp)⟩⟩, h.2.up hc (Or.inr rfl)⟩
  · unfold va_up at z
    split at z
    · subst z
      obtain ⟨r, -, hr⟩ := hq.s
      exact hr.isR
    · exact h5 i b z
  · show cM w (va_up gc j q i) (va_up s.2.1 j o i)
    unfold va_up
    split
    · exact hq
    · exact k1 i hi
theorem CS.obj {s : AS} (h : CS g w0 x nA cA lA kn s w) (rf' kn' md' : Int32) : CS g w0 x nA cA lA kn' (sM_ (sR_ s rf') md') (upw w x (.inr (5, [.ref nA, .ref cA, .ref lA, .int s.2.2.1, .int rf', .int kn', .int md']))) := by
  obtain ⟨gc, gl, ⟨h1, h2, h3, h4, h5, h6, h7, h8, -, -, -, -, ⟨d1, d2, d3, d4, d5, d6⟩, ⟨d7, d8, d9, d10, d11, d12⟩⟩, k1, k2⟩ := h.1.opn (fun _ => .null, fun _ => none)
  exact ⟨⟨gc, gl, ⟨upw_s _ _ _, by rw [upw_n d4]; exact h2, by rw [upw_n d7]; exact h3, by rw [upw_n d10]; exact h4, fun i b z => isR_up2 (h5 i b z) h1 (by simp), fun i b z => isR_up2 (h6 i b z) h1 (by simp), h7, h8⟩, fun i hi => (k1 i hi).mp fun b r hb => rAt_up2 hb h1 (by simp), fun i hi => (k2 i hi).imp fun b z => ⟨z.1, rAt_up2 z.2 h1 (by simp)⟩⟩, h.2.up h1 (Or.inr rfl)⟩
end
end
/-! 71.fn2.lean.txt -/
section
section
variable {g : RO} {Q : Ot → Hw → Prop} {w0 w : Hw} {x nA cA lA : Nat} {kn : Int32}
/-! FUNCTIONAL SPECS, 3: guards, numbers -/
abbrev okN (a : Int32) : Prop := ¬ a < 0 ∧ a < 8
abbrev okC (a : Int32) : Prop := ¬ a < 0 ∧ a < 6
abbrev okW (a m : Int32) : Prop := ¬ a < 0 ∧ ¬ m < a
def hiV (a : Int64) : Int32 := (a >>> ((32 : Int32).toInt64 &&& 63)).toInt32
def loV (a : Int64) : Int32 := a.toInt32
def hfV (a : Int64) (h : Int32) : Int32 := if h = 0 then loV a else hiV a
def stV (h l : Int32) : Int64 := (h.toInt64 <<< ((32 : Int32).toInt64 &&& 63)) ||| (l.toInt64 &&& 4294967295)
def frV (a : Int32) : Int64 := if a = 0 then -9223372036854775808 else if a = 1 then 9223372036854775807 else if a = 2 then -2147483648 else 2147483647
theorem frV_d {a : Int32} (h : a.toInt < 0 ∨ 2 < a.toInt) : frV a = 2147483647 := by
  unfold frV
  rw [if_neg, if_neg, if_neg]
  all_goals
    rintro rfl
    revert h
    decide
theorem hfV_n {a : Int64} {h : Int32} (k : ¬ h = 0) : hfV a h = hiV a := if_neg k
set_option maxHeartbeats 4000000 in
theorem fX1_needNumber {a0 : Int32} (hX : ¬ okN a0 → (Q (.inr "java/lang/IndexOutOfBoundsException") w)) (hQ : okN a0 → Q (.inl none) w) : WP (MX1_needNumber g) Q (0, [some (.int a0)], [], w, 0, 0) := by
  repeat' first
    | with_reducible assumption
    | with_reducible refine And.intro ?_ ?_
    | with_reducible exact vpi6 (by assumption) (by assumption)
    | with_reducible exact vpi8 (by assumption) (by assumption)
    | with_reducible exact trivial
    | with_reducible exact hQ ⟨by assumption, by assumption⟩
    | with_reducible exact hX (fun h => absurd (by assumption) h.1)
    | with_reducible exact hX (fun h => absurd h.2 (by assumption))
    | simp only [eX1_needNumber_0, eX1_needNumber_1, eX1_needNumber_4, eX1_needNumber_5, eX1_needNumber_7, eX1_needNumber_10, eX1_needNumber_20, lgp, lgn, lgz, i10, i00, if_true, if_false, eq_self, not_true, not_false_eq_true, ite_le, n45, n54, true_or, or_true, false_or, or_false, false_and, and_false, kx_l, kx_r, go_s, gl_s, gi_s, gb_s2, gb_s3, gq_s, wt_nil, wt_int, wt_long, wt_ref, wt_null, nl_int, nl_long, nl_ref, nl_null, nl_none, rf_n, rf_s, rf_st, tl_s, tl_n, g0, gS, ex1, nb_b, nb_0, nb_1, nf_i, nf_l, nf_ra, nf_ro, nf_na, nf_no, nf_b0, nf_z0, t45_4, t45_5, true_and, and_true, List.set_cons_zero, List.set_cons_succ, List.length_cons, List.length_nil, rd_s, upw_s, ne_eq, not_false_eq_true, Nat.zero_add, Nat.add_zero]
    | split
    | with_reducible intro _
    | omega
set_option maxHeartbeats 4000000 in
theorem fX1_needCard {a0 : Int32} (hX : ¬ okC a0 → (Q (.inr "java/lang/IndexOutOfBoundsException") w)) (hQ : okC a0 → Q (.inl none) w) : WP (MX1_needCard g) Q (0, [some (.int a0)], [], w, 0, 0) := by
  repeat' first
    | with_reducible assumption
    | with_reducible refine And.intro ?_ ?_
    | with_reducible exact vpi6 (by assumption) (by assumption)
    | with_reducible exact vpi8 (by assumption) (by assumption)
    | with_reducible exact trivial
    | with_reducible exact hQ ⟨by assumption, by assumption⟩
    | with_reducible exact hX (fun h => absurd (by assumption) h.1)
    | with_reducible exact hX (fun h => absurd h.2 (by assumption))
    | simp only [eX1_needCard_0, eX1_needCard_1, eX1_needCard_4, eX1_needCard_5, eX1_needCard_7, eX1_needCard_10, eX1_needCard_20, lgp, lgn, lgz, i10, i00, if_true, if_false, eq_self, not_true, not_false_eq_true, ite_le, n45, n54, true_or, or_true, false_or, or_false, false_and, and_false, kx_l, kx_r, go_s, gl_s, gi_s, gb_s2, gb_s3, gq_s, wt_nil, wt_int, wt_long, wt_ref, wt_null, nl_int, nl_long, nl_ref, nl_null, nl_none, rf_n, rf_s, rf_st, tl_s, tl_n, g0, gS, ex1, nb_b, nb_0, nb_1, nf_i, nf_l, nf_ra, nf_ro, nf_na, nf_no, nf_b0, nf_z0, t45_4, t45_5, true_and, and_true, List.set_cons_zero, List.set_cons_succ, List.length_cons, List.length_nil, rd_s, upw_s, ne_eq, not_false_eq_true, Nat.zero_add, Nat.add_zero]
    | split
    | with_reducible intro _
    | omega
set_option maxHeartbeats 4000000 in
theorem fX1_needChoice {a0 a1 : Int32} (hX : ¬ okW a0 a1 → (Q (.inr "java/lang/IllegalArgumentException") w)) (hQ : okW a0 a1 → Q (.inl none) w) : WP (MX1_needChoice g) Q (0, [some (.int a0), some (.int a1)], [], w, 0, 0) := by
  repeat' first
    | with_reducible assumption
    | with_reducible refine And.intro ?_ ?_
    | with_reducible exact vpi6 (by assumption) (by assumption)
    | with_reducible exact vpi8 (by assumption) (by assumption)
    | with_reducible exact trivial
    | with_reducible exact hQ ⟨by assumption, by assumption⟩
    | with_reducible exact hX (fun h => absurd (by assumption) h.1)
    | with_reducible exact hX (fun h => absurd (by assumption) h.2)
    | simp only [eX1_needChoice_0, eX1_needChoice_1, eX1_needChoice_4, eX1_needChoice_5, eX1_needChoice_6, eX1_needChoice_9, eX1_needChoice_19, lgp, lgn, lgz, i10, i00, if_true, if_false, eq_self, not_true, not_false_eq_true, ite_le, n45, n54, true_or, or_true, false_or, or_false, false_and, and_false, kx_l, kx_r, go_s, gl_s, gi_s, gb_s2, gb_s3, gq_s, wt_nil, wt_int, wt_long, wt_ref, wt_null, nl_int, nl_long, nl_ref, nl_null, nl_none, rf_n, rf_s, rf_st, tl_s, tl_n, g0, gS, ex1, nb_b, nb_0, nb_1, nf_i, nf_l, nf_ra, nf_ro, nf_na, nf_no, nf_b0, nf_z0, t45_4, t45_5, true_and, and_true, List.set_cons_zero, List.set_cons_succ, List.length_cons, List.length_nil, rd_s, upw_s, ne_eq, not_false_eq_true, Nat.zero_add, Nat.add_zero]
    | split
    | with_reducible intro _
    | omega
set_option maxHeartbeats 4000000 in
theorem fX1_highOf {a0 : Int64}  (hQ : Q (.inl (some (.int (hiV a0)))) w) : WP (MX1_highOf g) Q (0, [some (.long a0), none], [], w, 0, 0) := by
  repeat' first
    | with_reducible assumption
    | with_reducible refine And.intro ?_ ?_
    | with_reducible exact vpi6 (by assumption) (by assumption)
    | with_reducible exact vpi8 (by assumption) (by assumption)
    | with_reducible exact trivial
    | with_reducible exact go_F (by assumption) trivial
    | ((with_reducible refine isQ (Q := Q) ?_); exact hQ)
    | simp only [eX1_highOf_0, eX1_highOf_1, eX1_highOf_3, eX1_highOf_4, eX1_highOf_5, lgp, lgn, lgz, i10, i00, if_true, if_false, eq_self, not_true, not_false_eq_true, ite_le, n45, n54, true_or, or_true, false_or, or_false, false_and, and_false, kx_l, kx_r, go_s, gl_s, gi_s, gb_s2, gb_s3, gq_s, wt_nil, wt_int, wt_long, wt_ref, wt_null, nl_int, nl_long, nl_ref, nl_null, nl_none, rf_n, rf_s, rf_st, tl_s, tl_n, g0, gS, ex1, nb_b, nb_0, nb_1, nf_i, nf_l, nf_ra, nf_ro, nf_na, nf_no, nf_b0, nf_z0, t45_4, t45_5, true_and, and_true, List.set_cons_zero, List.set_cons_succ, List.length_cons, List.length_nil, rd_s, upw_s, ne_eq, not_false_eq_true, Nat.zero_add, Nat.add_zero]
    | split
    | with_reducible intro _
    | omega
set_option maxHeartbeats 4000000 in
theorem fX1_lowOf {a0 : Int64}  (hQ : Q (.inl (some (.int (loV a0)))) w) : WP (MX1_lowOf g) Q (0, [some (.long a0), none], [], w, 0, 0) := by
  repeat' first
    | with_reducible assumption
    | with_reducible refine And.intro ?_ ?_
    | with_reducible exact vpi6 (by assumption) (by assumption)
    | with_reducible exact vpi8 (by assumption) (by assumption)
    | with_reducible exact trivial
    | with_reducible exact go_F (by assumption) trivial
    | ((with_reducible refine isQ (Q := Q) ?_); exact hQ)
    | simp only [eX1_lowOf_0, eX1_lowOf_1, eX1_lowOf_2, lgp, lgn, lgz, i10, i00, if_true, if_false, eq_self, not_true, not_false_eq_true, ite_le, n45, n54, true_or, or_true, false_or, or_false, false_and, and_false, kx_l, kx_r, go_s, gl_s, gi_s, gb_s2, gb_s3, gq_s, wt_nil, wt_int, wt_long, wt_ref, wt_null, nl_int, nl_long, nl_ref, nl_null, nl_none, rf_n, rf_s, rf_st, tl_s, tl_n, g0, gS, ex1, nb_b, nb_0, nb_1, nf_i, nf_l, nf_ra, nf_ro, nf_na, nf_no, nf_b0, nf_z0, t45_4, t45_5, true_and, and_true, List.set_cons_zero, List.set_cons_succ, List.length_cons, List.length_nil, rd_s, upw_s, ne_eq, not_false_eq_true, Nat.zero_add, Nat.add_zero]
    | split
    | with_reducible intro _
    | omega
set_option maxHeartbeats 4000000 in
theorem fX1_halfOf {a0 : Int64} {a1 : Int32}  (hQ : Q (.inl (some (.int (hfV a0 a1)))) w) : WP (MX1_halfOf g) Q (0, [some (.long a0), none, some (.int a1)], [], w, 0, 0) := by
  repeat' first
    | with_reducible assumption
    | with_reducible refine And.intro ?_ ?_
    | with_reducible exact vpi6 (by assumption) (by assumption)
    | with_reducible exact vpi8 (by assumption) (by assumption)
    | with_reducible exact trivial
    | with_reducible exact go_F (by assumption) trivial
    | with_reducible refine fX1_highOf ?_
    | with_reducible refine fX1_lowOf ?_
    | (rw [hfV_n (by assumption)] at hQ; exact hQ)
    | (subst_vars; exact hQ)
    | (rw [‹a1 = 0›] at hQ; exact hQ)
    | ((with_reducible refine isQ (Q := Q) ?_); exact hQ)
    | simp only [eX1_halfOf_0, eX1_halfOf_1, eX1_halfOf_4, eX1_halfOf_5, eX1_halfOf_8, eX1_halfOf_11, eX1_halfOf_12, eX1_halfOf_15, lgp, lgn, lgz, i10, i00, if_true, if_false, eq_self, not_true, not_false_eq_true, ite_le, n45, n54, true_or, or_true, false_or, or_false, false_and, and_false, kx_l, kx_r, go_s, gl_s, gi_s, gb_s2, gb_s3, gq_s, wt_nil, wt_int, wt_long, wt_ref, wt_null, nl_int, nl_long, nl_ref, nl_null, nl_none, rf_n, rf_s, rf_st, tl_s, tl_n, g0, gS, ex1, nb_b, nb_0, nb_1, nf_i, nf_l, nf_ra, nf_ro, nf_na, nf_no, nf_b0, nf_z0, t45_4, t45_5, true_and, and_true, List.set_cons_zero, List.set_cons_succ, List.length_cons, List.length_nil, rd_s, upw_s, ne_eq, not_false_eq_true, Nat.zero_add, Nat.add_zero]
    | split
    | with_reducible intro _
    | omega
set_option maxHeartbeats 4000000 in
theorem fX1_isSmallNumber {a0 : Int64}  (hT : (-2147483648 ≤ a0.toInt ∧ a0.toInt ≤ 2147483647) → Q (.inl (some (.int 1))) w) (hF : ¬ (-2147483648 ≤ a0.toInt ∧ a0.toInt ≤ 2147483647) → Q (.inl (some (.int 0))) w) : WP (MX1_isSmallNumber g) Q (0, [some (.long a0), none], [], w, 0, 0) := by
  repeat' first
    | with_reducible assumption
    | with_reducible refine And.intro ?_ ?_
    | with_reducible exact vpi6 (by assumption) (by assumption)
    | with_reducible exact vpi8 (by assumption) (by assumption)
    | with_reducible exact trivial
    | with_reducible exact go_F (by assumption) trivial
    | with_reducible exact hT (by omega)
    | with_reducible exact hF (by omega)
    | simp only [eX1_isSmallNumber_0, eX1_isSmallNumber_1, eX1_isSmallNumber_4, eX1_isSmallNumber_5, eX1_isSmallNumber_8, eX1_isSmallNumber_9, eX1_isSmallNumber_12, eX1_isSmallNumber_13, eX1_isSmallNumber_16, eX1_isSmallNumber_17, eX1_isSmallNumber_20, eX1_isSmallNumber_21, lgp, lgn, lgz, i10, i00, if_true, if_false, eq_self, not_true, not_false_eq_true, lmi, lmx, ite_le, n45, n54, true_or, or_true, false_or, or_false, false_and, and_false, kx_l, kx_r, go_s, gl_s, gi_s, gb_s2, gb_s3, gq_s, wt_nil, wt_int, wt_long, wt_ref, wt_null, nl_int, nl_long, nl_ref, nl_null, nl_none, rf_n, rf_s, rf_st, tl_s, tl_n, g0, gS, ex1, nb_b, nb_0, nb_1, nf_i, nf_l, nf_ra, nf_ro, nf_na, nf_no, nf_b0, nf_z0, t45_4, t45_5, true_and, and_true, List.set_cons_zero, List.set_cons_succ, List.length_cons, List.length_nil, rd_s, upw_s, ne_eq, not_false_eq_true, Nat.zero_add, Nat.add_zero]
    | split
    | with_reducible intro _
    | omega
set_option maxHeartbeats 4000000 in
theorem fX1_asNumber {a0 : Int32} (h0 : a0 = 0 ∨ a0 = 1) (hQ : Q (.inl (some (.int a0))) w) : WP (MX1_asNumber g) Q (0, [some (.int a0)], [], w, 0, 0) := by
  rcases h0 with rfl | rfl
  · skip
    repeat' first
      | with_reducible assumption
      | with_reducible refine And.intro ?_ ?_
      | with_reducible exact vpi6 (by assumption) (by assumption)
      | with_reducible exact vpi8 (by assumption) (by assumption)
      | with_reducible exact hQ
      | simp only [eX1_asNumber_0, eX1_asNumber_1, eX1_asNumber_4, eX1_asNumber_5, eX1_asNumber_8, eX1_asNumber_9, lgp, lgn, lgz, i10, i00, if_true, if_false, eq_self, not_true, not_false_eq_true, ite_le, n45, n54, true_or, or_true, false_or, or_false, false_and, and_false, kx_l, kx_r, go_s, gl_s, gi_s, gb_s2, gb_s3, gq_s, wt_nil, wt_int, wt_long, wt_ref, wt_null, nl_int, nl_long, nl_ref, nl_null, nl_none, rf_n, rf_s, rf_st, tl_s, tl_n, g0, gS, ex1, nb_b, nb_0, nb_1, nf_i, nf_l, nf_ra, nf_ro, nf_na, nf_no, nf_b0, nf_z0, t45_4, t45_5, true_and, and_true, List.set_cons_zero, List.set_cons_succ, List.length_cons, List.length_nil, rd_s, upw_s, ne_eq, not_false_eq_true, Nat.zero_add, Nat.add_zero]
      | split
      | with_reducible intro _
      | omega
  · skip
    repeat' first
      | with_reducible assumption
      | with_reducible refine And.intro ?_ ?_
      | with_reducible exact vpi6 (by assumption) (by assumption)
      | with_reducible exact vpi8 (by assumption) (by assumption)
      | with_reducible exact hQ
      | simp only [eX1_asNumber_0, eX1_asNumber_1, eX1_asNumber_4, eX1_asNumber_5, eX1_asNumber_8, eX1_asNumber_9, lgp, lgn, lgz, i10, i00, if_true, if_false, eq_self, not_true, not_false_eq_true, ite_le, n45, n54, true_or, or_true, false_or, or_false, false_and, and_false, kx_l, kx_r, go_s, gl_s, gi_s, gb_s2, gb_s3, gq_s, wt_nil, wt_int, wt_long, wt_ref, wt_null, nl_int, nl_long, nl_ref, nl_null, nl_none, rf_n, rf_s, rf_st, tl_s, tl_n, g0, gS, ex1, nb_b, nb_0, nb_1, nf_i, nf_l, nf_ra, nf_ro, nf_na, nf_no, nf_b0, nf_z0, t45_4, t45_5, true_and, and_true, List.set_cons_zero, List.set_cons_succ, List.length_cons, List.length_nil, rd_s, upw_s, ne_eq, not_false_eq_true, Nat.zero_add, Nat.add_zero]
      | split
      | with_reducible intro _
      | omega
set_option maxHeartbeats 4000000 in
theorem fX1_farNumber {a0 : Int32} (hQ : Q (.inl (some (.long (frV a0)))) w) : WP (MX1_farNumber g) Q (0, [some (.int a0)], [], w, 0, 0) := by
  rcases sw02 a0 with rfl | rfl | rfl | hsw
  · skip
    repeat' first
      | with_reducible assumption
      | with_reducible refine And.intro ?_ ?_
      | with_reducible exact vpi6 (by assumption) (by assumption)
      | with_reducible exact vpi8 (by assumption) (by assumption)
      | ((with_reducible refine isQ (Q := Q) ?_); exact hQ)
      | simp only [eX1_farNumber_0, eX1_farNumber_1_0, eX1_farNumber_1_1, eX1_farNumber_1_2, eX1_farNumber_1_d3, eX1_farNumber_1_d4, eX1_farNumber_28, eX1_farNumber_31, eX1_farNumber_32, eX1_farNumber_35, eX1_farNumber_36, eX1_farNumber_39, eX1_farNumber_40, eX1_farNumber_43, ite_le, n45, n54, true_or, or_true, false_or, or_false, false_and, and_false, kx_l, kx_r, go_s, gl_s, gi_s, gb_s2, gb_s3, gq_s, wt_nil, wt_int, wt_long, wt_ref, wt_null, nl_int, nl_long, nl_ref, nl_null, nl_none, rf_n, rf_s, rf_st, tl_s, tl_n, g0, gS, ex1, nb_b, nb_0, nb_1, nf_i, nf_l, nf_ra, nf_ro, nf_na, nf_no, nf_b0, nf_z0, t45_4, t45_5, true_and, and_true, List.set_cons_zero, List.set_cons_succ, List.length_cons, List.length_nil, rd_s, upw_s, ne_eq, not_false_eq_true, Nat.zero_add, Nat.add_zero]
      | split
      | with_reducible intro _
      | omega
  · skip
    repeat' first
      | with_reducible assumption
      | with_reducible refine And.intro ?_ ?_
      | with_reducible exact vpi6 (by assumption) (by assumption)
      | with_reducible exact vpi8 (by assumption) (by assumption)
      | ((with_reducible refine isQ (Q := Q) ?_); exact hQ)
      | simp only [eX1_farNumber_0, eX1_farNumber_1_0, eX1_farNumber_1_1, eX1_farNumber_1_2, eX1_farNumber_1_d3, eX1_farNumber_1_d4, eX1_farNumber_28, eX1_farNumber_31, eX1_farNumber_32, eX1_farNumber_35, eX1_farNumber_36, eX1_farNumber_39, eX1_farNumber_40, eX1_farNumber_43, ite_le, n45, n54, true_or, or_true, false_or, or_false, false_and, and_false, kx_l, kx_r, go_s, gl_s, gi_s, gb_s2, gb_s3, gq_s, wt_nil, wt_int, wt_long, wt_ref, wt_null, nl_int, nl_long, nl_ref, nl_null, nl_none, rf_n, rf_s, rf_st, tl_s, tl_n, g0, gS, ex1, nb_b, nb_0, nb_1, nf_i, nf_l, nf_ra, nf_ro, nf_na, nf_no, nf_b0, nf_z0, t45_4, t45_5, true_and, and_true, List.set_cons_zero, List.set_cons_succ, List.length_cons, List.length_nil, rd_s, upw_s, ne_eq, not_false_eq_true, Nat.zero_add, Nat.add_zero]
      | split
      | with_reducible intro _
      | omega
  · skip
    repeat' first
      | with_reducible assumption
      | with_reducible refine And.intro ?_ ?_
      | with_reducible exact vpi6 (by assumption) (by assumption)
      | with_reducible exact vpi8 (by assumption) (by assumption)
      | ((with_reducible refine isQ (Q := Q) ?_); exact hQ)
      | simp only [eX1_farNumber_0, eX1_farNumber_1_0, eX1_farNumber_1_1, eX1_farNumber_1_2, eX1_farNumber_1_d3, eX1_farNumber_1_d4, eX1_farNumber_28, eX1_farNumber_31, eX1_farNumber_32, eX1_farNumber_35, eX1_farNumber_36, eX1_farNumber_39, eX1_farNumber_40, eX1_farNumber_43, ite_le, n45, n54, true_or, or_true, false_or, or_false, false_and, and_false, kx_l, kx_r, go_s, gl_s, gi_s, gb_s2, gb_s3, gq_s, wt_nil, wt_int, wt_long, wt_ref, wt_null, nl_int, nl_long, nl_ref, nl_null, nl_none, rf_n, rf_s, rf_st, tl_s, tl_n, g0, gS, ex1, nb_b, nb_0, nb_1, nf_i, nf_l, nf_ra, nf_ro, nf_na, nf_no, nf_b0, nf_z0, t45_4, t45_5, true_and, and_true, List.set_cons_zero, List.set_cons_succ, List.length_cons, List.length_nil, rd_s, upw_s, ne_eq, not_false_eq_true, Nat.zero_add, Nat.add_zero]
      | split
      | with_reducible intro _
      | omega
  · rw [frV_d hsw] at hQ
    repeat' first
      | with_reducible assumption
      | with_reducible refine And.intro ?_ ?_
      | with_reducible exact vpi6 (by assumption) (by assumption)
      | with_reducible exact vpi8 (by assumption) (by assumption)
      | ((with_reducible refine isQ (Q := Q) ?_); exact hQ)
      | simp only [eX1_farNumber_0, eX1_farNumber_1_0, eX1_farNumber_1_1, eX1_farNumber_1_2, eX1_farNumber_1_d3, eX1_farNumber_1_d4, eX1_farNumber_28, eX1_farNumber_31, eX1_farNumber_32, eX1_farNumber_35, eX1_farNumber_36, eX1_farNumber_39, eX1_farNumber_40, eX1_farNumber_43, eX1_farNumber_1_d hsw, ite_le, n45, n54, true_or, or_true, false_or, or_false, false_and, and_false, kx_l, kx_r, go_s, gl_s, gi_s, gb_s2, gb_s3, gq_s, wt_nil, wt_int, wt_long, wt_ref, wt_null, nl_int, nl_long, nl_ref, nl_null, nl_none, rf_n, rf_s, rf_st, tl_s, tl_n, g0, gS, ex1, nb_b, nb_0, nb_1, nf_i, nf_l, nf_ra, nf_ro, nf_na, nf_no, nf_b0, nf_z0, t45_4, t45_5, true_and, and_true, List.set_cons_zero, List.set_cons_succ, List.length_cons, List.length_nil, rd_s, upw_s, ne_eq, not_false_eq_true, Nat.zero_add, Nat.add_zero]
      | split
      | with_reducible intro _
      | omega
set_option maxHeartbeats 4000000 in
theorem fX1_putNumber {s : AS} {a0 : Int32} {a1 : Int64} (hC : CS g w0 x nA cA lA kn s w) (k0 : ¬ a0 < 0) (k1 : a0 < 8) (hQ : ∀ w', CS g w0 x nA cA lA kn (sN s (vp_updL s.1 a0.toNatClampNeg a1)) w' → Q (.inl (some (.int (loV a1)))) w') : WP (MX1_putNumber g) Q (0, [some (.ref x), some (.int a0), some (.long a1), none], [], w, 0, 0) := by
  obtain ⟨gc, gl, ⟨hx, hn, hc, hl, hgc, hgl, hn0, hn1, rx, rn, rc, rl, ⟨d1, d2, d3, d4, d5, d6⟩, ⟨d7, d8, d9, d10, d11, d12⟩⟩, hcd, hpl⟩ := hC.1.opn g
  repeat' first
    | with_reducible assumption
    | with_reducible refine And.intro ?_ ?_
    | with_reducible exact vpi6 (by assumption) (by assumption)
    | with_reducible exact vpi8 (by assumption) (by assumption)
    | with_reducible exact trivial
    | with_reducible exact vpi8 k0 k1
    | with_reducible refine fX1_lowOf ?_
    | with_reducible exact hQ _ (hC.num _)
    | simp only [eX1_putNumber_0, eX1_putNumber_0N, eX1_putNumber_1, eX1_putNumber_4, eX1_putNumber_5, eX1_putNumber_6, eX1_putNumber_7, eX1_putNumber_8, eX1_putNumber_11, lgp, lgn, lgz, i10, i00, if_true, if_false, eq_self, not_true, not_false_eq_true, rx, rn, rc, rl, hx, hn, hc, hl, d1, d2, d3, d4, d5, d6, d7, d8, d9, d10, d11, d12, rd_n, upw_n, ite_le, n45, n54, true_or, or_true, false_or, or_false, false_and, and_false, kx_l, kx_r, go_s, gl_s, gi_s, gb_s2, gb_s3, gq_s, wt_nil, wt_int, wt_long, wt_ref, wt_null, nl_int, nl_long, nl_ref, nl_null, nl_none, rf_n, rf_s, rf_st, tl_s, tl_n, g0, gS, ex1, nb_b, nb_0, nb_1, nf_i, nf_l, nf_ra, nf_ro, nf_na, nf_no, nf_b0, nf_z0, t45_4, t45_5, true_and, and_true, List.set_cons_zero, List.set_cons_succ, List.length_cons, List.length_nil, rd_s, upw_s, ne_eq, not_false_eq_true, Nat.zero_add, Nat.add_zero]
    | split
    | with_reducible intro _
    | omega
set_option maxHeartbeats 4000000 in
theorem fX1_set {s : AS} {a0 a1 a2 : Int32} (hC : CS g w0 x nA cA lA kn s w) (hX : ¬ okN a0 → (Q (.inr "java/lang/IndexOutOfBoundsException") w)) (hQ : okN a0 → ∀ w', CS g w0 x nA cA lA kn (sN s (vp_updL s.1 a0.toNatClampNeg (stV a1 a2))) w' → Q (.inl (some (.int (hiV (s.1 a0.toNatClampNeg))))) w') : WP (MX1_set g) Q (0, [some (.ref x), some (.int a0), some (.int a1), some (.int a2), none], [], w, 0, 0) := by
  obtain ⟨gc, gl, ⟨hx, hn, hc, hl, hgc, hgl, hn0, hn1, rx, rn, rc, rl, ⟨d1, d2, d3, d4, d5, d6⟩, ⟨d7, d8, d9, d10, d11, d12⟩⟩, hcd, hpl⟩ := hC.1.opn g
  repeat' first
    | with_reducible assumption
    | with_reducible refine And.intro ?_ ?_
    | with_reducible exact vpi6 (by assumption) (by assumption)
    | with_reducible exact vpi8 (by assumption) (by assumption)
    | with_reducible exact trivial
    | with_reducible exact hX (by assumption)
    | with_reducible refine fX1_needNumber (fun _ => ?_) (fun hok => ?_)
    | with_reducible exact vpi8 hok.1 hok.2
    | with_reducible refine fX1_highOf ?_
    | with_reducible exact hQ hok _ (hC.num _)
    | simp only [eX1_set_0, eX1_set_1, eX1_set_4, eX1_set_4N, eX1_set_5, eX1_set_8, eX1_set_9, eX1_set_10, eX1_set_13, eX1_set_15, eX1_set_15N, eX1_set_16, eX1_set_19, eX1_set_20, eX1_set_21, eX1_set_22, eX1_set_24, eX1_set_25, eX1_set_26, eX1_set_27, eX1_set_30, eX1_set_31, eX1_set_32, eX1_set_33, eX1_set_35, lgp, lgn, lgz, i10, i00, if_true, if_false, eq_self, not_true, not_false_eq_true, rx, rn, rc, rl, hx, hn, hc, hl, d1, d2, d3, d4, d5, d6, d7, d8, d9, d10, d11, d12, rd_n, upw_n, ite_le, n45, n54, true_or, or_true, false_or, or_false, false_and, and_false, kx_l, kx_r, go_s, gl_s, gi_s, gb_s2, gb_s3, gq_s, wt_nil, wt_int, wt_long, wt_ref, wt_null, nl_int, nl_long, nl_ref, nl_null, nl_none, rf_n, rf_s, rf_st, tl_s, tl_n, g0, gS, ex1, nb_b, nb_0, nb_1, nf_i, nf_l, nf_ra, nf_ro, nf_na, nf_no, nf_b0, nf_z0, t45_4, t45_5, true_and, and_true, List.set_cons_zero, List.set_cons_succ, List.length_cons, List.length_nil, rd_s, upw_s, ne_eq, not_false_eq_true, Nat.zero_add, Nat.add_zero]
    | split
    | with_reducible intro _
    | omega
set_option maxHeartbeats 4000000 in
theorem fX1_setSmall {s : AS} {a0 a1 : Int32} (hC : CS g w0 x nA cA lA kn s w) (hX : ¬ okN a0 → (Q (.inr "java/lang/IndexOutOfBoundsException") w)) (hQ : okN a0 → ∀ w', CS g w0 x nA cA lA kn (sN s (vp_updL s.1 a0.toNatClampNeg a1.toInt64)) w' → Q (.inl (some (.int (loV (s.1 a0.toNatClampNeg))))) w') : WP (MX1_setSmall g) Q (0, [some (.ref x), some (.int a0), some (.int a1), none], [], w, 0, 0) := by
  obtain ⟨gc, gl, ⟨hx, hn, hc, hl, hgc, hgl, hn0, hn1, rx, rn, rc, rl, ⟨d1, d2, d3, d4, d5, d6⟩, ⟨d7, d8, d9, d10, d11, d12⟩⟩, hcd, hpl⟩ := hC.1.opn g
  repeat' first
    | with_reducible assumption
    | with_reducible refine And.intro ?_ ?_
    | with_reducible exact vpi6 (by assumption) (by assumption)
    | with_reducible exact vpi8 (by assumption) (by assumption)
    | with_reducible exact trivial
    | with_reducible exact hX (by assumption)
    | with_reducible refine fX1_needNumber (fun _ => ?_) (fun hok => ?_)
    | with_reducible exact vpi8 hok.1 hok.2
    | with_reducible refine fX1_lowOf ?_
    | with_reducible exact hQ hok _ (hC.num _)
    | simp only [eX1_setSmall_0, eX1_setSmall_1, eX1_setSmall_4, eX1_setSmall_4N, eX1_setSmall_5, eX1_setSmall_8, eX1_setSmall_9, eX1_setSmall_10, eX1_setSmall_13, eX1_setSmall_14, eX1_setSmall_14N, eX1_setSmall_15, eX1_setSmall_18, eX1_setSmall_19, eX1_setSmall_20, eX1_setSmall_21, eX1_setSmall_22, eX1_setSmall_23, lgp, lgn, lgz, i10, i00, if_true, if_false, eq_self, not_true, not_false_eq_true, rx, rn, rc, rl, hx, hn, hc, hl, d1, d2, d3, d4, d5, d6, d7, d8, d9, d10, d11, d12, rd_n, upw_n, ite_le, n45, n54, true_or, or_true, false_or, or_false, false_and, and_false, kx_l, kx_r, go_s, gl_s, gi_s, gb_s2, gb_s3, gq_s, wt_nil, wt_int, wt_long, wt_ref, wt_null, nl_int, nl_long, nl_ref, nl_null, nl_none, rf_n, rf_s, rf_st, tl_s, tl_n, g0, gS, ex1, nb_b, nb_0, nb_1, nf_i, nf_l, nf_ra, nf_ro, nf_na, nf_no, nf_b0, nf_z0, t45_4, t45_5, true_and, and_true, List.set_cons_zero, List.set_cons_succ, List.length_cons, List.length_nil, rd_s, upw_s, ne_eq, not_false_eq_true, Nat.zero_add, Nat.add_zero]
    | split
    | with_reducible intro _
    | omega
end
end
/-! 71.fn3.lean.txt -/
section
section
variable {g : RO} {Q : Ot → Hw → Prop} {w0 w : Hw} {x nA cA lA : Nat} {kn : Int32}
set_option maxHeartbeats 4000000 in
theorem fX1_setEnd {s : AS} {a0 a1 : Int32} (hC : CS g w0 x nA cA lA kn s w) (hX : ¬ okN a0 → (Q (.inr "java/lang/IndexOutOfBoundsException") w)) (hW : okN a0 → ¬ okW a1 3 → (Q (.inr "java/lang/IllegalArgumentException") w)) (hQ : okN a0 → okW a1 3 → ∀ w', CS g w0 x nA cA lA kn (sN s (vp_updL s.1 a0.toNatClampNeg (frV a1))) w' → Q (.inl (some (.int (loV (frV a1))))) w') : WP (MX1_setEnd g) Q (0, [some (.ref x), some (.int a0), some (.int a1)], [], w, 0, 0) := by
  obtain ⟨gc, gl, ⟨hx, hn, hc, hl, hgc, hgl, hn0, hn1, rx, rn, rc, rl, ⟨d1, d2, d3, d4, d5, d6⟩, ⟨d7, d8, d9, d10, d11, d12⟩⟩, hcd, hpl⟩ := hC.1.opn g
  repeat' first
    | with_reducible assumption
    | with_reducible refine And.intro ?_ ?_
    | with_reducible exact vpi6 (by assumption) (by assumption)
    | with_reducible exact vpi8 (by assumption) (by assumption)
    | with_reducible exact trivial
    | with_reducible exact hX (by assumption)
    | with_reducible exact vpi8 hok.1 hok.2
    | with_reducible refine fX1_needNumber (fun _ => ?_) (fun hok => ?_)
    | with_reducible refine fX1_needChoice (fun hnw => ?_) (fun hw => ?_)
    | with_reducible exact hW hok hnw
    | with_reducible refine fX1_farNumber ?_
    | with_reducible refine fX1_putNumber hC hok.1 hok.2 (fun w1 h1 => ?_)
    | with_reducible exact hQ hok hw _ h1
    | simp only [eX1_setEnd_0, eX1_setEnd_1, eX1_setEnd_4, eX1_setEnd_5, eX1_setEnd_6, eX1_setEnd_9, eX1_setEnd_9N, eX1_setEnd_10, eX1_setEnd_11, eX1_setEnd_12, eX1_setEnd_15, eX1_setEnd_18, lgp, lgn, lgz, i10, i00, if_true, if_false, eq_self, not_true, not_false_eq_true, rx, rn, rc, rl, hx, hn, hc, hl, d1, d2, d3, d4, d5, d6, d7, d8, d9, d10, d11, d12, rd_n, upw_n, ite_le, n45, n54, true_or, or_true, false_or, or_false, false_and, and_false, kx_l, kx_r, go_s, gl_s, gi_s, gb_s2, gb_s3, gq_s, wt_nil, wt_int, wt_long, wt_ref, wt_null, nl_int, nl_long, nl_ref, nl_null, nl_none, rf_n, rf_s, rf_st, tl_s, tl_n, g0, gS, ex1, nb_b, nb_0, nb_1, nf_i, nf_l, nf_ra, nf_ro, nf_na, nf_no, nf_b0, nf_z0, t45_4, t45_5, true_and, and_true, List.set_cons_zero, List.set_cons_succ, List.length_cons, List.length_nil, rd_s, upw_s, ne_eq, not_false_eq_true, Nat.zero_add, Nat.add_zero]
    | split
    | with_reducible intro _
    | omega
set_option maxHeartbeats 4000000 in
theorem fX1_move {s : AS} {a0 a1 : Int32} (hC : CS g w0 x nA cA lA kn s w) (hX : ¬ okN a0 → (Q (.inr "java/lang/IndexOutOfBoundsException") w)) (hQ : okN a0 → ∀ w', CS g w0 x nA cA lA kn (sN s (vp_updL s.1 a0.toNatClampNeg (s.1 a0.toNatClampNeg + a1.toInt64))) w' → Q (.inl (some (.int (loV (s.1 a0.toNatClampNeg + a1.toInt64))))) w') : WP (MX1_move g) Q (0, [some (.ref x), some (.int a0), some (.int a1)], [], w, 0, 0) := by
  obtain ⟨gc, gl, ⟨hx, hn, hc, hl, hgc, hgl, hn0, hn1, rx, rn, rc, rl, ⟨d1, d2, d3, d4, d5, d6⟩, ⟨d7, d8, d9, d10, d11, d12⟩⟩, hcd, hpl⟩ := hC.1.opn g
  repeat' first
    | with_reducible assumption
    | with_reducible refine And.intro ?_ ?_
    | with_reducible exact vpi6 (by assumption) (by assumption)
    | with_reducible exact vpi8 (by assumption) (by assumption)
    | with_reducible exact trivial
    | with_reducible exact hX (by assumption)
    | with_reducible exact vpi8 hok.1 hok.2
    | with_reducible refine fX1_needNumber (fun _ => ?_) (fun hok => ?_)
    | with_reducible refine fX1_putNumber hC hok.1 hok.2 (fun w1 h1 => ?_)
    | with_reducible exact hQ hok _ h1
    | simp only [eX1_move_0, eX1_move_1, eX1_move_4, eX1_move_4N, eX1_move_5, eX1_move_6, eX1_move_6N, eX1_move_7, eX1_move_10, eX1_move_11, eX1_move_12, eX1_move_13, eX1_move_14, eX1_move_15, eX1_move_18, lgp, lgn, lgz, i10, i00, if_true, if_false, eq_self, not_true, not_false_eq_true, rx, rn, rc, rl, hx, hn, hc, hl, d1, d2, d3, d4, d5, d6, d7, d8, d9, d10, d11, d12, rd_n, upw_n, ite_le, n45, n54, true_or, or_true, false_or, or_false, false_and, and_false, kx_l, kx_r, go_s, gl_s, gi_s, gb_s2, gb_s3, gq_s, wt_nil, wt_int, wt_long, wt_ref, wt_null, nl_int, nl_long, nl_ref, nl_null, nl_none, rf_n, rf_s, rf_st, tl_s, tl_n, g0, gS, ex1, nb_b, nb_0, nb_1, nf_i, nf_l, nf_ra, nf_ro, nf_na, nf_no, nf_b0, nf_z0, t45_4, t45_5, true_and, and_true, List.set_cons_zero, List.set_cons_succ, List.length_cons, List.length_nil, rd_s, upw_s, ne_eq, not_false_eq_true, Nat.zero_add, Nat.add_zero]
    | split
    | with_reducible intro _
    | omega
set_option maxHeartbeats 4000000 in
theorem fX1_copy {s : AS} {a0 a1 : Int32} (hC : CS g w0 x nA cA lA kn s w) (hX : ¬ (okN a0 ∧ okN a1) → (Q (.inr "java/lang/IndexOutOfBoundsException") w)) (hQ : okN a0 → okN a1 → ∀ w', CS g w0 x nA cA lA kn (sN s (vp_updL s.1 a0.toNatClampNeg (s.1 a1.toNatClampNeg))) w' → Q (.inl (some (.int (loV (s.1 a1.toNatClampNeg))))) w') : WP (MX1_copy g) Q (0, [some (.ref x), some (.int a0), some (.int a1)], [], w, 0, 0) := by
  obtain ⟨gc, gl, ⟨hx, hn, hc, hl, hgc, hgl, hn0, hn1, rx, rn, rc, rl, ⟨d1, d2, d3, d4, d5, d6⟩, ⟨d7, d8, d9, d10, d11, d12⟩⟩, hcd, hpl⟩ := hC.1.opn g
  repeat' first
    | with_reducible assumption
    | with_reducible refine And.intro ?_ ?_
    | with_reducible exact vpi6 (by assumption) (by assumption)
    | with_reducible exact vpi8 (by assumption) (by assumption)
    | with_reducible exact trivial
    | with_reducible exact hQ ha hb _ h1
    | with_reducible exact vpi8 ha.1 ha.2
    | with_reducible exact vpi8 hb.1 hb.2
    | with_reducible exact hX (fun h => absurd h.1 (by assumption))
    | with_reducible exact hX (fun h => absurd h.2 (by assumption))
    | with_reducible refine fX1_needNumber (a0 := a0) (fun _ => ?_) (fun ha => ?_)
    | with_reducible refine fX1_needNumber (a0 := a1) (fun _ => ?_) (fun hb => ?_)
    | with_reducible refine fX1_putNumber hC ha.1 ha.2 (fun w1 h1 => ?_)
    | simp only [eX1_copy_0, eX1_copy_1, eX1_copy_4, eX1_copy_5, eX1_copy_8, eX1_copy_8N, eX1_copy_9, eX1_copy_10, eX1_copy_10N, eX1_copy_11, eX1_copy_14, eX1_copy_15, eX1_copy_16, eX1_copy_19, lgp, lgn, lgz, i10, i00, if_true, if_false, eq_self, not_true, not_false_eq_true, rx, rn, rc, rl, hx, hn, hc, hl, d1, d2, d3, d4, d5, d6, d7, d8, d9, d10, d11, d12, rd_n, upw_n, ite_le, n45, n54, true_or, or_true, false_or, or_false, false_and, and_false, kx_l, kx_r, go_s, gl_s, gi_s, gb_s2, gb_s3, gq_s, wt_nil, wt_int, wt_long, wt_ref, wt_null, nl_int, nl_long, nl_ref, nl_null, nl_none, rf_n, rf_s, rf_st, tl_s, tl_n, g0, gS, ex1, nb_b, nb_0, nb_1, nf_i, nf_l, nf_ra, nf_ro, nf_na, nf_no, nf_b0, nf_z0, t45_4, t45_5, true_and, and_true, List.set_cons_zero, List.set_cons_succ, List.length_cons, List.length_nil, rd_s, upw_s, ne_eq, not_false_eq_true, Nat.zero_add, Nat.add_zero]
    | split
    | with_reducible intro _
    | omega
set_option maxHeartbeats 4000000 in
theorem fX1_ofNumber {s : AS} {a0 a1 : Int32} (hC : CS g w0 x nA cA lA kn s w) (hX : ¬ okN a0 → (Q (.inr "java/lang/IndexOutOfBoundsException") w)) (hQ : okN a0 → Q (.inl (some (.int (hfV (s.1 a0.toNatClampNeg) a1)))) w) : WP (MX1_ofNumber g) Q (0, [some (.ref x), some (.int a0), some (.int a1)], [], w, 0, 0) := by
  obtain ⟨gc, gl, ⟨hx, hn, hc, hl, hgc, hgl, hn0, hn1, rx, rn, rc, rl, ⟨d1, d2, d3, d4, d5, d6⟩, ⟨d7, d8, d9, d10, d11, d12⟩⟩, hcd, hpl⟩ := hC.1.opn g
  repeat' first
    | with_reducible assumption
    | with_reducible refine And.intro ?_ ?_
    | with_reducible exact vpi6 (by assumption) (by assumption)
    | with_reducible exact vpi8 (by assumption) (by assumption)
    | with_reducible exact trivial
    | with_reducible exact hX (by assumption)
    | with_reducible exact vpi8 hok.1 hok.2
    | with_reducible refine fX1_needNumber (fun _ => ?_) (fun hok => ?_)
    | with_reducible refine fX1_halfOf ?_
    | with_reducible exact hQ hok
    | simp only [eX1_ofNumber_0, eX1_ofNumber_1, eX1_ofNumber_4, eX1_ofNumber_4N, eX1_ofNumber_5, eX1_ofNumber_8, eX1_ofNumber_9, eX1_ofNumber_10, eX1_ofNumber_11, eX1_ofNumber_14, lgp, lgn, lgz, i10, i00, if_true, if_false, eq_self, not_true, not_false_eq_true, rx, rn, rc, rl, hx, hn, hc, hl, d1, d2, d3, d4, d5, d6, d7, d8, d9, d10, d11, d12, rd_n, upw_n, ite_le, n45, n54, true_or, or_true, false_or, or_false, false_and, and_false, kx_l, kx_r, go_s, gl_s, gi_s, gb_s2, gb_s3, gq_s, wt_nil, wt_int, wt_long, wt_ref, wt_null, nl_int, nl_long, nl_ref, nl_null, nl_none, rf_n, rf_s, rf_st, tl_s, tl_n, g0, gS, ex1, nb_b, nb_0, nb_1, nf_i, nf_l, nf_ra, nf_ro, nf_na, nf_no, nf_b0, nf_z0, t45_4, t45_5, true_and, and_true, List.set_cons_zero, List.set_cons_succ, List.length_cons, List.length_nil, rd_s, upw_s, ne_eq, not_false_eq_true, Nat.zero_add, Nat.add_zero]
    | split
    | with_reducible intro _
    | omega
def orV (a b : Int64) : Int32 := if a.toInt < b.toInt then -1 else if b.toInt < a.toInt then 1 else 0
theorem orV_1 {a b : Int64} (h : a.toInt < b.toInt) : orV a b = -1 := if_pos h
theorem orV_2 {a b : Int64} (h : ¬ a.toInt < b.toInt) (k : b.toInt < a.toInt) : orV a b = 1 := by
  unfold orV
  rw [if_neg h, if_pos k]
theorem orV_3 {a b : Int64} (h : ¬ a.toInt < b.toInt) (k : ¬ b.toInt < a.toInt) : orV a b = 0 := by
  unfold orV
  rw [if_neg h, if_neg k]
set_option maxHeartbeats 4000000 in
theorem fX1_order {s : AS} {a0 a1 : Int32} (hC : CS g w0 x nA cA lA kn s w) (hX : ¬ (okN a0 ∧ okN a1) → (Q (.inr "java/lang/IndexOutOfBoundsException") w)) (hQ : okN a0 → okN a1 → Q (.inl (some (.int (orV (s.1 a0.toNatClampNeg) (s.1 a1.toNatClampNeg))))) w) : WP (MX1_order g) Q (0, [some (.ref x), some (.int a0), some (.int a1)], [], w, 0, 0) := by
  obtain ⟨gc, gl, ⟨hx, hn, hc, hl, hgc, hgl, hn0, hn1, rx, rn, rc, rl, ⟨d1, d2, d3, d4, d5, d6⟩, ⟨d7, d8, d9, d10, d11, d12⟩⟩, hcd, hpl⟩ := hC.1.opn g
  repeat' first
    | with_reducible assumption
    | with_reducible refine And.intro ?_ ?_
    | with_reducible exact vpi6 (by assumption) (by assumption)
    | with_reducible exact vpi8 (by assumption) (by assumption)
    | with_reducible exact trivial
    | with_reducible exact vpi8 ha.1 ha.2
    | with_reducible exact vpi8 hb.1 hb.2
    | with_reducible exact hX (fun h => absurd h.1 (by assumption))
    | with_reducible exact hX (fun h => absurd h.2 (by assumption))
    | with_reducible refine fX1_needNumber (a0 := a0) (fun _ => ?_) (fun ha => ?_)
    | with_reducible refine fX1_needNumber (a0 := a1) (fun _ => ?_) (fun hb => ?_)
    | (rw [orV_1 (by assumption)] at hQ; exact hQ ha hb)
    | (rw [orV_2 (by assumption) (by assumption)] at hQ; exact hQ ha hb)
    | (rw [orV_3 (by assumption) (by assumption)] at hQ; exact hQ ha hb)
    | simp only [eX1_order_0, eX1_order_1, eX1_order_4, eX1_order_5, eX1_order_8, eX1_order_8N, eX1_order_9, eX1_order_12, eX1_order_13, eX1_order_14, eX1_order_14N, eX1_order_15, eX1_order_18, eX1_order_19, eX1_order_20, eX1_order_21, eX1_order_24, eX1_order_25, eX1_order_26, eX1_order_26N, eX1_order_27, eX1_order_30, eX1_order_31, eX1_order_32, eX1_order_32N, eX1_order_33, eX1_order_36, eX1_order_37, eX1_order_38, eX1_order_39, eX1_order_42, eX1_order_43, eX1_order_46, eX1_order_47, lgp, lgn, lgz, i10, i00, if_true, if_false, eq_self, not_true, not_false_eq_true, rx, rn, rc, rl, hx, hn, hc, hl, d1, d2, d3, d4, d5, d6, d7, d8, d9, d10, d11, d12, rd_n, upw_n, ite_le, n45, n54, true_or, or_true, false_or, or_false, false_and, and_false, kx_l, kx_r, go_s, gl_s, gi_s, gb_s2, gb_s3, gq_s, wt_nil, wt_int, wt_long, wt_ref, wt_null, nl_int, nl_long, nl_ref, nl_null, nl_none, rf_n, rf_s, rf_st, tl_s, tl_n, g0, gS, ex1, nb_b, nb_0, nb_1, nf_i, nf_l, nf_ra, nf_ro, nf_na, nf_no, nf_b0, nf_z0, t45_4, t45_5, true_and, and_true, List.set_cons_zero, List.set_cons_succ, List.length_cons, List.length_nil, rd_s, upw_s, ne_eq, not_false_eq_true, Nat.zero_add, Nat.add_zero]
    | split
    | with_reducible intro _
    | omega
set_option maxHeartbeats 4000000 in
theorem fX1_knock {s : AS} (hC : CS g w0 x nA cA lA kn s w) (hQ : ∀ w', CS g w0 x nA cA lA (kn + 1) s w' → Q (.inl (some (.int (kn + 1)))) w') : WP (MX1_knock g) Q (0, [some (.ref x)], [], w, 0, 0) := by
  obtain ⟨gc, gl, ⟨hx, hn, hc, hl, hgc, hgl, hn0, hn1, rx, rn, rc, rl, ⟨d1, d2, d3, d4, d5, d6⟩, ⟨d7, d8, d9, d10, d11, d12⟩⟩, hcd, hpl⟩ := hC.1.opn g
  repeat' first
    | with_reducible assumption
    | with_reducible refine And.intro ?_ ?_
    | with_reducible exact vpi6 (by assumption) (by assumption)
    | with_reducible exact vpi8 (by assumption) (by assumption)
    | with_reducible exact trivial
    | with_reducible exact hQ _ (hC.obj _ _ _)
    | simp only [eX1_knock_0, eX1_knock_0N, eX1_knock_1, eX1_knock_1R, eX1_knock_2, eX1_knock_5, eX1_knock_6, eX1_knock_7, eX1_knock_10, eX1_knock_10N, eX1_knock_11, eX1_knock_14, lgp, lgn, lgz, i10, i00, if_true, if_false, eq_self, not_true, not_false_eq_true, rx, rn, rc, rl, hx, hn, hc, hl, d1, d2, d3, d4, d5, d6, d7, d8, d9, d10, d11, d12, rd_n, upw_n, ite_le, n45, n54, true_or, or_true, false_or, or_false, false_and, and_false, kx_l, kx_r, go_s, gl_s, gi_s, gb_s2, gb_s3, gq_s, wt_nil, wt_int, wt_long, wt_ref, wt_null, nl_int, nl_long, nl_ref, nl_null, nl_none, rf_n, rf_s, rf_st, tl_s, tl_n, g0, gS, ex1, nb_b, nb_0, nb_1, nf_i, nf_l, nf_ra, nf_ro, nf_na, nf_no, nf_b0, nf_z0, t45_4, t45_5, true_and, and_true, List.set_cons_zero, List.set_cons_succ, List.length_cons, List.length_nil, rd_s, upw_s, ne_eq, not_false_eq_true, Nat.zero_add, Nat.add_zero]
    | split
    | with_reducible intro _
    | omega
set_option maxHeartbeats 4000000 in
theorem fX1_refuse {s : AS} (hC : CS g w0 x nA cA lA kn s w) (hQ : ∀ w', CS g w0 x nA cA lA kn (sR_ s (s.2.2.2.2.1 + 1)) w' → (∀ b r, rAt w b r → rAt w' b r) → Q (.inl (some (.int (-9)))) w') : WP (MX1_refuse g) Q (0, [some (.ref x)], [], w, 0, 0) := by
  obtain ⟨gc, gl, ⟨hx, hn, hc, hl, hgc, hgl, hn0, hn1, rx, rn, rc, rl, ⟨d1, d2, d3, d4, d5, d6⟩, ⟨d7, d8, d9, d10, d11, d12⟩⟩, hcd, hpl⟩ := hC.1.opn g
  repeat' first
    | with_reducible assumption
    | with_reducible refine And.intro ?_ ?_
    | with_reducible exact vpi6 (by assumption) (by assumption)
    | with_reducible exact vpi8 (by assumption) (by assumption)
    | with_reducible exact trivial
    | with_reducible exact hQ _ (hC.obj _ _ _) (fun b r hb => rAt_up2 hb hx (by simp))
    | simp only [eX1_refuse_0, eX1_refuse_0N, eX1_refuse_1, eX1_refuse_1R, eX1_refuse_2, eX1_refuse_5, eX1_refuse_6, eX1_refuse_7, eX1_refuse_10, eX1_refuse_12, lgp, lgn, lgz, i10, i00, if_true, if_false, eq_self, not_true, not_false_eq_true, rx, rn, rc, rl, hx, hn, hc, hl, d1, d2, d3, d4, d5, d6, d7, d8, d9, d10, d11, d12, rd_n, upw_n, ite_le, n45, n54, true_or, or_true, false_or, or_false, false_and, and_false, kx_l, kx_r, go_s, gl_s, gi_s, gb_s2, gb_s3, gq_s, wt_nil, wt_int, wt_long, wt_ref, wt_null, nl_int, nl_long, nl_ref, nl_null, nl_none, rf_n, rf_s, rf_st, tl_s, tl_n, g0, gS, ex1, nb_b, nb_0, nb_1, nf_i, nf_l, nf_ra, nf_ro, nf_na, nf_no, nf_b0, nf_z0, t45_4, t45_5, true_and, and_true, List.set_cons_zero, List.set_cons_succ, List.length_cons, List.length_nil, rd_s, upw_s, ne_eq, not_false_eq_true, Nat.zero_add, Nat.add_zero]
    | split
    | with_reducible intro _
    | omega
theorem go_Fw {b : Nat} {r : R4} {K : List Value → Prop} (h : rAt w b r) (k : K [.long r.1, .long r.2.1, .long r.2.2.1, .long r.2.2.2]) : go (w b) 4 K := by
  rw [h, go_s]
  exact k
theorem c6 {a : Int32} (h : okC a) : a.toNatClampNeg < 6 := by
  have h1 := i32_0 h.1
  have h2 := i32_lt h.2
  have z : (6 : Int32).toInt = 6 := rfl
  have e : a.toNatClampNeg = a.toInt.toNat := rfl
  omega
theorem cdN {gc : Nat → Option Nat} {s : AS} {a : Int32} (hcd : ∀ i, i < 6 → cM w (gc i) (s.2.1 i)) (hok : okC a) (h : gc a.toNatClampNeg = none) : s.2.1 a.toNatClampNeg = none := by
  have k := hcd _ (c6 hok)
  rw [h] at k
  exact k.n
theorem cdS {gc : Nat → Option Nat} {s : AS} {a : Int32} {b : Nat} (hcd : ∀ i, i < 6 → cM w (gc i) (s.2.1 i)) (hok : okC a) (h : gc a.toNatClampNeg = some b) : ∃ r, s.2.1 a.toNatClampNeg = some r ∧ rAt w b r := by
  have k := hcd _ (c6 hok)
  rw [h] at k
  exact k.s
set_option maxHeartbeats 4000000 in
theorem fX1_giveR {s : AS} {a0 : Int32} {a1 : Nat} {r : R4} (hC : CS g w0 x nA cA lA kn s w) (h1 : rAt w a1 r) (k0 : ¬ a0 < 0) (k1 : a0 < 6) (hQ : ∀ w', CS g w0 x nA cA lA kn (sM_ (sC s (va_up s.2.1 a0.toNatClampNeg (some r))) (s.2.2.2.2.2 + 1)) w' → (∀ b r, rAt w b r → rAt w' b r) → Q (.inl (some (.int 1))) w') : WP (MX1_give g) Q (0, [some (.ref x), some (.int a0), some (.ref a1)], [], w, 0, 0) := by
  obtain ⟨gc, gl, ⟨hx, hn, hc, hl, hgc, hgl, hn0, hn1, rx, rn, rc, rl, ⟨d1, d2, d3, d4, d5, d6⟩, ⟨d7, d8, d9, d10, d11, d12⟩⟩, hcd, hpl⟩ := hC.1.opn g
  repeat' first
    | with_reducible assumption
    | with_reducible refine And.intro ?_ ?_
    | with_reducible exact vpi6 (by assumption) (by assumption)
    | with_reducible exact vpi8 (by assumption) (by assumption)
    | with_reducible exact trivial
    | with_reducible exact vpi6 k0 k1
    | with_reducible refine Or.inl ?_
    | with_reducible exact go_Fw h1 trivial
    | ((with_reducible refine isQ (Q := Q) ?_); exact hQ _ ((hC.card gc hc a0.toNatClampNeg (some a1) (some r) h1).obj _ _ _) (fun b q hb => rAt_up2 (rAt_up2 hb hc (by simp)) (by rw [upw_n d2]; exact hx) (by simp)))
    | simp only [eX1_give_0, eX1_give_0N, eX1_give_1R, eX1_give_1N, eX1_give_4, eX1_give_4N, eX1_give_5, eX1_give_8, eX1_give_9, eX1_give_9N, eX1_give_10, eX1_give_13, eX1_give_14, eX1_give_14N, eX1_give_15N, eX1_give_15R, eX1_give_16, eX1_give_16N, eX1_give_17, eX1_give_17R, eX1_give_18, eX1_give_21, eX1_give_22, eX1_give_23, eX1_give_26, eX1_give_27, lgp, lgn, lgz, i10, i00, if_true, if_false, eq_self, not_true, not_false_eq_true, rx, rn, rc, rl, hx, hn, hc, hl, d1, d2, d3, d4, d5, d6, d7, d8, d9, d10, d11, d12, rd_n, upw_n, ite_le, n45, n54, true_or, or_true, false_or, or_false, false_and, and_false, kx_l, kx_r, go_s, gl_s, gi_s, gb_s2, gb_s3, gq_s, wt_nil, wt_int, wt_long, wt_ref, wt_null, nl_int, nl_long, nl_ref, nl_null, nl_none, rf_n, rf_s, rf_st, tl_s, tl_n, g0, gS, ex1, nb_b, nb_0, nb_1, nf_i, nf_l, nf_ra, nf_ro, nf_na, nf_no, nf_b0, nf_z0, t45_4, t45_5, true_and, and_true, List.set_cons_zero, List.set_cons_succ, List.length_cons, List.length_nil, rd_s, upw_s, ne_eq, not_false_eq_true, Nat.zero_add, Nat.add_zero]
    | split
    | with_reducible intro _
    | omega
set_option maxHeartbeats 4000000 in
theorem fX1_giveN {s : AS} {a0 : Int32} (hC : CS g w0 x nA cA lA kn s w) (hQ : ∀ w', CS g w0 x nA cA lA kn (sR_ s (s.2.2.2.2.1 + 1)) w' → (∀ b r, rAt w b r → rAt w' b r) → Q (.inl (some (.int (-9)))) w') : WP (MX1_give g) Q (0, [some (.ref x), some (.int a0), some .null], [], w, 0, 0) := by
  obtain ⟨gc, gl, ⟨hx, hn, hc, hl, hgc, hgl, hn0, hn1, rx, rn, rc, rl, ⟨d1, d2, d3, d4, d5, d6⟩, ⟨d7, d8, d9, d10, d11, d12⟩⟩, hcd, hpl⟩ := hC.1.opn g
  repeat' first
    | with_reducible assumption
    | with_reducible refine And.intro ?_ ?_
    | with_reducible exact vpi6 (by assumption) (by assumption)
    | with_reducible exact vpi8 (by assumption) (by assumption)
    | with_reducible exact trivial
    | with_reducible exact hQ _ (by assumption) (by assumption)
    | with_reducible refine fX1_refuse hC (fun w1 h1 h2 => ?_)
    | simp only [eX1_give_0, eX1_give_0N, eX1_give_1R, eX1_give_1N, eX1_give_4, eX1_give_4N, eX1_give_5, eX1_give_8, eX1_give_9, eX1_give_9N, eX1_give_10, eX1_give_13, eX1_give_14, eX1_give_14N, eX1_give_15N, eX1_give_15R, eX1_give_16, eX1_give_16N, eX1_give_17, eX1_give_17R, eX1_give_18, eX1_give_21, eX1_give_22, eX1_give_23, eX1_give_26, eX1_give_27, lgp, lgn, lgz, i10, i00, if_true, if_false, eq_self, not_true, not_false_eq_true, rx, rn, rc, rl, hx, hn, hc, hl, d1, d2, d3, d4, d5, d6, d7, d8, d9, d10, d11, d12, rd_n, upw_n, ite_le, n45, n54, true_or, or_true, false_or, or_false, false_and, and_false, kx_l, kx_r, go_s, gl_s, gi_s, gb_s2, gb_s3, gq_s, wt_nil, wt_int, wt_long, wt_ref, wt_null, nl_int, nl_long, nl_ref, nl_null, nl_none, rf_n, rf_s, rf_st, tl_s, tl_n, g0, gS, ex1, nb_b, nb_0, nb_1, nf_i, nf_l, nf_ra, nf_ro, nf_na, nf_no, nf_b0, nf_z0, t45_4, t45_5, true_and, and_true, List.set_cons_zero, List.set_cons_succ, List.length_cons, List.length_nil, rd_s, upw_s, ne_eq, not_false_eq_true, Nat.zero_add, Nat.add_zero]
    | split
    | with_reducible intro _
    | omega
set_option maxHeartbeats 4000000 in
theorem fX1_rangeOf {s : AS} {a0 : Int32} (hC : CS g w0 x nA cA lA kn s w) (hX : ¬ okC a0 → (Q (.inr "java/lang/IndexOutOfBoundsException") w)) (hS : okC a0 → s.2.1 a0.toNatClampNeg = none → (Q (.inr "java/lang/IllegalStateException") w)) (hQ : okC a0 → ∀ b r, s.2.1 a0.toNatClampNeg = some r → rAt w b r → Q (.inl (some (.ref b))) w) : WP (MX1_rangeOf g) Q (0, [some (.ref x), some (.int a0), none], [], w, 0, 0) := by
  obtain ⟨gc, gl, ⟨hx, hn, hc, hl, hgc, hgl, hn0, hn1, rx, rn, rc, rl, ⟨d1, d2, d3, d4, d5, d6⟩, ⟨d7, d8, d9, d10, d11, d12⟩⟩, hcd, hpl⟩ := hC.1.opn g
  repeat' first
    | with_reducible assumption
    | with_reducible refine And.intro ?_ ?_
    | with_reducible exact vpi6 (by assumption) (by assumption)
    | with_reducible exact vpi8 (by assumption) (by assumption)
    | with_reducible exact trivial
    | with_reducible exact hX (by assumption)
    | with_reducible refine fX1_needCard (fun _ => ?_) (fun hok => ?_)
    | with_reducible exact vpi6 hok.1 hok.2
    | with_reducible exact hS hok (cdN hcd hok (by assumption))
    | with_reducible exact (cdS hcd hok (by assumption)).elim (fun r h => hQ hok _ r h.1 h.2)
    | simp only [eX1_rangeOf_0, eX1_rangeOf_1, eX1_rangeOf_4, eX1_rangeOf_4N, eX1_rangeOf_5, eX1_rangeOf_8, eX1_rangeOf_9, eX1_rangeOf_10, eX1_rangeOf_10N, eX1_rangeOf_11, eX1_rangeOf_11N, eX1_rangeOf_12R, eX1_rangeOf_12N, eX1_rangeOf_15, eX1_rangeOf_25, eX1_rangeOf_25N, eX1_rangeOf_26, eX1_rangeOf_26N, lgp, lgn, lgz, i10, i00, if_true, if_false, eq_self, not_true, not_false_eq_true, rx, rn, rc, rl, hx, hn, hc, hl, d1, d2, d3, d4, d5, d6, d7, d8, d9, d10, d11, d12, rd_n, upw_n, ite_le, n45, n54, true_or, or_true, false_or, or_false, false_and, and_false, kx_l, kx_r, go_s, gl_s, gi_s, gb_s2, gb_s3, gq_s, wt_nil, wt_int, wt_long, wt_ref, wt_null, nl_int, nl_long, nl_ref, nl_null, nl_none, rf_n, rf_s, rf_st, tl_s, tl_n, g0, gS, ex1, nb_b, nb_0, nb_1, nf_i, nf_l, nf_ra, nf_ro, nf_na, nf_no, nf_b0, nf_z0, t45_4, t45_5, true_and, and_true, List.set_cons_zero, List.set_cons_succ, List.length_cons, List.length_nil, rd_s, upw_s, ne_eq, not_false_eq_true, Nat.zero_add, Nat.add_zero]
    | split
    | with_reducible intro _
    | omega
end
end
/-! 71.fn4.lean.txt -/
section
section
variable {g : RO} {Q : Ot → Hw → Prop} {w0 w : Hw} {x nA cA lA : Nat} {kn : Int32}
/-! FUNCTIONAL SPECS, 4: what is made -/
theorem rAt_new {q : Nat} {a b c d : Int64} : rAt (upw w q (.inr (4, [.long a, .long b, .long c, .long d]))) q (a, b, c, d) := upw_s _ _ _
theorem go_5 {s : AS} (h : CS g w0 x nA cA lA kn s w) : go (rd g w x) 5 fun _ => True := by
  obtain ⟨gc, gl, h1, -⟩ := h.1.opn g
  rw [h1.2.2.2.2.2.2.2.2.1, go_s]
  trivial
/-- a card gets the range (refused: counted) -/
abbrev sMk (s : AS) (j : Nat) (r : R4) : AS := sM_ (sC s (va_up s.2.1 j (some r))) (s.2.2.2.2.2 + 1)
abbrev sRf (s : AS) : AS := sR_ s (s.2.2.2.2.1 + 1)
set_option maxHeartbeats 4000000 in
theorem fX1_two {s : AS} {a0 : Int32} {a1 : Int32} {a2 : Int32} (hC : CS g w0 x nA cA lA kn s w) (hX : ¬ (okC a0 ∧ okN a1 ∧ okN a2) → (Q (.inr "java/lang/IndexOutOfBoundsException") w)) (hT : okC a0 → okN a1 → okN a2 → oP (s.1 a1.toNatClampNeg) (s.1 a1.toNatClampNeg) (s.1 a2.toNatClampNeg) (s.1 a2.toNatClampNeg) → ∀ w', CS g w0 x nA cA lA kn (sMk s a0.toNatClampNeg (s.1 a1.toNatClampNeg, s.1 a1.toNatClampNeg, s.1 a2.toNatClampNeg, s.1 a2.toNatClampNeg)) w' → Q (.inl (some (.int 1))) w') (hF : okC a0 → okN a1 → okN a2 → ¬ oP (s.1 a1.toNatClampNeg) (s.1 a1.toNatClampNeg) (s.1 a2.toNatClampNeg) (s.1 a2.toNatClampNeg) → ∀ w', CS g w0 x nA cA lA kn (sRf s) w' → Q (.inl (some (.int (-9)))) w') : WP (MX1_two g) Q (0, [some (.ref x), some (.int a0), some (.int a1), some (.int a2)], [], w, 0, 0) := by
  obtain ⟨gc, gl, ⟨hx, hn, hc, hl, hgc, hgl, hn0, hn1, rx, rn, rc, rl, ⟨d1, d2, d3, d4, d5, d6⟩, ⟨d7, d8, d9, d10, d11, d12⟩⟩, hcd, hpl⟩ := hC.1.opn g
  repeat' first
    | with_reducible assumption
    | with_reducible refine And.intro ?_ ?_
    | with_reducible exact vpi6 (by assumption) (by assumption)
    | with_reducible exact vpi8 (by assumption) (by assumption)
    | with_reducible exact trivial
    | with_reducible exact hX (fun h => absurd h.1 (by assumption))
    | with_reducible exact hX (fun h => absurd h.2.1 (by assumption))
    | with_reducible exact hX (fun h => absurd h.2.2 (by assumption))
    | with_reducible refine fX1_needCard (a0 := a0) (fun _ => ?_) (fun k0 => ?_)
    | with_reducible exact vpi6 k0.1 k0.2
    | with_reducible refine fX1_needNumber (a0 := a1) (fun _ => ?_) (fun k1 => ?_)
    | with_reducible exact vpi8 k1.1 k1.2
    | with_reducible refine fX1_needNumber (a0 := a2) (fun _ => ?_) (fun k2 => ?_)
    | with_reducible exact vpi8 k2.1 k2.2
    | with_reducible refine fX0_ofTwo (fun hno => ?_) (fun hyes q hq => ?_)
    | with_reducible refine fX1_giveN hC (fun w1 g1 g2 => ?_)
    | with_reducible exact hF k0 k1 k2 hno w1 g1
    | with_reducible exact go_5 (hC.ext (ext_up2 ext.rf hq))
    | with_reducible refine fX1_giveR (hC.ext (ext_up2 ext.rf hq)) rAt_new k0.1 k0.2 (fun w1 g1 g2 => ?_)
    | with_reducible exact hT k0 k1 k2 hyes w1 g1
    | simp only [eX1_two_0, eX1_two_1, eX1_two_4, eX1_two_5, eX1_two_8, eX1_two_9, eX1_two_12, eX1_two_12N, eX1_two_13, eX1_two_14, eX1_two_14N, eX1_two_15, eX1_two_18, eX1_two_19, eX1_two_20, eX1_two_20N, eX1_two_21, eX1_two_24, eX1_two_25, eX1_two_26, eX1_two_29R, eX1_two_29N, eX1_two_32, lgp, lgn, lgz, i10, i00, if_true, if_false, eq_self, not_true, not_false_eq_true, rx, rn, rc, rl, hx, hn, hc, hl, d1, d2, d3, d4, d5, d6, d7, d8, d9, d10, d11, d12, rd_n, upw_n, ite_le, n45, n54, true_or, or_true, false_or, or_false, false_and, and_false, kx_l, kx_r, go_s, gl_s, gi_s, gb_s2, gb_s3, gq_s, wt_nil, wt_int, wt_long, wt_ref, wt_null, nl_int, nl_long, nl_ref, nl_null, nl_none, rf_n, rf_s, rf_st, tl_s, tl_n, g0, gS, ex1, nb_b, nb_0, nb_1, nf_i, nf_l, nf_ra, nf_ro, nf_na, nf_no, nf_b0, nf_z0, t45_4, t45_5, true_and, and_true, List.set_cons_zero, List.set_cons_succ, List.length_cons, List.length_nil, rd_s, upw_s, ne_eq, not_false_eq_true, Nat.zero_add, Nat.add_zero]
    | split
    | with_reducible intro _
    | omega
set_option maxHeartbeats 4000000 in
theorem fX1_three {s : AS} {a0 : Int32} {a1 : Int32} {a2 : Int32} {a3 : Int32} (hC : CS g w0 x nA cA lA kn s w) (hX : ¬ (okC a0 ∧ okN a1 ∧ okN a2 ∧ okN a3) → (Q (.inr "java/lang/IndexOutOfBoundsException") w)) (hT : okC a0 → okN a1 → okN a2 → okN a3 → oP (s.1 a1.toNatClampNeg) (s.1 a1.toNatClampNeg) (s.1 a2.toNatClampNeg) (s.1 a3.toNatClampNeg) → ∀ w', CS g w0 x nA cA lA kn (sMk s a0.toNatClampNeg (s.1 a1.toNatClampNeg, s.1 a1.toNatClampNeg, s.1 a2.toNatClampNeg, s.1 a3.toNatClampNeg)) w' → Q (.inl (some (.int 1))) w') (hF : okC a0 → okN a1 → okN a2 → okN a3 → ¬ oP (s.1 a1.toNatClampNeg) (s.1 a1.toNatClampNeg) (s.1 a2.toNatClampNeg) (s.1 a3.toNatClampNeg) → ∀ w', CS g w0 x nA cA lA kn (sRf s) w' → Q (.inl (some (.int (-9)))) w') : WP (MX1_three g) Q (0, [some (.ref x), some (.int a0), some (.int a1), some (.int a2), some (.int a3)], [], w, 0, 0) := by
  obtain ⟨gc, gl, ⟨hx, hn, hc, hl, hgc, hgl, hn0, hn1, rx, rn, rc, rl, ⟨d1, d2, d3, d4, d5, d6⟩, ⟨d7, d8, d9, d10, d11, d12⟩⟩, hcd, hpl⟩ := hC.1.opn g
  repeat' first
    | with_reducible assumption
    | with_reducible refine And.intro ?_ ?_
    | with_reducible exact vpi6 (by assumption) (by assumption)
    | with_reducible exact vpi8 (by assumption) (by assumption)
    | with_reducible exact trivial
    | with_reducible exact hX (fun h => absurd h.1 (by assumption))
    | with_reducible exact hX (fun h => absurd h.2.1 (by assumption))
    | with_reducible exact hX (fun h => absurd h.2.2.1 (by assumption))
    | with_reducible exact hX (fun h => absurd h.2.2.2 (by assumption))
    | with_reducible refine fX1_needCard (a0 := a0) (fun _ => ?_) (fun k0 => ?_)
    | with_reducible exact vpi6 k0.1 k0.2
    | with_reducible refine fX1_needNumber (a0 := a1) (fun _ => ?_) (fun k1 => ?_)
    | with_reducible exact vpi8 k1.1 k1.2
    | with_reducible refine fX1_needNumber (a0 := a2) (fun _ => ?_) (fun k2 => ?_)
    | with_reducible exact vpi8 k2.1 k2.2
    | with_reducible refine fX1_needNumber (a0 := a3) (fun _ => ?_) (fun k3 => ?_)
    | with_reducible exact vpi8 k3.1 k3.2
    | with_reducible refine fX0_ofThree (fun hno => ?_) (fun hyes q hq => ?_)
    | with_reducible refine fX1_giveN hC (fun w1 g1 g2 => ?_)
    | with_reducible exact hF k0 k1 k2 k3 hno w1 g1
    | with_reducible exact go_5 (hC.ext (ext_up2 ext.rf hq))
    | with_reducible refine fX1_giveR (hC.ext (ext_up2 ext.rf hq)) rAt_new k0.1 k0.2 (fun w1 g1 g2 => ?_)
    | with_reducible exact hT k0 k1 k2 k3 hyes w1 g1
    | simp only [eX1_three_0, eX1_three_1, eX1_three_4, eX1_three_5, eX1_three_8, eX1_three_9, eX1_three_12, eX1_three_14, eX1_three_17, eX1_three_17N, eX1_three_18, eX1_three_19, eX1_three_19N, eX1_three_20, eX1_three_23, eX1_three_24, eX1_three_25, eX1_three_25N, eX1_three_26, eX1_three_29, eX1_three_30, eX1_three_31, eX1_three_31N, eX1_three_32, eX1_three_35, eX1_three_37, eX1_three_38, eX1_three_41R, eX1_three_41N, eX1_three_44, lgp, lgn, lgz, i10, i00, if_true, if_false, eq_self, not_true, not_false_eq_true, rx, rn, rc, rl, hx, hn, hc, hl, d1, d2, d3, d4, d5, d6, d7, d8, d9, d10, d11, d12, rd_n, upw_n, ite_le, n45, n54, true_or, or_true, false_or, or_false, false_and, and_false, kx_l, kx_r, go_s, gl_s, gi_s, gb_s2, gb_s3, gq_s, wt_nil, wt_int, wt_long, wt_ref, wt_null, nl_int, nl_long, nl_ref, nl_null, nl_none, rf_n, rf_s, rf_st, tl_s, tl_n, g0, gS, ex1, nb_b, nb_0, nb_1, nf_i, nf_l, nf_ra, nf_ro, nf_na, nf_no, nf_b0, nf_z0, t45_4, t45_5, true_and, and_true, List.set_cons_zero, List.set_cons_succ, List.length_cons, List.length_nil, rd_s, upw_s, ne_eq, not_false_eq_true, Nat.zero_add, Nat.add_zero]
    | split
    | with_reducible intro _
    | omega
set_option maxHeartbeats 4000000 in
theorem fX1_four {s : AS} {a0 : Int32} {a1 : Int32} {a2 : Int32} {a3 : Int32} {a4 : Int32} (hC : CS g w0 x nA cA lA kn s w) (hX : ¬ (okC a0 ∧ okN a1 ∧ okN a2 ∧ okN a3 ∧ okN a4) → (Q (.inr "java/lang/IndexOutOfBoundsException") w)) (hT : okC a0 → okN a1 → okN a2 → okN a3 → okN a4 → oP (s.1 a1.toNatClampNeg) (s.1 a2.toNatClampNeg) (s.1 a3.toNatClampNeg) (s.1 a4.toNatClampNeg) → ∀ w', CS g w0 x nA cA lA kn (sMk s a0.toNatClampNeg (s.1 a1.toNatClampNeg, s.1 a2.toNatClampNeg, s.1 a3.toNatClampNeg, s.1 a4.toNatClampNeg)) w' → Q (.inl (some (.int 1))) w') (hF : okC a0 → okN a1 → okN a2 → okN a3 → okN a4 → ¬ oP (s.1 a1.toNatClampNeg) (s.1 a2.toNatClampNeg) (s.1 a3.toNatClampNeg) (s.1 a4.toNatClampNeg) → ∀ w', CS g w0 x nA cA lA kn (sRf s) w' → Q (.inl (some (.int (-9)))) w') : WP (MX1_four g) Q (0, [some (.ref x), some (.int a0), some (.int a1), some (.int a2), some (.int a3), some (.int a4)], [], w, 0, 0) := by
  obtain ⟨gc, gl, ⟨hx, hn, hc, hl, hgc, hgl, hn0, hn1, rx, rn, rc, rl, ⟨d1, d2, d3, d4, d5, d6⟩, ⟨d7, d8, d9, d10, d11, d12⟩⟩, hcd, hpl⟩ := hC.1.opn g
  repeat' first
    | with_reducible assumption
    | with_reducible refine And.intro ?_ ?_
    | with_reducible exact vpi6 (by assumption) (by assumption)
    | with_reducible exact vpi8 (by assumption) (by assumption)
    | with_reducible exact trivial
    | with_reducible exact hX (fun h => absurd h.1 (by assumption))
    | with_reducible exact hX (fun h => absurd h.2.1 (by assumption))
    | with_reducible exact hX (fun h => absurd h.2.2.1 (by assumption))
    | with_reducible exact hX (fun h => absurd h.2.2.2.1 (by assumption))
    | with_reducible exact hX (fun h => absurd h.2.2.2.2 (by assumption))
    | with_reducible refine fX1_needCard (a0 := a0) (fun _ => ?_) (fun k0 => ?_)
    | with_reducible exact vpi6 k0.1 k0.2
    | with_reducible refine fX1_needNumber (a0 := a1) (fun _ => ?_) (fun k1 => ?_)
    | with_reducible exact vpi8 k1.1 k1.2
    | with_reducible refine fX1_needNumber (a0 := a2) (fun _ => ?_) (fun k2 => ?_)
    | with_reducible exact vpi8 k2.1 k2.2
    | with_reducible refine fX1_needNumber (a0 := a3) (fun _ => ?_) (fun k3 => ?_)
    | with_reducible exact vpi8 k3.1 k3.2
    | with_reducible refine fX1_needNumber (a0 := a4) (fun _ => ?_) (fun k4 => ?_)
    | with_reducible exact vpi8 k4.1 k4.2
    | with_reducible refine fX0_ofFour (fun hno => ?_) (fun hyes q hq => ?_)
    | with_reducible refine fX1_giveN hC (fun w1 g1 g2 => ?_)
    | with_reducible exact hF k0 k1 k2 k3 k4 hno w1 g1
    | with_reducible exact go_5 (hC.ext (ext_up2 ext.rf hq))
    | with_reducible refine fX1_giveR (hC.ext (ext_up2 ext.rf hq)) rAt_new k0.1 k0.2 (fun w1 g1 g2 => ?_)
    | with_reducible exact hT k0 k1 k2 k3 k4 hyes w1 g1
    | simp only [eX1_four_0, eX1_four_1, eX1_four_4, eX1_four_5, eX1_four_8, eX1_four_9, eX1_four_12, eX1_four_14, eX1_four_17, eX1_four_19, eX1_four_22, eX1_four_22N, eX1_four_23, eX1_four_24, eX1_four_24N, eX1_four_25, eX1_four_28, eX1_four_29, eX1_four_30, eX1_four_30N, eX1_four_31, eX1_four_34, eX1_four_35, eX1_four_36, eX1_four_36N, eX1_four_37, eX1_four_40, eX1_four_42, eX1_four_43, eX1_four_43N, eX1_four_44, eX1_four_47, eX1_four_49, eX1_four_50, eX1_four_53R, eX1_four_53N, eX1_four_56, lgp, lgn, lgz, i10, i00, if_true, if_false, eq_self, not_true, not_false_eq_true, rx, rn, rc, rl, hx, hn, hc, hl, d1, d2, d3, d4, d5, d6, d7, d8, d9, d10, d11, d12, rd_n, upw_n, ite_le, n45, n54, true_or, or_true, false_or, or_false, false_and, and_false, kx_l, kx_r, go_s, gl_s, gi_s, gb_s2, gb_s3, gq_s, wt_nil, wt_int, wt_long, wt_ref, wt_null, nl_int, nl_long, nl_ref, nl_null, nl_none, rf_n, rf_s, rf_st, tl_s, tl_n, g0, gS, ex1, nb_b, nb_0, nb_1, nf_i, nf_l, nf_ra, nf_ro, nf_na, nf_no, nf_b0, nf_z0, t45_4, t45_5, true_and, and_true, List.set_cons_zero, List.set_cons_succ, List.length_cons, List.length_nil, rd_s, upw_s, ne_eq, not_false_eq_true, Nat.zero_add, Nat.add_zero]
    | split
    | with_reducible intro _
    | omega
set_option maxHeartbeats 4000000 in
theorem fX1_twoSmall {s : AS} {a0 : Int32} {a1 : Int32} {a2 : Int32} (hC : CS g w0 x nA cA lA kn s w) (hX : ¬ (okC a0) → (Q (.inr "java/lang/IndexOutOfBoundsException") w)) (hT : okC a0 → oP (a1.toInt64) (a1.toInt64) (a2.toInt64) (a2.toInt64) → ∀ w', CS g w0 x nA cA lA kn (sMk s a0.toNatClampNeg (a1.toInt64, a1.toInt64, a2.toInt64, a2.toInt64)) w' → Q (.inl (some (.int 1))) w') (hF : okC a0 → ¬ oP (a1.toInt64) (a1.toInt64) (a2.toInt64) (a2.toInt64) → ∀ w', CS g w0 x nA cA lA kn (sRf s) w' → Q (.inl (some (.int (-9)))) w') : WP (MX1_twoSmall g) Q (0, [some (.ref x), some (.int a0), some (.int a1), some (.int a2)], [], w, 0, 0) := by
  obtain ⟨gc, gl, ⟨hx, hn, hc, hl, hgc, hgl, hn0, hn1, rx, rn, rc, rl, ⟨d1, d2, d3, d4, d5, d6⟩, ⟨d7, d8, d9, d10, d11, d12⟩⟩, hcd, hpl⟩ := hC.1.opn g
  repeat' first
    | with_reducible assumption
    | with_reducible refine And.intro ?_ ?_
    | with_reducible exact vpi6 (by assumption) (by assumption)
    | with_reducible exact vpi8 (by assumption) (by assumption)
    | with_reducible exact trivial
    | with_reducible exact hX (fun h => absurd h (by assumption))
    | with_reducible refine fX1_needCard (a0 := a0) (fun _ => ?_) (fun k0 => ?_)
    | with_reducible exact vpi6 k0.1 k0.2
    | with_reducible refine fX0_ofTwo (fun hno => ?_) (fun hyes q hq => ?_)
    | with_reducible refine fX1_giveN hC (fun w1 g1 g2 => ?_)
    | with_reducible exact hF k0 hno w1 g1
    | with_reducible exact go_5 (hC.ext (ext_up2 ext.rf hq))
    | with_reducible refine fX1_giveR (hC.ext (ext_up2 ext.rf hq)) rAt_new k0.1 k0.2 (fun w1 g1 g2 => ?_)
    | with_reducible exact hT k0 hyes w1 g1
    | simp only [eX1_twoSmall_0, eX1_twoSmall_1, eX1_twoSmall_4, eX1_twoSmall_4N, eX1_twoSmall_5, eX1_twoSmall_6, eX1_twoSmall_7, eX1_twoSmall_8, eX1_twoSmall_9, eX1_twoSmall_10, eX1_twoSmall_13R, eX1_twoSmall_13N, eX1_twoSmall_16, lgp, lgn, lgz, i10, i00, if_true, if_false, eq_self, not_true, not_false_eq_true, rx, rn, rc, rl, hx, hn, hc, hl, d1, d2, d3, d4, d5, d6, d7, d8, d9, d10, d11, d12, rd_n, upw_n, ite_le, n45, n54, true_or, or_true, false_or, or_false, false_and, and_false, kx_l, kx_r, go_s, gl_s, gi_s, gb_s2, gb_s3, gq_s, wt_nil, wt_int, wt_long, wt_ref, wt_null, nl_int, nl_long, nl_ref, nl_null, nl_none, rf_n, rf_s, rf_st, tl_s, tl_n, g0, gS, ex1, nb_b, nb_0, nb_1, nf_i, nf_l, nf_ra, nf_ro, nf_na, nf_no, nf_b0, nf_z0, t45_4, t45_5, true_and, and_true, List.set_cons_zero, List.set_cons_succ, List.length_cons, List.length_nil, rd_s, upw_s, ne_eq, not_false_eq_true, Nat.zero_add, Nat.add_zero]
    | split
    | with_reducible intro _
    | omega
set_option maxHeartbeats 4000000 in
theorem fX1_threeSmall {s : AS} {a0 : Int32} {a1 : Int32} {a2 : Int32} {a3 : Int32} (hC : CS g w0 x nA cA lA kn s w) (hX : ¬ (okC a0) → (Q (.inr "java/lang/IndexOutOfBoundsException") w)) (hT : okC a0 → oP (a1.toInt64) (a1.toInt64) (a2.toInt64) (a3.toInt64) → ∀ w', CS g w0 x nA cA lA kn (sMk s a0.toNatClampNeg (a1.toInt64, a1.toInt64, a2.toInt64, a3.toInt64)) w' → Q (.inl (some (.int 1))) w') (hF : okC a0 → ¬ oP (a1.toInt64) (a1.toInt64) (a2.toInt64) (a3.toInt64) → ∀ w', CS g w0 x nA cA lA kn (sRf s) w' → Q (.inl (some (.int (-9)))) w') : WP (MX1_threeSmall g) Q (0, [some (.ref x), some (.int a0), some (.int a1), some (.int a2), some (.int a3)], [], w, 0, 0) := by
  obtain ⟨gc, gl, ⟨hx, hn, hc, hl, hgc, hgl, hn0, hn1, rx, rn, rc, rl, ⟨d1, d2, d3, d4, d5, d6⟩, ⟨d7, d8, d9, d10, d11, d12⟩⟩, hcd, hpl⟩ := hC.1.opn g
  repeat' first
    | with_reducible assumption
    | with_reducible refine And.intro ?_ ?_
    | with_reducible exact vpi6 (by assumption) (by assumption)
    | with_reducible exact vpi8 (by assumption) (by assumption)
    | with_reducible exact trivial
    | with_reducible exact hX (fun h => absurd h (by assumption))
    | with_reducible refine fX1_needCard (a0 := a0) (fun _ => ?_) (fun k0 => ?_)
    | with_reducible exact vpi6 k0.1 k0.2
    | with_reducible refine fX0_ofThree (fun hno => ?_) (fun hyes q hq => ?_)
    | with_reducible refine fX1_giveN hC (fun w1 g1 g2 => ?_)
    | with_reducible exact hF k0 hno w1 g1
    | with_reducible exact go_5 (hC.ext (ext_up2 ext.rf hq))
    | with_reducible refine fX1_giveR (hC.ext (ext_up2 ext.rf hq)) rAt_new k0.1 k0.2 (fun w1 g1 g2 => ?_)
    | with_reducible exact hT k0 hyes w1 g1
    | simp only [eX1_threeSmall_0, eX1_threeSmall_1, eX1_threeSmall_4, eX1_threeSmall_4N, eX1_threeSmall_5, eX1_threeSmall_6, eX1_threeSmall_7, eX1_threeSmall_8, eX1_threeSmall_9, eX1_threeSmall_10, eX1_threeSmall_12, eX1_threeSmall_13, eX1_threeSmall_16R, eX1_threeSmall_16N, eX1_threeSmall_19, lgp, lgn, lgz, i10, i00, if_true, if_false, eq_self, not_true, not_false_eq_true, rx, rn, rc, rl, hx, hn, hc, hl, d1, d2, d3, d4, d5, d6, d7, d8, d9, d10, d11, d12, rd_n, upw_n, ite_le, n45, n54, true_or, or_true, false_or, or_false, false_and, and_false, kx_l, kx_r, go_s, gl_s, gi_s, gb_s2, gb_s3, gq_s, wt_nil, wt_int, wt_long, wt_ref, wt_null, nl_int, nl_long, nl_ref, nl_null, nl_none, rf_n, rf_s, rf_st, tl_s, tl_n, g0, gS, ex1, nb_b, nb_0, nb_1, nf_i, nf_l, nf_ra, nf_ro, nf_na, nf_no, nf_b0, nf_z0, t45_4, t45_5, true_and, and_true, List.set_cons_zero, List.set_cons_succ, List.length_cons, List.length_nil, rd_s, upw_s, ne_eq, not_false_eq_true, Nat.zero_add, Nat.add_zero]
    | split
    | with_reducible intro _
    | omega
set_option maxHeartbeats 4000000 in
theorem fX1_fourSmall {s : AS} {a0 : Int32} {a1 : Int32} {a2 : Int32} {a3 : Int32} {a4 : Int32} (hC : CS g w0 x nA cA lA kn s w) (hX : ¬ (okC a0) → (Q (.inr "java/lang/IndexOutOfBoundsException") w)) (hT : okC a0 → oP (a1.toInt64) (a2.toInt64) (a3.toInt64) (a4.toInt64) → ∀ w', CS g w0 x nA cA lA kn (sMk s a0.toNatClampNeg (a1.toInt64, a2.toInt64, a3.toInt64, a4.toInt64)) w' → Q (.inl (some (.int 1))) w') (hF : okC a0 → ¬ oP (a1.toInt64) (a2.toInt64) (a3.toInt64) (a4.toInt64) → ∀ w', CS g w0 x nA cA lA kn (sRf s) w' → Q (.inl (some (.int (-9)))) w') : WP (MX1_fourSmall g) Q (0, [some (.ref x), some (.int a0), some (.int a1), some (.int a2), some (.int a3), some (.int a4)], [], w, 0, 0) := by
  obtain ⟨gc, gl, ⟨hx, hn, hc, hl, hgc, hgl, hn0, hn1, rx, rn, rc, rl, ⟨d1, d2, d3, d4, d5, d6⟩, ⟨d7, d8, d9, d10, d11, d12⟩⟩, hcd, hpl⟩ := hC.1.opn g
  repeat' first
    | with_reducible assumption
    | with_reducible refine And.intro ?_ ?_
    | with_reducible exact vpi6 (by assumption) (by assumption)
    | with_reducible exact vpi8 (by assumption) (by assumption)
    | with_reducible exact trivial
    | with_reducible exact hX (fun h => absurd h (by assumption))
    | with_reducible refine fX1_needCard (a0 := a0) (fun _ => ?_) (fun k0 => ?_)
    | with_reducible exact vpi6 k0.1 k0.2
    | with_reducible refine fX0_ofFour (fun hno => ?_) (fun hyes q hq => ?_)
    | with_reducible refine fX1_giveN hC (fun w1 g1 g2 => ?_)
    | with_reducible exact hF k0 hno w1 g1
    | with_reducible exact go_5 (hC.ext (ext_up2 ext.rf hq))
    | with_reducible refine fX1_giveR (hC.ext (ext_up2 ext.rf hq)) rAt_new k0.1 k0.2 (fun w1 g1 g2 => ?_)
    | with_reducible exact hT k0 hyes w1 g1
    | simp only [eX1_fourSmall_0, eX1_fourSmall_1, eX1_fourSmall_4, eX1_fourSmall_4N, eX1_fourSmall_5, eX1_fourSmall_6, eX1_fourSmall_7, eX1_fourSmall_8, eX1_fourSmall_9, eX1_fourSmall_10, eX1_fourSmall_12, eX1_fourSmall_13, eX1_fourSmall_15, eX1_fourSmall_16, eX1_fourSmall_19R, eX1_fourSmall_19N, eX1_fourSmall_22, lgp, lgn, lgz, i10, i00, if_true, if_false, eq_self, not_true, not_false_eq_true, rx, rn, rc, rl, hx, hn, hc, hl, d1, d2, d3, d4, d5, d6, d7, d8, d9, d10, d11, d12, rd_n, upw_n, ite_le, n45, n54, true_or, or_true, false_or, or_false, false_and, and_false, kx_l, kx_r, go_s, gl_s, gi_s, gb_s2, gb_s3, gq_s, wt_nil, wt_int, wt_long, wt_ref, wt_null, nl_int, nl_long, nl_ref, nl_null, nl_none, rf_n, rf_s, rf_st, tl_s, tl_n, g0, gS, ex1, nb_b, nb_0, nb_1, nf_i, nf_l, nf_ra, nf_ro, nf_na, nf_no, nf_b0, nf_z0, t45_4, t45_5, true_and, and_true, List.set_cons_zero, List.set_cons_succ, List.length_cons, List.length_nil, rd_s, upw_s, ne_eq, not_false_eq_true, Nat.zero_add, Nat.add_zero]
    | split
    | with_reducible intro _
    | omega
set_option maxHeartbeats 4000000 in
theorem fX1_copyOf {p : Nat} {r : R4} (hp : rAt w p r) (hN : ¬ rOk r → Q (.inl (some .null)) w) (hQ : rOk r → ∀ q, rd g w q = none → Q (.inl (some (.ref q))) (upw w q (.inr (4, [.long r.1, .long r.2.1, .long r.2.2.1, .long r.2.2.2])))) : WP (MX1_copyOf g) Q (0, [some (.ref p)], [], w, 0, 0) := by
  repeat' first
    | with_reducible assumption
    | with_reducible refine And.intro ?_ ?_
    | with_reducible exact vpi6 (by assumption) (by assumption)
    | with_reducible exact vpi8 (by assumption) (by assumption)
    | with_reducible exact trivial
    | with_reducible refine go_F (by assumption) ?_
    | with_reducible refine fX0_ofFour (fun hno => ?_) (fun hyes q hq => ?_)
    | with_reducible exact hN hno
    | with_reducible exact hQ hyes q hq
    | simp only [eX1_copyOf_0, eX1_copyOf_0N, eX1_copyOf_1, eX1_copyOf_4, eX1_copyOf_4N, eX1_copyOf_5, eX1_copyOf_8, eX1_copyOf_8N, eX1_copyOf_9, eX1_copyOf_12, eX1_copyOf_12N, eX1_copyOf_13, eX1_copyOf_16, eX1_copyOf_19, eX1_copyOf_19N, lgp, lgn, lgz, i10, i00, if_true, if_false, eq_self, not_true, not_false_eq_true, ite_le, n45, n54, true_or, or_true, false_or, or_false, false_and, and_false, kx_l, kx_r, go_s, gl_s, gi_s, gb_s2, gb_s3, gq_s, wt_nil, wt_int, wt_long, wt_ref, wt_null, nl_int, nl_long, nl_ref, nl_null, nl_none, rf_n, rf_s, rf_st, tl_s, tl_n, g0, gS, ex1, nb_b, nb_0, nb_1, nf_i, nf_l, nf_ra, nf_ro, nf_na, nf_no, nf_b0, nf_z0, t45_4, t45_5, true_and, and_true, List.set_cons_zero, List.set_cons_succ, List.length_cons, List.length_nil, rd_s, upw_s, ne_eq, not_false_eq_true, Nat.zero_add, Nat.add_zero]
    | split
    | with_reducible intro _
    | omega
set_option maxHeartbeats 4000000 in
theorem fX1_outerOf {p : Nat} {r : R4} (hp : rAt w p r) (hN : ¬ oP r.1 r.1 r.2.2.2 r.2.2.2 → Q (.inl (some .null)) w) (hQ : oP r.1 r.1 r.2.2.2 r.2.2.2 → ∀ q, rd g w q = none → Q (.inl (some (.ref q))) (upw w q (.inr (4, [.long r.1, .long r.1, .long r.2.2.2, .long r.2.2.2])))) : WP (MX1_outerOf g) Q (0, [some (.ref p)], [], w, 0, 0) := by
  repeat' first
    | with_reducible assumption
    | with_reducible refine And.intro ?_ ?_
    | with_reducible exact vpi6 (by assumption) (by assumption)
    | with_reducible exact vpi8 (by assumption) (by assumption)
    | with_reducible exact trivial
    | with_reducible refine go_F (by assumption) ?_
    | with_reducible refine fX0_ofTwo (fun hno => ?_) (fun hyes q hq => ?_)
    | with_reducible exact hN hno
    | with_reducible exact hQ hyes q hq
    | simp only [eX1_outerOf_0, eX1_outerOf_0N, eX1_outerOf_1, eX1_outerOf_4, eX1_outerOf_4N, eX1_outerOf_5, eX1_outerOf_8, eX1_outerOf_11, eX1_outerOf_11N, lgp, lgn, lgz, i10, i00, if_true, if_false, eq_self, not_true, not_false_eq_true, ite_le, n45, n54, true_or, or_true, false_or, or_false, false_and, and_false, kx_l, kx_r, go_s, gl_s, gi_s, gb_s2, gb_s3, gq_s, wt_nil, wt_int, wt_long, wt_ref, wt_null, nl_int, nl_long, nl_ref, nl_null, nl_none, rf_n, rf_s, rf_st, tl_s, tl_n, g0, gS, ex1, nb_b, nb_0, nb_1, nf_i, nf_l, nf_ra, nf_ro, nf_na, nf_no, nf_b0, nf_z0, t45_4, t45_5, true_and, and_true, List.set_cons_zero, List.set_cons_succ, List.length_cons, List.length_nil, rd_s, upw_s, ne_eq, not_false_eq_true, Nat.zero_add, Nat.add_zero]
    | split
    | with_reducible intro _
    | omega
set_option maxHeartbeats 4000000 in
theorem fX1_inner {s : AS} {a0 a1 : Int32} (hC : CS g w0 x nA cA lA kn s w) (hX : ¬ (okC a0 ∧ okC a1) → (Q (.inr "java/lang/IndexOutOfBoundsException") w)) (hS : okC a0 → okC a1 → s.2.1 a1.toNatClampNeg = none → (Q (.inr "java/lang/IllegalStateException") w)) (hT : okC a0 → okC a1 → ∀ r, s.2.1 a1.toNatClampNeg = some r → oP r.2.1 r.2.1 r.2.2.1 r.2.2.1 → ∀ w', CS g w0 x nA cA lA kn (sMk s a0.toNatClampNeg (r.2.1, r.2.1, r.2.2.1, r.2.2.1)) w' → Q (.inl (some (.int 1))) w') (hF : okC a0 → okC a1 → ∀ r, s.2.1 a1.toNatClampNeg = some r → ¬ oP r.2.1 r.2.1 r.2.2.1 r.2.2.1 → ∀ w', CS g w0 x nA cA lA kn (sRf s) w' → Q (.inl (some (.int (-9)))) w') : WP (MX1_inner g) Q (0, [some (.ref x), some (.int a0), some (.int a1), none], [], w, 0, 0) := by
  obtain ⟨gc, gl, ⟨hx, hn, hc, hl, hgc, hgl, hn0, hn1, rx, rn, rc, rl, ⟨d1, d2, d3, d4, d5, d6⟩, ⟨d7, d8, d9, d10, d11, d12⟩⟩, hcd, hpl⟩ := hC.1.opn g
  repeat' first
    | with_reducible assumption
    | with_reducible refine And.intro ?_ ?_
    | with_reducible exact vpi6 (by assumption) (by assumption)
    | with_reducible exact vpi8 (by assumption) (by assumption)
    | with_reducible exact trivial
    | with_reducible exact hX (fun h => absurd h.1 (by assumption))
    | with_reducible exact hX (fun h => absurd h.2 (by assumption))
    | with_reducible refine fX1_needCard (a0 := a0) (fun _ => ?_) (fun k0 => ?_)
    | with_reducible exact vpi6 k0.1 k0.2
    | with_reducible refine fX1_rangeOf hC (fun _ => ?_) (fun k1 e1 => ?_) (fun k1 p r e1 hp => ?_)
    | with_reducible exact hS k0 k1 e1
    | with_reducible refine go_F hp ?_
    | with_reducible exact go_F hp trivial
    | with_reducible refine fX0_ofTwo (fun hno => ?_) (fun hyes q hq => ?_)
    | with_reducible refine fX1_giveN hC (fun w1 g1 g2 => ?_)
    | with_reducible exact hF k0 k1 r e1 hno w1 g1
    | with_reducible exact go_5 (hC.ext (ext_up2 ext.rf hq))
    | with_reducible refine fX1_giveR (hC.ext (ext_up2 ext.rf hq)) rAt_new k0.1 k0.2 (fun w1 g1 g2 => ?_)
    | with_reducible exact hT k0 k1 r e1 hyes w1 g1
    | simp only [eX1_inner_0, eX1_inner_1, eX1_inner_4, eX1_inner_4N, eX1_inner_5, eX1_inner_6, eX1_inner_9, eX1_inner_9N, eX1_inner_10, eX1_inner_10N, eX1_inner_11, eX1_inner_12, eX1_inner_12N, eX1_inner_13, eX1_inner_16, eX1_inner_16N, eX1_inner_17, eX1_inner_20, eX1_inner_23R, eX1_inner_23N, eX1_inner_26, lgp, lgn, lgz, i10, i00, if_true, if_false, eq_self, not_true, not_false_eq_true, rx, rn, rc, rl, hx, hn, hc, hl, d1, d2, d3, d4, d5, d6, d7, d8, d9, d10, d11, d12, rd_n, upw_n, ite_le, n45, n54, true_or, or_true, false_or, or_false, false_and, and_false, kx_l, kx_r, go_s, gl_s, gi_s, gb_s2, gb_s3, gq_s, wt_nil, wt_int, wt_long, wt_ref, wt_null, nl_int, nl_long, nl_ref, nl_null, nl_none, rf_n, rf_s, rf_st, tl_s, tl_n, g0, gS, ex1, nb_b, nb_0, nb_1, nf_i, nf_l, nf_ra, nf_ro, nf_na, nf_no, nf_b0, nf_z0, t45_4, t45_5, true_and, and_true, List.set_cons_zero, List.set_cons_succ, List.length_cons, List.length_nil, rd_s, upw_s, ne_eq, not_false_eq_true, Nat.zero_add, Nat.add_zero]
    | split
    | with_reducible intro _
    | omega
set_option maxHeartbeats 4000000 in
theorem fX1_shift {s : AS} {a0 a1 : Int32} (hC : CS g w0 x nA cA lA kn s w) (hX : ¬ okC a0 → (Q (.inr "java/lang/IndexOutOfBoundsException") w)) (hS : okC a0 → s.2.1 a0.toNatClampNeg = none → (Q (.inr "java/lang/IllegalStateException") w)) (hT : okC a0 → ∀ r, s.2.1 a0.toNatClampNeg = some r → oP (r.1 + a1.toInt64) (r.2.1 + a1.toInt64) (r.2.2.1 + a1.toInt64) (r.2.2.2 + a1.toInt64) → ∀ w', CS g w0 x nA cA lA kn (sMk s a0.toNatClampNeg (r.1 + a1.toInt64, r.2.1 + a1.toInt64, r.2.2.1 + a1.toInt64, r.2.2.2 + a1.toInt64)) w' → Q (.inl (some (.int 1))) w') (hF : okC a0 → ∀ r, s.2.1 a0.toNatClampNeg = some r → ¬ oP (r.1 + a1.toInt64) (r.2.1 + a1.toInt64) (r.2.2.1 + a1.toInt64) (r.2.2.2 + a1.toInt64) → ∀ w', CS g w0 x nA cA lA kn (sRf s) w' → Q (.inl (some (.int (-9)))) w') : WP (MX1_shift g) Q (0, [some (.ref x), some (.int a0), some (.int a1), none], [], w, 0, 0) := by
  obtain ⟨gc, gl, ⟨hx, hn, hc, hl, hgc, hgl, hn0, hn1, rx, rn, rc, rl, ⟨d1, d2, d3, d4, d5, d6⟩, ⟨d7, d8, d9, d10, d11, d12⟩⟩, hcd, hpl⟩ := hC.1.opn g
  repeat' first
    | with_reducible assumption
    | with_reducible refine And.intro ?_ ?_
    | with_reducible exact vpi6 (by assumption) (by assumption)
    | with_reducible exact vpi8 (by assumption) (by assumption)
    | with_reducible exact trivial
    | with_reducible exact hX (by assumption)
    | with_reducible refine fX1_rangeOf hC (fun _ => ?_) (fun k0 e1 => ?_) (fun k0 p r e1 hp => ?_)
    | with_reducible exact hS k0 e1
    | with_reducible refine go_F hp ?_
    | with_reducible exact go_F hp trivial
    | with_reducible refine fX0_ofFour (fun hno => ?_) (fun hyes q hq => ?_)
    | with_reducible refine fX1_giveN hC (fun w1 g1 g2 => ?_)
    | with_reducible exact hF k0 r e1 hno w1 g1
    | with_reducible exact go_5 (hC.ext (ext_up2 ext.rf hq))
    | with_reducible refine fX1_giveR (hC.ext (ext_up2 ext.rf hq)) rAt_new k0.1 k0.2 (fun w1 g1 g2 => ?_)
    | with_reducible exact hT k0 r e1 hyes w1 g1
    | simp only [eX1_shift_0, eX1_shift_0N, eX1_shift_1, eX1_shift_2, eX1_shift_5, eX1_shift_5N, eX1_shift_6, eX1_shift_6N, eX1_shift_7, eX1_shift_8, eX1_shift_8N, eX1_shift_9, eX1_shift_12, eX1_shift_13, eX1_shift_14, eX1_shift_15, eX1_shift_15N, eX1_shift_16, eX1_shift_19, eX1_shift_20, eX1_shift_21, eX1_shift_22, eX1_shift_22N, eX1_shift_23, eX1_shift_26, eX1_shift_27, eX1_shift_28, eX1_shift_29, eX1_shift_29N, eX1_shift_30, eX1_shift_33, eX1_shift_34, eX1_shift_35, eX1_shift_36, eX1_shift_39R, eX1_shift_39N, eX1_shift_42, lgp, lgn, lgz, i10, i00, if_true, if_false, eq_self, not_true, not_false_eq_true, rx, rn, rc, rl, hx, hn, hc, hl, d1, d2, d3, d4, d5, d6, d7, d8, d9, d10, d11, d12, rd_n, upw_n, ite_le, n45, n54, true_or, or_true, false_or, or_false, false_and, and_false, kx_l, kx_r, go_s, gl_s, gi_s, gb_s2, gb_s3, gq_s, wt_nil, wt_int, wt_long, wt_ref, wt_null, nl_int, nl_long, nl_ref, nl_null, nl_none, rf_n, rf_s, rf_st, tl_s, tl_n, g0, gS, ex1, nb_b, nb_0, nb_1, nf_i, nf_l, nf_ra, nf_ro, nf_na, nf_no, nf_b0, nf_z0, t45_4, t45_5, true_and, and_true, List.set_cons_zero, List.set_cons_succ, List.length_cons, List.length_nil, rd_s, upw_s, ne_eq, not_false_eq_true, Nat.zero_add, Nat.add_zero]
    | split
    | with_reducible intro _
    | omega
set_option maxHeartbeats 4000000 in
theorem fX1_span {s : AS} {a0 a1 a2 : Int32} (hC : CS g w0 x nA cA lA kn s w) (hX : ¬ (okC a0 ∧ okC a1 ∧ okC a2) → (Q (.inr "java/lang/IndexOutOfBoundsException") w)) (hS : okC a0 → okC a1 → okC a2 → (s.2.1 a1.toNatClampNeg = none ∨ s.2.1 a2.toNatClampNeg = none) → (Q (.inr "java/lang/IllegalStateException") w)) (hT : okC a0 → okC a1 → okC a2 → ∀ r q, s.2.1 a1.toNatClampNeg = some r → s.2.1 a2.toNatClampNeg = some q → oP r.1 r.2.1 q.2.2.1 q.2.2.2 → ∀ w', CS g w0 x nA cA lA kn (sMk s a0.toNatClampNeg (r.1, r.2.1, q.2.2.1, q.2.2.2)) w' → Q (.inl (some (.int 1))) w') (hF : okC a0 → okC a1 → okC a2 → ∀ r q, s.2.1 a1.toNatClampNeg = some r → s.2.1 a2.toNatClampNeg = some q → ¬ oP r.1 r.2.1 q.2.2.1 q.2.2.2 → ∀ w', CS g w0 x nA cA lA kn (sRf s) w' → Q (.inl (some (.int (-9)))) w') : WP (MX1_span g) Q (0, [some (.ref x), some (.int a0), some (.int a1), some (.int a2), none, none], [], w, 0, 0) := by
  obtain ⟨gc, gl, ⟨hx, hn, hc, hl, hgc, hgl, hn0, hn1, rx, rn, rc, rl, ⟨d1, d2, d3, d4, d5, d6⟩, ⟨d7, d8, d9, d10, d11, d12⟩⟩, hcd, hpl⟩ := hC.1.opn g
  repeat' first
    | with_reducible assumption
    | with_reducible refine And.intro ?_ ?_
    | with_reducible exact vpi6 (by assumption) (by assumption)
    | with_reducible exact vpi8 (by assumption) (by assumption)
    | with_reducible exact trivial
    | with_reducible exact hX (fun h => absurd h.1 (by assumption))
    | with_reducible exact hX (fun h => absurd h.2.1 (by assumption))
    | with_reducible exact hX (fun h => absurd h.2.2 (by assumption))
    | with_reducible refine fX1_needCard (a0 := a0) (fun _ => ?_) (fun k0 => ?_)
    | with_reducible exact vpi6 k0.1 k0.2
    | with_reducible refine fX1_needCard (a0 := a1) (fun _ => ?_) (fun k1 => ?_)
    | with_reducible exact vpi6 k1.1 k1.2
    | with_reducible refine fX1_needCard (a0 := a2) (fun _ => ?_) (fun k2 => ?_)
    | with_reducible exact vpi6 k2.1 k2.2
    | with_reducible refine fX1_rangeOf (a0 := a1) hC (fun _ => ?_) (fun _ e1 => ?_) (fun _ p r e1 hp => ?_)
    | with_reducible refine fX1_rangeOf (a0 := a2) hC (fun _ => ?_) (fun _ e2 => ?_) (fun _ p2 r2 e2 hp2 => ?_)
    | with_reducible exact hS k0 k1 k2 (Or.inl e1)
    | with_reducible exact hS k0 k1 k2 (Or.inr e2)
    | with_reducible refine go_F hp ?_
    | with_reducible exact go_F hp trivial
    | with_reducible refine go_F hp2 ?_
    | with_reducible exact go_F hp2 trivial
    | with_reducible refine fX0_ofFour (fun hno => ?_) (fun hyes q hq => ?_)
    | with_reducible refine fX1_giveN hC (fun w1 g1 g2 => ?_)
    | with_reducible exact hF k0 k1 k2 r r2 e1 e2 hno w1 g1
    | with_reducible exact go_5 (hC.ext (ext_up2 ext.rf hq))
    | with_reducible refine fX1_giveR (hC.ext (ext_up2 ext.rf hq)) rAt_new k0.1 k0.2 (fun w1 g1 g2 => ?_)
    | with_reducible exact hT k0 k1 k2 r r2 e1 e2 hyes w1 g1
    | simp only [eX1_span_0, eX1_span_1, eX1_span_4, eX1_span_5, eX1_span_8, eX1_span_9, eX1_span_12, eX1_span_12N, eX1_span_13, eX1_span_14, eX1_span_17, eX1_span_17N, eX1_span_19, eX1_span_19N, eX1_span_20, eX1_span_21, eX1_span_24, eX1_span_24N, eX1_span_26, eX1_span_26N, eX1_span_27, eX1_span_28, eX1_span_28N, eX1_span_30, eX1_span_33, eX1_span_33N, eX1_span_35, eX1_span_38, eX1_span_38N, eX1_span_40, eX1_span_43, eX1_span_43N, eX1_span_45, eX1_span_48, eX1_span_51R, eX1_span_51N, eX1_span_54, lgp, lgn, lgz, i10, i00, if_true, if_false, eq_self, not_true, not_false_eq_true, rx, rn, rc, rl, hx, hn, hc, hl, d1, d2, d3, d4, d5, d6, d7, d8, d9, d10, d11, d12, rd_n, upw_n, ite_le, n45, n54, true_or, or_true, false_or, or_false, false_and, and_false, kx_l, kx_r, go_s, gl_s, gi_s, gb_s2, gb_s3, gq_s, wt_nil, wt_int, wt_long, wt_ref, wt_null, nl_int, nl_long, nl_ref, nl_null, nl_none, rf_n, rf_s, rf_st, tl_s, tl_n, g0, gS, ex1, nb_b, nb_0, nb_1, nf_i, nf_l, nf_ra, nf_ro, nf_na, nf_no, nf_b0, nf_z0, t45_4, t45_5, true_and, and_true, List.set_cons_zero, List.set_cons_succ, List.length_cons, List.length_nil, rd_s, upw_s, ne_eq, not_false_eq_true, Nat.zero_add, Nat.add_zero]
    | split
    | with_reducible intro _
    | omega
end
end
/-! 71.fn5.lean.txt -/
section
section
variable {g : RO} {Q : Ot → Hw → Prop} {w0 w : Hw} {x nA cA lA : Nat} {kn : Int32}
/-! FUNCTIONAL SPECS, 5: loops -/
def fsum (f : Nat → Int32) : Nat → Int32
  | 0 => 0
  | n + 1 => fsum f n + f n
theorem bI01 (b : Bool) : bI b = 0 ∨ bI b = 1 := by cases b <;> first | exact Or.inl rfl | exact Or.inr rfl
theorem oN1 {j : Nat} : Int32.ofNat j + 1 = Int32.ofNat (j + 1) := (nI_succ j).symm
theorem oNt {j : Nat} (h : j < 1000) : (Int32.ofNat j).toInt = (j : Int) := nI_toInt (by omega)
theorem oNc {j : Nat} (h : j < 1000) : (Int32.ofNat j).toNatClampNeg = j := nI_clamp (by omega)
theorem oN0 {j : Nat} (h : j < 1000) : ¬ Int32.ofNat j < 0 := i32_of_nlt (by
  rw [oNt h]
  show (0 : Int) ≤ (j : Int)
  omega)
theorem oNl {j : Nat} {b : Int32} {B : Nat} (h : j < 1000) (e : b.toInt = (B : Int)) (k : j < B) : Int32.ofNat j < b := i32_of_lt (by rw [oNt h, e]; omega)
theorem oNg {j : Nat} {b : Int32} {B : Nat} (h : j < 1000) (e : b.toInt = (B : Int)) (k : B ≤ j) : ¬ Int32.ofNat j < b := i32_of_nlt (by rw [oNt h, e]; omega)
theorem vX0_holds {p : Nat} {r : R4} {a0 : Int64} (hp : rAt w p r) (hQ : Q (.inl (some (.int (bI (decide (hP r a0)))))) w) : WP (MX0_holds g) Q (0, [some (.ref p), some (.long a0), none], [], w, 0, 0) := fX0_holds hp (fun h => by rw [decide_eq_true h] at hQ; exact hQ) (fun h => by rw [decide_eq_false h] at hQ; exact hQ)
theorem vX0_holdsAsSmall {p : Nat} {r : R4} {a0 : Int64} (hp : rAt w p r) (hQ : Q (.inl (some (.int (bI (decide (sP r ∧ hP r a0)))))) w) : WP (MX0_holdsAsSmall g) Q (0, [some (.ref p), some (.long a0), none], [], w, 0, 0) := fX0_holdsAsSmall hp (fun h => by rw [decide_eq_true h] at hQ; exact hQ) (fun h => by rw [decide_eq_false h] at hQ; exact hQ)
theorem vX0_holdsAs {p : Nat} {r : R4} {a0 : Int64} {a1 : Int32} (hp : rAt w p r) (hQ : Q (.inl (some (.int (bI (decide ((a1 = 0 ∨ sP r) ∧ hP r a0)))))) w) : WP (MX0_holdsAs g) Q (0, [some (.ref p), some (.long a0), none, some (.int a1)], [], w, 0, 0) := fX0_holdsAs hp (fun h => by rw [decide_eq_true h] at hQ; exact hQ) (fun h => by rw [decide_eq_false h] at hQ; exact hQ)
theorem vX1_isSmallNumber {a0 : Int64} (hQ : Q (.inl (some (.int (bI (decide (-2147483648 ≤ a0.toInt ∧ a0.toInt ≤ 2147483647)))))) w) : WP (MX1_isSmallNumber g) Q (0, [some (.long a0), none], [], w, 0, 0) := fX1_isSmallNumber (fun h => by rw [decide_eq_true h] at hQ; exact hQ) (fun h => by rw [decide_eq_false h] at hQ; exact hQ)
/-- how many ends are small numbers -/
def seV (r : R4) : Int32 := fsum (fun j => bI (decide (-2147483648 ≤ (eV r (Int32.ofNat j)).toInt ∧ (eV r (Int32.ofNat j)).toInt ≤ 2147483647))) 4
set_option maxHeartbeats 4000000 in
theorem flX1_smallEnds_4 {p : Nat} {r : R4} (hp : rAt w p r) (hQ : Q (.inl (some (.int (seV r)))) w) : ∀ (d j : Nat)  (k m : Nat), j + d = 4 → k ≤ 0 → m ≤ 0 → WP (MX1_smallEnds g) Q (4, [some (.ref p), some (.int (fsum (fun j => bI (decide (-2147483648 ≤ (eV r (Int32.ofNat j)).toInt ∧ (eV r (Int32.ofNat j)).toInt ≤ 2147483647))) j)), some (.int (Int32.ofNat j))], [], w, k, m) := by
  intro d
  induction d with
  | zero =>
    intro j  k m hjd hk hm
    have h9 : j < 1000 := (by omega)
    have hlt : ¬ Int32.ofNat j < 4 := oNg (B := 4) h9 rfl (by omega)
    have hnn := oN0 h9
    have hcl := oNc h9
    obtain rfl : j = 4 := by omega
    rw [eX1_smallEnds_4]
    repeat' first
      | with_reducible assumption
      | with_reducible refine And.intro ?_ ?_
      | with_reducible exact vpi6 (by assumption) (by assumption)
      | with_reducible exact vpi8 (by assumption) (by assumption)
      | with_reducible exact trivial
      | with_reducible exact go_F hp trivial
      | with_reducible refine fX0_endAt hp ?_
      | with_reducible refine vX1_isSmallNumber ?_
      | with_reducible refine fX1_asNumber (bI01 _) ?_
      | ((with_reducible refine isQ (Q := Q) ?_); exact hQ)
      | simp only [eX1_smallEnds_0, eX1_smallEnds_1, eX1_smallEnds_2, eX1_smallEnds_3, eX1_smallEnds_5, eX1_smallEnds_6, eX1_smallEnds_9, eX1_smallEnds_10, eX1_smallEnds_10N, eX1_smallEnds_11, eX1_smallEnds_12, eX1_smallEnds_15, eX1_smallEnds_18, eX1_smallEnds_21, eX1_smallEnds_22, eX1_smallEnds_23, eX1_smallEnds_26, eX1_smallEnds_29, eX1_smallEnds_30, lgp, lgn, lgz, i10, i00, if_true, if_false, eq_self, not_true, not_false_eq_true, hlt, hcl, ite_le, n45, n54, true_or, or_true, false_or, or_false, false_and, and_false, kx_l, kx_r, go_s, gl_s, gi_s, gb_s2, gb_s3, gq_s, wt_nil, wt_int, wt_long, wt_ref, wt_null, nl_int, nl_long, nl_ref, nl_null, nl_none, rf_n, rf_s, rf_st, tl_s, tl_n, g0, gS, ex1, nb_b, nb_0, nb_1, nf_i, nf_l, nf_ra, nf_ro, nf_na, nf_no, nf_b0, nf_z0, t45_4, t45_5, true_and, and_true, List.set_cons_zero, List.set_cons_succ, List.length_cons, List.length_nil, rd_s, upw_s, ne_eq, not_false_eq_true, Nat.zero_add, Nat.add_zero]
      | split
      | with_reducible intro _
      | omega
  | succ d ih =>
    intro j  k m hjd hk hm
    have h9 : j < 1000 := (by omega)
    have hlt : Int32.ofNat j < 4 := oNl (B := 4) h9 rfl (by omega)
    have hnn := oN0 h9
    have hcl := oNc h9
    rw [eX1_smallEnds_4]
    repeat' first
      | with_reducible assumption
      | with_reducible refine And.intro ?_ ?_
      | with_reducible exact vpi6 (by assumption) (by assumption)
      | with_reducible exact vpi8 (by assumption) (by assumption)
      | with_reducible exact trivial
      | (rw [oN1]; exact ih (j + 1)  _ _ (by omega) (by first | assumption | omega) (by first | assumption | omega))
      | with_reducible exact go_F hp trivial
      | with_reducible refine fX0_endAt hp ?_
      | with_reducible refine vX1_isSmallNumber ?_
      | with_reducible refine fX1_asNumber (bI01 _) ?_
      | ((with_reducible refine isQ (Q := Q) ?_); exact hQ)
      | simp only [eX1_smallEnds_0, eX1_smallEnds_1, eX1_smallEnds_2, eX1_smallEnds_3, eX1_smallEnds_5, eX1_smallEnds_6, eX1_smallEnds_9, eX1_smallEnds_10, eX1_smallEnds_10N, eX1_smallEnds_11, eX1_smallEnds_12, eX1_smallEnds_15, eX1_smallEnds_18, eX1_smallEnds_21, eX1_smallEnds_22, eX1_smallEnds_23, eX1_smallEnds_26, eX1_smallEnds_29, eX1_smallEnds_30, lgp, lgn, lgz, i10, i00, if_true, if_false, eq_self, not_true, not_false_eq_true, hlt, hcl, ite_le, n45, n54, true_or, or_true, false_or, or_false, false_and, and_false, kx_l, kx_r, go_s, gl_s, gi_s, gb_s2, gb_s3, gq_s, wt_nil, wt_int, wt_long, wt_ref, wt_null, nl_int, nl_long, nl_ref, nl_null, nl_none, rf_n, rf_s, rf_st, tl_s, tl_n, g0, gS, ex1, nb_b, nb_0, nb_1, nf_i, nf_l, nf_ra, nf_ro, nf_na, nf_no, nf_b0, nf_z0, t45_4, t45_5, true_and, and_true, List.set_cons_zero, List.set_cons_succ, List.length_cons, List.length_nil, rd_s, upw_s, ne_eq, not_false_eq_true, Nat.zero_add, Nat.add_zero]
      | split
      | with_reducible intro _
      | omega
set_option maxHeartbeats 4000000 in
theorem fX1_smallEnds {p : Nat} {r : R4} (hp : rAt w p r) (hQ : Q (.inl (some (.int (seV r)))) w) : WP (MX1_smallEnds g) Q (0, [some (.ref p), none, none], [], w, 0, 0) := by
  repeat' first
    | with_reducible assumption
    | with_reducible refine And.intro ?_ ?_
    | with_reducible exact vpi6 (by assumption) (by assumption)
    | with_reducible exact vpi8 (by assumption) (by assumption)
    | with_reducible exact trivial
    | ((with_reducible refine isWP (pc := 4) ?_); exact flX1_smallEnds_4 hp hQ 4 0 _ _ rfl (by decide) (by decide))
    | simp only [eX1_smallEnds_0, eX1_smallEnds_1, eX1_smallEnds_2, eX1_smallEnds_3, eX1_smallEnds_5, eX1_smallEnds_6, eX1_smallEnds_9, eX1_smallEnds_10, eX1_smallEnds_10N, eX1_smallEnds_11, eX1_smallEnds_12, eX1_smallEnds_15, eX1_smallEnds_18, eX1_smallEnds_21, eX1_smallEnds_22, eX1_smallEnds_23, eX1_smallEnds_26, eX1_smallEnds_29, eX1_smallEnds_30, lgp, lgn, lgz, i10, i00, if_true, if_false, eq_self, not_true, not_false_eq_true, ite_le, n45, n54, true_or, or_true, false_or, or_false, false_and, and_false, kx_l, kx_r, go_s, gl_s, gi_s, gb_s2, gb_s3, gq_s, wt_nil, wt_int, wt_long, wt_ref, wt_null, nl_int, nl_long, nl_ref, nl_null, nl_none, rf_n, rf_s, rf_st, tl_s, tl_n, g0, gS, ex1, nb_b, nb_0, nb_1, nf_i, nf_l, nf_ra, nf_ro, nf_na, nf_no, nf_b0, nf_z0, t45_4, t45_5, true_and, and_true, List.set_cons_zero, List.set_cons_succ, List.length_cons, List.length_nil, rd_s, upw_s, ne_eq, not_false_eq_true, Nat.zero_add, Nat.add_zero]
    | split
    | with_reducible intro _
    | omega
end
end
/-! 71.fn6.lean.txt -/
section
section
variable {g : RO} {Q : Ot → Hw → Prop} {w0 w : Hw} {x nA cA lA : Nat} {kn : Int32}
/-! FUNCTIONAL SPECS, 6: cards, given and asked -/
theorem sOk.c {s : AS} {a : Int32} {r : R4} (h : sOk s) (k : okC a) (e : s.2.1 a.toNatClampNeg = some r) : rOk r := h.1 _ _ (c6 k) e
theorem oOut {r : R4} (h : rOk r) : oP r.1 r.1 r.2.2.2 r.2.2.2 := by
  obtain ⟨h1, h2, h3, h4⟩ := h
  exact ⟨Int.le_refl _, Int.le_refl _, by omega, by omega⟩
theorem mOut {r : R4} (h : mP r (r.1, r.1, r.2.2.2, r.2.2.2)) : fP r := ⟨h.2.1.symm, h.2.2.1⟩
theorem mOutN {r : R4} (h : ¬ mP r (r.1, r.1, r.2.2.2, r.2.2.2)) : ¬ fP r := fun k => h ⟨rfl, k.1.symm, k.2, rfl⟩
set_option maxHeartbeats 4000000 in
theorem fX1_again {s : AS} {a0 a1 : Int32} (hC : CS g w0 x nA cA lA kn s w) (ho : sOk s) (hX : ¬ (okC a0 ∧ okC a1) → (Q (.inr "java/lang/IndexOutOfBoundsException") w)) (hS : okC a0 → okC a1 → s.2.1 a1.toNatClampNeg = none → (Q (.inr "java/lang/IllegalStateException") w)) (hQ : okC a0 → okC a1 → ∀ r, s.2.1 a1.toNatClampNeg = some r → ∀ w', CS g w0 x nA cA lA kn (sMk s a0.toNatClampNeg r) w' → Q (.inl (some (.int (seV r)))) w') : WP (MX1_again g) Q (0, [some (.ref x), some (.int a0), some (.int a1), none], [], w, 0, 0) := by
  obtain ⟨gc, gl, ⟨hx, hn, hc, hl, hgc, hgl, hn0, hn1, rx, rn, rc, rl, ⟨d1, d2, d3, d4, d5, d6⟩, ⟨d7, d8, d9, d10, d11, d12⟩⟩, hcd, hpl⟩ := hC.1.opn g
  repeat' first
    | with_reducible assumption
    | with_reducible refine And.intro ?_ ?_
    | with_reducible exact vpi6 (by assumption) (by assumption)
    | with_reducible exact vpi8 (by assumption) (by assumption)
    | with_reducible exact trivial
    | with_reducible exact hX (fun h => absurd h.1 (by assumption))
    | with_reducible exact hX (fun h => absurd h.2 (by assumption))
    | with_reducible refine fX1_needCard (a0 := a0) (fun _ => ?_) (fun k0 => ?_)
    | with_reducible exact vpi6 k0.1 k0.2
    | with_reducible refine fX1_rangeOf (a0 := a1) hC (fun _ => ?_) (fun k1 e1 => ?_) (fun k1 p r e1 hp => ?_)
    | with_reducible refine go_F hp ?_
    | with_reducible exact go_F hp trivial
    | with_reducible exact hS k0 k1 e1
    | with_reducible refine fX1_copyOf hp (fun hno => ?_) (fun hyes q hq => ?_)
    | with_reducible exact absurd (ho.c k1 e1) hno
    | with_reducible exact go_5 (hC.ext (ext_up2 ext.rf hq))
    | with_reducible refine fX1_giveR (hC.ext (ext_up2 ext.rf hq)) rAt_new k0.1 k0.2 (fun w1 g1 g2 => ?_)
    | with_reducible refine fX1_smallEnds (g2 _ _ (hp.ext (ext_up2 ext.rf hq))) ?_
    | ((with_reducible refine isQ (Q := Q) ?_); exact hQ k0 k1 r e1 w1 g1)
    | simp only [eX1_again_0, eX1_again_1, eX1_again_4, eX1_again_4N, eX1_again_5, eX1_again_6, eX1_again_9, eX1_again_9N, eX1_again_10, eX1_again_10N, eX1_again_11, eX1_again_12, eX1_again_12N, eX1_again_13R, eX1_again_13N, eX1_again_16R, eX1_again_16N, eX1_again_19, eX1_again_19R, eX1_again_19N, eX1_again_20, eX1_again_20N, eX1_again_21R, eX1_again_21N, eX1_again_24, lgp, lgn, lgz, i10, i00, if_true, if_false, eq_self, not_true, not_false_eq_true, rx, rn, rc, rl, hx, hn, hc, hl, d1, d2, d3, d4, d5, d6, d7, d8, d9, d10, d11, d12, rd_n, upw_n, ite_le, n45, n54, true_or, or_true, false_or, or_false, false_and, and_false, kx_l, kx_r, go_s, gl_s, gi_s, gb_s2, gb_s3, gq_s, wt_nil, wt_int, wt_long, wt_ref, wt_null, nl_int, nl_long, nl_ref, nl_null, nl_none, rf_n, rf_s, rf_st, tl_s, tl_n, g0, gS, ex1, nb_b, nb_0, nb_1, nf_i, nf_l, nf_ra, nf_ro, nf_na, nf_no, nf_b0, nf_z0, t45_4, t45_5, true_and, and_true, List.set_cons_zero, List.set_cons_succ, List.length_cons, List.length_nil, rd_s, upw_s, ne_eq, not_false_eq_true, Nat.zero_add, Nat.add_zero]
    | split
    | with_reducible intro _
    | omega
set_option maxHeartbeats 4000000 in
theorem fX1_outer {s : AS} {a0 a1 : Int32} (hC : CS g w0 x nA cA lA kn s w) (ho : sOk s) (hX : ¬ (okC a0 ∧ okC a1) → (Q (.inr "java/lang/IndexOutOfBoundsException") w)) (hS : okC a0 → okC a1 → s.2.1 a1.toNatClampNeg = none → (Q (.inr "java/lang/IllegalStateException") w)) (hT : okC a0 → okC a1 → ∀ r, s.2.1 a1.toNatClampNeg = some r → fP r → ∀ w', CS g w0 x nA cA lA kn (sMk s a0.toNatClampNeg (r.1, r.1, r.2.2.2, r.2.2.2)) w' → Q (.inl (some (.int 1))) w') (hF : okC a0 → okC a1 → ∀ r, s.2.1 a1.toNatClampNeg = some r → ¬ fP r → ∀ w', CS g w0 x nA cA lA kn (sMk s a0.toNatClampNeg (r.1, r.1, r.2.2.2, r.2.2.2)) w' → Q (.inl (some (.int 0))) w') : WP (MX1_outer g) Q (0, [some (.ref x), some (.int a0), some (.int a1), none, none], [], w, 0, 0) := by
  obtain ⟨gc, gl, ⟨hx, hn, hc, hl, hgc, hgl, hn0, hn1, rx, rn, rc, rl, ⟨d1, d2, d3, d4, d5, d6⟩, ⟨d7, d8, d9, d10, d11, d12⟩⟩, hcd, hpl⟩ := hC.1.opn g
  repeat' first
    | with_reducible assumption
    | with_reducible refine And.intro ?_ ?_
    | with_reducible exact vpi6 (by assumption) (by assumption)
    | with_reducible exact vpi8 (by assumption) (by assumption)
    | with_reducible exact trivial
    | with_reducible exact hX (fun h => absurd h.1 (by assumption))
    | with_reducible exact hX (fun h => absurd h.2 (by assumption))
    | with_reducible refine fX1_needCard (a0 := a0) (fun _ => ?_) (fun k0 => ?_)
    | with_reducible exact vpi6 k0.1 k0.2
    | with_reducible refine fX1_rangeOf (a0 := a1) hC (fun _ => ?_) (fun k1 e1 => ?_) (fun k1 p r e1 hp => ?_)
    | with_reducible refine go_F hp ?_
    | with_reducible exact go_F hp trivial
    | with_reducible exact hS k0 k1 e1
    | with_reducible refine fX1_outerOf hp (fun hno => ?_) (fun hyes q hq => ?_)
    | with_reducible exact absurd (oOut (ho.c k1 e1)) hno
    | with_reducible exact go_5 (hC.ext (ext_up2 ext.rf hq))
    | with_reducible refine fX1_giveR (hC.ext (ext_up2 ext.rf hq)) rAt_new k0.1 k0.2 (fun w1 g1 g2 => ?_)
    | with_reducible exact go_F (g2 _ _ (hp.ext (ext_up2 ext.rf hq))) trivial
    | with_reducible refine fX0_matchesR (g2 _ _ (hp.ext (ext_up2 ext.rf hq))) (g2 _ _ rAt_new) (fun hm => ?_) (fun hm => ?_)
    | with_reducible exact hT k0 k1 r e1 (mOut hm) w1 g1
    | with_reducible exact hF k0 k1 r e1 (mOutN hm) w1 g1
    | simp only [eX1_outer_0, eX1_outer_1, eX1_outer_4, eX1_outer_4N, eX1_outer_5, eX1_outer_6, eX1_outer_9, eX1_outer_9N, eX1_outer_10, eX1_outer_10N, eX1_outer_11R, eX1_outer_11N, eX1_outer_14, eX1_outer_14N, eX1_outer_16, eX1_outer_16N, eX1_outer_17, eX1_outer_18, eX1_outer_18N, eX1_outer_20R, eX1_outer_20N, eX1_outer_23, eX1_outer_23R, eX1_outer_23N, eX1_outer_24, eX1_outer_24N, eX1_outer_25, eX1_outer_25N, eX1_outer_27R, eX1_outer_27N, eX1_outer_30, eX1_outer_33, eX1_outer_34, eX1_outer_37, eX1_outer_38, lgp, lgn, lgz, i10, i00, if_true, if_false, eq_self, not_true, not_false_eq_true, rx, rn, rc, rl, hx, hn, hc, hl, d1, d2, d3, d4, d5, d6, d7, d8, d9, d10, d11, d12, rd_n, upw_n, ite_le, n45, n54, true_or, or_true, false_or, or_false, false_and, and_false, kx_l, kx_r, go_s, gl_s, gi_s, gb_s2, gb_s3, gq_s, wt_nil, wt_int, wt_long, wt_ref, wt_null, nl_int, nl_long, nl_ref, nl_null, nl_none, rf_n, rf_s, rf_st, tl_s, tl_n, g0, gS, ex1, nb_b, nb_0, nb_1, nf_i, nf_l, nf_ra, nf_ro, nf_na, nf_no, nf_b0, nf_z0, t45_4, t45_5, true_and, and_true, List.set_cons_zero, List.set_cons_succ, List.length_cons, List.length_nil, rd_s, upw_s, ne_eq, not_false_eq_true, Nat.zero_add, Nat.add_zero]
    | split
    | with_reducible intro _
    | omega
set_option maxHeartbeats 4000000 in
theorem fX1_same {s : AS} {a0 a1 : Int32} (hC : CS g w0 x nA cA lA kn s w) (hX : ¬ (okC a0 ∧ okC a1) → (Q (.inr "java/lang/IndexOutOfBoundsException") w)) (hS : okC a0 → okC a1 → s.2.1 a1.toNatClampNeg = none → (Q (.inr "java/lang/IllegalStateException") w)) (hN : okC a0 → okC a1 → ∀ r, s.2.1 a1.toNatClampNeg = some r → s.2.1 a0.toNatClampNeg = none → ∀ w', CS g w0 x nA cA lA kn (sC s (va_up s.2.1 a0.toNatClampNeg (some r))) w' → Q (.inl (some (.int (-1)))) w') (hT : okC a0 → okC a1 → ∀ r, s.2.1 a1.toNatClampNeg = some r → ∀ q, s.2.1 a0.toNatClampNeg = some q → mP q r → ∀ w', CS g w0 x nA cA lA kn (sC s (va_up s.2.1 a0.toNatClampNeg (some r))) w' → Q (.inl (some (.int 1))) w') (hF : okC a0 → okC a1 → ∀ r, s.2.1 a1.toNatClampNeg = some r → ∀ q, s.2.1 a0.toNatClampNeg = some q → ¬ mP q r → ∀ w', CS g w0 x nA cA lA kn (sC s (va_up s.2.1 a0.toNatClampNeg (some r))) w' → Q (.inl (some (.int 0))) w') : WP (MX1_same g) Q (0, [some (.ref x), some (.int a0), some (.int a1), none, none], [], w, 0, 0) := by
  obtain ⟨gc, gl, ⟨hx, hn, hc, hl, hgc, hgl, hn0, hn1, rx, rn, rc, rl, ⟨d1, d2, d3, d4, d5, d6⟩, ⟨d7, d8, d9, d10, d11, d12⟩⟩, hcd, hpl⟩ := hC.1.opn g
  repeat' first
    | with_reducible assumption
    | with_reducible refine And.intro ?_ ?_
    | with_reducible exact vpi6 (by assumption) (by assumption)
    | with_reducible exact vpi8 (by assumption) (by assumption)
    | with_reducible exact trivial
    | with_reducible exact hX (fun h => absurd h.1 (by assumption))
    | with_reducible exact hX (fun h => absurd h.2 (by assumption))
    | with_reducible refine fX1_needCard (a0 := a0) (fun _ => ?_) (fun k0 => ?_)
    | with_reducible exact vpi6 k0.1 k0.2
    | with_reducible refine fX1_rangeOf (a0 := a1) hC (fun _ => ?_) (fun k1 e1 => ?_) (fun k1 p r e1 hp => ?_)
    | with_reducible refine go_F hp ?_
    | with_reducible exact go_F hp trivial
    | with_reducible exact hS k0 k1 e1
    | with_reducible refine Or.inl ?_
    | with_reducible exact go_Fw hp trivial
    | ((with_reducible refine isQ (Q := Q) ?_); exact hN k0 k1 r e1 (cdN hcd k0 (by assumption)) _ (hC.card gc hc a0.toNatClampNeg (some p) (some r) hp))
    | (obtain ⟨q0, e0, hq0⟩ := cdS hcd k0 (by assumption); with_reducible refine fX0_matchesR (rAt_up2 hq0 hc (by simp)) (rAt_up2 hp hc (by simp)) (fun hm => ?_) (fun hm => ?_))
    | (obtain ⟨q0, e0, hq0⟩ := cdS hcd k0 (by assumption); with_reducible exact go_F (rAt_up2 hq0 hc (by simp)) trivial)
    | ((with_reducible refine isQ (Q := Q) ?_); exact hT k0 k1 r e1 q0 e0 hm _ (hC.card gc hc a0.toNatClampNeg (some p) (some r) hp))
    | ((with_reducible refine isQ (Q := Q) ?_); exact hF k0 k1 r e1 q0 e0 hm _ (hC.card gc hc a0.toNatClampNeg (some p) (some r) hp))
    | simp only [eX1_same_0, eX1_same_1, eX1_same_4, eX1_same_4N, eX1_same_5, eX1_same_6, eX1_same_9, eX1_same_9N, eX1_same_10, eX1_same_10N, eX1_same_11, eX1_same_14, eX1_same_15, eX1_same_16, eX1_same_16N, eX1_same_18, eX1_same_18N, eX1_same_19, eX1_same_22, eX1_same_23, eX1_same_23N, eX1_same_24N, eX1_same_24R, eX1_same_25, eX1_same_25N, eX1_same_27R, eX1_same_27N, eX1_same_30, eX1_same_31, eX1_same_32, eX1_same_32N, eX1_same_34, eX1_same_34N, eX1_same_35R, eX1_same_35N, eX1_same_38, eX1_same_41, eX1_same_42, eX1_same_45, eX1_same_46, lgp, lgn, lgz, i10, i00, if_true, if_false, eq_self, not_true, not_false_eq_true, rx, rn, rc, rl, hx, hn, hc, hl, d1, d2, d3, d4, d5, d6, d7, d8, d9, d10, d11, d12, rd_n, upw_n, ite_le, n45, n54, true_or, or_true, false_or, or_false, false_and, and_false, kx_l, kx_r, go_s, gl_s, gi_s, gb_s2, gb_s3, gq_s, wt_nil, wt_int, wt_long, wt_ref, wt_null, nl_int, nl_long, nl_ref, nl_null, nl_none, rf_n, rf_s, rf_st, tl_s, tl_n, g0, gS, ex1, nb_b, nb_0, nb_1, nf_i, nf_l, nf_ra, nf_ro, nf_na, nf_no, nf_b0, nf_z0, t45_4, t45_5, true_and, and_true, List.set_cons_zero, List.set_cons_succ, List.length_cons, List.length_nil, rd_s, upw_s, ne_eq, not_false_eq_true, Nat.zero_add, Nat.add_zero]
    | split
    | with_reducible intro _
    | omega
set_option maxHeartbeats 4000000 in
theorem fX1_drop {s : AS} {a0 : Int32} (hC : CS g w0 x nA cA lA kn s w) (hX : ¬ okC a0 → (Q (.inr "java/lang/IndexOutOfBoundsException") w)) (hN : okC a0 → s.2.1 a0.toNatClampNeg = none → ∀ w', CS g w0 x nA cA lA kn (sC s (va_up s.2.1 a0.toNatClampNeg none)) w' → Q (.inl (some (.int 0))) w') (hS : okC a0 → ∀ r, s.2.1 a0.toNatClampNeg = some r → ∀ w', CS g w0 x nA cA lA kn (sC s (va_up s.2.1 a0.toNatClampNeg none)) w' → Q (.inl (some (.int 1))) w') : WP (MX1_drop g) Q (0, [some (.ref x), some (.int a0), none], [], w, 0, 0) := by
  obtain ⟨gc, gl, ⟨hx, hn, hc, hl, hgc, hgl, hn0, hn1, rx, rn, rc, rl, ⟨d1, d2, d3, d4, d5, d6⟩, ⟨d7, d8, d9, d10, d11, d12⟩⟩, hcd, hpl⟩ := hC.1.opn g
  repeat' first
    | with_reducible assumption
    | with_reducible refine And.intro ?_ ?_
    | with_reducible exact vpi6 (by assumption) (by assumption)
    | with_reducible exact vpi8 (by assumption) (by assumption)
    | with_reducible exact trivial
    | with_reducible exact hX (by assumption)
    | with_reducible refine fX1_needCard (a0 := a0) (fun _ => ?_) (fun k0 => ?_)
    | with_reducible exact vpi6 k0.1 k0.2
    | with_reducible refine fX1_asNumber (Or.inl rfl) ?_
    | with_reducible refine fX1_asNumber (Or.inr rfl) ?_
    | with_reducible refine Or.inl ?_
    | ((with_reducible refine isQ (Q := Q) ?_); exact hN k0 (cdN hcd k0 (by assumption)) _ (hC.card gc hc a0.toNatClampNeg none none trivial))
    | ((with_reducible refine isQ (Q := Q) ?_); exact (cdS hcd k0 (by assumption)).elim (fun r h => hS k0 r h.1 _ (hC.card gc hc a0.toNatClampNeg none none trivial)))
    | simp only [eX1_drop_0, eX1_drop_1, eX1_drop_4, eX1_drop_4N, eX1_drop_5, eX1_drop_8, eX1_drop_9, eX1_drop_10R, eX1_drop_10N, eX1_drop_13, eX1_drop_14, eX1_drop_17, eX1_drop_18, eX1_drop_21, eX1_drop_22, eX1_drop_22N, eX1_drop_23, eX1_drop_26, eX1_drop_27, eX1_drop_28N, eX1_drop_28R, eX1_drop_29, eX1_drop_30, lgp, lgn, lgz, i10, i00, if_true, if_false, eq_self, not_true, not_false_eq_true, rx, rn, rc, rl, hx, hn, hc, hl, d1, d2, d3, d4, d5, d6, d7, d8, d9, d10, d11, d12, rd_n, upw_n, ite_le, n45, n54, true_or, or_true, false_or, or_false, false_and, and_false, kx_l, kx_r, go_s, gl_s, gi_s, gb_s2, gb_s3, gq_s, wt_nil, wt_int, wt_long, wt_ref, wt_null, nl_int, nl_long, nl_ref, nl_null, nl_none, rf_n, rf_s, rf_st, tl_s, tl_n, g0, gS, ex1, nb_b, nb_0, nb_1, nf_i, nf_l, nf_ra, nf_ro, nf_na, nf_no, nf_b0, nf_z0, t45_4, t45_5, true_and, and_true, List.set_cons_zero, List.set_cons_succ, List.length_cons, List.length_nil, rd_s, upw_s, ne_eq, not_false_eq_true, Nat.zero_add, Nat.add_zero]
    | split
    | with_reducible intro _
    | omega
end
end
/-! 71.fn7.lean.txt -/
section
section
variable {g : RO} {Q : Ot → Hw → Prop} {w0 w : Hw} {x nA cA lA : Nat} {kn : Int32}
set_option maxHeartbeats 4000000 in
theorem fX1_take {s : AS} {a0 a1 a2 : Int32} (hC : CS g w0 x nA cA lA kn s w) (hX : ¬ (okC a0 ∧ okN a2) → (Q (.inr "java/lang/IndexOutOfBoundsException") w)) (hW : okC a0 → okN a2 → ¬ okW a1 3 → (Q (.inr "java/lang/IllegalArgumentException") w)) (hS : okC a0 → okN a2 → okW a1 3 → s.2.1 a0.toNatClampNeg = none → (Q (.inr "java/lang/IllegalStateException") w)) (hQ : okC a0 → okN a2 → okW a1 3 → ∀ r, s.2.1 a0.toNatClampNeg = some r → ∀ w', CS g w0 x nA cA lA kn (sN s (vp_updL s.1 a2.toNatClampNeg (eV r a1))) w' → Q (.inl (some (.int (loV (eV r a1))))) w') : WP (MX1_take g) Q (0, [some (.ref x), some (.int a0), some (.int a1), some (.int a2)], [], w, 0, 0) := by
  obtain ⟨gc, gl, ⟨hx, hn, hc, hl, hgc, hgl, hn0, hn1, rx, rn, rc, rl, ⟨d1, d2, d3, d4, d5, d6⟩, ⟨d7, d8, d9, d10, d11, d12⟩⟩, hcd, hpl⟩ := hC.1.opn g
  repeat' first
    | with_reducible assumption
    | with_reducible refine And.intro ?_ ?_
    | with_reducible exact vpi6 (by assumption) (by assumption)
    | with_reducible exact vpi8 (by assumption) (by assumption)
    | with_reducible exact trivial
    | with_reducible exact hX (fun h => absurd h.1 (by assumption))
    | with_reducible exact hX (fun h => absurd h.2 (by assumption))
    | with_reducible refine fX1_needCard (a0 := a0) (fun _ => ?_) (fun k0 => ?_)
    | with_reducible exact vpi6 k0.1 k0.2
    | with_reducible refine fX1_needNumber (a0 := a2) (fun _ => ?_) (fun k2 => ?_)
    | with_reducible exact vpi8 k2.1 k2.2
    | with_reducible refine fX1_needChoice (fun hnw => ?_) (fun hw => ?_)
    | with_reducible exact hW k0 k2 hnw
    | with_reducible refine fX1_rangeOf (a0 := a0) hC (fun _ => ?_) (fun _ e1 => ?_) (fun _ p r e1 hp => ?_)
    | with_reducible refine go_F hp ?_
    | with_reducible exact go_F hp trivial
    | with_reducible exact hS k0 k2 hw e1
    | with_reducible refine fX0_endAt hp ?_
    | with_reducible refine fX1_putNumber hC k2.1 k2.2 (fun w1 g1 => ?_)
    | with_reducible exact hQ k0 k2 hw r e1 w1 g1
    | simp only [eX1_take_0, eX1_take_1, eX1_take_4, eX1_take_5, eX1_take_8, eX1_take_9, eX1_take_10, eX1_take_13, eX1_take_13N, eX1_take_14, eX1_take_15, eX1_take_15N, eX1_take_16, eX1_take_17, eX1_take_20, eX1_take_21, eX1_take_24, eX1_take_27, lgp, lgn, lgz, i10, i00, if_true, if_false, eq_self, not_true, not_false_eq_true, rx, rn, rc, rl, hx, hn, hc, hl, d1, d2, d3, d4, d5, d6, d7, d8, d9, d10, d11, d12, rd_n, upw_n, ite_le, n45, n54, true_or, or_true, false_or, or_false, false_and, and_false, kx_l, kx_r, go_s, gl_s, gi_s, gb_s2, gb_s3, gq_s, wt_nil, wt_int, wt_long, wt_ref, wt_null, nl_int, nl_long, nl_ref, nl_null, nl_none, rf_n, rf_s, rf_st, tl_s, tl_n, g0, gS, ex1, nb_b, nb_0, nb_1, nf_i, nf_l, nf_ra, nf_ro, nf_na, nf_no, nf_b0, nf_z0, t45_4, t45_5, true_and, and_true, List.set_cons_zero, List.set_cons_succ, List.length_cons, List.length_nil, rd_s, upw_s, ne_eq, not_false_eq_true, Nat.zero_add, Nat.add_zero]
    | split
    | with_reducible intro _
    | omega
set_option maxHeartbeats 4000000 in
theorem fX1_end {s : AS} {a0 a1 a2 : Int32} (hC : CS g w0 x nA cA lA kn s w) (hX : ¬ okC a0 → (Q (.inr "java/lang/IndexOutOfBoundsException") w)) (hW : okC a0 → ¬ okW a1 3 → (Q (.inr "java/lang/IllegalArgumentException") w)) (hS : okC a0 → okW a1 3 → s.2.1 a0.toNatClampNeg = none → (Q (.inr "java/lang/IllegalStateException") w)) (hQ : okC a0 → okW a1 3 → ∀ r, s.2.1 a0.toNatClampNeg = some r → Q (.inl (some (.int (hfV (eV r a1) a2)))) w) : WP (MX1_end g) Q (0, [some (.ref x), some (.int a0), some (.int a1), some (.int a2)], [], w, 0, 0) := by
  obtain ⟨gc, gl, ⟨hx, hn, hc, hl, hgc, hgl, hn0, hn1, rx, rn, rc, rl, ⟨d1, d2, d3, d4, d5, d6⟩, ⟨d7, d8, d9, d10, d11, d12⟩⟩, hcd, hpl⟩ := hC.1.opn g
  repeat' first
    | with_reducible assumption
    | with_reducible refine And.intro ?_ ?_
    | with_reducible exact vpi6 (by assumption) (by assumption)
    | with_reducible exact vpi8 (by assumption) (by assumption)
    | with_reducible exact trivial
    | with_reducible exact hX (by assumption)
    | with_reducible refine fX1_needCard (a0 := a0) (fun _ => ?_) (fun k0 => ?_)
    | with_reducible exact vpi6 k0.1 k0.2
    | with_reducible refine fX1_needChoice (fun hnw => ?_) (fun hw => ?_)
    | with_reducible exact hW k0 hnw
    | with_reducible refine fX1_rangeOf (a0 := a0) hC (fun _ => ?_) (fun _ e1 => ?_) (fun _ p r e1 hp => ?_)
    | with_reducible refine go_F hp ?_
    | with_reducible exact go_F hp trivial
    | with_reducible exact hS k0 hw e1
    | with_reducible refine fX0_endAt hp ?_
    | with_reducible refine fX1_halfOf ?_
    | with_reducible exact hQ k0 hw r e1
    | simp only [eX1_end_0, eX1_end_1, eX1_end_4, eX1_end_5, eX1_end_6, eX1_end_9, eX1_end_9N, eX1_end_10, eX1_end_11, eX1_end_14, eX1_end_15, eX1_end_18, eX1_end_19, eX1_end_22, lgp, lgn, lgz, i10, i00, if_true, if_false, eq_self, not_true, not_false_eq_true, rx, rn, rc, rl, hx, hn, hc, hl, d1, d2, d3, d4, d5, d6, d7, d8, d9, d10, d11, d12, rd_n, upw_n, ite_le, n45, n54, true_or, or_true, false_or, or_false, false_and, and_false, kx_l, kx_r, go_s, gl_s, gi_s, gb_s2, gb_s3, gq_s, wt_nil, wt_int, wt_long, wt_ref, wt_null, nl_int, nl_long, nl_ref, nl_null, nl_none, rf_n, rf_s, rf_st, tl_s, tl_n, g0, gS, ex1, nb_b, nb_0, nb_1, nf_i, nf_l, nf_ra, nf_ro, nf_na, nf_no, nf_b0, nf_z0, t45_4, t45_5, true_and, and_true, List.set_cons_zero, List.set_cons_succ, List.length_cons, List.length_nil, rd_s, upw_s, ne_eq, not_false_eq_true, Nat.zero_add, Nat.add_zero]
    | split
    | with_reducible intro _
    | omega
set_option maxHeartbeats 4000000 in
theorem fX1_isThere {s : AS} {a0 : Int32} (hC : CS g w0 x nA cA lA kn s w) (hX : ¬ okC a0 → (Q (.inr "java/lang/IndexOutOfBoundsException") w)) (hF : okC a0 → s.2.1 a0.toNatClampNeg = none → Q (.inl (some (.int 0))) w) (hT : okC a0 → ∀ r, s.2.1 a0.toNatClampNeg = some r → Q (.inl (some (.int 1))) w) : WP (MX1_isThere g) Q (0, [some (.ref x), some (.int a0)], [], w, 0, 0) := by
  obtain ⟨gc, gl, ⟨hx, hn, hc, hl, hgc, hgl, hn0, hn1, rx, rn, rc, rl, ⟨d1, d2, d3, d4, d5, d6⟩, ⟨d7, d8, d9, d10, d11, d12⟩⟩, hcd, hpl⟩ := hC.1.opn g
  repeat' first
    | with_reducible assumption
    | with_reducible refine And.intro ?_ ?_
    | with_reducible exact vpi6 (by assumption) (by assumption)
    | with_reducible exact vpi8 (by assumption) (by assumption)
    | with_reducible exact trivial
    | with_reducible exact hX (by assumption)
    | with_reducible refine fX1_needCard (a0 := a0) (fun _ => ?_) (fun k0 => ?_)
    | with_reducible exact vpi6 k0.1 k0.2
    | with_reducible exact hF k0 (cdN hcd k0 (by assumption))
    | with_reducible exact (cdS hcd k0 (by assumption)).elim (fun r h => hT k0 r h.1)
    | simp only [eX1_isThere_0, eX1_isThere_1, eX1_isThere_4, eX1_isThere_4N, eX1_isThere_5, eX1_isThere_8, eX1_isThere_9, eX1_isThere_10R, eX1_isThere_10N, eX1_isThere_13, eX1_isThere_14, eX1_isThere_17, eX1_isThere_18, lgp, lgn, lgz, i10, i00, if_true, if_false, eq_self, not_true, not_false_eq_true, rx, rn, rc, rl, hx, hn, hc, hl, d1, d2, d3, d4, d5, d6, d7, d8, d9, d10, d11, d12, rd_n, upw_n, ite_le, n45, n54, true_or, or_true, false_or, or_false, false_and, and_false, kx_l, kx_r, go_s, gl_s, gi_s, gb_s2, gb_s3, gq_s, wt_nil, wt_int, wt_long, wt_ref, wt_null, nl_int, nl_long, nl_ref, nl_null, nl_none, rf_n, rf_s, rf_st, tl_s, tl_n, g0, gS, ex1, nb_b, nb_0, nb_1, nf_i, nf_l, nf_ra, nf_ro, nf_na, nf_no, nf_b0, nf_z0, t45_4, t45_5, true_and, and_true, List.set_cons_zero, List.set_cons_succ, List.length_cons, List.length_nil, rd_s, upw_s, ne_eq, not_false_eq_true, Nat.zero_add, Nat.add_zero]
    | split
    | with_reducible intro _
    | omega
set_option maxHeartbeats 4000000 in
theorem fX1_isFixed {s : AS} {a0 : Int32} (hC : CS g w0 x nA cA lA kn s w) (hX : ¬ okC a0 → (Q (.inr "java/lang/IndexOutOfBoundsException") w)) (hS : okC a0 → s.2.1 a0.toNatClampNeg = none → (Q (.inr "java/lang/IllegalStateException") w)) (hT : okC a0 → ∀ r, s.2.1 a0.toNatClampNeg = some r → fP r → Q (.inl (some (.int 1))) w) (hF : okC a0 → ∀ r, s.2.1 a0.toNatClampNeg = some r → ¬ (fP r) → Q (.inl (some (.int 0))) w) : WP (MX1_isFixed g) Q (0, [some (.ref x), some (.int a0)], [], w, 0, 0) := by
  obtain ⟨gc, gl, ⟨hx, hn, hc, hl, hgc, hgl, hn0, hn1, rx, rn, rc, rl, ⟨d1, d2, d3, d4, d5, d6⟩, ⟨d7, d8, d9, d10, d11, d12⟩⟩, hcd, hpl⟩ := hC.1.opn g
  repeat' first
    | with_reducible assumption
    | with_reducible refine And.intro ?_ ?_
    | with_reducible exact vpi6 (by assumption) (by assumption)
    | with_reducible exact vpi8 (by assumption) (by assumption)
    | with_reducible exact trivial
    | with_reducible exact hX (by assumption)
    | with_reducible refine fX1_rangeOf (a0 := a0) hC (fun _ => ?_) (fun k0 e1 => ?_) (fun k0 p r e1 hp => ?_)
    | with_reducible refine go_F hp ?_
    | with_reducible exact go_F hp trivial
    | with_reducible exact hS k0 e1
    | with_reducible refine fX0_isSettled hp (fun hm => ?_) (fun hm => ?_)
    | with_reducible exact hT k0 r e1 hm
    | with_reducible exact hF k0 r e1 hm
    | simp only [eX1_isFixed_0, eX1_isFixed_0N, eX1_isFixed_1, eX1_isFixed_2, eX1_isFixed_5, eX1_isFixed_8, lgp, lgn, lgz, i10, i00, if_true, if_false, eq_self, not_true, not_false_eq_true, rx, rn, rc, rl, hx, hn, hc, hl, d1, d2, d3, d4, d5, d6, d7, d8, d9, d10, d11, d12, rd_n, upw_n, ite_le, n45, n54, true_or, or_true, false_or, or_false, false_and, and_false, kx_l, kx_r, go_s, gl_s, gi_s, gb_s2, gb_s3, gq_s, wt_nil, wt_int, wt_long, wt_ref, wt_null, nl_int, nl_long, nl_ref, nl_null, nl_none, rf_n, rf_s, rf_st, tl_s, tl_n, g0, gS, ex1, nb_b, nb_0, nb_1, nf_i, nf_l, nf_ra, nf_ro, nf_na, nf_no, nf_b0, nf_z0, t45_4, t45_5, true_and, and_true, List.set_cons_zero, List.set_cons_succ, List.length_cons, List.length_nil, rd_s, upw_s, ne_eq, not_false_eq_true, Nat.zero_add, Nat.add_zero]
    | split
    | with_reducible intro _
    | omega
set_option maxHeartbeats 4000000 in
theorem fX1_isSmall {s : AS} {a0 : Int32} (hC : CS g w0 x nA cA lA kn s w) (hX : ¬ okC a0 → (Q (.inr "java/lang/IndexOutOfBoundsException") w)) (hS : okC a0 → s.2.1 a0.toNatClampNeg = none → (Q (.inr "java/lang/IllegalStateException") w)) (hT : okC a0 → ∀ r, s.2.1 a0.toNatClampNeg = some r → sP r → Q (.inl (some (.int 1))) w) (hF : okC a0 → ∀ r, s.2.1 a0.toNatClampNeg = some r → ¬ (sP r) → Q (.inl (some (.int 0))) w) : WP (MX1_isSmall g) Q (0, [some (.ref x), some (.int a0)], [], w, 0, 0) := by
  obtain ⟨gc, gl, ⟨hx, hn, hc, hl, hgc, hgl, hn0, hn1, rx, rn, rc, rl, ⟨d1, d2, d3, d4, d5, d6⟩, ⟨d7, d8, d9, d10, d11, d12⟩⟩, hcd, hpl⟩ := hC.1.opn g
  repeat' first
    | with_reducible assumption
    | with_reducible refine And.intro ?_ ?_
    | with_reducible exact vpi6 (by assumption) (by assumption)
    | with_reducible exact vpi8 (by assumption) (by assumption)
    | with_reducible exact trivial
    | with_reducible exact hX (by assumption)
    | with_reducible refine fX1_rangeOf (a0 := a0) hC (fun _ => ?_) (fun k0 e1 => ?_) (fun k0 p r e1 hp => ?_)
    | with_reducible refine go_F hp ?_
    | with_reducible exact go_F hp trivial
    | with_reducible exact hS k0 e1
    | with_reducible refine fX0_fitsSmall hp (fun hm => ?_) (fun hm => ?_)
    | with_reducible exact hT k0 r e1 hm
    | with_reducible exact hF k0 r e1 hm
    | simp only [eX1_isSmall_0, eX1_isSmall_0N, eX1_isSmall_1, eX1_isSmall_2, eX1_isSmall_5, eX1_isSmall_8, lgp, lgn, lgz, i10, i00, if_true, if_false, eq_self, not_true, not_false_eq_true, rx, rn, rc, rl, hx, hn, hc, hl, d1, d2, d3, d4, d5, d6, d7, d8, d9, d10, d11, d12, rd_n, upw_n, ite_le, n45, n54, true_or, or_true, false_or, or_false, false_and, and_false, kx_l, kx_r, go_s, gl_s, gi_s, gb_s2, gb_s3, gq_s, wt_nil, wt_int, wt_long, wt_ref, wt_null, nl_int, nl_long, nl_ref, nl_null, nl_none, rf_n, rf_s, rf_st, tl_s, tl_n, g0, gS, ex1, nb_b, nb_0, nb_1, nf_i, nf_l, nf_ra, nf_ro, nf_na, nf_no, nf_b0, nf_z0, t45_4, t45_5, true_and, and_true, List.set_cons_zero, List.set_cons_succ, List.length_cons, List.length_nil, rd_s, upw_s, ne_eq, not_false_eq_true, Nat.zero_add, Nat.add_zero]
    | split
    | with_reducible intro _
    | omega
set_option maxHeartbeats 4000000 in
theorem fX1_isValid {s : AS} {a0 a1 : Int32} (hC : CS g w0 x nA cA lA kn s w) (hX : ¬ (okC a0 ∧ okN a1) → (Q (.inr "java/lang/IndexOutOfBoundsException") w)) (hS : okC a0 → okN a1 → s.2.1 a0.toNatClampNeg = none → (Q (.inr "java/lang/IllegalStateException") w)) (hT : okC a0 → okN a1 → ∀ r, s.2.1 a0.toNatClampNeg = some r → hP r (s.1 a1.toNatClampNeg) → Q (.inl (some (.int 1))) w) (hF : okC a0 → okN a1 → ∀ r, s.2.1 a0.toNatClampNeg = some r → ¬ (hP r (s.1 a1.toNatClampNeg)) → Q (.inl (some (.int 0))) w) : WP (MX1_isValid g) Q (0, [some (.ref x), some (.int a0), some (.int a1)], [], w, 0, 0) := by
  obtain ⟨gc, gl, ⟨hx, hn, hc, hl, hgc, hgl, hn0, hn1, rx, rn, rc, rl, ⟨d1, d2, d3, d4, d5, d6⟩, ⟨d7, d8, d9, d10, d11, d12⟩⟩, hcd, hpl⟩ := hC.1.opn g
  repeat' first
    | with_reducible assumption
    | with_reducible refine And.intro ?_ ?_
    | with_reducible exact vpi6 (by assumption) (by assumption)
    | with_reducible exact vpi8 (by assumption) (by assumption)
    | with_reducible exact trivial
    | with_reducible exact hX (fun h => absurd h.1 (by assumption))
    | with_reducible exact hX (fun h => absurd h.2 (by assumption))
    | with_reducible refine fX1_needCard (a0 := a0) (fun _ => ?_) (fun k0 => ?_)
    | with_reducible exact vpi6 k0.1 k0.2
    | with_reducible refine fX1_needNumber (a0 := a1) (fun _ => ?_) (fun k1 => ?_)
    | with_reducible exact vpi8 k1.1 k1.2
    | with_reducible refine fX1_rangeOf (a0 := a0) hC (fun _ => ?_) (fun _ e1 => ?_) (fun _ p r e1 hp => ?_)
    | with_reducible refine go_F hp ?_
    | with_reducible exact go_F hp trivial
    | with_reducible exact hS k0 k1 e1
    | with_reducible refine fX0_holds hp (fun hm => ?_) (fun hm => ?_)
    | with_reducible exact hT k0 k1 r e1 hm
    | with_reducible exact hF k0 k1 r e1 hm
    | simp only [eX1_isValid_0, eX1_isValid_1, eX1_isValid_4, eX1_isValid_5, eX1_isValid_8, eX1_isValid_8N, eX1_isValid_9, eX1_isValid_10, eX1_isValid_13, eX1_isValid_13N, eX1_isValid_14, eX1_isValid_17, eX1_isValid_18, eX1_isValid_19, eX1_isValid_22, lgp, lgn, lgz, i10, i00, if_true, if_false, eq_self, not_true, not_false_eq_true, rx, rn, rc, rl, hx, hn, hc, hl, d1, d2, d3, d4, d5, d6, d7, d8, d9, d10, d11, d12, rd_n, upw_n, ite_le, n45, n54, true_or, or_true, false_or, or_false, false_and, and_false, kx_l, kx_r, go_s, gl_s, gi_s, gb_s2, gb_s3, gq_s, wt_nil, wt_int, wt_long, wt_ref, wt_null, nl_int, nl_long, nl_ref, nl_null, nl_none, rf_n, rf_s, rf_st, tl_s, tl_n, g0, gS, ex1, nb_b, nb_0, nb_1, nf_i, nf_l, nf_ra, nf_ro, nf_na, nf_no, nf_b0, nf_z0, t45_4, t45_5, true_and, and_true, List.set_cons_zero, List.set_cons_succ, List.length_cons, List.length_nil, rd_s, upw_s, ne_eq, not_false_eq_true, Nat.zero_add, Nat.add_zero]
    | split
    | with_reducible intro _
    | omega
set_option maxHeartbeats 4000000 in
theorem fX1_isValidSmall {s : AS} {a0 a1 : Int32} (hC : CS g w0 x nA cA lA kn s w) (hX : ¬ (okC a0 ∧ okN a1) → (Q (.inr "java/lang/IndexOutOfBoundsException") w)) (hS : okC a0 → okN a1 → s.2.1 a0.toNatClampNeg = none → (Q (.inr "java/lang/IllegalStateException") w)) (hT : okC a0 → okN a1 → ∀ r, s.2.1 a0.toNatClampNeg = some r → (sP r ∧ hP r (s.1 a1.toNatClampNeg)) → Q (.inl (some (.int 1))) w) (hF : okC a0 → okN a1 → ∀ r, s.2.1 a0.toNatClampNeg = some r → ¬ ((sP r ∧ hP r (s.1 a1.toNatClampNeg))) → Q (.inl (some (.int 0))) w) : WP (MX1_isValidSmall g) Q (0, [some (.ref x), some (.int a0), some (.int a1)], [], w, 0, 0) := by
  obtain ⟨gc, gl, ⟨hx, hn, hc, hl, hgc, hgl, hn0, hn1, rx, rn, rc, rl, ⟨d1, d2, d3, d4, d5, d6⟩, ⟨d7, d8, d9, d10, d11, d12⟩⟩, hcd, hpl⟩ := hC.1.opn g
  repeat' first
    | with_reducible assumption
    | with_reducible refine And.intro ?_ ?_
    | with_reducible exact vpi6 (by assumption) (by assumption)
    | with_reducible exact vpi8 (by assumption) (by assumption)
    | with_reducible exact trivial
    | with_reducible exact hX (fun h => absurd h.1 (by assumption))
    | with_reducible exact hX (fun h => absurd h.2 (by assumption))
    | with_reducible refine fX1_needCard (a0 := a0) (fun _ => ?_) (fun k0 => ?_)
    | with_reducible exact vpi6 k0.1 k0.2
    | with_reducible refine fX1_needNumber (a0 := a1) (fun _ => ?_) (fun k1 => ?_)
    | with_reducible exact vpi8 k1.1 k1.2
    | with_reducible refine fX1_rangeOf (a0 := a0) hC (fun _ => ?_) (fun _ e1 => ?_) (fun _ p r e1 hp => ?_)
    | with_reducible refine go_F hp ?_
    | with_reducible exact go_F hp trivial
    | with_reducible exact hS k0 k1 e1
    | with_reducible refine fX0_holdsAsSmall hp (fun hm => ?_) (fun hm => ?_)
    | with_reducible exact hT k0 k1 r e1 hm
    | with_reducible exact hF k0 k1 r e1 hm
    | simp only [eX1_isValidSmall_0, eX1_isValidSmall_1, eX1_isValidSmall_4, eX1_isValidSmall_5, eX1_isValidSmall_8, eX1_isValidSmall_8N, eX1_isValidSmall_9, eX1_isValidSmall_10, eX1_isValidSmall_13, eX1_isValidSmall_13N, eX1_isValidSmall_14, eX1_isValidSmall_17, eX1_isValidSmall_18, eX1_isValidSmall_19, eX1_isValidSmall_22, lgp, lgn, lgz, i10, i00, if_true, if_false, eq_self, not_true, not_false_eq_true, rx, rn, rc, rl, hx, hn, hc, hl, d1, d2, d3, d4, d5, d6, d7, d8, d9, d10, d11, d12, rd_n, upw_n, ite_le, n45, n54, true_or, or_true, false_or, or_false, false_and, and_false, kx_l, kx_r, go_s, gl_s, gi_s, gb_s2, gb_s3, gq_s, wt_nil, wt_int, wt_long, wt_ref, wt_null, nl_int, nl_long, nl_ref, nl_null, nl_none, rf_n, rf_s, rf_st, tl_s, tl_n, g0, gS, ex1, nb_b, nb_0, nb_1, nf_i, nf_l, nf_ra, nf_ro, nf_na, nf_no, nf_b0, nf_z0, t45_4, t45_5, true_and, and_true, List.set_cons_zero, List.set_cons_succ, List.length_cons, List.length_nil, rd_s, upw_s, ne_eq, not_false_eq_true, Nat.zero_add, Nat.add_zero]
    | split
    | with_reducible intro _
    | omega
def wV (r : R4) (v : Int64) : Int32 := bI (decide (hP r v)) + bI (decide (sP r ∧ hP r v))
def nV (r : R4) (v : Int64) (a : Int32) : Int32 := bI (decide ((a = 0 ∨ sP r) ∧ hP r (v - 1))) + 2 * bI (decide ((a = 0 ∨ sP r) ∧ hP r v)) + 4 * bI (decide ((a = 0 ∨ sP r) ∧ hP r (v + 1)))
set_option maxHeartbeats 4000000 in
theorem fX1_validityIn {p : Nat} {r : R4} {a0 : Int64} (hp : rAt w p r) (hQ : Q (.inl (some (.int (wV r a0)))) w) : WP (MX1_validityIn g) Q (0, [some (.ref p), some (.long a0), none], [], w, 0, 0) := by
  repeat' first
    | with_reducible assumption
    | with_reducible refine And.intro ?_ ?_
    | with_reducible exact vpi6 (by assumption) (by assumption)
    | with_reducible exact vpi8 (by assumption) (by assumption)
    | with_reducible exact trivial
    | with_reducible exact go_F (by assumption) trivial
    | with_reducible refine vX0_holds hp ?_
    | with_reducible refine vX0_holdsAsSmall hp ?_
    | with_reducible refine fX1_asNumber (bI01 _) ?_
    | ((with_reducible refine isQ (Q := Q) ?_); exact hQ)
    | simp only [eX1_validityIn_0, eX1_validityIn_0N, eX1_validityIn_1, eX1_validityIn_2, eX1_validityIn_5, eX1_validityIn_8, eX1_validityIn_8N, eX1_validityIn_9, eX1_validityIn_10, eX1_validityIn_13, eX1_validityIn_16, eX1_validityIn_17, lgp, lgn, lgz, i10, i00, if_true, if_false, eq_self, not_true, not_false_eq_true, ite_le, n45, n54, true_or, or_true, false_or, or_false, false_and, and_false, kx_l, kx_r, go_s, gl_s, gi_s, gb_s2, gb_s3, gq_s, wt_nil, wt_int, wt_long, wt_ref, wt_null, nl_int, nl_long, nl_ref, nl_null, nl_none, rf_n, rf_s, rf_st, tl_s, tl_n, g0, gS, ex1, nb_b, nb_0, nb_1, nf_i, nf_l, nf_ra, nf_ro, nf_na, nf_no, nf_b0, nf_z0, t45_4, t45_5, true_and, and_true, List.set_cons_zero, List.set_cons_succ, List.length_cons, List.length_nil, rd_s, upw_s, ne_eq, not_false_eq_true, Nat.zero_add, Nat.add_zero]
    | split
    | with_reducible intro _
    | omega
set_option maxHeartbeats 4000000 in
theorem fX1_neighboursIn {p : Nat} {r : R4} {a0 : Int64} {a1 : Int32} (hp : rAt w p r) (hQ : Q (.inl (some (.int (nV r a0 a1)))) w) : WP (MX1_neighboursIn g) Q (0, [some (.ref p), some (.long a0), none, some (.int a1)], [], w, 0, 0) := by
  repeat' first
    | with_reducible assumption
    | with_reducible refine And.intro ?_ ?_
    | with_reducible exact vpi6 (by assumption) (by assumption)
    | with_reducible exact vpi8 (by assumption) (by assumption)
    | with_reducible exact trivial
    | with_reducible exact go_F (by assumption) trivial
    | with_reducible refine vX0_holdsAs hp ?_
    | with_reducible refine fX1_asNumber (bI01 _) ?_
    | ((with_reducible refine isQ (Q := Q) ?_); exact hQ)
    | simp only [eX1_neighboursIn_0, eX1_neighboursIn_0N, eX1_neighboursIn_1, eX1_neighboursIn_2, eX1_neighboursIn_3, eX1_neighboursIn_4, eX1_neighboursIn_5, eX1_neighboursIn_8, eX1_neighboursIn_11, eX1_neighboursIn_12, eX1_neighboursIn_12N, eX1_neighboursIn_13, eX1_neighboursIn_14, eX1_neighboursIn_15, eX1_neighboursIn_18, eX1_neighboursIn_21, eX1_neighboursIn_22, eX1_neighboursIn_23, eX1_neighboursIn_24, eX1_neighboursIn_24N, eX1_neighboursIn_25, eX1_neighboursIn_26, eX1_neighboursIn_27, eX1_neighboursIn_28, eX1_neighboursIn_29, eX1_neighboursIn_32, eX1_neighboursIn_35, eX1_neighboursIn_36, eX1_neighboursIn_37, lgp, lgn, lgz, i10, i00, if_true, if_false, eq_self, not_true, not_false_eq_true, ite_le, n45, n54, true_or, or_true, false_or, or_false, false_and, and_false, kx_l, kx_r, go_s, gl_s, gi_s, gb_s2, gb_s3, gq_s, wt_nil, wt_int, wt_long, wt_ref, wt_null, nl_int, nl_long, nl_ref, nl_null, nl_none, rf_n, rf_s, rf_st, tl_s, tl_n, g0, gS, ex1, nb_b, nb_0, nb_1, nf_i, nf_l, nf_ra, nf_ro, nf_na, nf_no, nf_b0, nf_z0, t45_4, t45_5, true_and, and_true, List.set_cons_zero, List.set_cons_succ, List.length_cons, List.length_nil, rd_s, upw_s, ne_eq, not_false_eq_true, Nat.zero_add, Nat.add_zero]
    | split
    | with_reducible intro _
    | omega
set_option maxHeartbeats 4000000 in
theorem fX1_whichValid {s : AS} {a0 a1 : Int32} (hC : CS g w0 x nA cA lA kn s w) (hX : ¬ okC a0 → (Q (.inr "java/lang/IndexOutOfBoundsException") w)) (hS : okC a0 → s.2.1 a0.toNatClampNeg = none → (Q (.inr "java/lang/IllegalStateException") w)) (hQ : okC a0 → ∀ r, s.2.1 a0.toNatClampNeg = some r → Q (.inl (some (.int (wV r a1.toInt64)))) w) : WP (MX1_whichValid g) Q (0, [some (.ref x), some (.int a0), some (.int a1)], [], w, 0, 0) := by
  obtain ⟨gc, gl, ⟨hx, hn, hc, hl, hgc, hgl, hn0, hn1, rx, rn, rc, rl, ⟨d1, d2, d3, d4, d5, d6⟩, ⟨d7, d8, d9, d10, d11, d12⟩⟩, hcd, hpl⟩ := hC.1.opn g
  repeat' first
    | with_reducible assumption
    | with_reducible refine And.intro ?_ ?_
    | with_reducible exact vpi6 (by assumption) (by assumption)
    | with_reducible exact vpi8 (by assumption) (by assumption)
    | with_reducible exact trivial
    | with_reducible exact hX (by assumption)
    | with_reducible refine fX1_rangeOf (a0 := a0) hC (fun _ => ?_) (fun k0 e1 => ?_) (fun k0 p r e1 hp => ?_)
    | with_reducible refine go_F hp ?_
    | with_reducible exact go_F hp trivial
    | with_reducible exact hS k0 e1
    | with_reducible refine fX1_validityIn hp ?_
    | with_reducible exact hQ k0 r e1
    | simp only [eX1_whichValid_0, eX1_whichValid_0N, eX1_whichValid_1, eX1_whichValid_2, eX1_whichValid_5, eX1_whichValid_6, eX1_whichValid_7R, eX1_whichValid_7N, eX1_whichValid_10, lgp, lgn, lgz, i10, i00, if_true, if_false, eq_self, not_true, not_false_eq_true, rx, rn, rc, rl, hx, hn, hc, hl, d1, d2, d3, d4, d5, d6, d7, d8, d9, d10, d11, d12, rd_n, upw_n, ite_le, n45, n54, true_or, or_true, false_or, or_false, false_and, and_false, kx_l, kx_r, go_s, gl_s, gi_s, gb_s2, gb_s3, gq_s, wt_nil, wt_int, wt_long, wt_ref, wt_null, nl_int, nl_long, nl_ref, nl_null, nl_none, rf_n, rf_s, rf_st, tl_s, tl_n, g0, gS, ex1, nb_b, nb_0, nb_1, nf_i, nf_l, nf_ra, nf_ro, nf_na, nf_no, nf_b0, nf_z0, t45_4, t45_5, true_and, and_true, List.set_cons_zero, List.set_cons_succ, List.length_cons, List.length_nil, rd_s, upw_s, ne_eq, not_false_eq_true, Nat.zero_add, Nat.add_zero]
    | split
    | with_reducible intro _
    | omega
set_option maxHeartbeats 4000000 in
theorem fX1_around {s : AS} {a0 a1 a2 : Int32} (hC : CS g w0 x nA cA lA kn s w) (hX : ¬ okC a0 → (Q (.inr "java/lang/IndexOutOfBoundsException") w)) (hW : okC a0 → ¬ okW a1 3 → (Q (.inr "java/lang/IllegalArgumentException") w)) (hS : okC a0 → okW a1 3 → s.2.1 a0.toNatClampNeg = none → (Q (.inr "java/lang/IllegalStateException") w)) (hQ : okC a0 → okW a1 3 → ∀ r, s.2.1 a0.toNatClampNeg = some r → Q (.inl (some (.int (nV r (eV r a1) a2)))) w) : WP (MX1_around g) Q (0, [some (.ref x), some (.int a0), some (.int a1), some (.int a2), none], [], w, 0, 0) := by
  obtain ⟨gc, gl, ⟨hx, hn, hc, hl, hgc, hgl, hn0, hn1, rx, rn, rc, rl, ⟨d1, d2, d3, d4, d5, d6⟩, ⟨d7, d8, d9, d10, d11, d12⟩⟩, hcd, hpl⟩ := hC.1.opn g
  repeat' first
    | with_reducible assumption
    | with_reducible refine And.intro ?_ ?_
    | with_reducible exact vpi6 (by assumption) (by assumption)
    | with_reducible exact vpi8 (by assumption) (by assumption)
    | with_reducible exact trivial
    | with_reducible exact hX (by assumption)
    | with_reducible refine fX1_needCard (a0 := a0) (fun _ => ?_) (fun k0 => ?_)
    | with_reducible exact vpi6 k0.1 k0.2
    | with_reducible refine fX1_needChoice (fun hnw => ?_) (fun hw => ?_)
    | with_reducible exact hW k0 hnw
    | with_reducible refine fX1_rangeOf (a0 := a0) hC (fun _ => ?_) (fun _ e1 => ?_) (fun _ p r e1 hp => ?_)
    | with_reducible refine go_F hp ?_
    | with_reducible exact go_F hp trivial
    | with_reducible exact hS k0 hw e1
    | with_reducible refine fX0_endAt hp ?_
    | with_reducible refine fX1_neighboursIn hp ?_
    | with_reducible exact hQ k0 hw r e1
    | simp only [eX1_around_0, eX1_around_1, eX1_around_4, eX1_around_5, eX1_around_6, eX1_around_9, eX1_around_9N, eX1_around_10, eX1_around_11, eX1_around_14, eX1_around_14N, eX1_around_16, eX1_around_16N, eX1_around_18, eX1_around_18N, eX1_around_20, eX1_around_21, eX1_around_24, eX1_around_25R, eX1_around_25N, eX1_around_28, lgp, lgn, lgz, i10, i00, if_true, if_false, eq_self, not_true, not_false_eq_true, rx, rn, rc, rl, hx, hn, hc, hl, d1, d2, d3, d4, d5, d6, d7, d8, d9, d10, d11, d12, rd_n, upw_n, ite_le, n45, n54, true_or, or_true, false_or, or_false, false_and, and_false, kx_l, kx_r, go_s, gl_s, gi_s, gb_s2, gb_s3, gq_s, wt_nil, wt_int, wt_long, wt_ref, wt_null, nl_int, nl_long, nl_ref, nl_null, nl_none, rf_n, rf_s, rf_st, tl_s, tl_n, g0, gS, ex1, nb_b, nb_0, nb_1, nf_i, nf_l, nf_ra, nf_ro, nf_na, nf_no, nf_b0, nf_z0, t45_4, t45_5, true_and, and_true, List.set_cons_zero, List.set_cons_succ, List.length_cons, List.length_nil, rd_s, upw_s, ne_eq, not_false_eq_true, Nat.zero_add, Nat.add_zero]
    | split
    | with_reducible intro _
    | omega
set_option maxHeartbeats 4000000 in
theorem fX1_areSame {s : AS} {a0 a1 : Int32} (hC : CS g w0 x nA cA lA kn s w) (hX : ¬ (okC a0 ∧ okC a1) → (Q (.inr "java/lang/IndexOutOfBoundsException") w)) (hS : okC a0 → okC a1 → (s.2.1 a0.toNatClampNeg = none ∨ s.2.1 a1.toNatClampNeg = none) → (Q (.inr "java/lang/IllegalStateException") w)) (hT : okC a0 → okC a1 → ∀ r q, s.2.1 a0.toNatClampNeg = some r → s.2.1 a1.toNatClampNeg = some q → mP r q → Q (.inl (some (.int 1))) w) (hF : okC a0 → okC a1 → ∀ r q, s.2.1 a0.toNatClampNeg = some r → s.2.1 a1.toNatClampNeg = some q → ¬ mP r q → Q (.inl (some (.int 0))) w) : WP (MX1_areSame g) Q (0, [some (.ref x), some (.int a0), some (.int a1)], [], w, 0, 0) := by
  obtain ⟨gc, gl, ⟨hx, hn, hc, hl, hgc, hgl, hn0, hn1, rx, rn, rc, rl, ⟨d1, d2, d3, d4, d5, d6⟩, ⟨d7, d8, d9, d10, d11, d12⟩⟩, hcd, hpl⟩ := hC.1.opn g
  repeat' first
    | with_reducible assumption
    | with_reducible refine And.intro ?_ ?_
    | with_reducible exact vpi6 (by assumption) (by assumption)
    | with_reducible exact vpi8 (by assumption) (by assumption)
    | with_reducible exact trivial
    | with_reducible exact hX (fun h => absurd h.1 (by assumption))
    | with_reducible exact hX (fun h => absurd h.2 (by assumption))
    | with_reducible refine fX1_needCard (a0 := a0) (fun _ => ?_) (fun k0 => ?_)
    | with_reducible exact vpi6 k0.1 k0.2
    | with_reducible refine fX1_needCard (a0 := a1) (fun _ => ?_) (fun k1 => ?_)
    | with_reducible exact vpi6 k1.1 k1.2
    | with_reducible refine fX1_rangeOf (a0 := a0) hC (fun _ => ?_) (fun _ e1 => ?_) (fun _ p r e1 hp => ?_)
    | with_reducible refine go_F hp ?_
    | with_reducible exact go_F hp trivial
    | with_reducible refine fX1_rangeOf (a0 := a1) hC (fun _ => ?_) (fun _ e2 => ?_) (fun _ p2 r2 e2 hp2 => ?_)
    | with_reducible refine go_F hp2 ?_
    | with_reducible exact go_F hp2 trivial
    | with_reducible exact hS k0 k1 (Or.inl e1)
    | with_reducible exact hS k0 k1 (Or.inr e2)
    | with_reducible refine fX0_matchesR hp hp2 (fun hm => ?_) (fun hm => ?_)
    | with_reducible exact hT k0 k1 r r2 e1 e2 hm
    | with_reducible exact hF k0 k1 r r2 e1 e2 hm
    | simp only [eX1_areSame_0, eX1_areSame_1, eX1_areSame_4, eX1_areSame_5, eX1_areSame_8, eX1_areSame_8N, eX1_areSame_9, eX1_areSame_10, eX1_areSame_13, eX1_areSame_13N, eX1_areSame_14, eX1_areSame_15, eX1_areSame_18R, eX1_areSame_18N, eX1_areSame_21, lgp, lgn, lgz, i10, i00, if_true, if_false, eq_self, not_true, not_false_eq_true, rx, rn, rc, rl, hx, hn, hc, hl, d1, d2, d3, d4, d5, d6, d7, d8, d9, d10, d11, d12, rd_n, upw_n, ite_le, n45, n54, true_or, or_true, false_or, or_false, false_and, and_false, kx_l, kx_r, go_s, gl_s, gi_s, gb_s2, gb_s3, gq_s, wt_nil, wt_int, wt_long, wt_ref, wt_null, nl_int, nl_long, nl_ref, nl_null, nl_none, rf_n, rf_s, rf_st, tl_s, tl_n, g0, gS, ex1, nb_b, nb_0, nb_1, nf_i, nf_l, nf_ra, nf_ro, nf_na, nf_no, nf_b0, nf_z0, t45_4, t45_5, true_and, and_true, List.set_cons_zero, List.set_cons_succ, List.length_cons, List.length_nil, rd_s, upw_s, ne_eq, not_false_eq_true, Nat.zero_add, Nat.add_zero]
    | split
    | with_reducible intro _
    | omega
end
end
/-! 71.fn8.lean.txt -/
section
section
variable {g : RO} {Q : Ot → Hw → Prop} {w0 w : Hw} {x nA cA lA : Nat} {kn : Int32}
/-! FUNCTIONAL SPECS, 8: the pile -/
theorem sal {b : Nat} {P : Nat → Prop} : (∀ c, some b = some c → P c) = P b := propext ⟨fun h => h b rfl, fun h c e => by cases e; exact h⟩
theorem snn {b : Nat} {P : Prop} : ((some b : Option Nat) = none → P) = True := eq_true (fun e => by cases e)
theorem inv_s {P : Nat → Prop} {j : Nat} (h : ∀ i, i < j → P i) (hj : P j) : ∀ i, i < j + 1 → P i := fun i hi => by
  rcases Nat.lt_succ_iff_lt_or_eq.mp hi with k | rfl
  · exact h i k
  · exact hj
theorem cnt12 {n : Int32} (h0 : ¬ n < 0) (h1 : ¬ 12 < n) : n.toInt = ((n.toInt.toNat : Nat) : Int) ∧ n.toInt.toNat ≤ 12 := by
  have k0 := i32_0 h0
  have k1 := i32_nlt h1
  have z : (12 : Int32).toInt = 12 := rfl
  omega
theorem vpj {j : Nat} (h : j < 12) : vp_in (Int32.ofNat j) 12 := by
  rintro (k | k)
  · exact oN0 (by omega) k
  · rw [oNc (by omega)] at k
    omega
set_option maxHeartbeats 4000000 in
theorem flX1_firstPlaceOf_2 {s : AS} {p : Nat} {r : R4} (hC : CS g w0 x nA cA lA kn s w) (hp : rAt w p r) (hN : (∀ i, i < s.2.2.1.toInt.toNat → ¬ mP r (s.2.2.2.1 i)) → Q (.inl (some (.int (-1)))) w) (hS : ∀ i, i < s.2.2.1.toInt.toNat → mP r (s.2.2.2.1 i) → (∀ k, k < i → ¬ mP r (s.2.2.2.1 k)) → Q (.inl (some (.int (Int32.ofNat i)))) w) : ∀ (d j : Nat) (k m : Nat), j + d = s.2.2.1.toInt.toNat → (∀ i, i < j → ¬ mP r (s.2.2.2.1 i)) → k ≤ 0 → m ≤ 0 → WP (MX1_firstPlaceOf g) Q (2, [some (.ref x), some (.ref p), some (.int (Int32.ofNat j))], [], w, k, m) := by
  obtain ⟨gc, gl, ⟨hx, hn, hc, hl, hgc, hgl, hn0, hn1, rx, rn, rc, rl, ⟨d1, d2, d3, d4, d5, d6⟩, ⟨d7, d8, d9, d10, d11, d12⟩⟩, hcd, hpl⟩ := hC.1.opn g
  obtain ⟨he, h12⟩ := cnt12 hn0 hn1
  intro d
  induction d with
  | zero =>
    intro j k m hjd hinv hk hm
    have h9 : j < 1000 := by omega
    have hlt : ¬ Int32.ofNat j < s.2.2.1 := oNg h9 he (by omega)
    obtain rfl : j = s.2.2.1.toInt.toNat := by omega
    rw [eX1_firstPlaceOf_2]
    repeat' first
      | with_reducible assumption
      | with_reducible refine And.intro ?_ ?_
      | with_reducible exact vpi6 (by assumption) (by assumption)
      | with_reducible exact vpi8 (by assumption) (by assumption)
      | with_reducible exact trivial
      | with_reducible exact hN hinv
      | simp only [eX1_firstPlaceOf_0, eX1_firstPlaceOf_1, eX1_firstPlaceOf_3, eX1_firstPlaceOf_3N, eX1_firstPlaceOf_4, eX1_firstPlaceOf_7, eX1_firstPlaceOf_10, eX1_firstPlaceOf_10N, eX1_firstPlaceOf_11, eX1_firstPlaceOf_11N, eX1_firstPlaceOf_12, eX1_firstPlaceOf_15, eX1_firstPlaceOf_16, eX1_firstPlaceOf_17R, eX1_firstPlaceOf_17N, eX1_firstPlaceOf_20, eX1_firstPlaceOf_23, eX1_firstPlaceOf_24, eX1_firstPlaceOf_25, eX1_firstPlaceOf_28, eX1_firstPlaceOf_31, eX1_firstPlaceOf_32, lgp, lgn, lgz, i10, i00, if_true, if_false, eq_self, not_true, not_false_eq_true, rx, rn, rc, rl, hx, hn, hc, hl, d1, d2, d3, d4, d5, d6, d7, d8, d9, d10, d11, d12, rd_n, upw_n, hlt, ite_le, n45, n54, true_or, or_true, false_or, or_false, false_and, and_false, kx_l, kx_r, go_s, gl_s, gi_s, gb_s2, gb_s3, gq_s, wt_nil, wt_int, wt_long, wt_ref, wt_null, nl_int, nl_long, nl_ref, nl_null, nl_none, rf_n, rf_s, rf_st, tl_s, tl_n, g0, gS, ex1, nb_b, nb_0, nb_1, nf_i, nf_l, nf_ra, nf_ro, nf_na, nf_no, nf_b0, nf_z0, t45_4, t45_5, true_and, and_true, List.set_cons_zero, List.set_cons_succ, List.length_cons, List.length_nil, rd_s, upw_s, ne_eq, not_false_eq_true, Nat.zero_add, Nat.add_zero]
      | split
      | with_reducible intro _
      | omega
  | succ d ih =>
    intro j k m hjd hinv hk hm
    have h9 : j < 1000 := by omega
    have hlt : Int32.ofNat j < s.2.2.1 := oNl h9 he (by omega)
    have hcl := oNc h9
    obtain ⟨b, hb, hrb⟩ := hpl j (by omega)
    rw [eX1_firstPlaceOf_2]
    repeat' first
      | with_reducible assumption
      | with_reducible refine And.intro ?_ ?_
      | with_reducible exact vpi6 (by assumption) (by assumption)
      | with_reducible exact vpi8 (by assumption) (by assumption)
      | with_reducible exact trivial
      | with_reducible exact vpj (by omega)
      | with_reducible exact go_F hp trivial
      | with_reducible refine fX0_matchesR hp hrb (fun hm => ?_) (fun hm => ?_)
      | with_reducible exact hS j (by omega) hm hinv
      | (rw [oN1]; exact ih (j + 1) _ _ (by omega) (inv_s hinv hm) (by first | assumption | omega) (by first | assumption | omega))
      | simp only [eX1_firstPlaceOf_0, eX1_firstPlaceOf_1, eX1_firstPlaceOf_3, eX1_firstPlaceOf_3N, eX1_firstPlaceOf_4, eX1_firstPlaceOf_7, eX1_firstPlaceOf_10, eX1_firstPlaceOf_10N, eX1_firstPlaceOf_11, eX1_firstPlaceOf_11N, eX1_firstPlaceOf_12, eX1_firstPlaceOf_15, eX1_firstPlaceOf_16, eX1_firstPlaceOf_17R, eX1_firstPlaceOf_17N, eX1_firstPlaceOf_20, eX1_firstPlaceOf_23, eX1_firstPlaceOf_24, eX1_firstPlaceOf_25, eX1_firstPlaceOf_28, eX1_firstPlaceOf_31, eX1_firstPlaceOf_32, lgp, lgn, lgz, i10, i00, if_true, if_false, eq_self, not_true, not_false_eq_true, rx, rn, rc, rl, hx, hn, hc, hl, d1, d2, d3, d4, d5, d6, d7, d8, d9, d10, d11, d12, rd_n, upw_n, hlt, hcl, hb, sal, snn, ite_le, n45, n54, true_or, or_true, false_or, or_false, false_and, and_false, kx_l, kx_r, go_s, gl_s, gi_s, gb_s2, gb_s3, gq_s, wt_nil, wt_int, wt_long, wt_ref, wt_null, nl_int, nl_long, nl_ref, nl_null, nl_none, rf_n, rf_s, rf_st, tl_s, tl_n, g0, gS, ex1, nb_b, nb_0, nb_1, nf_i, nf_l, nf_ra, nf_ro, nf_na, nf_no, nf_b0, nf_z0, t45_4, t45_5, true_and, and_true, List.set_cons_zero, List.set_cons_succ, List.length_cons, List.length_nil, rd_s, upw_s, ne_eq, not_false_eq_true, Nat.zero_add, Nat.add_zero]
      | split
      | with_reducible intro _
      | omega
set_option maxHeartbeats 4000000 in
theorem fX1_firstPlaceOf {s : AS} {p : Nat} {r : R4} (hC : CS g w0 x nA cA lA kn s w) (hp : rAt w p r) (hN : (∀ i, i < s.2.2.1.toInt.toNat → ¬ mP r (s.2.2.2.1 i)) → Q (.inl (some (.int (-1)))) w) (hS : ∀ i, i < s.2.2.1.toInt.toNat → mP r (s.2.2.2.1 i) → (∀ k, k < i → ¬ mP r (s.2.2.2.1 k)) → Q (.inl (some (.int (Int32.ofNat i)))) w) : WP (MX1_firstPlaceOf g) Q (0, [some (.ref x), some (.ref p), none], [], w, 0, 0) := by
  repeat' first
    | with_reducible assumption
    | with_reducible refine And.intro ?_ ?_
    | with_reducible exact vpi6 (by assumption) (by assumption)
    | with_reducible exact vpi8 (by assumption) (by assumption)
    | with_reducible exact trivial
    | ((with_reducible refine isWP (pc := 2) ?_); exact flX1_firstPlaceOf_2 hC hp hN hS _ 0 _ _ (Nat.zero_add _) (fun i h => absurd h (Nat.not_lt_zero i)) (by decide) (by decide))
    | simp only [eX1_firstPlaceOf_0, eX1_firstPlaceOf_1, eX1_firstPlaceOf_3, eX1_firstPlaceOf_3N, eX1_firstPlaceOf_4, eX1_firstPlaceOf_7, eX1_firstPlaceOf_10, eX1_firstPlaceOf_10N, eX1_firstPlaceOf_11, eX1_firstPlaceOf_11N, eX1_firstPlaceOf_12, eX1_firstPlaceOf_15, eX1_firstPlaceOf_16, eX1_firstPlaceOf_17R, eX1_firstPlaceOf_17N, eX1_firstPlaceOf_20, eX1_firstPlaceOf_23, eX1_firstPlaceOf_24, eX1_firstPlaceOf_25, eX1_firstPlaceOf_28, eX1_firstPlaceOf_31, eX1_firstPlaceOf_32, lgp, lgn, lgz, i10, i00, if_true, if_false, eq_self, not_true, not_false_eq_true, ite_le, n45, n54, true_or, or_true, false_or, or_false, false_and, and_false, kx_l, kx_r, go_s, gl_s, gi_s, gb_s2, gb_s3, gq_s, wt_nil, wt_int, wt_long, wt_ref, wt_null, nl_int, nl_long, nl_ref, nl_null, nl_none, rf_n, rf_s, rf_st, tl_s, tl_n, g0, gS, ex1, nb_b, nb_0, nb_1, nf_i, nf_l, nf_ra, nf_ro, nf_na, nf_no, nf_b0, nf_z0, t45_4, t45_5, true_and, and_true, List.set_cons_zero, List.set_cons_succ, List.length_cons, List.length_nil, rd_s, upw_s, ne_eq, not_false_eq_true, Nat.zero_add, Nat.add_zero]
    | split
    | with_reducible intro _
    | omega
theorem CS.lay {s : AS} {b : Nat} {r : R4} {gl : Nat → Option Nat} (h : CS g w0 x nA cA lA kn s w) (hl : w lA = some (.inl (4, 12, qc gl))) (hb : rAt w b r) (h11 : s.2.2.1 < 12) : CS g w0 x nA cA lA kn (sP_ s (s.2.2.1 + 1) (va_up s.2.2.2.1 s.2.2.1.toNatClampNeg r)) (upw (upw w lA (.inl (4, 12, qc (va_up gl s.2.2.1.toNatClampNeg (some b))))) x (.inr (5, [.ref nA, .ref cA, .ref lA, .int (s.2.2.1 + 1), .int s.2.2.2.2.1, .int kn, .int s.2.2.2.2.2]))) := by
  obtain ⟨gc, gl', ⟨h1, h2, h3, h4, h5, h6, h7, h8, -, -, -, -, ⟨d1, d2, d3, d4, d5, d6⟩, ⟨d7, d8, d9, d10, d11, d12⟩⟩, k1, k2⟩ := h.1.opn (fun _ => .null, fun _ => none)
  rw [hl] at h4
  cases h4
  have q0 := i32_0 h7
  have q1 := i32_lt h11
  have z : (12 : Int32).toInt = 12 := rfl
  have e1 : (s.2.2.1 + 1).toInt = s.2.2.1.toInt + 1 := i32p1 q0 (by omega)
  have hx' : upw w lA (.inl (4, 12, qc (va_up gl s.2.2.1.toNatClampNeg (some b)))) x = some (.inr (5, [.ref nA, .ref cA, .ref lA, .int s.2.2.1, .int s.2.2.2.2.1, .int kn, .int s.2.2.2.2.2])) := by rw [upw_n d3]; exact h1
  have R : ∀ c q, rAt w c q → rAt (upw (upw w lA (.inl (4, 12, qc (va_up gl s.2.2.1.toNatClampNeg (some b))))) x (.inr (5, [.ref nA, .ref cA, .ref lA, .int (s.2.2.1 + 1), .int s.2.2.2.2.1, .int kn, .int s.2.2.2.2.2]))) c q := fun c q hc => rAt_up2 (rAt_up2 hc hl (by simp)) hx' (by simp)
  have RR : ∀ c, isR w c → isR (upw (upw w lA (.inl (4, 12, qc (va_up gl s.2.2.1.toNatClampNeg (some b))))) x (.inr (5, [.ref nA, .ref cA, .ref lA, .int (s.2.2.1 + 1), .int s.2.2.2.2.1, .int kn, .int s.2.2.2.2.2]))) c := fun c hc => isR_up2 (isR_up2 hc hl (by simp)) hx' (by simp)
  refine ⟨⟨gc, va_up gl s.2.2.1.toNatClampNeg (some b), ⟨upw_s _ _ _, by rw [upw_n d4, upw_n d6]; exact h2, by rw [upw_n d7, upw_n d9]; exact h3, by rw [upw_n d10]; exact upw_s _ _ _, fun i c z => RR c (h5 i c z), fun i c z => RR c ?_, i32_of_nlt (by show (0 : Int) ≤ (s.2.2.1 + 1).toInt; omega), i32_of_nlt (by show (s.2.2.1 + 1).toInt ≤ (12 : Int); omega)⟩, fun i hi => (k1 i hi).mp R, fun i hi => ?_⟩, (h.2.up hl (Or.inr rfl)).up hx' (Or.inr rfl)⟩
  · exact up_ok h6 (fun c e => by cases e; exact hb.isR) i c z
  · have hi' : (i : Int) < s.2.2.1.toInt + 1 := by
      have hi2 : (i : Int) < (s.2.2.1 + 1).toInt := hi
      omega
    have t : s.2.2.1.toNatClampNeg = s.2.2.1.toInt.toNat := rfl
    show ∃ c, va_up gl s.2.2.1.toNatClampNeg (some b) i = some c ∧ rAt _ c (va_up s.2.2.2.1 s.2.2.1.toNatClampNeg r i)
    unfold va_up
    by_cases e : i = s.2.2.1.toNatClampNeg
    · rw [if_pos e, if_pos e]
      exact ⟨b, rfl, R _ _ hb⟩
    · rw [if_neg e, if_neg e]
      exact (k2 i (by omega)).imp fun c z => ⟨z.1, R _ _ z.2⟩
theorem o12 : Int32.ofNat 12 = 12 := rfl
theorem i12n : ¬ (12 : Int32) < 12 := by decide
theorem vp12 {n : Int32} (h0 : ¬ n < 0) (h : n < 12) : vp_in n 12 := vpi12 h0 h i12n
set_option maxHeartbeats 4000000 in
theorem fX1_lay {s : AS} {a0 : Int32} (hC : CS g w0 x nA cA lA kn s w) (hX : ¬ okC a0 → (Q (.inr "java/lang/IndexOutOfBoundsException") w)) (hS : okC a0 → s.2.1 a0.toNatClampNeg = none → (Q (.inr "java/lang/IllegalStateException") w)) (hF : okC a0 → ∀ r, s.2.1 a0.toNatClampNeg = some r → ¬ s.2.2.1 < 12 → ∀ w', CS g w0 x nA cA lA kn (sRf s) w' → Q (.inl (some (.int (-9)))) w') (hQ : okC a0 → ∀ r, s.2.1 a0.toNatClampNeg = some r → s.2.2.1 < 12 → ∀ w', CS g w0 x nA cA lA kn (sP_ s (s.2.2.1 + 1) (va_up s.2.2.2.1 s.2.2.1.toNatClampNeg r)) w' → Q (.inl (some (.int (s.2.2.1 + 1)))) w') : WP (MX1_lay g) Q (0, [some (.ref x), some (.int a0), none], [], w, 0, 0) := by
  obtain ⟨gc, gl, ⟨hx, hn, hc, hl, hgc, hgl, hn0, hn1, rx, rn, rc, rl, ⟨d1, d2, d3, d4, d5, d6⟩, ⟨d7, d8, d9, d10, d11, d12⟩⟩, hcd, hpl⟩ := hC.1.opn g
  repeat' first
    | with_reducible assumption
    | with_reducible refine And.intro ?_ ?_
    | with_reducible exact vpi6 (by assumption) (by assumption)
    | with_reducible exact vpi8 (by assumption) (by assumption)
    | with_reducible exact trivial
    | with_reducible exact hX (by assumption)
    | with_reducible refine fX1_rangeOf (a0 := a0) hC (fun _ => ?_) (fun k0 e1 => ?_) (fun k0 p r e1 hp => ?_)
    | with_reducible refine go_F hp ?_
    | with_reducible exact go_F hp trivial
    | with_reducible exact hS k0 e1
    | with_reducible refine Or.inl ?_
    | with_reducible exact go_Fw hp trivial
    | with_reducible exact absurd (by assumption) hn0
    | with_reducible refine fX1_refuse hC (fun w1 g1 g2 => ?_)
    | with_reducible exact hF k0 r e1 (by assumption) w1 g1
    | with_reducible exact vpi12 hn0 (by assumption) i12n
    | with_reducible exact vp12 hn0 (by assumption)
    | ((with_reducible refine isQ (Q := Q) ?_); exact hQ k0 r e1 (by assumption) _ (hC.lay hl hp (by assumption)))
    | simp only [eX1_lay_0, eX1_lay_0N, eX1_lay_1, eX1_lay_2, eX1_lay_5, eX1_lay_5N, eX1_lay_6, eX1_lay_6N, eX1_lay_7, eX1_lay_10, eX1_lay_13, eX1_lay_13N, eX1_lay_14, eX1_lay_17, eX1_lay_17N, eX1_lay_18, eX1_lay_21, eX1_lay_22, eX1_lay_25, eX1_lay_25N, eX1_lay_26, eX1_lay_29, eX1_lay_30, eX1_lay_30N, eX1_lay_31, eX1_lay_34, eX1_lay_34N, eX1_lay_35, eX1_lay_38, eX1_lay_38N, eX1_lay_39N, eX1_lay_39R, eX1_lay_40, eX1_lay_40N, eX1_lay_41, eX1_lay_41R, eX1_lay_42, eX1_lay_45, eX1_lay_46, eX1_lay_47, eX1_lay_50, eX1_lay_50N, eX1_lay_51, eX1_lay_54, lgp, lgn, lgz, i10, i00, if_true, if_false, eq_self, not_true, not_false_eq_true, rx, rn, rc, rl, hx, hn, hc, hl, d1, d2, d3, d4, d5, d6, d7, d8, d9, d10, d11, d12, rd_n, upw_n, exal, o12, ite_le, n45, n54, true_or, or_true, false_or, or_false, false_and, and_false, kx_l, kx_r, go_s, gl_s, gi_s, gb_s2, gb_s3, gq_s, wt_nil, wt_int, wt_long, wt_ref, wt_null, nl_int, nl_long, nl_ref, nl_null, nl_none, rf_n, rf_s, rf_st, tl_s, tl_n, g0, gS, ex1, nb_b, nb_0, nb_1, nf_i, nf_l, nf_ra, nf_ro, nf_na, nf_no, nf_b0, nf_z0, t45_4, t45_5, true_and, and_true, List.set_cons_zero, List.set_cons_succ, List.length_cons, List.length_nil, rd_s, upw_s, ne_eq, not_false_eq_true, Nat.zero_add, Nat.add_zero]
    | split
    | with_reducible intro _
    | omega
end
end
/-! 71.fn9.lean.txt -/
section
section
variable {g : RO} {Q : Ot → Hw → Prop} {w0 w : Hw} {x nA cA lA : Nat} {kn : Int32}
/-! FUNCTIONAL SPECS, 9: places -/
abbrev okP (n a : Int32) : Prop := ¬ a < 0 ∧ a < n
theorem plB {n a : Int32} (h : okP n a) : (a.toNatClampNeg : Int) < n.toInt := by
  have h1 := i32_0 h.1
  have h2 := i32_lt h.2
  have e : a.toNatClampNeg = a.toInt.toNat := rfl
  omega
theorem plj {gl : Nat → Option Nat} {f : Nat → R4} {n : Int} {j b : Nat} (hpl : ∀ i : Nat, (i : Int) < n → ∃ b, gl i = some b ∧ rAt w b (f i)) (h : (j : Int) < n) (e : gl j = some b) : rAt w b (f j) := by
  obtain ⟨c, hc, hr⟩ := hpl j h
  rw [hc] at e
  cases e
  exact hr
theorem pln {gl : Nat → Option Nat} {f : Nat → R4} {n : Int} {j : Nat} (hpl : ∀ i : Nat, (i : Int) < n → ∃ b, gl i = some b ∧ rAt w b (f i)) (h : (j : Int) < n) : ¬ gl j = none := by
  obtain ⟨c, hc, hr⟩ := hpl j h
  rw [hc]
  exact fun z => by cases z
theorem cntE {n : Int32} (h0 : ¬ n < 0) (h1 : ¬ 12 < n) : Int32.ofNat n.toInt.toNat = n := by
  obtain ⟨h2, h3⟩ := cnt12 h0 h1
  exact Int32.toInt_inj.1 (by rw [oNt (by omega)]; omega)
theorem oMz : Int32.ofNat 0 - 1 < 0 := by decide
theorem oMd {j : Nat} : Int32.ofNat j + -1 = Int32.ofNat j - 1 := (Int32.sub_eq_add_neg _ _).symm
theorem oMs {j : Nat} (h : j + 1 < 1000) : Int32.ofNat (j + 1) - 1 = Int32.ofNat j := by
  refine Int32.toInt_inj.1 ?_
  have e1 : (1 : Int32).toInt = 1 := rfl
  have a1 := oNt h
  have a2 := oNt (j := j) (by omega)
  rw [i32_sub (by rw [a1, e1]; omega) (by rw [a1, e1]; omega), a1, a2, e1]
  omega
theorem vX0_matches {p q : Nat} {r s : R4} (hp : rAt w p r) (hq : rAt w q s) (hQ : Q (.inl (some (.int (bI (decide (mP r s)))))) w) : WP (MX0_matches g) Q (0, [some (.ref p), some (.ref q)], [], w, 0, 0) := fX0_matchesR hp hq (fun h => by rw [decide_eq_true h] at hQ; exact hQ) (fun h => by rw [decide_eq_false h] at hQ; exact hQ)
set_option maxHeartbeats 4000000 in
theorem fX1_needPlace {s : AS} {a0 : Int32} (hC : CS g w0 x nA cA lA kn s w) (hX : ¬ okP s.2.2.1 a0 → (Q (.inr "java/lang/IndexOutOfBoundsException") w)) (hQ : okP s.2.2.1 a0 → Q (.inl none) w) : WP (MX1_needPlace g) Q (0, [some (.ref x), some (.int a0)], [], w, 0, 0) := by
  obtain ⟨gc, gl, ⟨hx, hn, hc, hl, hgc, hgl, hn0, hn1, rx, rn, rc, rl, ⟨d1, d2, d3, d4, d5, d6⟩, ⟨d7, d8, d9, d10, d11, d12⟩⟩, hcd, hpl⟩ := hC.1.opn g
  repeat' first
    | with_reducible assumption
    | with_reducible refine And.intro ?_ ?_
    | with_reducible exact vpi6 (by assumption) (by assumption)
    | with_reducible exact vpi8 (by assumption) (by assumption)
    | with_reducible exact trivial
    | with_reducible exact hQ ⟨by assumption, by assumption⟩
    | with_reducible exact hX (fun h => absurd (by assumption) h.1)
    | with_reducible exact hX (fun h => absurd h.2 (by assumption))
    | simp only [eX1_needPlace_0, eX1_needPlace_1, eX1_needPlace_4, eX1_needPlace_5, eX1_needPlace_5N, eX1_needPlace_6, eX1_needPlace_9, eX1_needPlace_12, eX1_needPlace_22, lgp, lgn, lgz, i10, i00, if_true, if_false, eq_self, not_true, not_false_eq_true, rx, rn, rc, rl, hx, hn, hc, hl, d1, d2, d3, d4, d5, d6, d7, d8, d9, d10, d11, d12, rd_n, upw_n, ite_le, n45, n54, true_or, or_true, false_or, or_false, false_and, and_false, kx_l, kx_r, go_s, gl_s, gi_s, gb_s2, gb_s3, gq_s, wt_nil, wt_int, wt_long, wt_ref, wt_null, nl_int, nl_long, nl_ref, nl_null, nl_none, rf_n, rf_s, rf_st, tl_s, tl_n, g0, gS, ex1, nb_b, nb_0, nb_1, nf_i, nf_l, nf_ra, nf_ro, nf_na, nf_no, nf_b0, nf_z0, t45_4, t45_5, true_and, and_true, List.set_cons_zero, List.set_cons_succ, List.length_cons, List.length_nil, rd_s, upw_s, ne_eq, not_false_eq_true, Nat.zero_add, Nat.add_zero]
    | split
    | with_reducible intro _
    | omega
set_option maxHeartbeats 4000000 in
theorem fX1_pick {s : AS} {a0 a1 : Int32} (hC : CS g w0 x nA cA lA kn s w) (hX : ¬ (okP s.2.2.1 a0 ∧ okC a1) → (Q (.inr "java/lang/IndexOutOfBoundsException") w)) (hN : okP s.2.2.1 a0 → okC a1 → s.2.1 a1.toNatClampNeg = none → ∀ w', CS g w0 x nA cA lA kn (sC s (va_up s.2.1 a1.toNatClampNeg (some (s.2.2.2.1 a0.toNatClampNeg)))) w' → Q (.inl (some (.int 0))) w') (hS : okP s.2.2.1 a0 → okC a1 → ∀ r, s.2.1 a1.toNatClampNeg = some r → ∀ w', CS g w0 x nA cA lA kn (sC s (va_up s.2.1 a1.toNatClampNeg (some (s.2.2.2.1 a0.toNatClampNeg)))) w' → Q (.inl (some (.int 1))) w') : WP (MX1_pick g) Q (0, [some (.ref x), some (.int a0), some (.int a1), none], [], w, 0, 0) := by
  obtain ⟨gc, gl, ⟨hx, hn, hc, hl, hgc, hgl, hn0, hn1, rx, rn, rc, rl, ⟨d1, d2, d3, d4, d5, d6⟩, ⟨d7, d8, d9, d10, d11, d12⟩⟩, hcd, hpl⟩ := hC.1.opn g
  repeat' first
    | with_reducible assumption
    | with_reducible refine And.intro ?_ ?_
    | with_reducible exact vpi6 (by assumption) (by assumption)
    | with_reducible exact vpi8 (by assumption) (by assumption)
    | with_reducible exact trivial
    | with_reducible exact hX (fun h => absurd h.1 (by assumption))
    | with_reducible exact hX (fun h => absurd h.2 (by assumption))
    | with_reducible refine fX1_needPlace (a0 := a0) hC (fun _ => ?_) (fun k0 => ?_)
    | with_reducible exact vpi12 k0.1 k0.2 hn1
    | with_reducible refine fX1_needCard (a0 := a1) (fun _ => ?_) (fun k1 => ?_)
    | with_reducible exact vpi6 k1.1 k1.2
    | with_reducible refine fX1_asNumber (Or.inl rfl) ?_
    | with_reducible refine fX1_asNumber (Or.inr rfl) ?_
    | with_reducible refine Or.inl ?_
    | with_reducible exact absurd (by assumption) (pln hpl (plB k0))
    | with_reducible exact go_Fw (plj hpl (plB k0) (by assumption)) trivial
    | ((with_reducible refine isQ (Q := Q) ?_); exact hN k0 k1 (cdN hcd k1 (by assumption)) _ (hC.card gc hc a1.toNatClampNeg (some _) (some _) (plj hpl (plB k0) (by assumption))))
    | ((with_reducible refine isQ (Q := Q) ?_); exact (cdS hcd k1 (by assumption)).elim (fun r h => hS k0 k1 r h.1 _ (hC.card gc hc a1.toNatClampNeg (some _) (some _) (plj hpl (plB k0) (by assumption)))))
    | simp only [eX1_pick_0, eX1_pick_0N, eX1_pick_1, eX1_pick_2, eX1_pick_5, eX1_pick_6, eX1_pick_9, eX1_pick_9N, eX1_pick_10, eX1_pick_13, eX1_pick_14, eX1_pick_15R, eX1_pick_15N, eX1_pick_18, eX1_pick_19, eX1_pick_22, eX1_pick_23, eX1_pick_26, eX1_pick_27, eX1_pick_27N, eX1_pick_28, eX1_pick_31, eX1_pick_32, eX1_pick_32N, eX1_pick_33, eX1_pick_36, eX1_pick_37, eX1_pick_38N, eX1_pick_38R, eX1_pick_39, eX1_pick_40, lgp, lgn, lgz, i10, i00, if_true, if_false, eq_self, not_true, not_false_eq_true, rx, rn, rc, rl, hx, hn, hc, hl, d1, d2, d3, d4, d5, d6, d7, d8, d9, d10, d11, d12, rd_n, upw_n, ite_le, n45, n54, true_or, or_true, false_or, or_false, false_and, and_false, kx_l, kx_r, go_s, gl_s, gi_s, gb_s2, gb_s3, gq_s, wt_nil, wt_int, wt_long, wt_ref, wt_null, nl_int, nl_long, nl_ref, nl_null, nl_none, rf_n, rf_s, rf_st, tl_s, tl_n, g0, gS, ex1, nb_b, nb_0, nb_1, nf_i, nf_l, nf_ra, nf_ro, nf_na, nf_no, nf_b0, nf_z0, t45_4, t45_5, true_and, and_true, List.set_cons_zero, List.set_cons_succ, List.length_cons, List.length_nil, rd_s, upw_s, ne_eq, not_false_eq_true, Nat.zero_add, Nat.add_zero]
    | split
    | with_reducible intro _
    | omega
set_option maxHeartbeats 4000000 in
theorem flX1_timesLaid_4 {s : AS} {p : Nat} {r : R4} (hC : CS g w0 x nA cA lA kn s w) (hp : rAt w p r) (hQ : Q (.inl (some (.int (fsum (fun j => bI (decide (mP r (s.2.2.2.1 j)))) s.2.2.1.toInt.toNat)))) w) : ∀ (d j : Nat)  (k m : Nat), j + d = s.2.2.1.toInt.toNat → k ≤ 0 → m ≤ 0 → WP (MX1_timesLaid g) Q (4, [some (.ref x), some (.ref p), some (.int (fsum (fun j => bI (decide (mP r (s.2.2.2.1 j)))) j)), some (.int (Int32.ofNat j))], [], w, k, m) := by
  obtain ⟨gc, gl, ⟨hx, hn, hc, hl, hgc, hgl, hn0, hn1, rx, rn, rc, rl, ⟨d1, d2, d3, d4, d5, d6⟩, ⟨d7, d8, d9, d10, d11, d12⟩⟩, hcd, hpl⟩ := hC.1.opn g
  intro d
  induction d with
  | zero =>
    intro j  k m hjd hk hm
    have h9 : j < 1000 := (by have := (cnt12 hn0 hn1).2; omega)
    have hlt : ¬ Int32.ofNat j < s.2.2.1 := oNg (B := s.2.2.1.toInt.toNat) h9 (cnt12 hn0 hn1).1 (by omega)
    have hnn := oN0 h9
    have hcl := oNc h9
    obtain rfl : j = s.2.2.1.toInt.toNat := by omega
    rw [eX1_timesLaid_4]
    repeat' first
      | with_reducible assumption
      | with_reducible refine And.intro ?_ ?_
      | with_reducible exact vpi6 (by assumption) (by assumption)
      | with_reducible exact vpi8 (by assumption) (by assumption)
      | with_reducible exact trivial
      | with_reducible exact vpj (j := j) (by have := (cnt12 hn0 hn1).2; omega)
      | with_reducible exact go_F hp trivial
      | with_reducible exact absurd (by assumption) (pln (j := j) hpl (by omega))
      | with_reducible refine vX0_matches hp (plj (j := j) hpl (by omega) (by assumption)) ?_
      | with_reducible refine fX1_asNumber (bI01 _) ?_
      | ((with_reducible refine isQ (Q := Q) ?_); exact hQ)
      | simp only [eX1_timesLaid_0, eX1_timesLaid_1, eX1_timesLaid_2, eX1_timesLaid_3, eX1_timesLaid_5, eX1_timesLaid_5N, eX1_timesLaid_6, eX1_timesLaid_9, eX1_timesLaid_12, eX1_timesLaid_13, eX1_timesLaid_13N, eX1_timesLaid_14, eX1_timesLaid_14N, eX1_timesLaid_15, eX1_timesLaid_18, eX1_timesLaid_19, eX1_timesLaid_20R, eX1_timesLaid_20N, eX1_timesLaid_23, eX1_timesLaid_26, eX1_timesLaid_27, eX1_timesLaid_28, eX1_timesLaid_31, eX1_timesLaid_34, eX1_timesLaid_35, lgp, lgn, lgz, i10, i00, if_true, if_false, eq_self, not_true, not_false_eq_true, hlt, hcl, rx, rn, rc, rl, hx, hn, hc, hl, d1, d2, d3, d4, d5, d6, d7, d8, d9, d10, d11, d12, rd_n, upw_n, ite_le, n45, n54, true_or, or_true, false_or, or_false, false_and, and_false, kx_l, kx_r, go_s, gl_s, gi_s, gb_s2, gb_s3, gq_s, wt_nil, wt_int, wt_long, wt_ref, wt_null, nl_int, nl_long, nl_ref, nl_null, nl_none, rf_n, rf_s, rf_st, tl_s, tl_n, g0, gS, ex1, nb_b, nb_0, nb_1, nf_i, nf_l, nf_ra, nf_ro, nf_na, nf_no, nf_b0, nf_z0, t45_4, t45_5, true_and, and_true, List.set_cons_zero, List.set_cons_succ, List.length_cons, List.length_nil, rd_s, upw_s, ne_eq, not_false_eq_true, Nat.zero_add, Nat.add_zero]
      | split
      | with_reducible intro _
      | omega
  | succ d ih =>
    intro j  k m hjd hk hm
    have h9 : j < 1000 := (by have := (cnt12 hn0 hn1).2; omega)
    have hlt : Int32.ofNat j < s.2.2.1 := oNl (B := s.2.2.1.toInt.toNat) h9 (cnt12 hn0 hn1).1 (by omega)
    have hnn := oN0 h9
    have hcl := oNc h9
    rw [eX1_timesLaid_4]
    repeat' first
      | with_reducible assumption
      | with_reducible refine And.intro ?_ ?_
      | with_reducible exact vpi6 (by assumption) (by assumption)
      | with_reducible exact vpi8 (by assumption) (by assumption)
      | with_reducible exact trivial
      | (rw [oN1]; exact ih (j + 1)  _ _ (by omega) (by first | assumption | omega) (by first | assumption | omega))
      | with_reducible exact vpj (j := j) (by have := (cnt12 hn0 hn1).2; omega)
      | with_reducible exact go_F hp trivial
      | with_reducible exact absurd (by assumption) (pln (j := j) hpl (by omega))
      | with_reducible refine vX0_matches hp (plj (j := j) hpl (by omega) (by assumption)) ?_
      | with_reducible refine fX1_asNumber (bI01 _) ?_
      | ((with_reducible refine isQ (Q := Q) ?_); exact hQ)
      | simp only [eX1_timesLaid_0, eX1_timesLaid_1, eX1_timesLaid_2, eX1_timesLaid_3, eX1_timesLaid_5, eX1_timesLaid_5N, eX1_timesLaid_6, eX1_timesLaid_9, eX1_timesLaid_12, eX1_timesLaid_13, eX1_timesLaid_13N, eX1_timesLaid_14, eX1_timesLaid_14N, eX1_timesLaid_15, eX1_timesLaid_18, eX1_timesLaid_19, eX1_timesLaid_20R, eX1_timesLaid_20N, eX1_timesLaid_23, eX1_timesLaid_26, eX1_timesLaid_27, eX1_timesLaid_28, eX1_timesLaid_31, eX1_timesLaid_34, eX1_timesLaid_35, lgp, lgn, lgz, i10, i00, if_true, if_false, eq_self, not_true, not_false_eq_true, hlt, hcl, rx, rn, rc, rl, hx, hn, hc, hl, d1, d2, d3, d4, d5, d6, d7, d8, d9, d10, d11, d12, rd_n, upw_n, ite_le, n45, n54, true_or, or_true, false_or, or_false, false_and, and_false, kx_l, kx_r, go_s, gl_s, gi_s, gb_s2, gb_s3, gq_s, wt_nil, wt_int, wt_long, wt_ref, wt_null, nl_int, nl_long, nl_ref, nl_null, nl_none, rf_n, rf_s, rf_st, tl_s, tl_n, g0, gS, ex1, nb_b, nb_0, nb_1, nf_i, nf_l, nf_ra, nf_ro, nf_na, nf_no, nf_b0, nf_z0, t45_4, t45_5, true_and, and_true, List.set_cons_zero, List.set_cons_succ, List.length_cons, List.length_nil, rd_s, upw_s, ne_eq, not_false_eq_true, Nat.zero_add, Nat.add_zero]
      | split
      | with_reducible intro _
      | omega
set_option maxHeartbeats 4000000 in
theorem fX1_timesLaid {s : AS} {p : Nat} {r : R4} (hC : CS g w0 x nA cA lA kn s w) (hp : rAt w p r) (hQ : Q (.inl (some (.int (fsum (fun j => bI (decide (mP r (s.2.2.2.1 j)))) s.2.2.1.toInt.toNat)))) w) : WP (MX1_timesLaid g) Q (0, [some (.ref x), some (.ref p), none, none], [], w, 0, 0) := by
  repeat' first
    | with_reducible assumption
    | with_reducible refine And.intro ?_ ?_
    | with_reducible exact vpi6 (by assumption) (by assumption)
    | with_reducible exact vpi8 (by assumption) (by assumption)
    | with_reducible exact trivial
    | ((with_reducible refine isWP (pc := 4) ?_); exact flX1_timesLaid_4 hC hp hQ _ 0 _ _ (Nat.zero_add _) (by decide) (by decide))
    | simp only [eX1_timesLaid_0, eX1_timesLaid_1, eX1_timesLaid_2, eX1_timesLaid_3, eX1_timesLaid_5, eX1_timesLaid_5N, eX1_timesLaid_6, eX1_timesLaid_9, eX1_timesLaid_12, eX1_timesLaid_13, eX1_timesLaid_13N, eX1_timesLaid_14, eX1_timesLaid_14N, eX1_timesLaid_15, eX1_timesLaid_18, eX1_timesLaid_19, eX1_timesLaid_20R, eX1_timesLaid_20N, eX1_timesLaid_23, eX1_timesLaid_26, eX1_timesLaid_27, eX1_timesLaid_28, eX1_timesLaid_31, eX1_timesLaid_34, eX1_timesLaid_35, lgp, lgn, lgz, i10, i00, if_true, if_false, eq_self, not_true, not_false_eq_true, ite_le, n45, n54, true_or, or_true, false_or, or_false, false_and, and_false, kx_l, kx_r, go_s, gl_s, gi_s, gb_s2, gb_s3, gq_s, wt_nil, wt_int, wt_long, wt_ref, wt_null, nl_int, nl_long, nl_ref, nl_null, nl_none, rf_n, rf_s, rf_st, tl_s, tl_n, g0, gS, ex1, nb_b, nb_0, nb_1, nf_i, nf_l, nf_ra, nf_ro, nf_na, nf_no, nf_b0, nf_z0, t45_4, t45_5, true_and, and_true, List.set_cons_zero, List.set_cons_succ, List.length_cons, List.length_nil, rd_s, upw_s, ne_eq, not_false_eq_true, Nat.zero_add, Nat.add_zero]
    | split
    | with_reducible intro _
    | omega
set_option maxHeartbeats 4000000 in
theorem fX1_howOften {s : AS} {a0 : Int32} (hC : CS g w0 x nA cA lA kn s w) (hX : ¬ okC a0 → (Q (.inr "java/lang/IndexOutOfBoundsException") w)) (hS : okC a0 → s.2.1 a0.toNatClampNeg = none → (Q (.inr "java/lang/IllegalStateException") w)) (hQ : okC a0 → ∀ r, s.2.1 a0.toNatClampNeg = some r → Q (.inl (some (.int (fsum (fun j => bI (decide (mP r (s.2.2.2.1 j)))) s.2.2.1.toInt.toNat)))) w) : WP (MX1_howOften g) Q (0, [some (.ref x), some (.int a0)], [], w, 0, 0) := by
  obtain ⟨gc, gl, ⟨hx, hn, hc, hl, hgc, hgl, hn0, hn1, rx, rn, rc, rl, ⟨d1, d2, d3, d4, d5, d6⟩, ⟨d7, d8, d9, d10, d11, d12⟩⟩, hcd, hpl⟩ := hC.1.opn g
  repeat' first
    | with_reducible assumption
    | with_reducible refine And.intro ?_ ?_
    | with_reducible exact vpi6 (by assumption) (by assumption)
    | with_reducible exact vpi8 (by assumption) (by assumption)
    | with_reducible exact trivial
    | with_reducible exact hX (by assumption)
    | with_reducible refine fX1_rangeOf (a0 := a0) hC (fun _ => ?_) (fun k0 e1 => ?_) (fun k0 p r e1 hp => ?_)
    | with_reducible refine go_F hp ?_
    | with_reducible exact go_F hp trivial
    | with_reducible exact hS k0 e1
    | with_reducible refine fX1_timesLaid hC hp ?_
    | with_reducible exact hQ k0 r e1
    | simp only [eX1_howOften_0, eX1_howOften_0N, eX1_howOften_1, eX1_howOften_1N, eX1_howOften_2, eX1_howOften_3, eX1_howOften_6R, eX1_howOften_6N, eX1_howOften_9, lgp, lgn, lgz, i10, i00, if_true, if_false, eq_self, not_true, not_false_eq_true, rx, rn, rc, rl, hx, hn, hc, hl, d1, d2, d3, d4, d5, d6, d7, d8, d9, d10, d11, d12, rd_n, upw_n, ite_le, n45, n54, true_or, or_true, false_or, or_false, false_and, and_false, kx_l, kx_r, go_s, gl_s, gi_s, gb_s2, gb_s3, gq_s, wt_nil, wt_int, wt_long, wt_ref, wt_null, nl_int, nl_long, nl_ref, nl_null, nl_none, rf_n, rf_s, rf_st, tl_s, tl_n, g0, gS, ex1, nb_b, nb_0, nb_1, nf_i, nf_l, nf_ra, nf_ro, nf_na, nf_no, nf_b0, nf_z0, t45_4, t45_5, true_and, and_true, List.set_cons_zero, List.set_cons_succ, List.length_cons, List.length_nil, rd_s, upw_s, ne_eq, not_false_eq_true, Nat.zero_add, Nat.add_zero]
    | split
    | with_reducible intro _
    | omega
theorem inv_d {P : Nat → Prop} {j N : Nat} (h : ∀ i, j + 1 ≤ i → i < N → P i) (hj : P j) : ∀ i, j ≤ i → i < N → P i := fun i hi hN => by
  rcases Nat.eq_or_lt_of_le hi with rfl | k
  · exact hj
  · exact h i k hN
set_option maxHeartbeats 4000000 in
theorem flX1_lastPlaceOf_7 {s : AS} {p : Nat} {r : R4} (hC : CS g w0 x nA cA lA kn s w) (hp : rAt w p r) (hN : (∀ i, i < s.2.2.1.toInt.toNat → ¬ mP r (s.2.2.2.1 i)) → Q (.inl (some (.int (-1)))) w) (hS : ∀ i, i < s.2.2.1.toInt.toNat → mP r (s.2.2.2.1 i) → (∀ k, i + 1 ≤ k → k < s.2.2.1.toInt.toNat → ¬ mP r (s.2.2.2.1 k)) → Q (.inl (some (.int (Int32.ofNat i)))) w) : ∀ (j : Nat) (k m : Nat), j ≤ s.2.2.1.toInt.toNat → (∀ i, j ≤ i → i < s.2.2.1.toInt.toNat → ¬ mP r (s.2.2.2.1 i)) → k ≤ 0 → m ≤ 0 → WP (MX1_lastPlaceOf g) Q (7, [some (.ref x), some (.ref p), some (.int (Int32.ofNat j - 1))], [], w, k, m) := by
  obtain ⟨gc, gl, ⟨hx, hn, hc, hl, hgc, hgl, hn0, hn1, rx, rn, rc, rl, ⟨d1, d2, d3, d4, d5, d6⟩, ⟨d7, d8, d9, d10, d11, d12⟩⟩, hcd, hpl⟩ := hC.1.opn g
  obtain ⟨he, h12⟩ := cnt12 hn0 hn1
  intro j
  induction j with
  | zero =>
    intro k m hj hinv hk hm
    rw [eX1_lastPlaceOf_7]
    repeat' first
      | with_reducible assumption
      | with_reducible refine And.intro ?_ ?_
      | with_reducible exact vpi6 (by assumption) (by assumption)
      | with_reducible exact vpi8 (by assumption) (by assumption)
      | with_reducible exact trivial
      | with_reducible exact hN (fun i h => hinv i (Nat.zero_le i) h)
      | simp only [eX1_lastPlaceOf_0, eX1_lastPlaceOf_0N, eX1_lastPlaceOf_1, eX1_lastPlaceOf_4, eX1_lastPlaceOf_5, eX1_lastPlaceOf_6, eX1_lastPlaceOf_8, eX1_lastPlaceOf_11, eX1_lastPlaceOf_11N, eX1_lastPlaceOf_12, eX1_lastPlaceOf_12N, eX1_lastPlaceOf_13, eX1_lastPlaceOf_16, eX1_lastPlaceOf_17, eX1_lastPlaceOf_18R, eX1_lastPlaceOf_18N, eX1_lastPlaceOf_21, eX1_lastPlaceOf_24, eX1_lastPlaceOf_25, eX1_lastPlaceOf_26, eX1_lastPlaceOf_29, eX1_lastPlaceOf_32, eX1_lastPlaceOf_33, lgp, lgn, lgz, i10, i00, if_true, if_false, eq_self, not_true, not_false_eq_true, rx, rn, rc, rl, hx, hn, hc, hl, d1, d2, d3, d4, d5, d6, d7, d8, d9, d10, d11, d12, rd_n, upw_n, oMz, ite_le, n45, n54, true_or, or_true, false_or, or_false, false_and, and_false, kx_l, kx_r, go_s, gl_s, gi_s, gb_s2, gb_s3, gq_s, wt_nil, wt_int, wt_long, wt_ref, wt_null, nl_int, nl_long, nl_ref, nl_null, nl_none, rf_n, rf_s, rf_st, tl_s, tl_n, g0, gS, ex1, nb_b, nb_0, nb_1, nf_i, nf_l, nf_ra, nf_ro, nf_na, nf_no, nf_b0, nf_z0, t45_4, t45_5, true_and, and_true, List.set_cons_zero, List.set_cons_succ, List.length_cons, List.length_nil, rd_s, upw_s, ne_eq, not_false_eq_true, Nat.zero_add, Nat.add_zero]
      | split
      | with_reducible intro _
      | omega
  | succ j ih =>
    intro k m hj hinv hk hm
    have h9 : j < 1000 := by omega
    rw [oMs (j := j) (by omega), eX1_lastPlaceOf_7]
    have hlt := oN0 h9
    have hcl := oNc h9
    obtain ⟨b, hb, hrb⟩ := hpl j (by omega)
    repeat' first
      | with_reducible assumption
      | with_reducible refine And.intro ?_ ?_
      | with_reducible exact vpi6 (by assumption) (by assumption)
      | with_reducible exact vpi8 (by assumption) (by assumption)
      | with_reducible exact trivial
      | with_reducible exact vpj (by omega)
      | with_reducible exact go_F hp trivial
      | with_reducible refine fX0_matchesR hp hrb (fun hm => ?_) (fun hm => ?_)
      | with_reducible exact hS j (by omega) hm hinv
      | (rw [oMd]; exact ih _ _ (by omega) (inv_d hinv hm) (by first | assumption | omega) (by first | assumption | omega))
      | simp only [eX1_lastPlaceOf_0, eX1_lastPlaceOf_0N, eX1_lastPlaceOf_1, eX1_lastPlaceOf_4, eX1_lastPlaceOf_5, eX1_lastPlaceOf_6, eX1_lastPlaceOf_8, eX1_lastPlaceOf_11, eX1_lastPlaceOf_11N, eX1_lastPlaceOf_12, eX1_lastPlaceOf_12N, eX1_lastPlaceOf_13, eX1_lastPlaceOf_16, eX1_lastPlaceOf_17, eX1_lastPlaceOf_18R, eX1_lastPlaceOf_18N, eX1_lastPlaceOf_21, eX1_lastPlaceOf_24, eX1_lastPlaceOf_25, eX1_lastPlaceOf_26, eX1_lastPlaceOf_29, eX1_lastPlaceOf_32, eX1_lastPlaceOf_33, lgp, lgn, lgz, i10, i00, if_true, if_false, eq_self, not_true, not_false_eq_true, rx, rn, rc, rl, hx, hn, hc, hl, d1, d2, d3, d4, d5, d6, d7, d8, d9, d10, d11, d12, rd_n, upw_n, hlt, hcl, hb, sal, snn, ite_le, n45, n54, true_or, or_true, false_or, or_false, false_and, and_false, kx_l, kx_r, go_s, gl_s, gi_s, gb_s2, gb_s3, gq_s, wt_nil, wt_int, wt_long, wt_ref, wt_null, nl_int, nl_long, nl_ref, nl_null, nl_none, rf_n, rf_s, rf_st, tl_s, tl_n, g0, gS, ex1, nb_b, nb_0, nb_1, nf_i, nf_l, nf_ra, nf_ro, nf_na, nf_no, nf_b0, nf_z0, t45_4, t45_5, true_and, and_true, List.set_cons_zero, List.set_cons_succ, List.length_cons, List.length_nil, rd_s, upw_s, ne_eq, not_false_eq_true, Nat.zero_add, Nat.add_zero]
      | split
      | with_reducible intro _
      | omega
set_option maxHeartbeats 4000000 in
theorem fX1_lastPlaceOf {s : AS} {p : Nat} {r : R4} (hC : CS g w0 x nA cA lA kn s w) (hp : rAt w p r) (hN : (∀ i, i < s.2.2.1.toInt.toNat → ¬ mP r (s.2.2.2.1 i)) → Q (.inl (some (.int (-1)))) w) (hS : ∀ i, i < s.2.2.1.toInt.toNat → mP r (s.2.2.2.1 i) → (∀ k, i + 1 ≤ k → k < s.2.2.1.toInt.toNat → ¬ mP r (s.2.2.2.1 k)) → Q (.inl (some (.int (Int32.ofNat i)))) w) : WP (MX1_lastPlaceOf g) Q (0, [some (.ref x), some (.ref p), none], [], w, 0, 0) := by
  obtain ⟨gc, gl, ⟨hx, hn, hc, hl, hgc, hgl, hn0, hn1, rx, rn, rc, rl, ⟨d1, d2, d3, d4, d5, d6⟩, ⟨d7, d8, d9, d10, d11, d12⟩⟩, hcd, hpl⟩ := hC.1.opn g
  repeat' first
    | with_reducible assumption
    | with_reducible refine And.intro ?_ ?_
    | with_reducible exact vpi6 (by assumption) (by assumption)
    | with_reducible exact vpi8 (by assumption) (by assumption)
    | with_reducible exact trivial
    | (have z := flX1_lastPlaceOf_7 hC hp hN hS _ 0 0 (Nat.le_refl _) (fun i h1 h2 => absurd h2 (Nat.not_lt.mpr h1)) (by decide) (by decide); rw [cntE hn0 hn1] at z; exact z)
    | simp only [eX1_lastPlaceOf_0, eX1_lastPlaceOf_0N, eX1_lastPlaceOf_1, eX1_lastPlaceOf_4, eX1_lastPlaceOf_5, eX1_lastPlaceOf_6, eX1_lastPlaceOf_8, eX1_lastPlaceOf_11, eX1_lastPlaceOf_11N, eX1_lastPlaceOf_12, eX1_lastPlaceOf_12N, eX1_lastPlaceOf_13, eX1_lastPlaceOf_16, eX1_lastPlaceOf_17, eX1_lastPlaceOf_18R, eX1_lastPlaceOf_18N, eX1_lastPlaceOf_21, eX1_lastPlaceOf_24, eX1_lastPlaceOf_25, eX1_lastPlaceOf_26, eX1_lastPlaceOf_29, eX1_lastPlaceOf_32, eX1_lastPlaceOf_33, lgp, lgn, lgz, i10, i00, if_true, if_false, eq_self, not_true, not_false_eq_true, rx, rn, rc, rl, hx, hn, hc, hl, d1, d2, d3, d4, d5, d6, d7, d8, d9, d10, d11, d12, rd_n, upw_n, ite_le, n45, n54, true_or, or_true, false_or, or_false, false_and, and_false, kx_l, kx_r, go_s, gl_s, gi_s, gb_s2, gb_s3, gq_s, wt_nil, wt_int, wt_long, wt_ref, wt_null, nl_int, nl_long, nl_ref, nl_null, nl_none, rf_n, rf_s, rf_st, tl_s, tl_n, g0, gS, ex1, nb_b, nb_0, nb_1, nf_i, nf_l, nf_ra, nf_ro, nf_na, nf_no, nf_b0, nf_z0, t45_4, t45_5, true_and, and_true, List.set_cons_zero, List.set_cons_succ, List.length_cons, List.length_nil, rd_s, upw_s, ne_eq, not_false_eq_true, Nat.zero_add, Nat.add_zero]
    | split
    | with_reducible intro _
    | omega
set_option maxHeartbeats 4000000 in
theorem fX1_seek {s : AS} {a0 a1 : Int32} (hC : CS g w0 x nA cA lA kn s w) (hX : ¬ okC a0 → (Q (.inr "java/lang/IndexOutOfBoundsException") w)) (hS : okC a0 → s.2.1 a0.toNatClampNeg = none → (Q (.inr "java/lang/IllegalStateException") w)) (hN : okC a0 → ∀ r, s.2.1 a0.toNatClampNeg = some r → (∀ i, i < s.2.2.1.toInt.toNat → ¬ mP r (s.2.2.2.1 i)) → Q (.inl (some (.int (-1)))) w) (hF : a1 = 0 → okC a0 → ∀ r, s.2.1 a0.toNatClampNeg = some r → ∀ i, i < s.2.2.1.toInt.toNat → mP r (s.2.2.2.1 i) → (∀ k, k < i → ¬ mP r (s.2.2.2.1 k)) → Q (.inl (some (.int (Int32.ofNat i)))) w) (hL : ¬ a1 = 0 → okC a0 → ∀ r, s.2.1 a0.toNatClampNeg = some r → ∀ i, i < s.2.2.1.toInt.toNat → mP r (s.2.2.2.1 i) → (∀ k, i + 1 ≤ k → k < s.2.2.1.toInt.toNat → ¬ mP r (s.2.2.2.1 k)) → Q (.inl (some (.int (Int32.ofNat i)))) w) : WP (MX1_seek g) Q (0, [some (.ref x), some (.int a0), some (.int a1), none], [], w, 0, 0) := by
  obtain ⟨gc, gl, ⟨hx, hn, hc, hl, hgc, hgl, hn0, hn1, rx, rn, rc, rl, ⟨d1, d2, d3, d4, d5, d6⟩, ⟨d7, d8, d9, d10, d11, d12⟩⟩, hcd, hpl⟩ := hC.1.opn g
  repeat' first
    | with_reducible assumption
    | with_reducible refine And.intro ?_ ?_
    | with_reducible exact vpi6 (by assumption) (by assumption)
    | with_reducible exact vpi8 (by assumption) (by assumption)
    | with_reducible exact trivial
    | with_reducible exact hX (by assumption)
    | with_reducible refine fX1_rangeOf (a0 := a0) hC (fun _ => ?_) (fun k0 e1 => ?_) (fun k0 p r e1 hp => ?_)
    | with_reducible refine go_F hp ?_
    | with_reducible exact go_F hp trivial
    | with_reducible exact hS k0 e1
    | with_reducible refine fX1_lastPlaceOf hC hp (fun z1 => ?_) (fun i z1 z2 z3 => ?_)
    | with_reducible refine fX1_firstPlaceOf hC hp (fun z1 => ?_) (fun i z1 z2 z3 => ?_)
    | with_reducible exact hN k0 r e1 z1
    | with_reducible exact hF (by assumption) k0 r e1 i z1 z2 z3
    | with_reducible exact hL (by assumption) k0 r e1 i z1 z2 z3
    | simp only [eX1_seek_0, eX1_seek_0N, eX1_seek_1, eX1_seek_2, eX1_seek_5, eX1_seek_5N, eX1_seek_6, eX1_seek_7, eX1_seek_10, eX1_seek_10N, eX1_seek_11, eX1_seek_11N, eX1_seek_12R, eX1_seek_12N, eX1_seek_15, eX1_seek_18, eX1_seek_18N, eX1_seek_19, eX1_seek_19N, eX1_seek_20R, eX1_seek_20N, eX1_seek_23, lgp, lgn, lgz, i10, i00, if_true, if_false, eq_self, not_true, not_false_eq_true, rx, rn, rc, rl, hx, hn, hc, hl, d1, d2, d3, d4, d5, d6, d7, d8, d9, d10, d11, d12, rd_n, upw_n, ite_le, n45, n54, true_or, or_true, false_or, or_false, false_and, and_false, kx_l, kx_r, go_s, gl_s, gi_s, gb_s2, gb_s3, gq_s, wt_nil, wt_int, wt_long, wt_ref, wt_null, nl_int, nl_long, nl_ref, nl_null, nl_none, rf_n, rf_s, rf_st, tl_s, tl_n, g0, gS, ex1, nb_b, nb_0, nb_1, nf_i, nf_l, nf_ra, nf_ro, nf_na, nf_no, nf_b0, nf_z0, t45_4, t45_5, true_and, and_true, List.set_cons_zero, List.set_cons_succ, List.length_cons, List.length_nil, rd_s, upw_s, ne_eq, not_false_eq_true, Nat.zero_add, Nat.add_zero]
    | split
    | with_reducible intro _
    | omega
end
end
