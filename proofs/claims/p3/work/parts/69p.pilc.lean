section
variable {g : RO} {Q : Ot → Hw → Prop} {w0 w : Hw}
variable {y nM : Nat} {kd : Int32}
theorem dl1 {i c : Int32} (h : ¬ c < i) (hc : c.toInt < 1000000) : (i + 1).toInt = i.toInt + 1 ∧ i.toInt ≤ c.toInt := ⟨i32_sl h hc, i32_nlt h⟩
theorem dl2 {i c : Int32} (h : i < c) : (i + 1).toInt = i.toInt + 1 ∧ i.toInt < c.toInt := ⟨i32_s h, i32_lt h⟩
theorem lt87 {a : Int32} (h : a < 8) : ¬ 7 < a := by
  have h1 := i32_lt h
  refine i32_of_nlt ?_
  have e : (7 : Int32).toInt = 7 := rfl
  have e6 : (8 : Int32).toInt = 8 := rfl
  omega
theorem lt43 {a : Int32} (h : a < 4) : ¬ 3 < a := by
  have h1 := i32_lt h
  refine i32_of_nlt ?_
  have e : (3 : Int32).toInt = 3 := rfl
  have e6 : (4 : Int32).toInt = 4 := rfl
  omega
theorem i0z : (0 : Int32).toInt = 0 := rfl
theorem dgk {i3 : Int32} {k : Nat} (h : ¬ 5 < i3) (hk : (k : Int) ≤ 16 + 12 * i3.toInt) : k + 12 ≤ 90 := by
  have e := i32_nlt h
  have z : (5 : Int32).toInt = 5 := rfl
  omega
theorem dgm {i3 : Int32} {m : Nat} (h : ¬ 5 < i3) (hm : (m : Int) ≤ 69 + 72 * i3.toInt) : m + 72 ≤ 520 := by
  have e := i32_nlt h
  have z : (5 : Int32).toInt = 5 := rfl
  omega
set_option maxHeartbeats 8000000 in
theorem elX3_digest_340 (hM : MM g w0 y nM kd w) (hQ : ∀ (v : Int64) w', ext g w w' → Q (.inl (some (.long v))) w') : ∀ (d : Nat) (i1 : Int64) (i3 : Int32) (o4 o5 : Option Value) (w' : Hw) (k m : Nat), ¬ i3 < 0 → ext g w w' → 6 - i3.toInt ≤ (d : Int) → i3.toInt ≤ 6 → (k : Int) ≤ 16 + 12 * i3.toInt → (m : Int) ≤ 69 + 72 * i3.toInt → WP (MX3_digest g) Q (340, [some (.ref y), some (.long i1), none, some (.int i3), o4, o5], [], w', k, m) := by
  have zb : (5 : Int32).toInt = 5 := rfl
  intro d
  induction d with
  | zero =>
    intro i1 i3 o4 o5 w' k m z0 hk hm hi km mm
    rw [eX3_digest_340]
    repeat' first
      | with_reducible assumption
      | with_reducible refine And.intro ?_ ?_
      | with_reducible exact (by exfalso; have e := dl1 (c := 5) (i := i3) (by assumption) (by decide); omega)
      | with_reducible exact dgk (by assumption) km
      | with_reducible exact dgm (by assumption) mm
      | with_reducible refine sX3_add (fun _ => ?_)
      | with_reducible refine sX3_houseNow (hM.ext' (by first | assumption | exact ext.rf | exact ext.tr hk (by assumption))) (by assumption) (by assumption) (fun _ _ _ => ?_)
      | with_reducible refine sX3_whoNow (hM.ext' (by first | assumption | exact ext.rf | exact ext.tr hk (by assumption))) (by assumption) (by first | assumption | exact lt87 (by assumption)) (fun _ => ?_)
      | with_reducible refine sX3_whichNow_ (hM.ext' (by first | assumption | exact ext.rf | exact ext.tr hk (by assumption))) (fun _ => ?_)
      | with_reducible refine sX3_pileNowM (hM.ext' (by first | assumption | exact ext.rf | exact ext.tr hk (by assumption))) (by decide) (by decide) (by assumption) (by assumption) (fun _ _ _ => ?_)
      | with_reducible refine sX3_isBareM (hM.ext' (by first | assumption | exact ext.rf | exact ext.tr hk (by assumption))) (by assumption) (by first | assumption | exact lt65 (by assumption)) ?_ (fun _ _ => ?_)
      | with_reducible refine sX3_likesNow (hM.ext' (by first | assumption | exact ext.rf | exact ext.tr hk (by assumption))) (by assumption) (by assumption) (by first | assumption | exact lt65 (by assumption)) (fun _ => ?_)
      | with_reducible refine sX3_seekNowM (hM.ext' (by first | assumption | exact ext.rf | exact ext.tr hk (by assumption))) (by assumption) (by assumption) (by first | assumption | exact lt65 (by assumption)) (fun _ _ _ _ => ?_)
      | with_reducible refine sX3_oftenNow (hM.ext' (by first | assumption | exact ext.rf | exact ext.tr hk (by assumption))) (by assumption) (by assumption) (by first | assumption | exact lt65 (by assumption)) (fun _ _ _ => ?_)
      | with_reducible refine sX3_high (fun _ => ?_)
      | with_reducible refine sX3_low (fun _ => ?_)
      | with_reducible refine sX3_one (fun _ => ?_)
      | with_reducible refine sX3_fixed (by first | assumption | exact CAt.row (by assumption) | exact isRow.ext (CAt.row (by assumption)) (by assumption)) ?_ ?_
      | with_reducible refine sX3_small (by first | assumption | exact CAt.row (by assumption) | exact isRow.ext (CAt.row (by assumption)) (by assumption)) ?_ ?_
      | with_reducible refine sX3_aroundNow (by first | assumption | exact CAt.row (by assumption) | exact isRow.ext (CAt.row (by assumption)) (by assumption)) (by assumption) (by first | assumption | exact lt43 (by assumption)) (fun _ => ?_)
      | with_reducible refine sX3_whichNow (by first | assumption | exact CAt.row (by assumption) | exact isRow.ext (CAt.row (by assumption)) (by assumption)) (fun _ => ?_)
      | with_reducible refine go_Y (hM.ext' (by first | assumption | exact ext.rf | exact ext.tr hk (by assumption))) (fun _ _ _ _ _ _ => ?_)
      | with_reducible refine gl_M (hM.ext' (by first | assumption | exact ext.rf | exact ext.tr hk (by assumption))) ?_
      | with_reducible exact vpi8 (by assumption) (by assumption)
      | with_reducible exact vpi4l (by assumption) (by assumption)
      | with_reducible exact gtC (hM.ext' (by first | assumption | exact ext.rf | exact ext.tr hk (by assumption))) (by assumption)
      | with_reducible refine sGetY (by assumption) (by assumption) (by assumption) (by first | assumption | exact lt65 (by assumption)) ?_
      | with_reducible exact isRow.ca (by first | assumption | exact CAt.row (by assumption) | exact isRow.ext (CAt.row (by assumption)) (by assumption))
      | with_reducible refine gl_Row (by first | assumption | exact CAt.row (by assumption) | exact isRow.ext (CAt.row (by assumption)) (by assumption)) (fun _ => ?_)
      | with_reducible exact hQ _ _ ((by first | assumption | exact ext.rf | exact ext.tr hk (by assumption)))
      | simp only [eX3_digest_0, eX3_digest_0N, eX3_digest_1, eX3_digest_2, eX3_digest_5, eX3_digest_8, eX3_digest_9, eX3_digest_10, eX3_digest_12, eX3_digest_13, eX3_digest_16, eX3_digest_17, eX3_digest_17N, eX3_digest_18, eX3_digest_19, eX3_digest_22, eX3_digest_23, eX3_digest_26, eX3_digest_27, eX3_digest_30, eX3_digest_33, eX3_digest_34, eX3_digest_36, eX3_digest_38, eX3_digest_41, eX3_digest_42, eX3_digest_42N, eX3_digest_43, eX3_digest_46, eX3_digest_47, eX3_digest_48, eX3_digest_51, eX3_digest_52, eX3_digest_55, eX3_digest_55N, eX3_digest_56, eX3_digest_59, eX3_digest_60, eX3_digest_61, eX3_digest_64, eX3_digest_65, eX3_digest_68, eX3_digest_68N, eX3_digest_69, eX3_digest_70, eX3_digest_71, eX3_digest_74, eX3_digest_75, eX3_digest_78, eX3_digest_78N, eX3_digest_79, eX3_digest_80, eX3_digest_81, eX3_digest_84, eX3_digest_85, eX3_digest_88, eX3_digest_89, eX3_digest_92, eX3_digest_95, eX3_digest_96, eX3_digest_98, eX3_digest_100, eX3_digest_103, eX3_digest_104, eX3_digest_104N, eX3_digest_105, eX3_digest_106, eX3_digest_109, eX3_digest_112, eX3_digest_113, eX3_digest_116, eX3_digest_117, eX3_digest_120, eX3_digest_121, eX3_digest_124, eX3_digest_125, eX3_digest_125N, eX3_digest_126, eX3_digest_127, eX3_digest_130, eX3_digest_133, eX3_digest_136, eX3_digest_136N, eX3_digest_137, eX3_digest_140, eX3_digest_141, eX3_digest_144N, eX3_digest_144R, eX3_digest_147, eX3_digest_147N, eX3_digest_149, eX3_digest_150, eX3_digest_154, eX3_digest_155, eX3_digest_158, eX3_digest_159, eX3_digest_159N, eX3_digest_161, eX3_digest_163, eX3_digest_164, eX3_digest_167, eX3_digest_168, eX3_digest_171, eX3_digest_171N, eX3_digest_173, eX3_digest_175, eX3_digest_176, eX3_digest_179, eX3_digest_180, eX3_digest_183, eX3_digest_183N, eX3_digest_185, eX3_digest_187, eX3_digest_188R, eX3_digest_188N, eX3_digest_191, eX3_digest_192, eX3_digest_195, eX3_digest_195N, eX3_digest_197, eX3_digest_199, eX3_digest_200R, eX3_digest_200N, eX3_digest_203, eX3_digest_204, eX3_digest_207, eX3_digest_208, eX3_digest_211, eX3_digest_214, eX3_digest_215, eX3_digest_215N, eX3_digest_217R, eX3_digest_217N, eX3_digest_220, eX3_digest_223, eX3_digest_224, eX3_digest_227, eX3_digest_227N, eX3_digest_229R, eX3_digest_229N, eX3_digest_232, eX3_digest_235, eX3_digest_236, eX3_digest_239, eX3_digest_239N, eX3_digest_240, eX3_digest_241, eX3_digest_244, eX3_digest_245, eX3_digest_248, eX3_digest_249, eX3_digest_250, eX3_digest_250N, eX3_digest_251, eX3_digest_252, eX3_digest_253, eX3_digest_256, eX3_digest_257, eX3_digest_260, eX3_digest_260N, eX3_digest_261, eX3_digest_262, eX3_digest_263, eX3_digest_266, eX3_digest_267, eX3_digest_270, eX3_digest_270N, eX3_digest_271, eX3_digest_272, eX3_digest_275, eX3_digest_276, eX3_digest_279, eX3_digest_280, eX3_digest_281, eX3_digest_285, eX3_digest_286, eX3_digest_289, eX3_digest_290, eX3_digest_290N, eX3_digest_292, eX3_digest_294R, eX3_digest_294N, eX3_digest_297, eX3_digest_298, eX3_digest_301, eX3_digest_302, eX3_digest_305, eX3_digest_308, eX3_digest_311, eX3_digest_314, eX3_digest_315, eX3_digest_317, eX3_digest_318, eX3_digest_321, eX3_digest_322, eX3_digest_322N, eX3_digest_323, eX3_digest_324, eX3_digest_327, eX3_digest_328, eX3_digest_331, eX3_digest_332, eX3_digest_335, eX3_digest_338, eX3_digest_339, eX3_digest_341, eX3_digest_342, eX3_digest_345, eX3_digest_346, eX3_digest_346N, eX3_digest_347, eX3_digest_348, eX3_digest_349, eX3_digest_352, eX3_digest_353, eX3_digest_356, eX3_digest_357, eX3_digest_360, eX3_digest_363, eX3_digest_364, eX3_digest_365, eX3_digest_368, ite_le, n45, n54, true_or, or_true, false_or, or_false, false_and, and_false, kx_l, kx_r, go_s, gl_s, gi_s, gb_s2, gb_s3, gq_s, wt_nil, wt_int, wt_long, wt_ref, wt_null, nl_int, nl_long, nl_ref, nl_null, nl_none, rf_n, rf_s, rf_st, tl_s, tl_n, g0, gS, ex1, nb_b, nb_0, nb_1, nf_i, nf_l, nf_ra, nf_ro, nf_na, nf_no, nf_b0, nf_z0, t45_4, t45_5, true_and, and_true, List.set_cons_zero, List.set_cons_succ, List.length_cons, List.length_nil, rd_s, upw_s, ne_eq, not_false_eq_true, Nat.zero_add, Nat.add_zero, if_true, if_false, eq_self, m10]
      | split
      | with_reducible intro _
      | omega
  | succ d ih =>
    intro i1 i3 o4 o5 w' k m z0 hk hm hi km mm
    rw [eX3_digest_340]
    repeat' first
      | with_reducible assumption
      | with_reducible refine And.intro ?_ ?_
      | with_reducible exact ih _ _ _ _ _ _ _ (ic_pl (by assumption) (by assumption) (by decide)) (by first | assumption | exact ext.rf | exact ext.tr hk (by assumption)) (by have e := dl1 (c := 5) (i := i3) (by assumption) (by decide); omega) (by have e := dl1 (c := 5) (i := i3) (by assumption) (by decide); omega) (by have e := dl1 (c := 5) (i := i3) (by assumption) (by decide); omega) (by have e := dl1 (c := 5) (i := i3) (by assumption) (by decide); omega)
      | with_reducible exact dgk (by assumption) km
      | with_reducible exact dgm (by assumption) mm
      | with_reducible refine sX3_add (fun _ => ?_)
      | with_reducible refine sX3_houseNow (hM.ext' (by first | assumption | exact ext.rf | exact ext.tr hk (by assumption))) (by assumption) (by assumption) (fun _ _ _ => ?_)
      | with_reducible refine sX3_whoNow (hM.ext' (by first | assumption | exact ext.rf | exact ext.tr hk (by assumption))) (by assumption) (by first | assumption | exact lt87 (by assumption)) (fun _ => ?_)
      | with_reducible refine sX3_whichNow_ (hM.ext' (by first | assumption | exact ext.rf | exact ext.tr hk (by assumption))) (fun _ => ?_)
      | with_reducible refine sX3_pileNowM (hM.ext' (by first | assumption | exact ext.rf | exact ext.tr hk (by assumption))) (by decide) (by decide) (by assumption) (by assumption) (fun _ _ _ => ?_)
      | with_reducible refine sX3_isBareM (hM.ext' (by first | assumption | exact ext.rf | exact ext.tr hk (by assumption))) (by assumption) (by first | assumption | exact lt65 (by assumption)) ?_ (fun _ _ => ?_)
      | with_reducible refine sX3_likesNow (hM.ext' (by first | assumption | exact ext.rf | exact ext.tr hk (by assumption))) (by assumption) (by assumption) (by first | assumption | exact lt65 (by assumption)) (fun _ => ?_)
      | with_reducible refine sX3_seekNowM (hM.ext' (by first | assumption | exact ext.rf | exact ext.tr hk (by assumption))) (by assumption) (by assumption) (by first | assumption | exact lt65 (by assumption)) (fun _ _ _ _ => ?_)
      | with_reducible refine sX3_oftenNow (hM.ext' (by first | assumption | exact ext.rf | exact ext.tr hk (by assumption))) (by assumption) (by assumption) (by first | assumption | exact lt65 (by assumption)) (fun _ _ _ => ?_)
      | with_reducible refine sX3_high (fun _ => ?_)
      | with_reducible refine sX3_low (fun _ => ?_)
      | with_reducible refine sX3_one (fun _ => ?_)
      | with_reducible refine sX3_fixed (by first | assumption | exact CAt.row (by assumption) | exact isRow.ext (CAt.row (by assumption)) (by assumption)) ?_ ?_
      | with_reducible refine sX3_small (by first | assumption | exact CAt.row (by assumption) | exact isRow.ext (CAt.row (by assumption)) (by assumption)) ?_ ?_
      | with_reducible refine sX3_aroundNow (by first | assumption | exact CAt.row (by assumption) | exact isRow.ext (CAt.row (by assumption)) (by assumption)) (by assumption) (by first | assumption | exact lt43 (by assumption)) (fun _ => ?_)
      | with_reducible refine sX3_whichNow (by first | assumption | exact CAt.row (by assumption) | exact isRow.ext (CAt.row (by assumption)) (by assumption)) (fun _ => ?_)
      | with_reducible refine go_Y (hM.ext' (by first | assumption | exact ext.rf | exact ext.tr hk (by assumption))) (fun _ _ _ _ _ _ => ?_)
      | with_reducible refine gl_M (hM.ext' (by first | assumption | exact ext.rf | exact ext.tr hk (by assumption))) ?_
      | with_reducible exact vpi8 (by assumption) (by assumption)
      | with_reducible exact vpi4l (by assumption) (by assumption)
      | with_reducible exact gtC (hM.ext' (by first | assumption | exact ext.rf | exact ext.tr hk (by assumption))) (by assumption)
      | with_reducible refine sGetY (by assumption) (by assumption) (by assumption) (by first | assumption | exact lt65 (by assumption)) ?_
      | with_reducible exact isRow.ca (by first | assumption | exact CAt.row (by assumption) | exact isRow.ext (CAt.row (by assumption)) (by assumption))
      | with_reducible refine gl_Row (by first | assumption | exact CAt.row (by assumption) | exact isRow.ext (CAt.row (by assumption)) (by assumption)) (fun _ => ?_)
      | with_reducible exact hQ _ _ ((by first | assumption | exact ext.rf | exact ext.tr hk (by assumption)))
      | simp only [eX3_digest_0, eX3_digest_0N, eX3_digest_1, eX3_digest_2, eX3_digest_5, eX3_digest_8, eX3_digest_9, eX3_digest_10, eX3_digest_12, eX3_digest_13, eX3_digest_16, eX3_digest_17, eX3_digest_17N, eX3_digest_18, eX3_digest_19, eX3_digest_22, eX3_digest_23, eX3_digest_26, eX3_digest_27, eX3_digest_30, eX3_digest_33, eX3_digest_34, eX3_digest_36, eX3_digest_38, eX3_digest_41, eX3_digest_42, eX3_digest_42N, eX3_digest_43, eX3_digest_46, eX3_digest_47, eX3_digest_48, eX3_digest_51, eX3_digest_52, eX3_digest_55, eX3_digest_55N, eX3_digest_56, eX3_digest_59, eX3_digest_60, eX3_digest_61, eX3_digest_64, eX3_digest_65, eX3_digest_68, eX3_digest_68N, eX3_digest_69, eX3_digest_70, eX3_digest_71, eX3_digest_74, eX3_digest_75, eX3_digest_78, eX3_digest_78N, eX3_digest_79, eX3_digest_80, eX3_digest_81, eX3_digest_84, eX3_digest_85, eX3_digest_88, eX3_digest_89, eX3_digest_92, eX3_digest_95, eX3_digest_96, eX3_digest_98, eX3_digest_100, eX3_digest_103, eX3_digest_104, eX3_digest_104N, eX3_digest_105, eX3_digest_106, eX3_digest_109, eX3_digest_112, eX3_digest_113, eX3_digest_116, eX3_digest_117, eX3_digest_120, eX3_digest_121, eX3_digest_124, eX3_digest_125, eX3_digest_125N, eX3_digest_126, eX3_digest_127, eX3_digest_130, eX3_digest_133, eX3_digest_136, eX3_digest_136N, eX3_digest_137, eX3_digest_140, eX3_digest_141, eX3_digest_144N, eX3_digest_144R, eX3_digest_147, eX3_digest_147N, eX3_digest_149, eX3_digest_150, eX3_digest_154, eX3_digest_155, eX3_digest_158, eX3_digest_159, eX3_digest_159N, eX3_digest_161, eX3_digest_163, eX3_digest_164, eX3_digest_167, eX3_digest_168, eX3_digest_171, eX3_digest_171N, eX3_digest_173, eX3_digest_175, eX3_digest_176, eX3_digest_179, eX3_digest_180, eX3_digest_183, eX3_digest_183N, eX3_digest_185, eX3_digest_187, eX3_digest_188R, eX3_digest_188N, eX3_digest_191, eX3_digest_192, eX3_digest_195, eX3_digest_195N, eX3_digest_197, eX3_digest_199, eX3_digest_200R, eX3_digest_200N, eX3_digest_203, eX3_digest_204, eX3_digest_207, eX3_digest_208, eX3_digest_211, eX3_digest_214, eX3_digest_215, eX3_digest_215N, eX3_digest_217R, eX3_digest_217N, eX3_digest_220, eX3_digest_223, eX3_digest_224, eX3_digest_227, eX3_digest_227N, eX3_digest_229R, eX3_digest_229N, eX3_digest_232, eX3_digest_235, eX3_digest_236, eX3_digest_239, eX3_digest_239N, eX3_digest_240, eX3_digest_241, eX3_digest_244, eX3_digest_245, eX3_digest_248, eX3_digest_249, eX3_digest_250, eX3_digest_250N, eX3_digest_251, eX3_digest_252, eX3_digest_253, eX3_digest_256, eX3_digest_257, eX3_digest_260, eX3_digest_260N, eX3_digest_261, eX3_digest_262, eX3_digest_263, eX3_digest_266, eX3_digest_267, eX3_digest_270, eX3_digest_270N, eX3_digest_271, eX3_digest_272, eX3_digest_275, eX3_digest_276, eX3_digest_279, eX3_digest_280, eX3_digest_281, eX3_digest_285, eX3_digest_286, eX3_digest_289, eX3_digest_290, eX3_digest_290N, eX3_digest_292, eX3_digest_294R, eX3_digest_294N, eX3_digest_297, eX3_digest_298, eX3_digest_301, eX3_digest_302, eX3_digest_305, eX3_digest_308, eX3_digest_311, eX3_digest_314, eX3_digest_315, eX3_digest_317, eX3_digest_318, eX3_digest_321, eX3_digest_322, eX3_digest_322N, eX3_digest_323, eX3_digest_324, eX3_digest_327, eX3_digest_328, eX3_digest_331, eX3_digest_332, eX3_digest_335, eX3_digest_338, eX3_digest_339, eX3_digest_341, eX3_digest_342, eX3_digest_345, eX3_digest_346, eX3_digest_346N, eX3_digest_347, eX3_digest_348, eX3_digest_349, eX3_digest_352, eX3_digest_353, eX3_digest_356, eX3_digest_357, eX3_digest_360, eX3_digest_363, eX3_digest_364, eX3_digest_365, eX3_digest_368, ite_le, n45, n54, true_or, or_true, false_or, or_false, false_and, and_false, kx_l, kx_r, go_s, gl_s, gi_s, gb_s2, gb_s3, gq_s, wt_nil, wt_int, wt_long, wt_ref, wt_null, nl_int, nl_long, nl_ref, nl_null, nl_none, rf_n, rf_s, rf_st, tl_s, tl_n, g0, gS, ex1, nb_b, nb_0, nb_1, nf_i, nf_l, nf_ra, nf_ro, nf_na, nf_no, nf_b0, nf_z0, t45_4, t45_5, true_and, and_true, List.set_cons_zero, List.set_cons_succ, List.length_cons, List.length_nil, rd_s, upw_s, ne_eq, not_false_eq_true, Nat.zero_add, Nat.add_zero, if_true, if_false, eq_self, m10]
      | split
      | with_reducible intro _
      | omega
set_option maxHeartbeats 8000000 in
theorem elX3_digest_316 (hM : MM g w0 y nM kd w) (hQ : ∀ (v : Int64) w', ext g w w' → Q (.inl (some (.long v))) w') : ∀ (d : Nat) (i1 : Int64) (i3 : Int32) (o4 o5 : Option Value) (w' : Hw) (k m : Nat), ¬ i3 < 0 → ext g w w' → 3 - i3.toInt ≤ (d : Int) → i3.toInt ≤ 3 → (k : Int) ≤ 16 → (m : Int) ≤ 69 → WP (MX3_digest g) Q (316, [some (.ref y), some (.long i1), none, some (.int i3), o4, o5], [], w', k, m) := by
  have zb : (2 : Int32).toInt = 2 := rfl
  intro d
  induction d with
  | zero =>
    intro i1 i3 o4 o5 w' k m z0 hk hm hi km mm
    rw [eX3_digest_316]
    repeat' first
      | with_reducible assumption
      | with_reducible refine And.intro ?_ ?_
      | with_reducible exact (by exfalso; have e := dl1 (c := 2) (i := i3) (by assumption) (by decide); omega)
      | with_reducible exact elX3_digest_340 hM hQ 70 _ _ _ _ _ _ _ (by decide) hk (by decide) (by decide) (by have z := i0z; omega) (by have z := i0z; omega)
      | with_reducible refine sX3_add (fun _ => ?_)
      | with_reducible refine sX3_houseNow (hM.ext' (by first | assumption | exact ext.rf | exact ext.tr hk (by assumption))) (by assumption) (by assumption) (fun _ _ _ => ?_)
      | with_reducible refine sX3_whoNow (hM.ext' (by first | assumption | exact ext.rf | exact ext.tr hk (by assumption))) (by assumption) (by first | assumption | exact lt87 (by assumption)) (fun _ => ?_)
      | with_reducible refine sX3_whichNow_ (hM.ext' (by first | assumption | exact ext.rf | exact ext.tr hk (by assumption))) (fun _ => ?_)
      | with_reducible refine sX3_pileNowM (hM.ext' (by first | assumption | exact ext.rf | exact ext.tr hk (by assumption))) (by decide) (by decide) (by assumption) (by assumption) (fun _ _ _ => ?_)
      | with_reducible refine sX3_isBareM (hM.ext' (by first | assumption | exact ext.rf | exact ext.tr hk (by assumption))) (by assumption) (by first | assumption | exact lt65 (by assumption)) ?_ (fun _ _ => ?_)
      | with_reducible refine sX3_likesNow (hM.ext' (by first | assumption | exact ext.rf | exact ext.tr hk (by assumption))) (by assumption) (by assumption) (by first | assumption | exact lt65 (by assumption)) (fun _ => ?_)
      | with_reducible refine sX3_seekNowM (hM.ext' (by first | assumption | exact ext.rf | exact ext.tr hk (by assumption))) (by assumption) (by assumption) (by first | assumption | exact lt65 (by assumption)) (fun _ _ _ _ => ?_)
      | with_reducible refine sX3_oftenNow (hM.ext' (by first | assumption | exact ext.rf | exact ext.tr hk (by assumption))) (by assumption) (by assumption) (by first | assumption | exact lt65 (by assumption)) (fun _ _ _ => ?_)
      | with_reducible refine sX3_high (fun _ => ?_)
      | with_reducible refine sX3_low (fun _ => ?_)
      | with_reducible refine sX3_one (fun _ => ?_)
      | with_reducible refine sX3_fixed (by first | assumption | exact CAt.row (by assumption) | exact isRow.ext (CAt.row (by assumption)) (by assumption)) ?_ ?_
      | with_reducible refine sX3_small (by first | assumption | exact CAt.row (by assumption) | exact isRow.ext (CAt.row (by assumption)) (by assumption)) ?_ ?_
      | with_reducible refine sX3_aroundNow (by first | assumption | exact CAt.row (by assumption) | exact isRow.ext (CAt.row (by assumption)) (by assumption)) (by assumption) (by first | assumption | exact lt43 (by assumption)) (fun _ => ?_)
      | with_reducible refine sX3_whichNow (by first | assumption | exact CAt.row (by assumption) | exact isRow.ext (CAt.row (by assumption)) (by assumption)) (fun _ => ?_)
      | with_reducible refine go_Y (hM.ext' (by first | assumption | exact ext.rf | exact ext.tr hk (by assumption))) (fun _ _ _ _ _ _ => ?_)
      | with_reducible refine gl_M (hM.ext' (by first | assumption | exact ext.rf | exact ext.tr hk (by assumption))) ?_
      | with_reducible exact vpi8 (by assumption) (by assumption)
      | with_reducible exact vpi4l (by assumption) (by assumption)
      | with_reducible exact gtC (hM.ext' (by first | assumption | exact ext.rf | exact ext.tr hk (by assumption))) (by assumption)
      | with_reducible refine sGetY (by assumption) (by assumption) (by assumption) (by first | assumption | exact lt65 (by assumption)) ?_
      | with_reducible exact isRow.ca (by first | assumption | exact CAt.row (by assumption) | exact isRow.ext (CAt.row (by assumption)) (by assumption))
      | with_reducible refine gl_Row (by first | assumption | exact CAt.row (by assumption) | exact isRow.ext (CAt.row (by assumption)) (by assumption)) (fun _ => ?_)
      | with_reducible exact hQ _ _ ((by first | assumption | exact ext.rf | exact ext.tr hk (by assumption)))
      | simp only [eX3_digest_0, eX3_digest_0N, eX3_digest_1, eX3_digest_2, eX3_digest_5, eX3_digest_8, eX3_digest_9, eX3_digest_10, eX3_digest_12, eX3_digest_13, eX3_digest_16, eX3_digest_17, eX3_digest_17N, eX3_digest_18, eX3_digest_19, eX3_digest_22, eX3_digest_23, eX3_digest_26, eX3_digest_27, eX3_digest_30, eX3_digest_33, eX3_digest_34, eX3_digest_36, eX3_digest_38, eX3_digest_41, eX3_digest_42, eX3_digest_42N, eX3_digest_43, eX3_digest_46, eX3_digest_47, eX3_digest_48, eX3_digest_51, eX3_digest_52, eX3_digest_55, eX3_digest_55N, eX3_digest_56, eX3_digest_59, eX3_digest_60, eX3_digest_61, eX3_digest_64, eX3_digest_65, eX3_digest_68, eX3_digest_68N, eX3_digest_69, eX3_digest_70, eX3_digest_71, eX3_digest_74, eX3_digest_75, eX3_digest_78, eX3_digest_78N, eX3_digest_79, eX3_digest_80, eX3_digest_81, eX3_digest_84, eX3_digest_85, eX3_digest_88, eX3_digest_89, eX3_digest_92, eX3_digest_95, eX3_digest_96, eX3_digest_98, eX3_digest_100, eX3_digest_103, eX3_digest_104, eX3_digest_104N, eX3_digest_105, eX3_digest_106, eX3_digest_109, eX3_digest_112, eX3_digest_113, eX3_digest_116, eX3_digest_117, eX3_digest_120, eX3_digest_121, eX3_digest_124, eX3_digest_125, eX3_digest_125N, eX3_digest_126, eX3_digest_127, eX3_digest_130, eX3_digest_133, eX3_digest_136, eX3_digest_136N, eX3_digest_137, eX3_digest_140, eX3_digest_141, eX3_digest_144N, eX3_digest_144R, eX3_digest_147, eX3_digest_147N, eX3_digest_149, eX3_digest_150, eX3_digest_154, eX3_digest_155, eX3_digest_158, eX3_digest_159, eX3_digest_159N, eX3_digest_161, eX3_digest_163, eX3_digest_164, eX3_digest_167, eX3_digest_168, eX3_digest_171, eX3_digest_171N, eX3_digest_173, eX3_digest_175, eX3_digest_176, eX3_digest_179, eX3_digest_180, eX3_digest_183, eX3_digest_183N, eX3_digest_185, eX3_digest_187, eX3_digest_188R, eX3_digest_188N, eX3_digest_191, eX3_digest_192, eX3_digest_195, eX3_digest_195N, eX3_digest_197, eX3_digest_199, eX3_digest_200R, eX3_digest_200N, eX3_digest_203, eX3_digest_204, eX3_digest_207, eX3_digest_208, eX3_digest_211, eX3_digest_214, eX3_digest_215, eX3_digest_215N, eX3_digest_217R, eX3_digest_217N, eX3_digest_220, eX3_digest_223, eX3_digest_224, eX3_digest_227, eX3_digest_227N, eX3_digest_229R, eX3_digest_229N, eX3_digest_232, eX3_digest_235, eX3_digest_236, eX3_digest_239, eX3_digest_239N, eX3_digest_240, eX3_digest_241, eX3_digest_244, eX3_digest_245, eX3_digest_248, eX3_digest_249, eX3_digest_250, eX3_digest_250N, eX3_digest_251, eX3_digest_252, eX3_digest_253, eX3_digest_256, eX3_digest_257, eX3_digest_260, eX3_digest_260N, eX3_digest_261, eX3_digest_262, eX3_digest_263, eX3_digest_266, eX3_digest_267, eX3_digest_270, eX3_digest_270N, eX3_digest_271, eX3_digest_272, eX3_digest_275, eX3_digest_276, eX3_digest_279, eX3_digest_280, eX3_digest_281, eX3_digest_285, eX3_digest_286, eX3_digest_289, eX3_digest_290, eX3_digest_290N, eX3_digest_292, eX3_digest_294R, eX3_digest_294N, eX3_digest_297, eX3_digest_298, eX3_digest_301, eX3_digest_302, eX3_digest_305, eX3_digest_308, eX3_digest_311, eX3_digest_314, eX3_digest_315, eX3_digest_317, eX3_digest_318, eX3_digest_321, eX3_digest_322, eX3_digest_322N, eX3_digest_323, eX3_digest_324, eX3_digest_327, eX3_digest_328, eX3_digest_331, eX3_digest_332, eX3_digest_335, eX3_digest_338, eX3_digest_339, eX3_digest_341, eX3_digest_342, eX3_digest_345, eX3_digest_346, eX3_digest_346N, eX3_digest_347, eX3_digest_348, eX3_digest_349, eX3_digest_352, eX3_digest_353, eX3_digest_356, eX3_digest_357, eX3_digest_360, eX3_digest_363, eX3_digest_364, eX3_digest_365, eX3_digest_368, ite_le, n45, n54, true_or, or_true, false_or, or_false, false_and, and_false, kx_l, kx_r, go_s, gl_s, gi_s, gb_s2, gb_s3, gq_s, wt_nil, wt_int, wt_long, wt_ref, wt_null, nl_int, nl_long, nl_ref, nl_null, nl_none, rf_n, rf_s, rf_st, tl_s, tl_n, g0, gS, ex1, nb_b, nb_0, nb_1, nf_i, nf_l, nf_ra, nf_ro, nf_na, nf_no, nf_b0, nf_z0, t45_4, t45_5, true_and, and_true, List.set_cons_zero, List.set_cons_succ, List.length_cons, List.length_nil, rd_s, upw_s, ne_eq, not_false_eq_true, Nat.zero_add, Nat.add_zero, if_true, if_false, eq_self, m10]
      | split
      | with_reducible intro _
      | omega
  | succ d ih =>
    intro i1 i3 o4 o5 w' k m z0 hk hm hi km mm
    rw [eX3_digest_316]
    repeat' first
      | with_reducible assumption
      | with_reducible refine And.intro ?_ ?_
      | with_reducible exact ih _ _ _ _ _ _ _ (ic_pl (by assumption) (by assumption) (by decide)) (by first | assumption | exact ext.rf | exact ext.tr hk (by assumption)) (by have e := dl1 (c := 2) (i := i3) (by assumption) (by decide); omega) (by have e := dl1 (c := 2) (i := i3) (by assumption) (by decide); omega) (by have e := dl1 (c := 2) (i := i3) (by assumption) (by decide); omega) (by have e := dl1 (c := 2) (i := i3) (by assumption) (by decide); omega)
      | with_reducible exact elX3_digest_340 hM hQ 70 _ _ _ _ _ _ _ (by decide) hk (by decide) (by decide) (by have z := i0z; omega) (by have z := i0z; omega)
      | with_reducible refine sX3_add (fun _ => ?_)
      | with_reducible refine sX3_houseNow (hM.ext' (by first | assumption | exact ext.rf | exact ext.tr hk (by assumption))) (by assumption) (by assumption) (fun _ _ _ => ?_)
      | with_reducible refine sX3_whoNow (hM.ext' (by first | assumption | exact ext.rf | exact ext.tr hk (by assumption))) (by assumption) (by first | assumption | exact lt87 (by assumption)) (fun _ => ?_)
      | with_reducible refine sX3_whichNow_ (hM.ext' (by first | assumption | exact ext.rf | exact ext.tr hk (by assumption))) (fun _ => ?_)
      | with_reducible refine sX3_pileNowM (hM.ext' (by first | assumption | exact ext.rf | exact ext.tr hk (by assumption))) (by decide) (by decide) (by assumption) (by assumption) (fun _ _ _ => ?_)
      | with_reducible refine sX3_isBareM (hM.ext' (by first | assumption | exact ext.rf | exact ext.tr hk (by assumption))) (by assumption) (by first | assumption | exact lt65 (by assumption)) ?_ (fun _ _ => ?_)
      | with_reducible refine sX3_likesNow (hM.ext' (by first | assumption | exact ext.rf | exact ext.tr hk (by assumption))) (by assumption) (by assumption) (by first | assumption | exact lt65 (by assumption)) (fun _ => ?_)
      | with_reducible refine sX3_seekNowM (hM.ext' (by first | assumption | exact ext.rf | exact ext.tr hk (by assumption))) (by assumption) (by assumption) (by first | assumption | exact lt65 (by assumption)) (fun _ _ _ _ => ?_)
      | with_reducible refine sX3_oftenNow (hM.ext' (by first | assumption | exact ext.rf | exact ext.tr hk (by assumption))) (by assumption) (by assumption) (by first | assumption | exact lt65 (by assumption)) (fun _ _ _ => ?_)
      | with_reducible refine sX3_high (fun _ => ?_)
      | with_reducible refine sX3_low (fun _ => ?_)
      | with_reducible refine sX3_one (fun _ => ?_)
      | with_reducible refine sX3_fixed (by first | assumption | exact CAt.row (by assumption) | exact isRow.ext (CAt.row (by assumption)) (by assumption)) ?_ ?_
      | with_reducible refine sX3_small (by first | assumption | exact CAt.row (by assumption) | exact isRow.ext (CAt.row (by assumption)) (by assumption)) ?_ ?_
      | with_reducible refine sX3_aroundNow (by first | assumption | exact CAt.row (by assumption) | exact isRow.ext (CAt.row (by assumption)) (by assumption)) (by assumption) (by first | assumption | exact lt43 (by assumption)) (fun _ => ?_)
      | with_reducible refine sX3_whichNow (by first | assumption | exact CAt.row (by assumption) | exact isRow.ext (CAt.row (by assumption)) (by assumption)) (fun _ => ?_)
      | with_reducible refine go_Y (hM.ext' (by first | assumption | exact ext.rf | exact ext.tr hk (by assumption))) (fun _ _ _ _ _ _ => ?_)
      | with_reducible refine gl_M (hM.ext' (by first | assumption | exact ext.rf | exact ext.tr hk (by assumption))) ?_
      | with_reducible exact vpi8 (by assumption) (by assumption)
      | with_reducible exact vpi4l (by assumption) (by assumption)
      | with_reducible exact gtC (hM.ext' (by first | assumption | exact ext.rf | exact ext.tr hk (by assumption))) (by assumption)
      | with_reducible refine sGetY (by assumption) (by assumption) (by assumption) (by first | assumption | exact lt65 (by assumption)) ?_
      | with_reducible exact isRow.ca (by first | assumption | exact CAt.row (by assumption) | exact isRow.ext (CAt.row (by assumption)) (by assumption))
      | with_reducible refine gl_Row (by first | assumption | exact CAt.row (by assumption) | exact isRow.ext (CAt.row (by assumption)) (by assumption)) (fun _ => ?_)
      | with_reducible exact hQ _ _ ((by first | assumption | exact ext.rf | exact ext.tr hk (by assumption)))
      | simp only [eX3_digest_0, eX3_digest_0N, eX3_digest_1, eX3_digest_2, eX3_digest_5, eX3_digest_8, eX3_digest_9, eX3_digest_10, eX3_digest_12, eX3_digest_13, eX3_digest_16, eX3_digest_17, eX3_digest_17N, eX3_digest_18, eX3_digest_19, eX3_digest_22, eX3_digest_23, eX3_digest_26, eX3_digest_27, eX3_digest_30, eX3_digest_33, eX3_digest_34, eX3_digest_36, eX3_digest_38, eX3_digest_41, eX3_digest_42, eX3_digest_42N, eX3_digest_43, eX3_digest_46, eX3_digest_47, eX3_digest_48, eX3_digest_51, eX3_digest_52, eX3_digest_55, eX3_digest_55N, eX3_digest_56, eX3_digest_59, eX3_digest_60, eX3_digest_61, eX3_digest_64, eX3_digest_65, eX3_digest_68, eX3_digest_68N, eX3_digest_69, eX3_digest_70, eX3_digest_71, eX3_digest_74, eX3_digest_75, eX3_digest_78, eX3_digest_78N, eX3_digest_79, eX3_digest_80, eX3_digest_81, eX3_digest_84, eX3_digest_85, eX3_digest_88, eX3_digest_89, eX3_digest_92, eX3_digest_95, eX3_digest_96, eX3_digest_98, eX3_digest_100, eX3_digest_103, eX3_digest_104, eX3_digest_104N, eX3_digest_105, eX3_digest_106, eX3_digest_109, eX3_digest_112, eX3_digest_113, eX3_digest_116, eX3_digest_117, eX3_digest_120, eX3_digest_121, eX3_digest_124, eX3_digest_125, eX3_digest_125N, eX3_digest_126, eX3_digest_127, eX3_digest_130, eX3_digest_133, eX3_digest_136, eX3_digest_136N, eX3_digest_137, eX3_digest_140, eX3_digest_141, eX3_digest_144N, eX3_digest_144R, eX3_digest_147, eX3_digest_147N, eX3_digest_149, eX3_digest_150, eX3_digest_154, eX3_digest_155, eX3_digest_158, eX3_digest_159, eX3_digest_159N, eX3_digest_161, eX3_digest_163, eX3_digest_164, eX3_digest_167, eX3_digest_168, eX3_digest_171, eX3_digest_171N, eX3_digest_173, eX3_digest_175, eX3_digest_176, eX3_digest_179, eX3_digest_180, eX3_digest_183, eX3_digest_183N, eX3_digest_185, eX3_digest_187, eX3_digest_188R, eX3_digest_188N, eX3_digest_191, eX3_digest_192, eX3_digest_195, eX3_digest_195N, eX3_digest_197, eX3_digest_199, eX3_digest_200R, eX3_digest_200N, eX3_digest_203, eX3_digest_204, eX3_digest_207, eX3_digest_208, eX3_digest_211, eX3_digest_214, eX3_digest_215, eX3_digest_215N, eX3_digest_217R, eX3_digest_217N, eX3_digest_220, eX3_digest_223, eX3_digest_224, eX3_digest_227, eX3_digest_227N, eX3_digest_229R, eX3_digest_229N, eX3_digest_232, eX3_digest_235, eX3_digest_236, eX3_digest_239, eX3_digest_239N, eX3_digest_240, eX3_digest_241, eX3_digest_244, eX3_digest_245, eX3_digest_248, eX3_digest_249, eX3_digest_250, eX3_digest_250N, eX3_digest_251, eX3_digest_252, eX3_digest_253, eX3_digest_256, eX3_digest_257, eX3_digest_260, eX3_digest_260N, eX3_digest_261, eX3_digest_262, eX3_digest_263, eX3_digest_266, eX3_digest_267, eX3_digest_270, eX3_digest_270N, eX3_digest_271, eX3_digest_272, eX3_digest_275, eX3_digest_276, eX3_digest_279, eX3_digest_280, eX3_digest_281, eX3_digest_285, eX3_digest_286, eX3_digest_289, eX3_digest_290, eX3_digest_290N, eX3_digest_292, eX3_digest_294R, eX3_digest_294N, eX3_digest_297, eX3_digest_298, eX3_digest_301, eX3_digest_302, eX3_digest_305, eX3_digest_308, eX3_digest_311, eX3_digest_314, eX3_digest_315, eX3_digest_317, eX3_digest_318, eX3_digest_321, eX3_digest_322, eX3_digest_322N, eX3_digest_323, eX3_digest_324, eX3_digest_327, eX3_digest_328, eX3_digest_331, eX3_digest_332, eX3_digest_335, eX3_digest_338, eX3_digest_339, eX3_digest_341, eX3_digest_342, eX3_digest_345, eX3_digest_346, eX3_digest_346N, eX3_digest_347, eX3_digest_348, eX3_digest_349, eX3_digest_352, eX3_digest_353, eX3_digest_356, eX3_digest_357, eX3_digest_360, eX3_digest_363, eX3_digest_364, eX3_digest_365, eX3_digest_368, ite_le, n45, n54, true_or, or_true, false_or, or_false, false_and, and_false, kx_l, kx_r, go_s, gl_s, gi_s, gb_s2, gb_s3, gq_s, wt_nil, wt_int, wt_long, wt_ref, wt_null, nl_int, nl_long, nl_ref, nl_null, nl_none, rf_n, rf_s, rf_st, tl_s, tl_n, g0, gS, ex1, nb_b, nb_0, nb_1, nf_i, nf_l, nf_ra, nf_ro, nf_na, nf_no, nf_b0, nf_z0, t45_4, t45_5, true_and, and_true, List.set_cons_zero, List.set_cons_succ, List.length_cons, List.length_nil, rd_s, upw_s, ne_eq, not_false_eq_true, Nat.zero_add, Nat.add_zero, if_true, if_false, eq_self, m10]
      | split
      | with_reducible intro _
      | omega
end
