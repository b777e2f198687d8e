section
variable {g : RO} {w : Hw} {x nA cA lA y nM o b L k n : Nat} {xs : Nat → Int32} {i kn : Int32} {l5 l6 : Option Value}
/-! THE LAW: its cases -/
/-- the law's end: it has answered 1 -/
def QLaw : Ot → Hw → Prop := fun o _ => o = .inl (some (.int 1))
theorem LWS.rb {km : Int32} (h : LWS g w x nA cA lA y nM o kn km) {z : Ob} (hb : g.2 b = some z) : rd g w b = some z := by
  unfold rd
  rw [h.ro b z hb]
  exact hb
theorem gi_L {km : Int32} {K : Nat → (Nat → Int32) → Prop} (h : LWS g w x nA cA lA y nM o kn km) (hb : g.2 b = some (.inl (1, L, .inl xs))) (k : K L xs) : gi (rd g w b) 1 K := by
  rw [h.rb hb]
  exact ⟨rfl, k⟩
theorem vpin (h0 : 0 ≤ i.toInt) (h1 : i.toInt < (L : Int)) : vp_in i L := by
  rintro (h | h)
  · have h2 := i32_lt h
    have e : (0 : Int32).toInt = 0 := rfl
    omega
  · have e : i.toNatClampNeg = i.toInt.toNat := rfl
    omega
set_option maxHeartbeats 4000000 in
theorem cL_0 (hR : RG g) (hb : g.2 b = some (.inl (1, L, .inl xs))) (hL : LWO g w x nA cA lA y nM o kn kn) (v1 : vp_in (i + 1) L) (v2 : vp_in (i + 2) L) (v3 : vp_in (i + 3) L) (v4 : vp_in (i + 4) L) (v5 : vp_in (i + 5) L) (hk : k + 114 ≤ 58408) (hn : n + 2834 ≤ 1451408) (next : (∀ (l5' l6' : Option Value) (w' : Hw) (k' n' : Nat) (kn' : Int32), LWO g w' x nA cA lA y nM o kn' kn' → k' ≤ k + 114 → n' ≤ n + 2834 → WP (ML_law g) QLaw (2217, [some (.ref b), some (.ref x), some (.ref y), some (.ref o), some (.int i), l5', l6'], [], w', k', n'))) : WP (ML_law g) QLaw (256, [some (.ref b), some (.ref x), some (.ref y), some (.ref o), some (.int i), l5, l6], [], w, k, n) := by
  repeat' first
    | with_reducible assumption
    | with_reducible refine And.intro ?_ ?_
    | with_reducible refine gi_L (LWO.l (by assumption)) hb ?_
    | with_reducible refine go_X (LWO.l (by assumption)) (fun _ => trivial)
    | with_reducible refine go_Z (LWO.l (by assumption)) (fun _ => trivial)
    | with_reducible refine oL_set hR (by assumption) (fun v1 w1 h1 => ?_)
    | with_reducible refine sX3_set (LWO.mm h1) (fun v2 w2 m2 => ?_)
    | with_reducible exact next _ _ _ _ _ _ (LWO.ofM h1 m2) (by omega) (by omega)
    | simp only [eL_law_256, eL_law_256N, eL_law_257, eL_law_257N, eL_law_258, eL_law_260, eL_law_261, eL_law_262, eL_law_263, eL_law_263N, eL_law_264, eL_law_266, eL_law_267, eL_law_268, eL_law_269, eL_law_269N, eL_law_270, eL_law_272, eL_law_273, eL_law_274, eL_law_275, eL_law_275N, eL_law_276RR, eL_law_276NR, eL_law_276RN, eL_law_276NN, eL_law_279, eL_law_281, eL_law_281N, eL_law_282, eL_law_282N, eL_law_283, eL_law_285, eL_law_286, eL_law_287, eL_law_288, eL_law_288N, eL_law_289, eL_law_291, eL_law_292, eL_law_293, eL_law_294, eL_law_294N, eL_law_295, eL_law_297, eL_law_298, eL_law_299, eL_law_300, eL_law_303, eL_law_305, ite_le, n45, n54, true_or, or_true, false_or, or_false, false_and, and_false, kx_l, kx_r, go_s, gl_s, gi_s, gb_s2, gb_s3, gq_s, wt_nil, wt_int, wt_long, wt_ref, wt_null, nl_int, nl_long, nl_ref, nl_null, nl_none, rf_n, rf_s, rf_st, tl_s, tl_n, g0, gS, ex1, nb_b, nb_0, nb_1, nf_i, nf_l, nf_ra, nf_ro, nf_na, nf_no, nf_b0, nf_z0, t45_4, t45_5, true_and, and_true, List.set_cons_zero, List.set_cons_succ, List.length_cons, List.length_nil, rd_s, upw_s, ne_eq, not_false_eq_true, Nat.zero_add, Nat.add_zero, if_true, if_false, eq_self]
    | split
    | with_reducible intro _
    | omega
set_option maxHeartbeats 4000000 in
theorem cL_1 (hR : RG g) (hb : g.2 b = some (.inl (1, L, .inl xs))) (hL : LWO g w x nA cA lA y nM o kn kn) (v1 : vp_in (i + 1) L) (v2 : vp_in (i + 2) L) (v3 : vp_in (i + 3) L) (v4 : vp_in (i + 4) L) (v5 : vp_in (i + 5) L) (hk : k + 114 ≤ 58408) (hn : n + 2834 ≤ 1451408) (next : (∀ (l5' l6' : Option Value) (w' : Hw) (k' n' : Nat) (kn' : Int32), LWO g w' x nA cA lA y nM o kn' kn' → k' ≤ k + 114 → n' ≤ n + 2834 → WP (ML_law g) QLaw (2217, [some (.ref b), some (.ref x), some (.ref y), some (.ref o), some (.int i), l5', l6'], [], w', k', n'))) : WP (ML_law g) QLaw (308, [some (.ref b), some (.ref x), some (.ref y), some (.ref o), some (.int i), l5, l6], [], w, k, n) := by
  repeat' first
    | with_reducible assumption
    | with_reducible refine And.intro ?_ ?_
    | with_reducible refine gi_L (LWO.l (by assumption)) hb ?_
    | with_reducible refine go_X (LWO.l (by assumption)) (fun _ => trivial)
    | with_reducible refine go_Z (LWO.l (by assumption)) (fun _ => trivial)
    | with_reducible refine oL_setSmall hR (by assumption) (fun v1 w1 h1 => ?_)
    | with_reducible refine sX3_setSmall (LWO.mm h1) (fun v2 w2 m2 => ?_)
    | with_reducible exact next _ _ _ _ _ _ (LWO.ofM h1 m2) (by omega) (by omega)
    | simp only [eL_law_308, eL_law_308N, eL_law_309, eL_law_309N, eL_law_310, eL_law_312, eL_law_313, eL_law_314, eL_law_315, eL_law_315N, eL_law_316, eL_law_318, eL_law_319, eL_law_320, eL_law_321, eL_law_321N, eL_law_322RR, eL_law_322NR, eL_law_322RN, eL_law_322NN, eL_law_325, eL_law_327, eL_law_327N, eL_law_328, eL_law_328N, eL_law_329, eL_law_331, eL_law_332, eL_law_333, eL_law_334, eL_law_334N, eL_law_335, eL_law_337, eL_law_338, eL_law_339, eL_law_340, eL_law_343, eL_law_345, ite_le, n45, n54, true_or, or_true, false_or, or_false, false_and, and_false, kx_l, kx_r, go_s, gl_s, gi_s, gb_s2, gb_s3, gq_s, wt_nil, wt_int, wt_long, wt_ref, wt_null, nl_int, nl_long, nl_ref, nl_null, nl_none, rf_n, rf_s, rf_st, tl_s, tl_n, g0, gS, ex1, nb_b, nb_0, nb_1, nf_i, nf_l, nf_ra, nf_ro, nf_na, nf_no, nf_b0, nf_z0, t45_4, t45_5, true_and, and_true, List.set_cons_zero, List.set_cons_succ, List.length_cons, List.length_nil, rd_s, upw_s, ne_eq, not_false_eq_true, Nat.zero_add, Nat.add_zero, if_true, if_false, eq_self]
    | split
    | with_reducible intro _
    | omega
set_option maxHeartbeats 4000000 in
theorem cL_2 (hR : RG g) (hb : g.2 b = some (.inl (1, L, .inl xs))) (hL : LWO g w x nA cA lA y nM o kn kn) (v1 : vp_in (i + 1) L) (v2 : vp_in (i + 2) L) (v3 : vp_in (i + 3) L) (v4 : vp_in (i + 4) L) (v5 : vp_in (i + 5) L) (hk : k + 114 ≤ 58408) (hn : n + 2834 ≤ 1451408) (next : (∀ (l5' l6' : Option Value) (w' : Hw) (k' n' : Nat) (kn' : Int32), LWO g w' x nA cA lA y nM o kn' kn' → k' ≤ k + 114 → n' ≤ n + 2834 → WP (ML_law g) QLaw (2217, [some (.ref b), some (.ref x), some (.ref y), some (.ref o), some (.int i), l5', l6'], [], w', k', n'))) : WP (ML_law g) QLaw (348, [some (.ref b), some (.ref x), some (.ref y), some (.ref o), some (.int i), l5, l6], [], w, k, n) := by
  repeat' first
    | with_reducible assumption
    | with_reducible refine And.intro ?_ ?_
    | with_reducible refine gi_L (LWO.l (by assumption)) hb ?_
    | with_reducible refine go_X (LWO.l (by assumption)) (fun _ => trivial)
    | with_reducible refine go_Z (LWO.l (by assumption)) (fun _ => trivial)
    | with_reducible refine oL_setEnd hR (by assumption) (fun v1 w1 h1 => ?_)
    | with_reducible refine sX3_setEnd (LWO.mm h1) (fun v2 w2 m2 => ?_)
    | with_reducible exact next _ _ _ _ _ _ (LWO.ofM h1 m2) (by omega) (by omega)
    | simp only [eL_law_348, eL_law_348N, eL_law_349, eL_law_349N, eL_law_350, eL_law_352, eL_law_353, eL_law_354, eL_law_355, eL_law_355N, eL_law_356, eL_law_358, eL_law_359, eL_law_360, eL_law_361, eL_law_361N, eL_law_362RR, eL_law_362NR, eL_law_362RN, eL_law_362NN, eL_law_365, eL_law_367, eL_law_367N, eL_law_368, eL_law_368N, eL_law_369, eL_law_371, eL_law_372, eL_law_373, eL_law_374, eL_law_374N, eL_law_375, eL_law_377, eL_law_378, eL_law_379, eL_law_380, eL_law_383, eL_law_385, ite_le, n45, n54, true_or, or_true, false_or, or_false, false_and, and_false, kx_l, kx_r, go_s, gl_s, gi_s, gb_s2, gb_s3, gq_s, wt_nil, wt_int, wt_long, wt_ref, wt_null, nl_int, nl_long, nl_ref, nl_null, nl_none, rf_n, rf_s, rf_st, tl_s, tl_n, g0, gS, ex1, nb_b, nb_0, nb_1, nf_i, nf_l, nf_ra, nf_ro, nf_na, nf_no, nf_b0, nf_z0, t45_4, t45_5, true_and, and_true, List.set_cons_zero, List.set_cons_succ, List.length_cons, List.length_nil, rd_s, upw_s, ne_eq, not_false_eq_true, Nat.zero_add, Nat.add_zero, if_true, if_false, eq_self]
    | split
    | with_reducible intro _
    | omega
set_option maxHeartbeats 4000000 in
theorem cL_3 (hR : RG g) (hb : g.2 b = some (.inl (1, L, .inl xs))) (hL : LWO g w x nA cA lA y nM o kn kn) (v1 : vp_in (i + 1) L) (v2 : vp_in (i + 2) L) (v3 : vp_in (i + 3) L) (v4 : vp_in (i + 4) L) (v5 : vp_in (i + 5) L) (hk : k + 114 ≤ 58408) (hn : n + 2834 ≤ 1451408) (next : (∀ (l5' l6' : Option Value) (w' : Hw) (k' n' : Nat) (kn' : Int32), LWO g w' x nA cA lA y nM o kn' kn' → k' ≤ k + 114 → n' ≤ n + 2834 → WP (ML_law g) QLaw (2217, [some (.ref b), some (.ref x), some (.ref y), some (.ref o), some (.int i), l5', l6'], [], w', k', n'))) : WP (ML_law g) QLaw (388, [some (.ref b), some (.ref x), some (.ref y), some (.ref o), some (.int i), l5, l6], [], w, k, n) := by
  repeat' first
    | with_reducible assumption
    | with_reducible refine And.intro ?_ ?_
    | with_reducible refine gi_L (LWO.l (by assumption)) hb ?_
    | with_reducible refine go_X (LWO.l (by assumption)) (fun _ => trivial)
    | with_reducible refine go_Z (LWO.l (by assumption)) (fun _ => trivial)
    | with_reducible refine oL_move hR (by assumption) (fun v1 w1 h1 => ?_)
    | with_reducible refine sX3_move (LWO.mm h1) (fun v2 w2 m2 => ?_)
    | with_reducible exact next _ _ _ _ _ _ (LWO.ofM h1 m2) (by omega) (by omega)
    | simp only [eL_law_388, eL_law_388N, eL_law_389, eL_law_389N, eL_law_390, eL_law_392, eL_law_393, eL_law_394, eL_law_395, eL_law_395N, eL_law_396, eL_law_398, eL_law_399, eL_law_400, eL_law_401, eL_law_401N, eL_law_402RR, eL_law_402NR, eL_law_402RN, eL_law_402NN, eL_law_405, eL_law_407, eL_law_407N, eL_law_408, eL_law_408N, eL_law_409, eL_law_411, eL_law_412, eL_law_413, eL_law_414, eL_law_414N, eL_law_415, eL_law_417, eL_law_418, eL_law_419, eL_law_420, eL_law_423, eL_law_425, ite_le, n45, n54, true_or, or_true, false_or, or_false, false_and, and_false, kx_l, kx_r, go_s, gl_s, gi_s, gb_s2, gb_s3, gq_s, wt_nil, wt_int, wt_long, wt_ref, wt_null, nl_int, nl_long, nl_ref, nl_null, nl_none, rf_n, rf_s, rf_st, tl_s, tl_n, g0, gS, ex1, nb_b, nb_0, nb_1, nf_i, nf_l, nf_ra, nf_ro, nf_na, nf_no, nf_b0, nf_z0, t45_4, t45_5, true_and, and_true, List.set_cons_zero, List.set_cons_succ, List.length_cons, List.length_nil, rd_s, upw_s, ne_eq, not_false_eq_true, Nat.zero_add, Nat.add_zero, if_true, if_false, eq_self]
    | split
    | with_reducible intro _
    | omega
set_option maxHeartbeats 4000000 in
theorem cL_4 (hR : RG g) (hb : g.2 b = some (.inl (1, L, .inl xs))) (hL : LWO g w x nA cA lA y nM o kn kn) (v1 : vp_in (i + 1) L) (v2 : vp_in (i + 2) L) (v3 : vp_in (i + 3) L) (v4 : vp_in (i + 4) L) (v5 : vp_in (i + 5) L) (hk : k + 114 ≤ 58408) (hn : n + 2834 ≤ 1451408) (next : (∀ (l5' l6' : Option Value) (w' : Hw) (k' n' : Nat) (kn' : Int32), LWO g w' x nA cA lA y nM o kn' kn' → k' ≤ k + 114 → n' ≤ n + 2834 → WP (ML_law g) QLaw (2217, [some (.ref b), some (.ref x), some (.ref y), some (.ref o), some (.int i), l5', l6'], [], w', k', n'))) : WP (ML_law g) QLaw (428, [some (.ref b), some (.ref x), some (.ref y), some (.ref o), some (.int i), l5, l6], [], w, k, n) := by
  repeat' first
    | with_reducible assumption
    | with_reducible refine And.intro ?_ ?_
    | with_reducible refine gi_L (LWO.l (by assumption)) hb ?_
    | with_reducible refine go_X (LWO.l (by assumption)) (fun _ => trivial)
    | with_reducible refine go_Z (LWO.l (by assumption)) (fun _ => trivial)
    | with_reducible refine oL_copy hR (by assumption) (fun v1 w1 h1 => ?_)
    | with_reducible refine sX3_copy (LWO.mm h1) (fun v2 w2 m2 => ?_)
    | with_reducible exact next _ _ _ _ _ _ (LWO.ofM h1 m2) (by omega) (by omega)
    | simp only [eL_law_428, eL_law_428N, eL_law_429, eL_law_429N, eL_law_430, eL_law_432, eL_law_433, eL_law_434, eL_law_435, eL_law_435N, eL_law_436, eL_law_438, eL_law_439, eL_law_440, eL_law_441, eL_law_441N, eL_law_442RR, eL_law_442NR, eL_law_442RN, eL_law_442NN, eL_law_445, eL_law_447, eL_law_447N, eL_law_448, eL_law_448N, eL_law_449, eL_law_451, eL_law_452, eL_law_453, eL_law_454, eL_law_454N, eL_law_455, eL_law_457, eL_law_458, eL_law_459, eL_law_460, eL_law_463, eL_law_465, ite_le, n45, n54, true_or, or_true, false_or, or_false, false_and, and_false, kx_l, kx_r, go_s, gl_s, gi_s, gb_s2, gb_s3, gq_s, wt_nil, wt_int, wt_long, wt_ref, wt_null, nl_int, nl_long, nl_ref, nl_null, nl_none, rf_n, rf_s, rf_st, tl_s, tl_n, g0, gS, ex1, nb_b, nb_0, nb_1, nf_i, nf_l, nf_ra, nf_ro, nf_na, nf_no, nf_b0, nf_z0, t45_4, t45_5, true_and, and_true, List.set_cons_zero, List.set_cons_succ, List.length_cons, List.length_nil, rd_s, upw_s, ne_eq, not_false_eq_true, Nat.zero_add, Nat.add_zero, if_true, if_false, eq_self]
    | split
    | with_reducible intro _
    | omega
set_option maxHeartbeats 4000000 in
theorem cL_5 (hR : RG g) (hb : g.2 b = some (.inl (1, L, .inl xs))) (hL : LWO g w x nA cA lA y nM o kn kn) (v1 : vp_in (i + 1) L) (v2 : vp_in (i + 2) L) (v3 : vp_in (i + 3) L) (v4 : vp_in (i + 4) L) (v5 : vp_in (i + 5) L) (hk : k + 114 ≤ 58408) (hn : n + 2834 ≤ 1451408) (next : (∀ (l5' l6' : Option Value) (w' : Hw) (k' n' : Nat) (kn' : Int32), LWO g w' x nA cA lA y nM o kn' kn' → k' ≤ k + 114 → n' ≤ n + 2834 → WP (ML_law g) QLaw (2217, [some (.ref b), some (.ref x), some (.ref y), some (.ref o), some (.int i), l5', l6'], [], w', k', n'))) : WP (ML_law g) QLaw (468, [some (.ref b), some (.ref x), some (.ref y), some (.ref o), some (.int i), l5, l6], [], w, k, n) := by
  repeat' first
    | with_reducible assumption
    | with_reducible refine And.intro ?_ ?_
    | with_reducible refine gi_L (LWO.l (by assumption)) hb ?_
    | with_reducible refine go_X (LWO.l (by assumption)) (fun _ => trivial)
    | with_reducible refine go_Z (LWO.l (by assumption)) (fun _ => trivial)
    | with_reducible refine oL_ofNumber hR (by assumption) (fun v1 w1 h1 => ?_)
    | with_reducible refine sX3_ofNumber (LWO.mm h1) (fun v2 w2 m2 => ?_)
    | with_reducible exact next _ _ _ _ _ _ (LWO.ofM h1 m2) (by omega) (by omega)
    | simp only [eL_law_468, eL_law_468N, eL_law_469, eL_law_469N, eL_law_470, eL_law_472, eL_law_473, eL_law_474, eL_law_475, eL_law_475N, eL_law_476, eL_law_478, eL_law_479, eL_law_480, eL_law_481, eL_law_484, eL_law_485, eL_law_488, eL_law_489, eL_law_489N, eL_law_490RR, eL_law_490NR, eL_law_490RN, eL_law_490NN, eL_law_493, eL_law_495, eL_law_495N, eL_law_496, eL_law_496N, eL_law_497, eL_law_499, eL_law_500, eL_law_501, eL_law_502, eL_law_502N, eL_law_503, eL_law_505, eL_law_506, eL_law_507, eL_law_508, eL_law_511, eL_law_512, eL_law_515, eL_law_516, eL_law_519, eL_law_521, ite_le, n45, n54, true_or, or_true, false_or, or_false, false_and, and_false, kx_l, kx_r, go_s, gl_s, gi_s, gb_s2, gb_s3, gq_s, wt_nil, wt_int, wt_long, wt_ref, wt_null, nl_int, nl_long, nl_ref, nl_null, nl_none, rf_n, rf_s, rf_st, tl_s, tl_n, g0, gS, ex1, nb_b, nb_0, nb_1, nf_i, nf_l, nf_ra, nf_ro, nf_na, nf_no, nf_b0, nf_z0, t45_4, t45_5, true_and, and_true, List.set_cons_zero, List.set_cons_succ, List.length_cons, List.length_nil, rd_s, upw_s, ne_eq, not_false_eq_true, Nat.zero_add, Nat.add_zero, if_true, if_false, eq_self]
    | split
    | with_reducible intro _
    | omega
set_option maxHeartbeats 4000000 in
theorem cL_6 (hR : RG g) (hb : g.2 b = some (.inl (1, L, .inl xs))) (hL : LWO g w x nA cA lA y nM o kn kn) (v1 : vp_in (i + 1) L) (v2 : vp_in (i + 2) L) (v3 : vp_in (i + 3) L) (v4 : vp_in (i + 4) L) (v5 : vp_in (i + 5) L) (hk : k + 114 ≤ 58408) (hn : n + 2834 ≤ 1451408) (next : (∀ (l5' l6' : Option Value) (w' : Hw) (k' n' : Nat) (kn' : Int32), LWO g w' x nA cA lA y nM o kn' kn' → k' ≤ k + 114 → n' ≤ n + 2834 → WP (ML_law g) QLaw (2217, [some (.ref b), some (.ref x), some (.ref y), some (.ref o), some (.int i), l5', l6'], [], w', k', n'))) : WP (ML_law g) QLaw (524, [some (.ref b), some (.ref x), some (.ref y), some (.ref o), some (.int i), l5, l6], [], w, k, n) := by
  repeat' first
    | with_reducible assumption
    | with_reducible refine And.intro ?_ ?_
    | with_reducible refine gi_L (LWO.l (by assumption)) hb ?_
    | with_reducible refine go_X (LWO.l (by assumption)) (fun _ => trivial)
    | with_reducible refine go_Z (LWO.l (by assumption)) (fun _ => trivial)
    | with_reducible refine oL_numberText hR (by assumption) (fun v1 w1 h1 => ?_)
    | with_reducible refine sX3_numberText (LWO.mm h1) hR.sg (hR.dg (LWO.ro h1)) (hR.tx (LWO.ro h1)) (fun v2 w2 m2 => ?_)
    | with_reducible exact next _ _ _ _ _ _ (LWO.ofM h1 m2) (by omega) (by omega)
    | simp only [eL_law_524, eL_law_524N, eL_law_525, eL_law_525N, eL_law_526, eL_law_528, eL_law_529, eL_law_530, eL_law_531, eL_law_531N, eL_law_532RR, eL_law_532NR, eL_law_532RN, eL_law_532NN, eL_law_535, eL_law_537, eL_law_537N, eL_law_538, eL_law_538N, eL_law_539, eL_law_541, eL_law_542, eL_law_543, eL_law_544, eL_law_547, eL_law_547N, eL_law_549, ite_le, n45, n54, true_or, or_true, false_or, or_false, false_and, and_false, kx_l, kx_r, go_s, gl_s, gi_s, gb_s2, gb_s3, gq_s, wt_nil, wt_int, wt_long, wt_ref, wt_null, nl_int, nl_long, nl_ref, nl_null, nl_none, rf_n, rf_s, rf_st, tl_s, tl_n, g0, gS, ex1, nb_b, nb_0, nb_1, nf_i, nf_l, nf_ra, nf_ro, nf_na, nf_no, nf_b0, nf_z0, t45_4, t45_5, true_and, and_true, List.set_cons_zero, List.set_cons_succ, List.length_cons, List.length_nil, rd_s, upw_s, ne_eq, not_false_eq_true, Nat.zero_add, Nat.add_zero, if_true, if_false, eq_self]
    | split
    | with_reducible intro _
    | omega
set_option maxHeartbeats 4000000 in
theorem cL_7 (hR : RG g) (hb : g.2 b = some (.inl (1, L, .inl xs))) (hL : LWO g w x nA cA lA y nM o kn kn) (v1 : vp_in (i + 1) L) (v2 : vp_in (i + 2) L) (v3 : vp_in (i + 3) L) (v4 : vp_in (i + 4) L) (v5 : vp_in (i + 5) L) (hk : k + 114 ≤ 58408) (hn : n + 2834 ≤ 1451408) (next : (∀ (l5' l6' : Option Value) (w' : Hw) (k' n' : Nat) (kn' : Int32), LWO g w' x nA cA lA y nM o kn' kn' → k' ≤ k + 114 → n' ≤ n + 2834 → WP (ML_law g) QLaw (2217, [some (.ref b), some (.ref x), some (.ref y), some (.ref o), some (.int i), l5', l6'], [], w', k', n'))) : WP (ML_law g) QLaw (552, [some (.ref b), some (.ref x), some (.ref y), some (.ref o), some (.int i), l5, l6], [], w, k, n) := by
  repeat' first
    | with_reducible assumption
    | with_reducible refine And.intro ?_ ?_
    | with_reducible refine gi_L (LWO.l (by assumption)) hb ?_
    | with_reducible refine go_X (LWO.l (by assumption)) (fun _ => trivial)
    | with_reducible refine go_Z (LWO.l (by assumption)) (fun _ => trivial)
    | with_reducible refine oL_order hR (by assumption) (fun v1 w1 h1 => ?_)
    | with_reducible refine sX3_order (LWO.mm h1) (fun v2 w2 m2 => ?_)
    | with_reducible exact next _ _ _ _ _ _ (LWO.ofM h1 m2) (by omega) (by omega)
    | simp only [eL_law_552, eL_law_552N, eL_law_553, eL_law_553N, eL_law_554, eL_law_556, eL_law_557, eL_law_558, eL_law_559, eL_law_559N, eL_law_560, eL_law_562, eL_law_563, eL_law_564, eL_law_565, eL_law_565N, eL_law_566RR, eL_law_566NR, eL_law_566RN, eL_law_566NN, eL_law_569, eL_law_571, eL_law_571N, eL_law_572, eL_law_572N, eL_law_573, eL_law_575, eL_law_576, eL_law_577, eL_law_578, eL_law_578N, eL_law_579, eL_law_581, eL_law_582, eL_law_583, eL_law_584, eL_law_587, eL_law_589, ite_le, n45, n54, true_or, or_true, false_or, or_false, false_and, and_false, kx_l, kx_r, go_s, gl_s, gi_s, gb_s2, gb_s3, gq_s, wt_nil, wt_int, wt_long, wt_ref, wt_null, nl_int, nl_long, nl_ref, nl_null, nl_none, rf_n, rf_s, rf_st, tl_s, tl_n, g0, gS, ex1, nb_b, nb_0, nb_1, nf_i, nf_l, nf_ra, nf_ro, nf_na, nf_no, nf_b0, nf_z0, t45_4, t45_5, true_and, and_true, List.set_cons_zero, List.set_cons_succ, List.length_cons, List.length_nil, rd_s, upw_s, ne_eq, not_false_eq_true, Nat.zero_add, Nat.add_zero, if_true, if_false, eq_self]
    | split
    | with_reducible intro _
    | omega
set_option maxHeartbeats 4000000 in
theorem cL_8 (hR : RG g) (hb : g.2 b = some (.inl (1, L, .inl xs))) (hL : LWO g w x nA cA lA y nM o kn kn) (v1 : vp_in (i + 1) L) (v2 : vp_in (i + 2) L) (v3 : vp_in (i + 3) L) (v4 : vp_in (i + 4) L) (v5 : vp_in (i + 5) L) (hk : k + 114 ≤ 58408) (hn : n + 2834 ≤ 1451408) (next : (∀ (l5' l6' : Option Value) (w' : Hw) (k' n' : Nat) (kn' : Int32), LWO g w' x nA cA lA y nM o kn' kn' → k' ≤ k + 114 → n' ≤ n + 2834 → WP (ML_law g) QLaw (2217, [some (.ref b), some (.ref x), some (.ref y), some (.ref o), some (.int i), l5', l6'], [], w', k', n'))) : WP (ML_law g) QLaw (592, [some (.ref b), some (.ref x), some (.ref y), some (.ref o), some (.int i), l5, l6], [], w, k, n) := by
  repeat' first
    | with_reducible assumption
    | with_reducible refine And.intro ?_ ?_
    | with_reducible refine gi_L (LWO.l (by assumption)) hb ?_
    | with_reducible refine go_X (LWO.l (by assumption)) (fun _ => trivial)
    | with_reducible refine go_Z (LWO.l (by assumption)) (fun _ => trivial)
    | with_reducible refine oL_two hR (by assumption) (fun v1 w1 h1 => ?_)
    | with_reducible refine sX3_two (LWO.mm h1) (fun v2 w2 m2 => ?_)
    | with_reducible exact next _ _ _ _ _ _ (LWO.ofM h1 m2) (by omega) (by omega)
    | simp only [eL_law_592, eL_law_592N, eL_law_593, eL_law_593N, eL_law_594, eL_law_596, eL_law_597, eL_law_598, eL_law_599, eL_law_599N, eL_law_600, eL_law_602, eL_law_603, eL_law_604, eL_law_605, eL_law_605N, eL_law_606, eL_law_608, eL_law_609, eL_law_610, eL_law_611, eL_law_611N, eL_law_612RR, eL_law_612NR, eL_law_612RN, eL_law_612NN, eL_law_615, eL_law_617, eL_law_617N, eL_law_618, eL_law_618N, eL_law_619, eL_law_621, eL_law_622, eL_law_623, eL_law_624, eL_law_624N, eL_law_625, eL_law_627, eL_law_628, eL_law_629, eL_law_630, eL_law_630N, eL_law_631, eL_law_633, eL_law_634, eL_law_635, eL_law_636, eL_law_639, eL_law_641, ite_le, n45, n54, true_or, or_true, false_or, or_false, false_and, and_false, kx_l, kx_r, go_s, gl_s, gi_s, gb_s2, gb_s3, gq_s, wt_nil, wt_int, wt_long, wt_ref, wt_null, nl_int, nl_long, nl_ref, nl_null, nl_none, rf_n, rf_s, rf_st, tl_s, tl_n, g0, gS, ex1, nb_b, nb_0, nb_1, nf_i, nf_l, nf_ra, nf_ro, nf_na, nf_no, nf_b0, nf_z0, t45_4, t45_5, true_and, and_true, List.set_cons_zero, List.set_cons_succ, List.length_cons, List.length_nil, rd_s, upw_s, ne_eq, not_false_eq_true, Nat.zero_add, Nat.add_zero, if_true, if_false, eq_self]
    | split
    | with_reducible intro _
    | omega
set_option maxHeartbeats 4000000 in
theorem cL_9 (hR : RG g) (hb : g.2 b = some (.inl (1, L, .inl xs))) (hL : LWO g w x nA cA lA y nM o kn kn) (v1 : vp_in (i + 1) L) (v2 : vp_in (i + 2) L) (v3 : vp_in (i + 3) L) (v4 : vp_in (i + 4) L) (v5 : vp_in (i + 5) L) (hk : k + 114 ≤ 58408) (hn : n + 2834 ≤ 1451408) (next : (∀ (l5' l6' : Option Value) (w' : Hw) (k' n' : Nat) (kn' : Int32), LWO g w' x nA cA lA y nM o kn' kn' → k' ≤ k + 114 → n' ≤ n + 2834 → WP (ML_law g) QLaw (2217, [some (.ref b), some (.ref x), some (.ref y), some (.ref o), some (.int i), l5', l6'], [], w', k', n'))) : WP (ML_law g) QLaw (644, [some (.ref b), some (.ref x), some (.ref y), some (.ref o), some (.int i), l5, l6], [], w, k, n) := by
  repeat' first
    | with_reducible assumption
    | with_reducible refine And.intro ?_ ?_
    | with_reducible refine gi_L (LWO.l (by assumption)) hb ?_
    | with_reducible refine go_X (LWO.l (by assumption)) (fun _ => trivial)
    | with_reducible refine go_Z (LWO.l (by assumption)) (fun _ => trivial)
    | with_reducible refine oL_three hR (by assumption) (fun v1 w1 h1 => ?_)
    | with_reducible refine sX3_three (LWO.mm h1) (fun v2 w2 m2 => ?_)
    | with_reducible exact next _ _ _ _ _ _ (LWO.ofM h1 m2) (by omega) (by omega)
    | simp only [eL_law_644, eL_law_644N, eL_law_645, eL_law_645N, eL_law_646, eL_law_648, eL_law_649, eL_law_650, eL_law_651, eL_law_651N, eL_law_652, eL_law_654, eL_law_655, eL_law_656, eL_law_657, eL_law_657N, eL_law_658, eL_law_660, eL_law_661, eL_law_662, eL_law_663, eL_law_663N, eL_law_664, eL_law_666, eL_law_667, eL_law_668, eL_law_669, eL_law_669N, eL_law_670RR, eL_law_670NR, eL_law_670RN, eL_law_670NN, eL_law_673, eL_law_675, eL_law_675N, eL_law_676, eL_law_676N, eL_law_677, eL_law_679, eL_law_680, eL_law_681, eL_law_682, eL_law_682N, eL_law_683, eL_law_685, eL_law_686, eL_law_687, eL_law_688, eL_law_688N, eL_law_689, eL_law_691, eL_law_692, eL_law_693, eL_law_694, eL_law_694N, eL_law_695, eL_law_697, eL_law_698, eL_law_699, eL_law_700, eL_law_703, eL_law_705, ite_le, n45, n54, true_or, or_true, false_or, or_false, false_and, and_false, kx_l, kx_r, go_s, gl_s, gi_s, gb_s2, gb_s3, gq_s, wt_nil, wt_int, wt_long, wt_ref, wt_null, nl_int, nl_long, nl_ref, nl_null, nl_none, rf_n, rf_s, rf_st, tl_s, tl_n, g0, gS, ex1, nb_b, nb_0, nb_1, nf_i, nf_l, nf_ra, nf_ro, nf_na, nf_no, nf_b0, nf_z0, t45_4, t45_5, true_and, and_true, List.set_cons_zero, List.set_cons_succ, List.length_cons, List.length_nil, rd_s, upw_s, ne_eq, not_false_eq_true, Nat.zero_add, Nat.add_zero, if_true, if_false, eq_self]
    | split
    | with_reducible intro _
    | omega
set_option maxHeartbeats 4000000 in
theorem cL_10 (hR : RG g) (hb : g.2 b = some (.inl (1, L, .inl xs))) (hL : LWO g w x nA cA lA y nM o kn kn) (v1 : vp_in (i + 1) L) (v2 : vp_in (i + 2) L) (v3 : vp_in (i + 3) L) (v4 : vp_in (i + 4) L) (v5 : vp_in (i + 5) L) (hk : k + 114 ≤ 58408) (hn : n + 2834 ≤ 1451408) (next : (∀ (l5' l6' : Option Value) (w' : Hw) (k' n' : Nat) (kn' : Int32), LWO g w' x nA cA lA y nM o kn' kn' → k' ≤ k + 114 → n' ≤ n + 2834 → WP (ML_law g) QLaw (2217, [some (.ref b), some (.ref x), some (.ref y), some (.ref o), some (.int i), l5', l6'], [], w', k', n'))) : WP (ML_law g) QLaw (708, [some (.ref b), some (.ref x), some (.ref y), some (.ref o), some (.int i), l5, l6], [], w, k, n) := by
  repeat' first
    | with_reducible assumption
    | with_reducible refine And.intro ?_ ?_
    | with_reducible refine gi_L (LWO.l (by assumption)) hb ?_
    | with_reducible refine go_X (LWO.l (by assumption)) (fun _ => trivial)
    | with_reducible refine go_Z (LWO.l (by assumption)) (fun _ => trivial)
    | with_reducible refine oL_four hR (by assumption) (fun v1 w1 h1 => ?_)
    | with_reducible refine sX3_four (LWO.mm h1) (fun v2 w2 m2 => ?_)
    | with_reducible exact next _ _ _ _ _ _ (LWO.ofM h1 m2) (by omega) (by omega)
    | simp only [eL_law_708, eL_law_708N, eL_law_709, eL_law_709N, eL_law_710, eL_law_712, eL_law_713, eL_law_714, eL_law_715, eL_law_715N, eL_law_716, eL_law_718, eL_law_719, eL_law_720, eL_law_721, eL_law_721N, eL_law_722, eL_law_724, eL_law_725, eL_law_726, eL_law_727, eL_law_727N, eL_law_728, eL_law_730, eL_law_731, eL_law_732, eL_law_733, eL_law_733N, eL_law_734, eL_law_736, eL_law_737, eL_law_738, eL_law_739, eL_law_739N, eL_law_740RR, eL_law_740NR, eL_law_740RN, eL_law_740NN, eL_law_743, eL_law_745, eL_law_745N, eL_law_746, eL_law_746N, eL_law_747, eL_law_749, eL_law_750, eL_law_751, eL_law_752, eL_law_752N, eL_law_753, eL_law_755, eL_law_756, eL_law_757, eL_law_758, eL_law_758N, eL_law_759, eL_law_761, eL_law_762, eL_law_763, eL_law_764, eL_law_764N, eL_law_765, eL_law_767, eL_law_768, eL_law_769, eL_law_770, eL_law_770N, eL_law_771, eL_law_773, eL_law_774, eL_law_775, eL_law_776, eL_law_779, eL_law_781, ite_le, n45, n54, true_or, or_true, false_or, or_false, false_and, and_false, kx_l, kx_r, go_s, gl_s, gi_s, gb_s2, gb_s3, gq_s, wt_nil, wt_int, wt_long, wt_ref, wt_null, nl_int, nl_long, nl_ref, nl_null, nl_none, rf_n, rf_s, rf_st, tl_s, tl_n, g0, gS, ex1, nb_b, nb_0, nb_1, nf_i, nf_l, nf_ra, nf_ro, nf_na, nf_no, nf_b0, nf_z0, t45_4, t45_5, true_and, and_true, List.set_cons_zero, List.set_cons_succ, List.length_cons, List.length_nil, rd_s, upw_s, ne_eq, not_false_eq_true, Nat.zero_add, Nat.add_zero, if_true, if_false, eq_self]
    | split
    | with_reducible intro _
    | omega
set_option maxHeartbeats 4000000 in
theorem cL_11 (hR : RG g) (hb : g.2 b = some (.inl (1, L, .inl xs))) (hL : LWO g w x nA cA lA y nM o kn kn) (v1 : vp_in (i + 1) L) (v2 : vp_in (i + 2) L) (v3 : vp_in (i + 3) L) (v4 : vp_in (i + 4) L) (v5 : vp_in (i + 5) L) (hk : k + 114 ≤ 58408) (hn : n + 2834 ≤ 1451408) (next : (∀ (l5' l6' : Option Value) (w' : Hw) (k' n' : Nat) (kn' : Int32), LWO g w' x nA cA lA y nM o kn' kn' → k' ≤ k + 114 → n' ≤ n + 2834 → WP (ML_law g) QLaw (2217, [some (.ref b), some (.ref x), some (.ref y), some (.ref o), some (.int i), l5', l6'], [], w', k', n'))) : WP (ML_law g) QLaw (784, [some (.ref b), some (.ref x), some (.ref y), some (.ref o), some (.int i), l5, l6], [], w, k, n) := by
  repeat' first
    | with_reducible assumption
    | with_reducible refine And.intro ?_ ?_
    | with_reducible refine gi_L (LWO.l (by assumption)) hb ?_
    | with_reducible refine go_X (LWO.l (by assumption)) (fun _ => trivial)
    | with_reducible refine go_Z (LWO.l (by assumption)) (fun _ => trivial)
    | with_reducible refine oL_twoSmall hR (by assumption) (fun v1 w1 h1 => ?_)
    | with_reducible refine sX3_twoSmall (LWO.mm h1) (fun v2 w2 m2 => ?_)
    | with_reducible exact next _ _ _ _ _ _ (LWO.ofM h1 m2) (by omega) (by omega)
    | simp only [eL_law_784, eL_law_784N, eL_law_785, eL_law_785N, eL_law_786, eL_law_788, eL_law_789, eL_law_790, eL_law_791, eL_law_791N, eL_law_792, eL_law_794, eL_law_795, eL_law_796, eL_law_797, eL_law_797N, eL_law_798, eL_law_800, eL_law_801, eL_law_802, eL_law_803, eL_law_803N, eL_law_804RR, eL_law_804NR, eL_law_804RN, eL_law_804NN, eL_law_807, eL_law_809, eL_law_809N, eL_law_810, eL_law_810N, eL_law_811, eL_law_813, eL_law_814, eL_law_815, eL_law_816, eL_law_816N, eL_law_817, eL_law_819, eL_law_820, eL_law_821, eL_law_822, eL_law_822N, eL_law_823, eL_law_825, eL_law_826, eL_law_827, eL_law_828, eL_law_831, eL_law_833, ite_le, n45, n54, true_or, or_true, false_or, or_false, false_and, and_false, kx_l, kx_r, go_s, gl_s, gi_s, gb_s2, gb_s3, gq_s, wt_nil, wt_int, wt_long, wt_ref, wt_null, nl_int, nl_long, nl_ref, nl_null, nl_none, rf_n, rf_s, rf_st, tl_s, tl_n, g0, gS, ex1, nb_b, nb_0, nb_1, nf_i, nf_l, nf_ra, nf_ro, nf_na, nf_no, nf_b0, nf_z0, t45_4, t45_5, true_and, and_true, List.set_cons_zero, List.set_cons_succ, List.length_cons, List.length_nil, rd_s, upw_s, ne_eq, not_false_eq_true, Nat.zero_add, Nat.add_zero, if_true, if_false, eq_self]
    | split
    | with_reducible intro _
    | omega
end
