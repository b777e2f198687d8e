section
variable {g : RO} {w : Hw} {x nA cA lA y nM o b L k n : Nat} {xs : Nat → Int32} {i kn th : Int32} {s : AS} {l5 l6 : Option Value}
/-! THE LAW: its cases, both sides -/
def QLaw : Ot → Hw → Prop := fun o _ => o = .inl (some (.int 1))
theorem vpin (h0 : 0 ≤ i.toInt) (h1 : i.toInt < (L : Int)) : vp_in i L := by
  rintro (h | h)
  · have h2 := i32_lt h
    have e : (0 : Int32).toInt = 0 := rfl
    omega
  · have e : i.toNatClampNeg = i.toInt.toNat := rfl
    omega
theorem gi_L (h : LW g w x nA cA lA y nM o kn kn th s s) (hb : g.2 b = some (.inl (1, L, .inl xs))) {K : Nat → (Nat → Int32) → Prop} (k : K L xs) : gi (rd g w b) 1 K := gi_W h hb k
theorem n12z : ((1 : Int32) = 0) = False := eq_false (by decide)
theorem n2z : ((2 : Int32) = 0) = False := eq_false (by decide)
theorem n3z : ((3 : Int32) = 0) = False := eq_false (by decide)
set_option maxHeartbeats 4000000 in
theorem cL_0 (hR : RG g) (hb : g.2 b = some (.inl (1, L, .inl xs))) (hL : LW g w x nA cA lA y nM o kn kn th s s) (v1 : vp_in (i + 1) L) (v2 : vp_in (i + 2) L) (v3 : vp_in (i + 3) L) (v4 : vp_in (i + 4) L) (v5 : vp_in (i + 5) L) (hk : k + 114 ≤ 58408) (hn : n + 2834 ≤ 1451408) (next : (∀ (l5' l6' : Option Value) (w' : Hw) (k' n' : Nat) (kn' th' : Int32) (s' : AS), LW g w' x nA cA lA y nM o kn' kn' th' s' s' → k' ≤ k + 114 → n' ≤ n + 2834 → WP (ML_law g) QLaw (2246, [some (.ref b), some (.ref x), some (.ref y), some (.ref o), some (.int i), l5', l6'], [], w', k', n'))) : WP (ML_law g) QLaw (256, [some (.ref b), some (.ref x), some (.ref y), some (.ref o), some (.int i), l5, l6], [], w, k, n) := by
  repeat' first
    | with_reducible assumption
    | with_reducible refine And.intro ?_ ?_
    | with_reducible refine gi_W hL hb ?_
    | with_reducible refine LW.gx hL (fun _ => trivial)
    | with_reducible exact absurd hQqc0 hXpc0
    | with_reducible exact absurd hQpc0 hXqc0
    | with_reducible refine fL_set hL (fun hXpc0 => ?_) (fun hQpc0 hQpw hQph hQpo => ?_)
    | with_reducible refine fX3_set (LW.ms hL) (fun hXqc0 hXqw hXqh => ?_) (fun hQqc0 hQqw hQqh => ?_)
    | with_reducible refine fX3_set (LW.ms hQph) (fun hXqc0 hXqw hXqh => ?_) (fun hQqc0 hQqw hQqh => ?_)
    | with_reducible refine LW.gz hL (fun _ => trivial)
    | with_reducible refine gi_W hL hb ?_
    | with_reducible refine LW.gz hQph (fun _ => trivial)
    | with_reducible refine gi_W hQph hb ?_
    | with_reducible exact next _ _ _ _ _ _ _ _ (LW.ofM hL hXqh) (by omega) (by omega)
    | with_reducible exact next _ _ _ _ _ _ _ _ (LW.ofM hL hQqh) (by omega) (by omega)
    | with_reducible exact next _ _ _ _ _ _ _ _ (LW.ofM hQph hXqh) (by omega) (by omega)
    | with_reducible exact next _ _ _ _ _ _ _ _ (LW.ofM hQph hQqh) (by omega) (by omega)
    | simp only [eL_law_256, eL_law_256N, eL_law_257, eL_law_257N, eL_law_258, eL_law_260, eL_law_261, eL_law_262, eL_law_263, eL_law_263N, eL_law_264, eL_law_266, eL_law_267, eL_law_268, eL_law_269, eL_law_269N, eL_law_270, eL_law_272, eL_law_273, eL_law_274, eL_law_275, eL_law_275N, eL_law_276RR, eL_law_276NR, eL_law_276RN, eL_law_276NN, eL_law_279, eL_law_281, eL_law_281N, eL_law_282, eL_law_282N, eL_law_283, eL_law_285, eL_law_286, eL_law_287, eL_law_288, eL_law_288N, eL_law_289, eL_law_291, eL_law_292, eL_law_293, eL_law_294, eL_law_294N, eL_law_295, eL_law_297, eL_law_298, eL_law_299, eL_law_300, eL_law_303, eL_law_305, ite_le, n45, n54, true_or, or_true, false_or, or_false, false_and, and_false, kx_l, kx_r, go_s, gl_s, gi_s, gb_s2, gb_s3, gq_s, wt_nil, wt_int, wt_long, wt_ref, wt_null, nl_int, nl_long, nl_ref, nl_null, nl_none, rf_n, rf_s, rf_st, tl_s, tl_n, g0, gS, ex1, nb_b, nb_0, nb_1, nf_i, nf_l, nf_ra, nf_ro, nf_na, nf_no, nf_b0, nf_z0, t45_4, t45_5, true_and, and_true, List.set_cons_zero, List.set_cons_succ, List.length_cons, List.length_nil, rd_s, upw_s, ne_eq, not_false_eq_true, Nat.zero_add, Nat.add_zero, if_true, if_false, eq_self, lgz, n12z, n2z, n3z, i00, not_true]
    | split
    | with_reducible intro _
    | omega
set_option maxHeartbeats 4000000 in
theorem cL_1 (hR : RG g) (hb : g.2 b = some (.inl (1, L, .inl xs))) (hL : LW g w x nA cA lA y nM o kn kn th s s) (v1 : vp_in (i + 1) L) (v2 : vp_in (i + 2) L) (v3 : vp_in (i + 3) L) (v4 : vp_in (i + 4) L) (v5 : vp_in (i + 5) L) (hk : k + 114 ≤ 58408) (hn : n + 2834 ≤ 1451408) (next : (∀ (l5' l6' : Option Value) (w' : Hw) (k' n' : Nat) (kn' th' : Int32) (s' : AS), LW g w' x nA cA lA y nM o kn' kn' th' s' s' → k' ≤ k + 114 → n' ≤ n + 2834 → WP (ML_law g) QLaw (2246, [some (.ref b), some (.ref x), some (.ref y), some (.ref o), some (.int i), l5', l6'], [], w', k', n'))) : WP (ML_law g) QLaw (308, [some (.ref b), some (.ref x), some (.ref y), some (.ref o), some (.int i), l5, l6], [], w, k, n) := by
  repeat' first
    | with_reducible assumption
    | with_reducible refine And.intro ?_ ?_
    | with_reducible refine gi_W hL hb ?_
    | with_reducible refine LW.gx hL (fun _ => trivial)
    | with_reducible exact absurd hQqc0 hXpc0
    | with_reducible exact absurd hQpc0 hXqc0
    | with_reducible refine fL_setSmall hL (fun hXpc0 => ?_) (fun hQpc0 hQpw hQph hQpo => ?_)
    | with_reducible refine fX3_setSmall (LW.ms hL) (fun hXqc0 hXqw hXqh => ?_) (fun hQqc0 hQqw hQqh => ?_)
    | with_reducible refine fX3_setSmall (LW.ms hQph) (fun hXqc0 hXqw hXqh => ?_) (fun hQqc0 hQqw hQqh => ?_)
    | with_reducible refine LW.gz hL (fun _ => trivial)
    | with_reducible refine gi_W hL hb ?_
    | with_reducible refine LW.gz hQph (fun _ => trivial)
    | with_reducible refine gi_W hQph hb ?_
    | with_reducible exact next _ _ _ _ _ _ _ _ (LW.ofM hL hXqh) (by omega) (by omega)
    | with_reducible exact next _ _ _ _ _ _ _ _ (LW.ofM hL hQqh) (by omega) (by omega)
    | with_reducible exact next _ _ _ _ _ _ _ _ (LW.ofM hQph hXqh) (by omega) (by omega)
    | with_reducible exact next _ _ _ _ _ _ _ _ (LW.ofM hQph hQqh) (by omega) (by omega)
    | with_reducible refine LW.gz (LW.ofM hL hXqh) (fun _ => trivial)
    | with_reducible refine fX3_thrown (LW.ms (LW.ofM hL hXqh)) ?_
    | with_reducible refine LW.gz (LW.ofM hL hQqh) (fun _ => trivial)
    | with_reducible refine fX3_thrown (LW.ms (LW.ofM hL hQqh)) ?_
    | with_reducible refine LW.gz (LW.ofM hQph hXqh) (fun _ => trivial)
    | with_reducible refine fX3_thrown (LW.ms (LW.ofM hQph hXqh)) ?_
    | with_reducible refine go_ON (outN.mv hQpo hQph hXqh) (fun _ => ?_)
    | with_reducible refine LW.gz (LW.ofM hQph hQqh) (fun _ => trivial)
    | with_reducible refine fX3_thrown (LW.ms (LW.ofM hQph hQqh)) ?_
    | with_reducible refine go_ON (outN.mv hQpo hQph hQqh) (fun _ => ?_)
    | simp only [eL_law_308, eL_law_308N, eL_law_309, eL_law_309N, eL_law_310, eL_law_312, eL_law_313, eL_law_314, eL_law_315, eL_law_315N, eL_law_316, eL_law_318, eL_law_319, eL_law_320, eL_law_321, eL_law_321N, eL_law_322RR, eL_law_322NR, eL_law_322RN, eL_law_322NN, eL_law_325, eL_law_327, eL_law_327N, eL_law_328, eL_law_328N, eL_law_329, eL_law_331, eL_law_332, eL_law_333, eL_law_334, eL_law_334N, eL_law_335, eL_law_337, eL_law_338, eL_law_339, eL_law_340, eL_law_343, eL_law_345, eL_law_345N, eL_law_346, eL_law_349, eL_law_351, eL_law_354, eL_law_355, eL_law_356, eL_law_358, eL_law_361, eL_law_361N, eL_law_362, eL_law_365, eL_law_367, eL_law_368, eL_law_369, eL_law_372, eL_law_373, eL_law_374, ite_le, n45, n54, true_or, or_true, false_or, or_false, false_and, and_false, kx_l, kx_r, go_s, gl_s, gi_s, gb_s2, gb_s3, gq_s, wt_nil, wt_int, wt_long, wt_ref, wt_null, nl_int, nl_long, nl_ref, nl_null, nl_none, rf_n, rf_s, rf_st, tl_s, tl_n, g0, gS, ex1, nb_b, nb_0, nb_1, nf_i, nf_l, nf_ra, nf_ro, nf_na, nf_no, nf_b0, nf_z0, t45_4, t45_5, true_and, and_true, List.set_cons_zero, List.set_cons_succ, List.length_cons, List.length_nil, rd_s, upw_s, ne_eq, not_false_eq_true, Nat.zero_add, Nat.add_zero, if_true, if_false, eq_self, lgz, n12z, n2z, n3z, i00, not_true]
    | split
    | with_reducible intro _
    | omega
set_option maxHeartbeats 4000000 in
theorem cL_2 (hR : RG g) (hb : g.2 b = some (.inl (1, L, .inl xs))) (hL : LW g w x nA cA lA y nM o kn kn th s s) (v1 : vp_in (i + 1) L) (v2 : vp_in (i + 2) L) (v3 : vp_in (i + 3) L) (v4 : vp_in (i + 4) L) (v5 : vp_in (i + 5) L) (hk : k + 114 ≤ 58408) (hn : n + 2834 ≤ 1451408) (next : (∀ (l5' l6' : Option Value) (w' : Hw) (k' n' : Nat) (kn' th' : Int32) (s' : AS), LW g w' x nA cA lA y nM o kn' kn' th' s' s' → k' ≤ k + 114 → n' ≤ n + 2834 → WP (ML_law g) QLaw (2246, [some (.ref b), some (.ref x), some (.ref y), some (.ref o), some (.int i), l5', l6'], [], w', k', n'))) : WP (ML_law g) QLaw (377, [some (.ref b), some (.ref x), some (.ref y), some (.ref o), some (.int i), l5, l6], [], w, k, n) := by
  repeat' first
    | with_reducible assumption
    | with_reducible refine And.intro ?_ ?_
    | with_reducible refine gi_W hL hb ?_
    | with_reducible refine LW.gx hL (fun _ => trivial)
    | with_reducible exact absurd hWqc0 hXpc0
    | with_reducible exact absurd hQqc0 hXpc0
    | with_reducible exact absurd hWpc0 hXqc0
    | with_reducible exact absurd hQqc1 hWpc1
    | with_reducible exact absurd hQpc0 hXqc0
    | with_reducible exact absurd hQpc1 hWqc1
    | with_reducible refine fL_setEnd hL (fun hXpc0 => ?_) (fun hWpc0 hWpc1 => ?_) (fun hQpc0 hQpc1 hQpw hQph hQpo => ?_)
    | with_reducible refine fX3_setEnd (LW.ms hL) (fun hXqc0 hXqw hXqh => ?_) (fun hWqc0 hWqc1 hWqw hWqh => ?_) (fun hQqc0 hQqc1 hQqw hQqh => ?_)
    | with_reducible refine fX3_setEnd (LW.ms hQph) (fun hXqc0 hXqw hXqh => ?_) (fun hWqc0 hWqc1 hWqw hWqh => ?_) (fun hQqc0 hQqc1 hQqw hQqh => ?_)
    | with_reducible refine LW.gz hL (fun _ => trivial)
    | with_reducible refine gi_W hL hb ?_
    | with_reducible refine LW.gz hQph (fun _ => trivial)
    | with_reducible refine gi_W hQph hb ?_
    | with_reducible exact next _ _ _ _ _ _ _ _ (LW.ofM hL hXqh) (by omega) (by omega)
    | with_reducible exact next _ _ _ _ _ _ _ _ (LW.ofM hL hWqh) (by omega) (by omega)
    | with_reducible exact next _ _ _ _ _ _ _ _ (LW.ofM hL hQqh) (by omega) (by omega)
    | with_reducible exact next _ _ _ _ _ _ _ _ (LW.ofM hQph hXqh) (by omega) (by omega)
    | with_reducible exact next _ _ _ _ _ _ _ _ (LW.ofM hQph hWqh) (by omega) (by omega)
    | with_reducible exact next _ _ _ _ _ _ _ _ (LW.ofM hQph hQqh) (by omega) (by omega)
    | simp only [eL_law_377, eL_law_377N, eL_law_378, eL_law_378N, eL_law_379, eL_law_381, eL_law_382, eL_law_383, eL_law_384, eL_law_384N, eL_law_385, eL_law_387, eL_law_388, eL_law_389, eL_law_390, eL_law_390N, eL_law_391RR, eL_law_391NR, eL_law_391RN, eL_law_391NN, eL_law_394, eL_law_396, eL_law_396N, eL_law_397, eL_law_397N, eL_law_398, eL_law_400, eL_law_401, eL_law_402, eL_law_403, eL_law_403N, eL_law_404, eL_law_406, eL_law_407, eL_law_408, eL_law_409, eL_law_412, eL_law_414, ite_le, n45, n54, true_or, or_true, false_or, or_false, false_and, and_false, kx_l, kx_r, go_s, gl_s, gi_s, gb_s2, gb_s3, gq_s, wt_nil, wt_int, wt_long, wt_ref, wt_null, nl_int, nl_long, nl_ref, nl_null, nl_none, rf_n, rf_s, rf_st, tl_s, tl_n, g0, gS, ex1, nb_b, nb_0, nb_1, nf_i, nf_l, nf_ra, nf_ro, nf_na, nf_no, nf_b0, nf_z0, t45_4, t45_5, true_and, and_true, List.set_cons_zero, List.set_cons_succ, List.length_cons, List.length_nil, rd_s, upw_s, ne_eq, not_false_eq_true, Nat.zero_add, Nat.add_zero, if_true, if_false, eq_self, lgz, n12z, n2z, n3z, i00, not_true]
    | split
    | with_reducible intro _
    | omega
set_option maxHeartbeats 4000000 in
theorem cL_3 (hR : RG g) (hb : g.2 b = some (.inl (1, L, .inl xs))) (hL : LW g w x nA cA lA y nM o kn kn th s s) (v1 : vp_in (i + 1) L) (v2 : vp_in (i + 2) L) (v3 : vp_in (i + 3) L) (v4 : vp_in (i + 4) L) (v5 : vp_in (i + 5) L) (hk : k + 114 ≤ 58408) (hn : n + 2834 ≤ 1451408) (next : (∀ (l5' l6' : Option Value) (w' : Hw) (k' n' : Nat) (kn' th' : Int32) (s' : AS), LW g w' x nA cA lA y nM o kn' kn' th' s' s' → k' ≤ k + 114 → n' ≤ n + 2834 → WP (ML_law g) QLaw (2246, [some (.ref b), some (.ref x), some (.ref y), some (.ref o), some (.int i), l5', l6'], [], w', k', n'))) : WP (ML_law g) QLaw (417, [some (.ref b), some (.ref x), some (.ref y), some (.ref o), some (.int i), l5, l6], [], w, k, n) := by
  repeat' first
    | with_reducible assumption
    | with_reducible refine And.intro ?_ ?_
    | with_reducible refine gi_W hL hb ?_
    | with_reducible refine LW.gx hL (fun _ => trivial)
    | with_reducible exact absurd hQqc0 hXpc0
    | with_reducible exact absurd hQpc0 hXqc0
    | with_reducible refine fL_move hL (fun hXpc0 => ?_) (fun hQpc0 hQpw hQph hQpo => ?_)
    | with_reducible refine fX3_move (LW.ms hL) (fun hXqc0 hXqw hXqh => ?_) (fun hQqc0 hQqw hQqh => ?_)
    | with_reducible refine fX3_move (LW.ms hQph) (fun hXqc0 hXqw hXqh => ?_) (fun hQqc0 hQqw hQqh => ?_)
    | with_reducible refine LW.gz hL (fun _ => trivial)
    | with_reducible refine gi_W hL hb ?_
    | with_reducible refine LW.gz hQph (fun _ => trivial)
    | with_reducible refine gi_W hQph hb ?_
    | with_reducible exact next _ _ _ _ _ _ _ _ (LW.ofM hL hXqh) (by omega) (by omega)
    | with_reducible exact next _ _ _ _ _ _ _ _ (LW.ofM hL hQqh) (by omega) (by omega)
    | with_reducible exact next _ _ _ _ _ _ _ _ (LW.ofM hQph hXqh) (by omega) (by omega)
    | with_reducible exact next _ _ _ _ _ _ _ _ (LW.ofM hQph hQqh) (by omega) (by omega)
    | simp only [eL_law_417, eL_law_417N, eL_law_418, eL_law_418N, eL_law_419, eL_law_421, eL_law_422, eL_law_423, eL_law_424, eL_law_424N, eL_law_425, eL_law_427, eL_law_428, eL_law_429, eL_law_430, eL_law_430N, eL_law_431RR, eL_law_431NR, eL_law_431RN, eL_law_431NN, eL_law_434, eL_law_436, eL_law_436N, eL_law_437, eL_law_437N, eL_law_438, eL_law_440, eL_law_441, eL_law_442, eL_law_443, eL_law_443N, eL_law_444, eL_law_446, eL_law_447, eL_law_448, eL_law_449, eL_law_452, eL_law_454, ite_le, n45, n54, true_or, or_true, false_or, or_false, false_and, and_false, kx_l, kx_r, go_s, gl_s, gi_s, gb_s2, gb_s3, gq_s, wt_nil, wt_int, wt_long, wt_ref, wt_null, nl_int, nl_long, nl_ref, nl_null, nl_none, rf_n, rf_s, rf_st, tl_s, tl_n, g0, gS, ex1, nb_b, nb_0, nb_1, nf_i, nf_l, nf_ra, nf_ro, nf_na, nf_no, nf_b0, nf_z0, t45_4, t45_5, true_and, and_true, List.set_cons_zero, List.set_cons_succ, List.length_cons, List.length_nil, rd_s, upw_s, ne_eq, not_false_eq_true, Nat.zero_add, Nat.add_zero, if_true, if_false, eq_self, lgz, n12z, n2z, n3z, i00, not_true]
    | split
    | with_reducible intro _
    | omega
set_option maxHeartbeats 4000000 in
theorem cL_4 (hR : RG g) (hb : g.2 b = some (.inl (1, L, .inl xs))) (hL : LW g w x nA cA lA y nM o kn kn th s s) (v1 : vp_in (i + 1) L) (v2 : vp_in (i + 2) L) (v3 : vp_in (i + 3) L) (v4 : vp_in (i + 4) L) (v5 : vp_in (i + 5) L) (hk : k + 114 ≤ 58408) (hn : n + 2834 ≤ 1451408) (next : (∀ (l5' l6' : Option Value) (w' : Hw) (k' n' : Nat) (kn' th' : Int32) (s' : AS), LW g w' x nA cA lA y nM o kn' kn' th' s' s' → k' ≤ k + 114 → n' ≤ n + 2834 → WP (ML_law g) QLaw (2246, [some (.ref b), some (.ref x), some (.ref y), some (.ref o), some (.int i), l5', l6'], [], w', k', n'))) : WP (ML_law g) QLaw (457, [some (.ref b), some (.ref x), some (.ref y), some (.ref o), some (.int i), l5, l6], [], w, k, n) := by
  repeat' first
    | with_reducible assumption
    | with_reducible refine And.intro ?_ ?_
    | with_reducible refine gi_W hL hb ?_
    | with_reducible refine LW.gx hL (fun _ => trivial)
    | with_reducible exact absurd (And.intro hQqc0 hQqc1) hXpc0
    | with_reducible exact absurd (And.intro hQpc0 hQpc1) hXqc0
    | with_reducible refine fL_copy hL (fun hXpc0 => ?_) (fun hQpc0 hQpc1 hQpw hQph hQpo => ?_)
    | with_reducible refine fX3_copy (LW.ms hL) (fun hXqc0 hXqw hXqh => ?_) (fun hQqc0 hQqc1 hQqw hQqh => ?_)
    | with_reducible refine fX3_copy (LW.ms hQph) (fun hXqc0 hXqw hXqh => ?_) (fun hQqc0 hQqc1 hQqw hQqh => ?_)
    | with_reducible refine LW.gz hL (fun _ => trivial)
    | with_reducible refine gi_W hL hb ?_
    | with_reducible refine LW.gz hQph (fun _ => trivial)
    | with_reducible refine gi_W hQph hb ?_
    | with_reducible exact next _ _ _ _ _ _ _ _ (LW.ofM hL hXqh) (by omega) (by omega)
    | with_reducible exact next _ _ _ _ _ _ _ _ (LW.ofM hL hQqh) (by omega) (by omega)
    | with_reducible exact next _ _ _ _ _ _ _ _ (LW.ofM hQph hXqh) (by omega) (by omega)
    | with_reducible exact next _ _ _ _ _ _ _ _ (LW.ofM hQph hQqh) (by omega) (by omega)
    | simp only [eL_law_457, eL_law_457N, eL_law_458, eL_law_458N, eL_law_459, eL_law_461, eL_law_462, eL_law_463, eL_law_464, eL_law_464N, eL_law_465, eL_law_467, eL_law_468, eL_law_469, eL_law_470, eL_law_470N, eL_law_471RR, eL_law_471NR, eL_law_471RN, eL_law_471NN, eL_law_474, eL_law_476, eL_law_476N, eL_law_477, eL_law_477N, eL_law_478, eL_law_480, eL_law_481, eL_law_482, eL_law_483, eL_law_483N, eL_law_484, eL_law_486, eL_law_487, eL_law_488, eL_law_489, eL_law_492, eL_law_494, ite_le, n45, n54, true_or, or_true, false_or, or_false, false_and, and_false, kx_l, kx_r, go_s, gl_s, gi_s, gb_s2, gb_s3, gq_s, wt_nil, wt_int, wt_long, wt_ref, wt_null, nl_int, nl_long, nl_ref, nl_null, nl_none, rf_n, rf_s, rf_st, tl_s, tl_n, g0, gS, ex1, nb_b, nb_0, nb_1, nf_i, nf_l, nf_ra, nf_ro, nf_na, nf_no, nf_b0, nf_z0, t45_4, t45_5, true_and, and_true, List.set_cons_zero, List.set_cons_succ, List.length_cons, List.length_nil, rd_s, upw_s, ne_eq, not_false_eq_true, Nat.zero_add, Nat.add_zero, if_true, if_false, eq_self, lgz, n12z, n2z, n3z, i00, not_true]
    | split
    | with_reducible intro _
    | omega
set_option maxHeartbeats 4000000 in
theorem cL_5 (hR : RG g) (hb : g.2 b = some (.inl (1, L, .inl xs))) (hL : LW g w x nA cA lA y nM o kn kn th s s) (v1 : vp_in (i + 1) L) (v2 : vp_in (i + 2) L) (v3 : vp_in (i + 3) L) (v4 : vp_in (i + 4) L) (v5 : vp_in (i + 5) L) (hk : k + 114 ≤ 58408) (hn : n + 2834 ≤ 1451408) (next : (∀ (l5' l6' : Option Value) (w' : Hw) (k' n' : Nat) (kn' th' : Int32) (s' : AS), LW g w' x nA cA lA y nM o kn' kn' th' s' s' → k' ≤ k + 114 → n' ≤ n + 2834 → WP (ML_law g) QLaw (2246, [some (.ref b), some (.ref x), some (.ref y), some (.ref o), some (.int i), l5', l6'], [], w', k', n'))) : WP (ML_law g) QLaw (497, [some (.ref b), some (.ref x), some (.ref y), some (.ref o), some (.int i), l5, l6], [], w, k, n) := by
  repeat' first
    | with_reducible assumption
    | with_reducible refine And.intro ?_ ?_
    | with_reducible refine gi_W hL hb ?_
    | with_reducible refine LW.gx hL (fun _ => trivial)
    | with_reducible exact absurd hQqc0 hXpc0
    | with_reducible exact absurd hQpc0 hXqc0
    | with_reducible refine fL_ofNumber hL (fun hXpc0 => ?_) (fun hQpc0 hQpw hQph hQpo => ?_)
    | with_reducible refine fX3_ofNumber (LW.ms hL) (fun hXqc0 hXqw hXqh => ?_) (fun hQqc0 hQqw hQqh => ?_)
    | with_reducible refine fX3_ofNumber (LW.ms hQph) (fun hXqc0 hXqw hXqh => ?_) (fun hQqc0 hQqw hQqh => ?_)
    | with_reducible refine LW.gz hL (fun _ => trivial)
    | with_reducible refine gi_W hL hb ?_
    | with_reducible refine LW.gz hQph (fun _ => trivial)
    | with_reducible refine gi_W hQph hb ?_
    | with_reducible exact next _ _ _ _ _ _ _ _ (LW.ofM hL hXqh) (by omega) (by omega)
    | with_reducible exact next _ _ _ _ _ _ _ _ (LW.ofM hL hQqh) (by omega) (by omega)
    | with_reducible exact next _ _ _ _ _ _ _ _ (LW.ofM hQph hXqh) (by omega) (by omega)
    | with_reducible exact next _ _ _ _ _ _ _ _ (LW.ofM hQph hQqh) (by omega) (by omega)
    | simp only [eL_law_497, eL_law_497N, eL_law_498, eL_law_498N, eL_law_499, eL_law_501, eL_law_502, eL_law_503, eL_law_504, eL_law_504N, eL_law_505, eL_law_507, eL_law_508, eL_law_509, eL_law_510, eL_law_513, eL_law_514, eL_law_517, eL_law_518, eL_law_518N, eL_law_519RR, eL_law_519NR, eL_law_519RN, eL_law_519NN, eL_law_522, eL_law_524, eL_law_524N, eL_law_525, eL_law_525N, eL_law_526, eL_law_528, eL_law_529, eL_law_530, eL_law_531, eL_law_531N, eL_law_532, eL_law_534, eL_law_535, eL_law_536, eL_law_537, eL_law_540, eL_law_541, eL_law_544, eL_law_545, eL_law_548, eL_law_550, ite_le, n45, n54, true_or, or_true, false_or, or_false, false_and, and_false, kx_l, kx_r, go_s, gl_s, gi_s, gb_s2, gb_s3, gq_s, wt_nil, wt_int, wt_long, wt_ref, wt_null, nl_int, nl_long, nl_ref, nl_null, nl_none, rf_n, rf_s, rf_st, tl_s, tl_n, g0, gS, ex1, nb_b, nb_0, nb_1, nf_i, nf_l, nf_ra, nf_ro, nf_na, nf_no, nf_b0, nf_z0, t45_4, t45_5, true_and, and_true, List.set_cons_zero, List.set_cons_succ, List.length_cons, List.length_nil, rd_s, upw_s, ne_eq, not_false_eq_true, Nat.zero_add, Nat.add_zero, if_true, if_false, eq_self, lgz, n12z, n2z, n3z, i00, not_true]
    | split
    | with_reducible intro _
    | omega
set_option maxHeartbeats 4000000 in
theorem cL_6 (hR : RG g) (hb : g.2 b = some (.inl (1, L, .inl xs))) (hL : LW g w x nA cA lA y nM o kn kn th s s) (v1 : vp_in (i + 1) L) (v2 : vp_in (i + 2) L) (v3 : vp_in (i + 3) L) (v4 : vp_in (i + 4) L) (v5 : vp_in (i + 5) L) (hk : k + 114 ≤ 58408) (hn : n + 2834 ≤ 1451408) (next : (∀ (l5' l6' : Option Value) (w' : Hw) (k' n' : Nat) (kn' th' : Int32) (s' : AS), LW g w' x nA cA lA y nM o kn' kn' th' s' s' → k' ≤ k + 114 → n' ≤ n + 2834 → WP (ML_law g) QLaw (2246, [some (.ref b), some (.ref x), some (.ref y), some (.ref o), some (.int i), l5', l6'], [], w', k', n'))) : WP (ML_law g) QLaw (553, [some (.ref b), some (.ref x), some (.ref y), some (.ref o), some (.int i), l5, l6], [], w, k, n) := by
  repeat' first
    | with_reducible assumption
    | with_reducible refine And.intro ?_ ?_
    | with_reducible refine gi_W hL hb ?_
    | with_reducible refine LW.gx hL (fun _ => trivial)
    | with_reducible refine gL_numberText hR hL (fun v1 w1 h1 => ?_)
    | with_reducible refine gX3_numberText (LW.ms h1) hR.sg (hR.dg (LW.ro h1)) (hR.tx (LW.ro h1)) (fun v2 t2 w2 m2 => ?_)
    | with_reducible refine LW.gz h1 (fun _ => trivial)
    | with_reducible refine gi_W h1 hb ?_
    | with_reducible exact next _ _ _ _ _ _ _ _ (LW.ofM h1 m2) (by omega) (by omega)
    | simp only [eL_law_553, eL_law_553N, eL_law_554, eL_law_554N, eL_law_555, eL_law_557, eL_law_558, eL_law_559, eL_law_560, eL_law_560N, eL_law_561RR, eL_law_561NR, eL_law_561RN, eL_law_561NN, eL_law_564, eL_law_566, eL_law_566N, eL_law_567, eL_law_567N, eL_law_568, eL_law_570, eL_law_571, eL_law_572, eL_law_573, eL_law_576, eL_law_576N, eL_law_578, ite_le, n45, n54, true_or, or_true, false_or, or_false, false_and, and_false, kx_l, kx_r, go_s, gl_s, gi_s, gb_s2, gb_s3, gq_s, wt_nil, wt_int, wt_long, wt_ref, wt_null, nl_int, nl_long, nl_ref, nl_null, nl_none, rf_n, rf_s, rf_st, tl_s, tl_n, g0, gS, ex1, nb_b, nb_0, nb_1, nf_i, nf_l, nf_ra, nf_ro, nf_na, nf_no, nf_b0, nf_z0, t45_4, t45_5, true_and, and_true, List.set_cons_zero, List.set_cons_succ, List.length_cons, List.length_nil, rd_s, upw_s, ne_eq, not_false_eq_true, Nat.zero_add, Nat.add_zero, if_true, if_false, eq_self, lgz, n12z, n2z, n3z, i00, not_true]
    | split
    | with_reducible intro _
    | omega
set_option maxHeartbeats 4000000 in
theorem cL_7 (hR : RG g) (hb : g.2 b = some (.inl (1, L, .inl xs))) (hL : LW g w x nA cA lA y nM o kn kn th s s) (v1 : vp_in (i + 1) L) (v2 : vp_in (i + 2) L) (v3 : vp_in (i + 3) L) (v4 : vp_in (i + 4) L) (v5 : vp_in (i + 5) L) (hk : k + 114 ≤ 58408) (hn : n + 2834 ≤ 1451408) (next : (∀ (l5' l6' : Option Value) (w' : Hw) (k' n' : Nat) (kn' th' : Int32) (s' : AS), LW g w' x nA cA lA y nM o kn' kn' th' s' s' → k' ≤ k + 114 → n' ≤ n + 2834 → WP (ML_law g) QLaw (2246, [some (.ref b), some (.ref x), some (.ref y), some (.ref o), some (.int i), l5', l6'], [], w', k', n'))) : WP (ML_law g) QLaw (581, [some (.ref b), some (.ref x), some (.ref y), some (.ref o), some (.int i), l5, l6], [], w, k, n) := by
  repeat' first
    | with_reducible assumption
    | with_reducible refine And.intro ?_ ?_
    | with_reducible refine gi_W hL hb ?_
    | with_reducible refine LW.gx hL (fun _ => trivial)
    | with_reducible exact absurd (And.intro hQqc0 hQqc1) hXpc0
    | with_reducible exact absurd (And.intro hQpc0 hQpc1) hXqc0
    | with_reducible refine fL_order hL (fun hXpc0 => ?_) (fun hQpc0 hQpc1 hQpw hQph hQpo => ?_)
    | with_reducible refine fX3_order (LW.ms hL) (fun hXqc0 hXqw hXqh => ?_) (fun hQqc0 hQqc1 hQqw hQqh => ?_)
    | with_reducible refine fX3_order (LW.ms hQph) (fun hXqc0 hXqw hXqh => ?_) (fun hQqc0 hQqc1 hQqw hQqh => ?_)
    | with_reducible refine LW.gz hL (fun _ => trivial)
    | with_reducible refine gi_W hL hb ?_
    | with_reducible refine LW.gz hQph (fun _ => trivial)
    | with_reducible refine gi_W hQph hb ?_
    | with_reducible exact next _ _ _ _ _ _ _ _ (LW.ofM hL hXqh) (by omega) (by omega)
    | with_reducible exact next _ _ _ _ _ _ _ _ (LW.ofM hL hQqh) (by omega) (by omega)
    | with_reducible exact next _ _ _ _ _ _ _ _ (LW.ofM hQph hXqh) (by omega) (by omega)
    | with_reducible exact next _ _ _ _ _ _ _ _ (LW.ofM hQph hQqh) (by omega) (by omega)
    | simp only [eL_law_581, eL_law_581N, eL_law_582, eL_law_582N, eL_law_583, eL_law_585, eL_law_586, eL_law_587, eL_law_588, eL_law_588N, eL_law_589, eL_law_591, eL_law_592, eL_law_593, eL_law_594, eL_law_594N, eL_law_595RR, eL_law_595NR, eL_law_595RN, eL_law_595NN, eL_law_598, eL_law_600, eL_law_600N, eL_law_601, eL_law_601N, eL_law_602, eL_law_604, eL_law_605, eL_law_606, eL_law_607, eL_law_607N, eL_law_608, eL_law_610, eL_law_611, eL_law_612, eL_law_613, eL_law_616, eL_law_618, ite_le, n45, n54, true_or, or_true, false_or, or_false, false_and, and_false, kx_l, kx_r, go_s, gl_s, gi_s, gb_s2, gb_s3, gq_s, wt_nil, wt_int, wt_long, wt_ref, wt_null, nl_int, nl_long, nl_ref, nl_null, nl_none, rf_n, rf_s, rf_st, tl_s, tl_n, g0, gS, ex1, nb_b, nb_0, nb_1, nf_i, nf_l, nf_ra, nf_ro, nf_na, nf_no, nf_b0, nf_z0, t45_4, t45_5, true_and, and_true, List.set_cons_zero, List.set_cons_succ, List.length_cons, List.length_nil, rd_s, upw_s, ne_eq, not_false_eq_true, Nat.zero_add, Nat.add_zero, if_true, if_false, eq_self, lgz, n12z, n2z, n3z, i00, not_true]
    | split
    | with_reducible intro _
    | omega
set_option maxHeartbeats 4000000 in
theorem cL_8 (hR : RG g) (hb : g.2 b = some (.inl (1, L, .inl xs))) (hL : LW g w x nA cA lA y nM o kn kn th s s) (v1 : vp_in (i + 1) L) (v2 : vp_in (i + 2) L) (v3 : vp_in (i + 3) L) (v4 : vp_in (i + 4) L) (v5 : vp_in (i + 5) L) (hk : k + 114 ≤ 58408) (hn : n + 2834 ≤ 1451408) (next : (∀ (l5' l6' : Option Value) (w' : Hw) (k' n' : Nat) (kn' th' : Int32) (s' : AS), LW g w' x nA cA lA y nM o kn' kn' th' s' s' → k' ≤ k + 114 → n' ≤ n + 2834 → WP (ML_law g) QLaw (2246, [some (.ref b), some (.ref x), some (.ref y), some (.ref o), some (.int i), l5', l6'], [], w', k', n'))) : WP (ML_law g) QLaw (621, [some (.ref b), some (.ref x), some (.ref y), some (.ref o), some (.int i), l5, l6], [], w, k, n) := by
  repeat' first
    | with_reducible assumption
    | with_reducible refine And.intro ?_ ?_
    | with_reducible refine gi_W hL hb ?_
    | with_reducible refine LW.gx hL (fun _ => trivial)
    | with_reducible exact absurd (And.intro hTqc0 (And.intro hTqc1 hTqc2)) hXpc0
    | with_reducible exact absurd (And.intro hFqc0 (And.intro hFqc1 hFqc2)) hXpc0
    | with_reducible exact absurd (And.intro hTpc0 (And.intro hTpc1 hTpc2)) hXqc0
    | with_reducible exact absurd hTpc3 hFqc3
    | with_reducible exact absurd (And.intro hFpc0 (And.intro hFpc1 hFpc2)) hXqc0
    | with_reducible exact absurd hTqc3 hFpc3
    | with_reducible refine fL_two hL (fun hXpc0 => ?_) (fun hTpc0 hTpc1 hTpc2 hTpc3 hTpw hTph hTpo => ?_) (fun hFpc0 hFpc1 hFpc2 hFpc3 hFpw hFph hFpo => ?_)
    | with_reducible refine fX3_two (LW.ms hFph) (fun hXqc0 hXqw hXqh => ?_) (fun hTqc0 hTqc1 hTqc2 hTqc3 hTqw hTqh => ?_) (fun hFqc0 hFqc1 hFqc2 hFqc3 hFqw hFqh => ?_)
    | with_reducible refine fX3_two (LW.ms hL) (fun hXqc0 hXqw hXqh => ?_) (fun hTqc0 hTqc1 hTqc2 hTqc3 hTqw hTqh => ?_) (fun hFqc0 hFqc1 hFqc2 hFqc3 hFqw hFqh => ?_)
    | with_reducible refine fX3_two (LW.ms hTph) (fun hXqc0 hXqw hXqh => ?_) (fun hTqc0 hTqc1 hTqc2 hTqc3 hTqw hTqh => ?_) (fun hFqc0 hFqc1 hFqc2 hFqc3 hFqw hFqh => ?_)
    | with_reducible refine LW.gz hFph (fun _ => trivial)
    | with_reducible refine gi_W hFph hb ?_
    | with_reducible refine LW.gz hL (fun _ => trivial)
    | with_reducible refine gi_W hL hb ?_
    | with_reducible refine LW.gz hTph (fun _ => trivial)
    | with_reducible refine gi_W hTph hb ?_
    | with_reducible exact next _ _ _ _ _ _ _ _ (LW.ofM hL hXqh) (by omega) (by omega)
    | with_reducible exact next _ _ _ _ _ _ _ _ (LW.ofM hL hTqh) (by omega) (by omega)
    | with_reducible exact next _ _ _ _ _ _ _ _ (LW.ofM hL hFqh) (by omega) (by omega)
    | with_reducible exact next _ _ _ _ _ _ _ _ (LW.ofM hTph hXqh) (by omega) (by omega)
    | with_reducible exact next _ _ _ _ _ _ _ _ (LW.ofM hTph hTqh) (by omega) (by omega)
    | with_reducible exact next _ _ _ _ _ _ _ _ (LW.ofM hTph hFqh) (by omega) (by omega)
    | with_reducible exact next _ _ _ _ _ _ _ _ (LW.ofM hFph hXqh) (by omega) (by omega)
    | with_reducible exact next _ _ _ _ _ _ _ _ (LW.ofM hFph hTqh) (by omega) (by omega)
    | with_reducible exact next _ _ _ _ _ _ _ _ (LW.ofM hFph hFqh) (by omega) (by omega)
    | simp only [eL_law_621, eL_law_621N, eL_law_622, eL_law_622N, eL_law_623, eL_law_625, eL_law_626, eL_law_627, eL_law_628, eL_law_628N, eL_law_629, eL_law_631, eL_law_632, eL_law_633, eL_law_634, eL_law_634N, eL_law_635, eL_law_637, eL_law_638, eL_law_639, eL_law_640, eL_law_640N, eL_law_641RR, eL_law_641NR, eL_law_641RN, eL_law_641NN, eL_law_644, eL_law_646, eL_law_646N, eL_law_647, eL_law_647N, eL_law_648, eL_law_650, eL_law_651, eL_law_652, eL_law_653, eL_law_653N, eL_law_654, eL_law_656, eL_law_657, eL_law_658, eL_law_659, eL_law_659N, eL_law_660, eL_law_662, eL_law_663, eL_law_664, eL_law_665, eL_law_668, eL_law_670, ite_le, n45, n54, true_or, or_true, false_or, or_false, false_and, and_false, kx_l, kx_r, go_s, gl_s, gi_s, gb_s2, gb_s3, gq_s, wt_nil, wt_int, wt_long, wt_ref, wt_null, nl_int, nl_long, nl_ref, nl_null, nl_none, rf_n, rf_s, rf_st, tl_s, tl_n, g0, gS, ex1, nb_b, nb_0, nb_1, nf_i, nf_l, nf_ra, nf_ro, nf_na, nf_no, nf_b0, nf_z0, t45_4, t45_5, true_and, and_true, List.set_cons_zero, List.set_cons_succ, List.length_cons, List.length_nil, rd_s, upw_s, ne_eq, not_false_eq_true, Nat.zero_add, Nat.add_zero, if_true, if_false, eq_self, lgz, n12z, n2z, n3z, i00, not_true]
    | split
    | with_reducible intro _
    | omega
set_option maxHeartbeats 4000000 in
theorem cL_9 (hR : RG g) (hb : g.2 b = some (.inl (1, L, .inl xs))) (hL : LW g w x nA cA lA y nM o kn kn th s s) (v1 : vp_in (i + 1) L) (v2 : vp_in (i + 2) L) (v3 : vp_in (i + 3) L) (v4 : vp_in (i + 4) L) (v5 : vp_in (i + 5) L) (hk : k + 114 ≤ 58408) (hn : n + 2834 ≤ 1451408) (next : (∀ (l5' l6' : Option Value) (w' : Hw) (k' n' : Nat) (kn' th' : Int32) (s' : AS), LW g w' x nA cA lA y nM o kn' kn' th' s' s' → k' ≤ k + 114 → n' ≤ n + 2834 → WP (ML_law g) QLaw (2246, [some (.ref b), some (.ref x), some (.ref y), some (.ref o), some (.int i), l5', l6'], [], w', k', n'))) : WP (ML_law g) QLaw (673, [some (.ref b), some (.ref x), some (.ref y), some (.ref o), some (.int i), l5, l6], [], w, k, n) := by
  repeat' first
    | with_reducible assumption
    | with_reducible refine And.intro ?_ ?_
    | with_reducible refine gi_W hL hb ?_
    | with_reducible refine LW.gx hL (fun _ => trivial)
    | with_reducible exact absurd (And.intro hTqc0 (And.intro hTqc1 (And.intro hTqc2 hTqc3))) hXpc0
    | with_reducible exact absurd (And.intro hFqc0 (And.intro hFqc1 (And.intro hFqc2 hFqc3))) hXpc0
    | with_reducible exact absurd (And.intro hTpc0 (And.intro hTpc1 (And.intro hTpc2 hTpc3))) hXqc0
    | with_reducible exact absurd hTpc4 hFqc4
    | with_reducible exact absurd (And.intro hFpc0 (And.intro hFpc1 (And.intro hFpc2 hFpc3))) hXqc0
    | with_reducible exact absurd hTqc4 hFpc4
    | with_reducible refine fL_three hL (fun hXpc0 => ?_) (fun hTpc0 hTpc1 hTpc2 hTpc3 hTpc4 hTpw hTph hTpo => ?_) (fun hFpc0 hFpc1 hFpc2 hFpc3 hFpc4 hFpw hFph hFpo => ?_)
    | with_reducible refine fX3_three (LW.ms hFph) (fun hXqc0 hXqw hXqh => ?_) (fun hTqc0 hTqc1 hTqc2 hTqc3 hTqc4 hTqw hTqh => ?_) (fun hFqc0 hFqc1 hFqc2 hFqc3 hFqc4 hFqw hFqh => ?_)
    | with_reducible refine fX3_three (LW.ms hL) (fun hXqc0 hXqw hXqh => ?_) (fun hTqc0 hTqc1 hTqc2 hTqc3 hTqc4 hTqw hTqh => ?_) (fun hFqc0 hFqc1 hFqc2 hFqc3 hFqc4 hFqw hFqh => ?_)
    | with_reducible refine fX3_three (LW.ms hTph) (fun hXqc0 hXqw hXqh => ?_) (fun hTqc0 hTqc1 hTqc2 hTqc3 hTqc4 hTqw hTqh => ?_) (fun hFqc0 hFqc1 hFqc2 hFqc3 hFqc4 hFqw hFqh => ?_)
    | with_reducible refine LW.gz hFph (fun _ => trivial)
    | with_reducible refine gi_W hFph hb ?_
    | with_reducible refine LW.gz hL (fun _ => trivial)
    | with_reducible refine gi_W hL hb ?_
    | with_reducible refine LW.gz hTph (fun _ => trivial)
    | with_reducible refine gi_W hTph hb ?_
    | with_reducible exact next _ _ _ _ _ _ _ _ (LW.ofM hL hXqh) (by omega) (by omega)
    | with_reducible exact next _ _ _ _ _ _ _ _ (LW.ofM hL hTqh) (by omega) (by omega)
    | with_reducible exact next _ _ _ _ _ _ _ _ (LW.ofM hL hFqh) (by omega) (by omega)
    | with_reducible exact next _ _ _ _ _ _ _ _ (LW.ofM hTph hXqh) (by omega) (by omega)
    | with_reducible exact next _ _ _ _ _ _ _ _ (LW.ofM hTph hTqh) (by omega) (by omega)
    | with_reducible exact next _ _ _ _ _ _ _ _ (LW.ofM hTph hFqh) (by omega) (by omega)
    | with_reducible exact next _ _ _ _ _ _ _ _ (LW.ofM hFph hXqh) (by omega) (by omega)
    | with_reducible exact next _ _ _ _ _ _ _ _ (LW.ofM hFph hTqh) (by omega) (by omega)
    | with_reducible exact next _ _ _ _ _ _ _ _ (LW.ofM hFph hFqh) (by omega) (by omega)
    | simp only [eL_law_673, eL_law_673N, eL_law_674, eL_law_674N, eL_law_675, eL_law_677, eL_law_678, eL_law_679, eL_law_680, eL_law_680N, eL_law_681, eL_law_683, eL_law_684, eL_law_685, eL_law_686, eL_law_686N, eL_law_687, eL_law_689, eL_law_690, eL_law_691, eL_law_692, eL_law_692N, eL_law_693, eL_law_695, eL_law_696, eL_law_697, eL_law_698, eL_law_698N, eL_law_699RR, eL_law_699NR, eL_law_699RN, eL_law_699NN, eL_law_702, eL_law_704, eL_law_704N, eL_law_705, eL_law_705N, eL_law_706, eL_law_708, eL_law_709, eL_law_710, eL_law_711, eL_law_711N, eL_law_712, eL_law_714, eL_law_715, eL_law_716, eL_law_717, eL_law_717N, eL_law_718, eL_law_720, eL_law_721, eL_law_722, eL_law_723, eL_law_723N, eL_law_724, eL_law_726, eL_law_727, eL_law_728, eL_law_729, eL_law_732, eL_law_734, ite_le, n45, n54, true_or, or_true, false_or, or_false, false_and, and_false, kx_l, kx_r, go_s, gl_s, gi_s, gb_s2, gb_s3, gq_s, wt_nil, wt_int, wt_long, wt_ref, wt_null, nl_int, nl_long, nl_ref, nl_null, nl_none, rf_n, rf_s, rf_st, tl_s, tl_n, g0, gS, ex1, nb_b, nb_0, nb_1, nf_i, nf_l, nf_ra, nf_ro, nf_na, nf_no, nf_b0, nf_z0, t45_4, t45_5, true_and, and_true, List.set_cons_zero, List.set_cons_succ, List.length_cons, List.length_nil, rd_s, upw_s, ne_eq, not_false_eq_true, Nat.zero_add, Nat.add_zero, if_true, if_false, eq_self, lgz, n12z, n2z, n3z, i00, not_true]
    | split
    | with_reducible intro _
    | omega
set_option maxHeartbeats 4000000 in
theorem cL_10 (hR : RG g) (hb : g.2 b = some (.inl (1, L, .inl xs))) (hL : LW g w x nA cA lA y nM o kn kn th s s) (v1 : vp_in (i + 1) L) (v2 : vp_in (i + 2) L) (v3 : vp_in (i + 3) L) (v4 : vp_in (i + 4) L) (v5 : vp_in (i + 5) L) (hk : k + 114 ≤ 58408) (hn : n + 2834 ≤ 1451408) (next : (∀ (l5' l6' : Option Value) (w' : Hw) (k' n' : Nat) (kn' th' : Int32) (s' : AS), LW g w' x nA cA lA y nM o kn' kn' th' s' s' → k' ≤ k + 114 → n' ≤ n + 2834 → WP (ML_law g) QLaw (2246, [some (.ref b), some (.ref x), some (.ref y), some (.ref o), some (.int i), l5', l6'], [], w', k', n'))) : WP (ML_law g) QLaw (737, [some (.ref b), some (.ref x), some (.ref y), some (.ref o), some (.int i), l5, l6], [], w, k, n) := by
  repeat' first
    | with_reducible assumption
    | with_reducible refine And.intro ?_ ?_
    | with_reducible refine gi_W hL hb ?_
    | with_reducible refine LW.gx hL (fun _ => trivial)
    | with_reducible exact absurd (And.intro hTqc0 (And.intro hTqc1 (And.intro hTqc2 (And.intro hTqc3 hTqc4)))) hXpc0
    | with_reducible exact absurd (And.intro hFqc0 (And.intro hFqc1 (And.intro hFqc2 (And.intro hFqc3 hFqc4)))) hXpc0
    | with_reducible exact absurd (And.intro hTpc0 (And.intro hTpc1 (And.intro hTpc2 (And.intro hTpc3 hTpc4)))) hXqc0
    | with_reducible exact absurd hTpc5 hFqc5
    | with_reducible exact absurd (And.intro hFpc0 (And.intro hFpc1 (And.intro hFpc2 (And.intro hFpc3 hFpc4)))) hXqc0
    | with_reducible exact absurd hTqc5 hFpc5
    | with_reducible refine fL_four hL (fun hXpc0 => ?_) (fun hTpc0 hTpc1 hTpc2 hTpc3 hTpc4 hTpc5 hTpw hTph hTpo => ?_) (fun hFpc0 hFpc1 hFpc2 hFpc3 hFpc4 hFpc5 hFpw hFph hFpo => ?_)
    | with_reducible refine fX3_four (LW.ms hFph) (fun hXqc0 hXqw hXqh => ?_) (fun hTqc0 hTqc1 hTqc2 hTqc3 hTqc4 hTqc5 hTqw hTqh => ?_) (fun hFqc0 hFqc1 hFqc2 hFqc3 hFqc4 hFqc5 hFqw hFqh => ?_)
    | with_reducible refine fX3_four (LW.ms hL) (fun hXqc0 hXqw hXqh => ?_) (fun hTqc0 hTqc1 hTqc2 hTqc3 hTqc4 hTqc5 hTqw hTqh => ?_) (fun hFqc0 hFqc1 hFqc2 hFqc3 hFqc4 hFqc5 hFqw hFqh => ?_)
    | with_reducible refine fX3_four (LW.ms hTph) (fun hXqc0 hXqw hXqh => ?_) (fun hTqc0 hTqc1 hTqc2 hTqc3 hTqc4 hTqc5 hTqw hTqh => ?_) (fun hFqc0 hFqc1 hFqc2 hFqc3 hFqc4 hFqc5 hFqw hFqh => ?_)
    | with_reducible refine LW.gz hFph (fun _ => trivial)
    | with_reducible refine gi_W hFph hb ?_
    | with_reducible refine LW.gz hL (fun _ => trivial)
    | with_reducible refine gi_W hL hb ?_
    | with_reducible refine LW.gz hTph (fun _ => trivial)
    | with_reducible refine gi_W hTph hb ?_
    | with_reducible exact next _ _ _ _ _ _ _ _ (LW.ofM hL hXqh) (by omega) (by omega)
    | with_reducible exact next _ _ _ _ _ _ _ _ (LW.ofM hL hTqh) (by omega) (by omega)
    | with_reducible exact next _ _ _ _ _ _ _ _ (LW.ofM hL hFqh) (by omega) (by omega)
    | with_reducible exact next _ _ _ _ _ _ _ _ (LW.ofM hTph hXqh) (by omega) (by omega)
    | with_reducible exact next _ _ _ _ _ _ _ _ (LW.ofM hTph hTqh) (by omega) (by omega)
    | with_reducible exact next _ _ _ _ _ _ _ _ (LW.ofM hTph hFqh) (by omega) (by omega)
    | with_reducible exact next _ _ _ _ _ _ _ _ (LW.ofM hFph hXqh) (by omega) (by omega)
    | with_reducible exact next _ _ _ _ _ _ _ _ (LW.ofM hFph hTqh) (by omega) (by omega)
    | with_reducible exact next _ _ _ _ _ _ _ _ (LW.ofM hFph hFqh) (by omega) (by omega)
    | simp only [eL_law_737, eL_law_737N, eL_law_738, eL_law_738N, eL_law_739, eL_law_741, eL_law_742, eL_law_743, eL_law_744, eL_law_744N, eL_law_745, eL_law_747, eL_law_748, eL_law_749, eL_law_750, eL_law_750N, eL_law_751, eL_law_753, eL_law_754, eL_law_755, eL_law_756, eL_law_756N, eL_law_757, eL_law_759, eL_law_760, eL_law_761, eL_law_762, eL_law_762N, eL_law_763, eL_law_765, eL_law_766, eL_law_767, eL_law_768, eL_law_768N, eL_law_769RR, eL_law_769NR, eL_law_769RN, eL_law_769NN, eL_law_772, eL_law_774, eL_law_774N, eL_law_775, eL_law_775N, eL_law_776, eL_law_778, eL_law_779, eL_law_780, eL_law_781, eL_law_781N, eL_law_782, eL_law_784, eL_law_785, eL_law_786, eL_law_787, eL_law_787N, eL_law_788, eL_law_790, eL_law_791, eL_law_792, eL_law_793, eL_law_793N, eL_law_794, eL_law_796, eL_law_797, eL_law_798, eL_law_799, eL_law_799N, eL_law_800, eL_law_802, eL_law_803, eL_law_804, eL_law_805, eL_law_808, eL_law_810, ite_le, n45, n54, true_or, or_true, false_or, or_false, false_and, and_false, kx_l, kx_r, go_s, gl_s, gi_s, gb_s2, gb_s3, gq_s, wt_nil, wt_int, wt_long, wt_ref, wt_null, nl_int, nl_long, nl_ref, nl_null, nl_none, rf_n, rf_s, rf_st, tl_s, tl_n, g0, gS, ex1, nb_b, nb_0, nb_1, nf_i, nf_l, nf_ra, nf_ro, nf_na, nf_no, nf_b0, nf_z0, t45_4, t45_5, true_and, and_true, List.set_cons_zero, List.set_cons_succ, List.length_cons, List.length_nil, rd_s, upw_s, ne_eq, not_false_eq_true, Nat.zero_add, Nat.add_zero, if_true, if_false, eq_self, lgz, n12z, n2z, n3z, i00, not_true]
    | split
    | with_reducible intro _
    | omega
set_option maxHeartbeats 4000000 in
theorem cL_11 (hR : RG g) (hb : g.2 b = some (.inl (1, L, .inl xs))) (hL : LW g w x nA cA lA y nM o kn kn th s s) (v1 : vp_in (i + 1) L) (v2 : vp_in (i + 2) L) (v3 : vp_in (i + 3) L) (v4 : vp_in (i + 4) L) (v5 : vp_in (i + 5) L) (hk : k + 114 ≤ 58408) (hn : n + 2834 ≤ 1451408) (next : (∀ (l5' l6' : Option Value) (w' : Hw) (k' n' : Nat) (kn' th' : Int32) (s' : AS), LW g w' x nA cA lA y nM o kn' kn' th' s' s' → k' ≤ k + 114 → n' ≤ n + 2834 → WP (ML_law g) QLaw (2246, [some (.ref b), some (.ref x), some (.ref y), some (.ref o), some (.int i), l5', l6'], [], w', k', n'))) : WP (ML_law g) QLaw (813, [some (.ref b), some (.ref x), some (.ref y), some (.ref o), some (.int i), l5, l6], [], w, k, n) := by
  repeat' first
    | with_reducible assumption
    | with_reducible refine And.intro ?_ ?_
    | with_reducible refine gi_W hL hb ?_
    | with_reducible refine LW.gx hL (fun _ => trivial)
    | with_reducible exact absurd hTqc0 hXpc0
    | with_reducible exact absurd hFqc0 hXpc0
    | with_reducible exact absurd hTpc0 hXqc0
    | with_reducible exact absurd hTpc1 hFqc1
    | with_reducible exact absurd hFpc0 hXqc0
    | with_reducible exact absurd hTqc1 hFpc1
    | with_reducible refine fL_twoSmall hL (fun hXpc0 => ?_) (fun hTpc0 hTpc1 hTpw hTph hTpo => ?_) (fun hFpc0 hFpc1 hFpw hFph hFpo => ?_)
    | with_reducible refine fX3_twoSmall (LW.ms hFph) (fun hXqc0 hXqw hXqh => ?_) (fun hTqc0 hTqc1 hTqw hTqh => ?_) (fun hFqc0 hFqc1 hFqw hFqh => ?_)
    | with_reducible refine fX3_twoSmall (LW.ms hL) (fun hXqc0 hXqw hXqh => ?_) (fun hTqc0 hTqc1 hTqw hTqh => ?_) (fun hFqc0 hFqc1 hFqw hFqh => ?_)
    | with_reducible refine fX3_twoSmall (LW.ms hTph) (fun hXqc0 hXqw hXqh => ?_) (fun hTqc0 hTqc1 hTqw hTqh => ?_) (fun hFqc0 hFqc1 hFqw hFqh => ?_)
    | with_reducible refine LW.gz hFph (fun _ => trivial)
    | with_reducible refine gi_W hFph hb ?_
    | with_reducible refine LW.gz hL (fun _ => trivial)
    | with_reducible refine gi_W hL hb ?_
    | with_reducible refine LW.gz hTph (fun _ => trivial)
    | with_reducible refine gi_W hTph hb ?_
    | with_reducible exact next _ _ _ _ _ _ _ _ (LW.ofM hL hXqh) (by omega) (by omega)
    | with_reducible exact next _ _ _ _ _ _ _ _ (LW.ofM hL hTqh) (by omega) (by omega)
    | with_reducible exact next _ _ _ _ _ _ _ _ (LW.ofM hL hFqh) (by omega) (by omega)
    | with_reducible exact next _ _ _ _ _ _ _ _ (LW.ofM hTph hXqh) (by omega) (by omega)
    | with_reducible exact next _ _ _ _ _ _ _ _ (LW.ofM hTph hTqh) (by omega) (by omega)
    | with_reducible exact next _ _ _ _ _ _ _ _ (LW.ofM hTph hFqh) (by omega) (by omega)
    | with_reducible exact next _ _ _ _ _ _ _ _ (LW.ofM hFph hXqh) (by omega) (by omega)
    | with_reducible exact next _ _ _ _ _ _ _ _ (LW.ofM hFph hTqh) (by omega) (by omega)
    | with_reducible exact next _ _ _ _ _ _ _ _ (LW.ofM hFph hFqh) (by omega) (by omega)
    | simp only [eL_law_813, eL_law_813N, eL_law_814, eL_law_814N, eL_law_815, eL_law_817, eL_law_818, eL_law_819, eL_law_820, eL_law_820N, eL_law_821, eL_law_823, eL_law_824, eL_law_825, eL_law_826, eL_law_826N, eL_law_827, eL_law_829, eL_law_830, eL_law_831, eL_law_832, eL_law_832N, eL_law_833RR, eL_law_833NR, eL_law_833RN, eL_law_833NN, eL_law_836, eL_law_838, eL_law_838N, eL_law_839, eL_law_839N, eL_law_840, eL_law_842, eL_law_843, eL_law_844, eL_law_845, eL_law_845N, eL_law_846, eL_law_848, eL_law_849, eL_law_850, eL_law_851, eL_law_851N, eL_law_852, eL_law_854, eL_law_855, eL_law_856, eL_law_857, eL_law_860, eL_law_862, ite_le, n45, n54, true_or, or_true, false_or, or_false, false_and, and_false, kx_l, kx_r, go_s, gl_s, gi_s, gb_s2, gb_s3, gq_s, wt_nil, wt_int, wt_long, wt_ref, wt_null, nl_int, nl_long, nl_ref, nl_null, nl_none, rf_n, rf_s, rf_st, tl_s, tl_n, g0, gS, ex1, nb_b, nb_0, nb_1, nf_i, nf_l, nf_ra, nf_ro, nf_na, nf_no, nf_b0, nf_z0, t45_4, t45_5, true_and, and_true, List.set_cons_zero, List.set_cons_succ, List.length_cons, List.length_nil, rd_s, upw_s, ne_eq, not_false_eq_true, Nat.zero_add, Nat.add_zero, if_true, if_false, eq_self, lgz, n12z, n2z, n3z, i00, not_true]
    | split
    | with_reducible intro _
    | omega
end
