/-! 79.cw2.lean.txt -/
section
section
variable {g : RO} {w : Hw} {x nA cA lA y nM o b L k n : Nat} {xs : Nat → Int32} {i kn th : Int32} {s : AS} {l5 l6 : Option Value}
set_option maxHeartbeats 4000000 in
theorem cL_24 (hR : RG g) (hb : g.2 b = some (.inl (1, L, .inl xs))) (hL : LW g w x nA cA lA y nM o kn kn th s s) (v1 : vp_in (i + 1) L) (v2 : vp_in (i + 2) L) (v3 : vp_in (i + 3) L) (v4 : vp_in (i + 4) L) (v5 : vp_in (i + 5) L) (hk : k + 114 ≤ 58408) (hn : n + 2834 ≤ 1451408) (next : (∀ (l5' l6' : Option Value) (w' : Hw) (k' n' : Nat) (kn' th' : Int32) (s' : AS), LW g w' x nA cA lA y nM o kn' kn' th' s' s' → k' ≤ k + 114 → n' ≤ n + 2834 → WP (ML_law g) QLaw (2246, [some (.ref b), some (.ref x), some (.ref y), some (.ref o), some (.int i), l5', l6'], [], w', k', n'))) : WP (ML_law g) QLaw (1369, [some (.ref b), some (.ref x), some (.ref y), some (.ref o), some (.int i), l5, l6], [], w, k, n) := by
  repeat' first
    | with_reducible assumption
    | with_reducible refine And.intro ?_ ?_
    | with_reducible refine gi_W hL hb ?_
    | with_reducible refine LW.gx hL (fun _ => trivial)
    | cases Option.some.inj (hQpc2.symm.trans hQqc2); clear hQqc2
    | with_reducible exact absurd hWqc0 hXpc0
    | with_reducible exact absurd hSqc0 hXpc0
    | with_reducible exact absurd hQqc0 hXpc0
    | with_reducible exact absurd hWpc0 hXqc0
    | with_reducible exact absurd hSqc1 hWpc1
    | with_reducible exact absurd hQqc1 hWpc1
    | with_reducible exact absurd hSpc0 hXqc0
    | with_reducible exact absurd hSpc1 hWqc1
    | with_reducible exact (nsC hSpc2 hQqc2).elim
    | with_reducible exact absurd hQpc0 hXqc0
    | with_reducible exact absurd hQpc1 hWqc1
    | with_reducible exact (nsC hSqc2 hQpc2).elim
    | with_reducible refine fL_end hL (fun hXpc0 => ?_) (fun hWpc0 hWpc1 => ?_) (fun hSpc0 hSpc1 hSpc2 => ?_) (fun hQpc0 hQpc1 hQpr hQpc2 hQpw hQph hQpo => ?_)
    | with_reducible refine fX3_end (LW.ms hL) (fun hXqc0 hXqw hXqh => ?_) (fun hWqc0 hWqc1 hWqw hWqh => ?_) (fun hSqc0 hSqc1 hSqc2 hSqw hSqh => ?_) (fun hQqc0 hQqc1 hQqr hQqc2 hQqw hQqh => ?_)
    | with_reducible refine fX3_end (LW.ms hQph) (fun hXqc0 hXqw hXqh => ?_) (fun hWqc0 hWqc1 hWqw hWqh => ?_) (fun hSqc0 hSqc1 hSqc2 hSqw hSqh => ?_) (fun hQqc0 hQqc1 hQqr hQqc2 hQqw hQqh => ?_)
    | with_reducible refine LW.gz hL (fun _ => trivial)
    | with_reducible refine gi_W hL hb ?_
    | with_reducible refine LW.gz hQph (fun _ => trivial)
    | with_reducible refine gi_W hQph hb ?_
    | with_reducible exact next _ _ _ _ _ _ _ _ (LW.ofM hL hXqh) (by omega) (by omega)
    | with_reducible exact next _ _ _ _ _ _ _ _ (LW.ofM hL hWqh) (by omega) (by omega)
    | with_reducible exact next _ _ _ _ _ _ _ _ (LW.ofM hL hSqh) (by omega) (by omega)
    | with_reducible exact next _ _ _ _ _ _ _ _ (LW.ofM hL hQqh) (by omega) (by omega)
    | with_reducible exact next _ _ _ _ _ _ _ _ (LW.ofM hQph hXqh) (by omega) (by omega)
    | with_reducible exact next _ _ _ _ _ _ _ _ (LW.ofM hQph hWqh) (by omega) (by omega)
    | with_reducible exact next _ _ _ _ _ _ _ _ (LW.ofM hQph hSqh) (by omega) (by omega)
    | with_reducible exact next _ _ _ _ _ _ _ _ (LW.ofM hQph hQqh) (by omega) (by omega)
    | simp only [eL_law_1369, eL_law_1369N, eL_law_1370, eL_law_1370N, eL_law_1371, eL_law_1373, eL_law_1374, eL_law_1375, eL_law_1376, eL_law_1376N, eL_law_1377, eL_law_1379, eL_law_1380, eL_law_1381, eL_law_1382, eL_law_1382N, eL_law_1383, eL_law_1385, eL_law_1386, eL_law_1387, eL_law_1388, eL_law_1391, eL_law_1392, eL_law_1395, eL_law_1396, eL_law_1396N, eL_law_1397RR, eL_law_1397NR, eL_law_1397RN, eL_law_1397NN, eL_law_1400, eL_law_1402, eL_law_1402N, eL_law_1403, eL_law_1403N, eL_law_1404, eL_law_1406, eL_law_1407, eL_law_1408, eL_law_1409, eL_law_1409N, eL_law_1410, eL_law_1412, eL_law_1413, eL_law_1414, eL_law_1415, eL_law_1415N, eL_law_1416, eL_law_1418, eL_law_1419, eL_law_1420, eL_law_1421, eL_law_1424, eL_law_1425, eL_law_1428, eL_law_1429, eL_law_1432, eL_law_1434, ite_le, n45, n54, true_or, or_true, false_or, or_false, false_and, and_false, kx_l, kx_r, go_s, gl_s, gi_s, gb_s2, gb_s3, gq_s, wt_nil, wt_int, wt_long, wt_ref, wt_null, nl_int, nl_long, nl_ref, nl_null, nl_none, rf_n, rf_s, rf_st, tl_s, tl_n, g0, gS, ex1, nb_b, nb_0, nb_1, nf_i, nf_l, nf_ra, nf_ro, nf_na, nf_no, nf_b0, nf_z0, t45_4, t45_5, true_and, and_true, List.set_cons_zero, List.set_cons_succ, List.length_cons, List.length_nil, rd_s, upw_s, ne_eq, not_false_eq_true, Nat.zero_add, Nat.add_zero, if_true, if_false, eq_self, lgz, n12z, n2z, n3z, i00, not_true]
    | split
    | with_reducible intro _
    | omega
set_option maxHeartbeats 4000000 in
theorem cL_25 (hR : RG g) (hb : g.2 b = some (.inl (1, L, .inl xs))) (hL : LW g w x nA cA lA y nM o kn kn th s s) (v1 : vp_in (i + 1) L) (v2 : vp_in (i + 2) L) (v3 : vp_in (i + 3) L) (v4 : vp_in (i + 4) L) (v5 : vp_in (i + 5) L) (hk : k + 114 ≤ 58408) (hn : n + 2834 ≤ 1451408) (next : (∀ (l5' l6' : Option Value) (w' : Hw) (k' n' : Nat) (kn' th' : Int32) (s' : AS), LW g w' x nA cA lA y nM o kn' kn' th' s' s' → k' ≤ k + 114 → n' ≤ n + 2834 → WP (ML_law g) QLaw (2246, [some (.ref b), some (.ref x), some (.ref y), some (.ref o), some (.int i), l5', l6'], [], w', k', n'))) : WP (ML_law g) QLaw (1437, [some (.ref b), some (.ref x), some (.ref y), some (.ref o), some (.int i), l5, l6], [], w, k, n) := by
  repeat' first
    | with_reducible assumption
    | with_reducible refine And.intro ?_ ?_
    | with_reducible refine gi_W hL hb ?_
    | with_reducible refine LW.gx hL (fun _ => trivial)
    | cases Option.some.inj (hQpc3.symm.trans hQqc3); clear hQqc3
    | with_reducible exact absurd (And.intro hWqc0 hWqc1) hXpc0
    | with_reducible exact absurd (And.intro hSqc0 hSqc1) hXpc0
    | with_reducible exact absurd (And.intro hQqc0 hQqc1) hXpc0
    | with_reducible exact absurd (And.intro hWpc0 hWpc1) hXqc0
    | with_reducible exact absurd hSqc2 hWpc2
    | with_reducible exact absurd hQqc2 hWpc2
    | with_reducible exact absurd (And.intro hSpc0 hSpc1) hXqc0
    | with_reducible exact absurd hSpc2 hWqc2
    | with_reducible exact (nsC hSpc3 hQqc3).elim
    | with_reducible exact absurd (And.intro hQpc0 hQpc1) hXqc0
    | with_reducible exact absurd hQpc2 hWqc2
    | with_reducible exact (nsC hSqc3 hQpc3).elim
    | with_reducible refine fL_take hL (fun hXpc0 => ?_) (fun hWpc0 hWpc1 hWpc2 => ?_) (fun hSpc0 hSpc1 hSpc2 hSpc3 => ?_) (fun hQpc0 hQpc1 hQpc2 hQpr hQpc3 hQpw hQph hQpo => ?_)
    | with_reducible refine fX3_take (LW.ms hL) (fun hXqc0 hXqw hXqh => ?_) (fun hWqc0 hWqc1 hWqc2 hWqw hWqh => ?_) (fun hSqc0 hSqc1 hSqc2 hSqc3 hSqw hSqh => ?_) (fun hQqc0 hQqc1 hQqc2 hQqr hQqc3 hQqw hQqh => ?_)
    | with_reducible refine fX3_take (LW.ms hQph) (fun hXqc0 hXqw hXqh => ?_) (fun hWqc0 hWqc1 hWqc2 hWqw hWqh => ?_) (fun hSqc0 hSqc1 hSqc2 hSqc3 hSqw hSqh => ?_) (fun hQqc0 hQqc1 hQqc2 hQqr hQqc3 hQqw hQqh => ?_)
    | with_reducible refine LW.gz hL (fun _ => trivial)
    | with_reducible refine gi_W hL hb ?_
    | with_reducible refine LW.gz hQph (fun _ => trivial)
    | with_reducible refine gi_W hQph hb ?_
    | with_reducible exact next _ _ _ _ _ _ _ _ (LW.ofM hL hXqh) (by omega) (by omega)
    | with_reducible exact next _ _ _ _ _ _ _ _ (LW.ofM hL hWqh) (by omega) (by omega)
    | with_reducible exact next _ _ _ _ _ _ _ _ (LW.ofM hL hSqh) (by omega) (by omega)
    | with_reducible exact next _ _ _ _ _ _ _ _ (LW.ofM hL hQqh) (by omega) (by omega)
    | with_reducible exact next _ _ _ _ _ _ _ _ (LW.ofM hQph hXqh) (by omega) (by omega)
    | with_reducible exact next _ _ _ _ _ _ _ _ (LW.ofM hQph hWqh) (by omega) (by omega)
    | with_reducible exact next _ _ _ _ _ _ _ _ (LW.ofM hQph hSqh) (by omega) (by omega)
    | with_reducible exact next _ _ _ _ _ _ _ _ (LW.ofM hQph hQqh) (by omega) (by omega)
    | simp only [eL_law_1437, eL_law_1437N, eL_law_1438, eL_law_1438N, eL_law_1439, eL_law_1441, eL_law_1442, eL_law_1443, eL_law_1444, eL_law_1444N, eL_law_1445, eL_law_1447, eL_law_1448, eL_law_1449, eL_law_1450, eL_law_1450N, eL_law_1451, eL_law_1453, eL_law_1454, eL_law_1455, eL_law_1456, eL_law_1456N, eL_law_1457RR, eL_law_1457NR, eL_law_1457RN, eL_law_1457NN, eL_law_1460, eL_law_1462, eL_law_1462N, eL_law_1463, eL_law_1463N, eL_law_1464, eL_law_1466, eL_law_1467, eL_law_1468, eL_law_1469, eL_law_1469N, eL_law_1470, eL_law_1472, eL_law_1473, eL_law_1474, eL_law_1475, eL_law_1475N, eL_law_1476, eL_law_1478, eL_law_1479, eL_law_1480, eL_law_1481, eL_law_1484, eL_law_1486, ite_le, n45, n54, true_or, or_true, false_or, or_false, false_and, and_false, kx_l, kx_r, go_s, gl_s, gi_s, gb_s2, gb_s3, gq_s, wt_nil, wt_int, wt_long, wt_ref, wt_null, nl_int, nl_long, nl_ref, nl_null, nl_none, rf_n, rf_s, rf_st, tl_s, tl_n, g0, gS, ex1, nb_b, nb_0, nb_1, nf_i, nf_l, nf_ra, nf_ro, nf_na, nf_no, nf_b0, nf_z0, t45_4, t45_5, true_and, and_true, List.set_cons_zero, List.set_cons_succ, List.length_cons, List.length_nil, rd_s, upw_s, ne_eq, not_false_eq_true, Nat.zero_add, Nat.add_zero, if_true, if_false, eq_self, lgz, n12z, n2z, n3z, i00, not_true]
    | split
    | with_reducible intro _
    | omega
set_option maxHeartbeats 4000000 in
theorem cL_26 (hR : RG g) (hb : g.2 b = some (.inl (1, L, .inl xs))) (hL : LW g w x nA cA lA y nM o kn kn th s s) (v1 : vp_in (i + 1) L) (v2 : vp_in (i + 2) L) (v3 : vp_in (i + 3) L) (v4 : vp_in (i + 4) L) (v5 : vp_in (i + 5) L) (hk : k + 114 ≤ 58408) (hn : n + 2834 ≤ 1451408) (next : (∀ (l5' l6' : Option Value) (w' : Hw) (k' n' : Nat) (kn' th' : Int32) (s' : AS), LW g w' x nA cA lA y nM o kn' kn' th' s' s' → k' ≤ k + 114 → n' ≤ n + 2834 → WP (ML_law g) QLaw (2246, [some (.ref b), some (.ref x), some (.ref y), some (.ref o), some (.int i), l5', l6'], [], w', k', n'))) : WP (ML_law g) QLaw (1489, [some (.ref b), some (.ref x), some (.ref y), some (.ref o), some (.int i), l5, l6], [], w, k, n) := by
  repeat' first
    | with_reducible assumption
    | with_reducible refine And.intro ?_ ?_
    | with_reducible refine gi_W hL hb ?_
    | with_reducible refine LW.gx hL (fun _ => trivial)
    | with_reducible refine gL_cardText hR hL (fun v1 w1 h1 => ?_)
    | with_reducible refine gX3_cardText (LW.ms h1) hR.sg (hR.dg (LW.ro h1)) (hR.tx (LW.ro h1)) (fun v2 t2 w2 m2 => ?_)
    | with_reducible refine LW.gz h1 (fun _ => trivial)
    | with_reducible refine gi_W h1 hb ?_
    | with_reducible exact next _ _ _ _ _ _ _ _ (LW.ofM h1 m2) (by omega) (by omega)
    | simp only [eL_law_1489, eL_law_1489N, eL_law_1490, eL_law_1490N, eL_law_1491, eL_law_1493, eL_law_1494, eL_law_1495, eL_law_1496, eL_law_1496N, eL_law_1497RR, eL_law_1497NR, eL_law_1497RN, eL_law_1497NN, eL_law_1500, eL_law_1502, eL_law_1502N, eL_law_1503, eL_law_1503N, eL_law_1504, eL_law_1506, eL_law_1507, eL_law_1508, eL_law_1509, eL_law_1512, eL_law_1512N, eL_law_1514, ite_le, n45, n54, true_or, or_true, false_or, or_false, false_and, and_false, kx_l, kx_r, go_s, gl_s, gi_s, gb_s2, gb_s3, gq_s, wt_nil, wt_int, wt_long, wt_ref, wt_null, nl_int, nl_long, nl_ref, nl_null, nl_none, rf_n, rf_s, rf_st, tl_s, tl_n, g0, gS, ex1, nb_b, nb_0, nb_1, nf_i, nf_l, nf_ra, nf_ro, nf_na, nf_no, nf_b0, nf_z0, t45_4, t45_5, true_and, and_true, List.set_cons_zero, List.set_cons_succ, List.length_cons, List.length_nil, rd_s, upw_s, ne_eq, not_false_eq_true, Nat.zero_add, Nat.add_zero, if_true, if_false, eq_self, lgz, n12z, n2z, n3z, i00, not_true]
    | split
    | with_reducible intro _
    | omega
set_option maxHeartbeats 4000000 in
theorem cL_27 (hR : RG g) (hb : g.2 b = some (.inl (1, L, .inl xs))) (hL : LW g w x nA cA lA y nM o kn kn th s s) (v1 : vp_in (i + 1) L) (v2 : vp_in (i + 2) L) (v3 : vp_in (i + 3) L) (v4 : vp_in (i + 4) L) (v5 : vp_in (i + 5) L) (hk : k + 114 ≤ 58408) (hn : n + 2834 ≤ 1451408) (next : (∀ (l5' l6' : Option Value) (w' : Hw) (k' n' : Nat) (kn' th' : Int32) (s' : AS), LW g w' x nA cA lA y nM o kn' kn' th' s' s' → k' ≤ k + 114 → n' ≤ n + 2834 → WP (ML_law g) QLaw (2246, [some (.ref b), some (.ref x), some (.ref y), some (.ref o), some (.int i), l5', l6'], [], w', k', n'))) : WP (ML_law g) QLaw (1517, [some (.ref b), some (.ref x), some (.ref y), some (.ref o), some (.int i), l5, l6], [], w, k, n) := by
  repeat' first
    | with_reducible assumption
    | with_reducible refine And.intro ?_ ?_
    | with_reducible refine gi_W hL hb ?_
    | with_reducible refine LW.gx hL (fun _ => trivial)
    | cases Option.some.inj (hTpc2.symm.trans hTqc2); clear hTqc2
    | cases Option.some.inj (hTpc2.symm.trans hFqc2); clear hFqc2
    | cases Option.some.inj (hFpc2.symm.trans hTqc2); clear hTqc2
    | cases Option.some.inj (hFpc2.symm.trans hFqc2); clear hFqc2
    | with_reducible exact absurd (And.intro hSqc0 hSqc1) hXpc0
    | with_reducible exact absurd (And.intro hTqc0 hTqc1) hXpc0
    | with_reducible exact absurd (And.intro hFqc0 hFqc1) hXpc0
    | with_reducible exact absurd (And.intro hSpc0 hSpc1) hXqc0
    | with_reducible exact (nsC hSpc2 hTqc2).elim
    | with_reducible exact (nsC hSpc2 hFqc2).elim
    | with_reducible exact absurd (And.intro hTpc0 hTpc1) hXqc0
    | with_reducible exact (nsC hSqc2 hTpc2).elim
    | with_reducible exact absurd hTpc3 hFqc3
    | with_reducible exact absurd (And.intro hFpc0 hFpc1) hXqc0
    | with_reducible exact (nsC hSqc2 hFpc2).elim
    | with_reducible exact absurd hTqc3 hFpc3
    | with_reducible refine fL_isValid hL (fun hXpc0 => ?_) (fun hSpc0 hSpc1 hSpc2 => ?_) (fun hTpc0 hTpc1 hTpr hTpc2 hTpc3 hTpw hTph hTpo => ?_) (fun hFpc0 hFpc1 hFpr hFpc2 hFpc3 hFpw hFph hFpo => ?_)
    | with_reducible refine fX3_isValid (LW.ms hFph) (fun hXqc0 hXqw hXqh => ?_) (fun hSqc0 hSqc1 hSqc2 hSqw hSqh => ?_) (fun hTqc0 hTqc1 hTqr hTqc2 hTqc3 hTqw hTqh => ?_) (fun hFqc0 hFqc1 hFqr hFqc2 hFqc3 hFqw hFqh => ?_)
    | with_reducible refine fX3_isValid (LW.ms hL) (fun hXqc0 hXqw hXqh => ?_) (fun hSqc0 hSqc1 hSqc2 hSqw hSqh => ?_) (fun hTqc0 hTqc1 hTqr hTqc2 hTqc3 hTqw hTqh => ?_) (fun hFqc0 hFqc1 hFqr hFqc2 hFqc3 hFqw hFqh => ?_)
    | with_reducible refine fX3_isValid (LW.ms hTph) (fun hXqc0 hXqw hXqh => ?_) (fun hSqc0 hSqc1 hSqc2 hSqw hSqh => ?_) (fun hTqc0 hTqc1 hTqr hTqc2 hTqc3 hTqw hTqh => ?_) (fun hFqc0 hFqc1 hFqr hFqc2 hFqc3 hFqw hFqh => ?_)
    | with_reducible refine LW.gz hFph (fun _ => trivial)
    | with_reducible refine gi_W hFph hb ?_
    | with_reducible refine LW.gz hL (fun _ => trivial)
    | with_reducible refine gi_W hL hb ?_
    | with_reducible refine LW.gz hTph (fun _ => trivial)
    | with_reducible refine gi_W hTph hb ?_
    | with_reducible exact next _ _ _ _ _ _ _ _ (LW.ofM hL hXqh) (by omega) (by omega)
    | with_reducible exact next _ _ _ _ _ _ _ _ (LW.ofM hL hSqh) (by omega) (by omega)
    | with_reducible exact next _ _ _ _ _ _ _ _ (LW.ofM hL hTqh) (by omega) (by omega)
    | with_reducible exact next _ _ _ _ _ _ _ _ (LW.ofM hL hFqh) (by omega) (by omega)
    | with_reducible exact next _ _ _ _ _ _ _ _ (LW.ofM hTph hXqh) (by omega) (by omega)
    | with_reducible exact next _ _ _ _ _ _ _ _ (LW.ofM hTph hSqh) (by omega) (by omega)
    | with_reducible exact next _ _ _ _ _ _ _ _ (LW.ofM hTph hTqh) (by omega) (by omega)
    | with_reducible exact next _ _ _ _ _ _ _ _ (LW.ofM hTph hFqh) (by omega) (by omega)
    | with_reducible exact next _ _ _ _ _ _ _ _ (LW.ofM hFph hXqh) (by omega) (by omega)
    | with_reducible exact next _ _ _ _ _ _ _ _ (LW.ofM hFph hSqh) (by omega) (by omega)
    | with_reducible exact next _ _ _ _ _ _ _ _ (LW.ofM hFph hTqh) (by omega) (by omega)
    | with_reducible exact next _ _ _ _ _ _ _ _ (LW.ofM hFph hFqh) (by omega) (by omega)
    | simp only [eL_law_1517, eL_law_1517N, eL_law_1518, eL_law_1518N, eL_law_1519, eL_law_1521, eL_law_1522, eL_law_1523, eL_law_1524, eL_law_1524N, eL_law_1525, eL_law_1527, eL_law_1528, eL_law_1529, eL_law_1530, eL_law_1530N, eL_law_1531RR, eL_law_1531NR, eL_law_1531RN, eL_law_1531NN, eL_law_1534, eL_law_1536, eL_law_1536N, eL_law_1537, eL_law_1537N, eL_law_1538, eL_law_1540, eL_law_1541, eL_law_1542, eL_law_1543, eL_law_1543N, eL_law_1544, eL_law_1546, eL_law_1547, eL_law_1548, eL_law_1549, eL_law_1552, eL_law_1554, ite_le, n45, n54, true_or, or_true, false_or, or_false, false_and, and_false, kx_l, kx_r, go_s, gl_s, gi_s, gb_s2, gb_s3, gq_s, wt_nil, wt_int, wt_long, wt_ref, wt_null, nl_int, nl_long, nl_ref, nl_null, nl_none, rf_n, rf_s, rf_st, tl_s, tl_n, g0, gS, ex1, nb_b, nb_0, nb_1, nf_i, nf_l, nf_ra, nf_ro, nf_na, nf_no, nf_b0, nf_z0, t45_4, t45_5, true_and, and_true, List.set_cons_zero, List.set_cons_succ, List.length_cons, List.length_nil, rd_s, upw_s, ne_eq, not_false_eq_true, Nat.zero_add, Nat.add_zero, if_true, if_false, eq_self, lgz, n12z, n2z, n3z, i00, not_true]
    | split
    | with_reducible intro _
    | omega
set_option maxHeartbeats 4000000 in
theorem cL_28 (hR : RG g) (hb : g.2 b = some (.inl (1, L, .inl xs))) (hL : LW g w x nA cA lA y nM o kn kn th s s) (v1 : vp_in (i + 1) L) (v2 : vp_in (i + 2) L) (v3 : vp_in (i + 3) L) (v4 : vp_in (i + 4) L) (v5 : vp_in (i + 5) L) (hk : k + 114 ≤ 58408) (hn : n + 2834 ≤ 1451408) (next : (∀ (l5' l6' : Option Value) (w' : Hw) (k' n' : Nat) (kn' th' : Int32) (s' : AS), LW g w' x nA cA lA y nM o kn' kn' th' s' s' → k' ≤ k + 114 → n' ≤ n + 2834 → WP (ML_law g) QLaw (2246, [some (.ref b), some (.ref x), some (.ref y), some (.ref o), some (.int i), l5', l6'], [], w', k', n'))) : WP (ML_law g) QLaw (1557, [some (.ref b), some (.ref x), some (.ref y), some (.ref o), some (.int i), l5, l6], [], w, k, n) := by
  repeat' first
    | with_reducible assumption
    | with_reducible refine And.intro ?_ ?_
    | with_reducible refine gi_W hL hb ?_
    | with_reducible refine LW.gx hL (fun _ => trivial)
    | cases Option.some.inj (hTpc2.symm.trans hTqc2); clear hTqc2
    | cases Option.some.inj (hTpc2.symm.trans hFqc2); clear hFqc2
    | cases Option.some.inj (hFpc2.symm.trans hTqc2); clear hTqc2
    | cases Option.some.inj (hFpc2.symm.trans hFqc2); clear hFqc2
    | with_reducible exact absurd (And.intro hSqc0 hSqc1) hXpc0
    | with_reducible exact absurd (And.intro hTqc0 hTqc1) hXpc0
    | with_reducible exact absurd (And.intro hFqc0 hFqc1) hXpc0
    | with_reducible exact absurd (And.intro hSpc0 hSpc1) hXqc0
    | with_reducible exact (nsC hSpc2 hTqc2).elim
    | with_reducible exact (nsC hSpc2 hFqc2).elim
    | with_reducible exact absurd (And.intro hTpc0 hTpc1) hXqc0
    | with_reducible exact (nsC hSqc2 hTpc2).elim
    | with_reducible exact absurd hTpc3 hFqc3
    | with_reducible exact absurd (And.intro hFpc0 hFpc1) hXqc0
    | with_reducible exact (nsC hSqc2 hFpc2).elim
    | with_reducible exact absurd hTqc3 hFpc3
    | with_reducible refine fL_isValidSmall hL (fun hXpc0 => ?_) (fun hSpc0 hSpc1 hSpc2 => ?_) (fun hTpc0 hTpc1 hTpr hTpc2 hTpc3 hTpw hTph hTpo => ?_) (fun hFpc0 hFpc1 hFpr hFpc2 hFpc3 hFpw hFph hFpo => ?_)
    | with_reducible refine fX3_isValidSmall (LW.ms hFph) (fun hXqc0 hXqw hXqh => ?_) (fun hSqc0 hSqc1 hSqc2 hSqw hSqh => ?_) (fun hTqc0 hTqc1 hTqr hTqc2 hTqc3 hTqw hTqh => ?_) (fun hFqc0 hFqc1 hFqr hFqc2 hFqc3 hFqw hFqh => ?_)
    | with_reducible refine fX3_isValidSmall (LW.ms hL) (fun hXqc0 hXqw hXqh => ?_) (fun hSqc0 hSqc1 hSqc2 hSqw hSqh => ?_) (fun hTqc0 hTqc1 hTqr hTqc2 hTqc3 hTqw hTqh => ?_) (fun hFqc0 hFqc1 hFqr hFqc2 hFqc3 hFqw hFqh => ?_)
    | with_reducible refine fX3_isValidSmall (LW.ms hTph) (fun hXqc0 hXqw hXqh => ?_) (fun hSqc0 hSqc1 hSqc2 hSqw hSqh => ?_) (fun hTqc0 hTqc1 hTqr hTqc2 hTqc3 hTqw hTqh => ?_) (fun hFqc0 hFqc1 hFqr hFqc2 hFqc3 hFqw hFqh => ?_)
    | with_reducible refine LW.gz hFph (fun _ => trivial)
    | with_reducible refine gi_W hFph hb ?_
    | with_reducible refine LW.gz hL (fun _ => trivial)
    | with_reducible refine gi_W hL hb ?_
    | with_reducible refine LW.gz hTph (fun _ => trivial)
    | with_reducible refine gi_W hTph hb ?_
    | with_reducible exact next _ _ _ _ _ _ _ _ (LW.ofM hL hXqh) (by omega) (by omega)
    | with_reducible exact next _ _ _ _ _ _ _ _ (LW.ofM hL hSqh) (by omega) (by omega)
    | with_reducible exact next _ _ _ _ _ _ _ _ (LW.ofM hL hTqh) (by omega) (by omega)
    | with_reducible exact next _ _ _ _ _ _ _ _ (LW.ofM hL hFqh) (by omega) (by omega)
    | with_reducible exact next _ _ _ _ _ _ _ _ (LW.ofM hTph hXqh) (by omega) (by omega)
    | with_reducible exact next _ _ _ _ _ _ _ _ (LW.ofM hTph hSqh) (by omega) (by omega)
    | with_reducible exact next _ _ _ _ _ _ _ _ (LW.ofM hTph hTqh) (by omega) (by omega)
    | with_reducible exact next _ _ _ _ _ _ _ _ (LW.ofM hTph hFqh) (by omega) (by omega)
    | with_reducible exact next _ _ _ _ _ _ _ _ (LW.ofM hFph hXqh) (by omega) (by omega)
    | with_reducible exact next _ _ _ _ _ _ _ _ (LW.ofM hFph hSqh) (by omega) (by omega)
    | with_reducible exact next _ _ _ _ _ _ _ _ (LW.ofM hFph hTqh) (by omega) (by omega)
    | with_reducible exact next _ _ _ _ _ _ _ _ (LW.ofM hFph hFqh) (by omega) (by omega)
    | simp only [eL_law_1557, eL_law_1557N, eL_law_1558, eL_law_1558N, eL_law_1559, eL_law_1561, eL_law_1562, eL_law_1563, eL_law_1564, eL_law_1564N, eL_law_1565, eL_law_1567, eL_law_1568, eL_law_1569, eL_law_1570, eL_law_1570N, eL_law_1571RR, eL_law_1571NR, eL_law_1571RN, eL_law_1571NN, eL_law_1574, eL_law_1576, eL_law_1576N, eL_law_1577, eL_law_1577N, eL_law_1578, eL_law_1580, eL_law_1581, eL_law_1582, eL_law_1583, eL_law_1583N, eL_law_1584, eL_law_1586, eL_law_1587, eL_law_1588, eL_law_1589, eL_law_1592, eL_law_1594, ite_le, n45, n54, true_or, or_true, false_or, or_false, false_and, and_false, kx_l, kx_r, go_s, gl_s, gi_s, gb_s2, gb_s3, gq_s, wt_nil, wt_int, wt_long, wt_ref, wt_null, nl_int, nl_long, nl_ref, nl_null, nl_none, rf_n, rf_s, rf_st, tl_s, tl_n, g0, gS, ex1, nb_b, nb_0, nb_1, nf_i, nf_l, nf_ra, nf_ro, nf_na, nf_no, nf_b0, nf_z0, t45_4, t45_5, true_and, and_true, List.set_cons_zero, List.set_cons_succ, List.length_cons, List.length_nil, rd_s, upw_s, ne_eq, not_false_eq_true, Nat.zero_add, Nat.add_zero, if_true, if_false, eq_self, lgz, n12z, n2z, n3z, i00, not_true]
    | split
    | with_reducible intro _
    | omega
set_option maxHeartbeats 4000000 in
theorem cL_29 (hR : RG g) (hb : g.2 b = some (.inl (1, L, .inl xs))) (hL : LW g w x nA cA lA y nM o kn kn th s s) (v1 : vp_in (i + 1) L) (v2 : vp_in (i + 2) L) (v3 : vp_in (i + 3) L) (v4 : vp_in (i + 4) L) (v5 : vp_in (i + 5) L) (hk : k + 114 ≤ 58408) (hn : n + 2834 ≤ 1451408) (next : (∀ (l5' l6' : Option Value) (w' : Hw) (k' n' : Nat) (kn' th' : Int32) (s' : AS), LW g w' x nA cA lA y nM o kn' kn' th' s' s' → k' ≤ k + 114 → n' ≤ n + 2834 → WP (ML_law g) QLaw (2246, [some (.ref b), some (.ref x), some (.ref y), some (.ref o), some (.int i), l5', l6'], [], w', k', n'))) : WP (ML_law g) QLaw (1597, [some (.ref b), some (.ref x), some (.ref y), some (.ref o), some (.int i), l5, l6], [], w, k, n) := by
  repeat' first
    | with_reducible assumption
    | with_reducible refine And.intro ?_ ?_
    | with_reducible refine gi_W hL hb ?_
    | with_reducible refine LW.gx hL (fun _ => trivial)
    | with_reducible refine fL_whichValid hL (fun hXpc0 => ?_) (fun hSpc0 hSpc1 => ?_) (fun hQpc0 hQpr hQpc1 hQpw hQph hQpo => ?_)
    | with_reducible refine gX3_whichValid (LW.ms hL) (fun v2 t2 w2 m2 => ?_)
    | with_reducible refine gX3_whichValid (LW.ms hQph) (fun v2 t2 w2 m2 => ?_)
    | with_reducible refine LW.gz hL (fun _ => trivial)
    | with_reducible refine gi_W hL hb ?_
    | with_reducible refine LW.gz hQph (fun _ => trivial)
    | with_reducible refine gi_W hQph hb ?_
    | with_reducible exact next _ _ _ _ _ _ _ _ (LW.ofM hL m2) (by omega) (by omega)
    | with_reducible exact next _ _ _ _ _ _ _ _ (LW.ofM hQph m2) (by omega) (by omega)
    | simp only [eL_law_1597, eL_law_1597N, eL_law_1598, eL_law_1598N, eL_law_1599, eL_law_1601, eL_law_1602, eL_law_1603, eL_law_1604, eL_law_1604N, eL_law_1605, eL_law_1607, eL_law_1608, eL_law_1609, eL_law_1610, eL_law_1610N, eL_law_1611RR, eL_law_1611NR, eL_law_1611RN, eL_law_1611NN, eL_law_1614, eL_law_1616, eL_law_1616N, eL_law_1617, eL_law_1617N, eL_law_1618, eL_law_1620, eL_law_1621, eL_law_1622, eL_law_1623, eL_law_1623N, eL_law_1624, eL_law_1626, eL_law_1627, eL_law_1628, eL_law_1629, eL_law_1632, eL_law_1634, ite_le, n45, n54, true_or, or_true, false_or, or_false, false_and, and_false, kx_l, kx_r, go_s, gl_s, gi_s, gb_s2, gb_s3, gq_s, wt_nil, wt_int, wt_long, wt_ref, wt_null, nl_int, nl_long, nl_ref, nl_null, nl_none, rf_n, rf_s, rf_st, tl_s, tl_n, g0, gS, ex1, nb_b, nb_0, nb_1, nf_i, nf_l, nf_ra, nf_ro, nf_na, nf_no, nf_b0, nf_z0, t45_4, t45_5, true_and, and_true, List.set_cons_zero, List.set_cons_succ, List.length_cons, List.length_nil, rd_s, upw_s, ne_eq, not_false_eq_true, Nat.zero_add, Nat.add_zero, if_true, if_false, eq_self, lgz, n12z, n2z, n3z, i00, not_true]
    | split
    | with_reducible intro _
    | omega
set_option maxHeartbeats 4000000 in
theorem cL_30 (hR : RG g) (hb : g.2 b = some (.inl (1, L, .inl xs))) (hL : LW g w x nA cA lA y nM o kn kn th s s) (v1 : vp_in (i + 1) L) (v2 : vp_in (i + 2) L) (v3 : vp_in (i + 3) L) (v4 : vp_in (i + 4) L) (v5 : vp_in (i + 5) L) (hk : k + 114 ≤ 58408) (hn : n + 2834 ≤ 1451408) (next : (∀ (l5' l6' : Option Value) (w' : Hw) (k' n' : Nat) (kn' th' : Int32) (s' : AS), LW g w' x nA cA lA y nM o kn' kn' th' s' s' → k' ≤ k + 114 → n' ≤ n + 2834 → WP (ML_law g) QLaw (2246, [some (.ref b), some (.ref x), some (.ref y), some (.ref o), some (.int i), l5', l6'], [], w', k', n'))) : WP (ML_law g) QLaw (1637, [some (.ref b), some (.ref x), some (.ref y), some (.ref o), some (.int i), l5, l6], [], w, k, n) := by
  repeat' first
    | with_reducible assumption
    | with_reducible refine And.intro ?_ ?_
    | with_reducible refine gi_W hL hb ?_
    | with_reducible refine LW.gx hL (fun _ => trivial)
    | with_reducible refine fL_around hL (fun hXpc0 => ?_) (fun hWpc0 hWpc1 => ?_) (fun hSpc0 hSpc1 hSpc2 => ?_) (fun hQpc0 hQpc1 hQpr hQpc2 hQpw hQph hQpo => ?_)
    | with_reducible refine gX3_around (LW.ms hL) (fun v2 t2 w2 m2 => ?_)
    | with_reducible refine gX3_around (LW.ms hQph) (fun v2 t2 w2 m2 => ?_)
    | with_reducible refine LW.gz hL (fun _ => trivial)
    | with_reducible refine gi_W hL hb ?_
    | with_reducible refine LW.gz hQph (fun _ => trivial)
    | with_reducible refine gi_W hQph hb ?_
    | with_reducible exact next _ _ _ _ _ _ _ _ (LW.ofM hL m2) (by omega) (by omega)
    | with_reducible exact next _ _ _ _ _ _ _ _ (LW.ofM hQph m2) (by omega) (by omega)
    | simp only [eL_law_1637, eL_law_1637N, eL_law_1638, eL_law_1638N, eL_law_1639, eL_law_1641, eL_law_1642, eL_law_1643, eL_law_1644, eL_law_1644N, eL_law_1645, eL_law_1647, eL_law_1648, eL_law_1649, eL_law_1650, eL_law_1650N, eL_law_1651, eL_law_1653, eL_law_1654, eL_law_1655, eL_law_1656, eL_law_1659, eL_law_1660, eL_law_1663, eL_law_1664, eL_law_1664N, eL_law_1665RR, eL_law_1665NR, eL_law_1665RN, eL_law_1665NN, eL_law_1668, eL_law_1670, eL_law_1670N, eL_law_1671, eL_law_1671N, eL_law_1672, eL_law_1674, eL_law_1675, eL_law_1676, eL_law_1677, eL_law_1677N, eL_law_1678, eL_law_1680, eL_law_1681, eL_law_1682, eL_law_1683, eL_law_1683N, eL_law_1684, eL_law_1686, eL_law_1687, eL_law_1688, eL_law_1689, eL_law_1692, eL_law_1693, eL_law_1696, eL_law_1697, eL_law_1700, eL_law_1702, ite_le, n45, n54, true_or, or_true, false_or, or_false, false_and, and_false, kx_l, kx_r, go_s, gl_s, gi_s, gb_s2, gb_s3, gq_s, wt_nil, wt_int, wt_long, wt_ref, wt_null, nl_int, nl_long, nl_ref, nl_null, nl_none, rf_n, rf_s, rf_st, tl_s, tl_n, g0, gS, ex1, nb_b, nb_0, nb_1, nf_i, nf_l, nf_ra, nf_ro, nf_na, nf_no, nf_b0, nf_z0, t45_4, t45_5, true_and, and_true, List.set_cons_zero, List.set_cons_succ, List.length_cons, List.length_nil, rd_s, upw_s, ne_eq, not_false_eq_true, Nat.zero_add, Nat.add_zero, if_true, if_false, eq_self, lgz, n12z, n2z, n3z, i00, not_true]
    | split
    | with_reducible intro _
    | omega
set_option maxHeartbeats 4000000 in
theorem cL_31 (hR : RG g) (hb : g.2 b = some (.inl (1, L, .inl xs))) (hL : LW g w x nA cA lA y nM o kn kn th s s) (v1 : vp_in (i + 1) L) (v2 : vp_in (i + 2) L) (v3 : vp_in (i + 3) L) (v4 : vp_in (i + 4) L) (v5 : vp_in (i + 5) L) (hk : k + 114 ≤ 58408) (hn : n + 2834 ≤ 1451408) (next : (∀ (l5' l6' : Option Value) (w' : Hw) (k' n' : Nat) (kn' th' : Int32) (s' : AS), LW g w' x nA cA lA y nM o kn' kn' th' s' s' → k' ≤ k + 114 → n' ≤ n + 2834 → WP (ML_law g) QLaw (2246, [some (.ref b), some (.ref x), some (.ref y), some (.ref o), some (.int i), l5', l6'], [], w', k', n'))) : WP (ML_law g) QLaw (1705, [some (.ref b), some (.ref x), some (.ref y), some (.ref o), some (.int i), l5, l6], [], w, k, n) := by
  repeat' first
    | with_reducible assumption
    | with_reducible refine And.intro ?_ ?_
    | with_reducible refine gi_W hL hb ?_
    | with_reducible refine LW.gx hL (fun _ => trivial)
    | with_reducible refine gL_count hR hL (fun v1 w1 h1 => ?_)
    | with_reducible refine gX3_count (LW.ms h1) (fun v2 t2 w2 m2 => ?_)
    | with_reducible refine LW.gz h1 (fun _ => trivial)
    | with_reducible refine gi_W h1 hb ?_
    | with_reducible exact next _ _ _ _ _ _ _ _ (LW.ofM h1 m2) (by omega) (by omega)
    | simp only [eL_law_1705, eL_law_1705N, eL_law_1706, eL_law_1706N, eL_law_1707, eL_law_1709, eL_law_1710, eL_law_1711, eL_law_1712, eL_law_1712N, eL_law_1713, eL_law_1715, eL_law_1716, eL_law_1717, eL_law_1718, eL_law_1718N, eL_law_1719, eL_law_1721, eL_law_1722, eL_law_1723, eL_law_1724, eL_law_1724N, eL_law_1725RR, eL_law_1725NR, eL_law_1725RN, eL_law_1725NN, eL_law_1728, eL_law_1730, eL_law_1730N, eL_law_1731, eL_law_1731N, eL_law_1732, eL_law_1734, eL_law_1735, eL_law_1736, eL_law_1737, eL_law_1737N, eL_law_1738, eL_law_1740, eL_law_1741, eL_law_1742, eL_law_1743, eL_law_1743N, eL_law_1744, eL_law_1746, eL_law_1747, eL_law_1748, eL_law_1749, eL_law_1752, eL_law_1754, ite_le, n45, n54, true_or, or_true, false_or, or_false, false_and, and_false, kx_l, kx_r, go_s, gl_s, gi_s, gb_s2, gb_s3, gq_s, wt_nil, wt_int, wt_long, wt_ref, wt_null, nl_int, nl_long, nl_ref, nl_null, nl_none, rf_n, rf_s, rf_st, tl_s, tl_n, g0, gS, ex1, nb_b, nb_0, nb_1, nf_i, nf_l, nf_ra, nf_ro, nf_na, nf_no, nf_b0, nf_z0, t45_4, t45_5, true_and, and_true, List.set_cons_zero, List.set_cons_succ, List.length_cons, List.length_nil, rd_s, upw_s, ne_eq, not_false_eq_true, Nat.zero_add, Nat.add_zero, if_true, if_false, eq_self, lgz, n12z, n2z, n3z, i00, not_true]
    | split
    | with_reducible intro _
    | omega
set_option maxHeartbeats 4000000 in
theorem cL_32 (hR : RG g) (hb : g.2 b = some (.inl (1, L, .inl xs))) (hL : LW g w x nA cA lA y nM o kn kn th s s) (v1 : vp_in (i + 1) L) (v2 : vp_in (i + 2) L) (v3 : vp_in (i + 3) L) (v4 : vp_in (i + 4) L) (v5 : vp_in (i + 5) L) (hk : k + 114 ≤ 58408) (hn : n + 2834 ≤ 1451408) (next : (∀ (l5' l6' : Option Value) (w' : Hw) (k' n' : Nat) (kn' th' : Int32) (s' : AS), LW g w' x nA cA lA y nM o kn' kn' th' s' s' → k' ≤ k + 114 → n' ≤ n + 2834 → WP (ML_law g) QLaw (2246, [some (.ref b), some (.ref x), some (.ref y), some (.ref o), some (.int i), l5', l6'], [], w', k', n'))) : WP (ML_law g) QLaw (1757, [some (.ref b), some (.ref x), some (.ref y), some (.ref o), some (.int i), l5, l6], [], w, k, n) := by
  repeat' first
    | with_reducible assumption
    | with_reducible refine And.intro ?_ ?_
    | with_reducible refine gi_W hL hb ?_
    | with_reducible refine LW.gx hL (fun _ => trivial)
    | with_reducible refine gL_who hR hL (fun v1 w1 h1 => ?_)
    | with_reducible refine gX3_who (LW.ms h1) (fun v2 t2 w2 m2 => ?_)
    | with_reducible refine LW.gz h1 (fun _ => trivial)
    | with_reducible refine gi_W h1 hb ?_
    | with_reducible exact next _ _ _ _ _ _ _ _ (LW.ofM h1 m2) (by omega) (by omega)
    | simp only [eL_law_1757, eL_law_1757N, eL_law_1758, eL_law_1758N, eL_law_1759, eL_law_1761, eL_law_1762, eL_law_1763, eL_law_1764, eL_law_1764N, eL_law_1765, eL_law_1767, eL_law_1768, eL_law_1769, eL_law_1770, eL_law_1770N, eL_law_1771RR, eL_law_1771NR, eL_law_1771RN, eL_law_1771NN, eL_law_1774, eL_law_1776, eL_law_1776N, eL_law_1777, eL_law_1777N, eL_law_1778, eL_law_1780, eL_law_1781, eL_law_1782, eL_law_1783, eL_law_1783N, eL_law_1784, eL_law_1786, eL_law_1787, eL_law_1788, eL_law_1789, eL_law_1792, eL_law_1794, ite_le, n45, n54, true_or, or_true, false_or, or_false, false_and, and_false, kx_l, kx_r, go_s, gl_s, gi_s, gb_s2, gb_s3, gq_s, wt_nil, wt_int, wt_long, wt_ref, wt_null, nl_int, nl_long, nl_ref, nl_null, nl_none, rf_n, rf_s, rf_st, tl_s, tl_n, g0, gS, ex1, nb_b, nb_0, nb_1, nf_i, nf_l, nf_ra, nf_ro, nf_na, nf_no, nf_b0, nf_z0, t45_4, t45_5, true_and, and_true, List.set_cons_zero, List.set_cons_succ, List.length_cons, List.length_nil, rd_s, upw_s, ne_eq, not_false_eq_true, Nat.zero_add, Nat.add_zero, if_true, if_false, eq_self, lgz, n12z, n2z, n3z, i00, not_true]
    | split
    | with_reducible intro _
    | omega
set_option maxHeartbeats 4000000 in
theorem cL_33 (hR : RG g) (hb : g.2 b = some (.inl (1, L, .inl xs))) (hL : LW g w x nA cA lA y nM o kn kn th s s) (v1 : vp_in (i + 1) L) (v2 : vp_in (i + 2) L) (v3 : vp_in (i + 3) L) (v4 : vp_in (i + 4) L) (v5 : vp_in (i + 5) L) (hk : k + 114 ≤ 58408) (hn : n + 2834 ≤ 1451408) (next : (∀ (l5' l6' : Option Value) (w' : Hw) (k' n' : Nat) (kn' th' : Int32) (s' : AS), LW g w' x nA cA lA y nM o kn' kn' th' s' s' → k' ≤ k + 114 → n' ≤ n + 2834 → WP (ML_law g) QLaw (2246, [some (.ref b), some (.ref x), some (.ref y), some (.ref o), some (.int i), l5', l6'], [], w', k', n'))) : WP (ML_law g) QLaw (1797, [some (.ref b), some (.ref x), some (.ref y), some (.ref o), some (.int i), l5, l6], [], w, k, n) := by
  repeat' first
    | with_reducible assumption
    | with_reducible refine And.intro ?_ ?_
    | with_reducible refine gi_W hL hb ?_
    | with_reducible refine LW.gx hL (fun _ => trivial)
    | with_reducible refine gL_which hR hL (fun v1 w1 h1 => ?_)
    | with_reducible refine gX3_which (LW.ms h1) (fun v2 t2 w2 m2 => ?_)
    | with_reducible refine LW.gz h1 (fun _ => trivial)
    | with_reducible refine gi_W h1 hb ?_
    | with_reducible exact next _ _ _ _ _ _ _ _ (LW.ofM h1 m2) (by omega) (by omega)
    | simp only [eL_law_1797, eL_law_1797N, eL_law_1798, eL_law_1798N, eL_law_1799, eL_law_1801, eL_law_1802, eL_law_1803, eL_law_1804, eL_law_1804N, eL_law_1805RR, eL_law_1805NR, eL_law_1805RN, eL_law_1805NN, eL_law_1808, eL_law_1810, eL_law_1810N, eL_law_1811, eL_law_1811N, eL_law_1812, eL_law_1814, eL_law_1815, eL_law_1816, eL_law_1817, eL_law_1820, eL_law_1822, ite_le, n45, n54, true_or, or_true, false_or, or_false, false_and, and_false, kx_l, kx_r, go_s, gl_s, gi_s, gb_s2, gb_s3, gq_s, wt_nil, wt_int, wt_long, wt_ref, wt_null, nl_int, nl_long, nl_ref, nl_null, nl_none, rf_n, rf_s, rf_st, tl_s, tl_n, g0, gS, ex1, nb_b, nb_0, nb_1, nf_i, nf_l, nf_ra, nf_ro, nf_na, nf_no, nf_b0, nf_z0, t45_4, t45_5, true_and, and_true, List.set_cons_zero, List.set_cons_succ, List.length_cons, List.length_nil, rd_s, upw_s, ne_eq, not_false_eq_true, Nat.zero_add, Nat.add_zero, if_true, if_false, eq_self, lgz, n12z, n2z, n3z, i00, not_true]
    | split
    | with_reducible intro _
    | omega
set_option maxHeartbeats 4000000 in
theorem cL_34 (hR : RG g) (hb : g.2 b = some (.inl (1, L, .inl xs))) (hL : LW g w x nA cA lA y nM o kn kn th s s) (v1 : vp_in (i + 1) L) (v2 : vp_in (i + 2) L) (v3 : vp_in (i + 3) L) (v4 : vp_in (i + 4) L) (v5 : vp_in (i + 5) L) (hk : k + 114 ≤ 58408) (hn : n + 2834 ≤ 1451408) (next : (∀ (l5' l6' : Option Value) (w' : Hw) (k' n' : Nat) (kn' th' : Int32) (s' : AS), LW g w' x nA cA lA y nM o kn' kn' th' s' s' → k' ≤ k + 114 → n' ≤ n + 2834 → WP (ML_law g) QLaw (2246, [some (.ref b), some (.ref x), some (.ref y), some (.ref o), some (.int i), l5', l6'], [], w', k', n'))) : WP (ML_law g) QLaw (1825, [some (.ref b), some (.ref x), some (.ref y), some (.ref o), some (.int i), l5, l6], [], w, k, n) := by
  repeat' first
    | with_reducible assumption
    | with_reducible refine And.intro ?_ ?_
    | with_reducible refine gi_W hL hb ?_
    | with_reducible refine LW.gx hL (fun _ => trivial)
    | cases Option.some.inj (hTpc2.symm.trans hTqc2); clear hTqc2
    | cases Option.some.inj (hTpc3.symm.trans hTqc3); clear hTqc3
    | cases Option.some.inj (hTpc2.symm.trans hFqc2); clear hFqc2
    | cases Option.some.inj (hTpc3.symm.trans hFqc3); clear hFqc3
    | cases Option.some.inj (hFpc2.symm.trans hTqc2); clear hTqc2
    | cases Option.some.inj (hFpc3.symm.trans hTqc3); clear hTqc3
    | cases Option.some.inj (hFpc2.symm.trans hFqc2); clear hFqc2
    | cases Option.some.inj (hFpc3.symm.trans hFqc3); clear hFqc3
    | with_reducible exact absurd (And.intro hSqc0 hSqc1) hXpc0
    | with_reducible exact absurd (And.intro hTqc0 hTqc1) hXpc0
    | with_reducible exact absurd (And.intro hFqc0 hFqc1) hXpc0
    | with_reducible exact absurd (And.intro hSpc0 hSpc1) hXqc0
    | with_reducible exact (hSpc2.elim (fun e => nsC e hTqc2) (fun e => nsC e hTqc3)).elim
    | with_reducible exact (hSpc2.elim (fun e => nsC e hFqc2) (fun e => nsC e hFqc3)).elim
    | with_reducible exact absurd (And.intro hTpc0 hTpc1) hXqc0
    | with_reducible exact (hSqc2.elim (fun e => nsC e hTpc2) (fun e => nsC e hTpc3)).elim
    | with_reducible exact absurd hTpc4 hFqc4
    | with_reducible exact absurd (And.intro hFpc0 hFpc1) hXqc0
    | with_reducible exact (hSqc2.elim (fun e => nsC e hFpc2) (fun e => nsC e hFpc3)).elim
    | with_reducible exact absurd hTqc4 hFpc4
    | with_reducible refine fL_areSame hL (fun hXpc0 => ?_) (fun hSpc0 hSpc1 hSpc2 => ?_) (fun hTpc0 hTpc1 hTpr hTpq hTpc2 hTpc3 hTpc4 hTpw hTph hTpo => ?_) (fun hFpc0 hFpc1 hFpr hFpq hFpc2 hFpc3 hFpc4 hFpw hFph hFpo => ?_)
    | with_reducible refine fX3_areSame (LW.ms hFph) (fun hXqc0 hXqw hXqh => ?_) (fun hSqc0 hSqc1 hSqc2 hSqw hSqh => ?_) (fun hTqc0 hTqc1 hTqr hTqq hTqc2 hTqc3 hTqc4 hTqw hTqh => ?_) (fun hFqc0 hFqc1 hFqr hFqq hFqc2 hFqc3 hFqc4 hFqw hFqh => ?_)
    | with_reducible refine fX3_areSame (LW.ms hL) (fun hXqc0 hXqw hXqh => ?_) (fun hSqc0 hSqc1 hSqc2 hSqw hSqh => ?_) (fun hTqc0 hTqc1 hTqr hTqq hTqc2 hTqc3 hTqc4 hTqw hTqh => ?_) (fun hFqc0 hFqc1 hFqr hFqq hFqc2 hFqc3 hFqc4 hFqw hFqh => ?_)
    | with_reducible refine fX3_areSame (LW.ms hTph) (fun hXqc0 hXqw hXqh => ?_) (fun hSqc0 hSqc1 hSqc2 hSqw hSqh => ?_) (fun hTqc0 hTqc1 hTqr hTqq hTqc2 hTqc3 hTqc4 hTqw hTqh => ?_) (fun hFqc0 hFqc1 hFqr hFqq hFqc2 hFqc3 hFqc4 hFqw hFqh => ?_)
    | with_reducible refine LW.gz hFph (fun _ => trivial)
    | with_reducible refine gi_W hFph hb ?_
    | with_reducible refine LW.gz hL (fun _ => trivial)
    | with_reducible refine gi_W hL hb ?_
    | with_reducible refine LW.gz hTph (fun _ => trivial)
    | with_reducible refine gi_W hTph hb ?_
    | with_reducible exact next _ _ _ _ _ _ _ _ (LW.ofM hL hXqh) (by omega) (by omega)
    | with_reducible exact next _ _ _ _ _ _ _ _ (LW.ofM hL hSqh) (by omega) (by omega)
    | with_reducible exact next _ _ _ _ _ _ _ _ (LW.ofM hL hTqh) (by omega) (by omega)
    | with_reducible exact next _ _ _ _ _ _ _ _ (LW.ofM hL hFqh) (by omega) (by omega)
    | with_reducible exact next _ _ _ _ _ _ _ _ (LW.ofM hTph hXqh) (by omega) (by omega)
    | with_reducible exact next _ _ _ _ _ _ _ _ (LW.ofM hTph hSqh) (by omega) (by omega)
    | with_reducible exact next _ _ _ _ _ _ _ _ (LW.ofM hTph hTqh) (by omega) (by omega)
    | with_reducible exact next _ _ _ _ _ _ _ _ (LW.ofM hTph hFqh) (by omega) (by omega)
    | with_reducible exact next _ _ _ _ _ _ _ _ (LW.ofM hFph hXqh) (by omega) (by omega)
    | with_reducible exact next _ _ _ _ _ _ _ _ (LW.ofM hFph hSqh) (by omega) (by omega)
    | with_reducible exact next _ _ _ _ _ _ _ _ (LW.ofM hFph hTqh) (by omega) (by omega)
    | with_reducible exact next _ _ _ _ _ _ _ _ (LW.ofM hFph hFqh) (by omega) (by omega)
    | simp only [eL_law_1825, eL_law_1825N, eL_law_1826, eL_law_1826N, eL_law_1827, eL_law_1829, eL_law_1830, eL_law_1831, eL_law_1832, eL_law_1832N, eL_law_1833, eL_law_1835, eL_law_1836, eL_law_1837, eL_law_1838, eL_law_1838N, eL_law_1839RR, eL_law_1839NR, eL_law_1839RN, eL_law_1839NN, eL_law_1842, eL_law_1844, eL_law_1844N, eL_law_1845, eL_law_1845N, eL_law_1846, eL_law_1848, eL_law_1849, eL_law_1850, eL_law_1851, eL_law_1851N, eL_law_1852, eL_law_1854, eL_law_1855, eL_law_1856, eL_law_1857, eL_law_1860, eL_law_1862, ite_le, n45, n54, true_or, or_true, false_or, or_false, false_and, and_false, kx_l, kx_r, go_s, gl_s, gi_s, gb_s2, gb_s3, gq_s, wt_nil, wt_int, wt_long, wt_ref, wt_null, nl_int, nl_long, nl_ref, nl_null, nl_none, rf_n, rf_s, rf_st, tl_s, tl_n, g0, gS, ex1, nb_b, nb_0, nb_1, nf_i, nf_l, nf_ra, nf_ro, nf_na, nf_no, nf_b0, nf_z0, t45_4, t45_5, true_and, and_true, List.set_cons_zero, List.set_cons_succ, List.length_cons, List.length_nil, rd_s, upw_s, ne_eq, not_false_eq_true, Nat.zero_add, Nat.add_zero, if_true, if_false, eq_self, lgz, n12z, n2z, n3z, i00, not_true]
    | split
    | with_reducible intro _
    | omega
set_option maxHeartbeats 4000000 in
theorem cL_35 (hR : RG g) (hb : g.2 b = some (.inl (1, L, .inl xs))) (hL : LW g w x nA cA lA y nM o kn kn th s s) (v1 : vp_in (i + 1) L) (v2 : vp_in (i + 2) L) (v3 : vp_in (i + 3) L) (v4 : vp_in (i + 4) L) (v5 : vp_in (i + 5) L) (hk : k + 114 ≤ 58408) (hn : n + 2834 ≤ 1451408) (next : (∀ (l5' l6' : Option Value) (w' : Hw) (k' n' : Nat) (kn' th' : Int32) (s' : AS), LW g w' x nA cA lA y nM o kn' kn' th' s' s' → k' ≤ k + 114 → n' ≤ n + 2834 → WP (ML_law g) QLaw (2246, [some (.ref b), some (.ref x), some (.ref y), some (.ref o), some (.int i), l5', l6'], [], w', k', n'))) : WP (ML_law g) QLaw (1865, [some (.ref b), some (.ref x), some (.ref y), some (.ref o), some (.int i), l5, l6], [], w, k, n) := by
  repeat' first
    | with_reducible assumption
    | with_reducible refine And.intro ?_ ?_
    | with_reducible refine gi_W hL hb ?_
    | with_reducible refine LW.gx hL (fun _ => trivial)
    | with_reducible refine gL_isSameAs hR hL (fun v1 w1 h1 => ?_)
    | with_reducible refine gX3_isSameAs (LW.ms h1) (fun v2 t2 w2 m2 => ?_)
    | with_reducible refine LW.gz h1 (fun _ => trivial)
    | with_reducible refine gi_W h1 hb ?_
    | with_reducible exact next _ _ _ _ _ _ _ _ (LW.ofM h1 m2) (by omega) (by omega)
    | simp only [eL_law_1865, eL_law_1865N, eL_law_1866, eL_law_1866N, eL_law_1867, eL_law_1869, eL_law_1870, eL_law_1871, eL_law_1872, eL_law_1872N, eL_law_1873, eL_law_1875, eL_law_1876, eL_law_1877, eL_law_1878, eL_law_1878N, eL_law_1879RR, eL_law_1879NR, eL_law_1879RN, eL_law_1879NN, eL_law_1882, eL_law_1884, eL_law_1884N, eL_law_1885, eL_law_1885N, eL_law_1886, eL_law_1888, eL_law_1889, eL_law_1890, eL_law_1891, eL_law_1891N, eL_law_1892, eL_law_1894, eL_law_1895, eL_law_1896, eL_law_1897, eL_law_1900, eL_law_1902, ite_le, n45, n54, true_or, or_true, false_or, or_false, false_and, and_false, kx_l, kx_r, go_s, gl_s, gi_s, gb_s2, gb_s3, gq_s, wt_nil, wt_int, wt_long, wt_ref, wt_null, nl_int, nl_long, nl_ref, nl_null, nl_none, rf_n, rf_s, rf_st, tl_s, tl_n, g0, gS, ex1, nb_b, nb_0, nb_1, nf_i, nf_l, nf_ra, nf_ro, nf_na, nf_no, nf_b0, nf_z0, t45_4, t45_5, true_and, and_true, List.set_cons_zero, List.set_cons_succ, List.length_cons, List.length_nil, rd_s, upw_s, ne_eq, not_false_eq_true, Nat.zero_add, Nat.add_zero, if_true, if_false, eq_self, lgz, n12z, n2z, n3z, i00, not_true]
    | split
    | with_reducible intro _
    | omega
end
end
/-! 79.cw3.lean.txt -/
section
section
variable {g : RO} {w : Hw} {x nA cA lA y nM o b L k n : Nat} {xs : Nat → Int32} {i kn th : Int32} {s : AS} {l5 l6 : Option Value}
set_option maxHeartbeats 4000000 in
theorem cL_36 (hR : RG g) (hb : g.2 b = some (.inl (1, L, .inl xs))) (hL : LW g w x nA cA lA y nM o kn kn th s s) (v1 : vp_in (i + 1) L) (v2 : vp_in (i + 2) L) (v3 : vp_in (i + 3) L) (v4 : vp_in (i + 4) L) (v5 : vp_in (i + 5) L) (hk : k + 114 ≤ 58408) (hn : n + 2834 ≤ 1451408) (next : (∀ (l5' l6' : Option Value) (w' : Hw) (k' n' : Nat) (kn' th' : Int32) (s' : AS), LW g w' x nA cA lA y nM o kn' kn' th' s' s' → k' ≤ k + 114 → n' ≤ n + 2834 → WP (ML_law g) QLaw (2246, [some (.ref b), some (.ref x), some (.ref y), some (.ref o), some (.int i), l5', l6'], [], w', k', n'))) : WP (ML_law g) QLaw (1905, [some (.ref b), some (.ref x), some (.ref y), some (.ref o), some (.int i), l5, l6], [], w, k, n) := by
  repeat' first
    | with_reducible assumption
    | with_reducible refine And.intro ?_ ?_
    | with_reducible refine gi_W hL hb ?_
    | with_reducible refine LW.gx hL (fun _ => trivial)
    | with_reducible refine gL_likes hR hL (fun v1 w1 h1 => ?_)
    | with_reducible refine gX3_likes (LW.ms h1) (fun v2 t2 w2 m2 => ?_)
    | with_reducible refine LW.gz h1 (fun _ => trivial)
    | with_reducible refine gi_W h1 hb ?_
    | with_reducible exact next _ _ _ _ _ _ _ _ (LW.ofM h1 m2) (by omega) (by omega)
    | simp only [eL_law_1905, eL_law_1905N, eL_law_1906, eL_law_1906N, eL_law_1907, eL_law_1909, eL_law_1910, eL_law_1911, eL_law_1912, eL_law_1912N, eL_law_1913RR, eL_law_1913NR, eL_law_1913RN, eL_law_1913NN, eL_law_1916, eL_law_1918, eL_law_1918N, eL_law_1919, eL_law_1919N, eL_law_1920, eL_law_1922, eL_law_1923, eL_law_1924, eL_law_1925, eL_law_1928, eL_law_1930, ite_le, n45, n54, true_or, or_true, false_or, or_false, false_and, and_false, kx_l, kx_r, go_s, gl_s, gi_s, gb_s2, gb_s3, gq_s, wt_nil, wt_int, wt_long, wt_ref, wt_null, nl_int, nl_long, nl_ref, nl_null, nl_none, rf_n, rf_s, rf_st, tl_s, tl_n, g0, gS, ex1, nb_b, nb_0, nb_1, nf_i, nf_l, nf_ra, nf_ro, nf_na, nf_no, nf_b0, nf_z0, t45_4, t45_5, true_and, and_true, List.set_cons_zero, List.set_cons_succ, List.length_cons, List.length_nil, rd_s, upw_s, ne_eq, not_false_eq_true, Nat.zero_add, Nat.add_zero, if_true, if_false, eq_self, lgz, n12z, n2z, n3z, i00, not_true]
    | split
    | with_reducible intro _
    | omega
set_option maxHeartbeats 4000000 in
theorem cL_37 (hR : RG g) (hb : g.2 b = some (.inl (1, L, .inl xs))) (hL : LW g w x nA cA lA y nM o kn kn th s s) (v1 : vp_in (i + 1) L) (v2 : vp_in (i + 2) L) (v3 : vp_in (i + 3) L) (v4 : vp_in (i + 4) L) (v5 : vp_in (i + 5) L) (hk : k + 114 ≤ 58408) (hn : n + 2834 ≤ 1451408) (next : (∀ (l5' l6' : Option Value) (w' : Hw) (k' n' : Nat) (kn' th' : Int32) (s' : AS), LW g w' x nA cA lA y nM o kn' kn' th' s' s' → k' ≤ k + 114 → n' ≤ n + 2834 → WP (ML_law g) QLaw (2246, [some (.ref b), some (.ref x), some (.ref y), some (.ref o), some (.int i), l5', l6'], [], w', k', n'))) : WP (ML_law g) QLaw (1933, [some (.ref b), some (.ref x), some (.ref y), some (.ref o), some (.int i), l5, l6], [], w, k, n) := by
  repeat' first
    | with_reducible assumption
    | with_reducible refine And.intro ?_ ?_
    | with_reducible refine gi_W hL hb ?_
    | with_reducible refine LW.gx hL (fun _ => trivial)
    | cases Option.some.inj (hFpc1.symm.trans hFqc1); clear hFqc1
    | cases Option.some.inj (hFpc1.symm.trans hQqc1); clear hQqc1
    | cases Option.some.inj (hQpc1.symm.trans hFqc1); clear hFqc1
    | cases Option.some.inj (hQpc1.symm.trans hQqc1); clear hQqc1
    | with_reducible exact absurd hSqc0 hXpc0
    | with_reducible exact absurd hFqc0 hXpc0
    | with_reducible exact absurd hQqc0 hXpc0
    | with_reducible exact absurd hSpc0 hXqc0
    | with_reducible exact (nsC hSpc1 hFqc1).elim
    | with_reducible exact (nsC hSpc1 hQqc1).elim
    | with_reducible exact absurd hFpc0 hXqc0
    | with_reducible exact (nsC hSqc1 hFpc1).elim
    | with_reducible exact absurd hQqc2 hFpc2
    | with_reducible exact absurd hQpc0 hXqc0
    | with_reducible exact (nsC hSqc1 hQpc1).elim
    | with_reducible exact absurd hQpc2 hFqc2
    | with_reducible refine fL_lay hL (fun hXpc0 => ?_) (fun hSpc0 hSpc1 => ?_) (fun hFpc0 hFpr hFpc1 hFpc2 hFpw hFph hFpo => ?_) (fun hQpc0 hQpr hQpc1 hQpc2 hQpw hQph hQpo => ?_)
    | with_reducible refine fX3_lay (LW.ms hFph) (hR.eg (LW.ro hFph)) hR.sg (fun hXqc0 hXqw hXqh => ?_) (fun hSqc0 hSqc1 hSqw hSqh => ?_) (fun hFqc0 hFqr hFqc1 hFqc2 hFqw hFqh => ?_) (fun hQqc0 hQqr hQqc1 hQqc2 hQqw hQqh => ?_)
    | with_reducible refine fX3_lay (LW.ms hL) (hR.eg (LW.ro hL)) hR.sg (fun hXqc0 hXqw hXqh => ?_) (fun hSqc0 hSqc1 hSqw hSqh => ?_) (fun hFqc0 hFqr hFqc1 hFqc2 hFqw hFqh => ?_) (fun hQqc0 hQqr hQqc1 hQqc2 hQqw hQqh => ?_)
    | with_reducible refine fX3_lay (LW.ms hQph) (hR.eg (LW.ro hQph)) hR.sg (fun hXqc0 hXqw hXqh => ?_) (fun hSqc0 hSqc1 hSqw hSqh => ?_) (fun hFqc0 hFqr hFqc1 hFqc2 hFqw hFqh => ?_) (fun hQqc0 hQqr hQqc1 hQqc2 hQqw hQqh => ?_)
    | with_reducible refine LW.gz hFph (fun _ => trivial)
    | with_reducible refine gi_W hFph hb ?_
    | with_reducible refine LW.gz hL (fun _ => trivial)
    | with_reducible refine gi_W hL hb ?_
    | with_reducible refine LW.gz hQph (fun _ => trivial)
    | with_reducible refine gi_W hQph hb ?_
    | with_reducible exact next _ _ _ _ _ _ _ _ (LW.ofM hL hXqh) (by omega) (by omega)
    | with_reducible exact next _ _ _ _ _ _ _ _ (LW.ofM hL hSqh) (by omega) (by omega)
    | with_reducible exact next _ _ _ _ _ _ _ _ (LW.ofM hL hFqh) (by omega) (by omega)
    | with_reducible exact next _ _ _ _ _ _ _ _ (LW.ofM hL hQqh) (by omega) (by omega)
    | with_reducible exact next _ _ _ _ _ _ _ _ (LW.ofM hFph hXqh) (by omega) (by omega)
    | with_reducible exact next _ _ _ _ _ _ _ _ (LW.ofM hFph hSqh) (by omega) (by omega)
    | with_reducible exact next _ _ _ _ _ _ _ _ (LW.ofM hFph hFqh) (by omega) (by omega)
    | with_reducible exact next _ _ _ _ _ _ _ _ (LW.ofM hFph hQqh) (by omega) (by omega)
    | with_reducible exact next _ _ _ _ _ _ _ _ (LW.ofM hQph hXqh) (by omega) (by omega)
    | with_reducible exact next _ _ _ _ _ _ _ _ (LW.ofM hQph hSqh) (by omega) (by omega)
    | with_reducible exact next _ _ _ _ _ _ _ _ (LW.ofM hQph hFqh) (by omega) (by omega)
    | with_reducible exact next _ _ _ _ _ _ _ _ (LW.ofM hQph hQqh) (by omega) (by omega)
    | simp only [eL_law_1933, eL_law_1933N, eL_law_1934, eL_law_1934N, eL_law_1935, eL_law_1937, eL_law_1938, eL_law_1939, eL_law_1940, eL_law_1940N, eL_law_1941RR, eL_law_1941NR, eL_law_1941RN, eL_law_1941NN, eL_law_1944, eL_law_1946, eL_law_1946N, eL_law_1947, eL_law_1947N, eL_law_1948, eL_law_1950, eL_law_1951, eL_law_1952, eL_law_1953, eL_law_1956, eL_law_1958, ite_le, n45, n54, true_or, or_true, false_or, or_false, false_and, and_false, kx_l, kx_r, go_s, gl_s, gi_s, gb_s2, gb_s3, gq_s, wt_nil, wt_int, wt_long, wt_ref, wt_null, nl_int, nl_long, nl_ref, nl_null, nl_none, rf_n, rf_s, rf_st, tl_s, tl_n, g0, gS, ex1, nb_b, nb_0, nb_1, nf_i, nf_l, nf_ra, nf_ro, nf_na, nf_no, nf_b0, nf_z0, t45_4, t45_5, true_and, and_true, List.set_cons_zero, List.set_cons_succ, List.length_cons, List.length_nil, rd_s, upw_s, ne_eq, not_false_eq_true, Nat.zero_add, Nat.add_zero, if_true, if_false, eq_self, lgz, n12z, n2z, n3z, i00, not_true]
    | split
    | with_reducible intro _
    | omega
set_option maxHeartbeats 4000000 in
theorem cL_38 (hR : RG g) (hb : g.2 b = some (.inl (1, L, .inl xs))) (hL : LW g w x nA cA lA y nM o kn kn th s s) (v1 : vp_in (i + 1) L) (v2 : vp_in (i + 2) L) (v3 : vp_in (i + 3) L) (v4 : vp_in (i + 4) L) (v5 : vp_in (i + 5) L) (hk : k + 114 ≤ 58408) (hn : n + 2834 ≤ 1451408) (next : (∀ (l5' l6' : Option Value) (w' : Hw) (k' n' : Nat) (kn' th' : Int32) (s' : AS), LW g w' x nA cA lA y nM o kn' kn' th' s' s' → k' ≤ k + 114 → n' ≤ n + 2834 → WP (ML_law g) QLaw (2246, [some (.ref b), some (.ref x), some (.ref y), some (.ref o), some (.int i), l5', l6'], [], w', k', n'))) : WP (ML_law g) QLaw (1961, [some (.ref b), some (.ref x), some (.ref y), some (.ref o), some (.int i), l5, l6], [], w, k, n) := by
  repeat' first
    | with_reducible assumption
    | with_reducible refine And.intro ?_ ?_
    | with_reducible refine gi_W hL hb ?_
    | with_reducible refine LW.gx hL (fun _ => trivial)
    | cases Option.some.inj (hNpc1.symm.trans hQqc1); clear hQqc1
    | cases Option.some.inj (hFpc2.symm.trans hQqc1); clear hQqc1
    | cases Option.some.inj (hLLpc2.symm.trans hQqc1); clear hQqc1
    | with_reducible exact absurd hSqc0 hXpc0
    | with_reducible exact absurd hQqc0 hXpc0
    | with_reducible exact absurd hSpc0 hXqc0
    | with_reducible exact (nsC hSpc1 hQqc1).elim
    | with_reducible exact absurd hNpc0 hXqc0
    | with_reducible exact (nsC hSqc1 hNpc1).elim
    | with_reducible exact absurd hFpc1 hXqc0
    | with_reducible exact (nsC hSqc1 hFpc2).elim
    | with_reducible exact absurd hLLpc1 hXqc0
    | with_reducible exact (nsC hSqc1 hLLpc2).elim
    | with_reducible refine fL_seek hL (fun hXpc0 => ?_) (fun hSpc0 hSpc1 => ?_) (fun hNpc0 hNpr hNpc1 hNpc2 hNpw hNph hNpo => ?_) (fun hFpc0 hFpc1 hFpr hFpc2 hFpi hFpc3 hFpc4 hFpc5 hFpw hFph hFpo => ?_) (fun hLLpc0 hLLpc1 hLLpr hLLpc2 hLLpi hLLpc3 hLLpc4 hLLpc5 hLLpw hLLph hLLpo => ?_)
    | with_reducible refine fX3_seek (LW.ms hFph) (fun hXqc0 hXqw hXqh => ?_) (fun hSqc0 hSqc1 hSqw hSqh => ?_) (fun hQqc0 hQqr hQqc1 hQqw hQqh => ?_)
    | with_reducible refine fX3_seek (LW.ms hL) (fun hXqc0 hXqw hXqh => ?_) (fun hSqc0 hSqc1 hSqw hSqh => ?_) (fun hQqc0 hQqr hQqc1 hQqw hQqh => ?_)
    | with_reducible refine fX3_seek (LW.ms hLLph) (fun hXqc0 hXqw hXqh => ?_) (fun hSqc0 hSqc1 hSqw hSqh => ?_) (fun hQqc0 hQqr hQqc1 hQqw hQqh => ?_)
    | with_reducible refine fX3_seek (LW.ms hNph) (fun hXqc0 hXqw hXqh => ?_) (fun hSqc0 hSqc1 hSqw hSqh => ?_) (fun hQqc0 hQqr hQqc1 hQqw hQqh => ?_)
    | with_reducible refine LW.gz hFph (fun _ => trivial)
    | with_reducible refine gi_W hFph hb ?_
    | with_reducible refine LW.gz hL (fun _ => trivial)
    | with_reducible refine gi_W hL hb ?_
    | with_reducible refine LW.gz hLLph (fun _ => trivial)
    | with_reducible refine gi_W hLLph hb ?_
    | with_reducible refine LW.gz hNph (fun _ => trivial)
    | with_reducible refine gi_W hNph hb ?_
    | with_reducible exact next _ _ _ _ _ _ _ _ (LW.ofM hL hXqh) (by omega) (by omega)
    | with_reducible exact next _ _ _ _ _ _ _ _ (LW.ofM hL hSqh) (by omega) (by omega)
    | with_reducible exact next _ _ _ _ _ _ _ _ (LW.ofM hL hQqh) (by omega) (by omega)
    | with_reducible exact next _ _ _ _ _ _ _ _ (LW.ofM hNph hXqh) (by omega) (by omega)
    | with_reducible exact next _ _ _ _ _ _ _ _ (LW.ofM hNph hSqh) (by omega) (by omega)
    | with_reducible exact next _ _ _ _ _ _ _ _ (LW.ofM hNph hQqh) (by omega) (by omega)
    | with_reducible exact next _ _ _ _ _ _ _ _ (LW.ofM hFph hXqh) (by omega) (by omega)
    | with_reducible exact next _ _ _ _ _ _ _ _ (LW.ofM hFph hSqh) (by omega) (by omega)
    | with_reducible exact next _ _ _ _ _ _ _ _ (LW.ofM hFph hQqh) (by omega) (by omega)
    | with_reducible exact next _ _ _ _ _ _ _ _ (LW.ofM hLLph hXqh) (by omega) (by omega)
    | with_reducible exact next _ _ _ _ _ _ _ _ (LW.ofM hLLph hSqh) (by omega) (by omega)
    | with_reducible exact next _ _ _ _ _ _ _ _ (LW.ofM hLLph hQqh) (by omega) (by omega)
    | simp only [eL_law_1961, eL_law_1961N, eL_law_1962, eL_law_1962N, eL_law_1963, eL_law_1965, eL_law_1966, eL_law_1967, eL_law_1968, eL_law_1968N, eL_law_1969, eL_law_1971, eL_law_1972, eL_law_1973, eL_law_1974, eL_law_1977, eL_law_1978, eL_law_1981, eL_law_1982, eL_law_1982N, eL_law_1983RR, eL_law_1983NR, eL_law_1983RN, eL_law_1983NN, eL_law_1986, eL_law_1988, eL_law_1988N, eL_law_1989, eL_law_1989N, eL_law_1990, eL_law_1992, eL_law_1993, eL_law_1994, eL_law_1995, eL_law_1995N, eL_law_1996, eL_law_1998, eL_law_1999, eL_law_2000, eL_law_2001, eL_law_2004, eL_law_2005, eL_law_2008, eL_law_2009, eL_law_2012, eL_law_2014, ite_le, n45, n54, true_or, or_true, false_or, or_false, false_and, and_false, kx_l, kx_r, go_s, gl_s, gi_s, gb_s2, gb_s3, gq_s, wt_nil, wt_int, wt_long, wt_ref, wt_null, nl_int, nl_long, nl_ref, nl_null, nl_none, rf_n, rf_s, rf_st, tl_s, tl_n, g0, gS, ex1, nb_b, nb_0, nb_1, nf_i, nf_l, nf_ra, nf_ro, nf_na, nf_no, nf_b0, nf_z0, t45_4, t45_5, true_and, and_true, List.set_cons_zero, List.set_cons_succ, List.length_cons, List.length_nil, rd_s, upw_s, ne_eq, not_false_eq_true, Nat.zero_add, Nat.add_zero, if_true, if_false, eq_self, lgz, n12z, n2z, n3z, i00, not_true]
    | split
    | with_reducible intro _
    | omega
set_option maxHeartbeats 4000000 in
theorem cL_39 (hR : RG g) (hb : g.2 b = some (.inl (1, L, .inl xs))) (hL : LW g w x nA cA lA y nM o kn kn th s s) (v1 : vp_in (i + 1) L) (v2 : vp_in (i + 2) L) (v3 : vp_in (i + 3) L) (v4 : vp_in (i + 4) L) (v5 : vp_in (i + 5) L) (hk : k + 114 ≤ 58408) (hn : n + 2834 ≤ 1451408) (next : (∀ (l5' l6' : Option Value) (w' : Hw) (k' n' : Nat) (kn' th' : Int32) (s' : AS), LW g w' x nA cA lA y nM o kn' kn' th' s' s' → k' ≤ k + 114 → n' ≤ n + 2834 → WP (ML_law g) QLaw (2246, [some (.ref b), some (.ref x), some (.ref y), some (.ref o), some (.int i), l5', l6'], [], w', k', n'))) : WP (ML_law g) QLaw (2017, [some (.ref b), some (.ref x), some (.ref y), some (.ref o), some (.int i), l5, l6], [], w, k, n) := by
  repeat' first
    | with_reducible assumption
    | with_reducible refine And.intro ?_ ?_
    | with_reducible refine gi_W hL hb ?_
    | with_reducible refine LW.gx hL (fun _ => trivial)
    | with_reducible refine fL_howOften hL (fun hXpc0 => ?_) (fun hSpc0 hSpc1 => ?_) (fun hQpc0 hQpr hQpc1 hQpw hQph hQpo => ?_)
    | with_reducible refine gX3_howOften (LW.ms hL) (fun v2 t2 w2 m2 => ?_)
    | with_reducible refine gX3_howOften (LW.ms hQph) (fun v2 t2 w2 m2 => ?_)
    | with_reducible refine LW.gz hL (fun _ => trivial)
    | with_reducible refine gi_W hL hb ?_
    | with_reducible refine LW.gz hQph (fun _ => trivial)
    | with_reducible refine gi_W hQph hb ?_
    | with_reducible exact next _ _ _ _ _ _ _ _ (LW.ofM hL m2) (by omega) (by omega)
    | with_reducible exact next _ _ _ _ _ _ _ _ (LW.ofM hQph m2) (by omega) (by omega)
    | simp only [eL_law_2017, eL_law_2017N, eL_law_2018, eL_law_2018N, eL_law_2019, eL_law_2021, eL_law_2022, eL_law_2023, eL_law_2024, eL_law_2024N, eL_law_2025RR, eL_law_2025NR, eL_law_2025RN, eL_law_2025NN, eL_law_2028, eL_law_2030, eL_law_2030N, eL_law_2031, eL_law_2031N, eL_law_2032, eL_law_2034, eL_law_2035, eL_law_2036, eL_law_2037, eL_law_2040, eL_law_2042, ite_le, n45, n54, true_or, or_true, false_or, or_false, false_and, and_false, kx_l, kx_r, go_s, gl_s, gi_s, gb_s2, gb_s3, gq_s, wt_nil, wt_int, wt_long, wt_ref, wt_null, nl_int, nl_long, nl_ref, nl_null, nl_none, rf_n, rf_s, rf_st, tl_s, tl_n, g0, gS, ex1, nb_b, nb_0, nb_1, nf_i, nf_l, nf_ra, nf_ro, nf_na, nf_no, nf_b0, nf_z0, t45_4, t45_5, true_and, and_true, List.set_cons_zero, List.set_cons_succ, List.length_cons, List.length_nil, rd_s, upw_s, ne_eq, not_false_eq_true, Nat.zero_add, Nat.add_zero, if_true, if_false, eq_self, lgz, n12z, n2z, n3z, i00, not_true]
    | split
    | with_reducible intro _
    | omega
set_option maxHeartbeats 4000000 in
theorem cL_40 (hR : RG g) (hb : g.2 b = some (.inl (1, L, .inl xs))) (hL : LW g w x nA cA lA y nM o kn kn th s s) (v1 : vp_in (i + 1) L) (v2 : vp_in (i + 2) L) (v3 : vp_in (i + 3) L) (v4 : vp_in (i + 4) L) (v5 : vp_in (i + 5) L) (hk : k + 114 ≤ 58408) (hn : n + 2834 ≤ 1451408) (next : (∀ (l5' l6' : Option Value) (w' : Hw) (k' n' : Nat) (kn' th' : Int32) (s' : AS), LW g w' x nA cA lA y nM o kn' kn' th' s' s' → k' ≤ k + 114 → n' ≤ n + 2834 → WP (ML_law g) QLaw (2246, [some (.ref b), some (.ref x), some (.ref y), some (.ref o), some (.int i), l5', l6'], [], w', k', n'))) : WP (ML_law g) QLaw (2045, [some (.ref b), some (.ref x), some (.ref y), some (.ref o), some (.int i), l5, l6], [], w, k, n) := by
  repeat' first
    | with_reducible assumption
    | with_reducible refine And.intro ?_ ?_
    | with_reducible refine gi_W hL hb ?_
    | with_reducible refine LW.gx hL (fun _ => trivial)
    | cases Option.some.inj (hNpc1.symm.trans hNqc1); clear hNqc1
    | cases Option.some.inj (hNpc1.symm.trans hQqc1); clear hQqc1
    | cases Option.some.inj (hQpc1.symm.trans hNqc1); clear hNqc1
    | cases Option.some.inj (hQpc1.symm.trans hQqc1); clear hQqc1
    | cases fstU hQpc3 hQpc4 hQqc3 hQqc4; clear hQqc2 hQqc3 hQqc4
    | with_reducible exact absurd hSqc0 hXpc0
    | with_reducible exact absurd hNqc0 hXpc0
    | with_reducible exact absurd hQqc0 hXpc0
    | with_reducible exact absurd hSpc0 hXqc0
    | with_reducible exact (nsC hSpc1 hNqc1).elim
    | with_reducible exact (nsC hSpc1 hQqc1).elim
    | with_reducible exact absurd hNpc0 hXqc0
    | with_reducible exact (nsC hSqc1 hNpc1).elim
    | with_reducible exact absurd hQqc3 (hNpc2 _ hQqc2)
    | with_reducible exact absurd hQpc0 hXqc0
    | with_reducible exact (nsC hSqc1 hQpc1).elim
    | with_reducible exact absurd hQpc3 (hNqc2 _ hQpc2)
    | with_reducible refine fL_lift hL (fun hXpc0 => ?_) (fun hSpc0 hSpc1 => ?_) (fun hNpc0 hNpr hNpc1 hNpc2 hNpw hNph hNpo => ?_) (fun hQpc0 hQpr hQpc1 hQpi hQpc2 hQpc3 hQpc4 hQpw hQph hQpo => ?_)
    | with_reducible refine fX3_lift (LW.ms hL) (fun hXqc0 hXqw hXqh => ?_) (fun hSqc0 hSqc1 hSqw hSqh => ?_) (fun hNqc0 hNqr hNqc1 hNqc2 hNqw hNqh => ?_) (fun hQqc0 hQqr hQqc1 hQqi hQqc2 hQqc3 hQqc4 hQqw hQqh => ?_)
    | with_reducible refine fX3_lift (LW.ms hNph) (fun hXqc0 hXqw hXqh => ?_) (fun hSqc0 hSqc1 hSqw hSqh => ?_) (fun hNqc0 hNqr hNqc1 hNqc2 hNqw hNqh => ?_) (fun hQqc0 hQqr hQqc1 hQqi hQqc2 hQqc3 hQqc4 hQqw hQqh => ?_)
    | with_reducible refine fX3_lift (LW.ms hQph) (fun hXqc0 hXqw hXqh => ?_) (fun hSqc0 hSqc1 hSqw hSqh => ?_) (fun hNqc0 hNqr hNqc1 hNqc2 hNqw hNqh => ?_) (fun hQqc0 hQqr hQqc1 hQqi hQqc2 hQqc3 hQqc4 hQqw hQqh => ?_)
    | with_reducible refine LW.gz hL (fun _ => trivial)
    | with_reducible refine gi_W hL hb ?_
    | with_reducible refine LW.gz hNph (fun _ => trivial)
    | with_reducible refine gi_W hNph hb ?_
    | with_reducible refine LW.gz hQph (fun _ => trivial)
    | with_reducible refine gi_W hQph hb ?_
    | with_reducible exact next _ _ _ _ _ _ _ _ (LW.ofM hL hXqh) (by omega) (by omega)
    | with_reducible exact next _ _ _ _ _ _ _ _ (LW.ofM hL hSqh) (by omega) (by omega)
    | with_reducible exact next _ _ _ _ _ _ _ _ (LW.ofM hL hNqh) (by omega) (by omega)
    | with_reducible exact next _ _ _ _ _ _ _ _ (LW.ofM hL hQqh) (by omega) (by omega)
    | with_reducible exact next _ _ _ _ _ _ _ _ (LW.ofM hNph hXqh) (by omega) (by omega)
    | with_reducible exact next _ _ _ _ _ _ _ _ (LW.ofM hNph hSqh) (by omega) (by omega)
    | with_reducible exact next _ _ _ _ _ _ _ _ (LW.ofM hNph hNqh) (by omega) (by omega)
    | with_reducible exact next _ _ _ _ _ _ _ _ (LW.ofM hNph hQqh) (by omega) (by omega)
    | with_reducible exact next _ _ _ _ _ _ _ _ (LW.ofM hQph hXqh) (by omega) (by omega)
    | with_reducible exact next _ _ _ _ _ _ _ _ (LW.ofM hQph hSqh) (by omega) (by omega)
    | with_reducible exact next _ _ _ _ _ _ _ _ (LW.ofM hQph hNqh) (by omega) (by omega)
    | with_reducible exact next _ _ _ _ _ _ _ _ (LW.ofM hQph hQqh) (by omega) (by omega)
    | simp only [eL_law_2045, eL_law_2045N, eL_law_2046, eL_law_2046N, eL_law_2047, eL_law_2049, eL_law_2050, eL_law_2051, eL_law_2052, eL_law_2052N, eL_law_2053RR, eL_law_2053NR, eL_law_2053RN, eL_law_2053NN, eL_law_2056, eL_law_2058, eL_law_2058N, eL_law_2059, eL_law_2059N, eL_law_2060, eL_law_2062, eL_law_2063, eL_law_2064, eL_law_2065, eL_law_2068, eL_law_2070, ite_le, n45, n54, true_or, or_true, false_or, or_false, false_and, and_false, kx_l, kx_r, go_s, gl_s, gi_s, gb_s2, gb_s3, gq_s, wt_nil, wt_int, wt_long, wt_ref, wt_null, nl_int, nl_long, nl_ref, nl_null, nl_none, rf_n, rf_s, rf_st, tl_s, tl_n, g0, gS, ex1, nb_b, nb_0, nb_1, nf_i, nf_l, nf_ra, nf_ro, nf_na, nf_no, nf_b0, nf_z0, t45_4, t45_5, true_and, and_true, List.set_cons_zero, List.set_cons_succ, List.length_cons, List.length_nil, rd_s, upw_s, ne_eq, not_false_eq_true, Nat.zero_add, Nat.add_zero, if_true, if_false, eq_self, lgz, n12z, n2z, n3z, i00, not_true]
    | split
    | with_reducible intro _
    | omega
set_option maxHeartbeats 4000000 in
theorem cL_41 (hR : RG g) (hb : g.2 b = some (.inl (1, L, .inl xs))) (hL : LW g w x nA cA lA y nM o kn kn th s s) (v1 : vp_in (i + 1) L) (v2 : vp_in (i + 2) L) (v3 : vp_in (i + 3) L) (v4 : vp_in (i + 4) L) (v5 : vp_in (i + 5) L) (hk : k + 114 ≤ 58408) (hn : n + 2834 ≤ 1451408) (next : (∀ (l5' l6' : Option Value) (w' : Hw) (k' n' : Nat) (kn' th' : Int32) (s' : AS), LW g w' x nA cA lA y nM o kn' kn' th' s' s' → k' ≤ k + 114 → n' ≤ n + 2834 → WP (ML_law g) QLaw (2246, [some (.ref b), some (.ref x), some (.ref y), some (.ref o), some (.int i), l5', l6'], [], w', k', n'))) : WP (ML_law g) QLaw (2073, [some (.ref b), some (.ref x), some (.ref y), some (.ref o), some (.int i), l5, l6], [], w, k, n) := by
  repeat' first
    | with_reducible assumption
    | with_reducible refine And.intro ?_ ?_
    | with_reducible refine gi_W hL hb ?_
    | with_reducible refine LW.gx hL (fun _ => trivial)
    | cases Option.some.inj (hSpc2.symm.trans hSqc2); clear hSqc2
    | with_reducible exact absurd (And.intro hNqc0 hNqc1) hXpc0
    | with_reducible exact absurd (And.intro hSqc0 hSqc1) hXpc0
    | with_reducible exact absurd (And.intro hNpc0 hNpc1) hXqc0
    | with_reducible exact (nsC hNpc2 hSqc2).elim
    | with_reducible exact absurd (And.intro hSpc0 hSpc1) hXqc0
    | with_reducible exact (nsC hNqc2 hSpc2).elim
    | with_reducible refine fL_pick hL (fun hXpc0 => ?_) (fun hNpc0 hNpc1 hNpc2 hNpw hNph hNpo => ?_) (fun hSpc0 hSpc1 hSpr hSpc2 hSpw hSph hSpo => ?_)
    | with_reducible refine fX3_pick (LW.ms hL) (fun hXqc0 hXqw hXqh => ?_) (fun hNqc0 hNqc1 hNqc2 hNqw hNqh => ?_) (fun hSqc0 hSqc1 hSqr hSqc2 hSqw hSqh => ?_)
    | with_reducible refine fX3_pick (LW.ms hNph) (fun hXqc0 hXqw hXqh => ?_) (fun hNqc0 hNqc1 hNqc2 hNqw hNqh => ?_) (fun hSqc0 hSqc1 hSqr hSqc2 hSqw hSqh => ?_)
    | with_reducible refine fX3_pick (LW.ms hSph) (fun hXqc0 hXqw hXqh => ?_) (fun hNqc0 hNqc1 hNqc2 hNqw hNqh => ?_) (fun hSqc0 hSqc1 hSqr hSqc2 hSqw hSqh => ?_)
    | with_reducible refine LW.gz hL (fun _ => trivial)
    | with_reducible refine gi_W hL hb ?_
    | with_reducible refine LW.gz hNph (fun _ => trivial)
    | with_reducible refine gi_W hNph hb ?_
    | with_reducible refine LW.gz hSph (fun _ => trivial)
    | with_reducible refine gi_W hSph hb ?_
    | with_reducible exact next _ _ _ _ _ _ _ _ (LW.ofM hL hXqh) (by omega) (by omega)
    | with_reducible exact next _ _ _ _ _ _ _ _ (LW.ofM hL hNqh) (by omega) (by omega)
    | with_reducible exact next _ _ _ _ _ _ _ _ (LW.ofM hL hSqh) (by omega) (by omega)
    | with_reducible exact next _ _ _ _ _ _ _ _ (LW.ofM hNph hXqh) (by omega) (by omega)
    | with_reducible exact next _ _ _ _ _ _ _ _ (LW.ofM hNph hNqh) (by omega) (by omega)
    | with_reducible exact next _ _ _ _ _ _ _ _ (LW.ofM hNph hSqh) (by omega) (by omega)
    | with_reducible exact next _ _ _ _ _ _ _ _ (LW.ofM hSph hXqh) (by omega) (by omega)
    | with_reducible exact next _ _ _ _ _ _ _ _ (LW.ofM hSph hNqh) (by omega) (by omega)
    | with_reducible exact next _ _ _ _ _ _ _ _ (LW.ofM hSph hSqh) (by omega) (by omega)
    | simp only [eL_law_2073, eL_law_2073N, eL_law_2074, eL_law_2074N, eL_law_2075, eL_law_2077, eL_law_2078, eL_law_2079, eL_law_2080, eL_law_2080N, eL_law_2081, eL_law_2083, eL_law_2084, eL_law_2085, eL_law_2086, eL_law_2086N, eL_law_2087RR, eL_law_2087NR, eL_law_2087RN, eL_law_2087NN, eL_law_2090, eL_law_2092, eL_law_2092N, eL_law_2093, eL_law_2093N, eL_law_2094, eL_law_2096, eL_law_2097, eL_law_2098, eL_law_2099, eL_law_2099N, eL_law_2100, eL_law_2102, eL_law_2103, eL_law_2104, eL_law_2105, eL_law_2108, eL_law_2110, ite_le, n45, n54, true_or, or_true, false_or, or_false, false_and, and_false, kx_l, kx_r, go_s, gl_s, gi_s, gb_s2, gb_s3, gq_s, wt_nil, wt_int, wt_long, wt_ref, wt_null, nl_int, nl_long, nl_ref, nl_null, nl_none, rf_n, rf_s, rf_st, tl_s, tl_n, g0, gS, ex1, nb_b, nb_0, nb_1, nf_i, nf_l, nf_ra, nf_ro, nf_na, nf_no, nf_b0, nf_z0, t45_4, t45_5, true_and, and_true, List.set_cons_zero, List.set_cons_succ, List.length_cons, List.length_nil, rd_s, upw_s, ne_eq, not_false_eq_true, Nat.zero_add, Nat.add_zero, if_true, if_false, eq_self, lgz, n12z, n2z, n3z, i00, not_true]
    | split
    | with_reducible intro _
    | omega
set_option maxHeartbeats 4000000 in
theorem cL_42 (hR : RG g) (hb : g.2 b = some (.inl (1, L, .inl xs))) (hL : LW g w x nA cA lA y nM o kn kn th s s) (v1 : vp_in (i + 1) L) (v2 : vp_in (i + 2) L) (v3 : vp_in (i + 3) L) (v4 : vp_in (i + 4) L) (v5 : vp_in (i + 5) L) (hk : k + 114 ≤ 58408) (hn : n + 2834 ≤ 1451408) (next : (∀ (l5' l6' : Option Value) (w' : Hw) (k' n' : Nat) (kn' th' : Int32) (s' : AS), LW g w' x nA cA lA y nM o kn' kn' th' s' s' → k' ≤ k + 114 → n' ≤ n + 2834 → WP (ML_law g) QLaw (2246, [some (.ref b), some (.ref x), some (.ref y), some (.ref o), some (.int i), l5', l6'], [], w', k', n'))) : WP (ML_law g) QLaw (2113, [some (.ref b), some (.ref x), some (.ref y), some (.ref o), some (.int i), l5, l6], [], w, k, n) := by
  repeat' first
    | with_reducible assumption
    | with_reducible refine And.intro ?_ ?_
    | with_reducible refine gi_W hL hb ?_
    | with_reducible refine LW.gx hL (fun _ => trivial)
    | with_reducible refine fX1_turn hL.cs (fun w1 c1 => ?_)
    | with_reducible refine fX3_turn (LW.ms (hL.of c1 hL.ok.tur)) (hR.eg (LW.ro (hL.of c1 hL.ok.tur))) hR.sg (fun hQqw hQqh => ?_)
    | with_reducible refine LW.gz (hL.of c1 hL.ok.tur) (fun _ => trivial)
    | with_reducible refine gi_W (hL.of c1 hL.ok.tur) hb ?_
    | with_reducible exact next _ _ _ _ _ _ _ _ (LW.ofM (hL.of c1 hL.ok.tur) hQqh) (by omega) (by omega)
    | simp only [eL_law_2113, eL_law_2113N, eL_law_2114, eL_law_2117, eL_law_2117R, eL_law_2117N, eL_law_2118, eL_law_2118N, eL_law_2119, eL_law_2122, eL_law_2122R, eL_law_2122N, eL_law_2123, ite_le, n45, n54, true_or, or_true, false_or, or_false, false_and, and_false, kx_l, kx_r, go_s, gl_s, gi_s, gb_s2, gb_s3, gq_s, wt_nil, wt_int, wt_long, wt_ref, wt_null, nl_int, nl_long, nl_ref, nl_null, nl_none, rf_n, rf_s, rf_st, tl_s, tl_n, g0, gS, ex1, nb_b, nb_0, nb_1, nf_i, nf_l, nf_ra, nf_ro, nf_na, nf_no, nf_b0, nf_z0, t45_4, t45_5, true_and, and_true, List.set_cons_zero, List.set_cons_succ, List.length_cons, List.length_nil, rd_s, upw_s, ne_eq, not_false_eq_true, Nat.zero_add, Nat.add_zero, if_true, if_false, eq_self, lgz, n12z, n2z, n3z, i00, not_true]
    | split
    | with_reducible intro _
    | omega
set_option maxHeartbeats 4000000 in
theorem cL_43 (hR : RG g) (hb : g.2 b = some (.inl (1, L, .inl xs))) (hL : LW g w x nA cA lA y nM o kn kn th s s) (v1 : vp_in (i + 1) L) (v2 : vp_in (i + 2) L) (v3 : vp_in (i + 3) L) (v4 : vp_in (i + 4) L) (v5 : vp_in (i + 5) L) (hk : k + 114 ≤ 58408) (hn : n + 2834 ≤ 1451408) (next : (∀ (l5' l6' : Option Value) (w' : Hw) (k' n' : Nat) (kn' th' : Int32) (s' : AS), LW g w' x nA cA lA y nM o kn' kn' th' s' s' → k' ≤ k + 114 → n' ≤ n + 2834 → WP (ML_law g) QLaw (2246, [some (.ref b), some (.ref x), some (.ref y), some (.ref o), some (.int i), l5', l6'], [], w', k', n'))) : WP (ML_law g) QLaw (2126, [some (.ref b), some (.ref x), some (.ref y), some (.ref o), some (.int i), l5, l6], [], w, k, n) := by
  repeat' first
    | with_reducible assumption
    | with_reducible refine And.intro ?_ ?_
    | with_reducible refine gi_W hL hb ?_
    | with_reducible refine LW.gx hL (fun _ => trivial)
    | with_reducible refine fX1_sweep hL.cs (fun w1 c1 => ?_)
    | with_reducible refine fX3_sweep (LW.ms (hL.of (c1 s.2.2.2.1) hL.ok.zero)) (hR.eg (LW.ro (hL.of (c1 s.2.2.2.1) hL.ok.zero))) hR.sg (fun hQqw hQqh => ?_)
    | with_reducible refine LW.gz (hL.of (c1 s.2.2.2.1) hL.ok.zero) (fun _ => trivial)
    | with_reducible refine gi_W (hL.of (c1 s.2.2.2.1) hL.ok.zero) hb ?_
    | with_reducible exact next _ _ _ _ _ _ _ _ (LW.ofM (hL.of (c1 s.2.2.2.1) hL.ok.zero) (hQqh s.2.2.2.1)) (by omega) (by omega)
    | simp only [eL_law_2126, eL_law_2126N, eL_law_2127, eL_law_2130, eL_law_2130R, eL_law_2130N, eL_law_2131, eL_law_2131N, eL_law_2132, eL_law_2135, eL_law_2135R, eL_law_2135N, eL_law_2136, ite_le, n45, n54, true_or, or_true, false_or, or_false, false_and, and_false, kx_l, kx_r, go_s, gl_s, gi_s, gb_s2, gb_s3, gq_s, wt_nil, wt_int, wt_long, wt_ref, wt_null, nl_int, nl_long, nl_ref, nl_null, nl_none, rf_n, rf_s, rf_st, tl_s, tl_n, g0, gS, ex1, nb_b, nb_0, nb_1, nf_i, nf_l, nf_ra, nf_ro, nf_na, nf_no, nf_b0, nf_z0, t45_4, t45_5, true_and, and_true, List.set_cons_zero, List.set_cons_succ, List.length_cons, List.length_nil, rd_s, upw_s, ne_eq, not_false_eq_true, Nat.zero_add, Nat.add_zero, if_true, if_false, eq_self, lgz, n12z, n2z, n3z, i00, not_true]
    | split
    | with_reducible intro _
    | omega
set_option maxHeartbeats 4000000 in
theorem cL_44 (hR : RG g) (hb : g.2 b = some (.inl (1, L, .inl xs))) (hL : LW g w x nA cA lA y nM o kn kn th s s) (v1 : vp_in (i + 1) L) (v2 : vp_in (i + 2) L) (v3 : vp_in (i + 3) L) (v4 : vp_in (i + 4) L) (v5 : vp_in (i + 5) L) (hk : k + 114 ≤ 58408) (hn : n + 2834 ≤ 1451408) (next : (∀ (l5' l6' : Option Value) (w' : Hw) (k' n' : Nat) (kn' th' : Int32) (s' : AS), LW g w' x nA cA lA y nM o kn' kn' th' s' s' → k' ≤ k + 114 → n' ≤ n + 2834 → WP (ML_law g) QLaw (2246, [some (.ref b), some (.ref x), some (.ref y), some (.ref o), some (.int i), l5', l6'], [], w', k', n'))) : WP (ML_law g) QLaw (2139, [some (.ref b), some (.ref x), some (.ref y), some (.ref o), some (.int i), l5, l6], [], w, k, n) := by
  repeat' first
    | with_reducible assumption
    | with_reducible refine And.intro ?_ ?_
    | with_reducible refine gi_W hL hb ?_
    | with_reducible refine LW.gx hL (fun _ => trivial)
    | with_reducible refine gL_pile hR hL (fun v1 w1 h1 => ?_)
    | with_reducible refine gX3_pile (LW.ms h1) (fun v2 t2 w2 m2 => ?_)
    | with_reducible refine LW.gz h1 (fun _ => trivial)
    | with_reducible refine gi_W h1 hb ?_
    | with_reducible exact next _ _ _ _ _ _ _ _ (LW.ofM h1 m2) (by omega) (by omega)
    | simp only [eL_law_2139, eL_law_2139N, eL_law_2140, eL_law_2140N, eL_law_2141, eL_law_2143, eL_law_2144, eL_law_2145, eL_law_2146, eL_law_2146N, eL_law_2147, eL_law_2149, eL_law_2150, eL_law_2151, eL_law_2152, eL_law_2152N, eL_law_2153RR, eL_law_2153NR, eL_law_2153RN, eL_law_2153NN, eL_law_2156, eL_law_2158, eL_law_2158N, eL_law_2159, eL_law_2159N, eL_law_2160, eL_law_2162, eL_law_2163, eL_law_2164, eL_law_2165, eL_law_2165N, eL_law_2166, eL_law_2168, eL_law_2169, eL_law_2170, eL_law_2171, eL_law_2174, eL_law_2176, ite_le, n45, n54, true_or, or_true, false_or, or_false, false_and, and_false, kx_l, kx_r, go_s, gl_s, gi_s, gb_s2, gb_s3, gq_s, wt_nil, wt_int, wt_long, wt_ref, wt_null, nl_int, nl_long, nl_ref, nl_null, nl_none, rf_n, rf_s, rf_st, tl_s, tl_n, g0, gS, ex1, nb_b, nb_0, nb_1, nf_i, nf_l, nf_ra, nf_ro, nf_na, nf_no, nf_b0, nf_z0, t45_4, t45_5, true_and, and_true, List.set_cons_zero, List.set_cons_succ, List.length_cons, List.length_nil, rd_s, upw_s, ne_eq, not_false_eq_true, Nat.zero_add, Nat.add_zero, if_true, if_false, eq_self, lgz, n12z, n2z, n3z, i00, not_true]
    | split
    | with_reducible intro _
    | omega
set_option maxHeartbeats 4000000 in
theorem cL_45 (hR : RG g) (hb : g.2 b = some (.inl (1, L, .inl xs))) (hL : LW g w x nA cA lA y nM o kn kn th s s) (v1 : vp_in (i + 1) L) (v2 : vp_in (i + 2) L) (v3 : vp_in (i + 3) L) (v4 : vp_in (i + 4) L) (v5 : vp_in (i + 5) L) (hk : k + 114 ≤ 58408) (hn : n + 2834 ≤ 1451408) (next : (∀ (l5' l6' : Option Value) (w' : Hw) (k' n' : Nat) (kn' th' : Int32) (s' : AS), LW g w' x nA cA lA y nM o kn' kn' th' s' s' → k' ≤ k + 114 → n' ≤ n + 2834 → WP (ML_law g) QLaw (2246, [some (.ref b), some (.ref x), some (.ref y), some (.ref o), some (.int i), l5', l6'], [], w', k', n'))) : WP (ML_law g) QLaw (2179, [some (.ref b), some (.ref x), some (.ref y), some (.ref o), some (.int i), l5, l6], [], w, k, n) := by
  repeat' first
    | with_reducible assumption
    | with_reducible refine And.intro ?_ ?_
    | with_reducible refine gi_W hL hb ?_
    | with_reducible refine LW.gx hL (fun _ => trivial)
    | with_reducible refine gL_house hR hL (fun v1 w1 h1 => ?_)
    | with_reducible refine gX3_house (LW.ms h1) (fun v2 t2 w2 m2 => ?_)
    | with_reducible refine LW.gz h1 (fun _ => trivial)
    | with_reducible refine gi_W h1 hb ?_
    | with_reducible exact next _ _ _ _ _ _ _ _ (LW.ofM h1 m2) (by omega) (by omega)
    | simp only [eL_law_2179, eL_law_2179N, eL_law_2180, eL_law_2180N, eL_law_2181, eL_law_2183, eL_law_2184, eL_law_2185, eL_law_2186, eL_law_2186N, eL_law_2187RR, eL_law_2187NR, eL_law_2187RN, eL_law_2187NN, eL_law_2190, eL_law_2192, eL_law_2192N, eL_law_2193, eL_law_2193N, eL_law_2194, eL_law_2196, eL_law_2197, eL_law_2198, eL_law_2199, eL_law_2202, eL_law_2204, ite_le, n45, n54, true_or, or_true, false_or, or_false, false_and, and_false, kx_l, kx_r, go_s, gl_s, gi_s, gb_s2, gb_s3, gq_s, wt_nil, wt_int, wt_long, wt_ref, wt_null, nl_int, nl_long, nl_ref, nl_null, nl_none, rf_n, rf_s, rf_st, tl_s, tl_n, g0, gS, ex1, nb_b, nb_0, nb_1, nf_i, nf_l, nf_ra, nf_ro, nf_na, nf_no, nf_b0, nf_z0, t45_4, t45_5, true_and, and_true, List.set_cons_zero, List.set_cons_succ, List.length_cons, List.length_nil, rd_s, upw_s, ne_eq, not_false_eq_true, Nat.zero_add, Nat.add_zero, if_true, if_false, eq_self, lgz, n12z, n2z, n3z, i00, not_true]
    | split
    | with_reducible intro _
    | omega
set_option maxHeartbeats 4000000 in
theorem cL_46 (hR : RG g) (hb : g.2 b = some (.inl (1, L, .inl xs))) (hL : LW g w x nA cA lA y nM o kn kn th s s) (v1 : vp_in (i + 1) L) (v2 : vp_in (i + 2) L) (v3 : vp_in (i + 3) L) (v4 : vp_in (i + 4) L) (v5 : vp_in (i + 5) L) (hk : k + 114 ≤ 58408) (hn : n + 2834 ≤ 1451408) (next : (∀ (l5' l6' : Option Value) (w' : Hw) (k' n' : Nat) (kn' th' : Int32) (s' : AS), LW g w' x nA cA lA y nM o kn' kn' th' s' s' → k' ≤ k + 114 → n' ≤ n + 2834 → WP (ML_law g) QLaw (2246, [some (.ref b), some (.ref x), some (.ref y), some (.ref o), some (.int i), l5', l6'], [], w', k', n'))) : WP (ML_law g) QLaw (2207, [some (.ref b), some (.ref x), some (.ref y), some (.ref o), some (.int i), l5, l6], [], w, k, n) := by
  repeat' first
    | with_reducible assumption
    | with_reducible refine And.intro ?_ ?_
    | with_reducible refine gi_W hL hb ?_
    | with_reducible refine LW.gx hL (fun _ => trivial)
    | with_reducible refine fX1_knock hL.cs (fun w1 c1 => ?_)
    | with_reducible refine fX3_knock (LW.ms (hL.of c1 hL.ok)) (fun hQqw hQqh => ?_)
    | with_reducible refine LW.gz (hL.of c1 hL.ok) (fun _ => trivial)
    | with_reducible refine gi_W (hL.of c1 hL.ok) hb ?_
    | with_reducible exact next _ _ _ _ _ _ _ _ (LW.ofM (hL.of c1 hL.ok) hQqh) (by omega) (by omega)
    | simp only [eL_law_2207, eL_law_2207N, eL_law_2208, eL_law_2211, eL_law_2211R, eL_law_2211N, eL_law_2212, eL_law_2212N, eL_law_2213, eL_law_2216, eL_law_2216R, eL_law_2216N, eL_law_2217, ite_le, n45, n54, true_or, or_true, false_or, or_false, false_and, and_false, kx_l, kx_r, go_s, gl_s, gi_s, gb_s2, gb_s3, gq_s, wt_nil, wt_int, wt_long, wt_ref, wt_null, nl_int, nl_long, nl_ref, nl_null, nl_none, rf_n, rf_s, rf_st, tl_s, tl_n, g0, gS, ex1, nb_b, nb_0, nb_1, nf_i, nf_l, nf_ra, nf_ro, nf_na, nf_no, nf_b0, nf_z0, t45_4, t45_5, true_and, and_true, List.set_cons_zero, List.set_cons_succ, List.length_cons, List.length_nil, rd_s, upw_s, ne_eq, not_false_eq_true, Nat.zero_add, Nat.add_zero, if_true, if_false, eq_self, lgz, n12z, n2z, n3z, i00, not_true]
    | split
    | with_reducible intro _
    | omega
set_option maxHeartbeats 4000000 in
theorem cL_47 (hR : RG g) (hb : g.2 b = some (.inl (1, L, .inl xs))) (hL : LW g w x nA cA lA y nM o kn kn th s s) (v1 : vp_in (i + 1) L) (v2 : vp_in (i + 2) L) (v3 : vp_in (i + 3) L) (v4 : vp_in (i + 4) L) (v5 : vp_in (i + 5) L) (hk : k + 114 ≤ 58408) (hn : n + 2834 ≤ 1451408) (next : (∀ (l5' l6' : Option Value) (w' : Hw) (k' n' : Nat) (kn' th' : Int32) (s' : AS), LW g w' x nA cA lA y nM o kn' kn' th' s' s' → k' ≤ k + 114 → n' ≤ n + 2834 → WP (ML_law g) QLaw (2246, [some (.ref b), some (.ref x), some (.ref y), some (.ref o), some (.int i), l5', l6'], [], w', k', n'))) : WP (ML_law g) QLaw (2220, [some (.ref b), some (.ref x), some (.ref y), some (.ref o), some (.int i), l5, l6], [], w, k, n) := by
  repeat' first
    | with_reducible assumption
    | with_reducible refine And.intro ?_ ?_
    | with_reducible refine gi_W hL hb ?_
    | with_reducible refine LW.gx hL (fun _ => trivial)
    | with_reducible refine fX1_isSound hL.cs hL.ok (fun w1 k1 => ?_)
    | with_reducible refine fX3_isSound (LW.ms (hL.ext k1)) (fun hQqw hQqh => ?_)
    | with_reducible refine LW.gz (hL.ext k1) (fun _ => trivial)
    | with_reducible refine gi_W (hL.ext k1) hb ?_
    | with_reducible exact next _ _ _ _ _ _ _ _ (LW.ofM (hL.ext k1) hQqh) (by omega) (by omega)
    | simp only [eL_law_2220, eL_law_2220N, eL_law_2221, eL_law_2224, eL_law_2224R, eL_law_2224N, eL_law_2225, eL_law_2225N, eL_law_2226, eL_law_2229, eL_law_2229R, eL_law_2229N, eL_law_2230, ite_le, n45, n54, true_or, or_true, false_or, or_false, false_and, and_false, kx_l, kx_r, go_s, gl_s, gi_s, gb_s2, gb_s3, gq_s, wt_nil, wt_int, wt_long, wt_ref, wt_null, nl_int, nl_long, nl_ref, nl_null, nl_none, rf_n, rf_s, rf_st, tl_s, tl_n, g0, gS, ex1, nb_b, nb_0, nb_1, nf_i, nf_l, nf_ra, nf_ro, nf_na, nf_no, nf_b0, nf_z0, t45_4, t45_5, true_and, and_true, List.set_cons_zero, List.set_cons_succ, List.length_cons, List.length_nil, rd_s, upw_s, ne_eq, not_false_eq_true, Nat.zero_add, Nat.add_zero, if_true, if_false, eq_self, lgz, n12z, n2z, n3z, i00, not_true]
    | split
    | with_reducible intro _
    | omega
end
end
/-! 79.cw4.lean.txt -/
section
section
variable {g : RO} {w : Hw} {x nA cA lA y nM o b L k n : Nat} {xs : Nat → Int32} {i kn th : Int32} {s : AS} {l5 l6 : Option Value}
set_option maxHeartbeats 4000000 in
theorem cL_48 (hR : RG g) (hb : g.2 b = some (.inl (1, L, .inl xs))) (hL : LW g w x nA cA lA y nM o kn kn th s s) (v1 : vp_in (i + 1) L) (v2 : vp_in (i + 2) L) (v3 : vp_in (i + 3) L) (v4 : vp_in (i + 4) L) (v5 : vp_in (i + 5) L) (hk : k + 114 ≤ 58408) (hn : n + 2834 ≤ 1451408) (next : (∀ (l5' l6' : Option Value) (w' : Hw) (k' n' : Nat) (kn' th' : Int32) (s' : AS), LW g w' x nA cA lA y nM o kn' kn' th' s' s' → k' ≤ k + 114 → n' ≤ n + 2834 → WP (ML_law g) QLaw (2246, [some (.ref b), some (.ref x), some (.ref y), some (.ref o), some (.int i), l5', l6'], [], w', k', n'))) : WP (ML_law g) QLaw (2233, [some (.ref b), some (.ref x), some (.ref y), some (.ref o), some (.int i), l5, l6], [], w, k, n) := by
  repeat' first
    | with_reducible assumption
    | with_reducible refine And.intro ?_ ?_
    | with_reducible refine gi_W hL hb ?_
    | with_reducible refine LW.gx hL (fun _ => trivial)
    | with_reducible refine sX1_digest hL.cc (fun v1 w1 k1 => ?_)
    | with_reducible refine gX3_digest (LW.ms (hL.ext k1)) (fun v2 t2 w2 m2 => ?_)
    | with_reducible refine LW.gz (hL.ext k1) (fun _ => trivial)
    | with_reducible refine gi_W (hL.ext k1) hb ?_
    | with_reducible exact next _ _ _ _ _ _ _ _ (LW.ofM (hL.ext k1) m2) (by omega) (by omega)
    | simp only [eL_law_2233, eL_law_2233N, eL_law_2234, eL_law_2237, eL_law_2238, eL_law_2238N, eL_law_2239, eL_law_2242, eL_law_2243, ite_le, n45, n54, true_or, or_true, false_or, or_false, false_and, and_false, kx_l, kx_r, go_s, gl_s, gi_s, gb_s2, gb_s3, gq_s, wt_nil, wt_int, wt_long, wt_ref, wt_null, nl_int, nl_long, nl_ref, nl_null, nl_none, rf_n, rf_s, rf_st, tl_s, tl_n, g0, gS, ex1, nb_b, nb_0, nb_1, nf_i, nf_l, nf_ra, nf_ro, nf_na, nf_no, nf_b0, nf_z0, t45_4, t45_5, true_and, and_true, List.set_cons_zero, List.set_cons_succ, List.length_cons, List.length_nil, rd_s, upw_s, ne_eq, not_false_eq_true, Nat.zero_add, Nat.add_zero, if_true, if_false, eq_self, lgz, n12z, n2z, n3z, i00, not_true]
    | split
    | with_reducible intro _
    | omega
end
end
/-! 79.loop.lean.txt -/
section
section
variable {g : RO} {w : Hw} {x nA cA lA y nM o b L k n : Nat} {xs : Nat → Int32} {i kn th : Int32} {s : AS} {l5 l6 : Option Value}
/-! THE LAW: its loop -/
theorem sw63 (a : Int32) : ∃ m : Nat, m < 64 ∧ a &&& 63 = Int32.ofNat m := by
  refine ⟨(a &&& 63).toBitVec.toNat, ?_, ?_⟩
  · rw [Int32.toBitVec_and, BitVec.toNat_and]
    exact Nat.lt_of_le_of_lt Nat.and_le_right (by decide)
  · apply Int32.toBitVec_inj.mp
    show (a &&& 63).toBitVec = BitVec.ofNat 32 _
    rw [BitVec.ofNat_toNat, BitVec.setWidth_eq]
theorem bud {k k' j c K : Nat} (h : k ≤ K + c * j) (h' : k' ≤ k + c) : k' ≤ K + c * (j + 1) := by
  rw [Nat.mul_succ]
  omega
theorem ofL (h : L ≤ 3072) : (Int32.ofNat L).toInt = (L : Int) := nI_toInt (by omega)
theorem ofL6 (h : L ≤ 3072) : (Int32.ofNat L - 6).toInt = (L : Int) - 6 := by
  have e := ofL h
  have z : (6 : Int32).toInt = 6 := rfl
  rw [i32_sub (by omega) (by omega), e, z]
theorem ad6 {c : Int32} (h0 : 0 ≤ i.toInt) (h1 : i.toInt ≤ 3072) (c0 : 0 ≤ c.toInt) (c1 : c.toInt ≤ 6) : (i + c).toInt = i.toInt + c.toInt := i32_add (by omega) (by omega)
theorem vp6 {c : Int32} (hL3 : L ≤ 3072) (h0 : 0 ≤ i.toInt) (h1 : i.toInt + 6 ≤ (L : Int)) (c0 : 0 ≤ c.toInt) (c1 : c.toInt ≤ 5) : vp_in (i + c) L := by
  have e := ad6 (i := i) (c := c) h0 (by omega) c0 (by omega)
  exact vpin (by omega) (by omega)
set_option maxHeartbeats 8000000 in
theorem sw_law {a : Int32} (hR : RG g) (hb : g.2 b = some (.inl (1, L, .inl xs))) (hL : LW g w x nA cA lA y nM o kn kn th s s) (v1 : vp_in (i + 1) L) (v2 : vp_in (i + 2) L) (v3 : vp_in (i + 3) L) (v4 : vp_in (i + 4) L) (v5 : vp_in (i + 5) L) (hk : k + 114 ≤ 58408) (hn : n + 2834 ≤ 1451408) (next : (∀ (l5' l6' : Option Value) (w' : Hw) (k' n' : Nat) (kn' th' : Int32) (s' : AS), LW g w' x nA cA lA y nM o kn' kn' th' s' s' → k' ≤ k + 114 → n' ≤ n + 2834 → WP (ML_law g) QLaw (2246, [some (.ref b), some (.ref x), some (.ref y), some (.ref o), some (.int i), l5', l6'], [], w', k', n'))) : WP (ML_law g) QLaw (44, [some (.ref b), some (.ref x), some (.ref y), some (.ref o), some (.int i), l5, l6], [.int (a &&& 63)], w, k, n) := by
  obtain ⟨m, hm, e⟩ := sw63 a
  rw [e]
  clear e
  match m, hm with
  | 0, _ => exact (eL_law_44_0 (g := g) (Q := QLaw)).symm ▸ cL_0 hR hb hL v1 v2 v3 v4 v5 hk hn next
  | 1, _ => exact (eL_law_44_1 (g := g) (Q := QLaw)).symm ▸ cL_1 hR hb hL v1 v2 v3 v4 v5 hk hn next
  | 2, _ => exact (eL_law_44_2 (g := g) (Q := QLaw)).symm ▸ cL_2 hR hb hL v1 v2 v3 v4 v5 hk hn next
  | 3, _ => exact (eL_law_44_3 (g := g) (Q := QLaw)).symm ▸ cL_3 hR hb hL v1 v2 v3 v4 v5 hk hn next
  | 4, _ => exact (eL_law_44_4 (g := g) (Q := QLaw)).symm ▸ cL_4 hR hb hL v1 v2 v3 v4 v5 hk hn next
  | 5, _ => exact (eL_law_44_5 (g := g) (Q := QLaw)).symm ▸ cL_5 hR hb hL v1 v2 v3 v4 v5 hk hn next
  | 6, _ => exact (eL_law_44_6 (g := g) (Q := QLaw)).symm ▸ cL_6 hR hb hL v1 v2 v3 v4 v5 hk hn next
  | 7, _ => exact (eL_law_44_7 (g := g) (Q := QLaw)).symm ▸ cL_7 hR hb hL v1 v2 v3 v4 v5 hk hn next
  | 8, _ => exact (eL_law_44_8 (g := g) (Q := QLaw)).symm ▸ cL_8 hR hb hL v1 v2 v3 v4 v5 hk hn next
  | 9, _ => exact (eL_law_44_9 (g := g) (Q := QLaw)).symm ▸ cL_9 hR hb hL v1 v2 v3 v4 v5 hk hn next
  | 10, _ => exact (eL_law_44_10 (g := g) (Q := QLaw)).symm ▸ cL_10 hR hb hL v1 v2 v3 v4 v5 hk hn next
  | 11, _ => exact (eL_law_44_11 (g := g) (Q := QLaw)).symm ▸ cL_11 hR hb hL v1 v2 v3 v4 v5 hk hn next
  | 12, _ => exact (eL_law_44_12 (g := g) (Q := QLaw)).symm ▸ cL_12 hR hb hL v1 v2 v3 v4 v5 hk hn next
  | 13, _ => exact (eL_law_44_13 (g := g) (Q := QLaw)).symm ▸ cL_13 hR hb hL v1 v2 v3 v4 v5 hk hn next
  | 14, _ => exact (eL_law_44_14 (g := g) (Q := QLaw)).symm ▸ cL_14 hR hb hL v1 v2 v3 v4 v5 hk hn next
  | 15, _ => exact (eL_law_44_15 (g := g) (Q := QLaw)).symm ▸ cL_15 hR hb hL v1 v2 v3 v4 v5 hk hn next
  | 16, _ => exact (eL_law_44_16 (g := g) (Q := QLaw)).symm ▸ cL_16 hR hb hL v1 v2 v3 v4 v5 hk hn next
  | 17, _ => exact (eL_law_44_17 (g := g) (Q := QLaw)).symm ▸ cL_17 hR hb hL v1 v2 v3 v4 v5 hk hn next
  | 18, _ => exact (eL_law_44_18 (g := g) (Q := QLaw)).symm ▸ cL_18 hR hb hL v1 v2 v3 v4 v5 hk hn next
  | 19, _ => exact (eL_law_44_19 (g := g) (Q := QLaw)).symm ▸ cL_19 hR hb hL v1 v2 v3 v4 v5 hk hn next
  | 20, _ => exact (eL_law_44_20 (g := g) (Q := QLaw)).symm ▸ cL_20 hR hb hL v1 v2 v3 v4 v5 hk hn next
  | 21, _ => exact (eL_law_44_21 (g := g) (Q := QLaw)).symm ▸ cL_21 hR hb hL v1 v2 v3 v4 v5 hk hn next
  | 22, _ => exact (eL_law_44_22 (g := g) (Q := QLaw)).symm ▸ cL_22 hR hb hL v1 v2 v3 v4 v5 hk hn next
  | 23, _ => exact (eL_law_44_23 (g := g) (Q := QLaw)).symm ▸ cL_23 hR hb hL v1 v2 v3 v4 v5 hk hn next
  | 24, _ => exact (eL_law_44_24 (g := g) (Q := QLaw)).symm ▸ cL_24 hR hb hL v1 v2 v3 v4 v5 hk hn next
  | 25, _ => exact (eL_law_44_25 (g := g) (Q := QLaw)).symm ▸ cL_25 hR hb hL v1 v2 v3 v4 v5 hk hn next
  | 26, _ => exact (eL_law_44_26 (g := g) (Q := QLaw)).symm ▸ cL_26 hR hb hL v1 v2 v3 v4 v5 hk hn next
  | 27, _ => exact (eL_law_44_27 (g := g) (Q := QLaw)).symm ▸ cL_27 hR hb hL v1 v2 v3 v4 v5 hk hn next
  | 28, _ => exact (eL_law_44_28 (g := g) (Q := QLaw)).symm ▸ cL_28 hR hb hL v1 v2 v3 v4 v5 hk hn next
  | 29, _ => exact (eL_law_44_29 (g := g) (Q := QLaw)).symm ▸ cL_29 hR hb hL v1 v2 v3 v4 v5 hk hn next
  | 30, _ => exact (eL_law_44_30 (g := g) (Q := QLaw)).symm ▸ cL_30 hR hb hL v1 v2 v3 v4 v5 hk hn next
  | 31, _ => exact (eL_law_44_31 (g := g) (Q := QLaw)).symm ▸ cL_31 hR hb hL v1 v2 v3 v4 v5 hk hn next
  | 32, _ => exact (eL_law_44_32 (g := g) (Q := QLaw)).symm ▸ cL_32 hR hb hL v1 v2 v3 v4 v5 hk hn next
  | 33, _ => exact (eL_law_44_33 (g := g) (Q := QLaw)).symm ▸ cL_33 hR hb hL v1 v2 v3 v4 v5 hk hn next
  | 34, _ => exact (eL_law_44_34 (g := g) (Q := QLaw)).symm ▸ cL_34 hR hb hL v1 v2 v3 v4 v5 hk hn next
  | 35, _ => exact (eL_law_44_35 (g := g) (Q := QLaw)).symm ▸ cL_35 hR hb hL v1 v2 v3 v4 v5 hk hn next
  | 36, _ => exact (eL_law_44_36 (g := g) (Q := QLaw)).symm ▸ cL_36 hR hb hL v1 v2 v3 v4 v5 hk hn next
  | 37, _ => exact (eL_law_44_37 (g := g) (Q := QLaw)).symm ▸ cL_37 hR hb hL v1 v2 v3 v4 v5 hk hn next
  | 38, _ => exact (eL_law_44_38 (g := g) (Q := QLaw)).symm ▸ cL_38 hR hb hL v1 v2 v3 v4 v5 hk hn next
  | 39, _ => exact (eL_law_44_39 (g := g) (Q := QLaw)).symm ▸ cL_39 hR hb hL v1 v2 v3 v4 v5 hk hn next
  | 40, _ => exact (eL_law_44_40 (g := g) (Q := QLaw)).symm ▸ cL_40 hR hb hL v1 v2 v3 v4 v5 hk hn next
  | 41, _ => exact (eL_law_44_41 (g := g) (Q := QLaw)).symm ▸ cL_41 hR hb hL v1 v2 v3 v4 v5 hk hn next
  | 42, _ => exact (eL_law_44_42 (g := g) (Q := QLaw)).symm ▸ cL_42 hR hb hL v1 v2 v3 v4 v5 hk hn next
  | 43, _ => exact (eL_law_44_43 (g := g) (Q := QLaw)).symm ▸ cL_43 hR hb hL v1 v2 v3 v4 v5 hk hn next
  | 44, _ => exact (eL_law_44_44 (g := g) (Q := QLaw)).symm ▸ cL_44 hR hb hL v1 v2 v3 v4 v5 hk hn next
  | 45, _ => exact (eL_law_44_45 (g := g) (Q := QLaw)).symm ▸ cL_45 hR hb hL v1 v2 v3 v4 v5 hk hn next
  | 46, _ => exact (eL_law_44_46 (g := g) (Q := QLaw)).symm ▸ cL_46 hR hb hL v1 v2 v3 v4 v5 hk hn next
  | 47, _ => exact (eL_law_44_47 (g := g) (Q := QLaw)).symm ▸ cL_47 hR hb hL v1 v2 v3 v4 v5 hk hn next
  | 48, _ => exact (eL_law_44_48 (g := g) (Q := QLaw)).symm ▸ cL_48 hR hb hL v1 v2 v3 v4 v5 hk hn next
  | m + 49, h =>
    have e : (Int32.ofNat (m + 49)).toInt = ((m + 49 : Nat) : Int) := nI_toInt (by omega)
    rw [eL_law_44_d (Or.inr (by omega))]
    exact next _ _ _ _ _ _ _ _ hL (by omega) (by omega)
set_option maxHeartbeats 4000000 in
theorem law_loop (hR : RG g) (hb : g.2 b = some (.inl (1, L, .inl xs))) (hL3 : L ≤ 3072) : ∀ (d j : Nat) (i kn th : Int32) (s : AS) (w : Hw) (l5 l6 : Option Value) (k n : Nat), i.toInt = 6 * (j : Int) → L ≤ 6 * (j + d) → 6 * j ≤ 3072 → LW g w x nA cA lA y nM o kn kn th s s → k ≤ 40 + 114 * j → n ≤ 400 + 2834 * j → WP (ML_law g) QLaw (27, [some (.ref b), some (.ref x), some (.ref y), some (.ref o), some (.int i), l5, l6], [], w, k, n) := by
  intro d
  induction d with
  | zero =>
    intro j i kn th s w l5 l6 k n hi hd hj hL hk hn
    have e := ofL6 hL3
    have lt : Int32.ofNat L - 6 < i := i32_of_lt (by omega)
    simp only [eL_law_27, eL_law_29, eL_law_29N, eL_law_30]
    refine ⟨1, (L, .inl xs), hL.rb hb, by decide, ?_⟩
    simp only [eL_law_31, eL_law_33, eL_law_34, if_pos lt]
    simp only [eL_law_2252, eL_law_2253]
    exact ⟨rfl, by omega, by omega, rfl⟩
  | succ d ih =>
    intro j i kn th s w l5 l6 k n hi hd hj hL hk hn
    have e := ofL6 hL3
    simp only [eL_law_27, eL_law_29, eL_law_29N, eL_law_30]
    refine ⟨1, (L, .inl xs), hL.rb hb, by decide, ?_⟩
    simp only [eL_law_31, eL_law_33, eL_law_34]
    by_cases lt : Int32.ofNat L - 6 < i
    · rw [if_pos lt]
      simp only [eL_law_2252, eL_law_2253]
      exact ⟨rfl, by omega, by omega, rfl⟩
    · rw [if_neg lt]
      have h6 := i32_nlt lt
      have h0 : 0 ≤ i.toInt := by omega
      have hi6 : i.toInt + 6 ≤ (L : Int) := by omega
      simp only [eL_law_37, eL_law_37N, eL_law_38, eL_law_40]
      refine gi_L hL hb ⟨vpin h0 (by omega), ?_⟩
      simp only [eL_law_41, eL_law_43]
      refine sw_law hR hb hL (vp6 hL3 h0 hi6 (by decide) (by decide)) (vp6 hL3 h0 hi6 (by decide) (by decide)) (vp6 hL3 h0 hi6 (by decide) (by decide)) (vp6 hL3 h0 hi6 (by decide) (by decide)) (vp6 hL3 h0 hi6 (by decide) (by decide)) (by omega) (by omega) (fun l5' l6' w' k' n' kn' th' s' hL' hk' hn' => ?_)
      simp only [eL_law_2246, eL_law_2249, nl_ref, nl_int]
      have e6 := ad6 (i := i) (c := 6) h0 (by omega) (by decide) (by decide)
      have z6 : (6 : Int32).toInt = 6 := rfl
      exact ih (j + 1) (i + 6) kn' th' s' w' l5' l6' k' n' (by omega) (by omega) (by omega) hL' (bud hk hk') (bud hn hn')
end
end
/-! 80.start0.lean.txt -/
section
/-! THE CLAIM OUT OF ONE WALK OF THE LAW'S BODY. Your part is whole_start (and what it stands on); all else here is the same for every law, but numbers. -/
def R_law : String := "RangecardLaw"
def lw_P (b : Addr) (xs : List Int32) (args : Array Value) (s : State) : Prop := args = #[.ref b] ∧ s.IntsAt b xs ∧ xs.length ≤ 3072 ∧ (Jvm.Cond.and given_1 narrow_1).before args s = true
def lw_Q (_ : Array Value) (s : State) (o : Outcome) (t : State) : Prop := o = .returned (some (.int 1)) ∧ Framed s o t [] 688179 7031566
def lw_Z (below : List Frame) (a : Array Value) (s : State) : State → Prop := fun t => ∃ o, t.status = .running ∧ Ended t below o ∧ lw_Q a s o t
/-- what holds at the law's entry: the machine, the code, the tables' words (any of lw_tbl by 'hts w (by decide +kernel)'), the script of L ints xs at the cell b, what the Statement gives of the start (any of its parts by flat_of_before) -/
def lw_At (p : Program) (s : State) (m : MethodId) (meth : Method) (c : Code) (b L : Nat) (xs : Nat → Int32) : Prop :=
  p.tables.exec = Jvm.exec ∧ c.code = code ∧ meth.sig.returnType = ret ∧ c.maxLocals = 7 ∧ s.vm.findClass R_law = some m.cls ∧ (∀ w ∈ lw_tbl, w.before #[Value.ref b] s = true) ∧ va_X b L xs s s.heap ∧ b < s.heap.size ∧ meth.locks = false ∧ (Jvm.Cond.and given_1 narrow_1).before #[Value.ref b] s = true
/-! THE START: what the premises give of the tables and of the old heap -/
section
variable {args : Array Value} {s : State}
theorem room_less {pl : Platform} {r R : Room} (hf : r.frames ≤ R.frames) (hl : r.locals ≤ R.locals) (hc : r.cells ≤ R.cells) (hs : r.slots ≤ R.slots) (h : s.hasRoom pl R = true) : s.hasRoom pl r = true := by
  simp only [State.hasRoom, Bool.and_eq_true, decide_eq_true_eq] at h ⊢
  obtain ⟨⟨⟨⟨h1, h2, h3, h4, h5, h6⟩, h7⟩, h8⟩, h9⟩ := h
  exact ⟨⟨⟨⟨by omega, by omega, by omega, by omega, by omega, h6⟩, by omega⟩, by omega⟩, h9⟩
theorem W_room {p : Program} {l : Launch} {e : Env} {R R' : Room} {m : MethodId} {below : List Frame} {meth : Method} {c : Code} {H : Heap} {locs : List Loc} {cells slots : Nat} {Q : State → Prop} {g : JFrame} (hf : R'.frames ≤ R.frames) (hl : R'.locals ≤ R.locals) (hc : R'.cells ≤ R.cells) (hs : R'.slots ≤ R.slots) (k : W p l e R' s m args below meth c H locs cells slots Q g) : W p l e R s m args below meth c H locs cells slots Q g := fun T hT X => k T hT { X with room := room_less hf hl hc hs X.room }
theorem W_post {p : Program} {l : Launch} {e : Env} {R : Room} {m : MethodId} {below : List Frame} {meth : Method} {c : Code} {H : Heap} {locs : List Loc} {cells slots : Nat} {Q Q' : State → Prop} {g : JFrame} (hq : ∀ t, Q t → Q' t) (k : W p l e R s m args below meth c H locs cells slots Q g) : W p l e R s m args below meth c H locs cells slots Q' g := fun T hT X => by
  obtain ⟨t, a, b⟩ := k T hT X
  exact ⟨t, a, hq t b⟩
theorem MQ_end {below : List Frame} {G : GT} {mc ms : Nat} {t : State} (hG : gN G = s.heap.size) (hc : mc ≤ 688179) (hs : ms ≤ 7031566) (h : vx_MQ below (qC G QLaw) (qX G QLaw) args s mc ms (gA G) t) : lw_Z below args s t := by
  obtain ⟨o, h1, h2, h3⟩ := h
  rcases h3 with ⟨⟨v, w', ho, hq, -, -⟩, L, hF, hL⟩ | ⟨q, ho, E, ce, L, ⟨w', hq, -⟩, -⟩
  · have hv : v = some (.int 1) := Sum.inl.inj hq
    subst hv
    obtain ⟨-, hW, hsm⟩ := hF
    exact ⟨o, h1, h2, ho, ⟨_, ho⟩, hW, hsm.weaken (fun y hy hlt => absurd hlt (Nat.not_lt.mpr (hG ▸ hL y hy))) hc hs⟩
  · cases hq
theorem st_word {w : Jvm.Cond} (hgv : (Jvm.Cond.and given_1 narrow_1).before args s = true) (i : Nat) (h : (flatC (Jvm.Cond.and given_1 narrow_1))[i]? = some w) : w.before args s = true := flat_of_before _ hgv _ (List.mem_of_getElem? h)
theorem st_sel {y z : MethodName} {C : String} (hz : z.cls = y.cls) (hy : y.cls ≠ "java/lang/invoke/MethodHandle" ∧ y.cls ≠ "java/lang/invoke/VarHandle") (h0 : (Jvm.Cond.selects C z z).before args s = true) (hp : (Jvm.Cond.privateMethod y).before args s = true) (hi : (Jvm.Cond.instanceMethod y).before args s = true) : (Jvm.Cond.selects C y y).before args s = true := by
  obtain ⟨c, r, m, hc, -, hm, -, mk, hmk, hni⟩ := Cond.selects_spec (args := args) (first := s) (o := none) (s := s) (idx := []) h0
  obtain ⟨n, meth, hn, hmeth, -, -⟩ := Cond.instanceMethod_spec (args := args) (first := s) (o := none) (s := s) (idx := []) hi
  have hf : s.methodFound? y.cls y.name y.desc = some n := State.methodFound?_of_named hn hy
  have hcls : n.cls = m.cls := by
    have h1 := findClass_of_methodNamed hn
    have h2 := findClass_of_methodNamed hm
    rw [hz, h1] at h2
    exact Option.some.inj h2
  have hsel : selectMethod {} s.vm c n = .method n := selectMethod_private hmeth (Cond.privateMethod_at hp n meth hn hmeth)
  simp only [Cond.before, Cond.holds, Cond.value, hc, hf, hn, hsel, hcls, hmk]
  simp [hni]
theorem asb_in : ∀ y ∈ asbP, y.cls = "java/lang/AbstractStringBuilder" ∧ Jvm.Cond.privateMethod y ∈ lw_tbl ∧ Jvm.Cond.instanceMethod y ∈ lw_tbl := by decide +kernel
theorem st_WS (hts : ∀ w ∈ lw_tbl, w.before args s = true) : ∀ w ∈ WS, w.before args s = true := by
  intro w hw
  rcases List.mem_append.mp hw with h | h
  · obtain ⟨y, hy, rfl⟩ := List.mem_map.mp h
    obtain ⟨h1, h2, h3⟩ := asb_in y hy
    refine st_sel (z := ⟨"java/lang/AbstractStringBuilder", "isLatin1", "()Z"⟩) h1.symm ?_ (hts _ (List.mem_of_getElem? (i := 585) (by decide +kernel))) (hts _ h2) (hts _ h3)
    rw [h1]
    decide
  · exact hts w (List.mem_filter.mp h).1
theorem sW_0 : ∀ w ∈ u_ws RJ0 TJ0 4, w ∈ WS := fun w h => (fun q => WS_in q.1 q.2) ((show ∀ w ∈ u_ws RJ0 TJ0 4, w ∈ lw_tbl ∧ goodWord w = true by decide +kernel) w h)
theorem sW_1 : ∀ w ∈ u_ws RJ4 TJ4 4, w ∈ WS := fun w h => (fun q => WS_in q.1 q.2) ((show ∀ w ∈ u_ws RJ4 TJ4 4, w ∈ lw_tbl ∧ goodWord w = true by decide +kernel) w h)
theorem sW_2 : ∀ w ∈ u_ws RJx35411 TJx35411 4, w ∈ WS := fun w h => (fun q => WS_in q.1 q.2) ((show ∀ w ∈ u_ws RJx35411 TJx35411 4, w ∈ lw_tbl ∧ goodWord w = true by decide +kernel) w h)
theorem sW_3 : ∀ w ∈ u_ws RJx4a65c TJx4a65c 3, w ∈ WS := fun w h => (fun q => WS_in q.1 q.2) ((show ∀ w ∈ u_ws RJx4a65c TJx4a65c 3, w ∈ lw_tbl ∧ goodWord w = true by decide +kernel) w h)
theorem sW_4 : ∀ w ∈ u_ws RX0 TX0 4, w ∈ WS := fun w h => (fun q => WS_in q.1 q.2) ((show ∀ w ∈ u_ws RX0 TX0 4, w ∈ lw_tbl ∧ goodWord w = true by decide +kernel) w h)
theorem sW_5 : ∀ w ∈ u_ws RX1 TX1 7, w ∈ WS := fun w h => (fun q => WS_in q.1 q.2) ((show ∀ w ∈ u_ws RX1 TX1 7, w ∈ lw_tbl ∧ goodWord w = true by decide +kernel) w h)
theorem sW_6 : ∀ w ∈ u_ws RX2 TX2 2, w ∈ WS := fun w h => (fun q => WS_in q.1 q.2) ((show ∀ w ∈ u_ws RX2 TX2 2, w ∈ lw_tbl ∧ goodWord w = true by decide +kernel) w h)
theorem sW_7 : ∀ w ∈ u_ws RX3 TX3 7, w ∈ WS := fun w h => (fun q => WS_in q.1 q.2) ((show ∀ w ∈ u_ws RX3 TX3 7, w ∈ lw_tbl ∧ goodWord w = true by decide +kernel) w h)
theorem st_arr {ty : FieldType} (h : (Jvm.Cond.arrayClass ty).before args s = true) : ∃ c : ClassId, s.vm.findClass ("[" ++ ty.toString) = some c ∧ ArrOfT s c ty := by
  obtain ⟨c, k, comp, h1, h2, h3⟩ := Cond.arrayClass_spec (args := args) (first := s) (o := none) (s := s) (idx := []) h
  exact ⟨c, h1, fun N z => ⟨(fun k h => by cases h), k, h2, comp, h3⟩⟩
theorem st_arrO {C : String} (h : (Jvm.Cond.arrayOver (.object C)).before args s = true) : ∃ c : ClassId, ArrOfT s c (.object C) ∧ va_RA s c (.object C) := by
  obtain ⟨comp, c, k, h1, -, h3, h4, h5⟩ := Cond.arrayOver_spec (args := args) (first := s) (o := none) (s := s) (idx := []) h
  exact ⟨c, fun N z => ⟨(fun k h => by cases h), k, h3, comp, h4⟩, k, comp, h3, h4, h1, h5⟩
theorem T_ne {ty ty' : FieldType} {t t' N N' : Nat} {f f' : Nat → Value} {A : Nat → Prop} {H : Heap} (h : va_T ty t N f A s H) (h' : va_T ty' t' N' f' A s H) (hne : ty ≠ ty' ∨ Int32.ofNat N ≠ Int32.ofNat N' ∨ ∃ j, j < N ∧ j < N' ∧ f j ≠ f' j) : t ≠ t' := by
  rintro rfl
  obtain ⟨cell, h1, ⟨h2, k, hk, comp, hkind⟩, h3, h4, h5, h6, h7⟩ := h
  obtain ⟨cell', g1, ⟨g2, k', hk', comp', hkind'⟩, g3, g4, g5, g6, g7⟩ := h'
  cases h1.symm.trans g1
  cases hk.symm.trans hk'
  rcases hne with e | e | ⟨j, j1, j2, e⟩
  · have q := hkind.symm.trans hkind'
    injection q with q1 q2
    exact e q2
  · exact e (h5.symm.trans g5)
  · exact e (Option.some.inj ((h6 j j1).symm.trans (g6 j j2)))
theorem T_neO {ty : FieldType} {t q N : Nat} {f : Nat → Value} {A : Nat → Prop} {H : Heap} {C : String} {c0 : ClassId} {cell : Cell} (h : va_T ty t N f A s H) (hc : H[q]? = some cell) (hcls : cell.cls = c0) (ha : ClassAt s C c0) : t ≠ q := by
  rintro rfl
  obtain ⟨cell', h1, ⟨h2, k, hk, comp, hkind⟩, -⟩ := h
  cases h1.symm.trans hc
  obtain ⟨-, kC, hkC, hord⟩ := ha
  rw [hcls, hkC] at hk
  cases hk
  rw [hord] at hkind
  cases hkind
/-- an old text: its object, its bytes -/
theorem st_string {G : GT} (hK : u_Kn s RJ0 TJ0 4 (G.1 0) (G.2.1 0)) (hWS : ∀ w ∈ WS, w.before args s = true) (hA : ∀ a : Nat, a < s.heap.size → ¬ gA G a) {own : String} {k n : Nat} {f : Nat → Int32} (hn : n < 2 ^ 31) (hex : (Jvm.Cond.exactly (.string own k) "java/lang/String").before args s = true) (hco : (Jvm.Cond.eq (.field (.string own k) "java/lang/String" "coder" "B") (.int 0)).before args s = true) (har : (Jvm.Cond.arrayOf (.field (.string own k) "java/lang/String" "value" "[B") .byte).before args s = true) (hle : (Jvm.Cond.eq (.length (.field (.string own k) "java/lang/String" "value" "[B")) (.int (Int32.ofNat n))).before args s = true) (hel : ∀ j : Nat, j < n → (Jvm.Cond.eq (.elem (.field (.string own k) "java/lang/String" "value" "[B") (.int (Int32.ofNat j))) (.int (f j))).before args s = true) :
    ∃ (a v : Nat) (h z : Value) (cell : Cell), (Jvm.Term.string own k).eval args s none [] s = some (.ref a) ∧ oA G s.heap s a (.inr (0, [.ref v, .int 0, h, z])) ∧ va_T .byte v n (fun j => .int (f j)) (gA G) s s.heap ∧ s.heap[a]? = some cell ∧ cell.cls = G.1 0 ∧ cell.slots[G.2.1 0 0]? = some (.ref v) := by
  obtain ⟨a, c, cA, kA, q1, q2, q3, q4, q5, q6, q7⟩ := Cond.exactly_spec (args := args) (first := s) (o := none) (s := s) (idx := []) hex
  obtain ⟨kC, hkC, hord⟩ := hK.2.2
  have hc : c = G.1 0 := Option.some.inj (q2.symm.trans hK.2.1)
  subst hc
  cases q4.symm.trans hkC
  have hsize := q7 hord
  obtain ⟨v, ht, hT⟩ := va_Tof (f := fun j => .int (f j)) (A := gA G) hn har (va_eqt hle) (fun j hj => va_eqt (hel j hj)) hA
  obtain ⟨cf1, k1, i1, f1, cell1, g1, g2, g3, g4, g5, g6⟩ := (vk_OFof q1 (va_eqt hco) hA : va_OF "java/lang/String" "coder" "B" (.int 0) a (gA G) s s.heap)
  obtain ⟨cf0, k0, i0, f0, cell0, m1, m2, m3, m4, m5, m6⟩ := (vk_OFof q1 ht hA : va_OF "java/lang/String" "value" "[B" (.ref v) a (gA G) s s.heap)
  cases q3.symm.trans g3
  cases q3.symm.trans m3
  have hslot : ∀ k, k < 4 → ∃ x, cA.slots[G.2.1 0 k]? = some x := fun k hk => by
    obtain ⟨cf, kf, fi, fd, hi, hsl⟩ := hK.1 k hk
    have h9 := (u_facts hK.2.1 hkC (u_lays hWS sW_0 hk) hi).2.2
    have h8 := (Array.getElem?_eq_some_iff.mp h9).1
    exact ⟨_, Array.getElem?_eq_getElem (by rw [← hsl, hsize]; exact h8)⟩
  obtain ⟨h, hh⟩ := hslot 2 (by decide)
  obtain ⟨z, hz⟩ := hslot 3 (by decide)
  have e0 : cA.slots[G.2.1 0 0]? = some (.ref v) := by
    obtain ⟨cf, kf, fi, fd, hi, hsl⟩ := hK.1 0 (by decide)
    have e : s.fieldFound? "java/lang/String" "value" "[B" = some (cf, kf, fi, fd) := hi
    cases m1.symm.trans e
    rw [← hsl]
    exact m5
  have e1 : cA.slots[G.2.1 0 1]? = some (.int 0) := by
    obtain ⟨cf, kf, fi, fd, hi, hsl⟩ := hK.1 1 (by decide)
    have e : s.fieldFound? "java/lang/String" "coder" "B" = some (cf, kf, fi, fd) := hi
    cases g1.symm.trans e
    rw [← hsl]
    exact g5
  refine ⟨a, v, h, z, cA, q1, ⟨(RJ0, TJ0, 4), cA, rfl, q3, q5, g4, q6, fun k hk => ?_, hA a (Array.getElem?_eq_some_iff.mp q3).1⟩, hT, q3, q6, e0⟩
  have hk4 : k < 4 := hk
  rcases (show k = 0 ∨ k = 1 ∨ k = 2 ∨ k = 3 by omega) with rfl | rfl | rfl | rfl
  · exact e0
  · exact e1
  · exact hh
  · exact hz
theorem CSL_in : ∀ q ∈ CSL, Jvm.Cond.castable q.1 q.2 ∈ lw_tbl := by decide +kernel
theorem NCL_in : ∀ q ∈ NCL, Jvm.Cond.not (Jvm.Cond.castable q.1 q.2) ∈ flatC (Jvm.Cond.and given_1 narrow_1) := by decide +kernel
theorem STL_in : ∀ q ∈ STL, Jvm.Cond.stringRef q.1 q.2.1 q.2.2 ∈ lw_tbl ∧ Jvm.Cond.exactly (.string q.1 q.2.1) "java/lang/String" ∈ flatC (Jvm.Cond.and given_1 narrow_1) := by decide +kernel
theorem AOL_in : ∀ C ∈ AOL, Jvm.Cond.arrayOver (.object C) ∈ lw_tbl := by decide +kernel
theorem IFL_in : ∀ q ∈ IFL, Jvm.Cond.declares q.2.1 ∈ lw_tbl ∧ Jvm.Cond.interfaceMethod q.2.1.cls q.2.1.cls q.2.1.name q.2.1.desc ∈ lw_tbl ∧ Jvm.Cond.publicMethod q.2.2 ∈ lw_tbl ∧ Jvm.Cond.unhidden q.1 q.2.1.name q.2.1.desc ∈ lw_tbl ∧ Jvm.Cond.castable q.1 q.2.1.cls ∈ lw_tbl := by decide +kernel
theorem DO_in : ∀ j : Nat, j < 100 → (flatC (Jvm.Cond.and given_1 narrow_1))[10 + j]? = some (Jvm.Cond.eq (.elem (.static "java/lang/Integer" "DigitOnes" "[B") (.int (Int32.ofNat j))) (.int (Int32.ofNat (48 + j % 10)))) := by decide +kernel
theorem DT_in : ∀ j : Nat, j < 100 → (flatC (Jvm.Cond.and given_1 narrow_1))[113 + j]? = some (Jvm.Cond.eq (.elem (.static "java/lang/Integer" "DigitTens" "[B") (.int (Int32.ofNat j))) (.int (Int32.ofNat (48 + j / 10)))) := by decide +kernel
theorem st_eval {own : String} {k : Nat} (h : (Jvm.Cond.exactly (.string own k) "java/lang/String").before args s = true) : ∃ a : Nat, (Jvm.Term.string own k).eval args s none [] s = some (.ref a) := by
  obtain ⟨a, c, cA, kA, q1, -⟩ := Cond.exactly_spec (args := args) (first := s) (o := none) (s := s) (idx := []) h
  exact ⟨a, q1⟩
end
/-- the facts of the old heap that the law's walk asks -/
def SR (g : RO) (b L : Nat) (xs : Nat → Int32) : Prop := g.2 b = some (.inl (1, L, .inl xs)) ∧ (g.1 1 = .int 1 ∧ g.1 30 = .int 2147483639 ∧ g.1 32 = .int 2147483647) ∧ (∃ e : Nat, g.1 0 = .ref e ∧ g.2 e = some (.inl (5, 0, .inr (.inr (.inr (.inr fun _ => none)))))) ∧ (∃ mi : Nat, g.1 10 = .ref mi) ∧
  (∃ (a : Nat) (f : Nat → Int32), g.1 2 = .ref a ∧ g.2 a = some (.inl (2, 100, .inl f))) ∧ (∃ (a : Nat) (f : Nat → Int32), g.1 3 = .ref a ∧ g.2 a = some (.inl (2, 100, .inl f))) ∧ (∃ s : Nat, g.1 20 = .ref s) ∧ (∃ s : Nat, g.1 22 = .ref s) ∧
  (∃ (s v : Nat) (h z : Value), g.1 21 = .ref s ∧ g.2 s = some (.inr (0, [.ref v, .int 0, h, z])) ∧ g.2 v = some (.inl (2, 0, .inl fun _ => 0))) ∧ ∃ (s v : Nat) (h z : Value), g.1 23 = .ref s ∧ g.2 s = some (.inr (0, [.ref v, .int 0, h, z])) ∧ g.2 v = some (.inl (2, 1, .inl fun _ => 32))
set_option maxHeartbeats 4000000 in
theorem st_G {p : Program} {s : State} {m : MethodId} {meth : Method} {c : Code} {b L : Nat} {xs : Nat → Int32} (C0 : lw_At p s m meth c b L xs) : ∃ G : GT, gN G = s.heap.size ∧ gK G s ∧ GBg G s ∧ SR (gg G) b L xs := by
  obtain ⟨hx, hb, hr, hml, hown, hts, hX, hbl, hlocks, hgv⟩ := C0
  have hW := st_WS hts
  obtain ⟨c0, i0, k0⟩ := u_known hW sW_0 (hts (.instantiable RJ0 4) (List.mem_of_getElem? (i := 705) (by decide +kernel)))
  obtain ⟨c1, i1, k1⟩ := u_known hW sW_1 (hts (.instantiable RJ4 4) (List.mem_of_getElem? (i := 500) (by decide +kernel)))
  obtain ⟨c2, i2, k2⟩ := u_known hW sW_2 (hts (.instantiable RJx35411 4) (List.mem_of_getElem? (i := 1545) (by decide +kernel)))
  obtain ⟨c3, i3, k3⟩ := u_known hW sW_3 (hts (.instantiable RJx4a65c 3) (List.mem_of_getElem? (i := 1121) (by decide +kernel)))
  obtain ⟨c4, i4, k4⟩ := u_known hW sW_4 (hts (.instantiable RX0 4) (List.mem_of_getElem? (i := 154) (by decide +kernel)))
  obtain ⟨c5, i5, k5⟩ := u_known hW sW_5 (hts (.instantiable RX1 7) (List.mem_of_getElem? (i := 89) (by decide +kernel)))
  obtain ⟨c6, i6, k6⟩ := u_known hW sW_6 (hts (.instantiable RX2 2) (List.mem_of_getElem? (i := 333) (by decide +kernel)))
  obtain ⟨c7, i7, k7⟩ := u_known hW sW_7 (hts (.instantiable RX3 7) (List.mem_of_getElem? (i := 1115) (by decide +kernel)))
  obtain ⟨a0, f0, r0⟩ := st_arr (hts (.arrayClass .long) (List.mem_of_getElem? (i := 120) (by decide +kernel)))
  obtain ⟨a1, f1, r1⟩ := st_arr (hts (.arrayClass .int) (List.mem_of_getElem? (i := 1653) (by decide +kernel)))
  obtain ⟨a2, f2, r2⟩ := st_arr (hts (.arrayClass .byte) (List.mem_of_getElem? (i := 423) (by decide +kernel)))
  obtain ⟨a3, f3, r3⟩ := st_arr (hts (.arrayClass .boolean) (List.mem_of_getElem? (i := 1644) (by decide +kernel)))
  obtain ⟨a4, r4, f4⟩ := st_arrO (hts (.arrayOver (.object "Rangecard$Range")) (List.mem_of_getElem? (i := 97) (by decide +kernel)))
  obtain ⟨a5, r5, f5⟩ := st_arrO (hts (.arrayOver (.object "java/lang/Object")) (List.mem_of_getElem? (i := 1188) (by decide +kernel)))
  have hAA : ∀ a : Nat, a < s.heap.size → ¬ s.heap.size ≤ a := fun a h => Nat.not_le.mpr h
  obtain ⟨scr, x1, x2, x3, x4, x5⟩ := hX
  have tB : va_T .int b L (fun j => .int (xs j)) (fun q => s.heap.size ≤ q) s s.heap := ⟨scr, x1, x2, x3, by omega, by rw [x4], x5, hAA b hbl⟩
  obtain ⟨ae, ve, tE⟩ := va_Tof (tm := .static "java/util/ArrayList" "DEFAULTCAPACITY_EMPTY_ELEMENTDATA" "[Ljava/lang/Object;") (ty := .object "java/lang/Object") (N := 0) (f := fun _ => .null) (A := fun q => s.heap.size ≤ q) (by decide) (st_word hgv 218 (by decide +kernel)) (va_eqt (st_word hgv 220 (by decide +kernel))) (fun j hj => absurd hj (Nat.not_lt_zero j)) hAA
  obtain ⟨ao, vo, tO⟩ := va_Tof (tm := .static "java/lang/Integer" "DigitOnes" "[B") (ty := .byte) (N := 100) (f := fun j => .int (Int32.ofNat (48 + j % 10))) (A := fun q => s.heap.size ≤ q) (by decide) (st_word hgv 8 (by decide +kernel)) (va_eqt (st_word hgv 9 (by decide +kernel))) (fun j hj => va_eqt (st_word hgv _ (DO_in j hj))) hAA
  obtain ⟨at_, vt, tT⟩ := va_Tof (tm := .static "java/lang/Integer" "DigitTens" "[B") (ty := .byte) (N := 100) (f := fun j => .int (Int32.ofNat (48 + j / 10))) (A := fun q => s.heap.size ≤ q) (by decide) (st_word hgv 111 (by decide +kernel)) (va_eqt (st_word hgv 112 (by decide +kernel))) (fun j hj => va_eqt (st_word hgv _ (DT_in j hj))) hAA
  obtain ⟨s20, h20⟩ := st_eval (own := "Rangecard") (k := 144) (st_word hgv 355 (by decide +kernel))
  obtain ⟨s22, h22⟩ := st_eval (own := "RangecardModel") (k := 145) (st_word hgv 430 (by decide +kernel))
  obtain ⟨mi, hmi⟩ := va_Mi.of (C := "[Ljava/lang/Object;") (st_word hgv 262 (by decide +kernel))
  let dC : Nat → ClassId := fun k => [c0, c1, c2, c3, c4, c5, c6, c7].getD k c0
  let dI : Nat → Nat → Nat := fun k => [i0, i1, i2, i3, i4, i5, i6, i7].getD k i0
  let dA : Nat → ClassId := fun k => [a0, a1, a2, a3, a4, a5].getD k a0
  have hS1 : ∀ g : RO, u_Kn s RJ0 TJ0 4 (dC 0) (dI 0) := fun _ => k0
  obtain ⟨s21, v21, h21, z21, ce21, e21, o21, t21, q21, w21, u21⟩ := st_string (G := (dC, dI, dA, s.heap.size, (fun _ => .null, fun _ => none))) (own := "RangecardModel") (k := 76) (n := 0) (f := fun _ => 0) k0 hW hAA (by decide) (st_word hgv 418 (by decide +kernel)) (st_word hgv 419 (by decide +kernel)) (st_word hgv 420 (by decide +kernel)) (st_word hgv 421 (by decide +kernel)) (fun j hj => absurd hj (Nat.not_lt_zero j))
  obtain ⟨s23, v23, h23, z23, ce23, e23, o23, t23, q23, w23, u23⟩ := st_string (G := (dC, dI, dA, s.heap.size, (fun _ => .null, fun _ => none))) (own := "RangecardModel") (k := 147) (n := 1) (f := fun _ => 32) k0 hW hAA (by decide) (st_word hgv 444 (by decide +kernel)) (st_word hgv 445 (by decide +kernel)) (st_word hgv 446 (by decide +kernel)) (st_word hgv 447 (by decide +kernel)) (fun j hj => by
    obtain rfl : j = 0 := by omega
    exact (st_word hgv 448 (by decide +kernel)))
  have hcl : ClassAt s RJ0 c0 := k0.2
  have n1 : ae ≠ b := T_ne tE tB (Or.inl (by decide))
  have n2 : ao ≠ b := T_ne tO tB (Or.inl (by decide))
  have n3 : ao ≠ ae := T_ne tO tE (Or.inl (by decide))
  have n4 : at_ ≠ b := T_ne tT tB (Or.inl (by decide))
  have n5 : at_ ≠ ae := T_ne tT tE (Or.inl (by decide))
  have n6 : at_ ≠ ao := T_ne tT tO (Or.inr (Or.inr ⟨1, by decide, by decide, by decide⟩))
  have n7 : v21 ≠ b := T_ne t21 tB (Or.inl (by decide))
  have n8 : v21 ≠ ae := T_ne t21 tE (Or.inl (by decide))
  have n9 : v21 ≠ ao := T_ne t21 tO (Or.inr (Or.inl (by decide)))
  have n10 : v21 ≠ at_ := T_ne t21 tT (Or.inr (Or.inl (by decide)))
  have n11 : v23 ≠ b := T_ne t23 tB (Or.inl (by decide))
  have n12 : v23 ≠ ae := T_ne t23 tE (Or.inl (by decide))
  have n13 : v23 ≠ ao := T_ne t23 tO (Or.inr (Or.inl (by decide)))
  have n14 : v23 ≠ at_ := T_ne t23 tT (Or.inr (Or.inl (by decide)))
  have n15 : v23 ≠ v21 := T_ne t23 t21 (Or.inr (Or.inl (by decide)))
  have n16 : s21 ≠ b := (T_neO tB q21 w21 hcl).symm
  have n17 : s21 ≠ ae := (T_neO tE q21 w21 hcl).symm
  have n18 : s21 ≠ ao := (T_neO tO q21 w21 hcl).symm
  have n19 : s21 ≠ at_ := (T_neO tT q21 w21 hcl).symm
  have n20 : s21 ≠ v21 := (T_neO t21 q21 w21 hcl).symm
  have n21 : s21 ≠ v23 := (T_neO t23 q21 w21 hcl).symm
  have n22 : s23 ≠ b := (T_neO tB q23 w23 hcl).symm
  have n23 : s23 ≠ ae := (T_neO tE q23 w23 hcl).symm
  have n24 : s23 ≠ ao := (T_neO tO q23 w23 hcl).symm
  have n25 : s23 ≠ at_ := (T_neO tT q23 w23 hcl).symm
  have n26 : s23 ≠ v21 := (T_neO t21 q23 w23 hcl).symm
  have n27 : s23 ≠ v23 := (T_neO t23 q23 w23 hcl).symm
  have n28 : s23 ≠ s21 := by
    rintro rfl
    cases q21.symm.trans q23
    cases u21.symm.trans u23
    exact n15 rfl
  let old : Hw := fun q => if q = b then some (.inl (1, L, .inl xs)) else if q = ae then some (.inl (5, 0, .inr (.inr (.inr (.inr fun _ => none))))) else if q = ao then some (.inl (2, 100, .inl fun j => Int32.ofNat (48 + j % 10))) else if q = at_ then some (.inl (2, 100, .inl fun j => Int32.ofNat (48 + j / 10))) else if q = v21 then some (.inl (2, 0, .inl fun _ => 0)) else if q = v23 then some (.inl (2, 1, .inl fun _ => 32)) else if q = s21 then some (.inr (0, [.ref v21, .int 0, h21, z21])) else if q = s23 then some (.inr (0, [.ref v23, .int 0, h23, z23])) else none
  let val : Nat → Value := fun i => match i with
    | 0 => .ref ae
    | 1 => .int 1
    | 2 => .ref ao
    | 3 => .ref at_
    | 10 => .ref mi
    | 20 => .ref s20
    | 21 => .ref s21
    | 22 => .ref s22
    | 23 => .ref s23
    | 30 => .int 2147483639
    | 31 => .int 1073741823
    | 32 => .int 2147483647
    | 33 => .int 55296
    | 34 => .int 57344
    | 35 => .int 56320
    | _ => .null
  refine ⟨(dC, dI, dA, s.heap.size, (val, old)), rfl, ⟨fun k q hq => ?_, fun k q hq => ?_⟩, ⟨vx_Zqof (hts _ (List.mem_of_getElem? (i := 383) (by decide +kernel))) (hts _ (List.mem_of_getElem? (i := 69) (by decide +kernel))) (st_word hgv 4 (by decide +kernel)) hAA, vx_Zqof (hts _ (List.mem_of_getElem? (i := 385) (by decide +kernel))) (hts _ (List.mem_of_getElem? (i := 69) (by decide +kernel))) (st_word hgv 5 (by decide +kernel)) hAA, fun w hw hn => va_Nw.of (isNW_tab hn) (hts w hw), fun q hq => va_Nw.of rfl (hts _ (CSL_in q hq)), fun q hq => va_Nc.of (flat_of_before _ hgv _ (NCL_in q hq)), fun q hq => ?_, ⟨fun C hC => va_AO.of (hts _ (AOL_in C hC)), fun q hq => ?_, ⟨mi, rfl, hmi⟩, fun q hq => ?_⟩, fun q hq => ?_, fun q hq => ?_, fun q o hq => ?_⟩, ?_⟩
  · match k, hq with
    | 0, hq => cases hq; exact k0
    | 1, hq => cases hq; exact k1
    | 2, hq => cases hq; exact k2
    | 3, hq => cases hq; exact k3
    | 4, hq => cases hq; exact k4
    | 5, hq => cases hq; exact k5
    | 6, hq => cases hq; exact k6
    | 7, hq => cases hq; exact k7
    | k + 8, hq => simp [vwCl] at hq
  · match k, hq with
    | 0, hq => cases hq; exact ⟨r0, f0⟩
    | 1, hq => cases hq; exact ⟨r1, f1⟩
    | 2, hq => cases hq; exact ⟨r2, f2⟩
    | 3, hq => cases hq; exact ⟨r3, f3⟩
    | 4, hq => cases hq; exact ⟨r4, f4⟩
    | 5, hq => cases hq; exact ⟨r5, f5⟩
    | k + 6, hq => simp [gTys] at hq
  · obtain ⟨a, ha⟩ := st_eval (flat_of_before _ hgv _ (STL_in q hq).2)
    exact ⟨a, vk_R.of (hts _ (STL_in q hq).1) ha⟩
  · obtain ⟨g1, g2, g3, g4, g5⟩ := IFL_in q hq
    exact va_Fw.of (hts _ g1) (hts _ g2) (hts _ g3) (hts _ g4) (hts _ g5)
  · simp only [ICL, List.mem_cons, List.not_mem_nil, or_false] at hq
    rcases hq with rfl | rfl | rfl | rfl | rfl | rfl <;> rfl
  · simp only [STT, List.mem_cons, List.not_mem_nil, or_false] at hq
    rcases hq with rfl | rfl | rfl | rfl
    · exact va_Zof (hts _ (List.mem_of_getElem? (i := 1133) (by decide +kernel))) (hts _ (List.mem_of_getElem? (i := 63) (by decide +kernel))) ve hAA
    · exact va_Zof (hts _ (List.mem_of_getElem? (i := 509) (by decide +kernel))) (hts _ (List.mem_of_getElem? (i := 76) (by decide +kernel))) (va_eqt (st_word hgv 6 (by decide +kernel))) hAA
    · exact va_Zof (hts _ (List.mem_of_getElem? (i := 591) (by decide +kernel))) (hts _ (List.mem_of_getElem? (i := 79) (by decide +kernel))) vo hAA
    · exact va_Zof (hts _ (List.mem_of_getElem? (i := 593) (by decide +kernel))) (hts _ (List.mem_of_getElem? (i := 79) (by decide +kernel))) vt hAA
  · simp only [STG, List.mem_cons, List.not_mem_nil, or_false] at hq
    rcases hq with rfl | rfl | rfl | rfl
    · exact ⟨s20, rfl, vk_R.of (hts _ (List.mem_of_getElem? (i := 984) (by decide +kernel))) h20⟩
    · exact ⟨s21, rfl, vk_R.of (hts _ (List.mem_of_getElem? (i := 1275) (by decide +kernel))) e21⟩
    · exact ⟨s22, rfl, vk_R.of (hts _ (List.mem_of_getElem? (i := 1449) (by decide +kernel))) h22⟩
    · exact ⟨s23, rfl, vk_R.of (hts _ (List.mem_of_getElem? (i := 1450) (by decide +kernel))) e23⟩
  · replace hq : old q = some o := hq
    simp only [old] at hq
    split at hq
    · next e =>
      subst e
      cases hq
      exact ⟨Or.inl ⟨rfl, tB⟩, hAA _ hbl⟩
    split at hq
    · next e =>
      subst e
      cases hq
      exact ⟨⟨rfl, rfl, tE⟩, tE.out⟩
    split at hq
    · next e =>
      subst e
      cases hq
      exact ⟨Or.inr ⟨rfl, tO⟩, tO.out⟩
    split at hq
    · next e =>
      subst e
      cases hq
      exact ⟨Or.inr ⟨rfl, tT⟩, tT.out⟩
    split at hq
    · next e =>
      subst e
      cases hq
      exact ⟨Or.inr ⟨rfl, t21⟩, t21.out⟩
    split at hq
    · next e =>
      subst e
      cases hq
      exact ⟨Or.inr ⟨rfl, t23⟩, t23.out⟩
    split at hq
    · next e =>
      subst e
      cases hq
      exact ⟨o21, hAA _ (Array.getElem?_eq_some_iff.mp q21).1⟩
    split at hq
    · next e =>
      subst e
      cases hq
      exact ⟨o23, hAA _ (Array.getElem?_eq_some_iff.mp q23).1⟩
    · cases hq
  · have p1 : old b = some (.inl (1, L, .inl xs)) := by simp only [old, if_true]
    have p2 : old ae = some (.inl (5, 0, .inr (.inr (.inr (.inr fun _ => none))))) := by simp only [old, if_neg n1, if_true]
    have p3 : old ao = some (.inl (2, 100, .inl fun j => Int32.ofNat (48 + j % 10))) := by simp only [old, if_neg n2, if_neg n3, if_true]
    have p4 : old at_ = some (.inl (2, 100, .inl fun j => Int32.ofNat (48 + j / 10))) := by simp only [old, if_neg n4, if_neg n5, if_neg n6, if_true]
    have p5 : old v21 = some (.inl (2, 0, .inl fun _ => 0)) := by simp only [old, if_neg n7, if_neg n8, if_neg n9, if_neg n10, if_true]
    have p6 : old v23 = some (.inl (2, 1, .inl fun _ => 32)) := by simp only [old, if_neg n11, if_neg n12, if_neg n13, if_neg n14, if_neg n15, if_true]
    have p7 : old s21 = some (.inr (0, [.ref v21, .int 0, h21, z21])) := by simp only [old, if_neg n16, if_neg n17, if_neg n18, if_neg n19, if_neg n20, if_neg n21, if_true]
    have p8 : old s23 = some (.inr (0, [.ref v23, .int 0, h23, z23])) := by simp only [old, if_neg n22, if_neg n23, if_neg n24, if_neg n25, if_neg n26, if_neg n27, if_neg n28, if_true]
    exact ⟨p1, ⟨rfl, rfl, rfl⟩, ⟨ae, rfl, p2⟩, ⟨mi, rfl⟩, ⟨ao, _, rfl, p3⟩, ⟨at_, _, rfl, p4⟩, ⟨s20, rfl⟩, ⟨s22, rfl⟩, ⟨s21, v21, h21, z21, rfl, p7, p5⟩, s23, v23, h23, z23, rfl, p8, p6⟩
end
