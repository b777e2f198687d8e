section
variable {g : RO} {w : Hw} {x nA cA lA y nM o b L k n : Nat} {xs : Nat → Int32} {i kn th : Int32} {s : AS} {l5 l6 : Option Value}
set_option maxHeartbeats 4000000 in
theorem cL_24 (hR : RG g) (hb : g.2 b = some (.inl (1, L, .inl xs))) (hL : LW g w x nA cA lA y nM o kn kn th s s) (v1 : vp_in (i + 1) L) (v2 : vp_in (i + 2) L) (v3 : vp_in (i + 3) L) (v4 : vp_in (i + 4) L) (v5 : vp_in (i + 5) L) (hk : k + 114 ≤ 58408) (hn : n + 2834 ≤ 1451408) (next : (∀ (l5' l6' : Option Value) (w' : Hw) (k' n' : Nat) (kn' th' : Int32) (s' : AS), LW g w' x nA cA lA y nM o kn' kn' th' s' s' → k' ≤ k + 114 → n' ≤ n + 2834 → WP (ML_law g) QLaw (2246, [some (.ref b), some (.ref x), some (.ref y), some (.ref o), some (.int i), l5', l6'], [], w', k', n'))) : WP (ML_law g) QLaw (1369, [some (.ref b), some (.ref x), some (.ref y), some (.ref o), some (.int i), l5, l6], [], w, k, n) := by
  repeat' first
    | with_reducible assumption
    | with_reducible refine And.intro ?_ ?_
    | with_reducible refine gi_W hL hb ?_
    | with_reducible refine LW.gx hL (fun _ => trivial)
    | cases Option.some.inj (hQpc2.symm.trans hQqc2); clear hQqc2
    | with_reducible exact absurd hWqc0 hXpc0
    | with_reducible exact absurd hSqc0 hXpc0
    | with_reducible exact absurd hQqc0 hXpc0
    | with_reducible exact absurd hWpc0 hXqc0
    | with_reducible exact absurd hSqc1 hWpc1
    | with_reducible exact absurd hQqc1 hWpc1
    | with_reducible exact absurd hSpc0 hXqc0
    | with_reducible exact absurd hSpc1 hWqc1
    | with_reducible exact (nsC hSpc2 hQqc2).elim
    | with_reducible exact absurd hQpc0 hXqc0
    | with_reducible exact absurd hQpc1 hWqc1
    | with_reducible exact (nsC hSqc2 hQpc2).elim
    | with_reducible refine fL_end hL (fun hXpc0 => ?_) (fun hWpc0 hWpc1 => ?_) (fun hSpc0 hSpc1 hSpc2 => ?_) (fun hQpc0 hQpc1 hQpr hQpc2 hQpw hQph hQpo => ?_)
    | with_reducible refine fX3_end (LW.ms hL) (fun hXqc0 hXqw hXqh => ?_) (fun hWqc0 hWqc1 hWqw hWqh => ?_) (fun hSqc0 hSqc1 hSqc2 hSqw hSqh => ?_) (fun hQqc0 hQqc1 hQqr hQqc2 hQqw hQqh => ?_)
    | with_reducible refine fX3_end (LW.ms hQph) (fun hXqc0 hXqw hXqh => ?_) (fun hWqc0 hWqc1 hWqw hWqh => ?_) (fun hSqc0 hSqc1 hSqc2 hSqw hSqh => ?_) (fun hQqc0 hQqc1 hQqr hQqc2 hQqw hQqh => ?_)
    | with_reducible refine LW.gz hL (fun _ => trivial)
    | with_reducible refine gi_W hL hb ?_
    | with_reducible refine LW.gz hQph (fun _ => trivial)
    | with_reducible refine gi_W hQph hb ?_
    | with_reducible exact next _ _ _ _ _ _ _ _ (LW.ofM hL hXqh) (by omega) (by omega)
    | with_reducible exact next _ _ _ _ _ _ _ _ (LW.ofM hL hWqh) (by omega) (by omega)
    | with_reducible exact next _ _ _ _ _ _ _ _ (LW.ofM hL hSqh) (by omega) (by omega)
    | with_reducible exact next _ _ _ _ _ _ _ _ (LW.ofM hL hQqh) (by omega) (by omega)
    | with_reducible exact next _ _ _ _ _ _ _ _ (LW.ofM hQph hXqh) (by omega) (by omega)
    | with_reducible exact next _ _ _ _ _ _ _ _ (LW.ofM hQph hWqh) (by omega) (by omega)
    | with_reducible exact next _ _ _ _ _ _ _ _ (LW.ofM hQph hSqh) (by omega) (by omega)
    | with_reducible exact next _ _ _ _ _ _ _ _ (LW.ofM hQph hQqh) (by omega) (by omega)
    | simp only [eL_law_1369, eL_law_1369N, eL_law_1370, eL_law_1370N, eL_law_1371, eL_law_1373, eL_law_1374, eL_law_1375, eL_law_1376, eL_law_1376N, eL_law_1377, eL_law_1379, eL_law_1380, eL_law_1381, eL_law_1382, eL_law_1382N, eL_law_1383, eL_law_1385, eL_law_1386, eL_law_1387, eL_law_1388, eL_law_1391, eL_law_1392, eL_law_1395, eL_law_1396, eL_law_1396N, eL_law_1397RR, eL_law_1397NR, eL_law_1397RN, eL_law_1397NN, eL_law_1400, eL_law_1402, eL_law_1402N, eL_law_1403, eL_law_1403N, eL_law_1404, eL_law_1406, eL_law_1407, eL_law_1408, eL_law_1409, eL_law_1409N, eL_law_1410, eL_law_1412, eL_law_1413, eL_law_1414, eL_law_1415, eL_law_1415N, eL_law_1416, eL_law_1418, eL_law_1419, eL_law_1420, eL_law_1421, eL_law_1424, eL_law_1425, eL_law_1428, eL_law_1429, eL_law_1432, eL_law_1434, ite_le, n45, n54, true_or, or_true, false_or, or_false, false_and, and_false, kx_l, kx_r, go_s, gl_s, gi_s, gb_s2, gb_s3, gq_s, wt_nil, wt_int, wt_long, wt_ref, wt_null, nl_int, nl_long, nl_ref, nl_null, nl_none, rf_n, rf_s, rf_st, tl_s, tl_n, g0, gS, ex1, nb_b, nb_0, nb_1, nf_i, nf_l, nf_ra, nf_ro, nf_na, nf_no, nf_b0, nf_z0, t45_4, t45_5, true_and, and_true, List.set_cons_zero, List.set_cons_succ, List.length_cons, List.length_nil, rd_s, upw_s, ne_eq, not_false_eq_true, Nat.zero_add, Nat.add_zero, if_true, if_false, eq_self, lgz, n12z, n2z, n3z, i00, not_true]
    | split
    | with_reducible intro _
    | omega
set_option maxHeartbeats 4000000 in
theorem cL_25 (hR : RG g) (hb : g.2 b = some (.inl (1, L, .inl xs))) (hL : LW g w x nA cA lA y nM o kn kn th s s) (v1 : vp_in (i + 1) L) (v2 : vp_in (i + 2) L) (v3 : vp_in (i + 3) L) (v4 : vp_in (i + 4) L) (v5 : vp_in (i + 5) L) (hk : k + 114 ≤ 58408) (hn : n + 2834 ≤ 1451408) (next : (∀ (l5' l6' : Option Value) (w' : Hw) (k' n' : Nat) (kn' th' : Int32) (s' : AS), LW g w' x nA cA lA y nM o kn' kn' th' s' s' → k' ≤ k + 114 → n' ≤ n + 2834 → WP (ML_law g) QLaw (2246, [some (.ref b), some (.ref x), some (.ref y), some (.ref o), some (.int i), l5', l6'], [], w', k', n'))) : WP (ML_law g) QLaw (1437, [some (.ref b), some (.ref x), some (.ref y), some (.ref o), some (.int i), l5, l6], [], w, k, n) := by
  repeat' first
    | with_reducible assumption
    | with_reducible refine And.intro ?_ ?_
    | with_reducible refine gi_W hL hb ?_
    | with_reducible refine LW.gx hL (fun _ => trivial)
    | cases Option.some.inj (hQpc3.symm.trans hQqc3); clear hQqc3
    | with_reducible exact absurd (And.intro hWqc0 hWqc1) hXpc0
    | with_reducible exact absurd (And.intro hSqc0 hSqc1) hXpc0
    | with_reducible exact absurd (And.intro hQqc0 hQqc1) hXpc0
    | with_reducible exact absurd (And.intro hWpc0 hWpc1) hXqc0
    | with_reducible exact absurd hSqc2 hWpc2
    | with_reducible exact absurd hQqc2 hWpc2
    | with_reducible exact absurd (And.intro hSpc0 hSpc1) hXqc0
    | with_reducible exact absurd hSpc2 hWqc2
    | with_reducible exact (nsC hSpc3 hQqc3).elim
    | with_reducible exact absurd (And.intro hQpc0 hQpc1) hXqc0
    | with_reducible exact absurd hQpc2 hWqc2
    | with_reducible exact (nsC hSqc3 hQpc3).elim
    | with_reducible refine fL_take hL (fun hXpc0 => ?_) (fun hWpc0 hWpc1 hWpc2 => ?_) (fun hSpc0 hSpc1 hSpc2 hSpc3 => ?_) (fun hQpc0 hQpc1 hQpc2 hQpr hQpc3 hQpw hQph hQpo => ?_)
    | with_reducible refine fX3_take (LW.ms hL) (fun hXqc0 hXqw hXqh => ?_) (fun hWqc0 hWqc1 hWqc2 hWqw hWqh => ?_) (fun hSqc0 hSqc1 hSqc2 hSqc3 hSqw hSqh => ?_) (fun hQqc0 hQqc1 hQqc2 hQqr hQqc3 hQqw hQqh => ?_)
    | with_reducible refine fX3_take (LW.ms hQph) (fun hXqc0 hXqw hXqh => ?_) (fun hWqc0 hWqc1 hWqc2 hWqw hWqh => ?_) (fun hSqc0 hSqc1 hSqc2 hSqc3 hSqw hSqh => ?_) (fun hQqc0 hQqc1 hQqc2 hQqr hQqc3 hQqw hQqh => ?_)
    | with_reducible refine LW.gz hL (fun _ => trivial)
    | with_reducible refine gi_W hL hb ?_
    | with_reducible refine LW.gz hQph (fun _ => trivial)
    | with_reducible refine gi_W hQph hb ?_
    | with_reducible exact next _ _ _ _ _ _ _ _ (LW.ofM hL hXqh) (by omega) (by omega)
    | with_reducible exact next _ _ _ _ _ _ _ _ (LW.ofM hL hWqh) (by omega) (by omega)
    | with_reducible exact next _ _ _ _ _ _ _ _ (LW.ofM hL hSqh) (by omega) (by omega)
    | with_reducible exact next _ _ _ _ _ _ _ _ (LW.ofM hL hQqh) (by omega) (by omega)
    | with_reducible exact next _ _ _ _ _ _ _ _ (LW.ofM hQph hXqh) (by omega) (by omega)
    | with_reducible exact next _ _ _ _ _ _ _ _ (LW.ofM hQph hWqh) (by omega) (by omega)
    | with_reducible exact next _ _ _ _ _ _ _ _ (LW.ofM hQph hSqh) (by omega) (by omega)
    | with_reducible exact next _ _ _ _ _ _ _ _ (LW.ofM hQph hQqh) (by omega) (by omega)
    | simp only [eL_law_1437, eL_law_1437N, eL_law_1438, eL_law_1438N, eL_law_1439, eL_law_1441, eL_law_1442, eL_law_1443, eL_law_1444, eL_law_1444N, eL_law_1445, eL_law_1447, eL_law_1448, eL_law_1449, eL_law_1450, eL_law_1450N, eL_law_1451, eL_law_1453, eL_law_1454, eL_law_1455, eL_law_1456, eL_law_1456N, eL_law_1457RR, eL_law_1457NR, eL_law_1457RN, eL_law_1457NN, eL_law_1460, eL_law_1462, eL_law_1462N, eL_law_1463, eL_law_1463N, eL_law_1464, eL_law_1466, eL_law_1467, eL_law_1468, eL_law_1469, eL_law_1469N, eL_law_1470, eL_law_1472, eL_law_1473, eL_law_1474, eL_law_1475, eL_law_1475N, eL_law_1476, eL_law_1478, eL_law_1479, eL_law_1480, eL_law_1481, eL_law_1484, eL_law_1486, ite_le, n45, n54, true_or, or_true, false_or, or_false, false_and, and_false, kx_l, kx_r, go_s, gl_s, gi_s, gb_s2, gb_s3, gq_s, wt_nil, wt_int, wt_long, wt_ref, wt_null, nl_int, nl_long, nl_ref, nl_null, nl_none, rf_n, rf_s, rf_st, tl_s, tl_n, g0, gS, ex1, nb_b, nb_0, nb_1, nf_i, nf_l, nf_ra, nf_ro, nf_na, nf_no, nf_b0, nf_z0, t45_4, t45_5, true_and, and_true, List.set_cons_zero, List.set_cons_succ, List.length_cons, List.length_nil, rd_s, upw_s, ne_eq, not_false_eq_true, Nat.zero_add, Nat.add_zero, if_true, if_false, eq_self, lgz, n12z, n2z, n3z, i00, not_true]
    | split
    | with_reducible intro _
    | omega
set_option maxHeartbeats 4000000 in
theorem cL_26 (hR : RG g) (hb : g.2 b = some (.inl (1, L, .inl xs))) (hL : LW g w x nA cA lA y nM o kn kn th s s) (v1 : vp_in (i + 1) L) (v2 : vp_in (i + 2) L) (v3 : vp_in (i + 3) L) (v4 : vp_in (i + 4) L) (v5 : vp_in (i + 5) L) (hk : k + 114 ≤ 58408) (hn : n + 2834 ≤ 1451408) (next : (∀ (l5' l6' : Option Value) (w' : Hw) (k' n' : Nat) (kn' th' : Int32) (s' : AS), LW g w' x nA cA lA y nM o kn' kn' th' s' s' → k' ≤ k + 114 → n' ≤ n + 2834 → WP (ML_law g) QLaw (2246, [some (.ref b), some (.ref x), some (.ref y), some (.ref o), some (.int i), l5', l6'], [], w', k', n'))) : WP (ML_law g) QLaw (1489, [some (.ref b), some (.ref x), some (.ref y), some (.ref o), some (.int i), l5, l6], [], w, k, n) := by
  repeat' first
    | with_reducible assumption
    | with_reducible refine And.intro ?_ ?_
    | with_reducible refine gi_W hL hb ?_
    | with_reducible refine LW.gx hL (fun _ => trivial)
    | with_reducible refine gL_cardText hR hL (fun v1 w1 h1 => ?_)
    | with_reducible refine gX3_cardText (LW.ms h1) hR.sg (hR.dg (LW.ro h1)) (hR.tx (LW.ro h1)) (fun v2 t2 w2 m2 => ?_)
    | with_reducible refine LW.gz h1 (fun _ => trivial)
    | with_reducible refine gi_W h1 hb ?_
    | with_reducible exact next _ _ _ _ _ _ _ _ (LW.ofM h1 m2) (by omega) (by omega)
    | simp only [eL_law_1489, eL_law_1489N, eL_law_1490, eL_law_1490N, eL_law_1491, eL_law_1493, eL_law_1494, eL_law_1495, eL_law_1496, eL_law_1496N, eL_law_1497RR, eL_law_1497NR, eL_law_1497RN, eL_law_1497NN, eL_law_1500, eL_law_1502, eL_law_1502N, eL_law_1503, eL_law_1503N, eL_law_1504, eL_law_1506, eL_law_1507, eL_law_1508, eL_law_1509, eL_law_1512, eL_law_1512N, eL_law_1514, ite_le, n45, n54, true_or, or_true, false_or, or_false, false_and, and_false, kx_l, kx_r, go_s, gl_s, gi_s, gb_s2, gb_s3, gq_s, wt_nil, wt_int, wt_long, wt_ref, wt_null, nl_int, nl_long, nl_ref, nl_null, nl_none, rf_n, rf_s, rf_st, tl_s, tl_n, g0, gS, ex1, nb_b, nb_0, nb_1, nf_i, nf_l, nf_ra, nf_ro, nf_na, nf_no, nf_b0, nf_z0, t45_4, t45_5, true_and, and_true, List.set_cons_zero, List.set_cons_succ, List.length_cons, List.length_nil, rd_s, upw_s, ne_eq, not_false_eq_true, Nat.zero_add, Nat.add_zero, if_true, if_false, eq_self, lgz, n12z, n2z, n3z, i00, not_true]
    | split
    | with_reducible intro _
    | omega
set_option maxHeartbeats 4000000 in
theorem cL_27 (hR : RG g) (hb : g.2 b = some (.inl (1, L, .inl xs))) (hL : LW g w x nA cA lA y nM o kn kn th s s) (v1 : vp_in (i + 1) L) (v2 : vp_in (i + 2) L) (v3 : vp_in (i + 3) L) (v4 : vp_in (i + 4) L) (v5 : vp_in (i + 5) L) (hk : k + 114 ≤ 58408) (hn : n + 2834 ≤ 1451408) (next : (∀ (l5' l6' : Option Value) (w' : Hw) (k' n' : Nat) (kn' th' : Int32) (s' : AS), LW g w' x nA cA lA y nM o kn' kn' th' s' s' → k' ≤ k + 114 → n' ≤ n + 2834 → WP (ML_law g) QLaw (2246, [some (.ref b), some (.ref x), some (.ref y), some (.ref o), some (.int i), l5', l6'], [], w', k', n'))) : WP (ML_law g) QLaw (1517, [some (.ref b), some (.ref x), some (.ref y), some (.ref o), some (.int i), l5, l6], [], w, k, n) := by
  repeat' first
    | with_reducible assumption
    | with_reducible refine And.intro ?_ ?_
    | with_reducible refine gi_W hL hb ?_
    | with_reducible refine LW.gx hL (fun _ => trivial)
    | cases Option.some.inj (hTpc2.symm.trans hTqc2); clear hTqc2
    | cases Option.some.inj (hTpc2.symm.trans hFqc2); clear hFqc2
    | cases Option.some.inj (hFpc2.symm.trans hTqc2); clear hTqc2
    | cases Option.some.inj (hFpc2.symm.trans hFqc2); clear hFqc2
    | with_reducible exact absurd (And.intro hSqc0 hSqc1) hXpc0
    | with_reducible exact absurd (And.intro hTqc0 hTqc1) hXpc0
    | with_reducible exact absurd (And.intro hFqc0 hFqc1) hXpc0
    | with_reducible exact absurd (And.intro hSpc0 hSpc1) hXqc0
    | with_reducible exact (nsC hSpc2 hTqc2).elim
    | with_reducible exact (nsC hSpc2 hFqc2).elim
    | with_reducible exact absurd (And.intro hTpc0 hTpc1) hXqc0
    | with_reducible exact (nsC hSqc2 hTpc2).elim
    | with_reducible exact absurd hTpc3 hFqc3
    | with_reducible exact absurd (And.intro hFpc0 hFpc1) hXqc0
    | with_reducible exact (nsC hSqc2 hFpc2).elim
    | with_reducible exact absurd hTqc3 hFpc3
    | with_reducible refine fL_isValid hL (fun hXpc0 => ?_) (fun hSpc0 hSpc1 hSpc2 => ?_) (fun hTpc0 hTpc1 hTpr hTpc2 hTpc3 hTpw hTph hTpo => ?_) (fun hFpc0 hFpc1 hFpr hFpc2 hFpc3 hFpw hFph hFpo => ?_)
    | with_reducible refine fX3_isValid (LW.ms hFph) (fun hXqc0 hXqw hXqh => ?_) (fun hSqc0 hSqc1 hSqc2 hSqw hSqh => ?_) (fun hTqc0 hTqc1 hTqr hTqc2 hTqc3 hTqw hTqh => ?_) (fun hFqc0 hFqc1 hFqr hFqc2 hFqc3 hFqw hFqh => ?_)
    | with_reducible refine fX3_isValid (LW.ms hL) (fun hXqc0 hXqw hXqh => ?_) (fun hSqc0 hSqc1 hSqc2 hSqw hSqh => ?_) (fun hTqc0 hTqc1 hTqr hTqc2 hTqc3 hTqw hTqh => ?_) (fun hFqc0 hFqc1 hFqr hFqc2 hFqc3 hFqw hFqh => ?_)
    | with_reducible refine fX3_isValid (LW.ms hTph) (fun hXqc0 hXqw hXqh => ?_) (fun hSqc0 hSqc1 hSqc2 hSqw hSqh => ?_) (fun hTqc0 hTqc1 hTqr hTqc2 hTqc3 hTqw hTqh => ?_) (fun hFqc0 hFqc1 hFqr hFqc2 hFqc3 hFqw hFqh => ?_)
    | with_reducible refine LW.gz hFph (fun _ => trivial)
    | with_reducible refine gi_W hFph hb ?_
    | with_reducible refine LW.gz hL (fun _ => trivial)
    | with_reducible refine gi_W hL hb ?_
    | with_reducible refine LW.gz hTph (fun _ => trivial)
    | with_reducible refine gi_W hTph hb ?_
    | with_reducible exact next _ _ _ _ _ _ _ _ (LW.ofM hL hXqh) (by omega) (by omega)
    | with_reducible exact next _ _ _ _ _ _ _ _ (LW.ofM hL hSqh) (by omega) (by omega)
    | with_reducible exact next _ _ _ _ _ _ _ _ (LW.ofM hL hTqh) (by omega) (by omega)
    | with_reducible exact next _ _ _ _ _ _ _ _ (LW.ofM hL hFqh) (by omega) (by omega)
    | with_reducible exact next _ _ _ _ _ _ _ _ (LW.ofM hTph hXqh) (by omega) (by omega)
    | with_reducible exact next _ _ _ _ _ _ _ _ (LW.ofM hTph hSqh) (by omega) (by omega)
    | with_reducible exact next _ _ _ _ _ _ _ _ (LW.ofM hTph hTqh) (by omega) (by omega)
    | with_reducible exact next _ _ _ _ _ _ _ _ (LW.ofM hTph hFqh) (by omega) (by omega)
    | with_reducible exact next _ _ _ _ _ _ _ _ (LW.ofM hFph hXqh) (by omega) (by omega)
    | with_reducible exact next _ _ _ _ _ _ _ _ (LW.ofM hFph hSqh) (by omega) (by omega)
    | with_reducible exact next _ _ _ _ _ _ _ _ (LW.ofM hFph hTqh) (by omega) (by omega)
    | with_reducible exact next _ _ _ _ _ _ _ _ (LW.ofM hFph hFqh) (by omega) (by omega)
    | simp only [eL_law_1517, eL_law_1517N, eL_law_1518, eL_law_1518N, eL_law_1519, eL_law_1521, eL_law_1522, eL_law_1523, eL_law_1524, eL_law_1524N, eL_law_1525, eL_law_1527, eL_law_1528, eL_law_1529, eL_law_1530, eL_law_1530N, eL_law_1531RR, eL_law_1531NR, eL_law_1531RN, eL_law_1531NN, eL_law_1534, eL_law_1536, eL_law_1536N, eL_law_1537, eL_law_1537N, eL_law_1538, eL_law_1540, eL_law_1541, eL_law_1542, eL_law_1543, eL_law_1543N, eL_law_1544, eL_law_1546, eL_law_1547, eL_law_1548, eL_law_1549, eL_law_1552, eL_law_1554, ite_le, n45, n54, true_or, or_true, false_or, or_false, false_and, and_false, kx_l, kx_r, go_s, gl_s, gi_s, gb_s2, gb_s3, gq_s, wt_nil, wt_int, wt_long, wt_ref, wt_null, nl_int, nl_long, nl_ref, nl_null, nl_none, rf_n, rf_s, rf_st, tl_s, tl_n, g0, gS, ex1, nb_b, nb_0, nb_1, nf_i, nf_l, nf_ra, nf_ro, nf_na, nf_no, nf_b0, nf_z0, t45_4, t45_5, true_and, and_true, List.set_cons_zero, List.set_cons_succ, List.length_cons, List.length_nil, rd_s, upw_s, ne_eq, not_false_eq_true, Nat.zero_add, Nat.add_zero, if_true, if_false, eq_self, lgz, n12z, n2z, n3z, i00, not_true]
    | split
    | with_reducible intro _
    | omega
set_option maxHeartbeats 4000000 in
theorem cL_28 (hR : RG g) (hb : g.2 b = some (.inl (1, L, .inl xs))) (hL : LW g w x nA cA lA y nM o kn kn th s s) (v1 : vp_in (i + 1) L) (v2 : vp_in (i + 2) L) (v3 : vp_in (i + 3) L) (v4 : vp_in (i + 4) L) (v5 : vp_in (i + 5) L) (hk : k + 114 ≤ 58408) (hn : n + 2834 ≤ 1451408) (next : (∀ (l5' l6' : Option Value) (w' : Hw) (k' n' : Nat) (kn' th' : Int32) (s' : AS), LW g w' x nA cA lA y nM o kn' kn' th' s' s' → k' ≤ k + 114 → n' ≤ n + 2834 → WP (ML_law g) QLaw (2246, [some (.ref b), some (.ref x), some (.ref y), some (.ref o), some (.int i), l5', l6'], [], w', k', n'))) : WP (ML_law g) QLaw (1557, [some (.ref b), some (.ref x), some (.ref y), some (.ref o), some (.int i), l5, l6], [], w, k, n) := by
  repeat' first
    | with_reducible assumption
    | with_reducible refine And.intro ?_ ?_
    | with_reducible refine gi_W hL hb ?_
    | with_reducible refine LW.gx hL (fun _ => trivial)
    | cases Option.some.inj (hTpc2.symm.trans hTqc2); clear hTqc2
    | cases Option.some.inj (hTpc2.symm.trans hFqc2); clear hFqc2
    | cases Option.some.inj (hFpc2.symm.trans hTqc2); clear hTqc2
    | cases Option.some.inj (hFpc2.symm.trans hFqc2); clear hFqc2
    | with_reducible exact absurd (And.intro hSqc0 hSqc1) hXpc0
    | with_reducible exact absurd (And.intro hTqc0 hTqc1) hXpc0
    | with_reducible exact absurd (And.intro hFqc0 hFqc1) hXpc0
    | with_reducible exact absurd (And.intro hSpc0 hSpc1) hXqc0
    | with_reducible exact (nsC hSpc2 hTqc2).elim
    | with_reducible exact (nsC hSpc2 hFqc2).elim
    | with_reducible exact absurd (And.intro hTpc0 hTpc1) hXqc0
    | with_reducible exact (nsC hSqc2 hTpc2).elim
    | with_reducible exact absurd hTpc3 hFqc3
    | with_reducible exact absurd (And.intro hFpc0 hFpc1) hXqc0
    | with_reducible exact (nsC hSqc2 hFpc2).elim
    | with_reducible exact absurd hTqc3 hFpc3
    | with_reducible refine fL_isValidSmall hL (fun hXpc0 => ?_) (fun hSpc0 hSpc1 hSpc2 => ?_) (fun hTpc0 hTpc1 hTpr hTpc2 hTpc3 hTpw hTph hTpo => ?_) (fun hFpc0 hFpc1 hFpr hFpc2 hFpc3 hFpw hFph hFpo => ?_)
    | with_reducible refine fX3_isValidSmall (LW.ms hFph) (fun hXqc0 hXqw hXqh => ?_) (fun hSqc0 hSqc1 hSqc2 hSqw hSqh => ?_) (fun hTqc0 hTqc1 hTqr hTqc2 hTqc3 hTqw hTqh => ?_) (fun hFqc0 hFqc1 hFqr hFqc2 hFqc3 hFqw hFqh => ?_)
    | with_reducible refine fX3_isValidSmall (LW.ms hL) (fun hXqc0 hXqw hXqh => ?_) (fun hSqc0 hSqc1 hSqc2 hSqw hSqh => ?_) (fun hTqc0 hTqc1 hTqr hTqc2 hTqc3 hTqw hTqh => ?_) (fun hFqc0 hFqc1 hFqr hFqc2 hFqc3 hFqw hFqh => ?_)
    | with_reducible refine fX3_isValidSmall (LW.ms hTph) (fun hXqc0 hXqw hXqh => ?_) (fun hSqc0 hSqc1 hSqc2 hSqw hSqh => ?_) (fun hTqc0 hTqc1 hTqr hTqc2 hTqc3 hTqw hTqh => ?_) (fun hFqc0 hFqc1 hFqr hFqc2 hFqc3 hFqw hFqh => ?_)
    | with_reducible refine LW.gz hFph (fun _ => trivial)
    | with_reducible refine gi_W hFph hb ?_
    | with_reducible refine LW.gz hL (fun _ => trivial)
    | with_reducible refine gi_W hL hb ?_
    | with_reducible refine LW.gz hTph (fun _ => trivial)
    | with_reducible refine gi_W hTph hb ?_
    | with_reducible exact next _ _ _ _ _ _ _ _ (LW.ofM hL hXqh) (by omega) (by omega)
    | with_reducible exact next _ _ _ _ _ _ _ _ (LW.ofM hL hSqh) (by omega) (by omega)
    | with_reducible exact next _ _ _ _ _ _ _ _ (LW.ofM hL hTqh) (by omega) (by omega)
    | with_reducible exact next _ _ _ _ _ _ _ _ (LW.ofM hL hFqh) (by omega) (by omega)
    | with_reducible exact next _ _ _ _ _ _ _ _ (LW.ofM hTph hXqh) (by omega) (by omega)
    | with_reducible exact next _ _ _ _ _ _ _ _ (LW.ofM hTph hSqh) (by omega) (by omega)
    | with_reducible exact next _ _ _ _ _ _ _ _ (LW.ofM hTph hTqh) (by omega) (by omega)
    | with_reducible exact next _ _ _ _ _ _ _ _ (LW.ofM hTph hFqh) (by omega) (by omega)
    | with_reducible exact next _ _ _ _ _ _ _ _ (LW.ofM hFph hXqh) (by omega) (by omega)
    | with_reducible exact next _ _ _ _ _ _ _ _ (LW.ofM hFph hSqh) (by omega) (by omega)
    | with_reducible exact next _ _ _ _ _ _ _ _ (LW.ofM hFph hTqh) (by omega) (by omega)
    | with_reducible exact next _ _ _ _ _ _ _ _ (LW.ofM hFph hFqh) (by omega) (by omega)
    | simp only [eL_law_1557, eL_law_1557N, eL_law_1558, eL_law_1558N, eL_law_1559, eL_law_1561, eL_law_1562, eL_law_1563, eL_law_1564, eL_law_1564N, eL_law_1565, eL_law_1567, eL_law_1568, eL_law_1569, eL_law_1570, eL_law_1570N, eL_law_1571RR, eL_law_1571NR, eL_law_1571RN, eL_law_1571NN, eL_law_1574, eL_law_1576, eL_law_1576N, eL_law_1577, eL_law_1577N, eL_law_1578, eL_law_1580, eL_law_1581, eL_law_1582, eL_law_1583, eL_law_1583N, eL_law_1584, eL_law_1586, eL_law_1587, eL_law_1588, eL_law_1589, eL_law_1592, eL_law_1594, ite_le, n45, n54, true_or, or_true, false_or, or_false, false_and, and_false, kx_l, kx_r, go_s, gl_s, gi_s, gb_s2, gb_s3, gq_s, wt_nil, wt_int, wt_long, wt_ref, wt_null, nl_int, nl_long, nl_ref, nl_null, nl_none, rf_n, rf_s, rf_st, tl_s, tl_n, g0, gS, ex1, nb_b, nb_0, nb_1, nf_i, nf_l, nf_ra, nf_ro, nf_na, nf_no, nf_b0, nf_z0, t45_4, t45_5, true_and, and_true, List.set_cons_zero, List.set_cons_succ, List.length_cons, List.length_nil, rd_s, upw_s, ne_eq, not_false_eq_true, Nat.zero_add, Nat.add_zero, if_true, if_false, eq_self, lgz, n12z, n2z, n3z, i00, not_true]
    | split
    | with_reducible intro _
    | omega
set_option maxHeartbeats 4000000 in
theorem cL_29 (hR : RG g) (hb : g.2 b = some (.inl (1, L, .inl xs))) (hL : LW g w x nA cA lA y nM o kn kn th s s) (v1 : vp_in (i + 1) L) (v2 : vp_in (i + 2) L) (v3 : vp_in (i + 3) L) (v4 : vp_in (i + 4) L) (v5 : vp_in (i + 5) L) (hk : k + 114 ≤ 58408) (hn : n + 2834 ≤ 1451408) (next : (∀ (l5' l6' : Option Value) (w' : Hw) (k' n' : Nat) (kn' th' : Int32) (s' : AS), LW g w' x nA cA lA y nM o kn' kn' th' s' s' → k' ≤ k + 114 → n' ≤ n + 2834 → WP (ML_law g) QLaw (2246, [some (.ref b), some (.ref x), some (.ref y), some (.ref o), some (.int i), l5', l6'], [], w', k', n'))) : WP (ML_law g) QLaw (1597, [some (.ref b), some (.ref x), some (.ref y), some (.ref o), some (.int i), l5, l6], [], w, k, n) := by
  repeat' first
    | with_reducible assumption
    | with_reducible refine And.intro ?_ ?_
    | with_reducible refine gi_W hL hb ?_
    | with_reducible refine LW.gx hL (fun _ => trivial)
    | with_reducible refine fL_whichValid hL (fun hXpc0 => ?_) (fun hSpc0 hSpc1 => ?_) (fun hQpc0 hQpr hQpc1 hQpw hQph hQpo => ?_)
    | with_reducible refine gX3_whichValid (LW.ms hL) (fun v2 t2 w2 m2 => ?_)
    | with_reducible refine gX3_whichValid (LW.ms hQph) (fun v2 t2 w2 m2 => ?_)
    | with_reducible refine LW.gz hL (fun _ => trivial)
    | with_reducible refine gi_W hL hb ?_
    | with_reducible refine LW.gz hQph (fun _ => trivial)
    | with_reducible refine gi_W hQph hb ?_
    | with_reducible exact next _ _ _ _ _ _ _ _ (LW.ofM hL m2) (by omega) (by omega)
    | with_reducible exact next _ _ _ _ _ _ _ _ (LW.ofM hQph m2) (by omega) (by omega)
    | simp only [eL_law_1597, eL_law_1597N, eL_law_1598, eL_law_1598N, eL_law_1599, eL_law_1601, eL_law_1602, eL_law_1603, eL_law_1604, eL_law_1604N, eL_law_1605, eL_law_1607, eL_law_1608, eL_law_1609, eL_law_1610, eL_law_1610N, eL_law_1611RR, eL_law_1611NR, eL_law_1611RN, eL_law_1611NN, eL_law_1614, eL_law_1616, eL_law_1616N, eL_law_1617, eL_law_1617N, eL_law_1618, eL_law_1620, eL_law_1621, eL_law_1622, eL_law_1623, eL_law_1623N, eL_law_1624, eL_law_1626, eL_law_1627, eL_law_1628, eL_law_1629, eL_law_1632, eL_law_1634, ite_le, n45, n54, true_or, or_true, false_or, or_false, false_and, and_false, kx_l, kx_r, go_s, gl_s, gi_s, gb_s2, gb_s3, gq_s, wt_nil, wt_int, wt_long, wt_ref, wt_null, nl_int, nl_long, nl_ref, nl_null, nl_none, rf_n, rf_s, rf_st, tl_s, tl_n, g0, gS, ex1, nb_b, nb_0, nb_1, nf_i, nf_l, nf_ra, nf_ro, nf_na, nf_no, nf_b0, nf_z0, t45_4, t45_5, true_and, and_true, List.set_cons_zero, List.set_cons_succ, List.length_cons, List.length_nil, rd_s, upw_s, ne_eq, not_false_eq_true, Nat.zero_add, Nat.add_zero, if_true, if_false, eq_self, lgz, n12z, n2z, n3z, i00, not_true]
    | split
    | with_reducible intro _
    | omega
set_option maxHeartbeats 4000000 in
theorem cL_30 (hR : RG g) (hb : g.2 b = some (.inl (1, L, .inl xs))) (hL : LW g w x nA cA lA y nM o kn kn th s s) (v1 : vp_in (i + 1) L) (v2 : vp_in (i + 2) L) (v3 : vp_in (i + 3) L) (v4 : vp_in (i + 4) L) (v5 : vp_in (i + 5) L) (hk : k + 114 ≤ 58408) (hn : n + 2834 ≤ 1451408) (next : (∀ (l5' l6' : Option Value) (w' : Hw) (k' n' : Nat) (kn' th' : Int32) (s' : AS), LW g w' x nA cA lA y nM o kn' kn' th' s' s' → k' ≤ k + 114 → n' ≤ n + 2834 → WP (ML_law g) QLaw (2246, [some (.ref b), some (.ref x), some (.ref y), some (.ref o), some (.int i), l5', l6'], [], w', k', n'))) : WP (ML_law g) QLaw (1637, [some (.ref b), some (.ref x), some (.ref y), some (.ref o), some (.int i), l5, l6], [], w, k, n) := by
  repeat' first
    | with_reducible assumption
    | with_reducible refine And.intro ?_ ?_
    | with_reducible refine gi_W hL hb ?_
    | with_reducible refine LW.gx hL (fun _ => trivial)
    | with_reducible refine fL_around hL (fun hXpc0 => ?_) (fun hWpc0 hWpc1 => ?_) (fun hSpc0 hSpc1 hSpc2 => ?_) (fun hQpc0 hQpc1 hQpr hQpc2 hQpw hQph hQpo => ?_)
    | with_reducible refine gX3_around (LW.ms hL) (fun v2 t2 w2 m2 => ?_)
    | with_reducible refine gX3_around (LW.ms hQph) (fun v2 t2 w2 m2 => ?_)
    | with_reducible refine LW.gz hL (fun _ => trivial)
    | with_reducible refine gi_W hL hb ?_
    | with_reducible refine LW.gz hQph (fun _ => trivial)
    | with_reducible refine gi_W hQph hb ?_
    | with_reducible exact next _ _ _ _ _ _ _ _ (LW.ofM hL m2) (by omega) (by omega)
    | with_reducible exact next _ _ _ _ _ _ _ _ (LW.ofM hQph m2) (by omega) (by omega)
    | simp only [eL_law_1637, eL_law_1637N, eL_law_1638, eL_law_1638N, eL_law_1639, eL_law_1641, eL_law_1642, eL_law_1643, eL_law_1644, eL_law_1644N, eL_law_1645, eL_law_1647, eL_law_1648, eL_law_1649, eL_law_1650, eL_law_1650N, eL_law_1651, eL_law_1653, eL_law_1654, eL_law_1655, eL_law_1656, eL_law_1659, eL_law_1660, eL_law_1663, eL_law_1664, eL_law_1664N, eL_law_1665RR, eL_law_1665NR, eL_law_1665RN, eL_law_1665NN, eL_law_1668, eL_law_1670, eL_law_1670N, eL_law_1671, eL_law_1671N, eL_law_1672, eL_law_1674, eL_law_1675, eL_law_1676, eL_law_1677, eL_law_1677N, eL_law_1678, eL_law_1680, eL_law_1681, eL_law_1682, eL_law_1683, eL_law_1683N, eL_law_1684, eL_law_1686, eL_law_1687, eL_law_1688, eL_law_1689, eL_law_1692, eL_law_1693, eL_law_1696, eL_law_1697, eL_law_1700, eL_law_1702, ite_le, n45, n54, true_or, or_true, false_or, or_false, false_and, and_false, kx_l, kx_r, go_s, gl_s, gi_s, gb_s2, gb_s3, gq_s, wt_nil, wt_int, wt_long, wt_ref, wt_null, nl_int, nl_long, nl_ref, nl_null, nl_none, rf_n, rf_s, rf_st, tl_s, tl_n, g0, gS, ex1, nb_b, nb_0, nb_1, nf_i, nf_l, nf_ra, nf_ro, nf_na, nf_no, nf_b0, nf_z0, t45_4, t45_5, true_and, and_true, List.set_cons_zero, List.set_cons_succ, List.length_cons, List.length_nil, rd_s, upw_s, ne_eq, not_false_eq_true, Nat.zero_add, Nat.add_zero, if_true, if_false, eq_self, lgz, n12z, n2z, n3z, i00, not_true]
    | split
    | with_reducible intro _
    | omega
set_option maxHeartbeats 4000000 in
theorem cL_31 (hR : RG g) (hb : g.2 b = some (.inl (1, L, .inl xs))) (hL : LW g w x nA cA lA y nM o kn kn th s s) (v1 : vp_in (i + 1) L) (v2 : vp_in (i + 2) L) (v3 : vp_in (i + 3) L) (v4 : vp_in (i + 4) L) (v5 : vp_in (i + 5) L) (hk : k + 114 ≤ 58408) (hn : n + 2834 ≤ 1451408) (next : (∀ (l5' l6' : Option Value) (w' : Hw) (k' n' : Nat) (kn' th' : Int32) (s' : AS), LW g w' x nA cA lA y nM o kn' kn' th' s' s' → k' ≤ k + 114 → n' ≤ n + 2834 → WP (ML_law g) QLaw (2246, [some (.ref b), some (.ref x), some (.ref y), some (.ref o), some (.int i), l5', l6'], [], w', k', n'))) : WP (ML_law g) QLaw (1705, [some (.ref b), some (.ref x), some (.ref y), some (.ref o), some (.int i), l5, l6], [], w, k, n) := by
  repeat' first
    | with_reducible assumption
    | with_reducible refine And.intro ?_ ?_
    | with_reducible refine gi_W hL hb ?_
    | with_reducible refine LW.gx hL (fun _ => trivial)
    | with_reducible refine gL_count hR hL (fun v1 w1 h1 => ?_)
    | with_reducible refine gX3_count (LW.ms h1) (fun v2 t2 w2 m2 => ?_)
    | with_reducible refine LW.gz h1 (fun _ => trivial)
    | with_reducible refine gi_W h1 hb ?_
    | with_reducible exact next _ _ _ _ _ _ _ _ (LW.ofM h1 m2) (by omega) (by omega)
    | simp only [eL_law_1705, eL_law_1705N, eL_law_1706, eL_law_1706N, eL_law_1707, eL_law_1709, eL_law_1710, eL_law_1711, eL_law_1712, eL_law_1712N, eL_law_1713, eL_law_1715, eL_law_1716, eL_law_1717, eL_law_1718, eL_law_1718N, eL_law_1719, eL_law_1721, eL_law_1722, eL_law_1723, eL_law_1724, eL_law_1724N, eL_law_1725RR, eL_law_1725NR, eL_law_1725RN, eL_law_1725NN, eL_law_1728, eL_law_1730, eL_law_1730N, eL_law_1731, eL_law_1731N, eL_law_1732, eL_law_1734, eL_law_1735, eL_law_1736, eL_law_1737, eL_law_1737N, eL_law_1738, eL_law_1740, eL_law_1741, eL_law_1742, eL_law_1743, eL_law_1743N, eL_law_1744, eL_law_1746, eL_law_1747, eL_law_1748, eL_law_1749, eL_law_1752, eL_law_1754, ite_le, n45, n54, true_or, or_true, false_or, or_false, false_and, and_false, kx_l, kx_r, go_s, gl_s, gi_s, gb_s2, gb_s3, gq_s, wt_nil, wt_int, wt_long, wt_ref, wt_null, nl_int, nl_long, nl_ref, nl_null, nl_none, rf_n, rf_s, rf_st, tl_s, tl_n, g0, gS, ex1, nb_b, nb_0, nb_1, nf_i, nf_l, nf_ra, nf_ro, nf_na, nf_no, nf_b0, nf_z0, t45_4, t45_5, true_and, and_true, List.set_cons_zero, List.set_cons_succ, List.length_cons, List.length_nil, rd_s, upw_s, ne_eq, not_false_eq_true, Nat.zero_add, Nat.add_zero, if_true, if_false, eq_self, lgz, n12z, n2z, n3z, i00, not_true]
    | split
    | with_reducible intro _
    | omega
set_option maxHeartbeats 4000000 in
theorem cL_32 (hR : RG g) (hb : g.2 b = some (.inl (1, L, .inl xs))) (hL : LW g w x nA cA lA y nM o kn kn th s s) (v1 : vp_in (i + 1) L) (v2 : vp_in (i + 2) L) (v3 : vp_in (i + 3) L) (v4 : vp_in (i + 4) L) (v5 : vp_in (i + 5) L) (hk : k + 114 ≤ 58408) (hn : n + 2834 ≤ 1451408) (next : (∀ (l5' l6' : Option Value) (w' : Hw) (k' n' : Nat) (kn' th' : Int32) (s' : AS), LW g w' x nA cA lA y nM o kn' kn' th' s' s' → k' ≤ k + 114 → n' ≤ n + 2834 → WP (ML_law g) QLaw (2246, [some (.ref b), some (.ref x), some (.ref y), some (.ref o), some (.int i), l5', l6'], [], w', k', n'))) : WP (ML_law g) QLaw (1757, [some (.ref b), some (.ref x), some (.ref y), some (.ref o), some (.int i), l5, l6], [], w, k, n) := by
  repeat' first
    | with_reducible assumption
    | with_reducible refine And.intro ?_ ?_
    | with_reducible refine gi_W hL hb ?_
    | with_reducible refine LW.gx hL (fun _ => trivial)
    | with_reducible refine gL_who hR hL (fun v1 w1 h1 => ?_)
    | with_reducible refine gX3_who (LW.ms h1) (fun v2 t2 w2 m2 => ?_)
    | with_reducible refine LW.gz h1 (fun _ => trivial)
    | with_reducible refine gi_W h1 hb ?_
    | with_reducible exact next _ _ _ _ _ _ _ _ (LW.ofM h1 m2) (by omega) (by omega)
    | simp only [eL_law_1757, eL_law_1757N, eL_law_1758, eL_law_1758N, eL_law_1759, eL_law_1761, eL_law_1762, eL_law_1763, eL_law_1764, eL_law_1764N, eL_law_1765, eL_law_1767, eL_law_1768, eL_law_1769, eL_law_1770, eL_law_1770N, eL_law_1771RR, eL_law_1771NR, eL_law_1771RN, eL_law_1771NN, eL_law_1774, eL_law_1776, eL_law_1776N, eL_law_1777, eL_law_1777N, eL_law_1778, eL_law_1780, eL_law_1781, eL_law_1782, eL_law_1783, eL_law_1783N, eL_law_1784, eL_law_1786, eL_law_1787, eL_law_1788, eL_law_1789, eL_law_1792, eL_law_1794, ite_le, n45, n54, true_or, or_true, false_or, or_false, false_and, and_false, kx_l, kx_r, go_s, gl_s, gi_s, gb_s2, gb_s3, gq_s, wt_nil, wt_int, wt_long, wt_ref, wt_null, nl_int, nl_long, nl_ref, nl_null, nl_none, rf_n, rf_s, rf_st, tl_s, tl_n, g0, gS, ex1, nb_b, nb_0, nb_1, nf_i, nf_l, nf_ra, nf_ro, nf_na, nf_no, nf_b0, nf_z0, t45_4, t45_5, true_and, and_true, List.set_cons_zero, List.set_cons_succ, List.length_cons, List.length_nil, rd_s, upw_s, ne_eq, not_false_eq_true, Nat.zero_add, Nat.add_zero, if_true, if_false, eq_self, lgz, n12z, n2z, n3z, i00, not_true]
    | split
    | with_reducible intro _
    | omega
set_option maxHeartbeats 4000000 in
theorem cL_33 (hR : RG g) (hb : g.2 b = some (.inl (1, L, .inl xs))) (hL : LW g w x nA cA lA y nM o kn kn th s s) (v1 : vp_in (i + 1) L) (v2 : vp_in (i + 2) L) (v3 : vp_in (i + 3) L) (v4 : vp_in (i + 4) L) (v5 : vp_in (i + 5) L) (hk : k + 114 ≤ 58408) (hn : n + 2834 ≤ 1451408) (next : (∀ (l5' l6' : Option Value) (w' : Hw) (k' n' : Nat) (kn' th' : Int32) (s' : AS), LW g w' x nA cA lA y nM o kn' kn' th' s' s' → k' ≤ k + 114 → n' ≤ n + 2834 → WP (ML_law g) QLaw (2246, [some (.ref b), some (.ref x), some (.ref y), some (.ref o), some (.int i), l5', l6'], [], w', k', n'))) : WP (ML_law g) QLaw (1797, [some (.ref b), some (.ref x), some (.ref y), some (.ref o), some (.int i), l5, l6], [], w, k, n) := by
  repeat' first
    | with_reducible assumption
    | with_reducible refine And.intro ?_ ?_
    | with_reducible refine gi_W hL hb ?_
    | with_reducible refine LW.gx hL (fun _ => trivial)
    | with_reducible refine gL_which hR hL (fun v1 w1 h1 => ?_)
    | with_reducible refine gX3_which (LW.ms h1) (fun v2 t2 w2 m2 => ?_)
    | with_reducible refine LW.gz h1 (fun _ => trivial)
    | with_reducible refine gi_W h1 hb ?_
    | with_reducible exact next _ _ _ _ _ _ _ _ (LW.ofM h1 m2) (by omega) (by omega)
    | simp only [eL_law_1797, eL_law_1797N, eL_law_1798, eL_law_1798N, eL_law_1799, eL_law_1801, eL_law_1802, eL_law_1803, eL_law_1804, eL_law_1804N, eL_law_1805RR, eL_law_1805NR, eL_law_1805RN, eL_law_1805NN, eL_law_1808, eL_law_1810, eL_law_1810N, eL_law_1811, eL_law_1811N, eL_law_1812, eL_law_1814, eL_law_1815, eL_law_1816, eL_law_1817, eL_law_1820, eL_law_1822, ite_le, n45, n54, true_or, or_true, false_or, or_false, false_and, and_false, kx_l, kx_r, go_s, gl_s, gi_s, gb_s2, gb_s3, gq_s, wt_nil, wt_int, wt_long, wt_ref, wt_null, nl_int, nl_long, nl_ref, nl_null, nl_none, rf_n, rf_s, rf_st, tl_s, tl_n, g0, gS, ex1, nb_b, nb_0, nb_1, nf_i, nf_l, nf_ra, nf_ro, nf_na, nf_no, nf_b0, nf_z0, t45_4, t45_5, true_and, and_true, List.set_cons_zero, List.set_cons_succ, List.length_cons, List.length_nil, rd_s, upw_s, ne_eq, not_false_eq_true, Nat.zero_add, Nat.add_zero, if_true, if_false, eq_self, lgz, n12z, n2z, n3z, i00, not_true]
    | split
    | with_reducible intro _
    | omega
set_option maxHeartbeats 4000000 in
theorem cL_34 (hR : RG g) (hb : g.2 b = some (.inl (1, L, .inl xs))) (hL : LW g w x nA cA lA y nM o kn kn th s s) (v1 : vp_in (i + 1) L) (v2 : vp_in (i + 2) L) (v3 : vp_in (i + 3) L) (v4 : vp_in (i + 4) L) (v5 : vp_in (i + 5) L) (hk : k + 114 ≤ 58408) (hn : n + 2834 ≤ 1451408) (next : (∀ (l5' l6' : Option Value) (w' : Hw) (k' n' : Nat) (kn' th' : Int32) (s' : AS), LW g w' x nA cA lA y nM o kn' kn' th' s' s' → k' ≤ k + 114 → n' ≤ n + 2834 → WP (ML_law g) QLaw (2246, [some (.ref b), some (.ref x), some (.ref y), some (.ref o), some (.int i), l5', l6'], [], w', k', n'))) : WP (ML_law g) QLaw (1825, [some (.ref b), some (.ref x), some (.ref y), some (.ref o), some (.int i), l5, l6], [], w, k, n) := by
  repeat' first
    | with_reducible assumption
    | with_reducible refine And.intro ?_ ?_
    | with_reducible refine gi_W hL hb ?_
    | with_reducible refine LW.gx hL (fun _ => trivial)
    | cases Option.some.inj (hTpc2.symm.trans hTqc2); clear hTqc2
    | cases Option.some.inj (hTpc3.symm.trans hTqc3); clear hTqc3
    | cases Option.some.inj (hTpc2.symm.trans hFqc2); clear hFqc2
    | cases Option.some.inj (hTpc3.symm.trans hFqc3); clear hFqc3
    | cases Option.some.inj (hFpc2.symm.trans hTqc2); clear hTqc2
    | cases Option.some.inj (hFpc3.symm.trans hTqc3); clear hTqc3
    | cases Option.some.inj (hFpc2.symm.trans hFqc2); clear hFqc2
    | cases Option.some.inj (hFpc3.symm.trans hFqc3); clear hFqc3
    | with_reducible exact absurd (And.intro hSqc0 hSqc1) hXpc0
    | with_reducible exact absurd (And.intro hTqc0 hTqc1) hXpc0
    | with_reducible exact absurd (And.intro hFqc0 hFqc1) hXpc0
    | with_reducible exact absurd (And.intro hSpc0 hSpc1) hXqc0
    | with_reducible exact (hSpc2.elim (fun e => nsC e hTqc2) (fun e => nsC e hTqc3)).elim
    | with_reducible exact (hSpc2.elim (fun e => nsC e hFqc2) (fun e => nsC e hFqc3)).elim
    | with_reducible exact absurd (And.intro hTpc0 hTpc1) hXqc0
    | with_reducible exact (hSqc2.elim (fun e => nsC e hTpc2) (fun e => nsC e hTpc3)).elim
    | with_reducible exact absurd hTpc4 hFqc4
    | with_reducible exact absurd (And.intro hFpc0 hFpc1) hXqc0
    | with_reducible exact (hSqc2.elim (fun e => nsC e hFpc2) (fun e => nsC e hFpc3)).elim
    | with_reducible exact absurd hTqc4 hFpc4
    | with_reducible refine fL_areSame hL (fun hXpc0 => ?_) (fun hSpc0 hSpc1 hSpc2 => ?_) (fun hTpc0 hTpc1 hTpr hTpq hTpc2 hTpc3 hTpc4 hTpw hTph hTpo => ?_) (fun hFpc0 hFpc1 hFpr hFpq hFpc2 hFpc3 hFpc4 hFpw hFph hFpo => ?_)
    | with_reducible refine fX3_areSame (LW.ms hFph) (fun hXqc0 hXqw hXqh => ?_) (fun hSqc0 hSqc1 hSqc2 hSqw hSqh => ?_) (fun hTqc0 hTqc1 hTqr hTqq hTqc2 hTqc3 hTqc4 hTqw hTqh => ?_) (fun hFqc0 hFqc1 hFqr hFqq hFqc2 hFqc3 hFqc4 hFqw hFqh => ?_)
    | with_reducible refine fX3_areSame (LW.ms hL) (fun hXqc0 hXqw hXqh => ?_) (fun hSqc0 hSqc1 hSqc2 hSqw hSqh => ?_) (fun hTqc0 hTqc1 hTqr hTqq hTqc2 hTqc3 hTqc4 hTqw hTqh => ?_) (fun hFqc0 hFqc1 hFqr hFqq hFqc2 hFqc3 hFqc4 hFqw hFqh => ?_)
    | with_reducible refine fX3_areSame (LW.ms hTph) (fun hXqc0 hXqw hXqh => ?_) (fun hSqc0 hSqc1 hSqc2 hSqw hSqh => ?_) (fun hTqc0 hTqc1 hTqr hTqq hTqc2 hTqc3 hTqc4 hTqw hTqh => ?_) (fun hFqc0 hFqc1 hFqr hFqq hFqc2 hFqc3 hFqc4 hFqw hFqh => ?_)
    | with_reducible refine LW.gz hFph (fun _ => trivial)
    | with_reducible refine gi_W hFph hb ?_
    | with_reducible refine LW.gz hL (fun _ => trivial)
    | with_reducible refine gi_W hL hb ?_
    | with_reducible refine LW.gz hTph (fun _ => trivial)
    | with_reducible refine gi_W hTph hb ?_
    | with_reducible exact next _ _ _ _ _ _ _ _ (LW.ofM hL hXqh) (by omega) (by omega)
    | with_reducible exact next _ _ _ _ _ _ _ _ (LW.ofM hL hSqh) (by omega) (by omega)
    | with_reducible exact next _ _ _ _ _ _ _ _ (LW.ofM hL hTqh) (by omega) (by omega)
    | with_reducible exact next _ _ _ _ _ _ _ _ (LW.ofM hL hFqh) (by omega) (by omega)
    | with_reducible exact next _ _ _ _ _ _ _ _ (LW.ofM hTph hXqh) (by omega) (by omega)
    | with_reducible exact next _ _ _ _ _ _ _ _ (LW.ofM hTph hSqh) (by omega) (by omega)
    | with_reducible exact next _ _ _ _ _ _ _ _ (LW.ofM hTph hTqh) (by omega) (by omega)
    | with_reducible exact next _ _ _ _ _ _ _ _ (LW.ofM hTph hFqh) (by omega) (by omega)
    | with_reducible exact next _ _ _ _ _ _ _ _ (LW.ofM hFph hXqh) (by omega) (by omega)
    | with_reducible exact next _ _ _ _ _ _ _ _ (LW.ofM hFph hSqh) (by omega) (by omega)
    | with_reducible exact next _ _ _ _ _ _ _ _ (LW.ofM hFph hTqh) (by omega) (by omega)
    | with_reducible exact next _ _ _ _ _ _ _ _ (LW.ofM hFph hFqh) (by omega) (by omega)
    | simp only [eL_law_1825, eL_law_1825N, eL_law_1826, eL_law_1826N, eL_law_1827, eL_law_1829, eL_law_1830, eL_law_1831, eL_law_1832, eL_law_1832N, eL_law_1833, eL_law_1835, eL_law_1836, eL_law_1837, eL_law_1838, eL_law_1838N, eL_law_1839RR, eL_law_1839NR, eL_law_1839RN, eL_law_1839NN, eL_law_1842, eL_law_1844, eL_law_1844N, eL_law_1845, eL_law_1845N, eL_law_1846, eL_law_1848, eL_law_1849, eL_law_1850, eL_law_1851, eL_law_1851N, eL_law_1852, eL_law_1854, eL_law_1855, eL_law_1856, eL_law_1857, eL_law_1860, eL_law_1862, ite_le, n45, n54, true_or, or_true, false_or, or_false, false_and, and_false, kx_l, kx_r, go_s, gl_s, gi_s, gb_s2, gb_s3, gq_s, wt_nil, wt_int, wt_long, wt_ref, wt_null, nl_int, nl_long, nl_ref, nl_null, nl_none, rf_n, rf_s, rf_st, tl_s, tl_n, g0, gS, ex1, nb_b, nb_0, nb_1, nf_i, nf_l, nf_ra, nf_ro, nf_na, nf_no, nf_b0, nf_z0, t45_4, t45_5, true_and, and_true, List.set_cons_zero, List.set_cons_succ, List.length_cons, List.length_nil, rd_s, upw_s, ne_eq, not_false_eq_true, Nat.zero_add, Nat.add_zero, if_true, if_false, eq_self, lgz, n12z, n2z, n3z, i00, not_true]
    | split
    | with_reducible intro _
    | omega
set_option maxHeartbeats 4000000 in
theorem cL_35 (hR : RG g) (hb : g.2 b = some (.inl (1, L, .inl xs))) (hL : LW g w x nA cA lA y nM o kn kn th s s) (v1 : vp_in (i + 1) L) (v2 : vp_in (i + 2) L) (v3 : vp_in (i + 3) L) (v4 : vp_in (i + 4) L) (v5 : vp_in (i + 5) L) (hk : k + 114 ≤ 58408) (hn : n + 2834 ≤ 1451408) (next : (∀ (l5' l6' : Option Value) (w' : Hw) (k' n' : Nat) (kn' th' : Int32) (s' : AS), LW g w' x nA cA lA y nM o kn' kn' th' s' s' → k' ≤ k + 114 → n' ≤ n + 2834 → WP (ML_law g) QLaw (2246, [some (.ref b), some (.ref x), some (.ref y), some (.ref o), some (.int i), l5', l6'], [], w', k', n'))) : WP (ML_law g) QLaw (1865, [some (.ref b), some (.ref x), some (.ref y), some (.ref o), some (.int i), l5, l6], [], w, k, n) := by
  repeat' first
    | with_reducible assumption
    | with_reducible refine And.intro ?_ ?_
    | with_reducible refine gi_W hL hb ?_
    | with_reducible refine LW.gx hL (fun _ => trivial)
    | with_reducible refine gL_isSameAs hR hL (fun v1 w1 h1 => ?_)
    | with_reducible refine gX3_isSameAs (LW.ms h1) (fun v2 t2 w2 m2 => ?_)
    | with_reducible refine LW.gz h1 (fun _ => trivial)
    | with_reducible refine gi_W h1 hb ?_
    | with_reducible exact next _ _ _ _ _ _ _ _ (LW.ofM h1 m2) (by omega) (by omega)
    | simp only [eL_law_1865, eL_law_1865N, eL_law_1866, eL_law_1866N, eL_law_1867, eL_law_1869, eL_law_1870, eL_law_1871, eL_law_1872, eL_law_1872N, eL_law_1873, eL_law_1875, eL_law_1876, eL_law_1877, eL_law_1878, eL_law_1878N, eL_law_1879RR, eL_law_1879NR, eL_law_1879RN, eL_law_1879NN, eL_law_1882, eL_law_1884, eL_law_1884N, eL_law_1885, eL_law_1885N, eL_law_1886, eL_law_1888, eL_law_1889, eL_law_1890, eL_law_1891, eL_law_1891N, eL_law_1892, eL_law_1894, eL_law_1895, eL_law_1896, eL_law_1897, eL_law_1900, eL_law_1902, ite_le, n45, n54, true_or, or_true, false_or, or_false, false_and, and_false, kx_l, kx_r, go_s, gl_s, gi_s, gb_s2, gb_s3, gq_s, wt_nil, wt_int, wt_long, wt_ref, wt_null, nl_int, nl_long, nl_ref, nl_null, nl_none, rf_n, rf_s, rf_st, tl_s, tl_n, g0, gS, ex1, nb_b, nb_0, nb_1, nf_i, nf_l, nf_ra, nf_ro, nf_na, nf_no, nf_b0, nf_z0, t45_4, t45_5, true_and, and_true, List.set_cons_zero, List.set_cons_succ, List.length_cons, List.length_nil, rd_s, upw_s, ne_eq, not_false_eq_true, Nat.zero_add, Nat.add_zero, if_true, if_false, eq_self, lgz, n12z, n2z, n3z, i00, not_true]
    | split
    | with_reducible intro _
    | omega
end
