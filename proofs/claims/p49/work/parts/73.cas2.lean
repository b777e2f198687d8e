section
variable {g : RO} {w : Hw} {x nA cA lA y nM o b L k n : Nat} {xs : Nat → Int32} {i kn : Int32} {l5 l6 : Option Value}
set_option maxHeartbeats 4000000 in
theorem cL_24 (hR : RG g) (hb : g.2 b = some (.inl (1, L, .inl xs))) (hL : LWO g w x nA cA lA y nM o kn kn) (v1 : vp_in (i + 1) L) (v2 : vp_in (i + 2) L) (v3 : vp_in (i + 3) L) (v4 : vp_in (i + 4) L) (v5 : vp_in (i + 5) L) (hk : k + 114 ≤ 58408) (hn : n + 2834 ≤ 1451408) (next : (∀ (l5' l6' : Option Value) (w' : Hw) (k' n' : Nat) (kn' : Int32), LWO g w' x nA cA lA y nM o kn' kn' → k' ≤ k + 114 → n' ≤ n + 2834 → WP (ML_law g) QLaw (2217, [some (.ref b), some (.ref x), some (.ref y), some (.ref o), some (.int i), l5', l6'], [], w', k', n'))) : WP (ML_law g) QLaw (1340, [some (.ref b), some (.ref x), some (.ref y), some (.ref o), some (.int i), l5, l6], [], w, k, n) := by
  repeat' first
    | with_reducible assumption
    | with_reducible refine And.intro ?_ ?_
    | with_reducible refine gi_L (LWO.l (by assumption)) hb ?_
    | with_reducible refine go_X (LWO.l (by assumption)) (fun _ => trivial)
    | with_reducible refine go_Z (LWO.l (by assumption)) (fun _ => trivial)
    | with_reducible refine oL_end hR (by assumption) (fun v1 w1 h1 => ?_)
    | with_reducible refine sX3_end (LWO.mm h1) (fun v2 w2 m2 => ?_)
    | with_reducible exact next _ _ _ _ _ _ (LWO.ofM h1 m2) (by omega) (by omega)
    | simp only [eL_law_1340, eL_law_1340N, eL_law_1341, eL_law_1341N, eL_law_1342, eL_law_1344, eL_law_1345, eL_law_1346, eL_law_1347, eL_law_1347N, eL_law_1348, eL_law_1350, eL_law_1351, eL_law_1352, eL_law_1353, eL_law_1353N, eL_law_1354, eL_law_1356, eL_law_1357, eL_law_1358, eL_law_1359, eL_law_1362, eL_law_1363, eL_law_1366, eL_law_1367, eL_law_1367N, eL_law_1368RR, eL_law_1368NR, eL_law_1368RN, eL_law_1368NN, eL_law_1371, eL_law_1373, eL_law_1373N, eL_law_1374, eL_law_1374N, eL_law_1375, eL_law_1377, eL_law_1378, eL_law_1379, eL_law_1380, eL_law_1380N, eL_law_1381, eL_law_1383, eL_law_1384, eL_law_1385, eL_law_1386, eL_law_1386N, eL_law_1387, eL_law_1389, eL_law_1390, eL_law_1391, eL_law_1392, eL_law_1395, eL_law_1396, eL_law_1399, eL_law_1400, eL_law_1403, eL_law_1405, ite_le, n45, n54, true_or, or_true, false_or, or_false, false_and, and_false, kx_l, kx_r, go_s, gl_s, gi_s, gb_s2, gb_s3, gq_s, wt_nil, wt_int, wt_long, wt_ref, wt_null, nl_int, nl_long, nl_ref, nl_null, nl_none, rf_n, rf_s, rf_st, tl_s, tl_n, g0, gS, ex1, nb_b, nb_0, nb_1, nf_i, nf_l, nf_ra, nf_ro, nf_na, nf_no, nf_b0, nf_z0, t45_4, t45_5, true_and, and_true, List.set_cons_zero, List.set_cons_succ, List.length_cons, List.length_nil, rd_s, upw_s, ne_eq, not_false_eq_true, Nat.zero_add, Nat.add_zero, if_true, if_false, eq_self]
    | split
    | with_reducible intro _
    | omega
set_option maxHeartbeats 4000000 in
theorem cL_25 (hR : RG g) (hb : g.2 b = some (.inl (1, L, .inl xs))) (hL : LWO g w x nA cA lA y nM o kn kn) (v1 : vp_in (i + 1) L) (v2 : vp_in (i + 2) L) (v3 : vp_in (i + 3) L) (v4 : vp_in (i + 4) L) (v5 : vp_in (i + 5) L) (hk : k + 114 ≤ 58408) (hn : n + 2834 ≤ 1451408) (next : (∀ (l5' l6' : Option Value) (w' : Hw) (k' n' : Nat) (kn' : Int32), LWO g w' x nA cA lA y nM o kn' kn' → k' ≤ k + 114 → n' ≤ n + 2834 → WP (ML_law g) QLaw (2217, [some (.ref b), some (.ref x), some (.ref y), some (.ref o), some (.int i), l5', l6'], [], w', k', n'))) : WP (ML_law g) QLaw (1408, [some (.ref b), some (.ref x), some (.ref y), some (.ref o), some (.int i), l5, l6], [], w, k, n) := by
  repeat' first
    | with_reducible assumption
    | with_reducible refine And.intro ?_ ?_
    | with_reducible refine gi_L (LWO.l (by assumption)) hb ?_
    | with_reducible refine go_X (LWO.l (by assumption)) (fun _ => trivial)
    | with_reducible refine go_Z (LWO.l (by assumption)) (fun _ => trivial)
    | with_reducible refine oL_take hR (by assumption) (fun v1 w1 h1 => ?_)
    | with_reducible refine sX3_take (LWO.mm h1) (fun v2 w2 m2 => ?_)
    | with_reducible exact next _ _ _ _ _ _ (LWO.ofM h1 m2) (by omega) (by omega)
    | simp only [eL_law_1408, eL_law_1408N, eL_law_1409, eL_law_1409N, eL_law_1410, eL_law_1412, eL_law_1413, eL_law_1414, eL_law_1415, eL_law_1415N, eL_law_1416, eL_law_1418, eL_law_1419, eL_law_1420, eL_law_1421, eL_law_1421N, eL_law_1422, eL_law_1424, eL_law_1425, eL_law_1426, eL_law_1427, eL_law_1427N, eL_law_1428RR, eL_law_1428NR, eL_law_1428RN, eL_law_1428NN, eL_law_1431, eL_law_1433, eL_law_1433N, eL_law_1434, eL_law_1434N, eL_law_1435, eL_law_1437, eL_law_1438, eL_law_1439, eL_law_1440, eL_law_1440N, eL_law_1441, eL_law_1443, eL_law_1444, eL_law_1445, eL_law_1446, eL_law_1446N, eL_law_1447, eL_law_1449, eL_law_1450, eL_law_1451, eL_law_1452, eL_law_1455, eL_law_1457, ite_le, n45, n54, true_or, or_true, false_or, or_false, false_and, and_false, kx_l, kx_r, go_s, gl_s, gi_s, gb_s2, gb_s3, gq_s, wt_nil, wt_int, wt_long, wt_ref, wt_null, nl_int, nl_long, nl_ref, nl_null, nl_none, rf_n, rf_s, rf_st, tl_s, tl_n, g0, gS, ex1, nb_b, nb_0, nb_1, nf_i, nf_l, nf_ra, nf_ro, nf_na, nf_no, nf_b0, nf_z0, t45_4, t45_5, true_and, and_true, List.set_cons_zero, List.set_cons_succ, List.length_cons, List.length_nil, rd_s, upw_s, ne_eq, not_false_eq_true, Nat.zero_add, Nat.add_zero, if_true, if_false, eq_self]
    | split
    | with_reducible intro _
    | omega
set_option maxHeartbeats 4000000 in
theorem cL_26 (hR : RG g) (hb : g.2 b = some (.inl (1, L, .inl xs))) (hL : LWO g w x nA cA lA y nM o kn kn) (v1 : vp_in (i + 1) L) (v2 : vp_in (i + 2) L) (v3 : vp_in (i + 3) L) (v4 : vp_in (i + 4) L) (v5 : vp_in (i + 5) L) (hk : k + 114 ≤ 58408) (hn : n + 2834 ≤ 1451408) (next : (∀ (l5' l6' : Option Value) (w' : Hw) (k' n' : Nat) (kn' : Int32), LWO g w' x nA cA lA y nM o kn' kn' → k' ≤ k + 114 → n' ≤ n + 2834 → WP (ML_law g) QLaw (2217, [some (.ref b), some (.ref x), some (.ref y), some (.ref o), some (.int i), l5', l6'], [], w', k', n'))) : WP (ML_law g) QLaw (1460, [some (.ref b), some (.ref x), some (.ref y), some (.ref o), some (.int i), l5, l6], [], w, k, n) := by
  repeat' first
    | with_reducible assumption
    | with_reducible refine And.intro ?_ ?_
    | with_reducible refine gi_L (LWO.l (by assumption)) hb ?_
    | with_reducible refine go_X (LWO.l (by assumption)) (fun _ => trivial)
    | with_reducible refine go_Z (LWO.l (by assumption)) (fun _ => trivial)
    | with_reducible refine oL_cardText hR (by assumption) (fun v1 w1 h1 => ?_)
    | with_reducible refine sX3_cardText (LWO.mm h1) hR.sg (hR.dg (LWO.ro h1)) (hR.tx (LWO.ro h1)) (fun v2 w2 m2 => ?_)
    | with_reducible exact next _ _ _ _ _ _ (LWO.ofM h1 m2) (by omega) (by omega)
    | simp only [eL_law_1460, eL_law_1460N, eL_law_1461, eL_law_1461N, eL_law_1462, eL_law_1464, eL_law_1465, eL_law_1466, eL_law_1467, eL_law_1467N, eL_law_1468RR, eL_law_1468NR, eL_law_1468RN, eL_law_1468NN, eL_law_1471, eL_law_1473, eL_law_1473N, eL_law_1474, eL_law_1474N, eL_law_1475, eL_law_1477, eL_law_1478, eL_law_1479, eL_law_1480, eL_law_1483, eL_law_1483N, eL_law_1485, ite_le, n45, n54, true_or, or_true, false_or, or_false, false_and, and_false, kx_l, kx_r, go_s, gl_s, gi_s, gb_s2, gb_s3, gq_s, wt_nil, wt_int, wt_long, wt_ref, wt_null, nl_int, nl_long, nl_ref, nl_null, nl_none, rf_n, rf_s, rf_st, tl_s, tl_n, g0, gS, ex1, nb_b, nb_0, nb_1, nf_i, nf_l, nf_ra, nf_ro, nf_na, nf_no, nf_b0, nf_z0, t45_4, t45_5, true_and, and_true, List.set_cons_zero, List.set_cons_succ, List.length_cons, List.length_nil, rd_s, upw_s, ne_eq, not_false_eq_true, Nat.zero_add, Nat.add_zero, if_true, if_false, eq_self]
    | split
    | with_reducible intro _
    | omega
set_option maxHeartbeats 4000000 in
theorem cL_27 (hR : RG g) (hb : g.2 b = some (.inl (1, L, .inl xs))) (hL : LWO g w x nA cA lA y nM o kn kn) (v1 : vp_in (i + 1) L) (v2 : vp_in (i + 2) L) (v3 : vp_in (i + 3) L) (v4 : vp_in (i + 4) L) (v5 : vp_in (i + 5) L) (hk : k + 114 ≤ 58408) (hn : n + 2834 ≤ 1451408) (next : (∀ (l5' l6' : Option Value) (w' : Hw) (k' n' : Nat) (kn' : Int32), LWO g w' x nA cA lA y nM o kn' kn' → k' ≤ k + 114 → n' ≤ n + 2834 → WP (ML_law g) QLaw (2217, [some (.ref b), some (.ref x), some (.ref y), some (.ref o), some (.int i), l5', l6'], [], w', k', n'))) : WP (ML_law g) QLaw (1488, [some (.ref b), some (.ref x), some (.ref y), some (.ref o), some (.int i), l5, l6], [], w, k, n) := by
  repeat' first
    | with_reducible assumption
    | with_reducible refine And.intro ?_ ?_
    | with_reducible refine gi_L (LWO.l (by assumption)) hb ?_
    | with_reducible refine go_X (LWO.l (by assumption)) (fun _ => trivial)
    | with_reducible refine go_Z (LWO.l (by assumption)) (fun _ => trivial)
    | with_reducible refine oL_isValid hR (by assumption) (fun v1 w1 h1 => ?_)
    | with_reducible refine sX3_isValid (LWO.mm h1) (fun v2 w2 m2 => ?_)
    | with_reducible exact next _ _ _ _ _ _ (LWO.ofM h1 m2) (by omega) (by omega)
    | simp only [eL_law_1488, eL_law_1488N, eL_law_1489, eL_law_1489N, eL_law_1490, eL_law_1492, eL_law_1493, eL_law_1494, eL_law_1495, eL_law_1495N, eL_law_1496, eL_law_1498, eL_law_1499, eL_law_1500, eL_law_1501, eL_law_1501N, eL_law_1502RR, eL_law_1502NR, eL_law_1502RN, eL_law_1502NN, eL_law_1505, eL_law_1507, eL_law_1507N, eL_law_1508, eL_law_1508N, eL_law_1509, eL_law_1511, eL_law_1512, eL_law_1513, eL_law_1514, eL_law_1514N, eL_law_1515, eL_law_1517, eL_law_1518, eL_law_1519, eL_law_1520, eL_law_1523, eL_law_1525, ite_le, n45, n54, true_or, or_true, false_or, or_false, false_and, and_false, kx_l, kx_r, go_s, gl_s, gi_s, gb_s2, gb_s3, gq_s, wt_nil, wt_int, wt_long, wt_ref, wt_null, nl_int, nl_long, nl_ref, nl_null, nl_none, rf_n, rf_s, rf_st, tl_s, tl_n, g0, gS, ex1, nb_b, nb_0, nb_1, nf_i, nf_l, nf_ra, nf_ro, nf_na, nf_no, nf_b0, nf_z0, t45_4, t45_5, true_and, and_true, List.set_cons_zero, List.set_cons_succ, List.length_cons, List.length_nil, rd_s, upw_s, ne_eq, not_false_eq_true, Nat.zero_add, Nat.add_zero, if_true, if_false, eq_self]
    | split
    | with_reducible intro _
    | omega
set_option maxHeartbeats 4000000 in
theorem cL_28 (hR : RG g) (hb : g.2 b = some (.inl (1, L, .inl xs))) (hL : LWO g w x nA cA lA y nM o kn kn) (v1 : vp_in (i + 1) L) (v2 : vp_in (i + 2) L) (v3 : vp_in (i + 3) L) (v4 : vp_in (i + 4) L) (v5 : vp_in (i + 5) L) (hk : k + 114 ≤ 58408) (hn : n + 2834 ≤ 1451408) (next : (∀ (l5' l6' : Option Value) (w' : Hw) (k' n' : Nat) (kn' : Int32), LWO g w' x nA cA lA y nM o kn' kn' → k' ≤ k + 114 → n' ≤ n + 2834 → WP (ML_law g) QLaw (2217, [some (.ref b), some (.ref x), some (.ref y), some (.ref o), some (.int i), l5', l6'], [], w', k', n'))) : WP (ML_law g) QLaw (1528, [some (.ref b), some (.ref x), some (.ref y), some (.ref o), some (.int i), l5, l6], [], w, k, n) := by
  repeat' first
    | with_reducible assumption
    | with_reducible refine And.intro ?_ ?_
    | with_reducible refine gi_L (LWO.l (by assumption)) hb ?_
    | with_reducible refine go_X (LWO.l (by assumption)) (fun _ => trivial)
    | with_reducible refine go_Z (LWO.l (by assumption)) (fun _ => trivial)
    | with_reducible refine oL_isValidSmall hR (by assumption) (fun v1 w1 h1 => ?_)
    | with_reducible refine sX3_isValidSmall (LWO.mm h1) (fun v2 w2 m2 => ?_)
    | with_reducible exact next _ _ _ _ _ _ (LWO.ofM h1 m2) (by omega) (by omega)
    | simp only [eL_law_1528, eL_law_1528N, eL_law_1529, eL_law_1529N, eL_law_1530, eL_law_1532, eL_law_1533, eL_law_1534, eL_law_1535, eL_law_1535N, eL_law_1536, eL_law_1538, eL_law_1539, eL_law_1540, eL_law_1541, eL_law_1541N, eL_law_1542RR, eL_law_1542NR, eL_law_1542RN, eL_law_1542NN, eL_law_1545, eL_law_1547, eL_law_1547N, eL_law_1548, eL_law_1548N, eL_law_1549, eL_law_1551, eL_law_1552, eL_law_1553, eL_law_1554, eL_law_1554N, eL_law_1555, eL_law_1557, eL_law_1558, eL_law_1559, eL_law_1560, eL_law_1563, eL_law_1565, ite_le, n45, n54, true_or, or_true, false_or, or_false, false_and, and_false, kx_l, kx_r, go_s, gl_s, gi_s, gb_s2, gb_s3, gq_s, wt_nil, wt_int, wt_long, wt_ref, wt_null, nl_int, nl_long, nl_ref, nl_null, nl_none, rf_n, rf_s, rf_st, tl_s, tl_n, g0, gS, ex1, nb_b, nb_0, nb_1, nf_i, nf_l, nf_ra, nf_ro, nf_na, nf_no, nf_b0, nf_z0, t45_4, t45_5, true_and, and_true, List.set_cons_zero, List.set_cons_succ, List.length_cons, List.length_nil, rd_s, upw_s, ne_eq, not_false_eq_true, Nat.zero_add, Nat.add_zero, if_true, if_false, eq_self]
    | split
    | with_reducible intro _
    | omega
set_option maxHeartbeats 4000000 in
theorem cL_29 (hR : RG g) (hb : g.2 b = some (.inl (1, L, .inl xs))) (hL : LWO g w x nA cA lA y nM o kn kn) (v1 : vp_in (i + 1) L) (v2 : vp_in (i + 2) L) (v3 : vp_in (i + 3) L) (v4 : vp_in (i + 4) L) (v5 : vp_in (i + 5) L) (hk : k + 114 ≤ 58408) (hn : n + 2834 ≤ 1451408) (next : (∀ (l5' l6' : Option Value) (w' : Hw) (k' n' : Nat) (kn' : Int32), LWO g w' x nA cA lA y nM o kn' kn' → k' ≤ k + 114 → n' ≤ n + 2834 → WP (ML_law g) QLaw (2217, [some (.ref b), some (.ref x), some (.ref y), some (.ref o), some (.int i), l5', l6'], [], w', k', n'))) : WP (ML_law g) QLaw (1568, [some (.ref b), some (.ref x), some (.ref y), some (.ref o), some (.int i), l5, l6], [], w, k, n) := by
  repeat' first
    | with_reducible assumption
    | with_reducible refine And.intro ?_ ?_
    | with_reducible refine gi_L (LWO.l (by assumption)) hb ?_
    | with_reducible refine go_X (LWO.l (by assumption)) (fun _ => trivial)
    | with_reducible refine go_Z (LWO.l (by assumption)) (fun _ => trivial)
    | with_reducible refine oL_whichValid hR (by assumption) (fun v1 w1 h1 => ?_)
    | with_reducible refine sX3_whichValid (LWO.mm h1) (fun v2 w2 m2 => ?_)
    | with_reducible exact next _ _ _ _ _ _ (LWO.ofM h1 m2) (by omega) (by omega)
    | simp only [eL_law_1568, eL_law_1568N, eL_law_1569, eL_law_1569N, eL_law_1570, eL_law_1572, eL_law_1573, eL_law_1574, eL_law_1575, eL_law_1575N, eL_law_1576, eL_law_1578, eL_law_1579, eL_law_1580, eL_law_1581, eL_law_1581N, eL_law_1582RR, eL_law_1582NR, eL_law_1582RN, eL_law_1582NN, eL_law_1585, eL_law_1587, eL_law_1587N, eL_law_1588, eL_law_1588N, eL_law_1589, eL_law_1591, eL_law_1592, eL_law_1593, eL_law_1594, eL_law_1594N, eL_law_1595, eL_law_1597, eL_law_1598, eL_law_1599, eL_law_1600, eL_law_1603, eL_law_1605, ite_le, n45, n54, true_or, or_true, false_or, or_false, false_and, and_false, kx_l, kx_r, go_s, gl_s, gi_s, gb_s2, gb_s3, gq_s, wt_nil, wt_int, wt_long, wt_ref, wt_null, nl_int, nl_long, nl_ref, nl_null, nl_none, rf_n, rf_s, rf_st, tl_s, tl_n, g0, gS, ex1, nb_b, nb_0, nb_1, nf_i, nf_l, nf_ra, nf_ro, nf_na, nf_no, nf_b0, nf_z0, t45_4, t45_5, true_and, and_true, List.set_cons_zero, List.set_cons_succ, List.length_cons, List.length_nil, rd_s, upw_s, ne_eq, not_false_eq_true, Nat.zero_add, Nat.add_zero, if_true, if_false, eq_self]
    | split
    | with_reducible intro _
    | omega
set_option maxHeartbeats 4000000 in
theorem cL_30 (hR : RG g) (hb : g.2 b = some (.inl (1, L, .inl xs))) (hL : LWO g w x nA cA lA y nM o kn kn) (v1 : vp_in (i + 1) L) (v2 : vp_in (i + 2) L) (v3 : vp_in (i + 3) L) (v4 : vp_in (i + 4) L) (v5 : vp_in (i + 5) L) (hk : k + 114 ≤ 58408) (hn : n + 2834 ≤ 1451408) (next : (∀ (l5' l6' : Option Value) (w' : Hw) (k' n' : Nat) (kn' : Int32), LWO g w' x nA cA lA y nM o kn' kn' → k' ≤ k + 114 → n' ≤ n + 2834 → WP (ML_law g) QLaw (2217, [some (.ref b), some (.ref x), some (.ref y), some (.ref o), some (.int i), l5', l6'], [], w', k', n'))) : WP (ML_law g) QLaw (1608, [some (.ref b), some (.ref x), some (.ref y), some (.ref o), some (.int i), l5, l6], [], w, k, n) := by
  repeat' first
    | with_reducible assumption
    | with_reducible refine And.intro ?_ ?_
    | with_reducible refine gi_L (LWO.l (by assumption)) hb ?_
    | with_reducible refine go_X (LWO.l (by assumption)) (fun _ => trivial)
    | with_reducible refine go_Z (LWO.l (by assumption)) (fun _ => trivial)
    | with_reducible refine oL_around hR (by assumption) (fun v1 w1 h1 => ?_)
    | with_reducible refine sX3_around (LWO.mm h1) (fun v2 w2 m2 => ?_)
    | with_reducible exact next _ _ _ _ _ _ (LWO.ofM h1 m2) (by omega) (by omega)
    | simp only [eL_law_1608, eL_law_1608N, eL_law_1609, eL_law_1609N, eL_law_1610, eL_law_1612, eL_law_1613, eL_law_1614, eL_law_1615, eL_law_1615N, eL_law_1616, eL_law_1618, eL_law_1619, eL_law_1620, eL_law_1621, eL_law_1621N, eL_law_1622, eL_law_1624, eL_law_1625, eL_law_1626, eL_law_1627, eL_law_1630, eL_law_1631, eL_law_1634, eL_law_1635, eL_law_1635N, eL_law_1636RR, eL_law_1636NR, eL_law_1636RN, eL_law_1636NN, eL_law_1639, eL_law_1641, eL_law_1641N, eL_law_1642, eL_law_1642N, eL_law_1643, eL_law_1645, eL_law_1646, eL_law_1647, eL_law_1648, eL_law_1648N, eL_law_1649, eL_law_1651, eL_law_1652, eL_law_1653, eL_law_1654, eL_law_1654N, eL_law_1655, eL_law_1657, eL_law_1658, eL_law_1659, eL_law_1660, eL_law_1663, eL_law_1664, eL_law_1667, eL_law_1668, eL_law_1671, eL_law_1673, ite_le, n45, n54, true_or, or_true, false_or, or_false, false_and, and_false, kx_l, kx_r, go_s, gl_s, gi_s, gb_s2, gb_s3, gq_s, wt_nil, wt_int, wt_long, wt_ref, wt_null, nl_int, nl_long, nl_ref, nl_null, nl_none, rf_n, rf_s, rf_st, tl_s, tl_n, g0, gS, ex1, nb_b, nb_0, nb_1, nf_i, nf_l, nf_ra, nf_ro, nf_na, nf_no, nf_b0, nf_z0, t45_4, t45_5, true_and, and_true, List.set_cons_zero, List.set_cons_succ, List.length_cons, List.length_nil, rd_s, upw_s, ne_eq, not_false_eq_true, Nat.zero_add, Nat.add_zero, if_true, if_false, eq_self]
    | split
    | with_reducible intro _
    | omega
set_option maxHeartbeats 4000000 in
theorem cL_31 (hR : RG g) (hb : g.2 b = some (.inl (1, L, .inl xs))) (hL : LWO g w x nA cA lA y nM o kn kn) (v1 : vp_in (i + 1) L) (v2 : vp_in (i + 2) L) (v3 : vp_in (i + 3) L) (v4 : vp_in (i + 4) L) (v5 : vp_in (i + 5) L) (hk : k + 114 ≤ 58408) (hn : n + 2834 ≤ 1451408) (next : (∀ (l5' l6' : Option Value) (w' : Hw) (k' n' : Nat) (kn' : Int32), LWO g w' x nA cA lA y nM o kn' kn' → k' ≤ k + 114 → n' ≤ n + 2834 → WP (ML_law g) QLaw (2217, [some (.ref b), some (.ref x), some (.ref y), some (.ref o), some (.int i), l5', l6'], [], w', k', n'))) : WP (ML_law g) QLaw (1676, [some (.ref b), some (.ref x), some (.ref y), some (.ref o), some (.int i), l5, l6], [], w, k, n) := by
  repeat' first
    | with_reducible assumption
    | with_reducible refine And.intro ?_ ?_
    | with_reducible refine gi_L (LWO.l (by assumption)) hb ?_
    | with_reducible refine go_X (LWO.l (by assumption)) (fun _ => trivial)
    | with_reducible refine go_Z (LWO.l (by assumption)) (fun _ => trivial)
    | with_reducible refine oL_count hR (by assumption) (fun v1 w1 h1 => ?_)
    | with_reducible refine sX3_count (LWO.mm h1) (fun v2 w2 m2 => ?_)
    | with_reducible exact next _ _ _ _ _ _ (LWO.ofM h1 m2) (by omega) (by omega)
    | simp only [eL_law_1676, eL_law_1676N, eL_law_1677, eL_law_1677N, eL_law_1678, eL_law_1680, eL_law_1681, eL_law_1682, eL_law_1683, eL_law_1683N, eL_law_1684, eL_law_1686, eL_law_1687, eL_law_1688, eL_law_1689, eL_law_1689N, eL_law_1690, eL_law_1692, eL_law_1693, eL_law_1694, eL_law_1695, eL_law_1695N, eL_law_1696RR, eL_law_1696NR, eL_law_1696RN, eL_law_1696NN, eL_law_1699, eL_law_1701, eL_law_1701N, eL_law_1702, eL_law_1702N, eL_law_1703, eL_law_1705, eL_law_1706, eL_law_1707, eL_law_1708, eL_law_1708N, eL_law_1709, eL_law_1711, eL_law_1712, eL_law_1713, eL_law_1714, eL_law_1714N, eL_law_1715, eL_law_1717, eL_law_1718, eL_law_1719, eL_law_1720, eL_law_1723, eL_law_1725, ite_le, n45, n54, true_or, or_true, false_or, or_false, false_and, and_false, kx_l, kx_r, go_s, gl_s, gi_s, gb_s2, gb_s3, gq_s, wt_nil, wt_int, wt_long, wt_ref, wt_null, nl_int, nl_long, nl_ref, nl_null, nl_none, rf_n, rf_s, rf_st, tl_s, tl_n, g0, gS, ex1, nb_b, nb_0, nb_1, nf_i, nf_l, nf_ra, nf_ro, nf_na, nf_no, nf_b0, nf_z0, t45_4, t45_5, true_and, and_true, List.set_cons_zero, List.set_cons_succ, List.length_cons, List.length_nil, rd_s, upw_s, ne_eq, not_false_eq_true, Nat.zero_add, Nat.add_zero, if_true, if_false, eq_self]
    | split
    | with_reducible intro _
    | omega
set_option maxHeartbeats 4000000 in
theorem cL_32 (hR : RG g) (hb : g.2 b = some (.inl (1, L, .inl xs))) (hL : LWO g w x nA cA lA y nM o kn kn) (v1 : vp_in (i + 1) L) (v2 : vp_in (i + 2) L) (v3 : vp_in (i + 3) L) (v4 : vp_in (i + 4) L) (v5 : vp_in (i + 5) L) (hk : k + 114 ≤ 58408) (hn : n + 2834 ≤ 1451408) (next : (∀ (l5' l6' : Option Value) (w' : Hw) (k' n' : Nat) (kn' : Int32), LWO g w' x nA cA lA y nM o kn' kn' → k' ≤ k + 114 → n' ≤ n + 2834 → WP (ML_law g) QLaw (2217, [some (.ref b), some (.ref x), some (.ref y), some (.ref o), some (.int i), l5', l6'], [], w', k', n'))) : WP (ML_law g) QLaw (1728, [some (.ref b), some (.ref x), some (.ref y), some (.ref o), some (.int i), l5, l6], [], w, k, n) := by
  repeat' first
    | with_reducible assumption
    | with_reducible refine And.intro ?_ ?_
    | with_reducible refine gi_L (LWO.l (by assumption)) hb ?_
    | with_reducible refine go_X (LWO.l (by assumption)) (fun _ => trivial)
    | with_reducible refine go_Z (LWO.l (by assumption)) (fun _ => trivial)
    | with_reducible refine oL_who hR (by assumption) (fun v1 w1 h1 => ?_)
    | with_reducible refine sX3_who (LWO.mm h1) (fun v2 w2 m2 => ?_)
    | with_reducible exact next _ _ _ _ _ _ (LWO.ofM h1 m2) (by omega) (by omega)
    | simp only [eL_law_1728, eL_law_1728N, eL_law_1729, eL_law_1729N, eL_law_1730, eL_law_1732, eL_law_1733, eL_law_1734, eL_law_1735, eL_law_1735N, eL_law_1736, eL_law_1738, eL_law_1739, eL_law_1740, eL_law_1741, eL_law_1741N, eL_law_1742RR, eL_law_1742NR, eL_law_1742RN, eL_law_1742NN, eL_law_1745, eL_law_1747, eL_law_1747N, eL_law_1748, eL_law_1748N, eL_law_1749, eL_law_1751, eL_law_1752, eL_law_1753, eL_law_1754, eL_law_1754N, eL_law_1755, eL_law_1757, eL_law_1758, eL_law_1759, eL_law_1760, eL_law_1763, eL_law_1765, ite_le, n45, n54, true_or, or_true, false_or, or_false, false_and, and_false, kx_l, kx_r, go_s, gl_s, gi_s, gb_s2, gb_s3, gq_s, wt_nil, wt_int, wt_long, wt_ref, wt_null, nl_int, nl_long, nl_ref, nl_null, nl_none, rf_n, rf_s, rf_st, tl_s, tl_n, g0, gS, ex1, nb_b, nb_0, nb_1, nf_i, nf_l, nf_ra, nf_ro, nf_na, nf_no, nf_b0, nf_z0, t45_4, t45_5, true_and, and_true, List.set_cons_zero, List.set_cons_succ, List.length_cons, List.length_nil, rd_s, upw_s, ne_eq, not_false_eq_true, Nat.zero_add, Nat.add_zero, if_true, if_false, eq_self]
    | split
    | with_reducible intro _
    | omega
set_option maxHeartbeats 4000000 in
theorem cL_33 (hR : RG g) (hb : g.2 b = some (.inl (1, L, .inl xs))) (hL : LWO g w x nA cA lA y nM o kn kn) (v1 : vp_in (i + 1) L) (v2 : vp_in (i + 2) L) (v3 : vp_in (i + 3) L) (v4 : vp_in (i + 4) L) (v5 : vp_in (i + 5) L) (hk : k + 114 ≤ 58408) (hn : n + 2834 ≤ 1451408) (next : (∀ (l5' l6' : Option Value) (w' : Hw) (k' n' : Nat) (kn' : Int32), LWO g w' x nA cA lA y nM o kn' kn' → k' ≤ k + 114 → n' ≤ n + 2834 → WP (ML_law g) QLaw (2217, [some (.ref b), some (.ref x), some (.ref y), some (.ref o), some (.int i), l5', l6'], [], w', k', n'))) : WP (ML_law g) QLaw (1768, [some (.ref b), some (.ref x), some (.ref y), some (.ref o), some (.int i), l5, l6], [], w, k, n) := by
  repeat' first
    | with_reducible assumption
    | with_reducible refine And.intro ?_ ?_
    | with_reducible refine gi_L (LWO.l (by assumption)) hb ?_
    | with_reducible refine go_X (LWO.l (by assumption)) (fun _ => trivial)
    | with_reducible refine go_Z (LWO.l (by assumption)) (fun _ => trivial)
    | with_reducible refine oL_which hR (by assumption) (fun v1 w1 h1 => ?_)
    | with_reducible refine sX3_which (LWO.mm h1) (fun v2 w2 m2 => ?_)
    | with_reducible exact next _ _ _ _ _ _ (LWO.ofM h1 m2) (by omega) (by omega)
    | simp only [eL_law_1768, eL_law_1768N, eL_law_1769, eL_law_1769N, eL_law_1770, eL_law_1772, eL_law_1773, eL_law_1774, eL_law_1775, eL_law_1775N, eL_law_1776RR, eL_law_1776NR, eL_law_1776RN, eL_law_1776NN, eL_law_1779, eL_law_1781, eL_law_1781N, eL_law_1782, eL_law_1782N, eL_law_1783, eL_law_1785, eL_law_1786, eL_law_1787, eL_law_1788, eL_law_1791, eL_law_1793, ite_le, n45, n54, true_or, or_true, false_or, or_false, false_and, and_false, kx_l, kx_r, go_s, gl_s, gi_s, gb_s2, gb_s3, gq_s, wt_nil, wt_int, wt_long, wt_ref, wt_null, nl_int, nl_long, nl_ref, nl_null, nl_none, rf_n, rf_s, rf_st, tl_s, tl_n, g0, gS, ex1, nb_b, nb_0, nb_1, nf_i, nf_l, nf_ra, nf_ro, nf_na, nf_no, nf_b0, nf_z0, t45_4, t45_5, true_and, and_true, List.set_cons_zero, List.set_cons_succ, List.length_cons, List.length_nil, rd_s, upw_s, ne_eq, not_false_eq_true, Nat.zero_add, Nat.add_zero, if_true, if_false, eq_self]
    | split
    | with_reducible intro _
    | omega
set_option maxHeartbeats 4000000 in
theorem cL_34 (hR : RG g) (hb : g.2 b = some (.inl (1, L, .inl xs))) (hL : LWO g w x nA cA lA y nM o kn kn) (v1 : vp_in (i + 1) L) (v2 : vp_in (i + 2) L) (v3 : vp_in (i + 3) L) (v4 : vp_in (i + 4) L) (v5 : vp_in (i + 5) L) (hk : k + 114 ≤ 58408) (hn : n + 2834 ≤ 1451408) (next : (∀ (l5' l6' : Option Value) (w' : Hw) (k' n' : Nat) (kn' : Int32), LWO g w' x nA cA lA y nM o kn' kn' → k' ≤ k + 114 → n' ≤ n + 2834 → WP (ML_law g) QLaw (2217, [some (.ref b), some (.ref x), some (.ref y), some (.ref o), some (.int i), l5', l6'], [], w', k', n'))) : WP (ML_law g) QLaw (1796, [some (.ref b), some (.ref x), some (.ref y), some (.ref o), some (.int i), l5, l6], [], w, k, n) := by
  repeat' first
    | with_reducible assumption
    | with_reducible refine And.intro ?_ ?_
    | with_reducible refine gi_L (LWO.l (by assumption)) hb ?_
    | with_reducible refine go_X (LWO.l (by assumption)) (fun _ => trivial)
    | with_reducible refine go_Z (LWO.l (by assumption)) (fun _ => trivial)
    | with_reducible refine oL_areSame hR (by assumption) (fun v1 w1 h1 => ?_)
    | with_reducible refine sX3_areSame (LWO.mm h1) (fun v2 w2 m2 => ?_)
    | with_reducible exact next _ _ _ _ _ _ (LWO.ofM h1 m2) (by omega) (by omega)
    | simp only [eL_law_1796, eL_law_1796N, eL_law_1797, eL_law_1797N, eL_law_1798, eL_law_1800, eL_law_1801, eL_law_1802, eL_law_1803, eL_law_1803N, eL_law_1804, eL_law_1806, eL_law_1807, eL_law_1808, eL_law_1809, eL_law_1809N, eL_law_1810RR, eL_law_1810NR, eL_law_1810RN, eL_law_1810NN, eL_law_1813, eL_law_1815, eL_law_1815N, eL_law_1816, eL_law_1816N, eL_law_1817, eL_law_1819, eL_law_1820, eL_law_1821, eL_law_1822, eL_law_1822N, eL_law_1823, eL_law_1825, eL_law_1826, eL_law_1827, eL_law_1828, eL_law_1831, eL_law_1833, ite_le, n45, n54, true_or, or_true, false_or, or_false, false_and, and_false, kx_l, kx_r, go_s, gl_s, gi_s, gb_s2, gb_s3, gq_s, wt_nil, wt_int, wt_long, wt_ref, wt_null, nl_int, nl_long, nl_ref, nl_null, nl_none, rf_n, rf_s, rf_st, tl_s, tl_n, g0, gS, ex1, nb_b, nb_0, nb_1, nf_i, nf_l, nf_ra, nf_ro, nf_na, nf_no, nf_b0, nf_z0, t45_4, t45_5, true_and, and_true, List.set_cons_zero, List.set_cons_succ, List.length_cons, List.length_nil, rd_s, upw_s, ne_eq, not_false_eq_true, Nat.zero_add, Nat.add_zero, if_true, if_false, eq_self]
    | split
    | with_reducible intro _
    | omega
set_option maxHeartbeats 4000000 in
theorem cL_35 (hR : RG g) (hb : g.2 b = some (.inl (1, L, .inl xs))) (hL : LWO g w x nA cA lA y nM o kn kn) (v1 : vp_in (i + 1) L) (v2 : vp_in (i + 2) L) (v3 : vp_in (i + 3) L) (v4 : vp_in (i + 4) L) (v5 : vp_in (i + 5) L) (hk : k + 114 ≤ 58408) (hn : n + 2834 ≤ 1451408) (next : (∀ (l5' l6' : Option Value) (w' : Hw) (k' n' : Nat) (kn' : Int32), LWO g w' x nA cA lA y nM o kn' kn' → k' ≤ k + 114 → n' ≤ n + 2834 → WP (ML_law g) QLaw (2217, [some (.ref b), some (.ref x), some (.ref y), some (.ref o), some (.int i), l5', l6'], [], w', k', n'))) : WP (ML_law g) QLaw (1836, [some (.ref b), some (.ref x), some (.ref y), some (.ref o), some (.int i), l5, l6], [], w, k, n) := by
  repeat' first
    | with_reducible assumption
    | with_reducible refine And.intro ?_ ?_
    | with_reducible refine gi_L (LWO.l (by assumption)) hb ?_
    | with_reducible refine go_X (LWO.l (by assumption)) (fun _ => trivial)
    | with_reducible refine go_Z (LWO.l (by assumption)) (fun _ => trivial)
    | with_reducible refine oL_isSameAs hR (by assumption) (fun v1 w1 h1 => ?_)
    | with_reducible refine sX3_isSameAs (LWO.mm h1) (fun v2 w2 m2 => ?_)
    | with_reducible exact next _ _ _ _ _ _ (LWO.ofM h1 m2) (by omega) (by omega)
    | simp only [eL_law_1836, eL_law_1836N, eL_law_1837, eL_law_1837N, eL_law_1838, eL_law_1840, eL_law_1841, eL_law_1842, eL_law_1843, eL_law_1843N, eL_law_1844, eL_law_1846, eL_law_1847, eL_law_1848, eL_law_1849, eL_law_1849N, eL_law_1850RR, eL_law_1850NR, eL_law_1850RN, eL_law_1850NN, eL_law_1853, eL_law_1855, eL_law_1855N, eL_law_1856, eL_law_1856N, eL_law_1857, eL_law_1859, eL_law_1860, eL_law_1861, eL_law_1862, eL_law_1862N, eL_law_1863, eL_law_1865, eL_law_1866, eL_law_1867, eL_law_1868, eL_law_1871, eL_law_1873, ite_le, n45, n54, true_or, or_true, false_or, or_false, false_and, and_false, kx_l, kx_r, go_s, gl_s, gi_s, gb_s2, gb_s3, gq_s, wt_nil, wt_int, wt_long, wt_ref, wt_null, nl_int, nl_long, nl_ref, nl_null, nl_none, rf_n, rf_s, rf_st, tl_s, tl_n, g0, gS, ex1, nb_b, nb_0, nb_1, nf_i, nf_l, nf_ra, nf_ro, nf_na, nf_no, nf_b0, nf_z0, t45_4, t45_5, true_and, and_true, List.set_cons_zero, List.set_cons_succ, List.length_cons, List.length_nil, rd_s, upw_s, ne_eq, not_false_eq_true, Nat.zero_add, Nat.add_zero, if_true, if_false, eq_self]
    | split
    | with_reducible intro _
    | omega
end
