section
variable {g : RO} {w : Hw} {x nA cA lA y nM o b L k n : Nat} {xs : Nat → Int32} {i kn : Int32} {l5 l6 : Option Value}
set_option maxHeartbeats 4000000 in
theorem cL_36 (hR : RG g) (hb : g.2 b = some (.inl (1, L, .inl xs))) (hL : LWO g w x nA cA lA y nM o kn kn) (v1 : vp_in (i + 1) L) (v2 : vp_in (i + 2) L) (v3 : vp_in (i + 3) L) (v4 : vp_in (i + 4) L) (v5 : vp_in (i + 5) L) (hk : k + 114 ≤ 58408) (hn : n + 2834 ≤ 1451408) (next : (∀ (l5' l6' : Option Value) (w' : Hw) (k' n' : Nat) (kn' : Int32), LWO g w' x nA cA lA y nM o kn' kn' → k' ≤ k + 114 → n' ≤ n + 2834 → WP (ML_law g) QLaw (2217, [some (.ref b), some (.ref x), some (.ref y), some (.ref o), some (.int i), l5', l6'], [], w', k', n'))) : WP (ML_law g) QLaw (1876, [some (.ref b), some (.ref x), some (.ref y), some (.ref o), some (.int i), l5, l6], [], w, k, n) := by
  repeat' first
    | with_reducible assumption
    | with_reducible refine And.intro ?_ ?_
    | with_reducible refine gi_L (LWO.l (by assumption)) hb ?_
    | with_reducible refine go_X (LWO.l (by assumption)) (fun _ => trivial)
    | with_reducible refine go_Z (LWO.l (by assumption)) (fun _ => trivial)
    | with_reducible refine oL_likes hR (by assumption) (fun v1 w1 h1 => ?_)
    | with_reducible refine sX3_likes (LWO.mm h1) (fun v2 w2 m2 => ?_)
    | with_reducible exact next _ _ _ _ _ _ (LWO.ofM h1 m2) (by omega) (by omega)
    | simp only [eL_law_1876, eL_law_1876N, eL_law_1877, eL_law_1877N, eL_law_1878, eL_law_1880, eL_law_1881, eL_law_1882, eL_law_1883, eL_law_1883N, eL_law_1884RR, eL_law_1884NR, eL_law_1884RN, eL_law_1884NN, eL_law_1887, eL_law_1889, eL_law_1889N, eL_law_1890, eL_law_1890N, eL_law_1891, eL_law_1893, eL_law_1894, eL_law_1895, eL_law_1896, eL_law_1899, eL_law_1901, ite_le, n45, n54, true_or, or_true, false_or, or_false, false_and, and_false, kx_l, kx_r, go_s, gl_s, gi_s, gb_s2, gb_s3, gq_s, wt_nil, wt_int, wt_long, wt_ref, wt_null, nl_int, nl_long, nl_ref, nl_null, nl_none, rf_n, rf_s, rf_st, tl_s, tl_n, g0, gS, ex1, nb_b, nb_0, nb_1, nf_i, nf_l, nf_ra, nf_ro, nf_na, nf_no, nf_b0, nf_z0, t45_4, t45_5, true_and, and_true, List.set_cons_zero, List.set_cons_succ, List.length_cons, List.length_nil, rd_s, upw_s, ne_eq, not_false_eq_true, Nat.zero_add, Nat.add_zero, if_true, if_false, eq_self]
    | split
    | with_reducible intro _
    | omega
set_option maxHeartbeats 4000000 in
theorem cL_37 (hR : RG g) (hb : g.2 b = some (.inl (1, L, .inl xs))) (hL : LWO g w x nA cA lA y nM o kn kn) (v1 : vp_in (i + 1) L) (v2 : vp_in (i + 2) L) (v3 : vp_in (i + 3) L) (v4 : vp_in (i + 4) L) (v5 : vp_in (i + 5) L) (hk : k + 114 ≤ 58408) (hn : n + 2834 ≤ 1451408) (next : (∀ (l5' l6' : Option Value) (w' : Hw) (k' n' : Nat) (kn' : Int32), LWO g w' x nA cA lA y nM o kn' kn' → k' ≤ k + 114 → n' ≤ n + 2834 → WP (ML_law g) QLaw (2217, [some (.ref b), some (.ref x), some (.ref y), some (.ref o), some (.int i), l5', l6'], [], w', k', n'))) : WP (ML_law g) QLaw (1904, [some (.ref b), some (.ref x), some (.ref y), some (.ref o), some (.int i), l5, l6], [], w, k, n) := by
  repeat' first
    | with_reducible assumption
    | with_reducible refine And.intro ?_ ?_
    | with_reducible refine gi_L (LWO.l (by assumption)) hb ?_
    | with_reducible refine go_X (LWO.l (by assumption)) (fun _ => trivial)
    | with_reducible refine go_Z (LWO.l (by assumption)) (fun _ => trivial)
    | with_reducible refine oL_lay hR (by assumption) (fun v1 w1 h1 => ?_)
    | with_reducible refine sX3_lay (LWO.mm h1) (hR.eg (LWO.ro h1)) hR.sg (fun v2 w2 m2 => ?_)
    | with_reducible exact next _ _ _ _ _ _ (LWO.ofM h1 m2) (by omega) (by omega)
    | simp only [eL_law_1904, eL_law_1904N, eL_law_1905, eL_law_1905N, eL_law_1906, eL_law_1908, eL_law_1909, eL_law_1910, eL_law_1911, eL_law_1911N, eL_law_1912RR, eL_law_1912NR, eL_law_1912RN, eL_law_1912NN, eL_law_1915, eL_law_1917, eL_law_1917N, eL_law_1918, eL_law_1918N, eL_law_1919, eL_law_1921, eL_law_1922, eL_law_1923, eL_law_1924, eL_law_1927, eL_law_1929, ite_le, n45, n54, true_or, or_true, false_or, or_false, false_and, and_false, kx_l, kx_r, go_s, gl_s, gi_s, gb_s2, gb_s3, gq_s, wt_nil, wt_int, wt_long, wt_ref, wt_null, nl_int, nl_long, nl_ref, nl_null, nl_none, rf_n, rf_s, rf_st, tl_s, tl_n, g0, gS, ex1, nb_b, nb_0, nb_1, nf_i, nf_l, nf_ra, nf_ro, nf_na, nf_no, nf_b0, nf_z0, t45_4, t45_5, true_and, and_true, List.set_cons_zero, List.set_cons_succ, List.length_cons, List.length_nil, rd_s, upw_s, ne_eq, not_false_eq_true, Nat.zero_add, Nat.add_zero, if_true, if_false, eq_self]
    | split
    | with_reducible intro _
    | omega
set_option maxHeartbeats 4000000 in
theorem cL_38 (hR : RG g) (hb : g.2 b = some (.inl (1, L, .inl xs))) (hL : LWO g w x nA cA lA y nM o kn kn) (v1 : vp_in (i + 1) L) (v2 : vp_in (i + 2) L) (v3 : vp_in (i + 3) L) (v4 : vp_in (i + 4) L) (v5 : vp_in (i + 5) L) (hk : k + 114 ≤ 58408) (hn : n + 2834 ≤ 1451408) (next : (∀ (l5' l6' : Option Value) (w' : Hw) (k' n' : Nat) (kn' : Int32), LWO g w' x nA cA lA y nM o kn' kn' → k' ≤ k + 114 → n' ≤ n + 2834 → WP (ML_law g) QLaw (2217, [some (.ref b), some (.ref x), some (.ref y), some (.ref o), some (.int i), l5', l6'], [], w', k', n'))) : WP (ML_law g) QLaw (1932, [some (.ref b), some (.ref x), some (.ref y), some (.ref o), some (.int i), l5, l6], [], w, k, n) := by
  repeat' first
    | with_reducible assumption
    | with_reducible refine And.intro ?_ ?_
    | with_reducible refine gi_L (LWO.l (by assumption)) hb ?_
    | with_reducible refine go_X (LWO.l (by assumption)) (fun _ => trivial)
    | with_reducible refine go_Z (LWO.l (by assumption)) (fun _ => trivial)
    | with_reducible refine oL_seek hR (by assumption) (fun v1 w1 h1 => ?_)
    | with_reducible refine sX3_seek (LWO.mm h1) (fun v2 w2 m2 => ?_)
    | with_reducible exact next _ _ _ _ _ _ (LWO.ofM h1 m2) (by omega) (by omega)
    | simp only [eL_law_1932, eL_law_1932N, eL_law_1933, eL_law_1933N, eL_law_1934, eL_law_1936, eL_law_1937, eL_law_1938, eL_law_1939, eL_law_1939N, eL_law_1940, eL_law_1942, eL_law_1943, eL_law_1944, eL_law_1945, eL_law_1948, eL_law_1949, eL_law_1952, eL_law_1953, eL_law_1953N, eL_law_1954RR, eL_law_1954NR, eL_law_1954RN, eL_law_1954NN, eL_law_1957, eL_law_1959, eL_law_1959N, eL_law_1960, eL_law_1960N, eL_law_1961, eL_law_1963, eL_law_1964, eL_law_1965, eL_law_1966, eL_law_1966N, eL_law_1967, eL_law_1969, eL_law_1970, eL_law_1971, eL_law_1972, eL_law_1975, eL_law_1976, eL_law_1979, eL_law_1980, eL_law_1983, eL_law_1985, ite_le, n45, n54, true_or, or_true, false_or, or_false, false_and, and_false, kx_l, kx_r, go_s, gl_s, gi_s, gb_s2, gb_s3, gq_s, wt_nil, wt_int, wt_long, wt_ref, wt_null, nl_int, nl_long, nl_ref, nl_null, nl_none, rf_n, rf_s, rf_st, tl_s, tl_n, g0, gS, ex1, nb_b, nb_0, nb_1, nf_i, nf_l, nf_ra, nf_ro, nf_na, nf_no, nf_b0, nf_z0, t45_4, t45_5, true_and, and_true, List.set_cons_zero, List.set_cons_succ, List.length_cons, List.length_nil, rd_s, upw_s, ne_eq, not_false_eq_true, Nat.zero_add, Nat.add_zero, if_true, if_false, eq_self]
    | split
    | with_reducible intro _
    | omega
set_option maxHeartbeats 4000000 in
theorem cL_39 (hR : RG g) (hb : g.2 b = some (.inl (1, L, .inl xs))) (hL : LWO g w x nA cA lA y nM o kn kn) (v1 : vp_in (i + 1) L) (v2 : vp_in (i + 2) L) (v3 : vp_in (i + 3) L) (v4 : vp_in (i + 4) L) (v5 : vp_in (i + 5) L) (hk : k + 114 ≤ 58408) (hn : n + 2834 ≤ 1451408) (next : (∀ (l5' l6' : Option Value) (w' : Hw) (k' n' : Nat) (kn' : Int32), LWO g w' x nA cA lA y nM o kn' kn' → k' ≤ k + 114 → n' ≤ n + 2834 → WP (ML_law g) QLaw (2217, [some (.ref b), some (.ref x), some (.ref y), some (.ref o), some (.int i), l5', l6'], [], w', k', n'))) : WP (ML_law g) QLaw (1988, [some (.ref b), some (.ref x), some (.ref y), some (.ref o), some (.int i), l5, l6], [], w, k, n) := by
  repeat' first
    | with_reducible assumption
    | with_reducible refine And.intro ?_ ?_
    | with_reducible refine gi_L (LWO.l (by assumption)) hb ?_
    | with_reducible refine go_X (LWO.l (by assumption)) (fun _ => trivial)
    | with_reducible refine go_Z (LWO.l (by assumption)) (fun _ => trivial)
    | with_reducible refine oL_howOften hR (by assumption) (fun v1 w1 h1 => ?_)
    | with_reducible refine sX3_howOften (LWO.mm h1) (fun v2 w2 m2 => ?_)
    | with_reducible exact next _ _ _ _ _ _ (LWO.ofM h1 m2) (by omega) (by omega)
    | simp only [eL_law_1988, eL_law_1988N, eL_law_1989, eL_law_1989N, eL_law_1990, eL_law_1992, eL_law_1993, eL_law_1994, eL_law_1995, eL_law_1995N, eL_law_1996RR, eL_law_1996NR, eL_law_1996RN, eL_law_1996NN, eL_law_1999, eL_law_2001, eL_law_2001N, eL_law_2002, eL_law_2002N, eL_law_2003, eL_law_2005, eL_law_2006, eL_law_2007, eL_law_2008, eL_law_2011, eL_law_2013, ite_le, n45, n54, true_or, or_true, false_or, or_false, false_and, and_false, kx_l, kx_r, go_s, gl_s, gi_s, gb_s2, gb_s3, gq_s, wt_nil, wt_int, wt_long, wt_ref, wt_null, nl_int, nl_long, nl_ref, nl_null, nl_none, rf_n, rf_s, rf_st, tl_s, tl_n, g0, gS, ex1, nb_b, nb_0, nb_1, nf_i, nf_l, nf_ra, nf_ro, nf_na, nf_no, nf_b0, nf_z0, t45_4, t45_5, true_and, and_true, List.set_cons_zero, List.set_cons_succ, List.length_cons, List.length_nil, rd_s, upw_s, ne_eq, not_false_eq_true, Nat.zero_add, Nat.add_zero, if_true, if_false, eq_self]
    | split
    | with_reducible intro _
    | omega
set_option maxHeartbeats 4000000 in
theorem cL_40 (hR : RG g) (hb : g.2 b = some (.inl (1, L, .inl xs))) (hL : LWO g w x nA cA lA y nM o kn kn) (v1 : vp_in (i + 1) L) (v2 : vp_in (i + 2) L) (v3 : vp_in (i + 3) L) (v4 : vp_in (i + 4) L) (v5 : vp_in (i + 5) L) (hk : k + 114 ≤ 58408) (hn : n + 2834 ≤ 1451408) (next : (∀ (l5' l6' : Option Value) (w' : Hw) (k' n' : Nat) (kn' : Int32), LWO g w' x nA cA lA y nM o kn' kn' → k' ≤ k + 114 → n' ≤ n + 2834 → WP (ML_law g) QLaw (2217, [some (.ref b), some (.ref x), some (.ref y), some (.ref o), some (.int i), l5', l6'], [], w', k', n'))) : WP (ML_law g) QLaw (2016, [some (.ref b), some (.ref x), some (.ref y), some (.ref o), some (.int i), l5, l6], [], w, k, n) := by
  repeat' first
    | with_reducible assumption
    | with_reducible refine And.intro ?_ ?_
    | with_reducible refine gi_L (LWO.l (by assumption)) hb ?_
    | with_reducible refine go_X (LWO.l (by assumption)) (fun _ => trivial)
    | with_reducible refine go_Z (LWO.l (by assumption)) (fun _ => trivial)
    | with_reducible refine oL_lift hR (by assumption) (fun v1 w1 h1 => ?_)
    | with_reducible refine sX3_lift (LWO.mm h1) (fun v2 w2 m2 => ?_)
    | with_reducible exact next _ _ _ _ _ _ (LWO.ofM h1 m2) (by omega) (by omega)
    | simp only [eL_law_2016, eL_law_2016N, eL_law_2017, eL_law_2017N, eL_law_2018, eL_law_2020, eL_law_2021, eL_law_2022, eL_law_2023, eL_law_2023N, eL_law_2024RR, eL_law_2024NR, eL_law_2024RN, eL_law_2024NN, eL_law_2027, eL_law_2029, eL_law_2029N, eL_law_2030, eL_law_2030N, eL_law_2031, eL_law_2033, eL_law_2034, eL_law_2035, eL_law_2036, eL_law_2039, eL_law_2041, ite_le, n45, n54, true_or, or_true, false_or, or_false, false_and, and_false, kx_l, kx_r, go_s, gl_s, gi_s, gb_s2, gb_s3, gq_s, wt_nil, wt_int, wt_long, wt_ref, wt_null, nl_int, nl_long, nl_ref, nl_null, nl_none, rf_n, rf_s, rf_st, tl_s, tl_n, g0, gS, ex1, nb_b, nb_0, nb_1, nf_i, nf_l, nf_ra, nf_ro, nf_na, nf_no, nf_b0, nf_z0, t45_4, t45_5, true_and, and_true, List.set_cons_zero, List.set_cons_succ, List.length_cons, List.length_nil, rd_s, upw_s, ne_eq, not_false_eq_true, Nat.zero_add, Nat.add_zero, if_true, if_false, eq_self]
    | split
    | with_reducible intro _
    | omega
set_option maxHeartbeats 4000000 in
theorem cL_41 (hR : RG g) (hb : g.2 b = some (.inl (1, L, .inl xs))) (hL : LWO g w x nA cA lA y nM o kn kn) (v1 : vp_in (i + 1) L) (v2 : vp_in (i + 2) L) (v3 : vp_in (i + 3) L) (v4 : vp_in (i + 4) L) (v5 : vp_in (i + 5) L) (hk : k + 114 ≤ 58408) (hn : n + 2834 ≤ 1451408) (next : (∀ (l5' l6' : Option Value) (w' : Hw) (k' n' : Nat) (kn' : Int32), LWO g w' x nA cA lA y nM o kn' kn' → k' ≤ k + 114 → n' ≤ n + 2834 → WP (ML_law g) QLaw (2217, [some (.ref b), some (.ref x), some (.ref y), some (.ref o), some (.int i), l5', l6'], [], w', k', n'))) : WP (ML_law g) QLaw (2044, [some (.ref b), some (.ref x), some (.ref y), some (.ref o), some (.int i), l5, l6], [], w, k, n) := by
  repeat' first
    | with_reducible assumption
    | with_reducible refine And.intro ?_ ?_
    | with_reducible refine gi_L (LWO.l (by assumption)) hb ?_
    | with_reducible refine go_X (LWO.l (by assumption)) (fun _ => trivial)
    | with_reducible refine go_Z (LWO.l (by assumption)) (fun _ => trivial)
    | with_reducible refine oL_pick hR (by assumption) (fun v1 w1 h1 => ?_)
    | with_reducible refine sX3_pick (LWO.mm h1) (fun v2 w2 m2 => ?_)
    | with_reducible exact next _ _ _ _ _ _ (LWO.ofM h1 m2) (by omega) (by omega)
    | simp only [eL_law_2044, eL_law_2044N, eL_law_2045, eL_law_2045N, eL_law_2046, eL_law_2048, eL_law_2049, eL_law_2050, eL_law_2051, eL_law_2051N, eL_law_2052, eL_law_2054, eL_law_2055, eL_law_2056, eL_law_2057, eL_law_2057N, eL_law_2058RR, eL_law_2058NR, eL_law_2058RN, eL_law_2058NN, eL_law_2061, eL_law_2063, eL_law_2063N, eL_law_2064, eL_law_2064N, eL_law_2065, eL_law_2067, eL_law_2068, eL_law_2069, eL_law_2070, eL_law_2070N, eL_law_2071, eL_law_2073, eL_law_2074, eL_law_2075, eL_law_2076, eL_law_2079, eL_law_2081, ite_le, n45, n54, true_or, or_true, false_or, or_false, false_and, and_false, kx_l, kx_r, go_s, gl_s, gi_s, gb_s2, gb_s3, gq_s, wt_nil, wt_int, wt_long, wt_ref, wt_null, nl_int, nl_long, nl_ref, nl_null, nl_none, rf_n, rf_s, rf_st, tl_s, tl_n, g0, gS, ex1, nb_b, nb_0, nb_1, nf_i, nf_l, nf_ra, nf_ro, nf_na, nf_no, nf_b0, nf_z0, t45_4, t45_5, true_and, and_true, List.set_cons_zero, List.set_cons_succ, List.length_cons, List.length_nil, rd_s, upw_s, ne_eq, not_false_eq_true, Nat.zero_add, Nat.add_zero, if_true, if_false, eq_self]
    | split
    | with_reducible intro _
    | omega
set_option maxHeartbeats 4000000 in
theorem cL_42 (hR : RG g) (hb : g.2 b = some (.inl (1, L, .inl xs))) (hL : LWO g w x nA cA lA y nM o kn kn) (v1 : vp_in (i + 1) L) (v2 : vp_in (i + 2) L) (v3 : vp_in (i + 3) L) (v4 : vp_in (i + 4) L) (v5 : vp_in (i + 5) L) (hk : k + 114 ≤ 58408) (hn : n + 2834 ≤ 1451408) (next : (∀ (l5' l6' : Option Value) (w' : Hw) (k' n' : Nat) (kn' : Int32), LWO g w' x nA cA lA y nM o kn' kn' → k' ≤ k + 114 → n' ≤ n + 2834 → WP (ML_law g) QLaw (2217, [some (.ref b), some (.ref x), some (.ref y), some (.ref o), some (.int i), l5', l6'], [], w', k', n'))) : WP (ML_law g) QLaw (2084, [some (.ref b), some (.ref x), some (.ref y), some (.ref o), some (.int i), l5, l6], [], w, k, n) := by
  repeat' first
    | with_reducible assumption
    | with_reducible refine And.intro ?_ ?_
    | with_reducible refine gi_L (LWO.l (by assumption)) hb ?_
    | with_reducible refine go_X (LWO.l (by assumption)) (fun _ => trivial)
    | with_reducible refine go_Z (LWO.l (by assumption)) (fun _ => trivial)
    | with_reducible refine oX1_turn (LWO.co hL) (fun v1 w1 c1 => ?_)
    | with_reducible refine go_Z (LWO.l (hL.of c1)) (fun _ => trivial)
    | with_reducible refine sX3_turn (LWO.mm (hL.of c1)) (hR.eg (LWO.ro (hL.of c1))) hR.sg (fun v2 w2 m2 => ?_)
    | with_reducible exact next _ _ _ _ _ _ (LWO.ofM (hL.of c1) m2) (by omega) (by omega)
    | simp only [eL_law_2084, eL_law_2084N, eL_law_2085, eL_law_2088, eL_law_2088R, eL_law_2088N, eL_law_2089, eL_law_2089N, eL_law_2090, eL_law_2093, eL_law_2093R, eL_law_2093N, eL_law_2094, ite_le, n45, n54, true_or, or_true, false_or, or_false, false_and, and_false, kx_l, kx_r, go_s, gl_s, gi_s, gb_s2, gb_s3, gq_s, wt_nil, wt_int, wt_long, wt_ref, wt_null, nl_int, nl_long, nl_ref, nl_null, nl_none, rf_n, rf_s, rf_st, tl_s, tl_n, g0, gS, ex1, nb_b, nb_0, nb_1, nf_i, nf_l, nf_ra, nf_ro, nf_na, nf_no, nf_b0, nf_z0, t45_4, t45_5, true_and, and_true, List.set_cons_zero, List.set_cons_succ, List.length_cons, List.length_nil, rd_s, upw_s, ne_eq, not_false_eq_true, Nat.zero_add, Nat.add_zero, if_true, if_false, eq_self]
    | split
    | with_reducible intro _
    | omega
set_option maxHeartbeats 4000000 in
theorem cL_43 (hR : RG g) (hb : g.2 b = some (.inl (1, L, .inl xs))) (hL : LWO g w x nA cA lA y nM o kn kn) (v1 : vp_in (i + 1) L) (v2 : vp_in (i + 2) L) (v3 : vp_in (i + 3) L) (v4 : vp_in (i + 4) L) (v5 : vp_in (i + 5) L) (hk : k + 114 ≤ 58408) (hn : n + 2834 ≤ 1451408) (next : (∀ (l5' l6' : Option Value) (w' : Hw) (k' n' : Nat) (kn' : Int32), LWO g w' x nA cA lA y nM o kn' kn' → k' ≤ k + 114 → n' ≤ n + 2834 → WP (ML_law g) QLaw (2217, [some (.ref b), some (.ref x), some (.ref y), some (.ref o), some (.int i), l5', l6'], [], w', k', n'))) : WP (ML_law g) QLaw (2097, [some (.ref b), some (.ref x), some (.ref y), some (.ref o), some (.int i), l5, l6], [], w, k, n) := by
  repeat' first
    | with_reducible assumption
    | with_reducible refine And.intro ?_ ?_
    | with_reducible refine gi_L (LWO.l (by assumption)) hb ?_
    | with_reducible refine go_X (LWO.l (by assumption)) (fun _ => trivial)
    | with_reducible refine go_Z (LWO.l (by assumption)) (fun _ => trivial)
    | with_reducible refine oX1_sweep (LWO.co hL) (fun v1 w1 c1 => ?_)
    | with_reducible refine go_Z (LWO.l (hL.of c1)) (fun _ => trivial)
    | with_reducible refine sX3_sweep (LWO.mm (hL.of c1)) (hR.eg (LWO.ro (hL.of c1))) hR.sg (fun v2 w2 m2 => ?_)
    | with_reducible exact next _ _ _ _ _ _ (LWO.ofM (hL.of c1) m2) (by omega) (by omega)
    | simp only [eL_law_2097, eL_law_2097N, eL_law_2098, eL_law_2101, eL_law_2101R, eL_law_2101N, eL_law_2102, eL_law_2102N, eL_law_2103, eL_law_2106, eL_law_2106R, eL_law_2106N, eL_law_2107, ite_le, n45, n54, true_or, or_true, false_or, or_false, false_and, and_false, kx_l, kx_r, go_s, gl_s, gi_s, gb_s2, gb_s3, gq_s, wt_nil, wt_int, wt_long, wt_ref, wt_null, nl_int, nl_long, nl_ref, nl_null, nl_none, rf_n, rf_s, rf_st, tl_s, tl_n, g0, gS, ex1, nb_b, nb_0, nb_1, nf_i, nf_l, nf_ra, nf_ro, nf_na, nf_no, nf_b0, nf_z0, t45_4, t45_5, true_and, and_true, List.set_cons_zero, List.set_cons_succ, List.length_cons, List.length_nil, rd_s, upw_s, ne_eq, not_false_eq_true, Nat.zero_add, Nat.add_zero, if_true, if_false, eq_self]
    | split
    | with_reducible intro _
    | omega
set_option maxHeartbeats 4000000 in
theorem cL_44 (hR : RG g) (hb : g.2 b = some (.inl (1, L, .inl xs))) (hL : LWO g w x nA cA lA y nM o kn kn) (v1 : vp_in (i + 1) L) (v2 : vp_in (i + 2) L) (v3 : vp_in (i + 3) L) (v4 : vp_in (i + 4) L) (v5 : vp_in (i + 5) L) (hk : k + 114 ≤ 58408) (hn : n + 2834 ≤ 1451408) (next : (∀ (l5' l6' : Option Value) (w' : Hw) (k' n' : Nat) (kn' : Int32), LWO g w' x nA cA lA y nM o kn' kn' → k' ≤ k + 114 → n' ≤ n + 2834 → WP (ML_law g) QLaw (2217, [some (.ref b), some (.ref x), some (.ref y), some (.ref o), some (.int i), l5', l6'], [], w', k', n'))) : WP (ML_law g) QLaw (2110, [some (.ref b), some (.ref x), some (.ref y), some (.ref o), some (.int i), l5, l6], [], w, k, n) := by
  repeat' first
    | with_reducible assumption
    | with_reducible refine And.intro ?_ ?_
    | with_reducible refine gi_L (LWO.l (by assumption)) hb ?_
    | with_reducible refine go_X (LWO.l (by assumption)) (fun _ => trivial)
    | with_reducible refine go_Z (LWO.l (by assumption)) (fun _ => trivial)
    | with_reducible refine oL_pile hR (by assumption) (fun v1 w1 h1 => ?_)
    | with_reducible refine sX3_pile (LWO.mm h1) (fun v2 w2 m2 => ?_)
    | with_reducible exact next _ _ _ _ _ _ (LWO.ofM h1 m2) (by omega) (by omega)
    | simp only [eL_law_2110, eL_law_2110N, eL_law_2111, eL_law_2111N, eL_law_2112, eL_law_2114, eL_law_2115, eL_law_2116, eL_law_2117, eL_law_2117N, eL_law_2118, eL_law_2120, eL_law_2121, eL_law_2122, eL_law_2123, eL_law_2123N, eL_law_2124RR, eL_law_2124NR, eL_law_2124RN, eL_law_2124NN, eL_law_2127, eL_law_2129, eL_law_2129N, eL_law_2130, eL_law_2130N, eL_law_2131, eL_law_2133, eL_law_2134, eL_law_2135, eL_law_2136, eL_law_2136N, eL_law_2137, eL_law_2139, eL_law_2140, eL_law_2141, eL_law_2142, eL_law_2145, eL_law_2147, ite_le, n45, n54, true_or, or_true, false_or, or_false, false_and, and_false, kx_l, kx_r, go_s, gl_s, gi_s, gb_s2, gb_s3, gq_s, wt_nil, wt_int, wt_long, wt_ref, wt_null, nl_int, nl_long, nl_ref, nl_null, nl_none, rf_n, rf_s, rf_st, tl_s, tl_n, g0, gS, ex1, nb_b, nb_0, nb_1, nf_i, nf_l, nf_ra, nf_ro, nf_na, nf_no, nf_b0, nf_z0, t45_4, t45_5, true_and, and_true, List.set_cons_zero, List.set_cons_succ, List.length_cons, List.length_nil, rd_s, upw_s, ne_eq, not_false_eq_true, Nat.zero_add, Nat.add_zero, if_true, if_false, eq_self]
    | split
    | with_reducible intro _
    | omega
set_option maxHeartbeats 4000000 in
theorem cL_45 (hR : RG g) (hb : g.2 b = some (.inl (1, L, .inl xs))) (hL : LWO g w x nA cA lA y nM o kn kn) (v1 : vp_in (i + 1) L) (v2 : vp_in (i + 2) L) (v3 : vp_in (i + 3) L) (v4 : vp_in (i + 4) L) (v5 : vp_in (i + 5) L) (hk : k + 114 ≤ 58408) (hn : n + 2834 ≤ 1451408) (next : (∀ (l5' l6' : Option Value) (w' : Hw) (k' n' : Nat) (kn' : Int32), LWO g w' x nA cA lA y nM o kn' kn' → k' ≤ k + 114 → n' ≤ n + 2834 → WP (ML_law g) QLaw (2217, [some (.ref b), some (.ref x), some (.ref y), some (.ref o), some (.int i), l5', l6'], [], w', k', n'))) : WP (ML_law g) QLaw (2150, [some (.ref b), some (.ref x), some (.ref y), some (.ref o), some (.int i), l5, l6], [], w, k, n) := by
  repeat' first
    | with_reducible assumption
    | with_reducible refine And.intro ?_ ?_
    | with_reducible refine gi_L (LWO.l (by assumption)) hb ?_
    | with_reducible refine go_X (LWO.l (by assumption)) (fun _ => trivial)
    | with_reducible refine go_Z (LWO.l (by assumption)) (fun _ => trivial)
    | with_reducible refine oL_house hR (by assumption) (fun v1 w1 h1 => ?_)
    | with_reducible refine sX3_house (LWO.mm h1) (fun v2 w2 m2 => ?_)
    | with_reducible exact next _ _ _ _ _ _ (LWO.ofM h1 m2) (by omega) (by omega)
    | simp only [eL_law_2150, eL_law_2150N, eL_law_2151, eL_law_2151N, eL_law_2152, eL_law_2154, eL_law_2155, eL_law_2156, eL_law_2157, eL_law_2157N, eL_law_2158RR, eL_law_2158NR, eL_law_2158RN, eL_law_2158NN, eL_law_2161, eL_law_2163, eL_law_2163N, eL_law_2164, eL_law_2164N, eL_law_2165, eL_law_2167, eL_law_2168, eL_law_2169, eL_law_2170, eL_law_2173, eL_law_2175, ite_le, n45, n54, true_or, or_true, false_or, or_false, false_and, and_false, kx_l, kx_r, go_s, gl_s, gi_s, gb_s2, gb_s3, gq_s, wt_nil, wt_int, wt_long, wt_ref, wt_null, nl_int, nl_long, nl_ref, nl_null, nl_none, rf_n, rf_s, rf_st, tl_s, tl_n, g0, gS, ex1, nb_b, nb_0, nb_1, nf_i, nf_l, nf_ra, nf_ro, nf_na, nf_no, nf_b0, nf_z0, t45_4, t45_5, true_and, and_true, List.set_cons_zero, List.set_cons_succ, List.length_cons, List.length_nil, rd_s, upw_s, ne_eq, not_false_eq_true, Nat.zero_add, Nat.add_zero, if_true, if_false, eq_self]
    | split
    | with_reducible intro _
    | omega
set_option maxHeartbeats 4000000 in
theorem cL_46 (hR : RG g) (hb : g.2 b = some (.inl (1, L, .inl xs))) (hL : LWO g w x nA cA lA y nM o kn kn) (v1 : vp_in (i + 1) L) (v2 : vp_in (i + 2) L) (v3 : vp_in (i + 3) L) (v4 : vp_in (i + 4) L) (v5 : vp_in (i + 5) L) (hk : k + 114 ≤ 58408) (hn : n + 2834 ≤ 1451408) (next : (∀ (l5' l6' : Option Value) (w' : Hw) (k' n' : Nat) (kn' : Int32), LWO g w' x nA cA lA y nM o kn' kn' → k' ≤ k + 114 → n' ≤ n + 2834 → WP (ML_law g) QLaw (2217, [some (.ref b), some (.ref x), some (.ref y), some (.ref o), some (.int i), l5', l6'], [], w', k', n'))) : WP (ML_law g) QLaw (2178, [some (.ref b), some (.ref x), some (.ref y), some (.ref o), some (.int i), l5, l6], [], w, k, n) := by
  repeat' first
    | with_reducible assumption
    | with_reducible refine And.intro ?_ ?_
    | with_reducible refine gi_L (LWO.l (by assumption)) hb ?_
    | with_reducible refine go_X (LWO.l (by assumption)) (fun _ => trivial)
    | with_reducible refine go_Z (LWO.l (by assumption)) (fun _ => trivial)
    | with_reducible refine oX1_knock (LWO.co hL) (fun w1 c1 => ?_)
    | with_reducible refine go_Z (LWO.l (hL.of c1)) (fun _ => trivial)
    | with_reducible refine sX3_knock (LWO.mm (hL.of c1)) (fun w2 m2 => ?_)
    | with_reducible exact next _ _ _ _ _ _ (LWO.ofM (hL.of c1) m2) (by omega) (by omega)
    | simp only [eL_law_2178, eL_law_2178N, eL_law_2179, eL_law_2182, eL_law_2182R, eL_law_2182N, eL_law_2183, eL_law_2183N, eL_law_2184, eL_law_2187, eL_law_2187R, eL_law_2187N, eL_law_2188, ite_le, n45, n54, true_or, or_true, false_or, or_false, false_and, and_false, kx_l, kx_r, go_s, gl_s, gi_s, gb_s2, gb_s3, gq_s, wt_nil, wt_int, wt_long, wt_ref, wt_null, nl_int, nl_long, nl_ref, nl_null, nl_none, rf_n, rf_s, rf_st, tl_s, tl_n, g0, gS, ex1, nb_b, nb_0, nb_1, nf_i, nf_l, nf_ra, nf_ro, nf_na, nf_no, nf_b0, nf_z0, t45_4, t45_5, true_and, and_true, List.set_cons_zero, List.set_cons_succ, List.length_cons, List.length_nil, rd_s, upw_s, ne_eq, not_false_eq_true, Nat.zero_add, Nat.add_zero, if_true, if_false, eq_self]
    | split
    | with_reducible intro _
    | omega
set_option maxHeartbeats 4000000 in
theorem cL_47 (hR : RG g) (hb : g.2 b = some (.inl (1, L, .inl xs))) (hL : LWO g w x nA cA lA y nM o kn kn) (v1 : vp_in (i + 1) L) (v2 : vp_in (i + 2) L) (v3 : vp_in (i + 3) L) (v4 : vp_in (i + 4) L) (v5 : vp_in (i + 5) L) (hk : k + 114 ≤ 58408) (hn : n + 2834 ≤ 1451408) (next : (∀ (l5' l6' : Option Value) (w' : Hw) (k' n' : Nat) (kn' : Int32), LWO g w' x nA cA lA y nM o kn' kn' → k' ≤ k + 114 → n' ≤ n + 2834 → WP (ML_law g) QLaw (2217, [some (.ref b), some (.ref x), some (.ref y), some (.ref o), some (.int i), l5', l6'], [], w', k', n'))) : WP (ML_law g) QLaw (2191, [some (.ref b), some (.ref x), some (.ref y), some (.ref o), some (.int i), l5, l6], [], w, k, n) := by
  repeat' first
    | with_reducible assumption
    | with_reducible refine And.intro ?_ ?_
    | with_reducible refine gi_L (LWO.l (by assumption)) hb ?_
    | with_reducible refine go_X (LWO.l (by assumption)) (fun _ => trivial)
    | with_reducible refine go_Z (LWO.l (by assumption)) (fun _ => trivial)
    | with_reducible refine oX1_isSound (LWO.co hL) (fun w1 c1 => ?_)
    | with_reducible refine go_Z (LWO.l (hL.ext c1)) (fun _ => trivial)
    | with_reducible refine oX3_isSound (LWO.mm (hL.ext c1)) (fun w2 m2 => ?_)
    | with_reducible exact next _ _ _ _ _ _ (LWO.ofM (hL.ext c1) m2) (by omega) (by omega)
    | simp only [eL_law_2191, eL_law_2191N, eL_law_2192, eL_law_2195, eL_law_2195N, eL_law_2196, eL_law_2199, eL_law_2202, eL_law_2203, ite_le, n45, n54, true_or, or_true, false_or, or_false, false_and, and_false, kx_l, kx_r, go_s, gl_s, gi_s, gb_s2, gb_s3, gq_s, wt_nil, wt_int, wt_long, wt_ref, wt_null, nl_int, nl_long, nl_ref, nl_null, nl_none, rf_n, rf_s, rf_st, tl_s, tl_n, g0, gS, ex1, nb_b, nb_0, nb_1, nf_i, nf_l, nf_ra, nf_ro, nf_na, nf_no, nf_b0, nf_z0, t45_4, t45_5, true_and, and_true, List.set_cons_zero, List.set_cons_succ, List.length_cons, List.length_nil, rd_s, upw_s, ne_eq, not_false_eq_true, Nat.zero_add, Nat.add_zero, if_true, if_false, eq_self]
    | split
    | with_reducible intro _
    | omega
end
