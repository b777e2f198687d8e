section
variable {g : RO} {w : Hw} {x nA cA lA y nM o b L k n : Nat} {xs : Nat → Int32} {i kn th : Int32} {s : AS} {l5 l6 : Option Value}
set_option maxHeartbeats 4000000 in
theorem cL_36 (hR : RG g) (hb : g.2 b = some (.inl (1, L, .inl xs))) (hL : LW g w x nA cA lA y nM o kn kn th s s) (v1 : vp_in (i + 1) L) (v2 : vp_in (i + 2) L) (v3 : vp_in (i + 3) L) (v4 : vp_in (i + 4) L) (v5 : vp_in (i + 5) L) (hk : k + 114 ≤ 58408) (hn : n + 2834 ≤ 1451408) (next : (∀ (l5' l6' : Option Value) (w' : Hw) (k' n' : Nat) (kn' th' : Int32) (s' : AS), LW g w' x nA cA lA y nM o kn' kn' th' s' s' → k' ≤ k + 114 → n' ≤ n + 2834 → WP (ML_law g) QLaw (2246, [some (.ref b), some (.ref x), some (.ref y), some (.ref o), some (.int i), l5', l6'], [], w', k', n'))) : WP (ML_law g) QLaw (1905, [some (.ref b), some (.ref x), some (.ref y), some (.ref o), some (.int i), l5, l6], [], w, k, n) := by
  repeat' first
    | with_reducible assumption
    | with_reducible refine And.intro ?_ ?_
    | with_reducible refine gi_W hL hb ?_
    | with_reducible refine LW.gx hL (fun _ => trivial)
    | with_reducible refine gL_likes hR hL (fun v1 w1 h1 => ?_)
    | with_reducible refine gX3_likes (LW.ms h1) (fun v2 t2 w2 m2 => ?_)
    | with_reducible refine LW.gz h1 (fun _ => trivial)
    | with_reducible refine gi_W h1 hb ?_
    | with_reducible exact next _ _ _ _ _ _ _ _ (LW.ofM h1 m2) (by omega) (by omega)
    | simp only [eL_law_1905, eL_law_1905N, eL_law_1906, eL_law_1906N, eL_law_1907, eL_law_1909, eL_law_1910, eL_law_1911, eL_law_1912, eL_law_1912N, eL_law_1913RR, eL_law_1913NR, eL_law_1913RN, eL_law_1913NN, eL_law_1916, eL_law_1918, eL_law_1918N, eL_law_1919, eL_law_1919N, eL_law_1920, eL_law_1922, eL_law_1923, eL_law_1924, eL_law_1925, eL_law_1928, eL_law_1930, ite_le, n45, n54, true_or, or_true, false_or, or_false, false_and, and_false, kx_l, kx_r, go_s, gl_s, gi_s, gb_s2, gb_s3, gq_s, wt_nil, wt_int, wt_long, wt_ref, wt_null, nl_int, nl_long, nl_ref, nl_null, nl_none, rf_n, rf_s, rf_st, tl_s, tl_n, g0, gS, ex1, nb_b, nb_0, nb_1, nf_i, nf_l, nf_ra, nf_ro, nf_na, nf_no, nf_b0, nf_z0, t45_4, t45_5, true_and, and_true, List.set_cons_zero, List.set_cons_succ, List.length_cons, List.length_nil, rd_s, upw_s, ne_eq, not_false_eq_true, Nat.zero_add, Nat.add_zero, if_true, if_false, eq_self, lgz, n12z, n2z, n3z, i00, not_true]
    | split
    | with_reducible intro _
    | omega
set_option maxHeartbeats 4000000 in
theorem cL_37 (hR : RG g) (hb : g.2 b = some (.inl (1, L, .inl xs))) (hL : LW g w x nA cA lA y nM o kn kn th s s) (v1 : vp_in (i + 1) L) (v2 : vp_in (i + 2) L) (v3 : vp_in (i + 3) L) (v4 : vp_in (i + 4) L) (v5 : vp_in (i + 5) L) (hk : k + 114 ≤ 58408) (hn : n + 2834 ≤ 1451408) (next : (∀ (l5' l6' : Option Value) (w' : Hw) (k' n' : Nat) (kn' th' : Int32) (s' : AS), LW g w' x nA cA lA y nM o kn' kn' th' s' s' → k' ≤ k + 114 → n' ≤ n + 2834 → WP (ML_law g) QLaw (2246, [some (.ref b), some (.ref x), some (.ref y), some (.ref o), some (.int i), l5', l6'], [], w', k', n'))) : WP (ML_law g) QLaw (1933, [some (.ref b), some (.ref x), some (.ref y), some (.ref o), some (.int i), l5, l6], [], w, k, n) := by
  repeat' first
    | with_reducible assumption
    | with_reducible refine And.intro ?_ ?_
    | with_reducible refine gi_W hL hb ?_
    | with_reducible refine LW.gx hL (fun _ => trivial)
    | cases Option.some.inj (hFpc1.symm.trans hFqc1); clear hFqc1
    | cases Option.some.inj (hFpc1.symm.trans hQqc1); clear hQqc1
    | cases Option.some.inj (hQpc1.symm.trans hFqc1); clear hFqc1
    | cases Option.some.inj (hQpc1.symm.trans hQqc1); clear hQqc1
    | with_reducible exact absurd hSqc0 hXpc0
    | with_reducible exact absurd hFqc0 hXpc0
    | with_reducible exact absurd hQqc0 hXpc0
    | with_reducible exact absurd hSpc0 hXqc0
    | with_reducible exact (nsC hSpc1 hFqc1).elim
    | with_reducible exact (nsC hSpc1 hQqc1).elim
    | with_reducible exact absurd hFpc0 hXqc0
    | with_reducible exact (nsC hSqc1 hFpc1).elim
    | with_reducible exact absurd hQqc2 hFpc2
    | with_reducible exact absurd hQpc0 hXqc0
    | with_reducible exact (nsC hSqc1 hQpc1).elim
    | with_reducible exact absurd hQpc2 hFqc2
    | with_reducible refine fL_lay hL (fun hXpc0 => ?_) (fun hSpc0 hSpc1 => ?_) (fun hFpc0 hFpr hFpc1 hFpc2 hFpw hFph hFpo => ?_) (fun hQpc0 hQpr hQpc1 hQpc2 hQpw hQph hQpo => ?_)
    | with_reducible refine fX3_lay (LW.ms hFph) (hR.eg (LW.ro hFph)) hR.sg (fun hXqc0 hXqw hXqh => ?_) (fun hSqc0 hSqc1 hSqw hSqh => ?_) (fun hFqc0 hFqr hFqc1 hFqc2 hFqw hFqh => ?_) (fun hQqc0 hQqr hQqc1 hQqc2 hQqw hQqh => ?_)
    | with_reducible refine fX3_lay (LW.ms hL) (hR.eg (LW.ro hL)) hR.sg (fun hXqc0 hXqw hXqh => ?_) (fun hSqc0 hSqc1 hSqw hSqh => ?_) (fun hFqc0 hFqr hFqc1 hFqc2 hFqw hFqh => ?_) (fun hQqc0 hQqr hQqc1 hQqc2 hQqw hQqh => ?_)
    | with_reducible refine fX3_lay (LW.ms hQph) (hR.eg (LW.ro hQph)) hR.sg (fun hXqc0 hXqw hXqh => ?_) (fun hSqc0 hSqc1 hSqw hSqh => ?_) (fun hFqc0 hFqr hFqc1 hFqc2 hFqw hFqh => ?_) (fun hQqc0 hQqr hQqc1 hQqc2 hQqw hQqh => ?_)
    | with_reducible refine LW.gz hFph (fun _ => trivial)
    | with_reducible refine gi_W hFph hb ?_
    | with_reducible refine LW.gz hL (fun _ => trivial)
    | with_reducible refine gi_W hL hb ?_
    | with_reducible refine LW.gz hQph (fun _ => trivial)
    | with_reducible refine gi_W hQph hb ?_
    | with_reducible exact next _ _ _ _ _ _ _ _ (LW.ofM hL hXqh) (by omega) (by omega)
    | with_reducible exact next _ _ _ _ _ _ _ _ (LW.ofM hL hSqh) (by omega) (by omega)
    | with_reducible exact next _ _ _ _ _ _ _ _ (LW.ofM hL hFqh) (by omega) (by omega)
    | with_reducible exact next _ _ _ _ _ _ _ _ (LW.ofM hL hQqh) (by omega) (by omega)
    | with_reducible exact next _ _ _ _ _ _ _ _ (LW.ofM hFph hXqh) (by omega) (by omega)
    | with_reducible exact next _ _ _ _ _ _ _ _ (LW.ofM hFph hSqh) (by omega) (by omega)
    | with_reducible exact next _ _ _ _ _ _ _ _ (LW.ofM hFph hFqh) (by omega) (by omega)
    | with_reducible exact next _ _ _ _ _ _ _ _ (LW.ofM hFph hQqh) (by omega) (by omega)
    | with_reducible exact next _ _ _ _ _ _ _ _ (LW.ofM hQph hXqh) (by omega) (by omega)
    | with_reducible exact next _ _ _ _ _ _ _ _ (LW.ofM hQph hSqh) (by omega) (by omega)
    | with_reducible exact next _ _ _ _ _ _ _ _ (LW.ofM hQph hFqh) (by omega) (by omega)
    | with_reducible exact next _ _ _ _ _ _ _ _ (LW.ofM hQph hQqh) (by omega) (by omega)
    | simp only [eL_law_1933, eL_law_1933N, eL_law_1934, eL_law_1934N, eL_law_1935, eL_law_1937, eL_law_1938, eL_law_1939, eL_law_1940, eL_law_1940N, eL_law_1941RR, eL_law_1941NR, eL_law_1941RN, eL_law_1941NN, eL_law_1944, eL_law_1946, eL_law_1946N, eL_law_1947, eL_law_1947N, eL_law_1948, eL_law_1950, eL_law_1951, eL_law_1952, eL_law_1953, eL_law_1956, eL_law_1958, ite_le, n45, n54, true_or, or_true, false_or, or_false, false_and, and_false, kx_l, kx_r, go_s, gl_s, gi_s, gb_s2, gb_s3, gq_s, wt_nil, wt_int, wt_long, wt_ref, wt_null, nl_int, nl_long, nl_ref, nl_null, nl_none, rf_n, rf_s, rf_st, tl_s, tl_n, g0, gS, ex1, nb_b, nb_0, nb_1, nf_i, nf_l, nf_ra, nf_ro, nf_na, nf_no, nf_b0, nf_z0, t45_4, t45_5, true_and, and_true, List.set_cons_zero, List.set_cons_succ, List.length_cons, List.length_nil, rd_s, upw_s, ne_eq, not_false_eq_true, Nat.zero_add, Nat.add_zero, if_true, if_false, eq_self, lgz, n12z, n2z, n3z, i00, not_true]
    | split
    | with_reducible intro _
    | omega
set_option maxHeartbeats 4000000 in
theorem cL_38 (hR : RG g) (hb : g.2 b = some (.inl (1, L, .inl xs))) (hL : LW g w x nA cA lA y nM o kn kn th s s) (v1 : vp_in (i + 1) L) (v2 : vp_in (i + 2) L) (v3 : vp_in (i + 3) L) (v4 : vp_in (i + 4) L) (v5 : vp_in (i + 5) L) (hk : k + 114 ≤ 58408) (hn : n + 2834 ≤ 1451408) (next : (∀ (l5' l6' : Option Value) (w' : Hw) (k' n' : Nat) (kn' th' : Int32) (s' : AS), LW g w' x nA cA lA y nM o kn' kn' th' s' s' → k' ≤ k + 114 → n' ≤ n + 2834 → WP (ML_law g) QLaw (2246, [some (.ref b), some (.ref x), some (.ref y), some (.ref o), some (.int i), l5', l6'], [], w', k', n'))) : WP (ML_law g) QLaw (1961, [some (.ref b), some (.ref x), some (.ref y), some (.ref o), some (.int i), l5, l6], [], w, k, n) := by
  repeat' first
    | with_reducible assumption
    | with_reducible refine And.intro ?_ ?_
    | with_reducible refine gi_W hL hb ?_
    | with_reducible refine LW.gx hL (fun _ => trivial)
    | cases Option.some.inj (hNpc1.symm.trans hQqc1); clear hQqc1
    | cases Option.some.inj (hFpc2.symm.trans hQqc1); clear hQqc1
    | cases Option.some.inj (hLLpc2.symm.trans hQqc1); clear hQqc1
    | with_reducible exact absurd hSqc0 hXpc0
    | with_reducible exact absurd hQqc0 hXpc0
    | with_reducible exact absurd hSpc0 hXqc0
    | with_reducible exact (nsC hSpc1 hQqc1).elim
    | with_reducible exact absurd hNpc0 hXqc0
    | with_reducible exact (nsC hSqc1 hNpc1).elim
    | with_reducible exact absurd hFpc1 hXqc0
    | with_reducible exact (nsC hSqc1 hFpc2).elim
    | with_reducible exact absurd hLLpc1 hXqc0
    | with_reducible exact (nsC hSqc1 hLLpc2).elim
    | with_reducible refine fL_seek hL (fun hXpc0 => ?_) (fun hSpc0 hSpc1 => ?_) (fun hNpc0 hNpr hNpc1 hNpc2 hNpw hNph hNpo => ?_) (fun hFpc0 hFpc1 hFpr hFpc2 hFpi hFpc3 hFpc4 hFpc5 hFpw hFph hFpo => ?_) (fun hLLpc0 hLLpc1 hLLpr hLLpc2 hLLpi hLLpc3 hLLpc4 hLLpc5 hLLpw hLLph hLLpo => ?_)
    | with_reducible refine fX3_seek (LW.ms hFph) (fun hXqc0 hXqw hXqh => ?_) (fun hSqc0 hSqc1 hSqw hSqh => ?_) (fun hQqc0 hQqr hQqc1 hQqw hQqh => ?_)
    | with_reducible refine fX3_seek (LW.ms hL) (fun hXqc0 hXqw hXqh => ?_) (fun hSqc0 hSqc1 hSqw hSqh => ?_) (fun hQqc0 hQqr hQqc1 hQqw hQqh => ?_)
    | with_reducible refine fX3_seek (LW.ms hLLph) (fun hXqc0 hXqw hXqh => ?_) (fun hSqc0 hSqc1 hSqw hSqh => ?_) (fun hQqc0 hQqr hQqc1 hQqw hQqh => ?_)
    | with_reducible refine fX3_seek (LW.ms hNph) (fun hXqc0 hXqw hXqh => ?_) (fun hSqc0 hSqc1 hSqw hSqh => ?_) (fun hQqc0 hQqr hQqc1 hQqw hQqh => ?_)
    | with_reducible refine LW.gz hFph (fun _ => trivial)
    | with_reducible refine gi_W hFph hb ?_
    | with_reducible refine LW.gz hL (fun _ => trivial)
    | with_reducible refine gi_W hL hb ?_
    | with_reducible refine LW.gz hLLph (fun _ => trivial)
    | with_reducible refine gi_W hLLph hb ?_
    | with_reducible refine LW.gz hNph (fun _ => trivial)
    | with_reducible refine gi_W hNph hb ?_
    | with_reducible exact next _ _ _ _ _ _ _ _ (LW.ofM hL hXqh) (by omega) (by omega)
    | with_reducible exact next _ _ _ _ _ _ _ _ (LW.ofM hL hSqh) (by omega) (by omega)
    | with_reducible exact next _ _ _ _ _ _ _ _ (LW.ofM hL hQqh) (by omega) (by omega)
    | with_reducible exact next _ _ _ _ _ _ _ _ (LW.ofM hNph hXqh) (by omega) (by omega)
    | with_reducible exact next _ _ _ _ _ _ _ _ (LW.ofM hNph hSqh) (by omega) (by omega)
    | with_reducible exact next _ _ _ _ _ _ _ _ (LW.ofM hNph hQqh) (by omega) (by omega)
    | with_reducible exact next _ _ _ _ _ _ _ _ (LW.ofM hFph hXqh) (by omega) (by omega)
    | with_reducible exact next _ _ _ _ _ _ _ _ (LW.ofM hFph hSqh) (by omega) (by omega)
    | with_reducible exact next _ _ _ _ _ _ _ _ (LW.ofM hFph hQqh) (by omega) (by omega)
    | with_reducible exact next _ _ _ _ _ _ _ _ (LW.ofM hLLph hXqh) (by omega) (by omega)
    | with_reducible exact next _ _ _ _ _ _ _ _ (LW.ofM hLLph hSqh) (by omega) (by omega)
    | with_reducible exact next _ _ _ _ _ _ _ _ (LW.ofM hLLph hQqh) (by omega) (by omega)
    | simp only [eL_law_1961, eL_law_1961N, eL_law_1962, eL_law_1962N, eL_law_1963, eL_law_1965, eL_law_1966, eL_law_1967, eL_law_1968, eL_law_1968N, eL_law_1969, eL_law_1971, eL_law_1972, eL_law_1973, eL_law_1974, eL_law_1977, eL_law_1978, eL_law_1981, eL_law_1982, eL_law_1982N, eL_law_1983RR, eL_law_1983NR, eL_law_1983RN, eL_law_1983NN, eL_law_1986, eL_law_1988, eL_law_1988N, eL_law_1989, eL_law_1989N, eL_law_1990, eL_law_1992, eL_law_1993, eL_law_1994, eL_law_1995, eL_law_1995N, eL_law_1996, eL_law_1998, eL_law_1999, eL_law_2000, eL_law_2001, eL_law_2004, eL_law_2005, eL_law_2008, eL_law_2009, eL_law_2012, eL_law_2014, ite_le, n45, n54, true_or, or_true, false_or, or_false, false_and, and_false, kx_l, kx_r, go_s, gl_s, gi_s, gb_s2, gb_s3, gq_s, wt_nil, wt_int, wt_long, wt_ref, wt_null, nl_int, nl_long, nl_ref, nl_null, nl_none, rf_n, rf_s, rf_st, tl_s, tl_n, g0, gS, ex1, nb_b, nb_0, nb_1, nf_i, nf_l, nf_ra, nf_ro, nf_na, nf_no, nf_b0, nf_z0, t45_4, t45_5, true_and, and_true, List.set_cons_zero, List.set_cons_succ, List.length_cons, List.length_nil, rd_s, upw_s, ne_eq, not_false_eq_true, Nat.zero_add, Nat.add_zero, if_true, if_false, eq_self, lgz, n12z, n2z, n3z, i00, not_true]
    | split
    | with_reducible intro _
    | omega
set_option maxHeartbeats 4000000 in
theorem cL_39 (hR : RG g) (hb : g.2 b = some (.inl (1, L, .inl xs))) (hL : LW g w x nA cA lA y nM o kn kn th s s) (v1 : vp_in (i + 1) L) (v2 : vp_in (i + 2) L) (v3 : vp_in (i + 3) L) (v4 : vp_in (i + 4) L) (v5 : vp_in (i + 5) L) (hk : k + 114 ≤ 58408) (hn : n + 2834 ≤ 1451408) (next : (∀ (l5' l6' : Option Value) (w' : Hw) (k' n' : Nat) (kn' th' : Int32) (s' : AS), LW g w' x nA cA lA y nM o kn' kn' th' s' s' → k' ≤ k + 114 → n' ≤ n + 2834 → WP (ML_law g) QLaw (2246, [some (.ref b), some (.ref x), some (.ref y), some (.ref o), some (.int i), l5', l6'], [], w', k', n'))) : WP (ML_law g) QLaw (2017, [some (.ref b), some (.ref x), some (.ref y), some (.ref o), some (.int i), l5, l6], [], w, k, n) := by
  repeat' first
    | with_reducible assumption
    | with_reducible refine And.intro ?_ ?_
    | with_reducible refine gi_W hL hb ?_
    | with_reducible refine LW.gx hL (fun _ => trivial)
    | with_reducible refine fL_howOften hL (fun hXpc0 => ?_) (fun hSpc0 hSpc1 => ?_) (fun hQpc0 hQpr hQpc1 hQpw hQph hQpo => ?_)
    | with_reducible refine gX3_howOften (LW.ms hL) (fun v2 t2 w2 m2 => ?_)
    | with_reducible refine gX3_howOften (LW.ms hQph) (fun v2 t2 w2 m2 => ?_)
    | with_reducible refine LW.gz hL (fun _ => trivial)
    | with_reducible refine gi_W hL hb ?_
    | with_reducible refine LW.gz hQph (fun _ => trivial)
    | with_reducible refine gi_W hQph hb ?_
    | with_reducible exact next _ _ _ _ _ _ _ _ (LW.ofM hL m2) (by omega) (by omega)
    | with_reducible exact next _ _ _ _ _ _ _ _ (LW.ofM hQph m2) (by omega) (by omega)
    | simp only [eL_law_2017, eL_law_2017N, eL_law_2018, eL_law_2018N, eL_law_2019, eL_law_2021, eL_law_2022, eL_law_2023, eL_law_2024, eL_law_2024N, eL_law_2025RR, eL_law_2025NR, eL_law_2025RN, eL_law_2025NN, eL_law_2028, eL_law_2030, eL_law_2030N, eL_law_2031, eL_law_2031N, eL_law_2032, eL_law_2034, eL_law_2035, eL_law_2036, eL_law_2037, eL_law_2040, eL_law_2042, ite_le, n45, n54, true_or, or_true, false_or, or_false, false_and, and_false, kx_l, kx_r, go_s, gl_s, gi_s, gb_s2, gb_s3, gq_s, wt_nil, wt_int, wt_long, wt_ref, wt_null, nl_int, nl_long, nl_ref, nl_null, nl_none, rf_n, rf_s, rf_st, tl_s, tl_n, g0, gS, ex1, nb_b, nb_0, nb_1, nf_i, nf_l, nf_ra, nf_ro, nf_na, nf_no, nf_b0, nf_z0, t45_4, t45_5, true_and, and_true, List.set_cons_zero, List.set_cons_succ, List.length_cons, List.length_nil, rd_s, upw_s, ne_eq, not_false_eq_true, Nat.zero_add, Nat.add_zero, if_true, if_false, eq_self, lgz, n12z, n2z, n3z, i00, not_true]
    | split
    | with_reducible intro _
    | omega
set_option maxHeartbeats 4000000 in
theorem cL_40 (hR : RG g) (hb : g.2 b = some (.inl (1, L, .inl xs))) (hL : LW g w x nA cA lA y nM o kn kn th s s) (v1 : vp_in (i + 1) L) (v2 : vp_in (i + 2) L) (v3 : vp_in (i + 3) L) (v4 : vp_in (i + 4) L) (v5 : vp_in (i + 5) L) (hk : k + 114 ≤ 58408) (hn : n + 2834 ≤ 1451408) (next : (∀ (l5' l6' : Option Value) (w' : Hw) (k' n' : Nat) (kn' th' : Int32) (s' : AS), LW g w' x nA cA lA y nM o kn' kn' th' s' s' → k' ≤ k + 114 → n' ≤ n + 2834 → WP (ML_law g) QLaw (2246, [some (.ref b), some (.ref x), some (.ref y), some (.ref o), some (.int i), l5', l6'], [], w', k', n'))) : WP (ML_law g) QLaw (2045, [some (.ref b), some (.ref x), some (.ref y), some (.ref o), some (.int i), l5, l6], [], w, k, n) := by
  repeat' first
    | with_reducible assumption
    | with_reducible refine And.intro ?_ ?_
    | with_reducible refine gi_W hL hb ?_
    | with_reducible refine LW.gx hL (fun _ => trivial)
    | cases Option.some.inj (hNpc1.symm.trans hNqc1); clear hNqc1
    | cases Option.some.inj (hNpc1.symm.trans hQqc1); clear hQqc1
    | cases Option.some.inj (hQpc1.symm.trans hNqc1); clear hNqc1
    | cases Option.some.inj (hQpc1.symm.trans hQqc1); clear hQqc1
    | cases fstU hQpc3 hQpc4 hQqc3 hQqc4; clear hQqc2 hQqc3 hQqc4
    | with_reducible exact absurd hSqc0 hXpc0
    | with_reducible exact absurd hNqc0 hXpc0
    | with_reducible exact absurd hQqc0 hXpc0
    | with_reducible exact absurd hSpc0 hXqc0
    | with_reducible exact (nsC hSpc1 hNqc1).elim
    | with_reducible exact (nsC hSpc1 hQqc1).elim
    | with_reducible exact absurd hNpc0 hXqc0
    | with_reducible exact (nsC hSqc1 hNpc1).elim
    | with_reducible exact absurd hQqc3 (hNpc2 _ hQqc2)
    | with_reducible exact absurd hQpc0 hXqc0
    | with_reducible exact (nsC hSqc1 hQpc1).elim
    | with_reducible exact absurd hQpc3 (hNqc2 _ hQpc2)
    | with_reducible refine fL_lift hL (fun hXpc0 => ?_) (fun hSpc0 hSpc1 => ?_) (fun hNpc0 hNpr hNpc1 hNpc2 hNpw hNph hNpo => ?_) (fun hQpc0 hQpr hQpc1 hQpi hQpc2 hQpc3 hQpc4 hQpw hQph hQpo => ?_)
    | with_reducible refine fX3_lift (LW.ms hL) (fun hXqc0 hXqw hXqh => ?_) (fun hSqc0 hSqc1 hSqw hSqh => ?_) (fun hNqc0 hNqr hNqc1 hNqc2 hNqw hNqh => ?_) (fun hQqc0 hQqr hQqc1 hQqi hQqc2 hQqc3 hQqc4 hQqw hQqh => ?_)
    | with_reducible refine fX3_lift (LW.ms hNph) (fun hXqc0 hXqw hXqh => ?_) (fun hSqc0 hSqc1 hSqw hSqh => ?_) (fun hNqc0 hNqr hNqc1 hNqc2 hNqw hNqh => ?_) (fun hQqc0 hQqr hQqc1 hQqi hQqc2 hQqc3 hQqc4 hQqw hQqh => ?_)
    | with_reducible refine fX3_lift (LW.ms hQph) (fun hXqc0 hXqw hXqh => ?_) (fun hSqc0 hSqc1 hSqw hSqh => ?_) (fun hNqc0 hNqr hNqc1 hNqc2 hNqw hNqh => ?_) (fun hQqc0 hQqr hQqc1 hQqi hQqc2 hQqc3 hQqc4 hQqw hQqh => ?_)
    | with_reducible refine LW.gz hL (fun _ => trivial)
    | with_reducible refine gi_W hL hb ?_
    | with_reducible refine LW.gz hNph (fun _ => trivial)
    | with_reducible refine gi_W hNph hb ?_
    | with_reducible refine LW.gz hQph (fun _ => trivial)
    | with_reducible refine gi_W hQph hb ?_
    | with_reducible exact next _ _ _ _ _ _ _ _ (LW.ofM hL hXqh) (by omega) (by omega)
    | with_reducible exact next _ _ _ _ _ _ _ _ (LW.ofM hL hSqh) (by omega) (by omega)
    | with_reducible exact next _ _ _ _ _ _ _ _ (LW.ofM hL hNqh) (by omega) (by omega)
    | with_reducible exact next _ _ _ _ _ _ _ _ (LW.ofM hL hQqh) (by omega) (by omega)
    | with_reducible exact next _ _ _ _ _ _ _ _ (LW.ofM hNph hXqh) (by omega) (by omega)
    | with_reducible exact next _ _ _ _ _ _ _ _ (LW.ofM hNph hSqh) (by omega) (by omega)
    | with_reducible exact next _ _ _ _ _ _ _ _ (LW.ofM hNph hNqh) (by omega) (by omega)
    | with_reducible exact next _ _ _ _ _ _ _ _ (LW.ofM hNph hQqh) (by omega) (by omega)
    | with_reducible exact next _ _ _ _ _ _ _ _ (LW.ofM hQph hXqh) (by omega) (by omega)
    | with_reducible exact next _ _ _ _ _ _ _ _ (LW.ofM hQph hSqh) (by omega) (by omega)
    | with_reducible exact next _ _ _ _ _ _ _ _ (LW.ofM hQph hNqh) (by omega) (by omega)
    | with_reducible exact next _ _ _ _ _ _ _ _ (LW.ofM hQph hQqh) (by omega) (by omega)
    | simp only [eL_law_2045, eL_law_2045N, eL_law_2046, eL_law_2046N, eL_law_2047, eL_law_2049, eL_law_2050, eL_law_2051, eL_law_2052, eL_law_2052N, eL_law_2053RR, eL_law_2053NR, eL_law_2053RN, eL_law_2053NN, eL_law_2056, eL_law_2058, eL_law_2058N, eL_law_2059, eL_law_2059N, eL_law_2060, eL_law_2062, eL_law_2063, eL_law_2064, eL_law_2065, eL_law_2068, eL_law_2070, ite_le, n45, n54, true_or, or_true, false_or, or_false, false_and, and_false, kx_l, kx_r, go_s, gl_s, gi_s, gb_s2, gb_s3, gq_s, wt_nil, wt_int, wt_long, wt_ref, wt_null, nl_int, nl_long, nl_ref, nl_null, nl_none, rf_n, rf_s, rf_st, tl_s, tl_n, g0, gS, ex1, nb_b, nb_0, nb_1, nf_i, nf_l, nf_ra, nf_ro, nf_na, nf_no, nf_b0, nf_z0, t45_4, t45_5, true_and, and_true, List.set_cons_zero, List.set_cons_succ, List.length_cons, List.length_nil, rd_s, upw_s, ne_eq, not_false_eq_true, Nat.zero_add, Nat.add_zero, if_true, if_false, eq_self, lgz, n12z, n2z, n3z, i00, not_true]
    | split
    | with_reducible intro _
    | omega
set_option maxHeartbeats 4000000 in
theorem cL_41 (hR : RG g) (hb : g.2 b = some (.inl (1, L, .inl xs))) (hL : LW g w x nA cA lA y nM o kn kn th s s) (v1 : vp_in (i + 1) L) (v2 : vp_in (i + 2) L) (v3 : vp_in (i + 3) L) (v4 : vp_in (i + 4) L) (v5 : vp_in (i + 5) L) (hk : k + 114 ≤ 58408) (hn : n + 2834 ≤ 1451408) (next : (∀ (l5' l6' : Option Value) (w' : Hw) (k' n' : Nat) (kn' th' : Int32) (s' : AS), LW g w' x nA cA lA y nM o kn' kn' th' s' s' → k' ≤ k + 114 → n' ≤ n + 2834 → WP (ML_law g) QLaw (2246, [some (.ref b), some (.ref x), some (.ref y), some (.ref o), some (.int i), l5', l6'], [], w', k', n'))) : WP (ML_law g) QLaw (2073, [some (.ref b), some (.ref x), some (.ref y), some (.ref o), some (.int i), l5, l6], [], w, k, n) := by
  repeat' first
    | with_reducible assumption
    | with_reducible refine And.intro ?_ ?_
    | with_reducible refine gi_W hL hb ?_
    | with_reducible refine LW.gx hL (fun _ => trivial)
    | cases Option.some.inj (hSpc2.symm.trans hSqc2); clear hSqc2
    | with_reducible exact absurd (And.intro hNqc0 hNqc1) hXpc0
    | with_reducible exact absurd (And.intro hSqc0 hSqc1) hXpc0
    | with_reducible exact absurd (And.intro hNpc0 hNpc1) hXqc0
    | with_reducible exact (nsC hNpc2 hSqc2).elim
    | with_reducible exact absurd (And.intro hSpc0 hSpc1) hXqc0
    | with_reducible exact (nsC hNqc2 hSpc2).elim
    | with_reducible refine fL_pick hL (fun hXpc0 => ?_) (fun hNpc0 hNpc1 hNpc2 hNpw hNph hNpo => ?_) (fun hSpc0 hSpc1 hSpr hSpc2 hSpw hSph hSpo => ?_)
    | with_reducible refine fX3_pick (LW.ms hL) (fun hXqc0 hXqw hXqh => ?_) (fun hNqc0 hNqc1 hNqc2 hNqw hNqh => ?_) (fun hSqc0 hSqc1 hSqr hSqc2 hSqw hSqh => ?_)
    | with_reducible refine fX3_pick (LW.ms hNph) (fun hXqc0 hXqw hXqh => ?_) (fun hNqc0 hNqc1 hNqc2 hNqw hNqh => ?_) (fun hSqc0 hSqc1 hSqr hSqc2 hSqw hSqh => ?_)
    | with_reducible refine fX3_pick (LW.ms hSph) (fun hXqc0 hXqw hXqh => ?_) (fun hNqc0 hNqc1 hNqc2 hNqw hNqh => ?_) (fun hSqc0 hSqc1 hSqr hSqc2 hSqw hSqh => ?_)
    | with_reducible refine LW.gz hL (fun _ => trivial)
    | with_reducible refine gi_W hL hb ?_
    | with_reducible refine LW.gz hNph (fun _ => trivial)
    | with_reducible refine gi_W hNph hb ?_
    | with_reducible refine LW.gz hSph (fun _ => trivial)
    | with_reducible refine gi_W hSph hb ?_
    | with_reducible exact next _ _ _ _ _ _ _ _ (LW.ofM hL hXqh) (by omega) (by omega)
    | with_reducible exact next _ _ _ _ _ _ _ _ (LW.ofM hL hNqh) (by omega) (by omega)
    | with_reducible exact next _ _ _ _ _ _ _ _ (LW.ofM hL hSqh) (by omega) (by omega)
    | with_reducible exact next _ _ _ _ _ _ _ _ (LW.ofM hNph hXqh) (by omega) (by omega)
    | with_reducible exact next _ _ _ _ _ _ _ _ (LW.ofM hNph hNqh) (by omega) (by omega)
    | with_reducible exact next _ _ _ _ _ _ _ _ (LW.ofM hNph hSqh) (by omega) (by omega)
    | with_reducible exact next _ _ _ _ _ _ _ _ (LW.ofM hSph hXqh) (by omega) (by omega)
    | with_reducible exact next _ _ _ _ _ _ _ _ (LW.ofM hSph hNqh) (by omega) (by omega)
    | with_reducible exact next _ _ _ _ _ _ _ _ (LW.ofM hSph hSqh) (by omega) (by omega)
    | simp only [eL_law_2073, eL_law_2073N, eL_law_2074, eL_law_2074N, eL_law_2075, eL_law_2077, eL_law_2078, eL_law_2079, eL_law_2080, eL_law_2080N, eL_law_2081, eL_law_2083, eL_law_2084, eL_law_2085, eL_law_2086, eL_law_2086N, eL_law_2087RR, eL_law_2087NR, eL_law_2087RN, eL_law_2087NN, eL_law_2090, eL_law_2092, eL_law_2092N, eL_law_2093, eL_law_2093N, eL_law_2094, eL_law_2096, eL_law_2097, eL_law_2098, eL_law_2099, eL_law_2099N, eL_law_2100, eL_law_2102, eL_law_2103, eL_law_2104, eL_law_2105, eL_law_2108, eL_law_2110, ite_le, n45, n54, true_or, or_true, false_or, or_false, false_and, and_false, kx_l, kx_r, go_s, gl_s, gi_s, gb_s2, gb_s3, gq_s, wt_nil, wt_int, wt_long, wt_ref, wt_null, nl_int, nl_long, nl_ref, nl_null, nl_none, rf_n, rf_s, rf_st, tl_s, tl_n, g0, gS, ex1, nb_b, nb_0, nb_1, nf_i, nf_l, nf_ra, nf_ro, nf_na, nf_no, nf_b0, nf_z0, t45_4, t45_5, true_and, and_true, List.set_cons_zero, List.set_cons_succ, List.length_cons, List.length_nil, rd_s, upw_s, ne_eq, not_false_eq_true, Nat.zero_add, Nat.add_zero, if_true, if_false, eq_self, lgz, n12z, n2z, n3z, i00, not_true]
    | split
    | with_reducible intro _
    | omega
set_option maxHeartbeats 4000000 in
theorem cL_42 (hR : RG g) (hb : g.2 b = some (.inl (1, L, .inl xs))) (hL : LW g w x nA cA lA y nM o kn kn th s s) (v1 : vp_in (i + 1) L) (v2 : vp_in (i + 2) L) (v3 : vp_in (i + 3) L) (v4 : vp_in (i + 4) L) (v5 : vp_in (i + 5) L) (hk : k + 114 ≤ 58408) (hn : n + 2834 ≤ 1451408) (next : (∀ (l5' l6' : Option Value) (w' : Hw) (k' n' : Nat) (kn' th' : Int32) (s' : AS), LW g w' x nA cA lA y nM o kn' kn' th' s' s' → k' ≤ k + 114 → n' ≤ n + 2834 → WP (ML_law g) QLaw (2246, [some (.ref b), some (.ref x), some (.ref y), some (.ref o), some (.int i), l5', l6'], [], w', k', n'))) : WP (ML_law g) QLaw (2113, [some (.ref b), some (.ref x), some (.ref y), some (.ref o), some (.int i), l5, l6], [], w, k, n) := by
  repeat' first
    | with_reducible assumption
    | with_reducible refine And.intro ?_ ?_
    | with_reducible refine gi_W hL hb ?_
    | with_reducible refine LW.gx hL (fun _ => trivial)
    | with_reducible refine fX1_turn hL.cs (fun w1 c1 => ?_)
    | with_reducible refine fX3_turn (LW.ms (hL.of c1 hL.ok.tur)) (hR.eg (LW.ro (hL.of c1 hL.ok.tur))) hR.sg (fun hQqw hQqh => ?_)
    | with_reducible refine LW.gz (hL.of c1 hL.ok.tur) (fun _ => trivial)
    | with_reducible refine gi_W (hL.of c1 hL.ok.tur) hb ?_
    | with_reducible exact next _ _ _ _ _ _ _ _ (LW.ofM (hL.of c1 hL.ok.tur) hQqh) (by omega) (by omega)
    | simp only [eL_law_2113, eL_law_2113N, eL_law_2114, eL_law_2117, eL_law_2117R, eL_law_2117N, eL_law_2118, eL_law_2118N, eL_law_2119, eL_law_2122, eL_law_2122R, eL_law_2122N, eL_law_2123, ite_le, n45, n54, true_or, or_true, false_or, or_false, false_and, and_false, kx_l, kx_r, go_s, gl_s, gi_s, gb_s2, gb_s3, gq_s, wt_nil, wt_int, wt_long, wt_ref, wt_null, nl_int, nl_long, nl_ref, nl_null, nl_none, rf_n, rf_s, rf_st, tl_s, tl_n, g0, gS, ex1, nb_b, nb_0, nb_1, nf_i, nf_l, nf_ra, nf_ro, nf_na, nf_no, nf_b0, nf_z0, t45_4, t45_5, true_and, and_true, List.set_cons_zero, List.set_cons_succ, List.length_cons, List.length_nil, rd_s, upw_s, ne_eq, not_false_eq_true, Nat.zero_add, Nat.add_zero, if_true, if_false, eq_self, lgz, n12z, n2z, n3z, i00, not_true]
    | split
    | with_reducible intro _
    | omega
set_option maxHeartbeats 4000000 in
theorem cL_43 (hR : RG g) (hb : g.2 b = some (.inl (1, L, .inl xs))) (hL : LW g w x nA cA lA y nM o kn kn th s s) (v1 : vp_in (i + 1) L) (v2 : vp_in (i + 2) L) (v3 : vp_in (i + 3) L) (v4 : vp_in (i + 4) L) (v5 : vp_in (i + 5) L) (hk : k + 114 ≤ 58408) (hn : n + 2834 ≤ 1451408) (next : (∀ (l5' l6' : Option Value) (w' : Hw) (k' n' : Nat) (kn' th' : Int32) (s' : AS), LW g w' x nA cA lA y nM o kn' kn' th' s' s' → k' ≤ k + 114 → n' ≤ n + 2834 → WP (ML_law g) QLaw (2246, [some (.ref b), some (.ref x), some (.ref y), some (.ref o), some (.int i), l5', l6'], [], w', k', n'))) : WP (ML_law g) QLaw (2126, [some (.ref b), some (.ref x), some (.ref y), some (.ref o), some (.int i), l5, l6], [], w, k, n) := by
  repeat' first
    | with_reducible assumption
    | with_reducible refine And.intro ?_ ?_
    | with_reducible refine gi_W hL hb ?_
    | with_reducible refine LW.gx hL (fun _ => trivial)
    | with_reducible refine fX1_sweep hL.cs (fun w1 c1 => ?_)
    | with_reducible refine fX3_sweep (LW.ms (hL.of (c1 s.2.2.2.1) hL.ok.zero)) (hR.eg (LW.ro (hL.of (c1 s.2.2.2.1) hL.ok.zero))) hR.sg (fun hQqw hQqh => ?_)
    | with_reducible refine LW.gz (hL.of (c1 s.2.2.2.1) hL.ok.zero) (fun _ => trivial)
    | with_reducible refine gi_W (hL.of (c1 s.2.2.2.1) hL.ok.zero) hb ?_
    | with_reducible exact next _ _ _ _ _ _ _ _ (LW.ofM (hL.of (c1 s.2.2.2.1) hL.ok.zero) (hQqh s.2.2.2.1)) (by omega) (by omega)
    | simp only [eL_law_2126, eL_law_2126N, eL_law_2127, eL_law_2130, eL_law_2130R, eL_law_2130N, eL_law_2131, eL_law_2131N, eL_law_2132, eL_law_2135, eL_law_2135R, eL_law_2135N, eL_law_2136, ite_le, n45, n54, true_or, or_true, false_or, or_false, false_and, and_false, kx_l, kx_r, go_s, gl_s, gi_s, gb_s2, gb_s3, gq_s, wt_nil, wt_int, wt_long, wt_ref, wt_null, nl_int, nl_long, nl_ref, nl_null, nl_none, rf_n, rf_s, rf_st, tl_s, tl_n, g0, gS, ex1, nb_b, nb_0, nb_1, nf_i, nf_l, nf_ra, nf_ro, nf_na, nf_no, nf_b0, nf_z0, t45_4, t45_5, true_and, and_true, List.set_cons_zero, List.set_cons_succ, List.length_cons, List.length_nil, rd_s, upw_s, ne_eq, not_false_eq_true, Nat.zero_add, Nat.add_zero, if_true, if_false, eq_self, lgz, n12z, n2z, n3z, i00, not_true]
    | split
    | with_reducible intro _
    | omega
set_option maxHeartbeats 4000000 in
theorem cL_44 (hR : RG g) (hb : g.2 b = some (.inl (1, L, .inl xs))) (hL : LW g w x nA cA lA y nM o kn kn th s s) (v1 : vp_in (i + 1) L) (v2 : vp_in (i + 2) L) (v3 : vp_in (i + 3) L) (v4 : vp_in (i + 4) L) (v5 : vp_in (i + 5) L) (hk : k + 114 ≤ 58408) (hn : n + 2834 ≤ 1451408) (next : (∀ (l5' l6' : Option Value) (w' : Hw) (k' n' : Nat) (kn' th' : Int32) (s' : AS), LW g w' x nA cA lA y nM o kn' kn' th' s' s' → k' ≤ k + 114 → n' ≤ n + 2834 → WP (ML_law g) QLaw (2246, [some (.ref b), some (.ref x), some (.ref y), some (.ref o), some (.int i), l5', l6'], [], w', k', n'))) : WP (ML_law g) QLaw (2139, [some (.ref b), some (.ref x), some (.ref y), some (.ref o), some (.int i), l5, l6], [], w, k, n) := by
  repeat' first
    | with_reducible assumption
    | with_reducible refine And.intro ?_ ?_
    | with_reducible refine gi_W hL hb ?_
    | with_reducible refine LW.gx hL (fun _ => trivial)
    | with_reducible refine gL_pile hR hL (fun v1 w1 h1 => ?_)
    | with_reducible refine gX3_pile (LW.ms h1) (fun v2 t2 w2 m2 => ?_)
    | with_reducible refine LW.gz h1 (fun _ => trivial)
    | with_reducible refine gi_W h1 hb ?_
    | with_reducible exact next _ _ _ _ _ _ _ _ (LW.ofM h1 m2) (by omega) (by omega)
    | simp only [eL_law_2139, eL_law_2139N, eL_law_2140, eL_law_2140N, eL_law_2141, eL_law_2143, eL_law_2144, eL_law_2145, eL_law_2146, eL_law_2146N, eL_law_2147, eL_law_2149, eL_law_2150, eL_law_2151, eL_law_2152, eL_law_2152N, eL_law_2153RR, eL_law_2153NR, eL_law_2153RN, eL_law_2153NN, eL_law_2156, eL_law_2158, eL_law_2158N, eL_law_2159, eL_law_2159N, eL_law_2160, eL_law_2162, eL_law_2163, eL_law_2164, eL_law_2165, eL_law_2165N, eL_law_2166, eL_law_2168, eL_law_2169, eL_law_2170, eL_law_2171, eL_law_2174, eL_law_2176, ite_le, n45, n54, true_or, or_true, false_or, or_false, false_and, and_false, kx_l, kx_r, go_s, gl_s, gi_s, gb_s2, gb_s3, gq_s, wt_nil, wt_int, wt_long, wt_ref, wt_null, nl_int, nl_long, nl_ref, nl_null, nl_none, rf_n, rf_s, rf_st, tl_s, tl_n, g0, gS, ex1, nb_b, nb_0, nb_1, nf_i, nf_l, nf_ra, nf_ro, nf_na, nf_no, nf_b0, nf_z0, t45_4, t45_5, true_and, and_true, List.set_cons_zero, List.set_cons_succ, List.length_cons, List.length_nil, rd_s, upw_s, ne_eq, not_false_eq_true, Nat.zero_add, Nat.add_zero, if_true, if_false, eq_self, lgz, n12z, n2z, n3z, i00, not_true]
    | split
    | with_reducible intro _
    | omega
set_option maxHeartbeats 4000000 in
theorem cL_45 (hR : RG g) (hb : g.2 b = some (.inl (1, L, .inl xs))) (hL : LW g w x nA cA lA y nM o kn kn th s s) (v1 : vp_in (i + 1) L) (v2 : vp_in (i + 2) L) (v3 : vp_in (i + 3) L) (v4 : vp_in (i + 4) L) (v5 : vp_in (i + 5) L) (hk : k + 114 ≤ 58408) (hn : n + 2834 ≤ 1451408) (next : (∀ (l5' l6' : Option Value) (w' : Hw) (k' n' : Nat) (kn' th' : Int32) (s' : AS), LW g w' x nA cA lA y nM o kn' kn' th' s' s' → k' ≤ k + 114 → n' ≤ n + 2834 → WP (ML_law g) QLaw (2246, [some (.ref b), some (.ref x), some (.ref y), some (.ref o), some (.int i), l5', l6'], [], w', k', n'))) : WP (ML_law g) QLaw (2179, [some (.ref b), some (.ref x), some (.ref y), some (.ref o), some (.int i), l5, l6], [], w, k, n) := by
  repeat' first
    | with_reducible assumption
    | with_reducible refine And.intro ?_ ?_
    | with_reducible refine gi_W hL hb ?_
    | with_reducible refine LW.gx hL (fun _ => trivial)
    | with_reducible refine gL_house hR hL (fun v1 w1 h1 => ?_)
    | with_reducible refine gX3_house (LW.ms h1) (fun v2 t2 w2 m2 => ?_)
    | with_reducible refine LW.gz h1 (fun _ => trivial)
    | with_reducible refine gi_W h1 hb ?_
    | with_reducible exact next _ _ _ _ _ _ _ _ (LW.ofM h1 m2) (by omega) (by omega)
    | simp only [eL_law_2179, eL_law_2179N, eL_law_2180, eL_law_2180N, eL_law_2181, eL_law_2183, eL_law_2184, eL_law_2185, eL_law_2186, eL_law_2186N, eL_law_2187RR, eL_law_2187NR, eL_law_2187RN, eL_law_2187NN, eL_law_2190, eL_law_2192, eL_law_2192N, eL_law_2193, eL_law_2193N, eL_law_2194, eL_law_2196, eL_law_2197, eL_law_2198, eL_law_2199, eL_law_2202, eL_law_2204, ite_le, n45, n54, true_or, or_true, false_or, or_false, false_and, and_false, kx_l, kx_r, go_s, gl_s, gi_s, gb_s2, gb_s3, gq_s, wt_nil, wt_int, wt_long, wt_ref, wt_null, nl_int, nl_long, nl_ref, nl_null, nl_none, rf_n, rf_s, rf_st, tl_s, tl_n, g0, gS, ex1, nb_b, nb_0, nb_1, nf_i, nf_l, nf_ra, nf_ro, nf_na, nf_no, nf_b0, nf_z0, t45_4, t45_5, true_and, and_true, List.set_cons_zero, List.set_cons_succ, List.length_cons, List.length_nil, rd_s, upw_s, ne_eq, not_false_eq_true, Nat.zero_add, Nat.add_zero, if_true, if_false, eq_self, lgz, n12z, n2z, n3z, i00, not_true]
    | split
    | with_reducible intro _
    | omega
set_option maxHeartbeats 4000000 in
theorem cL_46 (hR : RG g) (hb : g.2 b = some (.inl (1, L, .inl xs))) (hL : LW g w x nA cA lA y nM o kn kn th s s) (v1 : vp_in (i + 1) L) (v2 : vp_in (i + 2) L) (v3 : vp_in (i + 3) L) (v4 : vp_in (i + 4) L) (v5 : vp_in (i + 5) L) (hk : k + 114 ≤ 58408) (hn : n + 2834 ≤ 1451408) (next : (∀ (l5' l6' : Option Value) (w' : Hw) (k' n' : Nat) (kn' th' : Int32) (s' : AS), LW g w' x nA cA lA y nM o kn' kn' th' s' s' → k' ≤ k + 114 → n' ≤ n + 2834 → WP (ML_law g) QLaw (2246, [some (.ref b), some (.ref x), some (.ref y), some (.ref o), some (.int i), l5', l6'], [], w', k', n'))) : WP (ML_law g) QLaw (2207, [some (.ref b), some (.ref x), some (.ref y), some (.ref o), some (.int i), l5, l6], [], w, k, n) := by
  repeat' first
    | with_reducible assumption
    | with_reducible refine And.intro ?_ ?_
    | with_reducible refine gi_W hL hb ?_
    | with_reducible refine LW.gx hL (fun _ => trivial)
    | with_reducible refine fX1_knock hL.cs (fun w1 c1 => ?_)
    | with_reducible refine fX3_knock (LW.ms (hL.of c1 hL.ok)) (fun hQqw hQqh => ?_)
    | with_reducible refine LW.gz (hL.of c1 hL.ok) (fun _ => trivial)
    | with_reducible refine gi_W (hL.of c1 hL.ok) hb ?_
    | with_reducible exact next _ _ _ _ _ _ _ _ (LW.ofM (hL.of c1 hL.ok) hQqh) (by omega) (by omega)
    | simp only [eL_law_2207, eL_law_2207N, eL_law_2208, eL_law_2211, eL_law_2211R, eL_law_2211N, eL_law_2212, eL_law_2212N, eL_law_2213, eL_law_2216, eL_law_2216R, eL_law_2216N, eL_law_2217, ite_le, n45, n54, true_or, or_true, false_or, or_false, false_and, and_false, kx_l, kx_r, go_s, gl_s, gi_s, gb_s2, gb_s3, gq_s, wt_nil, wt_int, wt_long, wt_ref, wt_null, nl_int, nl_long, nl_ref, nl_null, nl_none, rf_n, rf_s, rf_st, tl_s, tl_n, g0, gS, ex1, nb_b, nb_0, nb_1, nf_i, nf_l, nf_ra, nf_ro, nf_na, nf_no, nf_b0, nf_z0, t45_4, t45_5, true_and, and_true, List.set_cons_zero, List.set_cons_succ, List.length_cons, List.length_nil, rd_s, upw_s, ne_eq, not_false_eq_true, Nat.zero_add, Nat.add_zero, if_true, if_false, eq_self, lgz, n12z, n2z, n3z, i00, not_true]
    | split
    | with_reducible intro _
    | omega
set_option maxHeartbeats 4000000 in
theorem cL_47 (hR : RG g) (hb : g.2 b = some (.inl (1, L, .inl xs))) (hL : LW g w x nA cA lA y nM o kn kn th s s) (v1 : vp_in (i + 1) L) (v2 : vp_in (i + 2) L) (v3 : vp_in (i + 3) L) (v4 : vp_in (i + 4) L) (v5 : vp_in (i + 5) L) (hk : k + 114 ≤ 58408) (hn : n + 2834 ≤ 1451408) (next : (∀ (l5' l6' : Option Value) (w' : Hw) (k' n' : Nat) (kn' th' : Int32) (s' : AS), LW g w' x nA cA lA y nM o kn' kn' th' s' s' → k' ≤ k + 114 → n' ≤ n + 2834 → WP (ML_law g) QLaw (2246, [some (.ref b), some (.ref x), some (.ref y), some (.ref o), some (.int i), l5', l6'], [], w', k', n'))) : WP (ML_law g) QLaw (2220, [some (.ref b), some (.ref x), some (.ref y), some (.ref o), some (.int i), l5, l6], [], w, k, n) := by
  repeat' first
    | with_reducible assumption
    | with_reducible refine And.intro ?_ ?_
    | with_reducible refine gi_W hL hb ?_
    | with_reducible refine LW.gx hL (fun _ => trivial)
    | with_reducible refine fX1_isSound hL.cs hL.ok (fun w1 k1 => ?_)
    | with_reducible refine fX3_isSound (LW.ms (hL.ext k1)) (fun hQqw hQqh => ?_)
    | with_reducible refine LW.gz (hL.ext k1) (fun _ => trivial)
    | with_reducible refine gi_W (hL.ext k1) hb ?_
    | with_reducible exact next _ _ _ _ _ _ _ _ (LW.ofM (hL.ext k1) hQqh) (by omega) (by omega)
    | simp only [eL_law_2220, eL_law_2220N, eL_law_2221, eL_law_2224, eL_law_2224R, eL_law_2224N, eL_law_2225, eL_law_2225N, eL_law_2226, eL_law_2229, eL_law_2229R, eL_law_2229N, eL_law_2230, ite_le, n45, n54, true_or, or_true, false_or, or_false, false_and, and_false, kx_l, kx_r, go_s, gl_s, gi_s, gb_s2, gb_s3, gq_s, wt_nil, wt_int, wt_long, wt_ref, wt_null, nl_int, nl_long, nl_ref, nl_null, nl_none, rf_n, rf_s, rf_st, tl_s, tl_n, g0, gS, ex1, nb_b, nb_0, nb_1, nf_i, nf_l, nf_ra, nf_ro, nf_na, nf_no, nf_b0, nf_z0, t45_4, t45_5, true_and, and_true, List.set_cons_zero, List.set_cons_succ, List.length_cons, List.length_nil, rd_s, upw_s, ne_eq, not_false_eq_true, Nat.zero_add, Nat.add_zero, if_true, if_false, eq_self, lgz, n12z, n2z, n3z, i00, not_true]
    | split
    | with_reducible intro _
    | omega
end
