section
variable {g : RO} {w : Hw} {x nA cA lA y nM o b L k n : Nat} {xs : Nat → Int32} {i kn : Int32} {l5 l6 : Option Value}
set_option maxHeartbeats 4000000 in
theorem cL_12 (hR : RG g) (hb : g.2 b = some (.inl (1, L, .inl xs))) (hL : LWO g w x nA cA lA y nM o kn kn) (v1 : vp_in (i + 1) L) (v2 : vp_in (i + 2) L) (v3 : vp_in (i + 3) L) (v4 : vp_in (i + 4) L) (v5 : vp_in (i + 5) L) (hk : k + 114 ≤ 58408) (hn : n + 2834 ≤ 1451408) (next : (∀ (l5' l6' : Option Value) (w' : Hw) (k' n' : Nat) (kn' : Int32), LWO g w' x nA cA lA y nM o kn' kn' → k' ≤ k + 114 → n' ≤ n + 2834 → WP (ML_law g) QLaw (2217, [some (.ref b), some (.ref x), some (.ref y), some (.ref o), some (.int i), l5', l6'], [], w', k', n'))) : WP (ML_law g) QLaw (836, [some (.ref b), some (.ref x), some (.ref y), some (.ref o), some (.int i), l5, l6], [], w, k, n) := by
  repeat' first
    | with_reducible assumption
    | with_reducible refine And.intro ?_ ?_
    | with_reducible refine gi_L (LWO.l (by assumption)) hb ?_
    | with_reducible refine go_X (LWO.l (by assumption)) (fun _ => trivial)
    | with_reducible refine go_Z (LWO.l (by assumption)) (fun _ => trivial)
    | with_reducible refine oL_threeSmall hR (by assumption) (fun v1 w1 h1 => ?_)
    | with_reducible refine sX3_threeSmall (LWO.mm h1) (fun v2 w2 m2 => ?_)
    | with_reducible exact next _ _ _ _ _ _ (LWO.ofM h1 m2) (by omega) (by omega)
    | simp only [eL_law_836, eL_law_836N, eL_law_837, eL_law_837N, eL_law_838, eL_law_840, eL_law_841, eL_law_842, eL_law_843, eL_law_843N, eL_law_844, eL_law_846, eL_law_847, eL_law_848, eL_law_849, eL_law_849N, eL_law_850, eL_law_852, eL_law_853, eL_law_854, eL_law_855, eL_law_855N, eL_law_856, eL_law_858, eL_law_859, eL_law_860, eL_law_861, eL_law_861N, eL_law_862RR, eL_law_862NR, eL_law_862RN, eL_law_862NN, eL_law_865, eL_law_867, eL_law_867N, eL_law_868, eL_law_868N, eL_law_869, eL_law_871, eL_law_872, eL_law_873, eL_law_874, eL_law_874N, eL_law_875, eL_law_877, eL_law_878, eL_law_879, eL_law_880, eL_law_880N, eL_law_881, eL_law_883, eL_law_884, eL_law_885, eL_law_886, eL_law_886N, eL_law_887, eL_law_889, eL_law_890, eL_law_891, eL_law_892, eL_law_895, eL_law_897, ite_le, n45, n54, true_or, or_true, false_or, or_false, false_and, and_false, kx_l, kx_r, go_s, gl_s, gi_s, gb_s2, gb_s3, gq_s, wt_nil, wt_int, wt_long, wt_ref, wt_null, nl_int, nl_long, nl_ref, nl_null, nl_none, rf_n, rf_s, rf_st, tl_s, tl_n, g0, gS, ex1, nb_b, nb_0, nb_1, nf_i, nf_l, nf_ra, nf_ro, nf_na, nf_no, nf_b0, nf_z0, t45_4, t45_5, true_and, and_true, List.set_cons_zero, List.set_cons_succ, List.length_cons, List.length_nil, rd_s, upw_s, ne_eq, not_false_eq_true, Nat.zero_add, Nat.add_zero, if_true, if_false, eq_self]
    | split
    | with_reducible intro _
    | omega
set_option maxHeartbeats 4000000 in
theorem cL_13 (hR : RG g) (hb : g.2 b = some (.inl (1, L, .inl xs))) (hL : LWO g w x nA cA lA y nM o kn kn) (v1 : vp_in (i + 1) L) (v2 : vp_in (i + 2) L) (v3 : vp_in (i + 3) L) (v4 : vp_in (i + 4) L) (v5 : vp_in (i + 5) L) (hk : k + 114 ≤ 58408) (hn : n + 2834 ≤ 1451408) (next : (∀ (l5' l6' : Option Value) (w' : Hw) (k' n' : Nat) (kn' : Int32), LWO g w' x nA cA lA y nM o kn' kn' → k' ≤ k + 114 → n' ≤ n + 2834 → WP (ML_law g) QLaw (2217, [some (.ref b), some (.ref x), some (.ref y), some (.ref o), some (.int i), l5', l6'], [], w', k', n'))) : WP (ML_law g) QLaw (900, [some (.ref b), some (.ref x), some (.ref y), some (.ref o), some (.int i), l5, l6], [], w, k, n) := by
  repeat' first
    | with_reducible assumption
    | with_reducible refine And.intro ?_ ?_
    | with_reducible refine gi_L (LWO.l (by assumption)) hb ?_
    | with_reducible refine go_X (LWO.l (by assumption)) (fun _ => trivial)
    | with_reducible refine go_Z (LWO.l (by assumption)) (fun _ => trivial)
    | with_reducible refine oL_fourSmall hR (by assumption) (fun v1 w1 h1 => ?_)
    | with_reducible refine sX3_fourSmall (LWO.mm h1) (fun v2 w2 m2 => ?_)
    | with_reducible exact next _ _ _ _ _ _ (LWO.ofM h1 m2) (by omega) (by omega)
    | simp only [eL_law_900, eL_law_900N, eL_law_901, eL_law_901N, eL_law_902, eL_law_904, eL_law_905, eL_law_906, eL_law_907, eL_law_907N, eL_law_908, eL_law_910, eL_law_911, eL_law_912, eL_law_913, eL_law_913N, eL_law_914, eL_law_916, eL_law_917, eL_law_918, eL_law_919, eL_law_919N, eL_law_920, eL_law_922, eL_law_923, eL_law_924, eL_law_925, eL_law_925N, eL_law_926, eL_law_928, eL_law_929, eL_law_930, eL_law_931, eL_law_931N, eL_law_932RR, eL_law_932NR, eL_law_932RN, eL_law_932NN, eL_law_935, eL_law_937, eL_law_937N, eL_law_938, eL_law_938N, eL_law_939, eL_law_941, eL_law_942, eL_law_943, eL_law_944, eL_law_944N, eL_law_945, eL_law_947, eL_law_948, eL_law_949, eL_law_950, eL_law_950N, eL_law_951, eL_law_953, eL_law_954, eL_law_955, eL_law_956, eL_law_956N, eL_law_957, eL_law_959, eL_law_960, eL_law_961, eL_law_962, eL_law_962N, eL_law_963, eL_law_965, eL_law_966, eL_law_967, eL_law_968, eL_law_971, eL_law_973, ite_le, n45, n54, true_or, or_true, false_or, or_false, false_and, and_false, kx_l, kx_r, go_s, gl_s, gi_s, gb_s2, gb_s3, gq_s, wt_nil, wt_int, wt_long, wt_ref, wt_null, nl_int, nl_long, nl_ref, nl_null, nl_none, rf_n, rf_s, rf_st, tl_s, tl_n, g0, gS, ex1, nb_b, nb_0, nb_1, nf_i, nf_l, nf_ra, nf_ro, nf_na, nf_no, nf_b0, nf_z0, t45_4, t45_5, true_and, and_true, List.set_cons_zero, List.set_cons_succ, List.length_cons, List.length_nil, rd_s, upw_s, ne_eq, not_false_eq_true, Nat.zero_add, Nat.add_zero, if_true, if_false, eq_self]
    | split
    | with_reducible intro _
    | omega
set_option maxHeartbeats 4000000 in
theorem cL_14 (hR : RG g) (hb : g.2 b = some (.inl (1, L, .inl xs))) (hL : LWO g w x nA cA lA y nM o kn kn) (v1 : vp_in (i + 1) L) (v2 : vp_in (i + 2) L) (v3 : vp_in (i + 3) L) (v4 : vp_in (i + 4) L) (v5 : vp_in (i + 5) L) (hk : k + 114 ≤ 58408) (hn : n + 2834 ≤ 1451408) (next : (∀ (l5' l6' : Option Value) (w' : Hw) (k' n' : Nat) (kn' : Int32), LWO g w' x nA cA lA y nM o kn' kn' → k' ≤ k + 114 → n' ≤ n + 2834 → WP (ML_law g) QLaw (2217, [some (.ref b), some (.ref x), some (.ref y), some (.ref o), some (.int i), l5', l6'], [], w', k', n'))) : WP (ML_law g) QLaw (976, [some (.ref b), some (.ref x), some (.ref y), some (.ref o), some (.int i), l5, l6], [], w, k, n) := by
  repeat' first
    | with_reducible assumption
    | with_reducible refine And.intro ?_ ?_
    | with_reducible refine gi_L (LWO.l (by assumption)) hb ?_
    | with_reducible refine go_X (LWO.l (by assumption)) (fun _ => trivial)
    | with_reducible refine go_Z (LWO.l (by assumption)) (fun _ => trivial)
    | with_reducible refine oL_again hR (by assumption) (fun v1 w1 h1 => ?_)
    | with_reducible refine sX3_again (LWO.mm h1) (fun v2 w2 m2 => ?_)
    | with_reducible exact next _ _ _ _ _ _ (LWO.ofM h1 m2) (by omega) (by omega)
    | simp only [eL_law_976, eL_law_976N, eL_law_977, eL_law_977N, eL_law_978, eL_law_980, eL_law_981, eL_law_982, eL_law_983, eL_law_983N, eL_law_984, eL_law_986, eL_law_987, eL_law_988, eL_law_989, eL_law_989N, eL_law_990RR, eL_law_990NR, eL_law_990RN, eL_law_990NN, eL_law_993, eL_law_995, eL_law_995N, eL_law_996, eL_law_996N, eL_law_997, eL_law_999, eL_law_1000, eL_law_1001, eL_law_1002, eL_law_1002N, eL_law_1003, eL_law_1005, eL_law_1006, eL_law_1007, eL_law_1008, eL_law_1011, eL_law_1013, ite_le, n45, n54, true_or, or_true, false_or, or_false, false_and, and_false, kx_l, kx_r, go_s, gl_s, gi_s, gb_s2, gb_s3, gq_s, wt_nil, wt_int, wt_long, wt_ref, wt_null, nl_int, nl_long, nl_ref, nl_null, nl_none, rf_n, rf_s, rf_st, tl_s, tl_n, g0, gS, ex1, nb_b, nb_0, nb_1, nf_i, nf_l, nf_ra, nf_ro, nf_na, nf_no, nf_b0, nf_z0, t45_4, t45_5, true_and, and_true, List.set_cons_zero, List.set_cons_succ, List.length_cons, List.length_nil, rd_s, upw_s, ne_eq, not_false_eq_true, Nat.zero_add, Nat.add_zero, if_true, if_false, eq_self]
    | split
    | with_reducible intro _
    | omega
set_option maxHeartbeats 4000000 in
theorem cL_15 (hR : RG g) (hb : g.2 b = some (.inl (1, L, .inl xs))) (hL : LWO g w x nA cA lA y nM o kn kn) (v1 : vp_in (i + 1) L) (v2 : vp_in (i + 2) L) (v3 : vp_in (i + 3) L) (v4 : vp_in (i + 4) L) (v5 : vp_in (i + 5) L) (hk : k + 114 ≤ 58408) (hn : n + 2834 ≤ 1451408) (next : (∀ (l5' l6' : Option Value) (w' : Hw) (k' n' : Nat) (kn' : Int32), LWO g w' x nA cA lA y nM o kn' kn' → k' ≤ k + 114 → n' ≤ n + 2834 → WP (ML_law g) QLaw (2217, [some (.ref b), some (.ref x), some (.ref y), some (.ref o), some (.int i), l5', l6'], [], w', k', n'))) : WP (ML_law g) QLaw (1016, [some (.ref b), some (.ref x), some (.ref y), some (.ref o), some (.int i), l5, l6], [], w, k, n) := by
  repeat' first
    | with_reducible assumption
    | with_reducible refine And.intro ?_ ?_
    | with_reducible refine gi_L (LWO.l (by assumption)) hb ?_
    | with_reducible refine go_X (LWO.l (by assumption)) (fun _ => trivial)
    | with_reducible refine go_Z (LWO.l (by assumption)) (fun _ => trivial)
    | with_reducible refine oL_same hR (by assumption) (fun v1 w1 h1 => ?_)
    | with_reducible refine sX3_same_ (LWO.mm h1) (fun v2 w2 m2 => ?_)
    | with_reducible exact next _ _ _ _ _ _ (LWO.ofM h1 m2) (by omega) (by omega)
    | simp only [eL_law_1016, eL_law_1016N, eL_law_1017, eL_law_1017N, eL_law_1018, eL_law_1020, eL_law_1021, eL_law_1022, eL_law_1023, eL_law_1023N, eL_law_1024, eL_law_1026, eL_law_1027, eL_law_1028, eL_law_1029, eL_law_1029N, eL_law_1030RR, eL_law_1030NR, eL_law_1030RN, eL_law_1030NN, eL_law_1033, eL_law_1035, eL_law_1035N, eL_law_1036, eL_law_1036N, eL_law_1037, eL_law_1039, eL_law_1040, eL_law_1041, eL_law_1042, eL_law_1042N, eL_law_1043, eL_law_1045, eL_law_1046, eL_law_1047, eL_law_1048, eL_law_1051, eL_law_1053, ite_le, n45, n54, true_or, or_true, false_or, or_false, false_and, and_false, kx_l, kx_r, go_s, gl_s, gi_s, gb_s2, gb_s3, gq_s, wt_nil, wt_int, wt_long, wt_ref, wt_null, nl_int, nl_long, nl_ref, nl_null, nl_none, rf_n, rf_s, rf_st, tl_s, tl_n, g0, gS, ex1, nb_b, nb_0, nb_1, nf_i, nf_l, nf_ra, nf_ro, nf_na, nf_no, nf_b0, nf_z0, t45_4, t45_5, true_and, and_true, List.set_cons_zero, List.set_cons_succ, List.length_cons, List.length_nil, rd_s, upw_s, ne_eq, not_false_eq_true, Nat.zero_add, Nat.add_zero, if_true, if_false, eq_self]
    | split
    | with_reducible intro _
    | omega
set_option maxHeartbeats 4000000 in
theorem cL_16 (hR : RG g) (hb : g.2 b = some (.inl (1, L, .inl xs))) (hL : LWO g w x nA cA lA y nM o kn kn) (v1 : vp_in (i + 1) L) (v2 : vp_in (i + 2) L) (v3 : vp_in (i + 3) L) (v4 : vp_in (i + 4) L) (v5 : vp_in (i + 5) L) (hk : k + 114 ≤ 58408) (hn : n + 2834 ≤ 1451408) (next : (∀ (l5' l6' : Option Value) (w' : Hw) (k' n' : Nat) (kn' : Int32), LWO g w' x nA cA lA y nM o kn' kn' → k' ≤ k + 114 → n' ≤ n + 2834 → WP (ML_law g) QLaw (2217, [some (.ref b), some (.ref x), some (.ref y), some (.ref o), some (.int i), l5', l6'], [], w', k', n'))) : WP (ML_law g) QLaw (1056, [some (.ref b), some (.ref x), some (.ref y), some (.ref o), some (.int i), l5, l6], [], w, k, n) := by
  repeat' first
    | with_reducible assumption
    | with_reducible refine And.intro ?_ ?_
    | with_reducible refine gi_L (LWO.l (by assumption)) hb ?_
    | with_reducible refine go_X (LWO.l (by assumption)) (fun _ => trivial)
    | with_reducible refine go_Z (LWO.l (by assumption)) (fun _ => trivial)
    | with_reducible refine oL_outer hR (by assumption) (fun v1 w1 h1 => ?_)
    | with_reducible refine sX3_outer (LWO.mm h1) (fun v2 w2 m2 => ?_)
    | with_reducible exact next _ _ _ _ _ _ (LWO.ofM h1 m2) (by omega) (by omega)
    | simp only [eL_law_1056, eL_law_1056N, eL_law_1057, eL_law_1057N, eL_law_1058, eL_law_1060, eL_law_1061, eL_law_1062, eL_law_1063, eL_law_1063N, eL_law_1064, eL_law_1066, eL_law_1067, eL_law_1068, eL_law_1069, eL_law_1069N, eL_law_1070RR, eL_law_1070NR, eL_law_1070RN, eL_law_1070NN, eL_law_1073, eL_law_1075, eL_law_1075N, eL_law_1076, eL_law_1076N, eL_law_1077, eL_law_1079, eL_law_1080, eL_law_1081, eL_law_1082, eL_law_1082N, eL_law_1083, eL_law_1085, eL_law_1086, eL_law_1087, eL_law_1088, eL_law_1091, eL_law_1093, ite_le, n45, n54, true_or, or_true, false_or, or_false, false_and, and_false, kx_l, kx_r, go_s, gl_s, gi_s, gb_s2, gb_s3, gq_s, wt_nil, wt_int, wt_long, wt_ref, wt_null, nl_int, nl_long, nl_ref, nl_null, nl_none, rf_n, rf_s, rf_st, tl_s, tl_n, g0, gS, ex1, nb_b, nb_0, nb_1, nf_i, nf_l, nf_ra, nf_ro, nf_na, nf_no, nf_b0, nf_z0, t45_4, t45_5, true_and, and_true, List.set_cons_zero, List.set_cons_succ, List.length_cons, List.length_nil, rd_s, upw_s, ne_eq, not_false_eq_true, Nat.zero_add, Nat.add_zero, if_true, if_false, eq_self]
    | split
    | with_reducible intro _
    | omega
set_option maxHeartbeats 4000000 in
theorem cL_17 (hR : RG g) (hb : g.2 b = some (.inl (1, L, .inl xs))) (hL : LWO g w x nA cA lA y nM o kn kn) (v1 : vp_in (i + 1) L) (v2 : vp_in (i + 2) L) (v3 : vp_in (i + 3) L) (v4 : vp_in (i + 4) L) (v5 : vp_in (i + 5) L) (hk : k + 114 ≤ 58408) (hn : n + 2834 ≤ 1451408) (next : (∀ (l5' l6' : Option Value) (w' : Hw) (k' n' : Nat) (kn' : Int32), LWO g w' x nA cA lA y nM o kn' kn' → k' ≤ k + 114 → n' ≤ n + 2834 → WP (ML_law g) QLaw (2217, [some (.ref b), some (.ref x), some (.ref y), some (.ref o), some (.int i), l5', l6'], [], w', k', n'))) : WP (ML_law g) QLaw (1096, [some (.ref b), some (.ref x), some (.ref y), some (.ref o), some (.int i), l5, l6], [], w, k, n) := by
  repeat' first
    | with_reducible assumption
    | with_reducible refine And.intro ?_ ?_
    | with_reducible refine gi_L (LWO.l (by assumption)) hb ?_
    | with_reducible refine go_X (LWO.l (by assumption)) (fun _ => trivial)
    | with_reducible refine go_Z (LWO.l (by assumption)) (fun _ => trivial)
    | with_reducible refine oL_inner hR (by assumption) (fun v1 w1 h1 => ?_)
    | with_reducible refine sX3_inner (LWO.mm h1) (fun v2 w2 m2 => ?_)
    | with_reducible exact next _ _ _ _ _ _ (LWO.ofM h1 m2) (by omega) (by omega)
    | simp only [eL_law_1096, eL_law_1096N, eL_law_1097, eL_law_1097N, eL_law_1098, eL_law_1100, eL_law_1101, eL_law_1102, eL_law_1103, eL_law_1103N, eL_law_1104, eL_law_1106, eL_law_1107, eL_law_1108, eL_law_1109, eL_law_1109N, eL_law_1110RR, eL_law_1110NR, eL_law_1110RN, eL_law_1110NN, eL_law_1113, eL_law_1115, eL_law_1115N, eL_law_1116, eL_law_1116N, eL_law_1117, eL_law_1119, eL_law_1120, eL_law_1121, eL_law_1122, eL_law_1122N, eL_law_1123, eL_law_1125, eL_law_1126, eL_law_1127, eL_law_1128, eL_law_1131, eL_law_1133, ite_le, n45, n54, true_or, or_true, false_or, or_false, false_and, and_false, kx_l, kx_r, go_s, gl_s, gi_s, gb_s2, gb_s3, gq_s, wt_nil, wt_int, wt_long, wt_ref, wt_null, nl_int, nl_long, nl_ref, nl_null, nl_none, rf_n, rf_s, rf_st, tl_s, tl_n, g0, gS, ex1, nb_b, nb_0, nb_1, nf_i, nf_l, nf_ra, nf_ro, nf_na, nf_no, nf_b0, nf_z0, t45_4, t45_5, true_and, and_true, List.set_cons_zero, List.set_cons_succ, List.length_cons, List.length_nil, rd_s, upw_s, ne_eq, not_false_eq_true, Nat.zero_add, Nat.add_zero, if_true, if_false, eq_self]
    | split
    | with_reducible intro _
    | omega
set_option maxHeartbeats 4000000 in
theorem cL_18 (hR : RG g) (hb : g.2 b = some (.inl (1, L, .inl xs))) (hL : LWO g w x nA cA lA y nM o kn kn) (v1 : vp_in (i + 1) L) (v2 : vp_in (i + 2) L) (v3 : vp_in (i + 3) L) (v4 : vp_in (i + 4) L) (v5 : vp_in (i + 5) L) (hk : k + 114 ≤ 58408) (hn : n + 2834 ≤ 1451408) (next : (∀ (l5' l6' : Option Value) (w' : Hw) (k' n' : Nat) (kn' : Int32), LWO g w' x nA cA lA y nM o kn' kn' → k' ≤ k + 114 → n' ≤ n + 2834 → WP (ML_law g) QLaw (2217, [some (.ref b), some (.ref x), some (.ref y), some (.ref o), some (.int i), l5', l6'], [], w', k', n'))) : WP (ML_law g) QLaw (1136, [some (.ref b), some (.ref x), some (.ref y), some (.ref o), some (.int i), l5, l6], [], w, k, n) := by
  repeat' first
    | with_reducible assumption
    | with_reducible refine And.intro ?_ ?_
    | with_reducible refine gi_L (LWO.l (by assumption)) hb ?_
    | with_reducible refine go_X (LWO.l (by assumption)) (fun _ => trivial)
    | with_reducible refine go_Z (LWO.l (by assumption)) (fun _ => trivial)
    | with_reducible refine oL_span hR (by assumption) (fun v1 w1 h1 => ?_)
    | with_reducible refine sX3_span (LWO.mm h1) (fun v2 w2 m2 => ?_)
    | with_reducible exact next _ _ _ _ _ _ (LWO.ofM h1 m2) (by omega) (by omega)
    | simp only [eL_law_1136, eL_law_1136N, eL_law_1137, eL_law_1137N, eL_law_1138, eL_law_1140, eL_law_1141, eL_law_1142, eL_law_1143, eL_law_1143N, eL_law_1144, eL_law_1146, eL_law_1147, eL_law_1148, eL_law_1149, eL_law_1149N, eL_law_1150, eL_law_1152, eL_law_1153, eL_law_1154, eL_law_1155, eL_law_1155N, eL_law_1156RR, eL_law_1156NR, eL_law_1156RN, eL_law_1156NN, eL_law_1159, eL_law_1161, eL_law_1161N, eL_law_1162, eL_law_1162N, eL_law_1163, eL_law_1165, eL_law_1166, eL_law_1167, eL_law_1168, eL_law_1168N, eL_law_1169, eL_law_1171, eL_law_1172, eL_law_1173, eL_law_1174, eL_law_1174N, eL_law_1175, eL_law_1177, eL_law_1178, eL_law_1179, eL_law_1180, eL_law_1183, eL_law_1185, ite_le, n45, n54, true_or, or_true, false_or, or_false, false_and, and_false, kx_l, kx_r, go_s, gl_s, gi_s, gb_s2, gb_s3, gq_s, wt_nil, wt_int, wt_long, wt_ref, wt_null, nl_int, nl_long, nl_ref, nl_null, nl_none, rf_n, rf_s, rf_st, tl_s, tl_n, g0, gS, ex1, nb_b, nb_0, nb_1, nf_i, nf_l, nf_ra, nf_ro, nf_na, nf_no, nf_b0, nf_z0, t45_4, t45_5, true_and, and_true, List.set_cons_zero, List.set_cons_succ, List.length_cons, List.length_nil, rd_s, upw_s, ne_eq, not_false_eq_true, Nat.zero_add, Nat.add_zero, if_true, if_false, eq_self]
    | split
    | with_reducible intro _
    | omega
set_option maxHeartbeats 4000000 in
theorem cL_19 (hR : RG g) (hb : g.2 b = some (.inl (1, L, .inl xs))) (hL : LWO g w x nA cA lA y nM o kn kn) (v1 : vp_in (i + 1) L) (v2 : vp_in (i + 2) L) (v3 : vp_in (i + 3) L) (v4 : vp_in (i + 4) L) (v5 : vp_in (i + 5) L) (hk : k + 114 ≤ 58408) (hn : n + 2834 ≤ 1451408) (next : (∀ (l5' l6' : Option Value) (w' : Hw) (k' n' : Nat) (kn' : Int32), LWO g w' x nA cA lA y nM o kn' kn' → k' ≤ k + 114 → n' ≤ n + 2834 → WP (ML_law g) QLaw (2217, [some (.ref b), some (.ref x), some (.ref y), some (.ref o), some (.int i), l5', l6'], [], w', k', n'))) : WP (ML_law g) QLaw (1188, [some (.ref b), some (.ref x), some (.ref y), some (.ref o), some (.int i), l5, l6], [], w, k, n) := by
  repeat' first
    | with_reducible assumption
    | with_reducible refine And.intro ?_ ?_
    | with_reducible refine gi_L (LWO.l (by assumption)) hb ?_
    | with_reducible refine go_X (LWO.l (by assumption)) (fun _ => trivial)
    | with_reducible refine go_Z (LWO.l (by assumption)) (fun _ => trivial)
    | with_reducible refine oL_shift hR (by assumption) (fun v1 w1 h1 => ?_)
    | with_reducible refine sX3_shift (LWO.mm h1) (fun v2 w2 m2 => ?_)
    | with_reducible exact next _ _ _ _ _ _ (LWO.ofM h1 m2) (by omega) (by omega)
    | simp only [eL_law_1188, eL_law_1188N, eL_law_1189, eL_law_1189N, eL_law_1190, eL_law_1192, eL_law_1193, eL_law_1194, eL_law_1195, eL_law_1195N, eL_law_1196, eL_law_1198, eL_law_1199, eL_law_1200, eL_law_1201, eL_law_1201N, eL_law_1202RR, eL_law_1202NR, eL_law_1202RN, eL_law_1202NN, eL_law_1205, eL_law_1207, eL_law_1207N, eL_law_1208, eL_law_1208N, eL_law_1209, eL_law_1211, eL_law_1212, eL_law_1213, eL_law_1214, eL_law_1214N, eL_law_1215, eL_law_1217, eL_law_1218, eL_law_1219, eL_law_1220, eL_law_1223, eL_law_1225, ite_le, n45, n54, true_or, or_true, false_or, or_false, false_and, and_false, kx_l, kx_r, go_s, gl_s, gi_s, gb_s2, gb_s3, gq_s, wt_nil, wt_int, wt_long, wt_ref, wt_null, nl_int, nl_long, nl_ref, nl_null, nl_none, rf_n, rf_s, rf_st, tl_s, tl_n, g0, gS, ex1, nb_b, nb_0, nb_1, nf_i, nf_l, nf_ra, nf_ro, nf_na, nf_no, nf_b0, nf_z0, t45_4, t45_5, true_and, and_true, List.set_cons_zero, List.set_cons_succ, List.length_cons, List.length_nil, rd_s, upw_s, ne_eq, not_false_eq_true, Nat.zero_add, Nat.add_zero, if_true, if_false, eq_self]
    | split
    | with_reducible intro _
    | omega
set_option maxHeartbeats 4000000 in
theorem cL_20 (hR : RG g) (hb : g.2 b = some (.inl (1, L, .inl xs))) (hL : LWO g w x nA cA lA y nM o kn kn) (v1 : vp_in (i + 1) L) (v2 : vp_in (i + 2) L) (v3 : vp_in (i + 3) L) (v4 : vp_in (i + 4) L) (v5 : vp_in (i + 5) L) (hk : k + 114 ≤ 58408) (hn : n + 2834 ≤ 1451408) (next : (∀ (l5' l6' : Option Value) (w' : Hw) (k' n' : Nat) (kn' : Int32), LWO g w' x nA cA lA y nM o kn' kn' → k' ≤ k + 114 → n' ≤ n + 2834 → WP (ML_law g) QLaw (2217, [some (.ref b), some (.ref x), some (.ref y), some (.ref o), some (.int i), l5', l6'], [], w', k', n'))) : WP (ML_law g) QLaw (1228, [some (.ref b), some (.ref x), some (.ref y), some (.ref o), some (.int i), l5, l6], [], w, k, n) := by
  repeat' first
    | with_reducible assumption
    | with_reducible refine And.intro ?_ ?_
    | with_reducible refine gi_L (LWO.l (by assumption)) hb ?_
    | with_reducible refine go_X (LWO.l (by assumption)) (fun _ => trivial)
    | with_reducible refine go_Z (LWO.l (by assumption)) (fun _ => trivial)
    | with_reducible refine oL_drop hR (by assumption) (fun v1 w1 h1 => ?_)
    | with_reducible refine sX3_drop (LWO.mm h1) (fun v2 w2 m2 => ?_)
    | with_reducible exact next _ _ _ _ _ _ (LWO.ofM h1 m2) (by omega) (by omega)
    | simp only [eL_law_1228, eL_law_1228N, eL_law_1229, eL_law_1229N, eL_law_1230, eL_law_1232, eL_law_1233, eL_law_1234, eL_law_1235, eL_law_1235N, eL_law_1236RR, eL_law_1236NR, eL_law_1236RN, eL_law_1236NN, eL_law_1239, eL_law_1241, eL_law_1241N, eL_law_1242, eL_law_1242N, eL_law_1243, eL_law_1245, eL_law_1246, eL_law_1247, eL_law_1248, eL_law_1251, eL_law_1253, ite_le, n45, n54, true_or, or_true, false_or, or_false, false_and, and_false, kx_l, kx_r, go_s, gl_s, gi_s, gb_s2, gb_s3, gq_s, wt_nil, wt_int, wt_long, wt_ref, wt_null, nl_int, nl_long, nl_ref, nl_null, nl_none, rf_n, rf_s, rf_st, tl_s, tl_n, g0, gS, ex1, nb_b, nb_0, nb_1, nf_i, nf_l, nf_ra, nf_ro, nf_na, nf_no, nf_b0, nf_z0, t45_4, t45_5, true_and, and_true, List.set_cons_zero, List.set_cons_succ, List.length_cons, List.length_nil, rd_s, upw_s, ne_eq, not_false_eq_true, Nat.zero_add, Nat.add_zero, if_true, if_false, eq_self]
    | split
    | with_reducible intro _
    | omega
set_option maxHeartbeats 4000000 in
theorem cL_21 (hR : RG g) (hb : g.2 b = some (.inl (1, L, .inl xs))) (hL : LWO g w x nA cA lA y nM o kn kn) (v1 : vp_in (i + 1) L) (v2 : vp_in (i + 2) L) (v3 : vp_in (i + 3) L) (v4 : vp_in (i + 4) L) (v5 : vp_in (i + 5) L) (hk : k + 114 ≤ 58408) (hn : n + 2834 ≤ 1451408) (next : (∀ (l5' l6' : Option Value) (w' : Hw) (k' n' : Nat) (kn' : Int32), LWO g w' x nA cA lA y nM o kn' kn' → k' ≤ k + 114 → n' ≤ n + 2834 → WP (ML_law g) QLaw (2217, [some (.ref b), some (.ref x), some (.ref y), some (.ref o), some (.int i), l5', l6'], [], w', k', n'))) : WP (ML_law g) QLaw (1256, [some (.ref b), some (.ref x), some (.ref y), some (.ref o), some (.int i), l5, l6], [], w, k, n) := by
  repeat' first
    | with_reducible assumption
    | with_reducible refine And.intro ?_ ?_
    | with_reducible refine gi_L (LWO.l (by assumption)) hb ?_
    | with_reducible refine go_X (LWO.l (by assumption)) (fun _ => trivial)
    | with_reducible refine go_Z (LWO.l (by assumption)) (fun _ => trivial)
    | with_reducible refine oL_isThere hR (by assumption) (fun v1 w1 h1 => ?_)
    | with_reducible refine sX3_isThere (LWO.mm h1) (fun v2 w2 m2 => ?_)
    | with_reducible exact next _ _ _ _ _ _ (LWO.ofM h1 m2) (by omega) (by omega)
    | simp only [eL_law_1256, eL_law_1256N, eL_law_1257, eL_law_1257N, eL_law_1258, eL_law_1260, eL_law_1261, eL_law_1262, eL_law_1263, eL_law_1263N, eL_law_1264RR, eL_law_1264NR, eL_law_1264RN, eL_law_1264NN, eL_law_1267, eL_law_1269, eL_law_1269N, eL_law_1270, eL_law_1270N, eL_law_1271, eL_law_1273, eL_law_1274, eL_law_1275, eL_law_1276, eL_law_1279, eL_law_1281, ite_le, n45, n54, true_or, or_true, false_or, or_false, false_and, and_false, kx_l, kx_r, go_s, gl_s, gi_s, gb_s2, gb_s3, gq_s, wt_nil, wt_int, wt_long, wt_ref, wt_null, nl_int, nl_long, nl_ref, nl_null, nl_none, rf_n, rf_s, rf_st, tl_s, tl_n, g0, gS, ex1, nb_b, nb_0, nb_1, nf_i, nf_l, nf_ra, nf_ro, nf_na, nf_no, nf_b0, nf_z0, t45_4, t45_5, true_and, and_true, List.set_cons_zero, List.set_cons_succ, List.length_cons, List.length_nil, rd_s, upw_s, ne_eq, not_false_eq_true, Nat.zero_add, Nat.add_zero, if_true, if_false, eq_self]
    | split
    | with_reducible intro _
    | omega
set_option maxHeartbeats 4000000 in
theorem cL_22 (hR : RG g) (hb : g.2 b = some (.inl (1, L, .inl xs))) (hL : LWO g w x nA cA lA y nM o kn kn) (v1 : vp_in (i + 1) L) (v2 : vp_in (i + 2) L) (v3 : vp_in (i + 3) L) (v4 : vp_in (i + 4) L) (v5 : vp_in (i + 5) L) (hk : k + 114 ≤ 58408) (hn : n + 2834 ≤ 1451408) (next : (∀ (l5' l6' : Option Value) (w' : Hw) (k' n' : Nat) (kn' : Int32), LWO g w' x nA cA lA y nM o kn' kn' → k' ≤ k + 114 → n' ≤ n + 2834 → WP (ML_law g) QLaw (2217, [some (.ref b), some (.ref x), some (.ref y), some (.ref o), some (.int i), l5', l6'], [], w', k', n'))) : WP (ML_law g) QLaw (1284, [some (.ref b), some (.ref x), some (.ref y), some (.ref o), some (.int i), l5, l6], [], w, k, n) := by
  repeat' first
    | with_reducible assumption
    | with_reducible refine And.intro ?_ ?_
    | with_reducible refine gi_L (LWO.l (by assumption)) hb ?_
    | with_reducible refine go_X (LWO.l (by assumption)) (fun _ => trivial)
    | with_reducible refine go_Z (LWO.l (by assumption)) (fun _ => trivial)
    | with_reducible refine oL_isFixed hR (by assumption) (fun v1 w1 h1 => ?_)
    | with_reducible refine sX3_isFixed (LWO.mm h1) (fun v2 w2 m2 => ?_)
    | with_reducible exact next _ _ _ _ _ _ (LWO.ofM h1 m2) (by omega) (by omega)
    | simp only [eL_law_1284, eL_law_1284N, eL_law_1285, eL_law_1285N, eL_law_1286, eL_law_1288, eL_law_1289, eL_law_1290, eL_law_1291, eL_law_1291N, eL_law_1292RR, eL_law_1292NR, eL_law_1292RN, eL_law_1292NN, eL_law_1295, eL_law_1297, eL_law_1297N, eL_law_1298, eL_law_1298N, eL_law_1299, eL_law_1301, eL_law_1302, eL_law_1303, eL_law_1304, eL_law_1307, eL_law_1309, ite_le, n45, n54, true_or, or_true, false_or, or_false, false_and, and_false, kx_l, kx_r, go_s, gl_s, gi_s, gb_s2, gb_s3, gq_s, wt_nil, wt_int, wt_long, wt_ref, wt_null, nl_int, nl_long, nl_ref, nl_null, nl_none, rf_n, rf_s, rf_st, tl_s, tl_n, g0, gS, ex1, nb_b, nb_0, nb_1, nf_i, nf_l, nf_ra, nf_ro, nf_na, nf_no, nf_b0, nf_z0, t45_4, t45_5, true_and, and_true, List.set_cons_zero, List.set_cons_succ, List.length_cons, List.length_nil, rd_s, upw_s, ne_eq, not_false_eq_true, Nat.zero_add, Nat.add_zero, if_true, if_false, eq_self]
    | split
    | with_reducible intro _
    | omega
set_option maxHeartbeats 4000000 in
theorem cL_23 (hR : RG g) (hb : g.2 b = some (.inl (1, L, .inl xs))) (hL : LWO g w x nA cA lA y nM o kn kn) (v1 : vp_in (i + 1) L) (v2 : vp_in (i + 2) L) (v3 : vp_in (i + 3) L) (v4 : vp_in (i + 4) L) (v5 : vp_in (i + 5) L) (hk : k + 114 ≤ 58408) (hn : n + 2834 ≤ 1451408) (next : (∀ (l5' l6' : Option Value) (w' : Hw) (k' n' : Nat) (kn' : Int32), LWO g w' x nA cA lA y nM o kn' kn' → k' ≤ k + 114 → n' ≤ n + 2834 → WP (ML_law g) QLaw (2217, [some (.ref b), some (.ref x), some (.ref y), some (.ref o), some (.int i), l5', l6'], [], w', k', n'))) : WP (ML_law g) QLaw (1312, [some (.ref b), some (.ref x), some (.ref y), some (.ref o), some (.int i), l5, l6], [], w, k, n) := by
  repeat' first
    | with_reducible assumption
    | with_reducible refine And.intro ?_ ?_
    | with_reducible refine gi_L (LWO.l (by assumption)) hb ?_
    | with_reducible refine go_X (LWO.l (by assumption)) (fun _ => trivial)
    | with_reducible refine go_Z (LWO.l (by assumption)) (fun _ => trivial)
    | with_reducible refine oL_isSmall hR (by assumption) (fun v1 w1 h1 => ?_)
    | with_reducible refine sX3_isSmall (LWO.mm h1) (fun v2 w2 m2 => ?_)
    | with_reducible exact next _ _ _ _ _ _ (LWO.ofM h1 m2) (by omega) (by omega)
    | simp only [eL_law_1312, eL_law_1312N, eL_law_1313, eL_law_1313N, eL_law_1314, eL_law_1316, eL_law_1317, eL_law_1318, eL_law_1319, eL_law_1319N, eL_law_1320RR, eL_law_1320NR, eL_law_1320RN, eL_law_1320NN, eL_law_1323, eL_law_1325, eL_law_1325N, eL_law_1326, eL_law_1326N, eL_law_1327, eL_law_1329, eL_law_1330, eL_law_1331, eL_law_1332, eL_law_1335, eL_law_1337, ite_le, n45, n54, true_or, or_true, false_or, or_false, false_and, and_false, kx_l, kx_r, go_s, gl_s, gi_s, gb_s2, gb_s3, gq_s, wt_nil, wt_int, wt_long, wt_ref, wt_null, nl_int, nl_long, nl_ref, nl_null, nl_none, rf_n, rf_s, rf_st, tl_s, tl_n, g0, gS, ex1, nb_b, nb_0, nb_1, nf_i, nf_l, nf_ra, nf_ro, nf_na, nf_no, nf_b0, nf_z0, t45_4, t45_5, true_and, and_true, List.set_cons_zero, List.set_cons_succ, List.length_cons, List.length_nil, rd_s, upw_s, ne_eq, not_false_eq_true, Nat.zero_add, Nat.add_zero, if_true, if_false, eq_self]
    | split
    | with_reducible intro _
    | omega
end
