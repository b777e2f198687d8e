section
variable {g : RO} {w : Hw} {x nA cA lA y nM o b L k n : Nat} {xs : Nat → Int32} {i kn th : Int32} {s : AS} {l5 l6 : Option Value}
set_option maxHeartbeats 4000000 in
theorem cL_12 (hR : RG g) (hb : g.2 b = some (.inl (1, L, .inl xs))) (hL : LW g w x nA cA lA y nM o kn kn th s s) (v1 : vp_in (i + 1) L) (v2 : vp_in (i + 2) L) (v3 : vp_in (i + 3) L) (v4 : vp_in (i + 4) L) (v5 : vp_in (i + 5) L) (hk : k + 114 ≤ 58408) (hn : n + 2834 ≤ 1451408) (next : (∀ (l5' l6' : Option Value) (w' : Hw) (k' n' : Nat) (kn' th' : Int32) (s' : AS), LW g w' x nA cA lA y nM o kn' kn' th' s' s' → k' ≤ k + 114 → n' ≤ n + 2834 → WP (ML_law g) QLaw (2246, [some (.ref b), some (.ref x), some (.ref y), some (.ref o), some (.int i), l5', l6'], [], w', k', n'))) : WP (ML_law g) QLaw (865, [some (.ref b), some (.ref x), some (.ref y), some (.ref o), some (.int i), l5, l6], [], w, k, n) := by
  repeat' first
    | with_reducible assumption
    | with_reducible refine And.intro ?_ ?_
    | with_reducible refine gi_W hL hb ?_
    | with_reducible refine LW.gx hL (fun _ => trivial)
    | with_reducible exact absurd hTqc0 hXpc0
    | with_reducible exact absurd hFqc0 hXpc0
    | with_reducible exact absurd hTpc0 hXqc0
    | with_reducible exact absurd hTpc1 hFqc1
    | with_reducible exact absurd hFpc0 hXqc0
    | with_reducible exact absurd hTqc1 hFpc1
    | with_reducible refine fL_threeSmall hL (fun hXpc0 => ?_) (fun hTpc0 hTpc1 hTpw hTph hTpo => ?_) (fun hFpc0 hFpc1 hFpw hFph hFpo => ?_)
    | with_reducible refine fX3_threeSmall (LW.ms hFph) (fun hXqc0 hXqw hXqh => ?_) (fun hTqc0 hTqc1 hTqw hTqh => ?_) (fun hFqc0 hFqc1 hFqw hFqh => ?_)
    | with_reducible refine fX3_threeSmall (LW.ms hL) (fun hXqc0 hXqw hXqh => ?_) (fun hTqc0 hTqc1 hTqw hTqh => ?_) (fun hFqc0 hFqc1 hFqw hFqh => ?_)
    | with_reducible refine fX3_threeSmall (LW.ms hTph) (fun hXqc0 hXqw hXqh => ?_) (fun hTqc0 hTqc1 hTqw hTqh => ?_) (fun hFqc0 hFqc1 hFqw hFqh => ?_)
    | with_reducible refine LW.gz hFph (fun _ => trivial)
    | with_reducible refine gi_W hFph hb ?_
    | with_reducible refine LW.gz hL (fun _ => trivial)
    | with_reducible refine gi_W hL hb ?_
    | with_reducible refine LW.gz hTph (fun _ => trivial)
    | with_reducible refine gi_W hTph hb ?_
    | with_reducible exact next _ _ _ _ _ _ _ _ (LW.ofM hL hXqh) (by omega) (by omega)
    | with_reducible exact next _ _ _ _ _ _ _ _ (LW.ofM hL hTqh) (by omega) (by omega)
    | with_reducible exact next _ _ _ _ _ _ _ _ (LW.ofM hL hFqh) (by omega) (by omega)
    | with_reducible exact next _ _ _ _ _ _ _ _ (LW.ofM hTph hXqh) (by omega) (by omega)
    | with_reducible exact next _ _ _ _ _ _ _ _ (LW.ofM hTph hTqh) (by omega) (by omega)
    | with_reducible exact next _ _ _ _ _ _ _ _ (LW.ofM hTph hFqh) (by omega) (by omega)
    | with_reducible exact next _ _ _ _ _ _ _ _ (LW.ofM hFph hXqh) (by omega) (by omega)
    | with_reducible exact next _ _ _ _ _ _ _ _ (LW.ofM hFph hTqh) (by omega) (by omega)
    | with_reducible exact next _ _ _ _ _ _ _ _ (LW.ofM hFph hFqh) (by omega) (by omega)
    | simp only [eL_law_865, eL_law_865N, eL_law_866, eL_law_866N, eL_law_867, eL_law_869, eL_law_870, eL_law_871, eL_law_872, eL_law_872N, eL_law_873, eL_law_875, eL_law_876, eL_law_877, eL_law_878, eL_law_878N, eL_law_879, eL_law_881, eL_law_882, eL_law_883, eL_law_884, eL_law_884N, eL_law_885, eL_law_887, eL_law_888, eL_law_889, eL_law_890, eL_law_890N, eL_law_891RR, eL_law_891NR, eL_law_891RN, eL_law_891NN, eL_law_894, eL_law_896, eL_law_896N, eL_law_897, eL_law_897N, eL_law_898, eL_law_900, eL_law_901, eL_law_902, eL_law_903, eL_law_903N, eL_law_904, eL_law_906, eL_law_907, eL_law_908, eL_law_909, eL_law_909N, eL_law_910, eL_law_912, eL_law_913, eL_law_914, eL_law_915, eL_law_915N, eL_law_916, eL_law_918, eL_law_919, eL_law_920, eL_law_921, eL_law_924, eL_law_926, ite_le, n45, n54, true_or, or_true, false_or, or_false, false_and, and_false, kx_l, kx_r, go_s, gl_s, gi_s, gb_s2, gb_s3, gq_s, wt_nil, wt_int, wt_long, wt_ref, wt_null, nl_int, nl_long, nl_ref, nl_null, nl_none, rf_n, rf_s, rf_st, tl_s, tl_n, g0, gS, ex1, nb_b, nb_0, nb_1, nf_i, nf_l, nf_ra, nf_ro, nf_na, nf_no, nf_b0, nf_z0, t45_4, t45_5, true_and, and_true, List.set_cons_zero, List.set_cons_succ, List.length_cons, List.length_nil, rd_s, upw_s, ne_eq, not_false_eq_true, Nat.zero_add, Nat.add_zero, if_true, if_false, eq_self, lgz, n12z, n2z, n3z, i00, not_true]
    | split
    | with_reducible intro _
    | omega
set_option maxHeartbeats 4000000 in
theorem cL_13 (hR : RG g) (hb : g.2 b = some (.inl (1, L, .inl xs))) (hL : LW g w x nA cA lA y nM o kn kn th s s) (v1 : vp_in (i + 1) L) (v2 : vp_in (i + 2) L) (v3 : vp_in (i + 3) L) (v4 : vp_in (i + 4) L) (v5 : vp_in (i + 5) L) (hk : k + 114 ≤ 58408) (hn : n + 2834 ≤ 1451408) (next : (∀ (l5' l6' : Option Value) (w' : Hw) (k' n' : Nat) (kn' th' : Int32) (s' : AS), LW g w' x nA cA lA y nM o kn' kn' th' s' s' → k' ≤ k + 114 → n' ≤ n + 2834 → WP (ML_law g) QLaw (2246, [some (.ref b), some (.ref x), some (.ref y), some (.ref o), some (.int i), l5', l6'], [], w', k', n'))) : WP (ML_law g) QLaw (929, [some (.ref b), some (.ref x), some (.ref y), some (.ref o), some (.int i), l5, l6], [], w, k, n) := by
  repeat' first
    | with_reducible assumption
    | with_reducible refine And.intro ?_ ?_
    | with_reducible refine gi_W hL hb ?_
    | with_reducible refine LW.gx hL (fun _ => trivial)
    | with_reducible exact absurd hTqc0 hXpc0
    | with_reducible exact absurd hFqc0 hXpc0
    | with_reducible exact absurd hTpc0 hXqc0
    | with_reducible exact absurd hTpc1 hFqc1
    | with_reducible exact absurd hFpc0 hXqc0
    | with_reducible exact absurd hTqc1 hFpc1
    | with_reducible refine fL_fourSmall hL (fun hXpc0 => ?_) (fun hTpc0 hTpc1 hTpw hTph hTpo => ?_) (fun hFpc0 hFpc1 hFpw hFph hFpo => ?_)
    | with_reducible refine fX3_fourSmall (LW.ms hFph) (fun hXqc0 hXqw hXqh => ?_) (fun hTqc0 hTqc1 hTqw hTqh => ?_) (fun hFqc0 hFqc1 hFqw hFqh => ?_)
    | with_reducible refine fX3_fourSmall (LW.ms hL) (fun hXqc0 hXqw hXqh => ?_) (fun hTqc0 hTqc1 hTqw hTqh => ?_) (fun hFqc0 hFqc1 hFqw hFqh => ?_)
    | with_reducible refine fX3_fourSmall (LW.ms hTph) (fun hXqc0 hXqw hXqh => ?_) (fun hTqc0 hTqc1 hTqw hTqh => ?_) (fun hFqc0 hFqc1 hFqw hFqh => ?_)
    | with_reducible refine LW.gz hFph (fun _ => trivial)
    | with_reducible refine gi_W hFph hb ?_
    | with_reducible refine LW.gz hL (fun _ => trivial)
    | with_reducible refine gi_W hL hb ?_
    | with_reducible refine LW.gz hTph (fun _ => trivial)
    | with_reducible refine gi_W hTph hb ?_
    | with_reducible exact next _ _ _ _ _ _ _ _ (LW.ofM hL hXqh) (by omega) (by omega)
    | with_reducible exact next _ _ _ _ _ _ _ _ (LW.ofM hL hTqh) (by omega) (by omega)
    | with_reducible exact next _ _ _ _ _ _ _ _ (LW.ofM hL hFqh) (by omega) (by omega)
    | with_reducible exact next _ _ _ _ _ _ _ _ (LW.ofM hTph hXqh) (by omega) (by omega)
    | with_reducible exact next _ _ _ _ _ _ _ _ (LW.ofM hTph hTqh) (by omega) (by omega)
    | with_reducible exact next _ _ _ _ _ _ _ _ (LW.ofM hTph hFqh) (by omega) (by omega)
    | with_reducible exact next _ _ _ _ _ _ _ _ (LW.ofM hFph hXqh) (by omega) (by omega)
    | with_reducible exact next _ _ _ _ _ _ _ _ (LW.ofM hFph hTqh) (by omega) (by omega)
    | with_reducible exact next _ _ _ _ _ _ _ _ (LW.ofM hFph hFqh) (by omega) (by omega)
    | simp only [eL_law_929, eL_law_929N, eL_law_930, eL_law_930N, eL_law_931, eL_law_933, eL_law_934, eL_law_935, eL_law_936, eL_law_936N, eL_law_937, eL_law_939, eL_law_940, eL_law_941, eL_law_942, eL_law_942N, eL_law_943, eL_law_945, eL_law_946, eL_law_947, eL_law_948, eL_law_948N, eL_law_949, eL_law_951, eL_law_952, eL_law_953, eL_law_954, eL_law_954N, eL_law_955, eL_law_957, eL_law_958, eL_law_959, eL_law_960, eL_law_960N, eL_law_961RR, eL_law_961NR, eL_law_961RN, eL_law_961NN, eL_law_964, eL_law_966, eL_law_966N, eL_law_967, eL_law_967N, eL_law_968, eL_law_970, eL_law_971, eL_law_972, eL_law_973, eL_law_973N, eL_law_974, eL_law_976, eL_law_977, eL_law_978, eL_law_979, eL_law_979N, eL_law_980, eL_law_982, eL_law_983, eL_law_984, eL_law_985, eL_law_985N, eL_law_986, eL_law_988, eL_law_989, eL_law_990, eL_law_991, eL_law_991N, eL_law_992, eL_law_994, eL_law_995, eL_law_996, eL_law_997, eL_law_1000, eL_law_1002, ite_le, n45, n54, true_or, or_true, false_or, or_false, false_and, and_false, kx_l, kx_r, go_s, gl_s, gi_s, gb_s2, gb_s3, gq_s, wt_nil, wt_int, wt_long, wt_ref, wt_null, nl_int, nl_long, nl_ref, nl_null, nl_none, rf_n, rf_s, rf_st, tl_s, tl_n, g0, gS, ex1, nb_b, nb_0, nb_1, nf_i, nf_l, nf_ra, nf_ro, nf_na, nf_no, nf_b0, nf_z0, t45_4, t45_5, true_and, and_true, List.set_cons_zero, List.set_cons_succ, List.length_cons, List.length_nil, rd_s, upw_s, ne_eq, not_false_eq_true, Nat.zero_add, Nat.add_zero, if_true, if_false, eq_self, lgz, n12z, n2z, n3z, i00, not_true]
    | split
    | with_reducible intro _
    | omega
set_option maxHeartbeats 4000000 in
theorem cL_14 (hR : RG g) (hb : g.2 b = some (.inl (1, L, .inl xs))) (hL : LW g w x nA cA lA y nM o kn kn th s s) (v1 : vp_in (i + 1) L) (v2 : vp_in (i + 2) L) (v3 : vp_in (i + 3) L) (v4 : vp_in (i + 4) L) (v5 : vp_in (i + 5) L) (hk : k + 114 ≤ 58408) (hn : n + 2834 ≤ 1451408) (next : (∀ (l5' l6' : Option Value) (w' : Hw) (k' n' : Nat) (kn' th' : Int32) (s' : AS), LW g w' x nA cA lA y nM o kn' kn' th' s' s' → k' ≤ k + 114 → n' ≤ n + 2834 → WP (ML_law g) QLaw (2246, [some (.ref b), some (.ref x), some (.ref y), some (.ref o), some (.int i), l5', l6'], [], w', k', n'))) : WP (ML_law g) QLaw (1005, [some (.ref b), some (.ref x), some (.ref y), some (.ref o), some (.int i), l5, l6], [], w, k, n) := by
  repeat' first
    | with_reducible assumption
    | with_reducible refine And.intro ?_ ?_
    | with_reducible refine gi_W hL hb ?_
    | with_reducible refine LW.gx hL (fun _ => trivial)
    | cases Option.some.inj (hQpc2.symm.trans hQqc2); clear hQqc2
    | with_reducible exact absurd (And.intro hSqc0 hSqc1) hXpc0
    | with_reducible exact absurd (And.intro hQqc0 hQqc1) hXpc0
    | with_reducible exact absurd (And.intro hSpc0 hSpc1) hXqc0
    | with_reducible exact (nsC hSpc2 hQqc2).elim
    | with_reducible exact absurd (And.intro hQpc0 hQpc1) hXqc0
    | with_reducible exact (nsC hSqc2 hQpc2).elim
    | with_reducible refine fL_again hL (fun hXpc0 => ?_) (fun hSpc0 hSpc1 hSpc2 => ?_) (fun hQpc0 hQpc1 hQpr hQpc2 hQpw hQph hQpo => ?_)
    | with_reducible refine fX3_again (LW.ms hL) hL.ok (fun hXqc0 hXqw hXqh => ?_) (fun hSqc0 hSqc1 hSqc2 hSqw hSqh => ?_) (fun hQqc0 hQqc1 hQqr hQqc2 hQqw hQqh => ?_)
    | with_reducible refine fX3_again (LW.ms hQph) hL.ok (fun hXqc0 hXqw hXqh => ?_) (fun hSqc0 hSqc1 hSqc2 hSqw hSqh => ?_) (fun hQqc0 hQqc1 hQqr hQqc2 hQqw hQqh => ?_)
    | with_reducible refine LW.gz hL (fun _ => trivial)
    | with_reducible refine gi_W hL hb ?_
    | with_reducible refine LW.gz hQph (fun _ => trivial)
    | with_reducible refine gi_W hQph hb ?_
    | with_reducible exact next _ _ _ _ _ _ _ _ (LW.ofM hL hXqh) (by omega) (by omega)
    | with_reducible exact next _ _ _ _ _ _ _ _ (LW.ofM hL hSqh) (by omega) (by omega)
    | with_reducible exact next _ _ _ _ _ _ _ _ (LW.ofM hL hQqh) (by omega) (by omega)
    | with_reducible exact next _ _ _ _ _ _ _ _ (LW.ofM hQph hXqh) (by omega) (by omega)
    | with_reducible exact next _ _ _ _ _ _ _ _ (LW.ofM hQph hSqh) (by omega) (by omega)
    | with_reducible exact next _ _ _ _ _ _ _ _ (LW.ofM hQph hQqh) (by omega) (by omega)
    | simp only [eL_law_1005, eL_law_1005N, eL_law_1006, eL_law_1006N, eL_law_1007, eL_law_1009, eL_law_1010, eL_law_1011, eL_law_1012, eL_law_1012N, eL_law_1013, eL_law_1015, eL_law_1016, eL_law_1017, eL_law_1018, eL_law_1018N, eL_law_1019RR, eL_law_1019NR, eL_law_1019RN, eL_law_1019NN, eL_law_1022, eL_law_1024, eL_law_1024N, eL_law_1025, eL_law_1025N, eL_law_1026, eL_law_1028, eL_law_1029, eL_law_1030, eL_law_1031, eL_law_1031N, eL_law_1032, eL_law_1034, eL_law_1035, eL_law_1036, eL_law_1037, eL_law_1040, eL_law_1042, ite_le, n45, n54, true_or, or_true, false_or, or_false, false_and, and_false, kx_l, kx_r, go_s, gl_s, gi_s, gb_s2, gb_s3, gq_s, wt_nil, wt_int, wt_long, wt_ref, wt_null, nl_int, nl_long, nl_ref, nl_null, nl_none, rf_n, rf_s, rf_st, tl_s, tl_n, g0, gS, ex1, nb_b, nb_0, nb_1, nf_i, nf_l, nf_ra, nf_ro, nf_na, nf_no, nf_b0, nf_z0, t45_4, t45_5, true_and, and_true, List.set_cons_zero, List.set_cons_succ, List.length_cons, List.length_nil, rd_s, upw_s, ne_eq, not_false_eq_true, Nat.zero_add, Nat.add_zero, if_true, if_false, eq_self, lgz, n12z, n2z, n3z, i00, not_true]
    | split
    | with_reducible intro _
    | omega
set_option maxHeartbeats 4000000 in
theorem cL_15 (hR : RG g) (hb : g.2 b = some (.inl (1, L, .inl xs))) (hL : LW g w x nA cA lA y nM o kn kn th s s) (v1 : vp_in (i + 1) L) (v2 : vp_in (i + 2) L) (v3 : vp_in (i + 3) L) (v4 : vp_in (i + 4) L) (v5 : vp_in (i + 5) L) (hk : k + 114 ≤ 58408) (hn : n + 2834 ≤ 1451408) (next : (∀ (l5' l6' : Option Value) (w' : Hw) (k' n' : Nat) (kn' th' : Int32) (s' : AS), LW g w' x nA cA lA y nM o kn' kn' th' s' s' → k' ≤ k + 114 → n' ≤ n + 2834 → WP (ML_law g) QLaw (2246, [some (.ref b), some (.ref x), some (.ref y), some (.ref o), some (.int i), l5', l6'], [], w', k', n'))) : WP (ML_law g) QLaw (1045, [some (.ref b), some (.ref x), some (.ref y), some (.ref o), some (.int i), l5, l6], [], w, k, n) := by
  repeat' first
    | with_reducible assumption
    | with_reducible refine And.intro ?_ ?_
    | with_reducible refine gi_W hL hb ?_
    | with_reducible refine LW.gx hL (fun _ => trivial)
    | cases Option.some.inj (hNpc2.symm.trans hNqc2); clear hNqc2
    | cases Option.some.inj (hNpc2.symm.trans hTqc2); clear hTqc2
    | cases Option.some.inj (hNpc2.symm.trans hFqc2); clear hFqc2
    | cases Option.some.inj (hTpc2.symm.trans hNqc2); clear hNqc2
    | cases Option.some.inj (hTpc2.symm.trans hTqc2); clear hTqc2
    | cases Option.some.inj (hTpc3.symm.trans hTqc3); clear hTqc3
    | cases Option.some.inj (hTpc2.symm.trans hFqc2); clear hFqc2
    | cases Option.some.inj (hTpc3.symm.trans hFqc3); clear hFqc3
    | cases Option.some.inj (hFpc2.symm.trans hNqc2); clear hNqc2
    | cases Option.some.inj (hFpc2.symm.trans hTqc2); clear hTqc2
    | cases Option.some.inj (hFpc3.symm.trans hTqc3); clear hTqc3
    | cases Option.some.inj (hFpc2.symm.trans hFqc2); clear hFqc2
    | cases Option.some.inj (hFpc3.symm.trans hFqc3); clear hFqc3
    | with_reducible exact absurd (And.intro hSqc0 hSqc1) hXpc0
    | with_reducible exact absurd (And.intro hNqc0 hNqc1) hXpc0
    | with_reducible exact absurd (And.intro hTqc0 hTqc1) hXpc0
    | with_reducible exact absurd (And.intro hFqc0 hFqc1) hXpc0
    | with_reducible exact absurd (And.intro hSpc0 hSpc1) hXqc0
    | with_reducible exact (nsC hSpc2 hNqc2).elim
    | with_reducible exact (nsC hSpc2 hTqc2).elim
    | with_reducible exact (nsC hSpc2 hFqc2).elim
    | with_reducible exact absurd (And.intro hNpc0 hNpc1) hXqc0
    | with_reducible exact (nsC hSqc2 hNpc2).elim
    | with_reducible exact (nsC hNpc3 hTqc3).elim
    | with_reducible exact (nsC hNpc3 hFqc3).elim
    | with_reducible exact absurd (And.intro hTpc0 hTpc1) hXqc0
    | with_reducible exact (nsC hSqc2 hTpc2).elim
    | with_reducible exact (nsC hNqc3 hTpc3).elim
    | with_reducible exact absurd hTpc4 hFqc4
    | with_reducible exact absurd (And.intro hFpc0 hFpc1) hXqc0
    | with_reducible exact (nsC hSqc2 hFpc2).elim
    | with_reducible exact (nsC hNqc3 hFpc3).elim
    | with_reducible exact absurd hTqc4 hFpc4
    | with_reducible refine fL_same hL (fun hXpc0 => ?_) (fun hSpc0 hSpc1 hSpc2 => ?_) (fun hNpc0 hNpc1 hNpr hNpc2 hNpc3 hNpw hNph hNpo => ?_) (fun hTpc0 hTpc1 hTpr hTpc2 hTpq hTpc3 hTpc4 hTpw hTph hTpo => ?_) (fun hFpc0 hFpc1 hFpr hFpc2 hFpq hFpc3 hFpc4 hFpw hFph hFpo => ?_)
    | with_reducible refine fX3_same_ (LW.ms hFph) (fun hXqc0 hXqw hXqh => ?_) (fun hSqc0 hSqc1 hSqc2 hSqw hSqh => ?_) (fun hNqc0 hNqc1 hNqr hNqc2 hNqc3 hNqw hNqh => ?_) (fun hTqc0 hTqc1 hTqr hTqc2 hTqq hTqc3 hTqc4 hTqw hTqh => ?_) (fun hFqc0 hFqc1 hFqr hFqc2 hFqq hFqc3 hFqc4 hFqw hFqh => ?_)
    | with_reducible refine fX3_same_ (LW.ms hL) (fun hXqc0 hXqw hXqh => ?_) (fun hSqc0 hSqc1 hSqc2 hSqw hSqh => ?_) (fun hNqc0 hNqc1 hNqr hNqc2 hNqc3 hNqw hNqh => ?_) (fun hTqc0 hTqc1 hTqr hTqc2 hTqq hTqc3 hTqc4 hTqw hTqh => ?_) (fun hFqc0 hFqc1 hFqr hFqc2 hFqq hFqc3 hFqc4 hFqw hFqh => ?_)
    | with_reducible refine fX3_same_ (LW.ms hNph) (fun hXqc0 hXqw hXqh => ?_) (fun hSqc0 hSqc1 hSqc2 hSqw hSqh => ?_) (fun hNqc0 hNqc1 hNqr hNqc2 hNqc3 hNqw hNqh => ?_) (fun hTqc0 hTqc1 hTqr hTqc2 hTqq hTqc3 hTqc4 hTqw hTqh => ?_) (fun hFqc0 hFqc1 hFqr hFqc2 hFqq hFqc3 hFqc4 hFqw hFqh => ?_)
    | with_reducible refine fX3_same_ (LW.ms hTph) (fun hXqc0 hXqw hXqh => ?_) (fun hSqc0 hSqc1 hSqc2 hSqw hSqh => ?_) (fun hNqc0 hNqc1 hNqr hNqc2 hNqc3 hNqw hNqh => ?_) (fun hTqc0 hTqc1 hTqr hTqc2 hTqq hTqc3 hTqc4 hTqw hTqh => ?_) (fun hFqc0 hFqc1 hFqr hFqc2 hFqq hFqc3 hFqc4 hFqw hFqh => ?_)
    | with_reducible refine LW.gz hFph (fun _ => trivial)
    | with_reducible refine gi_W hFph hb ?_
    | with_reducible refine LW.gz hL (fun _ => trivial)
    | with_reducible refine gi_W hL hb ?_
    | with_reducible refine LW.gz hNph (fun _ => trivial)
    | with_reducible refine gi_W hNph hb ?_
    | with_reducible refine LW.gz hTph (fun _ => trivial)
    | with_reducible refine gi_W hTph hb ?_
    | with_reducible exact next _ _ _ _ _ _ _ _ (LW.ofM hL hXqh) (by omega) (by omega)
    | with_reducible exact next _ _ _ _ _ _ _ _ (LW.ofM hL hSqh) (by omega) (by omega)
    | with_reducible exact next _ _ _ _ _ _ _ _ (LW.ofM hL hNqh) (by omega) (by omega)
    | with_reducible exact next _ _ _ _ _ _ _ _ (LW.ofM hL hTqh) (by omega) (by omega)
    | with_reducible exact next _ _ _ _ _ _ _ _ (LW.ofM hL hFqh) (by omega) (by omega)
    | with_reducible exact next _ _ _ _ _ _ _ _ (LW.ofM hNph hXqh) (by omega) (by omega)
    | with_reducible exact next _ _ _ _ _ _ _ _ (LW.ofM hNph hSqh) (by omega) (by omega)
    | with_reducible exact next _ _ _ _ _ _ _ _ (LW.ofM hNph hNqh) (by omega) (by omega)
    | with_reducible exact next _ _ _ _ _ _ _ _ (LW.ofM hNph hTqh) (by omega) (by omega)
    | with_reducible exact next _ _ _ _ _ _ _ _ (LW.ofM hNph hFqh) (by omega) (by omega)
    | with_reducible exact next _ _ _ _ _ _ _ _ (LW.ofM hTph hXqh) (by omega) (by omega)
    | with_reducible exact next _ _ _ _ _ _ _ _ (LW.ofM hTph hSqh) (by omega) (by omega)
    | with_reducible exact next _ _ _ _ _ _ _ _ (LW.ofM hTph hNqh) (by omega) (by omega)
    | with_reducible exact next _ _ _ _ _ _ _ _ (LW.ofM hTph hTqh) (by omega) (by omega)
    | with_reducible exact next _ _ _ _ _ _ _ _ (LW.ofM hTph hFqh) (by omega) (by omega)
    | with_reducible exact next _ _ _ _ _ _ _ _ (LW.ofM hFph hXqh) (by omega) (by omega)
    | with_reducible exact next _ _ _ _ _ _ _ _ (LW.ofM hFph hSqh) (by omega) (by omega)
    | with_reducible exact next _ _ _ _ _ _ _ _ (LW.ofM hFph hNqh) (by omega) (by omega)
    | with_reducible exact next _ _ _ _ _ _ _ _ (LW.ofM hFph hTqh) (by omega) (by omega)
    | with_reducible exact next _ _ _ _ _ _ _ _ (LW.ofM hFph hFqh) (by omega) (by omega)
    | simp only [eL_law_1045, eL_law_1045N, eL_law_1046, eL_law_1046N, eL_law_1047, eL_law_1049, eL_law_1050, eL_law_1051, eL_law_1052, eL_law_1052N, eL_law_1053, eL_law_1055, eL_law_1056, eL_law_1057, eL_law_1058, eL_law_1058N, eL_law_1059RR, eL_law_1059NR, eL_law_1059RN, eL_law_1059NN, eL_law_1062, eL_law_1064, eL_law_1064N, eL_law_1065, eL_law_1065N, eL_law_1066, eL_law_1068, eL_law_1069, eL_law_1070, eL_law_1071, eL_law_1071N, eL_law_1072, eL_law_1074, eL_law_1075, eL_law_1076, eL_law_1077, eL_law_1080, eL_law_1082, ite_le, n45, n54, true_or, or_true, false_or, or_false, false_and, and_false, kx_l, kx_r, go_s, gl_s, gi_s, gb_s2, gb_s3, gq_s, wt_nil, wt_int, wt_long, wt_ref, wt_null, nl_int, nl_long, nl_ref, nl_null, nl_none, rf_n, rf_s, rf_st, tl_s, tl_n, g0, gS, ex1, nb_b, nb_0, nb_1, nf_i, nf_l, nf_ra, nf_ro, nf_na, nf_no, nf_b0, nf_z0, t45_4, t45_5, true_and, and_true, List.set_cons_zero, List.set_cons_succ, List.length_cons, List.length_nil, rd_s, upw_s, ne_eq, not_false_eq_true, Nat.zero_add, Nat.add_zero, if_true, if_false, eq_self, lgz, n12z, n2z, n3z, i00, not_true]
    | split
    | with_reducible intro _
    | omega
set_option maxHeartbeats 4000000 in
theorem cL_16 (hR : RG g) (hb : g.2 b = some (.inl (1, L, .inl xs))) (hL : LW g w x nA cA lA y nM o kn kn th s s) (v1 : vp_in (i + 1) L) (v2 : vp_in (i + 2) L) (v3 : vp_in (i + 3) L) (v4 : vp_in (i + 4) L) (v5 : vp_in (i + 5) L) (hk : k + 114 ≤ 58408) (hn : n + 2834 ≤ 1451408) (next : (∀ (l5' l6' : Option Value) (w' : Hw) (k' n' : Nat) (kn' th' : Int32) (s' : AS), LW g w' x nA cA lA y nM o kn' kn' th' s' s' → k' ≤ k + 114 → n' ≤ n + 2834 → WP (ML_law g) QLaw (2246, [some (.ref b), some (.ref x), some (.ref y), some (.ref o), some (.int i), l5', l6'], [], w', k', n'))) : WP (ML_law g) QLaw (1085, [some (.ref b), some (.ref x), some (.ref y), some (.ref o), some (.int i), l5, l6], [], w, k, n) := by
  repeat' first
    | with_reducible assumption
    | with_reducible refine And.intro ?_ ?_
    | with_reducible refine gi_W hL hb ?_
    | with_reducible refine LW.gx hL (fun _ => trivial)
    | cases Option.some.inj (hTpc2.symm.trans hTqc2); clear hTqc2
    | cases Option.some.inj (hTpc2.symm.trans hFqc2); clear hFqc2
    | cases Option.some.inj (hFpc2.symm.trans hTqc2); clear hTqc2
    | cases Option.some.inj (hFpc2.symm.trans hFqc2); clear hFqc2
    | with_reducible exact absurd (And.intro hSqc0 hSqc1) hXpc0
    | with_reducible exact absurd (And.intro hTqc0 hTqc1) hXpc0
    | with_reducible exact absurd (And.intro hFqc0 hFqc1) hXpc0
    | with_reducible exact absurd (And.intro hSpc0 hSpc1) hXqc0
    | with_reducible exact (nsC hSpc2 hTqc2).elim
    | with_reducible exact (nsC hSpc2 hFqc2).elim
    | with_reducible exact absurd (And.intro hTpc0 hTpc1) hXqc0
    | with_reducible exact (nsC hSqc2 hTpc2).elim
    | with_reducible exact absurd hTpc3 hFqc3
    | with_reducible exact absurd (And.intro hFpc0 hFpc1) hXqc0
    | with_reducible exact (nsC hSqc2 hFpc2).elim
    | with_reducible exact absurd hTqc3 hFpc3
    | with_reducible refine fL_outer hL (fun hXpc0 => ?_) (fun hSpc0 hSpc1 hSpc2 => ?_) (fun hTpc0 hTpc1 hTpr hTpc2 hTpc3 hTpw hTph hTpo => ?_) (fun hFpc0 hFpc1 hFpr hFpc2 hFpc3 hFpw hFph hFpo => ?_)
    | with_reducible refine fX3_outer (LW.ms hFph) hL.ok (fun hXqc0 hXqw hXqh => ?_) (fun hSqc0 hSqc1 hSqc2 hSqw hSqh => ?_) (fun hTqc0 hTqc1 hTqr hTqc2 hTqc3 hTqw hTqh => ?_) (fun hFqc0 hFqc1 hFqr hFqc2 hFqc3 hFqw hFqh => ?_)
    | with_reducible refine fX3_outer (LW.ms hL) hL.ok (fun hXqc0 hXqw hXqh => ?_) (fun hSqc0 hSqc1 hSqc2 hSqw hSqh => ?_) (fun hTqc0 hTqc1 hTqr hTqc2 hTqc3 hTqw hTqh => ?_) (fun hFqc0 hFqc1 hFqr hFqc2 hFqc3 hFqw hFqh => ?_)
    | with_reducible refine fX3_outer (LW.ms hTph) hL.ok (fun hXqc0 hXqw hXqh => ?_) (fun hSqc0 hSqc1 hSqc2 hSqw hSqh => ?_) (fun hTqc0 hTqc1 hTqr hTqc2 hTqc3 hTqw hTqh => ?_) (fun hFqc0 hFqc1 hFqr hFqc2 hFqc3 hFqw hFqh => ?_)
    | with_reducible refine LW.gz hFph (fun _ => trivial)
    | with_reducible refine gi_W hFph hb ?_
    | with_reducible refine LW.gz hL (fun _ => trivial)
    | with_reducible refine gi_W hL hb ?_
    | with_reducible refine LW.gz hTph (fun _ => trivial)
    | with_reducible refine gi_W hTph hb ?_
    | with_reducible exact next _ _ _ _ _ _ _ _ (LW.ofM hL hXqh) (by omega) (by omega)
    | with_reducible exact next _ _ _ _ _ _ _ _ (LW.ofM hL hSqh) (by omega) (by omega)
    | with_reducible exact next _ _ _ _ _ _ _ _ (LW.ofM hL hTqh) (by omega) (by omega)
    | with_reducible exact next _ _ _ _ _ _ _ _ (LW.ofM hL hFqh) (by omega) (by omega)
    | with_reducible exact next _ _ _ _ _ _ _ _ (LW.ofM hTph hXqh) (by omega) (by omega)
    | with_reducible exact next _ _ _ _ _ _ _ _ (LW.ofM hTph hSqh) (by omega) (by omega)
    | with_reducible exact next _ _ _ _ _ _ _ _ (LW.ofM hTph hTqh) (by omega) (by omega)
    | with_reducible exact next _ _ _ _ _ _ _ _ (LW.ofM hTph hFqh) (by omega) (by omega)
    | with_reducible exact next _ _ _ _ _ _ _ _ (LW.ofM hFph hXqh) (by omega) (by omega)
    | with_reducible exact next _ _ _ _ _ _ _ _ (LW.ofM hFph hSqh) (by omega) (by omega)
    | with_reducible exact next _ _ _ _ _ _ _ _ (LW.ofM hFph hTqh) (by omega) (by omega)
    | with_reducible exact next _ _ _ _ _ _ _ _ (LW.ofM hFph hFqh) (by omega) (by omega)
    | simp only [eL_law_1085, eL_law_1085N, eL_law_1086, eL_law_1086N, eL_law_1087, eL_law_1089, eL_law_1090, eL_law_1091, eL_law_1092, eL_law_1092N, eL_law_1093, eL_law_1095, eL_law_1096, eL_law_1097, eL_law_1098, eL_law_1098N, eL_law_1099RR, eL_law_1099NR, eL_law_1099RN, eL_law_1099NN, eL_law_1102, eL_law_1104, eL_law_1104N, eL_law_1105, eL_law_1105N, eL_law_1106, eL_law_1108, eL_law_1109, eL_law_1110, eL_law_1111, eL_law_1111N, eL_law_1112, eL_law_1114, eL_law_1115, eL_law_1116, eL_law_1117, eL_law_1120, eL_law_1122, ite_le, n45, n54, true_or, or_true, false_or, or_false, false_and, and_false, kx_l, kx_r, go_s, gl_s, gi_s, gb_s2, gb_s3, gq_s, wt_nil, wt_int, wt_long, wt_ref, wt_null, nl_int, nl_long, nl_ref, nl_null, nl_none, rf_n, rf_s, rf_st, tl_s, tl_n, g0, gS, ex1, nb_b, nb_0, nb_1, nf_i, nf_l, nf_ra, nf_ro, nf_na, nf_no, nf_b0, nf_z0, t45_4, t45_5, true_and, and_true, List.set_cons_zero, List.set_cons_succ, List.length_cons, List.length_nil, rd_s, upw_s, ne_eq, not_false_eq_true, Nat.zero_add, Nat.add_zero, if_true, if_false, eq_self, lgz, n12z, n2z, n3z, i00, not_true]
    | split
    | with_reducible intro _
    | omega
set_option maxHeartbeats 4000000 in
theorem cL_17 (hR : RG g) (hb : g.2 b = some (.inl (1, L, .inl xs))) (hL : LW g w x nA cA lA y nM o kn kn th s s) (v1 : vp_in (i + 1) L) (v2 : vp_in (i + 2) L) (v3 : vp_in (i + 3) L) (v4 : vp_in (i + 4) L) (v5 : vp_in (i + 5) L) (hk : k + 114 ≤ 58408) (hn : n + 2834 ≤ 1451408) (next : (∀ (l5' l6' : Option Value) (w' : Hw) (k' n' : Nat) (kn' th' : Int32) (s' : AS), LW g w' x nA cA lA y nM o kn' kn' th' s' s' → k' ≤ k + 114 → n' ≤ n + 2834 → WP (ML_law g) QLaw (2246, [some (.ref b), some (.ref x), some (.ref y), some (.ref o), some (.int i), l5', l6'], [], w', k', n'))) : WP (ML_law g) QLaw (1125, [some (.ref b), some (.ref x), some (.ref y), some (.ref o), some (.int i), l5, l6], [], w, k, n) := by
  repeat' first
    | with_reducible assumption
    | with_reducible refine And.intro ?_ ?_
    | with_reducible refine gi_W hL hb ?_
    | with_reducible refine LW.gx hL (fun _ => trivial)
    | cases Option.some.inj (hTpc2.symm.trans hTqc2); clear hTqc2
    | cases Option.some.inj (hTpc2.symm.trans hFqc2); clear hFqc2
    | cases Option.some.inj (hFpc2.symm.trans hTqc2); clear hTqc2
    | cases Option.some.inj (hFpc2.symm.trans hFqc2); clear hFqc2
    | with_reducible exact absurd (And.intro hSqc0 hSqc1) hXpc0
    | with_reducible exact absurd (And.intro hTqc0 hTqc1) hXpc0
    | with_reducible exact absurd (And.intro hFqc0 hFqc1) hXpc0
    | with_reducible exact absurd (And.intro hSpc0 hSpc1) hXqc0
    | with_reducible exact (nsC hSpc2 hTqc2).elim
    | with_reducible exact (nsC hSpc2 hFqc2).elim
    | with_reducible exact absurd (And.intro hTpc0 hTpc1) hXqc0
    | with_reducible exact (nsC hSqc2 hTpc2).elim
    | with_reducible exact absurd hTpc3 hFqc3
    | with_reducible exact absurd (And.intro hFpc0 hFpc1) hXqc0
    | with_reducible exact (nsC hSqc2 hFpc2).elim
    | with_reducible exact absurd hTqc3 hFpc3
    | with_reducible refine fL_inner hL (fun hXpc0 => ?_) (fun hSpc0 hSpc1 hSpc2 => ?_) (fun hTpc0 hTpc1 hTpr hTpc2 hTpc3 hTpw hTph hTpo => ?_) (fun hFpc0 hFpc1 hFpr hFpc2 hFpc3 hFpw hFph hFpo => ?_)
    | with_reducible refine fX3_inner (LW.ms hFph) (fun hXqc0 hXqw hXqh => ?_) (fun hSqc0 hSqc1 hSqc2 hSqw hSqh => ?_) (fun hTqc0 hTqc1 hTqr hTqc2 hTqc3 hTqw hTqh => ?_) (fun hFqc0 hFqc1 hFqr hFqc2 hFqc3 hFqw hFqh => ?_)
    | with_reducible refine fX3_inner (LW.ms hL) (fun hXqc0 hXqw hXqh => ?_) (fun hSqc0 hSqc1 hSqc2 hSqw hSqh => ?_) (fun hTqc0 hTqc1 hTqr hTqc2 hTqc3 hTqw hTqh => ?_) (fun hFqc0 hFqc1 hFqr hFqc2 hFqc3 hFqw hFqh => ?_)
    | with_reducible refine fX3_inner (LW.ms hTph) (fun hXqc0 hXqw hXqh => ?_) (fun hSqc0 hSqc1 hSqc2 hSqw hSqh => ?_) (fun hTqc0 hTqc1 hTqr hTqc2 hTqc3 hTqw hTqh => ?_) (fun hFqc0 hFqc1 hFqr hFqc2 hFqc3 hFqw hFqh => ?_)
    | with_reducible refine LW.gz hFph (fun _ => trivial)
    | with_reducible refine gi_W hFph hb ?_
    | with_reducible refine LW.gz hL (fun _ => trivial)
    | with_reducible refine gi_W hL hb ?_
    | with_reducible refine LW.gz hTph (fun _ => trivial)
    | with_reducible refine gi_W hTph hb ?_
    | with_reducible exact next _ _ _ _ _ _ _ _ (LW.ofM hL hXqh) (by omega) (by omega)
    | with_reducible exact next _ _ _ _ _ _ _ _ (LW.ofM hL hSqh) (by omega) (by omega)
    | with_reducible exact next _ _ _ _ _ _ _ _ (LW.ofM hL hTqh) (by omega) (by omega)
    | with_reducible exact next _ _ _ _ _ _ _ _ (LW.ofM hL hFqh) (by omega) (by omega)
    | with_reducible exact next _ _ _ _ _ _ _ _ (LW.ofM hTph hXqh) (by omega) (by omega)
    | with_reducible exact next _ _ _ _ _ _ _ _ (LW.ofM hTph hSqh) (by omega) (by omega)
    | with_reducible exact next _ _ _ _ _ _ _ _ (LW.ofM hTph hTqh) (by omega) (by omega)
    | with_reducible exact next _ _ _ _ _ _ _ _ (LW.ofM hTph hFqh) (by omega) (by omega)
    | with_reducible exact next _ _ _ _ _ _ _ _ (LW.ofM hFph hXqh) (by omega) (by omega)
    | with_reducible exact next _ _ _ _ _ _ _ _ (LW.ofM hFph hSqh) (by omega) (by omega)
    | with_reducible exact next _ _ _ _ _ _ _ _ (LW.ofM hFph hTqh) (by omega) (by omega)
    | with_reducible exact next _ _ _ _ _ _ _ _ (LW.ofM hFph hFqh) (by omega) (by omega)
    | simp only [eL_law_1125, eL_law_1125N, eL_law_1126, eL_law_1126N, eL_law_1127, eL_law_1129, eL_law_1130, eL_law_1131, eL_law_1132, eL_law_1132N, eL_law_1133, eL_law_1135, eL_law_1136, eL_law_1137, eL_law_1138, eL_law_1138N, eL_law_1139RR, eL_law_1139NR, eL_law_1139RN, eL_law_1139NN, eL_law_1142, eL_law_1144, eL_law_1144N, eL_law_1145, eL_law_1145N, eL_law_1146, eL_law_1148, eL_law_1149, eL_law_1150, eL_law_1151, eL_law_1151N, eL_law_1152, eL_law_1154, eL_law_1155, eL_law_1156, eL_law_1157, eL_law_1160, eL_law_1162, ite_le, n45, n54, true_or, or_true, false_or, or_false, false_and, and_false, kx_l, kx_r, go_s, gl_s, gi_s, gb_s2, gb_s3, gq_s, wt_nil, wt_int, wt_long, wt_ref, wt_null, nl_int, nl_long, nl_ref, nl_null, nl_none, rf_n, rf_s, rf_st, tl_s, tl_n, g0, gS, ex1, nb_b, nb_0, nb_1, nf_i, nf_l, nf_ra, nf_ro, nf_na, nf_no, nf_b0, nf_z0, t45_4, t45_5, true_and, and_true, List.set_cons_zero, List.set_cons_succ, List.length_cons, List.length_nil, rd_s, upw_s, ne_eq, not_false_eq_true, Nat.zero_add, Nat.add_zero, if_true, if_false, eq_self, lgz, n12z, n2z, n3z, i00, not_true]
    | split
    | with_reducible intro _
    | omega
set_option maxHeartbeats 4000000 in
theorem cL_18 (hR : RG g) (hb : g.2 b = some (.inl (1, L, .inl xs))) (hL : LW g w x nA cA lA y nM o kn kn th s s) (v1 : vp_in (i + 1) L) (v2 : vp_in (i + 2) L) (v3 : vp_in (i + 3) L) (v4 : vp_in (i + 4) L) (v5 : vp_in (i + 5) L) (hk : k + 114 ≤ 58408) (hn : n + 2834 ≤ 1451408) (next : (∀ (l5' l6' : Option Value) (w' : Hw) (k' n' : Nat) (kn' th' : Int32) (s' : AS), LW g w' x nA cA lA y nM o kn' kn' th' s' s' → k' ≤ k + 114 → n' ≤ n + 2834 → WP (ML_law g) QLaw (2246, [some (.ref b), some (.ref x), some (.ref y), some (.ref o), some (.int i), l5', l6'], [], w', k', n'))) : WP (ML_law g) QLaw (1165, [some (.ref b), some (.ref x), some (.ref y), some (.ref o), some (.int i), l5, l6], [], w, k, n) := by
  repeat' first
    | with_reducible assumption
    | with_reducible refine And.intro ?_ ?_
    | with_reducible refine gi_W hL hb ?_
    | with_reducible refine LW.gx hL (fun _ => trivial)
    | cases Option.some.inj (hTpc3.symm.trans hTqc3); clear hTqc3
    | cases Option.some.inj (hTpc4.symm.trans hTqc4); clear hTqc4
    | cases Option.some.inj (hTpc3.symm.trans hFqc3); clear hFqc3
    | cases Option.some.inj (hTpc4.symm.trans hFqc4); clear hFqc4
    | cases Option.some.inj (hFpc3.symm.trans hTqc3); clear hTqc3
    | cases Option.some.inj (hFpc4.symm.trans hTqc4); clear hTqc4
    | cases Option.some.inj (hFpc3.symm.trans hFqc3); clear hFqc3
    | cases Option.some.inj (hFpc4.symm.trans hFqc4); clear hFqc4
    | with_reducible exact absurd (And.intro hSqc0 (And.intro hSqc1 hSqc2)) hXpc0
    | with_reducible exact absurd (And.intro hTqc0 (And.intro hTqc1 hTqc2)) hXpc0
    | with_reducible exact absurd (And.intro hFqc0 (And.intro hFqc1 hFqc2)) hXpc0
    | with_reducible exact absurd (And.intro hSpc0 (And.intro hSpc1 hSpc2)) hXqc0
    | with_reducible exact (hSpc3.elim (fun e => nsC e hTqc3) (fun e => nsC e hTqc4)).elim
    | with_reducible exact (hSpc3.elim (fun e => nsC e hFqc3) (fun e => nsC e hFqc4)).elim
    | with_reducible exact absurd (And.intro hTpc0 (And.intro hTpc1 hTpc2)) hXqc0
    | with_reducible exact (hSqc3.elim (fun e => nsC e hTpc3) (fun e => nsC e hTpc4)).elim
    | with_reducible exact absurd hTpc5 hFqc5
    | with_reducible exact absurd (And.intro hFpc0 (And.intro hFpc1 hFpc2)) hXqc0
    | with_reducible exact (hSqc3.elim (fun e => nsC e hFpc3) (fun e => nsC e hFpc4)).elim
    | with_reducible exact absurd hTqc5 hFpc5
    | with_reducible refine fL_span hL (fun hXpc0 => ?_) (fun hSpc0 hSpc1 hSpc2 hSpc3 => ?_) (fun hTpc0 hTpc1 hTpc2 hTpr hTpq hTpc3 hTpc4 hTpc5 hTpw hTph hTpo => ?_) (fun hFpc0 hFpc1 hFpc2 hFpr hFpq hFpc3 hFpc4 hFpc5 hFpw hFph hFpo => ?_)
    | with_reducible refine fX3_span (LW.ms hFph) (fun hXqc0 hXqw hXqh => ?_) (fun hSqc0 hSqc1 hSqc2 hSqc3 hSqw hSqh => ?_) (fun hTqc0 hTqc1 hTqc2 hTqr hTqq hTqc3 hTqc4 hTqc5 hTqw hTqh => ?_) (fun hFqc0 hFqc1 hFqc2 hFqr hFqq hFqc3 hFqc4 hFqc5 hFqw hFqh => ?_)
    | with_reducible refine fX3_span (LW.ms hL) (fun hXqc0 hXqw hXqh => ?_) (fun hSqc0 hSqc1 hSqc2 hSqc3 hSqw hSqh => ?_) (fun hTqc0 hTqc1 hTqc2 hTqr hTqq hTqc3 hTqc4 hTqc5 hTqw hTqh => ?_) (fun hFqc0 hFqc1 hFqc2 hFqr hFqq hFqc3 hFqc4 hFqc5 hFqw hFqh => ?_)
    | with_reducible refine fX3_span (LW.ms hTph) (fun hXqc0 hXqw hXqh => ?_) (fun hSqc0 hSqc1 hSqc2 hSqc3 hSqw hSqh => ?_) (fun hTqc0 hTqc1 hTqc2 hTqr hTqq hTqc3 hTqc4 hTqc5 hTqw hTqh => ?_) (fun hFqc0 hFqc1 hFqc2 hFqr hFqq hFqc3 hFqc4 hFqc5 hFqw hFqh => ?_)
    | with_reducible refine LW.gz hFph (fun _ => trivial)
    | with_reducible refine gi_W hFph hb ?_
    | with_reducible refine LW.gz hL (fun _ => trivial)
    | with_reducible refine gi_W hL hb ?_
    | with_reducible refine LW.gz hTph (fun _ => trivial)
    | with_reducible refine gi_W hTph hb ?_
    | with_reducible exact next _ _ _ _ _ _ _ _ (LW.ofM hL hXqh) (by omega) (by omega)
    | with_reducible exact next _ _ _ _ _ _ _ _ (LW.ofM hL hSqh) (by omega) (by omega)
    | with_reducible exact next _ _ _ _ _ _ _ _ (LW.ofM hL hTqh) (by omega) (by omega)
    | with_reducible exact next _ _ _ _ _ _ _ _ (LW.ofM hL hFqh) (by omega) (by omega)
    | with_reducible exact next _ _ _ _ _ _ _ _ (LW.ofM hTph hXqh) (by omega) (by omega)
    | with_reducible exact next _ _ _ _ _ _ _ _ (LW.ofM hTph hSqh) (by omega) (by omega)
    | with_reducible exact next _ _ _ _ _ _ _ _ (LW.ofM hTph hTqh) (by omega) (by omega)
    | with_reducible exact next _ _ _ _ _ _ _ _ (LW.ofM hTph hFqh) (by omega) (by omega)
    | with_reducible exact next _ _ _ _ _ _ _ _ (LW.ofM hFph hXqh) (by omega) (by omega)
    | with_reducible exact next _ _ _ _ _ _ _ _ (LW.ofM hFph hSqh) (by omega) (by omega)
    | with_reducible exact next _ _ _ _ _ _ _ _ (LW.ofM hFph hTqh) (by omega) (by omega)
    | with_reducible exact next _ _ _ _ _ _ _ _ (LW.ofM hFph hFqh) (by omega) (by omega)
    | simp only [eL_law_1165, eL_law_1165N, eL_law_1166, eL_law_1166N, eL_law_1167, eL_law_1169, eL_law_1170, eL_law_1171, eL_law_1172, eL_law_1172N, eL_law_1173, eL_law_1175, eL_law_1176, eL_law_1177, eL_law_1178, eL_law_1178N, eL_law_1179, eL_law_1181, eL_law_1182, eL_law_1183, eL_law_1184, eL_law_1184N, eL_law_1185RR, eL_law_1185NR, eL_law_1185RN, eL_law_1185NN, eL_law_1188, eL_law_1190, eL_law_1190N, eL_law_1191, eL_law_1191N, eL_law_1192, eL_law_1194, eL_law_1195, eL_law_1196, eL_law_1197, eL_law_1197N, eL_law_1198, eL_law_1200, eL_law_1201, eL_law_1202, eL_law_1203, eL_law_1203N, eL_law_1204, eL_law_1206, eL_law_1207, eL_law_1208, eL_law_1209, eL_law_1212, eL_law_1214, ite_le, n45, n54, true_or, or_true, false_or, or_false, false_and, and_false, kx_l, kx_r, go_s, gl_s, gi_s, gb_s2, gb_s3, gq_s, wt_nil, wt_int, wt_long, wt_ref, wt_null, nl_int, nl_long, nl_ref, nl_null, nl_none, rf_n, rf_s, rf_st, tl_s, tl_n, g0, gS, ex1, nb_b, nb_0, nb_1, nf_i, nf_l, nf_ra, nf_ro, nf_na, nf_no, nf_b0, nf_z0, t45_4, t45_5, true_and, and_true, List.set_cons_zero, List.set_cons_succ, List.length_cons, List.length_nil, rd_s, upw_s, ne_eq, not_false_eq_true, Nat.zero_add, Nat.add_zero, if_true, if_false, eq_self, lgz, n12z, n2z, n3z, i00, not_true]
    | split
    | with_reducible intro _
    | omega
set_option maxHeartbeats 4000000 in
theorem cL_19 (hR : RG g) (hb : g.2 b = some (.inl (1, L, .inl xs))) (hL : LW g w x nA cA lA y nM o kn kn th s s) (v1 : vp_in (i + 1) L) (v2 : vp_in (i + 2) L) (v3 : vp_in (i + 3) L) (v4 : vp_in (i + 4) L) (v5 : vp_in (i + 5) L) (hk : k + 114 ≤ 58408) (hn : n + 2834 ≤ 1451408) (next : (∀ (l5' l6' : Option Value) (w' : Hw) (k' n' : Nat) (kn' th' : Int32) (s' : AS), LW g w' x nA cA lA y nM o kn' kn' th' s' s' → k' ≤ k + 114 → n' ≤ n + 2834 → WP (ML_law g) QLaw (2246, [some (.ref b), some (.ref x), some (.ref y), some (.ref o), some (.int i), l5', l6'], [], w', k', n'))) : WP (ML_law g) QLaw (1217, [some (.ref b), some (.ref x), some (.ref y), some (.ref o), some (.int i), l5, l6], [], w, k, n) := by
  repeat' first
    | with_reducible assumption
    | with_reducible refine And.intro ?_ ?_
    | with_reducible refine gi_W hL hb ?_
    | with_reducible refine LW.gx hL (fun _ => trivial)
    | cases Option.some.inj (hTpc1.symm.trans hTqc1); clear hTqc1
    | cases Option.some.inj (hTpc1.symm.trans hFqc1); clear hFqc1
    | cases Option.some.inj (hFpc1.symm.trans hTqc1); clear hTqc1
    | cases Option.some.inj (hFpc1.symm.trans hFqc1); clear hFqc1
    | with_reducible exact absurd hSqc0 hXpc0
    | with_reducible exact absurd hTqc0 hXpc0
    | with_reducible exact absurd hFqc0 hXpc0
    | with_reducible exact absurd hSpc0 hXqc0
    | with_reducible exact (nsC hSpc1 hTqc1).elim
    | with_reducible exact (nsC hSpc1 hFqc1).elim
    | with_reducible exact absurd hTpc0 hXqc0
    | with_reducible exact (nsC hSqc1 hTpc1).elim
    | with_reducible exact absurd hTpc2 hFqc2
    | with_reducible exact absurd hFpc0 hXqc0
    | with_reducible exact (nsC hSqc1 hFpc1).elim
    | with_reducible exact absurd hTqc2 hFpc2
    | with_reducible refine fL_shift hL (fun hXpc0 => ?_) (fun hSpc0 hSpc1 => ?_) (fun hTpc0 hTpr hTpc1 hTpc2 hTpw hTph hTpo => ?_) (fun hFpc0 hFpr hFpc1 hFpc2 hFpw hFph hFpo => ?_)
    | with_reducible refine fX3_shift (LW.ms hFph) (fun hXqc0 hXqw hXqh => ?_) (fun hSqc0 hSqc1 hSqw hSqh => ?_) (fun hTqc0 hTqr hTqc1 hTqc2 hTqw hTqh => ?_) (fun hFqc0 hFqr hFqc1 hFqc2 hFqw hFqh => ?_)
    | with_reducible refine fX3_shift (LW.ms hL) (fun hXqc0 hXqw hXqh => ?_) (fun hSqc0 hSqc1 hSqw hSqh => ?_) (fun hTqc0 hTqr hTqc1 hTqc2 hTqw hTqh => ?_) (fun hFqc0 hFqr hFqc1 hFqc2 hFqw hFqh => ?_)
    | with_reducible refine fX3_shift (LW.ms hTph) (fun hXqc0 hXqw hXqh => ?_) (fun hSqc0 hSqc1 hSqw hSqh => ?_) (fun hTqc0 hTqr hTqc1 hTqc2 hTqw hTqh => ?_) (fun hFqc0 hFqr hFqc1 hFqc2 hFqw hFqh => ?_)
    | with_reducible refine LW.gz hFph (fun _ => trivial)
    | with_reducible refine gi_W hFph hb ?_
    | with_reducible refine LW.gz hL (fun _ => trivial)
    | with_reducible refine gi_W hL hb ?_
    | with_reducible refine LW.gz hTph (fun _ => trivial)
    | with_reducible refine gi_W hTph hb ?_
    | with_reducible exact next _ _ _ _ _ _ _ _ (LW.ofM hL hXqh) (by omega) (by omega)
    | with_reducible exact next _ _ _ _ _ _ _ _ (LW.ofM hL hSqh) (by omega) (by omega)
    | with_reducible exact next _ _ _ _ _ _ _ _ (LW.ofM hL hTqh) (by omega) (by omega)
    | with_reducible exact next _ _ _ _ _ _ _ _ (LW.ofM hL hFqh) (by omega) (by omega)
    | with_reducible exact next _ _ _ _ _ _ _ _ (LW.ofM hTph hXqh) (by omega) (by omega)
    | with_reducible exact next _ _ _ _ _ _ _ _ (LW.ofM hTph hSqh) (by omega) (by omega)
    | with_reducible exact next _ _ _ _ _ _ _ _ (LW.ofM hTph hTqh) (by omega) (by omega)
    | with_reducible exact next _ _ _ _ _ _ _ _ (LW.ofM hTph hFqh) (by omega) (by omega)
    | with_reducible exact next _ _ _ _ _ _ _ _ (LW.ofM hFph hXqh) (by omega) (by omega)
    | with_reducible exact next _ _ _ _ _ _ _ _ (LW.ofM hFph hSqh) (by omega) (by omega)
    | with_reducible exact next _ _ _ _ _ _ _ _ (LW.ofM hFph hTqh) (by omega) (by omega)
    | with_reducible exact next _ _ _ _ _ _ _ _ (LW.ofM hFph hFqh) (by omega) (by omega)
    | simp only [eL_law_1217, eL_law_1217N, eL_law_1218, eL_law_1218N, eL_law_1219, eL_law_1221, eL_law_1222, eL_law_1223, eL_law_1224, eL_law_1224N, eL_law_1225, eL_law_1227, eL_law_1228, eL_law_1229, eL_law_1230, eL_law_1230N, eL_law_1231RR, eL_law_1231NR, eL_law_1231RN, eL_law_1231NN, eL_law_1234, eL_law_1236, eL_law_1236N, eL_law_1237, eL_law_1237N, eL_law_1238, eL_law_1240, eL_law_1241, eL_law_1242, eL_law_1243, eL_law_1243N, eL_law_1244, eL_law_1246, eL_law_1247, eL_law_1248, eL_law_1249, eL_law_1252, eL_law_1254, ite_le, n45, n54, true_or, or_true, false_or, or_false, false_and, and_false, kx_l, kx_r, go_s, gl_s, gi_s, gb_s2, gb_s3, gq_s, wt_nil, wt_int, wt_long, wt_ref, wt_null, nl_int, nl_long, nl_ref, nl_null, nl_none, rf_n, rf_s, rf_st, tl_s, tl_n, g0, gS, ex1, nb_b, nb_0, nb_1, nf_i, nf_l, nf_ra, nf_ro, nf_na, nf_no, nf_b0, nf_z0, t45_4, t45_5, true_and, and_true, List.set_cons_zero, List.set_cons_succ, List.length_cons, List.length_nil, rd_s, upw_s, ne_eq, not_false_eq_true, Nat.zero_add, Nat.add_zero, if_true, if_false, eq_self, lgz, n12z, n2z, n3z, i00, not_true]
    | split
    | with_reducible intro _
    | omega
set_option maxHeartbeats 4000000 in
theorem cL_20 (hR : RG g) (hb : g.2 b = some (.inl (1, L, .inl xs))) (hL : LW g w x nA cA lA y nM o kn kn th s s) (v1 : vp_in (i + 1) L) (v2 : vp_in (i + 2) L) (v3 : vp_in (i + 3) L) (v4 : vp_in (i + 4) L) (v5 : vp_in (i + 5) L) (hk : k + 114 ≤ 58408) (hn : n + 2834 ≤ 1451408) (next : (∀ (l5' l6' : Option Value) (w' : Hw) (k' n' : Nat) (kn' th' : Int32) (s' : AS), LW g w' x nA cA lA y nM o kn' kn' th' s' s' → k' ≤ k + 114 → n' ≤ n + 2834 → WP (ML_law g) QLaw (2246, [some (.ref b), some (.ref x), some (.ref y), some (.ref o), some (.int i), l5', l6'], [], w', k', n'))) : WP (ML_law g) QLaw (1257, [some (.ref b), some (.ref x), some (.ref y), some (.ref o), some (.int i), l5, l6], [], w, k, n) := by
  repeat' first
    | with_reducible assumption
    | with_reducible refine And.intro ?_ ?_
    | with_reducible refine gi_W hL hb ?_
    | with_reducible refine LW.gx hL (fun _ => trivial)
    | cases Option.some.inj (hSpc1.symm.trans hSqc1); clear hSqc1
    | with_reducible exact absurd hNqc0 hXpc0
    | with_reducible exact absurd hSqc0 hXpc0
    | with_reducible exact absurd hNpc0 hXqc0
    | with_reducible exact (nsC hNpc1 hSqc1).elim
    | with_reducible exact absurd hSpc0 hXqc0
    | with_reducible exact (nsC hNqc1 hSpc1).elim
    | with_reducible refine fL_drop hL (fun hXpc0 => ?_) (fun hNpc0 hNpc1 hNpw hNph hNpo => ?_) (fun hSpc0 hSpr hSpc1 hSpw hSph hSpo => ?_)
    | with_reducible refine fX3_drop (LW.ms hL) (fun hXqc0 hXqw hXqh => ?_) (fun hNqc0 hNqc1 hNqw hNqh => ?_) (fun hSqc0 hSqr hSqc1 hSqw hSqh => ?_)
    | with_reducible refine fX3_drop (LW.ms hNph) (fun hXqc0 hXqw hXqh => ?_) (fun hNqc0 hNqc1 hNqw hNqh => ?_) (fun hSqc0 hSqr hSqc1 hSqw hSqh => ?_)
    | with_reducible refine fX3_drop (LW.ms hSph) (fun hXqc0 hXqw hXqh => ?_) (fun hNqc0 hNqc1 hNqw hNqh => ?_) (fun hSqc0 hSqr hSqc1 hSqw hSqh => ?_)
    | with_reducible refine LW.gz hL (fun _ => trivial)
    | with_reducible refine gi_W hL hb ?_
    | with_reducible refine LW.gz hNph (fun _ => trivial)
    | with_reducible refine gi_W hNph hb ?_
    | with_reducible refine LW.gz hSph (fun _ => trivial)
    | with_reducible refine gi_W hSph hb ?_
    | with_reducible exact next _ _ _ _ _ _ _ _ (LW.ofM hL hXqh) (by omega) (by omega)
    | with_reducible exact next _ _ _ _ _ _ _ _ (LW.ofM hL hNqh) (by omega) (by omega)
    | with_reducible exact next _ _ _ _ _ _ _ _ (LW.ofM hL hSqh) (by omega) (by omega)
    | with_reducible exact next _ _ _ _ _ _ _ _ (LW.ofM hNph hXqh) (by omega) (by omega)
    | with_reducible exact next _ _ _ _ _ _ _ _ (LW.ofM hNph hNqh) (by omega) (by omega)
    | with_reducible exact next _ _ _ _ _ _ _ _ (LW.ofM hNph hSqh) (by omega) (by omega)
    | with_reducible exact next _ _ _ _ _ _ _ _ (LW.ofM hSph hXqh) (by omega) (by omega)
    | with_reducible exact next _ _ _ _ _ _ _ _ (LW.ofM hSph hNqh) (by omega) (by omega)
    | with_reducible exact next _ _ _ _ _ _ _ _ (LW.ofM hSph hSqh) (by omega) (by omega)
    | simp only [eL_law_1257, eL_law_1257N, eL_law_1258, eL_law_1258N, eL_law_1259, eL_law_1261, eL_law_1262, eL_law_1263, eL_law_1264, eL_law_1264N, eL_law_1265RR, eL_law_1265NR, eL_law_1265RN, eL_law_1265NN, eL_law_1268, eL_law_1270, eL_law_1270N, eL_law_1271, eL_law_1271N, eL_law_1272, eL_law_1274, eL_law_1275, eL_law_1276, eL_law_1277, eL_law_1280, eL_law_1282, ite_le, n45, n54, true_or, or_true, false_or, or_false, false_and, and_false, kx_l, kx_r, go_s, gl_s, gi_s, gb_s2, gb_s3, gq_s, wt_nil, wt_int, wt_long, wt_ref, wt_null, nl_int, nl_long, nl_ref, nl_null, nl_none, rf_n, rf_s, rf_st, tl_s, tl_n, g0, gS, ex1, nb_b, nb_0, nb_1, nf_i, nf_l, nf_ra, nf_ro, nf_na, nf_no, nf_b0, nf_z0, t45_4, t45_5, true_and, and_true, List.set_cons_zero, List.set_cons_succ, List.length_cons, List.length_nil, rd_s, upw_s, ne_eq, not_false_eq_true, Nat.zero_add, Nat.add_zero, if_true, if_false, eq_self, lgz, n12z, n2z, n3z, i00, not_true]
    | split
    | with_reducible intro _
    | omega
set_option maxHeartbeats 4000000 in
theorem cL_21 (hR : RG g) (hb : g.2 b = some (.inl (1, L, .inl xs))) (hL : LW g w x nA cA lA y nM o kn kn th s s) (v1 : vp_in (i + 1) L) (v2 : vp_in (i + 2) L) (v3 : vp_in (i + 3) L) (v4 : vp_in (i + 4) L) (v5 : vp_in (i + 5) L) (hk : k + 114 ≤ 58408) (hn : n + 2834 ≤ 1451408) (next : (∀ (l5' l6' : Option Value) (w' : Hw) (k' n' : Nat) (kn' th' : Int32) (s' : AS), LW g w' x nA cA lA y nM o kn' kn' th' s' s' → k' ≤ k + 114 → n' ≤ n + 2834 → WP (ML_law g) QLaw (2246, [some (.ref b), some (.ref x), some (.ref y), some (.ref o), some (.int i), l5', l6'], [], w', k', n'))) : WP (ML_law g) QLaw (1285, [some (.ref b), some (.ref x), some (.ref y), some (.ref o), some (.int i), l5, l6], [], w, k, n) := by
  repeat' first
    | with_reducible assumption
    | with_reducible refine And.intro ?_ ?_
    | with_reducible refine gi_W hL hb ?_
    | with_reducible refine LW.gx hL (fun _ => trivial)
    | cases Option.some.inj (hTpc1.symm.trans hTqc1); clear hTqc1
    | with_reducible exact absurd hFqc0 hXpc0
    | with_reducible exact absurd hTqc0 hXpc0
    | with_reducible exact absurd hFpc0 hXqc0
    | with_reducible exact (nsC hFpc1 hTqc1).elim
    | with_reducible exact absurd hTpc0 hXqc0
    | with_reducible exact (nsC hFqc1 hTpc1).elim
    | with_reducible refine fL_isThere hL (fun hXpc0 => ?_) (fun hFpc0 hFpc1 hFpw hFph hFpo => ?_) (fun hTpc0 hTpr hTpc1 hTpw hTph hTpo => ?_)
    | with_reducible refine fX3_isThere (LW.ms hFph) (fun hXqc0 hXqw hXqh => ?_) (fun hFqc0 hFqc1 hFqw hFqh => ?_) (fun hTqc0 hTqr hTqc1 hTqw hTqh => ?_)
    | with_reducible refine fX3_isThere (LW.ms hL) (fun hXqc0 hXqw hXqh => ?_) (fun hFqc0 hFqc1 hFqw hFqh => ?_) (fun hTqc0 hTqr hTqc1 hTqw hTqh => ?_)
    | with_reducible refine fX3_isThere (LW.ms hTph) (fun hXqc0 hXqw hXqh => ?_) (fun hFqc0 hFqc1 hFqw hFqh => ?_) (fun hTqc0 hTqr hTqc1 hTqw hTqh => ?_)
    | with_reducible refine LW.gz hFph (fun _ => trivial)
    | with_reducible refine gi_W hFph hb ?_
    | with_reducible refine LW.gz hL (fun _ => trivial)
    | with_reducible refine gi_W hL hb ?_
    | with_reducible refine LW.gz hTph (fun _ => trivial)
    | with_reducible refine gi_W hTph hb ?_
    | with_reducible exact next _ _ _ _ _ _ _ _ (LW.ofM hL hXqh) (by omega) (by omega)
    | with_reducible exact next _ _ _ _ _ _ _ _ (LW.ofM hL hFqh) (by omega) (by omega)
    | with_reducible exact next _ _ _ _ _ _ _ _ (LW.ofM hL hTqh) (by omega) (by omega)
    | with_reducible exact next _ _ _ _ _ _ _ _ (LW.ofM hFph hXqh) (by omega) (by omega)
    | with_reducible exact next _ _ _ _ _ _ _ _ (LW.ofM hFph hFqh) (by omega) (by omega)
    | with_reducible exact next _ _ _ _ _ _ _ _ (LW.ofM hFph hTqh) (by omega) (by omega)
    | with_reducible exact next _ _ _ _ _ _ _ _ (LW.ofM hTph hXqh) (by omega) (by omega)
    | with_reducible exact next _ _ _ _ _ _ _ _ (LW.ofM hTph hFqh) (by omega) (by omega)
    | with_reducible exact next _ _ _ _ _ _ _ _ (LW.ofM hTph hTqh) (by omega) (by omega)
    | simp only [eL_law_1285, eL_law_1285N, eL_law_1286, eL_law_1286N, eL_law_1287, eL_law_1289, eL_law_1290, eL_law_1291, eL_law_1292, eL_law_1292N, eL_law_1293RR, eL_law_1293NR, eL_law_1293RN, eL_law_1293NN, eL_law_1296, eL_law_1298, eL_law_1298N, eL_law_1299, eL_law_1299N, eL_law_1300, eL_law_1302, eL_law_1303, eL_law_1304, eL_law_1305, eL_law_1308, eL_law_1310, ite_le, n45, n54, true_or, or_true, false_or, or_false, false_and, and_false, kx_l, kx_r, go_s, gl_s, gi_s, gb_s2, gb_s3, gq_s, wt_nil, wt_int, wt_long, wt_ref, wt_null, nl_int, nl_long, nl_ref, nl_null, nl_none, rf_n, rf_s, rf_st, tl_s, tl_n, g0, gS, ex1, nb_b, nb_0, nb_1, nf_i, nf_l, nf_ra, nf_ro, nf_na, nf_no, nf_b0, nf_z0, t45_4, t45_5, true_and, and_true, List.set_cons_zero, List.set_cons_succ, List.length_cons, List.length_nil, rd_s, upw_s, ne_eq, not_false_eq_true, Nat.zero_add, Nat.add_zero, if_true, if_false, eq_self, lgz, n12z, n2z, n3z, i00, not_true]
    | split
    | with_reducible intro _
    | omega
set_option maxHeartbeats 4000000 in
theorem cL_22 (hR : RG g) (hb : g.2 b = some (.inl (1, L, .inl xs))) (hL : LW g w x nA cA lA y nM o kn kn th s s) (v1 : vp_in (i + 1) L) (v2 : vp_in (i + 2) L) (v3 : vp_in (i + 3) L) (v4 : vp_in (i + 4) L) (v5 : vp_in (i + 5) L) (hk : k + 114 ≤ 58408) (hn : n + 2834 ≤ 1451408) (next : (∀ (l5' l6' : Option Value) (w' : Hw) (k' n' : Nat) (kn' th' : Int32) (s' : AS), LW g w' x nA cA lA y nM o kn' kn' th' s' s' → k' ≤ k + 114 → n' ≤ n + 2834 → WP (ML_law g) QLaw (2246, [some (.ref b), some (.ref x), some (.ref y), some (.ref o), some (.int i), l5', l6'], [], w', k', n'))) : WP (ML_law g) QLaw (1313, [some (.ref b), some (.ref x), some (.ref y), some (.ref o), some (.int i), l5, l6], [], w, k, n) := by
  repeat' first
    | with_reducible assumption
    | with_reducible refine And.intro ?_ ?_
    | with_reducible refine gi_W hL hb ?_
    | with_reducible refine LW.gx hL (fun _ => trivial)
    | cases Option.some.inj (hTpc1.symm.trans hTqc1); clear hTqc1
    | cases Option.some.inj (hTpc1.symm.trans hFqc1); clear hFqc1
    | cases Option.some.inj (hFpc1.symm.trans hTqc1); clear hTqc1
    | cases Option.some.inj (hFpc1.symm.trans hFqc1); clear hFqc1
    | with_reducible exact absurd hSqc0 hXpc0
    | with_reducible exact absurd hTqc0 hXpc0
    | with_reducible exact absurd hFqc0 hXpc0
    | with_reducible exact absurd hSpc0 hXqc0
    | with_reducible exact (nsC hSpc1 hTqc1).elim
    | with_reducible exact (nsC hSpc1 hFqc1).elim
    | with_reducible exact absurd hTpc0 hXqc0
    | with_reducible exact (nsC hSqc1 hTpc1).elim
    | with_reducible exact absurd hTpc2 hFqc2
    | with_reducible exact absurd hFpc0 hXqc0
    | with_reducible exact (nsC hSqc1 hFpc1).elim
    | with_reducible exact absurd hTqc2 hFpc2
    | with_reducible refine fL_isFixed hL (fun hXpc0 => ?_) (fun hSpc0 hSpc1 => ?_) (fun hTpc0 hTpr hTpc1 hTpc2 hTpw hTph hTpo => ?_) (fun hFpc0 hFpr hFpc1 hFpc2 hFpw hFph hFpo => ?_)
    | with_reducible refine fX3_isFixed (LW.ms hFph) (fun hXqc0 hXqw hXqh => ?_) (fun hSqc0 hSqc1 hSqw hSqh => ?_) (fun hTqc0 hTqr hTqc1 hTqc2 hTqw hTqh => ?_) (fun hFqc0 hFqr hFqc1 hFqc2 hFqw hFqh => ?_)
    | with_reducible refine fX3_isFixed (LW.ms hL) (fun hXqc0 hXqw hXqh => ?_) (fun hSqc0 hSqc1 hSqw hSqh => ?_) (fun hTqc0 hTqr hTqc1 hTqc2 hTqw hTqh => ?_) (fun hFqc0 hFqr hFqc1 hFqc2 hFqw hFqh => ?_)
    | with_reducible refine fX3_isFixed (LW.ms hTph) (fun hXqc0 hXqw hXqh => ?_) (fun hSqc0 hSqc1 hSqw hSqh => ?_) (fun hTqc0 hTqr hTqc1 hTqc2 hTqw hTqh => ?_) (fun hFqc0 hFqr hFqc1 hFqc2 hFqw hFqh => ?_)
    | with_reducible refine LW.gz hFph (fun _ => trivial)
    | with_reducible refine gi_W hFph hb ?_
    | with_reducible refine LW.gz hL (fun _ => trivial)
    | with_reducible refine gi_W hL hb ?_
    | with_reducible refine LW.gz hTph (fun _ => trivial)
    | with_reducible refine gi_W hTph hb ?_
    | with_reducible exact next _ _ _ _ _ _ _ _ (LW.ofM hL hXqh) (by omega) (by omega)
    | with_reducible exact next _ _ _ _ _ _ _ _ (LW.ofM hL hSqh) (by omega) (by omega)
    | with_reducible exact next _ _ _ _ _ _ _ _ (LW.ofM hL hTqh) (by omega) (by omega)
    | with_reducible exact next _ _ _ _ _ _ _ _ (LW.ofM hL hFqh) (by omega) (by omega)
    | with_reducible exact next _ _ _ _ _ _ _ _ (LW.ofM hTph hXqh) (by omega) (by omega)
    | with_reducible exact next _ _ _ _ _ _ _ _ (LW.ofM hTph hSqh) (by omega) (by omega)
    | with_reducible exact next _ _ _ _ _ _ _ _ (LW.ofM hTph hTqh) (by omega) (by omega)
    | with_reducible exact next _ _ _ _ _ _ _ _ (LW.ofM hTph hFqh) (by omega) (by omega)
    | with_reducible exact next _ _ _ _ _ _ _ _ (LW.ofM hFph hXqh) (by omega) (by omega)
    | with_reducible exact next _ _ _ _ _ _ _ _ (LW.ofM hFph hSqh) (by omega) (by omega)
    | with_reducible exact next _ _ _ _ _ _ _ _ (LW.ofM hFph hTqh) (by omega) (by omega)
    | with_reducible exact next _ _ _ _ _ _ _ _ (LW.ofM hFph hFqh) (by omega) (by omega)
    | simp only [eL_law_1313, eL_law_1313N, eL_law_1314, eL_law_1314N, eL_law_1315, eL_law_1317, eL_law_1318, eL_law_1319, eL_law_1320, eL_law_1320N, eL_law_1321RR, eL_law_1321NR, eL_law_1321RN, eL_law_1321NN, eL_law_1324, eL_law_1326, eL_law_1326N, eL_law_1327, eL_law_1327N, eL_law_1328, eL_law_1330, eL_law_1331, eL_law_1332, eL_law_1333, eL_law_1336, eL_law_1338, ite_le, n45, n54, true_or, or_true, false_or, or_false, false_and, and_false, kx_l, kx_r, go_s, gl_s, gi_s, gb_s2, gb_s3, gq_s, wt_nil, wt_int, wt_long, wt_ref, wt_null, nl_int, nl_long, nl_ref, nl_null, nl_none, rf_n, rf_s, rf_st, tl_s, tl_n, g0, gS, ex1, nb_b, nb_0, nb_1, nf_i, nf_l, nf_ra, nf_ro, nf_na, nf_no, nf_b0, nf_z0, t45_4, t45_5, true_and, and_true, List.set_cons_zero, List.set_cons_succ, List.length_cons, List.length_nil, rd_s, upw_s, ne_eq, not_false_eq_true, Nat.zero_add, Nat.add_zero, if_true, if_false, eq_self, lgz, n12z, n2z, n3z, i00, not_true]
    | split
    | with_reducible intro _
    | omega
set_option maxHeartbeats 4000000 in
theorem cL_23 (hR : RG g) (hb : g.2 b = some (.inl (1, L, .inl xs))) (hL : LW g w x nA cA lA y nM o kn kn th s s) (v1 : vp_in (i + 1) L) (v2 : vp_in (i + 2) L) (v3 : vp_in (i + 3) L) (v4 : vp_in (i + 4) L) (v5 : vp_in (i + 5) L) (hk : k + 114 ≤ 58408) (hn : n + 2834 ≤ 1451408) (next : (∀ (l5' l6' : Option Value) (w' : Hw) (k' n' : Nat) (kn' th' : Int32) (s' : AS), LW g w' x nA cA lA y nM o kn' kn' th' s' s' → k' ≤ k + 114 → n' ≤ n + 2834 → WP (ML_law g) QLaw (2246, [some (.ref b), some (.ref x), some (.ref y), some (.ref o), some (.int i), l5', l6'], [], w', k', n'))) : WP (ML_law g) QLaw (1341, [some (.ref b), some (.ref x), some (.ref y), some (.ref o), some (.int i), l5, l6], [], w, k, n) := by
  repeat' first
    | with_reducible assumption
    | with_reducible refine And.intro ?_ ?_
    | with_reducible refine gi_W hL hb ?_
    | with_reducible refine LW.gx hL (fun _ => trivial)
    | cases Option.some.inj (hTpc1.symm.trans hTqc1); clear hTqc1
    | cases Option.some.inj (hTpc1.symm.trans hFqc1); clear hFqc1
    | cases Option.some.inj (hFpc1.symm.trans hTqc1); clear hTqc1
    | cases Option.some.inj (hFpc1.symm.trans hFqc1); clear hFqc1
    | with_reducible exact absurd hSqc0 hXpc0
    | with_reducible exact absurd hTqc0 hXpc0
    | with_reducible exact absurd hFqc0 hXpc0
    | with_reducible exact absurd hSpc0 hXqc0
    | with_reducible exact (nsC hSpc1 hTqc1).elim
    | with_reducible exact (nsC hSpc1 hFqc1).elim
    | with_reducible exact absurd hTpc0 hXqc0
    | with_reducible exact (nsC hSqc1 hTpc1).elim
    | with_reducible exact absurd hTpc2 hFqc2
    | with_reducible exact absurd hFpc0 hXqc0
    | with_reducible exact (nsC hSqc1 hFpc1).elim
    | with_reducible exact absurd hTqc2 hFpc2
    | with_reducible refine fL_isSmall hL (fun hXpc0 => ?_) (fun hSpc0 hSpc1 => ?_) (fun hTpc0 hTpr hTpc1 hTpc2 hTpw hTph hTpo => ?_) (fun hFpc0 hFpr hFpc1 hFpc2 hFpw hFph hFpo => ?_)
    | with_reducible refine fX3_isSmall (LW.ms hFph) (fun hXqc0 hXqw hXqh => ?_) (fun hSqc0 hSqc1 hSqw hSqh => ?_) (fun hTqc0 hTqr hTqc1 hTqc2 hTqw hTqh => ?_) (fun hFqc0 hFqr hFqc1 hFqc2 hFqw hFqh => ?_)
    | with_reducible refine fX3_isSmall (LW.ms hL) (fun hXqc0 hXqw hXqh => ?_) (fun hSqc0 hSqc1 hSqw hSqh => ?_) (fun hTqc0 hTqr hTqc1 hTqc2 hTqw hTqh => ?_) (fun hFqc0 hFqr hFqc1 hFqc2 hFqw hFqh => ?_)
    | with_reducible refine fX3_isSmall (LW.ms hTph) (fun hXqc0 hXqw hXqh => ?_) (fun hSqc0 hSqc1 hSqw hSqh => ?_) (fun hTqc0 hTqr hTqc1 hTqc2 hTqw hTqh => ?_) (fun hFqc0 hFqr hFqc1 hFqc2 hFqw hFqh => ?_)
    | with_reducible refine LW.gz hFph (fun _ => trivial)
    | with_reducible refine gi_W hFph hb ?_
    | with_reducible refine LW.gz hL (fun _ => trivial)
    | with_reducible refine gi_W hL hb ?_
    | with_reducible refine LW.gz hTph (fun _ => trivial)
    | with_reducible refine gi_W hTph hb ?_
    | with_reducible exact next _ _ _ _ _ _ _ _ (LW.ofM hL hXqh) (by omega) (by omega)
    | with_reducible exact next _ _ _ _ _ _ _ _ (LW.ofM hL hSqh) (by omega) (by omega)
    | with_reducible exact next _ _ _ _ _ _ _ _ (LW.ofM hL hTqh) (by omega) (by omega)
    | with_reducible exact next _ _ _ _ _ _ _ _ (LW.ofM hL hFqh) (by omega) (by omega)
    | with_reducible exact next _ _ _ _ _ _ _ _ (LW.ofM hTph hXqh) (by omega) (by omega)
    | with_reducible exact next _ _ _ _ _ _ _ _ (LW.ofM hTph hSqh) (by omega) (by omega)
    | with_reducible exact next _ _ _ _ _ _ _ _ (LW.ofM hTph hTqh) (by omega) (by omega)
    | with_reducible exact next _ _ _ _ _ _ _ _ (LW.ofM hTph hFqh) (by omega) (by omega)
    | with_reducible exact next _ _ _ _ _ _ _ _ (LW.ofM hFph hXqh) (by omega) (by omega)
    | with_reducible exact next _ _ _ _ _ _ _ _ (LW.ofM hFph hSqh) (by omega) (by omega)
    | with_reducible exact next _ _ _ _ _ _ _ _ (LW.ofM hFph hTqh) (by omega) (by omega)
    | with_reducible exact next _ _ _ _ _ _ _ _ (LW.ofM hFph hFqh) (by omega) (by omega)
    | simp only [eL_law_1341, eL_law_1341N, eL_law_1342, eL_law_1342N, eL_law_1343, eL_law_1345, eL_law_1346, eL_law_1347, eL_law_1348, eL_law_1348N, eL_law_1349RR, eL_law_1349NR, eL_law_1349RN, eL_law_1349NN, eL_law_1352, eL_law_1354, eL_law_1354N, eL_law_1355, eL_law_1355N, eL_law_1356, eL_law_1358, eL_law_1359, eL_law_1360, eL_law_1361, eL_law_1364, eL_law_1366, ite_le, n45, n54, true_or, or_true, false_or, or_false, false_and, and_false, kx_l, kx_r, go_s, gl_s, gi_s, gb_s2, gb_s3, gq_s, wt_nil, wt_int, wt_long, wt_ref, wt_null, nl_int, nl_long, nl_ref, nl_null, nl_none, rf_n, rf_s, rf_st, tl_s, tl_n, g0, gS, ex1, nb_b, nb_0, nb_1, nf_i, nf_l, nf_ra, nf_ro, nf_na, nf_no, nf_b0, nf_z0, t45_4, t45_5, true_and, and_true, List.set_cons_zero, List.set_cons_succ, List.length_cons, List.length_nil, rd_s, upw_s, ne_eq, not_false_eq_true, Nat.zero_add, Nat.add_zero, if_true, if_false, eq_self, lgz, n12z, n2z, n3z, i00, not_true]
    | split
    | with_reducible intro _
    | omega
end
