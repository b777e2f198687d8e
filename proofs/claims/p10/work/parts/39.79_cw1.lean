section
section
variable {g : RO} {w : Hw} {x nA cA lA y nM o b L k n : Nat} {xs : Nat → Int32} {i kn th : Int32} {s : AS} {l5 l6 : Option Value}
set_option maxHeartbeats 4000000 in
theorem cL_12 (hR : RG g) (hb : g.2 b = some (.inl (1, L, .inl xs))) (hL : LW g w x nA cA lA y nM o kn kn th s s) (v1 : vp_in (i + 1) L) (v2 : vp_in (i + 2) L) (v3 : vp_in (i + 3) L) (v4 : vp_in (i + 4) L) (v5 : vp_in (i + 5) L) (hk : k + 114 ≤ 58408) (hn : n + 2834 ≤ 1451408) (next : (∀ (l5' l6' : Option Value) (w' : Hw) (k' n' : Nat) (kn' th' : Int32) (s' : AS), LW g w' x nA cA lA y nM o kn' kn' th' s' s' → k' ≤ k + 114 → n' ≤ n + 2834 → WP (ML_law g) QLaw (2246, [some (.ref b), some (.ref x), some (.ref y), some (.ref o), some (.int i), l5', l6'], [], w', k', n'))) : WP (ML_law g) QLaw (865, [some (.ref b), some (.ref x), some (.ref y), some (.ref o), some (.int i), l5, l6], [], w, k, n) := by
  simp only [eL_law_865, eL_law_870, eL_law_872, eL_law_878, eL_law_884, eL_law_890, wt_nil]
  with_reducible refine gi_W hL hb ?_
  with_reducible refine And.intro ?_ ?_
  with_reducible assumption
  with_reducible refine gi_W hL hb ?_
  with_reducible refine And.intro ?_ ?_
  with_reducible assumption
  with_reducible refine gi_W hL hb ?_
  with_reducible refine And.intro ?_ ?_
  with_reducible assumption
  with_reducible refine gi_W hL hb ?_
  with_reducible refine And.intro ?_ ?_
  with_reducible assumption
  with_reducible refine And.intro ?_ ?_
  omega
  with_reducible refine And.intro ?_ ?_
  omega
  with_reducible refine And.intro ?_ ?_
  omega
  with_reducible refine fL_threeSmall hL (fun hXpc0 => ?_) (fun hTpc0 hTpc1 hTpw hTph hTpo => ?_) (fun hFpc0 hFpc1 hFpw hFph hFpo => ?_)
  simp only [eL_law_894, eL_law_898, eL_law_903, eL_law_909, eL_law_915, eL_law_921, kx_l, wt_nil, nl_int, tl_s]
  with_reducible refine gi_W hL hb ?_
  with_reducible refine And.intro ?_ ?_
  with_reducible assumption
  with_reducible refine gi_W hL hb ?_
  with_reducible refine And.intro ?_ ?_
  with_reducible assumption
  with_reducible refine gi_W hL hb ?_
  with_reducible refine And.intro ?_ ?_
  with_reducible assumption
  with_reducible refine gi_W hL hb ?_
  with_reducible refine And.intro ?_ ?_
  with_reducible assumption
  with_reducible refine And.intro ?_ ?_
  with_reducible refine LW.gz hL (fun _ => trivial)
  with_reducible refine And.intro ?_ ?_
  omega
  with_reducible refine And.intro ?_ ?_
  omega
  with_reducible refine And.intro ?_ ?_
  omega
  with_reducible refine fX3_threeSmall (LW.ms hL) (fun hXqc0 hXqw hXqh => ?_) (fun hTqc0 hTqc1 hTqw hTqh => ?_) (fun hFqc0 hFqc1 hFqw hFqh => ?_)
  simp only [eL_law_924, kx_l, nl_int, tl_s]
  with_reducible exact next _ _ _ _ _ _ _ _ (LW.ofM hL hXqh) (by omega) (by omega)
  with_reducible exact absurd hTqc0 hXpc0
  with_reducible exact absurd hFqc0 hXpc0
  simp only [eL_law_894, eL_law_898, eL_law_903, eL_law_909, eL_law_915, eL_law_921, kx_l, wt_nil, nl_int, tl_s]
  with_reducible refine gi_W hTph hb ?_
  with_reducible refine And.intro ?_ ?_
  with_reducible assumption
  with_reducible refine gi_W hTph hb ?_
  with_reducible refine And.intro ?_ ?_
  with_reducible assumption
  with_reducible refine gi_W hTph hb ?_
  with_reducible refine And.intro ?_ ?_
  with_reducible assumption
  with_reducible refine gi_W hTph hb ?_
  with_reducible refine And.intro ?_ ?_
  with_reducible assumption
  with_reducible refine And.intro ?_ ?_
  with_reducible refine LW.gz hTph (fun _ => trivial)
  with_reducible refine And.intro ?_ ?_
  omega
  with_reducible refine And.intro ?_ ?_
  omega
  with_reducible refine And.intro ?_ ?_
  omega
  with_reducible refine fX3_threeSmall (LW.ms hTph) (fun hXqc0 hXqw hXqh => ?_) (fun hTqc0 hTqc1 hTqw hTqh => ?_) (fun hFqc0 hFqc1 hFqw hFqh => ?_)
  with_reducible exact absurd hTpc0 hXqc0
  simp only [eL_law_924, kx_l, nl_int, tl_s]
  with_reducible exact next _ _ _ _ _ _ _ _ (LW.ofM hTph hTqh) (by omega) (by omega)
  with_reducible exact absurd hTpc1 hFqc1
  simp only [eL_law_894, eL_law_898, eL_law_903, eL_law_909, eL_law_915, eL_law_921, kx_l, wt_nil, nl_int, tl_s]
  with_reducible refine gi_W hFph hb ?_
  with_reducible refine And.intro ?_ ?_
  with_reducible assumption
  with_reducible refine gi_W hFph hb ?_
  with_reducible refine And.intro ?_ ?_
  with_reducible assumption
  with_reducible refine gi_W hFph hb ?_
  with_reducible refine And.intro ?_ ?_
  with_reducible assumption
  with_reducible refine gi_W hFph hb ?_
  with_reducible refine And.intro ?_ ?_
  with_reducible assumption
  with_reducible refine And.intro ?_ ?_
  with_reducible refine LW.gz hFph (fun _ => trivial)
  with_reducible refine And.intro ?_ ?_
  omega
  with_reducible refine And.intro ?_ ?_
  omega
  with_reducible refine And.intro ?_ ?_
  omega
  with_reducible refine fX3_threeSmall (LW.ms hFph) (fun hXqc0 hXqw hXqh => ?_) (fun hTqc0 hTqc1 hTqw hTqh => ?_) (fun hFqc0 hFqc1 hFqw hFqh => ?_)
  with_reducible exact absurd hFpc0 hXqc0
  with_reducible exact absurd hTqc1 hFpc1
  simp only [eL_law_924, kx_l, nl_int, tl_s]
  with_reducible exact next _ _ _ _ _ _ _ _ (LW.ofM hFph hFqh) (by omega) (by omega)
set_option maxHeartbeats 4000000 in
theorem cL_13 (hR : RG g) (hb : g.2 b = some (.inl (1, L, .inl xs))) (hL : LW g w x nA cA lA y nM o kn kn th s s) (v1 : vp_in (i + 1) L) (v2 : vp_in (i + 2) L) (v3 : vp_in (i + 3) L) (v4 : vp_in (i + 4) L) (v5 : vp_in (i + 5) L) (hk : k + 114 ≤ 58408) (hn : n + 2834 ≤ 1451408) (next : (∀ (l5' l6' : Option Value) (w' : Hw) (k' n' : Nat) (kn' th' : Int32) (s' : AS), LW g w' x nA cA lA y nM o kn' kn' th' s' s' → k' ≤ k + 114 → n' ≤ n + 2834 → WP (ML_law g) QLaw (2246, [some (.ref b), some (.ref x), some (.ref y), some (.ref o), some (.int i), l5', l6'], [], w', k', n'))) : WP (ML_law g) QLaw (929, [some (.ref b), some (.ref x), some (.ref y), some (.ref o), some (.int i), l5, l6], [], w, k, n) := by
  simp only [eL_law_929, eL_law_936, eL_law_942, eL_law_948, eL_law_954, eL_law_960, wt_nil]
  with_reducible refine gi_W hL hb ?_
  with_reducible refine And.intro ?_ ?_
  with_reducible assumption
  with_reducible refine gi_W hL hb ?_
  with_reducible refine And.intro ?_ ?_
  with_reducible assumption
  with_reducible refine gi_W hL hb ?_
  with_reducible refine And.intro ?_ ?_
  with_reducible assumption
  with_reducible refine gi_W hL hb ?_
  with_reducible refine And.intro ?_ ?_
  with_reducible assumption
  with_reducible refine gi_W hL hb ?_
  with_reducible refine And.intro ?_ ?_
  with_reducible assumption
  with_reducible refine And.intro ?_ ?_
  omega
  with_reducible refine And.intro ?_ ?_
  omega
  with_reducible refine And.intro ?_ ?_
  omega
  with_reducible refine fL_fourSmall hL (fun hXpc0 => ?_) (fun hTpc0 hTpc1 hTpw hTph hTpo => ?_) (fun hFpc0 hFpc1 hFpw hFph hFpo => ?_)
  simp only [eL_law_964, eL_law_968, eL_law_973, eL_law_979, eL_law_985, eL_law_991, eL_law_997, kx_l, wt_nil, nl_int, tl_s]
  with_reducible refine gi_W hL hb ?_
  with_reducible refine And.intro ?_ ?_
  with_reducible assumption
  with_reducible refine gi_W hL hb ?_
  with_reducible refine And.intro ?_ ?_
  with_reducible assumption
  with_reducible refine gi_W hL hb ?_
  with_reducible refine And.intro ?_ ?_
  with_reducible assumption
  with_reducible refine gi_W hL hb ?_
  with_reducible refine And.intro ?_ ?_
  with_reducible assumption
  with_reducible refine gi_W hL hb ?_
  with_reducible refine And.intro ?_ ?_
  with_reducible assumption
  with_reducible refine And.intro ?_ ?_
  with_reducible refine LW.gz hL (fun _ => trivial)
  with_reducible refine And.intro ?_ ?_
  omega
  with_reducible refine And.intro ?_ ?_
  omega
  with_reducible refine And.intro ?_ ?_
  omega
  with_reducible refine fX3_fourSmall (LW.ms hL) (fun hXqc0 hXqw hXqh => ?_) (fun hTqc0 hTqc1 hTqw hTqh => ?_) (fun hFqc0 hFqc1 hFqw hFqh => ?_)
  simp only [eL_law_1000, kx_l, nl_int, tl_s]
  with_reducible exact next _ _ _ _ _ _ _ _ (LW.ofM hL hXqh) (by omega) (by omega)
  with_reducible exact absurd hTqc0 hXpc0
  with_reducible exact absurd hFqc0 hXpc0
  simp only [eL_law_964, eL_law_968, eL_law_973, eL_law_979, eL_law_985, eL_law_991, eL_law_997, kx_l, wt_nil, nl_int, tl_s]
  with_reducible refine gi_W hTph hb ?_
  with_reducible refine And.intro ?_ ?_
  with_reducible assumption
  with_reducible refine gi_W hTph hb ?_
  with_reducible refine And.intro ?_ ?_
  with_reducible assumption
  with_reducible refine gi_W hTph hb ?_
  with_reducible refine And.intro ?_ ?_
  with_reducible assumption
  with_reducible refine gi_W hTph hb ?_
  with_reducible refine And.intro ?_ ?_
  with_reducible assumption
  with_reducible refine gi_W hTph hb ?_
  with_reducible refine And.intro ?_ ?_
  with_reducible assumption
  with_reducible refine And.intro ?_ ?_
  with_reducible refine LW.gz hTph (fun _ => trivial)
  with_reducible refine And.intro ?_ ?_
  omega
  with_reducible refine And.intro ?_ ?_
  omega
  with_reducible refine And.intro ?_ ?_
  omega
  with_reducible refine fX3_fourSmall (LW.ms hTph) (fun hXqc0 hXqw hXqh => ?_) (fun hTqc0 hTqc1 hTqw hTqh => ?_) (fun hFqc0 hFqc1 hFqw hFqh => ?_)
  with_reducible exact absurd hTpc0 hXqc0
  simp only [eL_law_1000, kx_l, nl_int, tl_s]
  with_reducible exact next _ _ _ _ _ _ _ _ (LW.ofM hTph hTqh) (by omega) (by omega)
  with_reducible exact absurd hTpc1 hFqc1
  simp only [eL_law_964, eL_law_968, eL_law_973, eL_law_979, eL_law_985, eL_law_991, eL_law_997, kx_l, wt_nil, nl_int, tl_s]
  with_reducible refine gi_W hFph hb ?_
  with_reducible refine And.intro ?_ ?_
  with_reducible assumption
  with_reducible refine gi_W hFph hb ?_
  with_reducible refine And.intro ?_ ?_
  with_reducible assumption
  with_reducible refine gi_W hFph hb ?_
  with_reducible refine And.intro ?_ ?_
  with_reducible assumption
  with_reducible refine gi_W hFph hb ?_
  with_reducible refine And.intro ?_ ?_
  with_reducible assumption
  with_reducible refine gi_W hFph hb ?_
  with_reducible refine And.intro ?_ ?_
  with_reducible assumption
  with_reducible refine And.intro ?_ ?_
  with_reducible refine LW.gz hFph (fun _ => trivial)
  with_reducible refine And.intro ?_ ?_
  omega
  with_reducible refine And.intro ?_ ?_
  omega
  with_reducible refine And.intro ?_ ?_
  omega
  with_reducible refine fX3_fourSmall (LW.ms hFph) (fun hXqc0 hXqw hXqh => ?_) (fun hTqc0 hTqc1 hTqw hTqh => ?_) (fun hFqc0 hFqc1 hFqw hFqh => ?_)
  with_reducible exact absurd hFpc0 hXqc0
  with_reducible exact absurd hTqc1 hFpc1
  simp only [eL_law_1000, kx_l, nl_int, tl_s]
  with_reducible exact next _ _ _ _ _ _ _ _ (LW.ofM hFph hFqh) (by omega) (by omega)
set_option maxHeartbeats 4000000 in
theorem cL_14 (hR : RG g) (hb : g.2 b = some (.inl (1, L, .inl xs))) (hL : LW g w x nA cA lA y nM o kn kn th s s) (v1 : vp_in (i + 1) L) (v2 : vp_in (i + 2) L) (v3 : vp_in (i + 3) L) (v4 : vp_in (i + 4) L) (v5 : vp_in (i + 5) L) (hk : k + 114 ≤ 58408) (hn : n + 2834 ≤ 1451408) (next : (∀ (l5' l6' : Option Value) (w' : Hw) (k' n' : Nat) (kn' th' : Int32) (s' : AS), LW g w' x nA cA lA y nM o kn' kn' th' s' s' → k' ≤ k + 114 → n' ≤ n + 2834 → WP (ML_law g) QLaw (2246, [some (.ref b), some (.ref x), some (.ref y), some (.ref o), some (.int i), l5', l6'], [], w', k', n'))) : WP (ML_law g) QLaw (1005, [some (.ref b), some (.ref x), some (.ref y), some (.ref o), some (.int i), l5, l6], [], w, k, n) := by
  simp only [eL_law_1005, eL_law_1012, eL_law_1018, wt_nil]
  with_reducible refine gi_W hL hb ?_
  with_reducible refine And.intro ?_ ?_
  with_reducible assumption
  with_reducible refine gi_W hL hb ?_
  with_reducible refine And.intro ?_ ?_
  with_reducible assumption
  with_reducible refine And.intro ?_ ?_
  omega
  with_reducible refine And.intro ?_ ?_
  omega
  with_reducible refine And.intro ?_ ?_
  omega
  with_reducible refine fL_again hL (fun hXpc0 => ?_) (fun hSpc0 hSpc1 hSpc2 => ?_) (fun hQpc0 hQpc1 hQpr hQpc2 hQpw hQph hQpo => ?_)
  simp only [eL_law_1022, eL_law_1026, eL_law_1031, eL_law_1037, kx_l, wt_nil, nl_int, tl_s]
  with_reducible refine gi_W hL hb ?_
  with_reducible refine And.intro ?_ ?_
  with_reducible assumption
  with_reducible refine gi_W hL hb ?_
  with_reducible refine And.intro ?_ ?_
  with_reducible assumption
  with_reducible refine And.intro ?_ ?_
  with_reducible refine LW.gz hL (fun _ => trivial)
  with_reducible refine And.intro ?_ ?_
  omega
  with_reducible refine And.intro ?_ ?_
  omega
  with_reducible refine And.intro ?_ ?_
  omega
  with_reducible refine fX3_again (LW.ms hL) hL.ok (fun hXqc0 hXqw hXqh => ?_) (fun hSqc0 hSqc1 hSqc2 hSqw hSqh => ?_) (fun hQqc0 hQqc1 hQqr hQqc2 hQqw hQqh => ?_)
  simp only [eL_law_1040, kx_l, nl_int, tl_s]
  with_reducible exact next _ _ _ _ _ _ _ _ (LW.ofM hL hXqh) (by omega) (by omega)
  with_reducible exact absurd (And.intro hSqc0 hSqc1) hXpc0
  with_reducible exact absurd (And.intro hQqc0 hQqc1) hXpc0
  simp only [eL_law_1022, eL_law_1026, eL_law_1031, eL_law_1037, kx_l, wt_nil, nl_int, tl_s]
  with_reducible refine gi_W hL hb ?_
  with_reducible refine And.intro ?_ ?_
  with_reducible assumption
  with_reducible refine gi_W hL hb ?_
  with_reducible refine And.intro ?_ ?_
  with_reducible assumption
  with_reducible refine And.intro ?_ ?_
  with_reducible refine LW.gz hL (fun _ => trivial)
  with_reducible refine And.intro ?_ ?_
  omega
  with_reducible refine And.intro ?_ ?_
  omega
  with_reducible refine And.intro ?_ ?_
  omega
  with_reducible refine fX3_again (LW.ms hL) hL.ok (fun hXqc0 hXqw hXqh => ?_) (fun hSqc0 hSqc1 hSqc2 hSqw hSqh => ?_) (fun hQqc0 hQqc1 hQqr hQqc2 hQqw hQqh => ?_)
  with_reducible exact absurd (And.intro hSpc0 hSpc1) hXqc0
  simp only [eL_law_1040, kx_l, nl_int, tl_s]
  with_reducible exact next _ _ _ _ _ _ _ _ (LW.ofM hL hSqh) (by omega) (by omega)
  with_reducible exact (nsC hSpc2 hQqc2).elim
  simp only [eL_law_1022, eL_law_1026, eL_law_1031, eL_law_1037, kx_l, wt_nil, nl_int, tl_s]
  with_reducible refine gi_W hQph hb ?_
  with_reducible refine And.intro ?_ ?_
  with_reducible assumption
  with_reducible refine gi_W hQph hb ?_
  with_reducible refine And.intro ?_ ?_
  with_reducible assumption
  with_reducible refine And.intro ?_ ?_
  with_reducible refine LW.gz hQph (fun _ => trivial)
  with_reducible refine And.intro ?_ ?_
  omega
  with_reducible refine And.intro ?_ ?_
  omega
  with_reducible refine And.intro ?_ ?_
  omega
  with_reducible refine fX3_again (LW.ms hQph) hL.ok (fun hXqc0 hXqw hXqh => ?_) (fun hSqc0 hSqc1 hSqc2 hSqw hSqh => ?_) (fun hQqc0 hQqc1 hQqr hQqc2 hQqw hQqh => ?_)
  with_reducible exact absurd (And.intro hQpc0 hQpc1) hXqc0
  with_reducible exact (nsC hSqc2 hQpc2).elim
  cases Option.some.inj (hQpc2.symm.trans hQqc2); clear hQqc2
  simp only [eL_law_1040, kx_l, nl_int, tl_s]
  with_reducible exact next _ _ _ _ _ _ _ _ (LW.ofM hQph hQqh) (by omega) (by omega)
set_option maxHeartbeats 4000000 in
theorem cL_15 (hR : RG g) (hb : g.2 b = some (.inl (1, L, .inl xs))) (hL : LW g w x nA cA lA y nM o kn kn th s s) (v1 : vp_in (i + 1) L) (v2 : vp_in (i + 2) L) (v3 : vp_in (i + 3) L) (v4 : vp_in (i + 4) L) (v5 : vp_in (i + 5) L) (hk : k + 114 ≤ 58408) (hn : n + 2834 ≤ 1451408) (next : (∀ (l5' l6' : Option Value) (w' : Hw) (k' n' : Nat) (kn' th' : Int32) (s' : AS), LW g w' x nA cA lA y nM o kn' kn' th' s' s' → k' ≤ k + 114 → n' ≤ n + 2834 → WP (ML_law g) QLaw (2246, [some (.ref b), some (.ref x), some (.ref y), some (.ref o), some (.int i), l5', l6'], [], w', k', n'))) : WP (ML_law g) QLaw (1045, [some (.ref b), some (.ref x), some (.ref y), some (.ref o), some (.int i), l5, l6], [], w, k, n) := by
  simp only [eL_law_1045, eL_law_1052, eL_law_1058, wt_nil]
  with_reducible refine gi_W hL hb ?_
  with_reducible refine And.intro ?_ ?_
  with_reducible assumption
  with_reducible refine gi_W hL hb ?_
  with_reducible refine And.intro ?_ ?_
  with_reducible assumption
  with_reducible refine And.intro ?_ ?_
  omega
  with_reducible refine And.intro ?_ ?_
  omega
  with_reducible refine And.intro ?_ ?_
  omega
  with_reducible refine fL_same hL (fun hXpc0 => ?_) (fun hSpc0 hSpc1 hSpc2 => ?_) (fun hNpc0 hNpc1 hNpr hNpc2 hNpc3 hNpw hNph hNpo => ?_) (fun hTpc0 hTpc1 hTpr hTpc2 hTpq hTpc3 hTpc4 hTpw hTph hTpo => ?_) (fun hFpc0 hFpc1 hFpr hFpc2 hFpq hFpc3 hFpc4 hFpw hFph hFpo => ?_)
  simp only [eL_law_1062, eL_law_1066, eL_law_1071, eL_law_1077, kx_l, wt_nil, nl_int, tl_s, Nat.add_zero]
  with_reducible refine gi_W hL hb ?_
  with_reducible refine And.intro ?_ ?_
  with_reducible assumption
  with_reducible refine gi_W hL hb ?_
  with_reducible refine And.intro ?_ ?_
  with_reducible assumption
  with_reducible refine And.intro ?_ ?_
  with_reducible refine LW.gz hL (fun _ => trivial)
  with_reducible refine And.intro ?_ ?_
  omega
  with_reducible refine And.intro ?_ ?_
  omega
  with_reducible refine And.intro ?_ ?_
  omega
  with_reducible refine fX3_same_ (LW.ms hL) (fun hXqc0 hXqw hXqh => ?_) (fun hSqc0 hSqc1 hSqc2 hSqw hSqh => ?_) (fun hNqc0 hNqc1 hNqr hNqc2 hNqc3 hNqw hNqh => ?_) (fun hTqc0 hTqc1 hTqr hTqc2 hTqq hTqc3 hTqc4 hTqw hTqh => ?_) (fun hFqc0 hFqc1 hFqr hFqc2 hFqq hFqc3 hFqc4 hFqw hFqh => ?_)
  simp only [eL_law_1080, kx_l, nl_int, tl_s]
  with_reducible exact next _ _ _ _ _ _ _ _ (LW.ofM hL hXqh) (by omega) (by omega)
  with_reducible exact absurd (And.intro hSqc0 hSqc1) hXpc0
  with_reducible exact absurd (And.intro hNqc0 hNqc1) hXpc0
  with_reducible exact absurd (And.intro hTqc0 hTqc1) hXpc0
  with_reducible exact absurd (And.intro hFqc0 hFqc1) hXpc0
  simp only [eL_law_1062, eL_law_1066, eL_law_1071, eL_law_1077, kx_l, wt_nil, nl_int, tl_s, Nat.add_zero]
  with_reducible refine gi_W hL hb ?_
  with_reducible refine And.intro ?_ ?_
  with_reducible assumption
  with_reducible refine gi_W hL hb ?_
  with_reducible refine And.intro ?_ ?_
  with_reducible assumption
  with_reducible refine And.intro ?_ ?_
  with_reducible refine LW.gz hL (fun _ => trivial)
  with_reducible refine And.intro ?_ ?_
  omega
  with_reducible refine And.intro ?_ ?_
  omega
  with_reducible refine And.intro ?_ ?_
  omega
  with_reducible refine fX3_same_ (LW.ms hL) (fun hXqc0 hXqw hXqh => ?_) (fun hSqc0 hSqc1 hSqc2 hSqw hSqh => ?_) (fun hNqc0 hNqc1 hNqr hNqc2 hNqc3 hNqw hNqh => ?_) (fun hTqc0 hTqc1 hTqr hTqc2 hTqq hTqc3 hTqc4 hTqw hTqh => ?_) (fun hFqc0 hFqc1 hFqr hFqc2 hFqq hFqc3 hFqc4 hFqw hFqh => ?_)
  with_reducible exact absurd (And.intro hSpc0 hSpc1) hXqc0
  simp only [eL_law_1080, kx_l, nl_int, tl_s]
  with_reducible exact next _ _ _ _ _ _ _ _ (LW.ofM hL hSqh) (by omega) (by omega)
  with_reducible exact (nsC hSpc2 hNqc2).elim
  with_reducible exact (nsC hSpc2 hTqc2).elim
  with_reducible exact (nsC hSpc2 hFqc2).elim
  simp only [eL_law_1062, eL_law_1066, eL_law_1071, eL_law_1077, kx_l, wt_nil, nl_int, tl_s, Nat.add_zero]
  with_reducible refine gi_W hNph hb ?_
  with_reducible refine And.intro ?_ ?_
  with_reducible assumption
  with_reducible refine gi_W hNph hb ?_
  with_reducible refine And.intro ?_ ?_
  with_reducible assumption
  with_reducible refine And.intro ?_ ?_
  with_reducible refine LW.gz hNph (fun _ => trivial)
  with_reducible refine And.intro ?_ ?_
  omega
  with_reducible refine And.intro ?_ ?_
  omega
  with_reducible refine And.intro ?_ ?_
  omega
  with_reducible refine fX3_same_ (LW.ms hNph) (fun hXqc0 hXqw hXqh => ?_) (fun hSqc0 hSqc1 hSqc2 hSqw hSqh => ?_) (fun hNqc0 hNqc1 hNqr hNqc2 hNqc3 hNqw hNqh => ?_) (fun hTqc0 hTqc1 hTqr hTqc2 hTqq hTqc3 hTqc4 hTqw hTqh => ?_) (fun hFqc0 hFqc1 hFqr hFqc2 hFqq hFqc3 hFqc4 hFqw hFqh => ?_)
  with_reducible exact absurd (And.intro hNpc0 hNpc1) hXqc0
  with_reducible exact (nsC hSqc2 hNpc2).elim
  cases Option.some.inj (hNpc2.symm.trans hNqc2); clear hNqc2
  simp only [eL_law_1080, kx_l, nl_int, tl_s]
  with_reducible exact next _ _ _ _ _ _ _ _ (LW.ofM hNph hNqh) (by omega) (by omega)
  cases Option.some.inj (hNpc2.symm.trans hTqc2); clear hTqc2
  with_reducible exact (nsC hNpc3 hTqc3).elim
  cases Option.some.inj (hNpc2.symm.trans hFqc2); clear hFqc2
  with_reducible exact (nsC hNpc3 hFqc3).elim
  simp only [eL_law_1062, eL_law_1066, eL_law_1071, eL_law_1077, kx_l, wt_nil, nl_int, tl_s, Nat.add_zero]
  with_reducible refine gi_W hTph hb ?_
  with_reducible refine And.intro ?_ ?_
  with_reducible assumption
  with_reducible refine gi_W hTph hb ?_
  with_reducible refine And.intro ?_ ?_
  with_reducible assumption
  with_reducible refine And.intro ?_ ?_
  with_reducible refine LW.gz hTph (fun _ => trivial)
  with_reducible refine And.intro ?_ ?_
  omega
  with_reducible refine And.intro ?_ ?_
  omega
  with_reducible refine And.intro ?_ ?_
  omega
  with_reducible refine fX3_same_ (LW.ms hTph) (fun hXqc0 hXqw hXqh => ?_) (fun hSqc0 hSqc1 hSqc2 hSqw hSqh => ?_) (fun hNqc0 hNqc1 hNqr hNqc2 hNqc3 hNqw hNqh => ?_) (fun hTqc0 hTqc1 hTqr hTqc2 hTqq hTqc3 hTqc4 hTqw hTqh => ?_) (fun hFqc0 hFqc1 hFqr hFqc2 hFqq hFqc3 hFqc4 hFqw hFqh => ?_)
  with_reducible exact absurd (And.intro hTpc0 hTpc1) hXqc0
  with_reducible exact (nsC hSqc2 hTpc2).elim
  cases Option.some.inj (hTpc2.symm.trans hNqc2); clear hNqc2
  with_reducible exact (nsC hNqc3 hTpc3).elim
  cases Option.some.inj (hTpc2.symm.trans hTqc2); clear hTqc2
  cases Option.some.inj (hTpc3.symm.trans hTqc3); clear hTqc3
  simp only [eL_law_1080, kx_l, nl_int, tl_s]
  with_reducible exact next _ _ _ _ _ _ _ _ (LW.ofM hTph hTqh) (by omega) (by omega)
  cases Option.some.inj (hTpc2.symm.trans hFqc2); clear hFqc2
  cases Option.some.inj (hTpc3.symm.trans hFqc3); clear hFqc3
  with_reducible exact absurd hTpc4 hFqc4
  simp only [eL_law_1062, eL_law_1066, eL_law_1071, eL_law_1077, kx_l, wt_nil, nl_int, tl_s, Nat.add_zero]
  with_reducible refine gi_W hFph hb ?_
  with_reducible refine And.intro ?_ ?_
  with_reducible assumption
  with_reducible refine gi_W hFph hb ?_
  with_reducible refine And.intro ?_ ?_
  with_reducible assumption
  with_reducible refine And.intro ?_ ?_
  with_reducible refine LW.gz hFph (fun _ => trivial)
  with_reducible refine And.intro ?_ ?_
  omega
  with_reducible refine And.intro ?_ ?_
  omega
  with_reducible refine And.intro ?_ ?_
  omega
  with_reducible refine fX3_same_ (LW.ms hFph) (fun hXqc0 hXqw hXqh => ?_) (fun hSqc0 hSqc1 hSqc2 hSqw hSqh => ?_) (fun hNqc0 hNqc1 hNqr hNqc2 hNqc3 hNqw hNqh => ?_) (fun hTqc0 hTqc1 hTqr hTqc2 hTqq hTqc3 hTqc4 hTqw hTqh => ?_) (fun hFqc0 hFqc1 hFqr hFqc2 hFqq hFqc3 hFqc4 hFqw hFqh => ?_)
  with_reducible exact absurd (And.intro hFpc0 hFpc1) hXqc0
  with_reducible exact (nsC hSqc2 hFpc2).elim
  cases Option.some.inj (hFpc2.symm.trans hNqc2); clear hNqc2
  with_reducible exact (nsC hNqc3 hFpc3).elim
  cases Option.some.inj (hFpc2.symm.trans hTqc2); clear hTqc2
  cases Option.some.inj (hFpc3.symm.trans hTqc3); clear hTqc3
  with_reducible exact absurd hTqc4 hFpc4
  cases Option.some.inj (hFpc2.symm.trans hFqc2); clear hFqc2
  cases Option.some.inj (hFpc3.symm.trans hFqc3); clear hFqc3
  simp only [eL_law_1080, kx_l, nl_int, tl_s]
  with_reducible exact next _ _ _ _ _ _ _ _ (LW.ofM hFph hFqh) (by omega) (by omega)
set_option maxHeartbeats 4000000 in
theorem cL_16 (hR : RG g) (hb : g.2 b = some (.inl (1, L, .inl xs))) (hL : LW g w x nA cA lA y nM o kn kn th s s) (v1 : vp_in (i + 1) L) (v2 : vp_in (i + 2) L) (v3 : vp_in (i + 3) L) (v4 : vp_in (i + 4) L) (v5 : vp_in (i + 5) L) (hk : k + 114 ≤ 58408) (hn : n + 2834 ≤ 1451408) (next : (∀ (l5' l6' : Option Value) (w' : Hw) (k' n' : Nat) (kn' th' : Int32) (s' : AS), LW g w' x nA cA lA y nM o kn' kn' th' s' s' → k' ≤ k + 114 → n' ≤ n + 2834 → WP (ML_law g) QLaw (2246, [some (.ref b), some (.ref x), some (.ref y), some (.ref o), some (.int i), l5', l6'], [], w', k', n'))) : WP (ML_law g) QLaw (1085, [some (.ref b), some (.ref x), some (.ref y), some (.ref o), some (.int i), l5, l6], [], w, k, n) := by
  simp only [eL_law_1085, eL_law_1092, eL_law_1098, wt_nil]
  with_reducible refine gi_W hL hb ?_
  with_reducible refine And.intro ?_ ?_
  with_reducible assumption
  with_reducible refine gi_W hL hb ?_
  with_reducible refine And.intro ?_ ?_
  with_reducible assumption
  with_reducible refine And.intro ?_ ?_
  omega
  with_reducible refine And.intro ?_ ?_
  omega
  with_reducible refine And.intro ?_ ?_
  omega
  with_reducible refine fL_outer hL (fun hXpc0 => ?_) (fun hSpc0 hSpc1 hSpc2 => ?_) (fun hTpc0 hTpc1 hTpr hTpc2 hTpc3 hTpw hTph hTpo => ?_) (fun hFpc0 hFpc1 hFpr hFpc2 hFpc3 hFpw hFph hFpo => ?_)
  simp only [eL_law_1102, eL_law_1106, eL_law_1111, eL_law_1117, kx_l, wt_nil, nl_int, tl_s]
  with_reducible refine gi_W hL hb ?_
  with_reducible refine And.intro ?_ ?_
  with_reducible assumption
  with_reducible refine gi_W hL hb ?_
  with_reducible refine And.intro ?_ ?_
  with_reducible assumption
  with_reducible refine And.intro ?_ ?_
  with_reducible refine LW.gz hL (fun _ => trivial)
  with_reducible refine And.intro ?_ ?_
  omega
  with_reducible refine And.intro ?_ ?_
  omega
  with_reducible refine And.intro ?_ ?_
  omega
  with_reducible refine fX3_outer (LW.ms hL) hL.ok (fun hXqc0 hXqw hXqh => ?_) (fun hSqc0 hSqc1 hSqc2 hSqw hSqh => ?_) (fun hTqc0 hTqc1 hTqr hTqc2 hTqc3 hTqw hTqh => ?_) (fun hFqc0 hFqc1 hFqr hFqc2 hFqc3 hFqw hFqh => ?_)
  simp only [eL_law_1120, kx_l, nl_int, tl_s]
  with_reducible exact next _ _ _ _ _ _ _ _ (LW.ofM hL hXqh) (by omega) (by omega)
  with_reducible exact absurd (And.intro hSqc0 hSqc1) hXpc0
  with_reducible exact absurd (And.intro hTqc0 hTqc1) hXpc0
  with_reducible exact absurd (And.intro hFqc0 hFqc1) hXpc0
  simp only [eL_law_1102, eL_law_1106, eL_law_1111, eL_law_1117, kx_l, wt_nil, nl_int, tl_s]
  with_reducible refine gi_W hL hb ?_
  with_reducible refine And.intro ?_ ?_
  with_reducible assumption
  with_reducible refine gi_W hL hb ?_
  with_reducible refine And.intro ?_ ?_
  with_reducible assumption
  with_reducible refine And.intro ?_ ?_
  with_reducible refine LW.gz hL (fun _ => trivial)
  with_reducible refine And.intro ?_ ?_
  omega
  with_reducible refine And.intro ?_ ?_
  omega
  with_reducible refine And.intro ?_ ?_
  omega
  with_reducible refine fX3_outer (LW.ms hL) hL.ok (fun hXqc0 hXqw hXqh => ?_) (fun hSqc0 hSqc1 hSqc2 hSqw hSqh => ?_) (fun hTqc0 hTqc1 hTqr hTqc2 hTqc3 hTqw hTqh => ?_) (fun hFqc0 hFqc1 hFqr hFqc2 hFqc3 hFqw hFqh => ?_)
  with_reducible exact absurd (And.intro hSpc0 hSpc1) hXqc0
  simp only [eL_law_1120, kx_l, nl_int, tl_s]
  with_reducible exact next _ _ _ _ _ _ _ _ (LW.ofM hL hSqh) (by omega) (by omega)
  with_reducible exact (nsC hSpc2 hTqc2).elim
  with_reducible exact (nsC hSpc2 hFqc2).elim
  simp only [eL_law_1102, eL_law_1106, eL_law_1111, eL_law_1117, kx_l, wt_nil, nl_int, tl_s]
  with_reducible refine gi_W hTph hb ?_
  with_reducible refine And.intro ?_ ?_
  with_reducible assumption
  with_reducible refine gi_W hTph hb ?_
  with_reducible refine And.intro ?_ ?_
  with_reducible assumption
  with_reducible refine And.intro ?_ ?_
  with_reducible refine LW.gz hTph (fun _ => trivial)
  with_reducible refine And.intro ?_ ?_
  omega
  with_reducible refine And.intro ?_ ?_
  omega
  with_reducible refine And.intro ?_ ?_
  omega
  with_reducible refine fX3_outer (LW.ms hTph) hL.ok (fun hXqc0 hXqw hXqh => ?_) (fun hSqc0 hSqc1 hSqc2 hSqw hSqh => ?_) (fun hTqc0 hTqc1 hTqr hTqc2 hTqc3 hTqw hTqh => ?_) (fun hFqc0 hFqc1 hFqr hFqc2 hFqc3 hFqw hFqh => ?_)
  with_reducible exact absurd (And.intro hTpc0 hTpc1) hXqc0
  with_reducible exact (nsC hSqc2 hTpc2).elim
  cases Option.some.inj (hTpc2.symm.trans hTqc2); clear hTqc2
  simp only [eL_law_1120, kx_l, nl_int, tl_s]
  with_reducible exact next _ _ _ _ _ _ _ _ (LW.ofM hTph hTqh) (by omega) (by omega)
  cases Option.some.inj (hTpc2.symm.trans hFqc2); clear hFqc2
  with_reducible exact absurd hTpc3 hFqc3
  simp only [eL_law_1102, eL_law_1106, eL_law_1111, eL_law_1117, kx_l, wt_nil, nl_int, tl_s]
  with_reducible refine gi_W hFph hb ?_
  with_reducible refine And.intro ?_ ?_
  with_reducible assumption
  with_reducible refine gi_W hFph hb ?_
  with_reducible refine And.intro ?_ ?_
  with_reducible assumption
  with_reducible refine And.intro ?_ ?_
  with_reducible refine LW.gz hFph (fun _ => trivial)
  with_reducible refine And.intro ?_ ?_
  omega
  with_reducible refine And.intro ?_ ?_
  omega
  with_reducible refine And.intro ?_ ?_
  omega
  with_reducible refine fX3_outer (LW.ms hFph) hL.ok (fun hXqc0 hXqw hXqh => ?_) (fun hSqc0 hSqc1 hSqc2 hSqw hSqh => ?_) (fun hTqc0 hTqc1 hTqr hTqc2 hTqc3 hTqw hTqh => ?_) (fun hFqc0 hFqc1 hFqr hFqc2 hFqc3 hFqw hFqh => ?_)
  with_reducible exact absurd (And.intro hFpc0 hFpc1) hXqc0
  with_reducible exact (nsC hSqc2 hFpc2).elim
  cases Option.some.inj (hFpc2.symm.trans hTqc2); clear hTqc2
  with_reducible exact absurd hTqc3 hFpc3
  cases Option.some.inj (hFpc2.symm.trans hFqc2); clear hFqc2
  simp only [eL_law_1120, kx_l, nl_int, tl_s]
  with_reducible exact next _ _ _ _ _ _ _ _ (LW.ofM hFph hFqh) (by omega) (by omega)
set_option maxHeartbeats 4000000 in
theorem cL_17 (hR : RG g) (hb : g.2 b = some (.inl (1, L, .inl xs))) (hL : LW g w x nA cA lA y nM o kn kn th s s) (v1 : vp_in (i + 1) L) (v2 : vp_in (i + 2) L) (v3 : vp_in (i + 3) L) (v4 : vp_in (i + 4) L) (v5 : vp_in (i + 5) L) (hk : k + 114 ≤ 58408) (hn : n + 2834 ≤ 1451408) (next : (∀ (l5' l6' : Option Value) (w' : Hw) (k' n' : Nat) (kn' th' : Int32) (s' : AS), LW g w' x nA cA lA y nM o kn' kn' th' s' s' → k' ≤ k + 114 → n' ≤ n + 2834 → WP (ML_law g) QLaw (2246, [some (.ref b), some (.ref x), some (.ref y), some (.ref o), some (.int i), l5', l6'], [], w', k', n'))) : WP (ML_law g) QLaw (1125, [some (.ref b), some (.ref x), some (.ref y), some (.ref o), some (.int i), l5, l6], [], w, k, n) := by
  simp only [eL_law_1125, eL_law_1132, eL_law_1138, wt_nil]
  with_reducible refine gi_W hL hb ?_
  with_reducible refine And.intro ?_ ?_
  with_reducible assumption
  with_reducible refine gi_W hL hb ?_
  with_reducible refine And.intro ?_ ?_
  with_reducible assumption
  with_reducible refine And.intro ?_ ?_
  omega
  with_reducible refine And.intro ?_ ?_
  omega
  with_reducible refine And.intro ?_ ?_
  omega
  with_reducible refine fL_inner hL (fun hXpc0 => ?_) (fun hSpc0 hSpc1 hSpc2 => ?_) (fun hTpc0 hTpc1 hTpr hTpc2 hTpc3 hTpw hTph hTpo => ?_) (fun hFpc0 hFpc1 hFpr hFpc2 hFpc3 hFpw hFph hFpo => ?_)
  simp only [eL_law_1142, eL_law_1146, eL_law_1151, eL_law_1157, kx_l, wt_nil, nl_int, tl_s]
  with_reducible refine gi_W hL hb ?_
  with_reducible refine And.intro ?_ ?_
  with_reducible assumption
  with_reducible refine gi_W hL hb ?_
  with_reducible refine And.intro ?_ ?_
  with_reducible assumption
  with_reducible refine And.intro ?_ ?_
  with_reducible refine LW.gz hL (fun _ => trivial)
  with_reducible refine And.intro ?_ ?_
  omega
  with_reducible refine And.intro ?_ ?_
  omega
  with_reducible refine And.intro ?_ ?_
  omega
  with_reducible refine fX3_inner (LW.ms hL) (fun hXqc0 hXqw hXqh => ?_) (fun hSqc0 hSqc1 hSqc2 hSqw hSqh => ?_) (fun hTqc0 hTqc1 hTqr hTqc2 hTqc3 hTqw hTqh => ?_) (fun hFqc0 hFqc1 hFqr hFqc2 hFqc3 hFqw hFqh => ?_)
  simp only [eL_law_1160, kx_l, nl_int, tl_s]
  with_reducible exact next _ _ _ _ _ _ _ _ (LW.ofM hL hXqh) (by omega) (by omega)
  with_reducible exact absurd (And.intro hSqc0 hSqc1) hXpc0
  with_reducible exact absurd (And.intro hTqc0 hTqc1) hXpc0
  with_reducible exact absurd (And.intro hFqc0 hFqc1) hXpc0
  simp only [eL_law_1142, eL_law_1146, eL_law_1151, eL_law_1157, kx_l, wt_nil, nl_int, tl_s]
  with_reducible refine gi_W hL hb ?_
  with_reducible refine And.intro ?_ ?_
  with_reducible assumption
  with_reducible refine gi_W hL hb ?_
  with_reducible refine And.intro ?_ ?_
  with_reducible assumption
  with_reducible refine And.intro ?_ ?_
  with_reducible refine LW.gz hL (fun _ => trivial)
  with_reducible refine And.intro ?_ ?_
  omega
  with_reducible refine And.intro ?_ ?_
  omega
  with_reducible refine And.intro ?_ ?_
  omega
  with_reducible refine fX3_inner (LW.ms hL) (fun hXqc0 hXqw hXqh => ?_) (fun hSqc0 hSqc1 hSqc2 hSqw hSqh => ?_) (fun hTqc0 hTqc1 hTqr hTqc2 hTqc3 hTqw hTqh => ?_) (fun hFqc0 hFqc1 hFqr hFqc2 hFqc3 hFqw hFqh => ?_)
  with_reducible exact absurd (And.intro hSpc0 hSpc1) hXqc0
  simp only [eL_law_1160, kx_l, nl_int, tl_s]
  with_reducible exact next _ _ _ _ _ _ _ _ (LW.ofM hL hSqh) (by omega) (by omega)
  with_reducible exact (nsC hSpc2 hTqc2).elim
  with_reducible exact (nsC hSpc2 hFqc2).elim
  simp only [eL_law_1142, eL_law_1146, eL_law_1151, eL_law_1157, kx_l, wt_nil, nl_int, tl_s]
  with_reducible refine gi_W hTph hb ?_
  with_reducible refine And.intro ?_ ?_
  with_reducible assumption
  with_reducible refine gi_W hTph hb ?_
  with_reducible refine And.intro ?_ ?_
  with_reducible assumption
  with_reducible refine And.intro ?_ ?_
  with_reducible refine LW.gz hTph (fun _ => trivial)
  with_reducible refine And.intro ?_ ?_
  omega
  with_reducible refine And.intro ?_ ?_
  omega
  with_reducible refine And.intro ?_ ?_
  omega
  with_reducible refine fX3_inner (LW.ms hTph) (fun hXqc0 hXqw hXqh => ?_) (fun hSqc0 hSqc1 hSqc2 hSqw hSqh => ?_) (fun hTqc0 hTqc1 hTqr hTqc2 hTqc3 hTqw hTqh => ?_) (fun hFqc0 hFqc1 hFqr hFqc2 hFqc3 hFqw hFqh => ?_)
  with_reducible exact absurd (And.intro hTpc0 hTpc1) hXqc0
  with_reducible exact (nsC hSqc2 hTpc2).elim
  cases Option.some.inj (hTpc2.symm.trans hTqc2); clear hTqc2
  simp only [eL_law_1160, kx_l, nl_int, tl_s]
  with_reducible exact next _ _ _ _ _ _ _ _ (LW.ofM hTph hTqh) (by omega) (by omega)
  cases Option.some.inj (hTpc2.symm.trans hFqc2); clear hFqc2
  with_reducible exact absurd hTpc3 hFqc3
  simp only [eL_law_1142, eL_law_1146, eL_law_1151, eL_law_1157, kx_l, wt_nil, nl_int, tl_s]
  with_reducible refine gi_W hFph hb ?_
  with_reducible refine And.intro ?_ ?_
  with_reducible assumption
  with_reducible refine gi_W hFph hb ?_
  with_reducible refine And.intro ?_ ?_
  with_reducible assumption
  with_reducible refine And.intro ?_ ?_
  with_reducible refine LW.gz hFph (fun _ => trivial)
  with_reducible refine And.intro ?_ ?_
  omega
  with_reducible refine And.intro ?_ ?_
  omega
  with_reducible refine And.intro ?_ ?_
  omega
  with_reducible refine fX3_inner (LW.ms hFph) (fun hXqc0 hXqw hXqh => ?_) (fun hSqc0 hSqc1 hSqc2 hSqw hSqh => ?_) (fun hTqc0 hTqc1 hTqr hTqc2 hTqc3 hTqw hTqh => ?_) (fun hFqc0 hFqc1 hFqr hFqc2 hFqc3 hFqw hFqh => ?_)
  with_reducible exact absurd (And.intro hFpc0 hFpc1) hXqc0
  with_reducible exact (nsC hSqc2 hFpc2).elim
  cases Option.some.inj (hFpc2.symm.trans hTqc2); clear hTqc2
  with_reducible exact absurd hTqc3 hFpc3
  cases Option.some.inj (hFpc2.symm.trans hFqc2); clear hFqc2
  simp only [eL_law_1160, kx_l, nl_int, tl_s]
  with_reducible exact next _ _ _ _ _ _ _ _ (LW.ofM hFph hFqh) (by omega) (by omega)
set_option maxHeartbeats 4000000 in
theorem cL_18 (hR : RG g) (hb : g.2 b = some (.inl (1, L, .inl xs))) (hL : LW g w x nA cA lA y nM o kn kn th s s) (v1 : vp_in (i + 1) L) (v2 : vp_in (i + 2) L) (v3 : vp_in (i + 3) L) (v4 : vp_in (i + 4) L) (v5 : vp_in (i + 5) L) (hk : k + 114 ≤ 58408) (hn : n + 2834 ≤ 1451408) (next : (∀ (l5' l6' : Option Value) (w' : Hw) (k' n' : Nat) (kn' th' : Int32) (s' : AS), LW g w' x nA cA lA y nM o kn' kn' th' s' s' → k' ≤ k + 114 → n' ≤ n + 2834 → WP (ML_law g) QLaw (2246, [some (.ref b), some (.ref x), some (.ref y), some (.ref o), some (.int i), l5', l6'], [], w', k', n'))) : WP (ML_law g) QLaw (1165, [some (.ref b), some (.ref x), some (.ref y), some (.ref o), some (.int i), l5, l6], [], w, k, n) := by
  simp only [eL_law_1165, eL_law_1172, eL_law_1178, eL_law_1184, wt_nil]
  with_reducible refine gi_W hL hb ?_
  with_reducible refine And.intro ?_ ?_
  with_reducible assumption
  with_reducible refine gi_W hL hb ?_
  with_reducible refine And.intro ?_ ?_
  with_reducible assumption
  with_reducible refine gi_W hL hb ?_
  with_reducible refine And.intro ?_ ?_
  with_reducible assumption
  with_reducible refine And.intro ?_ ?_
  omega
  with_reducible refine And.intro ?_ ?_
  omega
  with_reducible refine And.intro ?_ ?_
  omega
  with_reducible refine fL_span hL (fun hXpc0 => ?_) (fun hSpc0 hSpc1 hSpc2 hSpc3 => ?_) (fun hTpc0 hTpc1 hTpc2 hTpr hTpq hTpc3 hTpc4 hTpc5 hTpw hTph hTpo => ?_) (fun hFpc0 hFpc1 hFpc2 hFpr hFpq hFpc3 hFpc4 hFpc5 hFpw hFph hFpo => ?_)
  simp only [eL_law_1188, eL_law_1192, eL_law_1197, eL_law_1203, eL_law_1209, kx_l, wt_nil, nl_int, tl_s]
  with_reducible refine gi_W hL hb ?_
  with_reducible refine And.intro ?_ ?_
  with_reducible assumption
  with_reducible refine gi_W hL hb ?_
  with_reducible refine And.intro ?_ ?_
  with_reducible assumption
  with_reducible refine gi_W hL hb ?_
  with_reducible refine And.intro ?_ ?_
  with_reducible assumption
  with_reducible refine And.intro ?_ ?_
  with_reducible refine LW.gz hL (fun _ => trivial)
  with_reducible refine And.intro ?_ ?_
  omega
  with_reducible refine And.intro ?_ ?_
  omega
  with_reducible refine And.intro ?_ ?_
  omega
  with_reducible refine fX3_span (LW.ms hL) (fun hXqc0 hXqw hXqh => ?_) (fun hSqc0 hSqc1 hSqc2 hSqc3 hSqw hSqh => ?_) (fun hTqc0 hTqc1 hTqc2 hTqr hTqq hTqc3 hTqc4 hTqc5 hTqw hTqh => ?_) (fun hFqc0 hFqc1 hFqc2 hFqr hFqq hFqc3 hFqc4 hFqc5 hFqw hFqh => ?_)
  simp only [eL_law_1212, kx_l, nl_int, tl_s]
  with_reducible exact next _ _ _ _ _ _ _ _ (LW.ofM hL hXqh) (by omega) (by omega)
  with_reducible exact absurd (And.intro hSqc0 (And.intro hSqc1 hSqc2)) hXpc0
  with_reducible exact absurd (And.intro hTqc0 (And.intro hTqc1 hTqc2)) hXpc0
  with_reducible exact absurd (And.intro hFqc0 (And.intro hFqc1 hFqc2)) hXpc0
  simp only [eL_law_1188, eL_law_1192, eL_law_1197, eL_law_1203, eL_law_1209, kx_l, wt_nil, nl_int, tl_s]
  with_reducible refine gi_W hL hb ?_
  with_reducible refine And.intro ?_ ?_
  with_reducible assumption
  with_reducible refine gi_W hL hb ?_
  with_reducible refine And.intro ?_ ?_
  with_reducible assumption
  with_reducible refine gi_W hL hb ?_
  with_reducible refine And.intro ?_ ?_
  with_reducible assumption
  with_reducible refine And.intro ?_ ?_
  with_reducible refine LW.gz hL (fun _ => trivial)
  with_reducible refine And.intro ?_ ?_
  omega
  with_reducible refine And.intro ?_ ?_
  omega
  with_reducible refine And.intro ?_ ?_
  omega
  with_reducible refine fX3_span (LW.ms hL) (fun hXqc0 hXqw hXqh => ?_) (fun hSqc0 hSqc1 hSqc2 hSqc3 hSqw hSqh => ?_) (fun hTqc0 hTqc1 hTqc2 hTqr hTqq hTqc3 hTqc4 hTqc5 hTqw hTqh => ?_) (fun hFqc0 hFqc1 hFqc2 hFqr hFqq hFqc3 hFqc4 hFqc5 hFqw hFqh => ?_)
  with_reducible exact absurd (And.intro hSpc0 (And.intro hSpc1 hSpc2)) hXqc0
  simp only [eL_law_1212, kx_l, nl_int, tl_s]
  with_reducible exact next _ _ _ _ _ _ _ _ (LW.ofM hL hSqh) (by omega) (by omega)
  with_reducible exact (hSpc3.elim (fun e => nsC e hTqc3) (fun e => nsC e hTqc4)).elim
  with_reducible exact (hSpc3.elim (fun e => nsC e hFqc3) (fun e => nsC e hFqc4)).elim
  simp only [eL_law_1188, eL_law_1192, eL_law_1197, eL_law_1203, eL_law_1209, kx_l, wt_nil, nl_int, tl_s]
  with_reducible refine gi_W hTph hb ?_
  with_reducible refine And.intro ?_ ?_
  with_reducible assumption
  with_reducible refine gi_W hTph hb ?_
  with_reducible refine And.intro ?_ ?_
  with_reducible assumption
  with_reducible refine gi_W hTph hb ?_
  with_reducible refine And.intro ?_ ?_
  with_reducible assumption
  with_reducible refine And.intro ?_ ?_
  with_reducible refine LW.gz hTph (fun _ => trivial)
  with_reducible refine And.intro ?_ ?_
  omega
  with_reducible refine And.intro ?_ ?_
  omega
  with_reducible refine And.intro ?_ ?_
  omega
  with_reducible refine fX3_span (LW.ms hTph) (fun hXqc0 hXqw hXqh => ?_) (fun hSqc0 hSqc1 hSqc2 hSqc3 hSqw hSqh => ?_) (fun hTqc0 hTqc1 hTqc2 hTqr hTqq hTqc3 hTqc4 hTqc5 hTqw hTqh => ?_) (fun hFqc0 hFqc1 hFqc2 hFqr hFqq hFqc3 hFqc4 hFqc5 hFqw hFqh => ?_)
  with_reducible exact absurd (And.intro hTpc0 (And.intro hTpc1 hTpc2)) hXqc0
  with_reducible exact (hSqc3.elim (fun e => nsC e hTpc3) (fun e => nsC e hTpc4)).elim
  cases Option.some.inj (hTpc3.symm.trans hTqc3); clear hTqc3
  cases Option.some.inj (hTpc4.symm.trans hTqc4); clear hTqc4
  simp only [eL_law_1212, kx_l, nl_int, tl_s]
  with_reducible exact next _ _ _ _ _ _ _ _ (LW.ofM hTph hTqh) (by omega) (by omega)
  cases Option.some.inj (hTpc3.symm.trans hFqc3); clear hFqc3
  cases Option.some.inj (hTpc4.symm.trans hFqc4); clear hFqc4
  with_reducible exact absurd hTpc5 hFqc5
  simp only [eL_law_1188, eL_law_1192, eL_law_1197, eL_law_1203, eL_law_1209, kx_l, wt_nil, nl_int, tl_s]
  with_reducible refine gi_W hFph hb ?_
  with_reducible refine And.intro ?_ ?_
  with_reducible assumption
  with_reducible refine gi_W hFph hb ?_
  with_reducible refine And.intro ?_ ?_
  with_reducible assumption
  with_reducible refine gi_W hFph hb ?_
  with_reducible refine And.intro ?_ ?_
  with_reducible assumption
  with_reducible refine And.intro ?_ ?_
  with_reducible refine LW.gz hFph (fun _ => trivial)
  with_reducible refine And.intro ?_ ?_
  omega
  with_reducible refine And.intro ?_ ?_
  omega
  with_reducible refine And.intro ?_ ?_
  omega
  with_reducible refine fX3_span (LW.ms hFph) (fun hXqc0 hXqw hXqh => ?_) (fun hSqc0 hSqc1 hSqc2 hSqc3 hSqw hSqh => ?_) (fun hTqc0 hTqc1 hTqc2 hTqr hTqq hTqc3 hTqc4 hTqc5 hTqw hTqh => ?_) (fun hFqc0 hFqc1 hFqc2 hFqr hFqq hFqc3 hFqc4 hFqc5 hFqw hFqh => ?_)
  with_reducible exact absurd (And.intro hFpc0 (And.intro hFpc1 hFpc2)) hXqc0
  with_reducible exact (hSqc3.elim (fun e => nsC e hFpc3) (fun e => nsC e hFpc4)).elim
  cases Option.some.inj (hFpc3.symm.trans hTqc3); clear hTqc3
  cases Option.some.inj (hFpc4.symm.trans hTqc4); clear hTqc4
  with_reducible exact absurd hTqc5 hFpc5
  cases Option.some.inj (hFpc3.symm.trans hFqc3); clear hFqc3
  cases Option.some.inj (hFpc4.symm.trans hFqc4); clear hFqc4
  simp only [eL_law_1212, kx_l, nl_int, tl_s]
  with_reducible exact next _ _ _ _ _ _ _ _ (LW.ofM hFph hFqh) (by omega) (by omega)
set_option maxHeartbeats 4000000 in
theorem cL_19 (hR : RG g) (hb : g.2 b = some (.inl (1, L, .inl xs))) (hL : LW g w x nA cA lA y nM o kn kn th s s) (v1 : vp_in (i + 1) L) (v2 : vp_in (i + 2) L) (v3 : vp_in (i + 3) L) (v4 : vp_in (i + 4) L) (v5 : vp_in (i + 5) L) (hk : k + 114 ≤ 58408) (hn : n + 2834 ≤ 1451408) (next : (∀ (l5' l6' : Option Value) (w' : Hw) (k' n' : Nat) (kn' th' : Int32) (s' : AS), LW g w' x nA cA lA y nM o kn' kn' th' s' s' → k' ≤ k + 114 → n' ≤ n + 2834 → WP (ML_law g) QLaw (2246, [some (.ref b), some (.ref x), some (.ref y), some (.ref o), some (.int i), l5', l6'], [], w', k', n'))) : WP (ML_law g) QLaw (1217, [some (.ref b), some (.ref x), some (.ref y), some (.ref o), some (.int i), l5, l6], [], w, k, n) := by
  simp only [eL_law_1217, eL_law_1224, eL_law_1230, wt_nil]
  with_reducible refine gi_W hL hb ?_
  with_reducible refine And.intro ?_ ?_
  with_reducible assumption
  with_reducible refine gi_W hL hb ?_
  with_reducible refine And.intro ?_ ?_
  with_reducible assumption
  with_reducible refine And.intro ?_ ?_
  omega
  with_reducible refine And.intro ?_ ?_
  omega
  with_reducible refine And.intro ?_ ?_
  omega
  with_reducible refine fL_shift hL (fun hXpc0 => ?_) (fun hSpc0 hSpc1 => ?_) (fun hTpc0 hTpr hTpc1 hTpc2 hTpw hTph hTpo => ?_) (fun hFpc0 hFpr hFpc1 hFpc2 hFpw hFph hFpo => ?_)
  simp only [eL_law_1234, eL_law_1238, eL_law_1243, eL_law_1249, kx_l, wt_nil, nl_int, tl_s]
  with_reducible refine gi_W hL hb ?_
  with_reducible refine And.intro ?_ ?_
  with_reducible assumption
  with_reducible refine gi_W hL hb ?_
  with_reducible refine And.intro ?_ ?_
  with_reducible assumption
  with_reducible refine And.intro ?_ ?_
  with_reducible refine LW.gz hL (fun _ => trivial)
  with_reducible refine And.intro ?_ ?_
  omega
  with_reducible refine And.intro ?_ ?_
  omega
  with_reducible refine And.intro ?_ ?_
  omega
  with_reducible refine fX3_shift (LW.ms hL) (fun hXqc0 hXqw hXqh => ?_) (fun hSqc0 hSqc1 hSqw hSqh => ?_) (fun hTqc0 hTqr hTqc1 hTqc2 hTqw hTqh => ?_) (fun hFqc0 hFqr hFqc1 hFqc2 hFqw hFqh => ?_)
  simp only [eL_law_1252, kx_l, nl_int, tl_s]
  with_reducible exact next _ _ _ _ _ _ _ _ (LW.ofM hL hXqh) (by omega) (by omega)
  with_reducible exact absurd hSqc0 hXpc0
  with_reducible exact absurd hTqc0 hXpc0
  with_reducible exact absurd hFqc0 hXpc0
  simp only [eL_law_1234, eL_law_1238, eL_law_1243, eL_law_1249, kx_l, wt_nil, nl_int, tl_s]
  with_reducible refine gi_W hL hb ?_
  with_reducible refine And.intro ?_ ?_
  with_reducible assumption
  with_reducible refine gi_W hL hb ?_
  with_reducible refine And.intro ?_ ?_
  with_reducible assumption
  with_reducible refine And.intro ?_ ?_
  with_reducible refine LW.gz hL (fun _ => trivial)
  with_reducible refine And.intro ?_ ?_
  omega
  with_reducible refine And.intro ?_ ?_
  omega
  with_reducible refine And.intro ?_ ?_
  omega
  with_reducible refine fX3_shift (LW.ms hL) (fun hXqc0 hXqw hXqh => ?_) (fun hSqc0 hSqc1 hSqw hSqh => ?_) (fun hTqc0 hTqr hTqc1 hTqc2 hTqw hTqh => ?_) (fun hFqc0 hFqr hFqc1 hFqc2 hFqw hFqh => ?_)
  with_reducible exact absurd hSpc0 hXqc0
  simp only [eL_law_1252, kx_l, nl_int, tl_s]
  with_reducible exact next _ _ _ _ _ _ _ _ (LW.ofM hL hSqh) (by omega) (by omega)
  with_reducible exact (nsC hSpc1 hTqc1).elim
  with_reducible exact (nsC hSpc1 hFqc1).elim
  simp only [eL_law_1234, eL_law_1238, eL_law_1243, eL_law_1249, kx_l, wt_nil, nl_int, tl_s]
  with_reducible refine gi_W hTph hb ?_
  with_reducible refine And.intro ?_ ?_
  with_reducible assumption
  with_reducible refine gi_W hTph hb ?_
  with_reducible refine And.intro ?_ ?_
  with_reducible assumption
  with_reducible refine And.intro ?_ ?_
  with_reducible refine LW.gz hTph (fun _ => trivial)
  with_reducible refine And.intro ?_ ?_
  omega
  with_reducible refine And.intro ?_ ?_
  omega
  with_reducible refine And.intro ?_ ?_
  omega
  with_reducible refine fX3_shift (LW.ms hTph) (fun hXqc0 hXqw hXqh => ?_) (fun hSqc0 hSqc1 hSqw hSqh => ?_) (fun hTqc0 hTqr hTqc1 hTqc2 hTqw hTqh => ?_) (fun hFqc0 hFqr hFqc1 hFqc2 hFqw hFqh => ?_)
  with_reducible exact absurd hTpc0 hXqc0
  with_reducible exact (nsC hSqc1 hTpc1).elim
  cases Option.some.inj (hTpc1.symm.trans hTqc1); clear hTqc1
  simp only [eL_law_1252, kx_l, nl_int, tl_s]
  with_reducible exact next _ _ _ _ _ _ _ _ (LW.ofM hTph hTqh) (by omega) (by omega)
  cases Option.some.inj (hTpc1.symm.trans hFqc1); clear hFqc1
  with_reducible exact absurd hTpc2 hFqc2
  simp only [eL_law_1234, eL_law_1238, eL_law_1243, eL_law_1249, kx_l, wt_nil, nl_int, tl_s]
  with_reducible refine gi_W hFph hb ?_
  with_reducible refine And.intro ?_ ?_
  with_reducible assumption
  with_reducible refine gi_W hFph hb ?_
  with_reducible refine And.intro ?_ ?_
  with_reducible assumption
  with_reducible refine And.intro ?_ ?_
  with_reducible refine LW.gz hFph (fun _ => trivial)
  with_reducible refine And.intro ?_ ?_
  omega
  with_reducible refine And.intro ?_ ?_
  omega
  with_reducible refine And.intro ?_ ?_
  omega
  with_reducible refine fX3_shift (LW.ms hFph) (fun hXqc0 hXqw hXqh => ?_) (fun hSqc0 hSqc1 hSqw hSqh => ?_) (fun hTqc0 hTqr hTqc1 hTqc2 hTqw hTqh => ?_) (fun hFqc0 hFqr hFqc1 hFqc2 hFqw hFqh => ?_)
  with_reducible exact absurd hFpc0 hXqc0
  with_reducible exact (nsC hSqc1 hFpc1).elim
  cases Option.some.inj (hFpc1.symm.trans hTqc1); clear hTqc1
  with_reducible exact absurd hTqc2 hFpc2
  cases Option.some.inj (hFpc1.symm.trans hFqc1); clear hFqc1
  simp only [eL_law_1252, kx_l, nl_int, tl_s]
  with_reducible exact next _ _ _ _ _ _ _ _ (LW.ofM hFph hFqh) (by omega) (by omega)
set_option maxHeartbeats 4000000 in
theorem cL_20 (hR : RG g) (hb : g.2 b = some (.inl (1, L, .inl xs))) (hL : LW g w x nA cA lA y nM o kn kn th s s) (v1 : vp_in (i + 1) L) (v2 : vp_in (i + 2) L) (v3 : vp_in (i + 3) L) (v4 : vp_in (i + 4) L) (v5 : vp_in (i + 5) L) (hk : k + 114 ≤ 58408) (hn : n + 2834 ≤ 1451408) (next : (∀ (l5' l6' : Option Value) (w' : Hw) (k' n' : Nat) (kn' th' : Int32) (s' : AS), LW g w' x nA cA lA y nM o kn' kn' th' s' s' → k' ≤ k + 114 → n' ≤ n + 2834 → WP (ML_law g) QLaw (2246, [some (.ref b), some (.ref x), some (.ref y), some (.ref o), some (.int i), l5', l6'], [], w', k', n'))) : WP (ML_law g) QLaw (1257, [some (.ref b), some (.ref x), some (.ref y), some (.ref o), some (.int i), l5, l6], [], w, k, n) := by
  simp only [eL_law_1257, eL_law_1264, wt_nil]
  with_reducible refine gi_W hL hb ?_
  with_reducible refine And.intro ?_ ?_
  with_reducible assumption
  with_reducible refine And.intro ?_ ?_
  omega
  with_reducible refine And.intro ?_ ?_
  omega
  with_reducible refine And.intro ?_ ?_
  omega
  with_reducible refine fL_drop hL (fun hXpc0 => ?_) (fun hNpc0 hNpc1 hNpw hNph hNpo => ?_) (fun hSpc0 hSpr hSpc1 hSpw hSph hSpo => ?_)
  simp only [eL_law_1268, eL_law_1272, eL_law_1277, kx_l, wt_nil, nl_int, tl_s, Nat.add_zero]
  with_reducible refine gi_W hL hb ?_
  with_reducible refine And.intro ?_ ?_
  with_reducible assumption
  with_reducible refine And.intro ?_ ?_
  with_reducible refine LW.gz hL (fun _ => trivial)
  with_reducible refine And.intro ?_ ?_
  omega
  with_reducible refine And.intro ?_ ?_
  omega
  with_reducible refine And.intro ?_ ?_
  omega
  with_reducible refine fX3_drop (LW.ms hL) (fun hXqc0 hXqw hXqh => ?_) (fun hNqc0 hNqc1 hNqw hNqh => ?_) (fun hSqc0 hSqr hSqc1 hSqw hSqh => ?_)
  simp only [eL_law_1280, kx_l, nl_int, tl_s]
  with_reducible exact next _ _ _ _ _ _ _ _ (LW.ofM hL hXqh) (by omega) (by omega)
  with_reducible exact absurd hNqc0 hXpc0
  with_reducible exact absurd hSqc0 hXpc0
  simp only [eL_law_1268, eL_law_1272, eL_law_1277, kx_l, wt_nil, nl_int, tl_s, Nat.add_zero]
  with_reducible refine gi_W hNph hb ?_
  with_reducible refine And.intro ?_ ?_
  with_reducible assumption
  with_reducible refine And.intro ?_ ?_
  with_reducible refine LW.gz hNph (fun _ => trivial)
  with_reducible refine And.intro ?_ ?_
  omega
  with_reducible refine And.intro ?_ ?_
  omega
  with_reducible refine And.intro ?_ ?_
  omega
  with_reducible refine fX3_drop (LW.ms hNph) (fun hXqc0 hXqw hXqh => ?_) (fun hNqc0 hNqc1 hNqw hNqh => ?_) (fun hSqc0 hSqr hSqc1 hSqw hSqh => ?_)
  with_reducible exact absurd hNpc0 hXqc0
  simp only [eL_law_1280, kx_l, nl_int, tl_s]
  with_reducible exact next _ _ _ _ _ _ _ _ (LW.ofM hNph hNqh) (by omega) (by omega)
  with_reducible exact (nsC hNpc1 hSqc1).elim
  simp only [eL_law_1268, eL_law_1272, eL_law_1277, kx_l, wt_nil, nl_int, tl_s, Nat.add_zero]
  with_reducible refine gi_W hSph hb ?_
  with_reducible refine And.intro ?_ ?_
  with_reducible assumption
  with_reducible refine And.intro ?_ ?_
  with_reducible refine LW.gz hSph (fun _ => trivial)
  with_reducible refine And.intro ?_ ?_
  omega
  with_reducible refine And.intro ?_ ?_
  omega
  with_reducible refine And.intro ?_ ?_
  omega
  with_reducible refine fX3_drop (LW.ms hSph) (fun hXqc0 hXqw hXqh => ?_) (fun hNqc0 hNqc1 hNqw hNqh => ?_) (fun hSqc0 hSqr hSqc1 hSqw hSqh => ?_)
  with_reducible exact absurd hSpc0 hXqc0
  with_reducible exact (nsC hNqc1 hSpc1).elim
  cases Option.some.inj (hSpc1.symm.trans hSqc1); clear hSqc1
  simp only [eL_law_1280, kx_l, nl_int, tl_s]
  with_reducible exact next _ _ _ _ _ _ _ _ (LW.ofM hSph hSqh) (by omega) (by omega)
set_option maxHeartbeats 4000000 in
theorem cL_21 (hR : RG g) (hb : g.2 b = some (.inl (1, L, .inl xs))) (hL : LW g w x nA cA lA y nM o kn kn th s s) (v1 : vp_in (i + 1) L) (v2 : vp_in (i + 2) L) (v3 : vp_in (i + 3) L) (v4 : vp_in (i + 4) L) (v5 : vp_in (i + 5) L) (hk : k + 114 ≤ 58408) (hn : n + 2834 ≤ 1451408) (next : (∀ (l5' l6' : Option Value) (w' : Hw) (k' n' : Nat) (kn' th' : Int32) (s' : AS), LW g w' x nA cA lA y nM o kn' kn' th' s' s' → k' ≤ k + 114 → n' ≤ n + 2834 → WP (ML_law g) QLaw (2246, [some (.ref b), some (.ref x), some (.ref y), some (.ref o), some (.int i), l5', l6'], [], w', k', n'))) : WP (ML_law g) QLaw (1285, [some (.ref b), some (.ref x), some (.ref y), some (.ref o), some (.int i), l5, l6], [], w, k, n) := by
  simp only [eL_law_1285, eL_law_1292, wt_nil]
  with_reducible refine gi_W hL hb ?_
  with_reducible refine And.intro ?_ ?_
  with_reducible assumption
  with_reducible refine And.intro ?_ ?_
  omega
  with_reducible refine And.intro ?_ ?_
  omega
  with_reducible refine And.intro ?_ ?_
  omega
  with_reducible refine fL_isThere hL (fun hXpc0 => ?_) (fun hFpc0 hFpc1 hFpw hFph hFpo => ?_) (fun hTpc0 hTpr hTpc1 hTpw hTph hTpo => ?_)
  simp only [eL_law_1296, eL_law_1300, eL_law_1305, kx_l, wt_nil, nl_int, tl_s, Nat.add_zero]
  with_reducible refine gi_W hL hb ?_
  with_reducible refine And.intro ?_ ?_
  with_reducible assumption
  with_reducible refine And.intro ?_ ?_
  with_reducible refine LW.gz hL (fun _ => trivial)
  with_reducible refine And.intro ?_ ?_
  omega
  with_reducible refine And.intro ?_ ?_
  omega
  with_reducible refine And.intro ?_ ?_
  omega
  with_reducible refine fX3_isThere (LW.ms hL) (fun hXqc0 hXqw hXqh => ?_) (fun hFqc0 hFqc1 hFqw hFqh => ?_) (fun hTqc0 hTqr hTqc1 hTqw hTqh => ?_)
  simp only [eL_law_1308, kx_l, nl_int, tl_s]
  with_reducible exact next _ _ _ _ _ _ _ _ (LW.ofM hL hXqh) (by omega) (by omega)
  with_reducible exact absurd hFqc0 hXpc0
  with_reducible exact absurd hTqc0 hXpc0
  simp only [eL_law_1296, eL_law_1300, eL_law_1305, kx_l, wt_nil, nl_int, tl_s, Nat.add_zero]
  with_reducible refine gi_W hFph hb ?_
  with_reducible refine And.intro ?_ ?_
  with_reducible assumption
  with_reducible refine And.intro ?_ ?_
  with_reducible refine LW.gz hFph (fun _ => trivial)
  with_reducible refine And.intro ?_ ?_
  omega
  with_reducible refine And.intro ?_ ?_
  omega
  with_reducible refine And.intro ?_ ?_
  omega
  with_reducible refine fX3_isThere (LW.ms hFph) (fun hXqc0 hXqw hXqh => ?_) (fun hFqc0 hFqc1 hFqw hFqh => ?_) (fun hTqc0 hTqr hTqc1 hTqw hTqh => ?_)
  with_reducible exact absurd hFpc0 hXqc0
  simp only [eL_law_1308, kx_l, nl_int, tl_s]
  with_reducible exact next _ _ _ _ _ _ _ _ (LW.ofM hFph hFqh) (by omega) (by omega)
  with_reducible exact (nsC hFpc1 hTqc1).elim
  simp only [eL_law_1296, eL_law_1300, eL_law_1305, kx_l, wt_nil, nl_int, tl_s, Nat.add_zero]
  with_reducible refine gi_W hTph hb ?_
  with_reducible refine And.intro ?_ ?_
  with_reducible assumption
  with_reducible refine And.intro ?_ ?_
  with_reducible refine LW.gz hTph (fun _ => trivial)
  with_reducible refine And.intro ?_ ?_
  omega
  with_reducible refine And.intro ?_ ?_
  omega
  with_reducible refine And.intro ?_ ?_
  omega
  with_reducible refine fX3_isThere (LW.ms hTph) (fun hXqc0 hXqw hXqh => ?_) (fun hFqc0 hFqc1 hFqw hFqh => ?_) (fun hTqc0 hTqr hTqc1 hTqw hTqh => ?_)
  with_reducible exact absurd hTpc0 hXqc0
  with_reducible exact (nsC hFqc1 hTpc1).elim
  cases Option.some.inj (hTpc1.symm.trans hTqc1); clear hTqc1
  simp only [eL_law_1308, kx_l, nl_int, tl_s]
  with_reducible exact next _ _ _ _ _ _ _ _ (LW.ofM hTph hTqh) (by omega) (by omega)
set_option maxHeartbeats 4000000 in
theorem cL_22 (hR : RG g) (hb : g.2 b = some (.inl (1, L, .inl xs))) (hL : LW g w x nA cA lA y nM o kn kn th s s) (v1 : vp_in (i + 1) L) (v2 : vp_in (i + 2) L) (v3 : vp_in (i + 3) L) (v4 : vp_in (i + 4) L) (v5 : vp_in (i + 5) L) (hk : k + 114 ≤ 58408) (hn : n + 2834 ≤ 1451408) (next : (∀ (l5' l6' : Option Value) (w' : Hw) (k' n' : Nat) (kn' th' : Int32) (s' : AS), LW g w' x nA cA lA y nM o kn' kn' th' s' s' → k' ≤ k + 114 → n' ≤ n + 2834 → WP (ML_law g) QLaw (2246, [some (.ref b), some (.ref x), some (.ref y), some (.ref o), some (.int i), l5', l6'], [], w', k', n'))) : WP (ML_law g) QLaw (1313, [some (.ref b), some (.ref x), some (.ref y), some (.ref o), some (.int i), l5, l6], [], w, k, n) := by
  simp only [eL_law_1313, eL_law_1320, wt_nil]
  with_reducible refine gi_W hL hb ?_
  with_reducible refine And.intro ?_ ?_
  with_reducible assumption
  with_reducible refine And.intro ?_ ?_
  omega
  with_reducible refine And.intro ?_ ?_
  omega
  with_reducible refine And.intro ?_ ?_
  omega
  with_reducible refine fL_isFixed hL (fun hXpc0 => ?_) (fun hSpc0 hSpc1 => ?_) (fun hTpc0 hTpr hTpc1 hTpc2 hTpw hTph hTpo => ?_) (fun hFpc0 hFpr hFpc1 hFpc2 hFpw hFph hFpo => ?_)
  simp only [eL_law_1324, eL_law_1328, eL_law_1333, kx_l, wt_nil, nl_int, tl_s, Nat.add_zero]
  with_reducible refine gi_W hL hb ?_
  with_reducible refine And.intro ?_ ?_
  with_reducible assumption
  with_reducible refine And.intro ?_ ?_
  with_reducible refine LW.gz hL (fun _ => trivial)
  with_reducible refine And.intro ?_ ?_
  omega
  with_reducible refine And.intro ?_ ?_
  omega
  with_reducible refine And.intro ?_ ?_
  omega
  with_reducible refine fX3_isFixed (LW.ms hL) (fun hXqc0 hXqw hXqh => ?_) (fun hSqc0 hSqc1 hSqw hSqh => ?_) (fun hTqc0 hTqr hTqc1 hTqc2 hTqw hTqh => ?_) (fun hFqc0 hFqr hFqc1 hFqc2 hFqw hFqh => ?_)
  simp only [eL_law_1336, kx_l, nl_int, tl_s]
  with_reducible exact next _ _ _ _ _ _ _ _ (LW.ofM hL hXqh) (by omega) (by omega)
  with_reducible exact absurd hSqc0 hXpc0
  with_reducible exact absurd hTqc0 hXpc0
  with_reducible exact absurd hFqc0 hXpc0
  simp only [eL_law_1324, eL_law_1328, eL_law_1333, kx_l, wt_nil, nl_int, tl_s, Nat.add_zero]
  with_reducible refine gi_W hL hb ?_
  with_reducible refine And.intro ?_ ?_
  with_reducible assumption
  with_reducible refine And.intro ?_ ?_
  with_reducible refine LW.gz hL (fun _ => trivial)
  with_reducible refine And.intro ?_ ?_
  omega
  with_reducible refine And.intro ?_ ?_
  omega
  with_reducible refine And.intro ?_ ?_
  omega
  with_reducible refine fX3_isFixed (LW.ms hL) (fun hXqc0 hXqw hXqh => ?_) (fun hSqc0 hSqc1 hSqw hSqh => ?_) (fun hTqc0 hTqr hTqc1 hTqc2 hTqw hTqh => ?_) (fun hFqc0 hFqr hFqc1 hFqc2 hFqw hFqh => ?_)
  with_reducible exact absurd hSpc0 hXqc0
  simp only [eL_law_1336, kx_l, nl_int, tl_s]
  with_reducible exact next _ _ _ _ _ _ _ _ (LW.ofM hL hSqh) (by omega) (by omega)
  with_reducible exact (nsC hSpc1 hTqc1).elim
  with_reducible exact (nsC hSpc1 hFqc1).elim
  simp only [eL_law_1324, eL_law_1328, eL_law_1333, kx_l, wt_nil, nl_int, tl_s, Nat.add_zero]
  with_reducible refine gi_W hTph hb ?_
  with_reducible refine And.intro ?_ ?_
  with_reducible assumption
  with_reducible refine And.intro ?_ ?_
  with_reducible refine LW.gz hTph (fun _ => trivial)
  with_reducible refine And.intro ?_ ?_
  omega
  with_reducible refine And.intro ?_ ?_
  omega
  with_reducible refine And.intro ?_ ?_
  omega
  with_reducible refine fX3_isFixed (LW.ms hTph) (fun hXqc0 hXqw hXqh => ?_) (fun hSqc0 hSqc1 hSqw hSqh => ?_) (fun hTqc0 hTqr hTqc1 hTqc2 hTqw hTqh => ?_) (fun hFqc0 hFqr hFqc1 hFqc2 hFqw hFqh => ?_)
  with_reducible exact absurd hTpc0 hXqc0
  with_reducible exact (nsC hSqc1 hTpc1).elim
  cases Option.some.inj (hTpc1.symm.trans hTqc1); clear hTqc1
  simp only [eL_law_1336, kx_l, nl_int, tl_s]
  with_reducible exact next _ _ _ _ _ _ _ _ (LW.ofM hTph hTqh) (by omega) (by omega)
  cases Option.some.inj (hTpc1.symm.trans hFqc1); clear hFqc1
  with_reducible exact absurd hTpc2 hFqc2
  simp only [eL_law_1324, eL_law_1328, eL_law_1333, kx_l, wt_nil, nl_int, tl_s, Nat.add_zero]
  with_reducible refine gi_W hFph hb ?_
  with_reducible refine And.intro ?_ ?_
  with_reducible assumption
  with_reducible refine And.intro ?_ ?_
  with_reducible refine LW.gz hFph (fun _ => trivial)
  with_reducible refine And.intro ?_ ?_
  omega
  with_reducible refine And.intro ?_ ?_
  omega
  with_reducible refine And.intro ?_ ?_
  omega
  with_reducible refine fX3_isFixed (LW.ms hFph) (fun hXqc0 hXqw hXqh => ?_) (fun hSqc0 hSqc1 hSqw hSqh => ?_) (fun hTqc0 hTqr hTqc1 hTqc2 hTqw hTqh => ?_) (fun hFqc0 hFqr hFqc1 hFqc2 hFqw hFqh => ?_)
  with_reducible exact absurd hFpc0 hXqc0
  with_reducible exact (nsC hSqc1 hFpc1).elim
  cases Option.some.inj (hFpc1.symm.trans hTqc1); clear hTqc1
  with_reducible exact absurd hTqc2 hFpc2
  cases Option.some.inj (hFpc1.symm.trans hFqc1); clear hFqc1
  simp only [eL_law_1336, kx_l, nl_int, tl_s]
  with_reducible exact next _ _ _ _ _ _ _ _ (LW.ofM hFph hFqh) (by omega) (by omega)
set_option maxHeartbeats 4000000 in
theorem cL_23 (hR : RG g) (hb : g.2 b = some (.inl (1, L, .inl xs))) (hL : LW g w x nA cA lA y nM o kn kn th s s) (v1 : vp_in (i + 1) L) (v2 : vp_in (i + 2) L) (v3 : vp_in (i + 3) L) (v4 : vp_in (i + 4) L) (v5 : vp_in (i + 5) L) (hk : k + 114 ≤ 58408) (hn : n + 2834 ≤ 1451408) (next : (∀ (l5' l6' : Option Value) (w' : Hw) (k' n' : Nat) (kn' th' : Int32) (s' : AS), LW g w' x nA cA lA y nM o kn' kn' th' s' s' → k' ≤ k + 114 → n' ≤ n + 2834 → WP (ML_law g) QLaw (2246, [some (.ref b), some (.ref x), some (.ref y), some (.ref o), some (.int i), l5', l6'], [], w', k', n'))) : WP (ML_law g) QLaw (1341, [some (.ref b), some (.ref x), some (.ref y), some (.ref o), some (.int i), l5, l6], [], w, k, n) := by
  simp only [eL_law_1341, eL_law_1348, wt_nil]
  with_reducible refine gi_W hL hb ?_
  with_reducible refine And.intro ?_ ?_
  with_reducible assumption
  with_reducible refine And.intro ?_ ?_
  omega
  with_reducible refine And.intro ?_ ?_
  omega
  with_reducible refine And.intro ?_ ?_
  omega
  with_reducible refine fL_isSmall hL (fun hXpc0 => ?_) (fun hSpc0 hSpc1 => ?_) (fun hTpc0 hTpr hTpc1 hTpc2 hTpw hTph hTpo => ?_) (fun hFpc0 hFpr hFpc1 hFpc2 hFpw hFph hFpo => ?_)
  simp only [eL_law_1352, eL_law_1356, eL_law_1361, kx_l, wt_nil, nl_int, tl_s, Nat.add_zero]
  with_reducible refine gi_W hL hb ?_
  with_reducible refine And.intro ?_ ?_
  with_reducible assumption
  with_reducible refine And.intro ?_ ?_
  with_reducible refine LW.gz hL (fun _ => trivial)
  with_reducible refine And.intro ?_ ?_
  omega
  with_reducible refine And.intro ?_ ?_
  omega
  with_reducible refine And.intro ?_ ?_
  omega
  with_reducible refine fX3_isSmall (LW.ms hL) (fun hXqc0 hXqw hXqh => ?_) (fun hSqc0 hSqc1 hSqw hSqh => ?_) (fun hTqc0 hTqr hTqc1 hTqc2 hTqw hTqh => ?_) (fun hFqc0 hFqr hFqc1 hFqc2 hFqw hFqh => ?_)
  simp only [eL_law_1364, kx_l, nl_int, tl_s]
  with_reducible exact next _ _ _ _ _ _ _ _ (LW.ofM hL hXqh) (by omega) (by omega)
  with_reducible exact absurd hSqc0 hXpc0
  with_reducible exact absurd hTqc0 hXpc0
  with_reducible exact absurd hFqc0 hXpc0
  simp only [eL_law_1352, eL_law_1356, eL_law_1361, kx_l, wt_nil, nl_int, tl_s, Nat.add_zero]
  with_reducible refine gi_W hL hb ?_
  with_reducible refine And.intro ?_ ?_
  with_reducible assumption
  with_reducible refine And.intro ?_ ?_
  with_reducible refine LW.gz hL (fun _ => trivial)
  with_reducible refine And.intro ?_ ?_
  omega
  with_reducible refine And.intro ?_ ?_
  omega
  with_reducible refine And.intro ?_ ?_
  omega
  with_reducible refine fX3_isSmall (LW.ms hL) (fun hXqc0 hXqw hXqh => ?_) (fun hSqc0 hSqc1 hSqw hSqh => ?_) (fun hTqc0 hTqr hTqc1 hTqc2 hTqw hTqh => ?_) (fun hFqc0 hFqr hFqc1 hFqc2 hFqw hFqh => ?_)
  with_reducible exact absurd hSpc0 hXqc0
  simp only [eL_law_1364, kx_l, nl_int, tl_s]
  with_reducible exact next _ _ _ _ _ _ _ _ (LW.ofM hL hSqh) (by omega) (by omega)
  with_reducible exact (nsC hSpc1 hTqc1).elim
  with_reducible exact (nsC hSpc1 hFqc1).elim
  simp only [eL_law_1352, eL_law_1356, eL_law_1361, kx_l, wt_nil, nl_int, tl_s, Nat.add_zero]
  with_reducible refine gi_W hTph hb ?_
  with_reducible refine And.intro ?_ ?_
  with_reducible assumption
  with_reducible refine And.intro ?_ ?_
  with_reducible refine LW.gz hTph (fun _ => trivial)
  with_reducible refine And.intro ?_ ?_
  omega
  with_reducible refine And.intro ?_ ?_
  omega
  with_reducible refine And.intro ?_ ?_
  omega
  with_reducible refine fX3_isSmall (LW.ms hTph) (fun hXqc0 hXqw hXqh => ?_) (fun hSqc0 hSqc1 hSqw hSqh => ?_) (fun hTqc0 hTqr hTqc1 hTqc2 hTqw hTqh => ?_) (fun hFqc0 hFqr hFqc1 hFqc2 hFqw hFqh => ?_)
  with_reducible exact absurd hTpc0 hXqc0
  with_reducible exact (nsC hSqc1 hTpc1).elim
  cases Option.some.inj (hTpc1.symm.trans hTqc1); clear hTqc1
  simp only [eL_law_1364, kx_l, nl_int, tl_s]
  with_reducible exact next _ _ _ _ _ _ _ _ (LW.ofM hTph hTqh) (by omega) (by omega)
  cases Option.some.inj (hTpc1.symm.trans hFqc1); clear hFqc1
  with_reducible exact absurd hTpc2 hFqc2
  simp only [eL_law_1352, eL_law_1356, eL_law_1361, kx_l, wt_nil, nl_int, tl_s, Nat.add_zero]
  with_reducible refine gi_W hFph hb ?_
  with_reducible refine And.intro ?_ ?_
  with_reducible assumption
  with_reducible refine And.intro ?_ ?_
  with_reducible refine LW.gz hFph (fun _ => trivial)
  with_reducible refine And.intro ?_ ?_
  omega
  with_reducible refine And.intro ?_ ?_
  omega
  with_reducible refine And.intro ?_ ?_
  omega
  with_reducible refine fX3_isSmall (LW.ms hFph) (fun hXqc0 hXqw hXqh => ?_) (fun hSqc0 hSqc1 hSqw hSqh => ?_) (fun hTqc0 hTqr hTqc1 hTqc2 hTqw hTqh => ?_) (fun hFqc0 hFqr hFqc1 hFqc2 hFqw hFqh => ?_)
  with_reducible exact absurd hFpc0 hXqc0
  with_reducible exact (nsC hSqc1 hFpc1).elim
  cases Option.some.inj (hFpc1.symm.trans hTqc1); clear hTqc1
  with_reducible exact absurd hTqc2 hFpc2
  cases Option.some.inj (hFpc1.symm.trans hFqc1); clear hFqc1
  simp only [eL_law_1364, kx_l, nl_int, tl_s]
  with_reducible exact next _ _ _ _ _ _ _ _ (LW.ofM hFph hFqh) (by omega) (by omega)
end
end
