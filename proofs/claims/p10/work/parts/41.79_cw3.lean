section
section
variable {g : RO} {w : Hw} {x nA cA lA y nM o b L k n : Nat} {xs : Nat → Int32} {i kn th : Int32} {s : AS} {l5 l6 : Option Value}
set_option maxHeartbeats 4000000 in
theorem cL_36 (hR : RG g) (hb : g.2 b = some (.inl (1, L, .inl xs))) (hL : LW g w x nA cA lA y nM o kn kn th s s) (v1 : vp_in (i + 1) L) (v2 : vp_in (i + 2) L) (v3 : vp_in (i + 3) L) (v4 : vp_in (i + 4) L) (v5 : vp_in (i + 5) L) (hk : k + 114 ≤ 58408) (hn : n + 2834 ≤ 1451408) (next : (∀ (l5' l6' : Option Value) (w' : Hw) (k' n' : Nat) (kn' th' : Int32) (s' : AS), LW g w' x nA cA lA y nM o kn' kn' th' s' s' → k' ≤ k + 114 → n' ≤ n + 2834 → WP (ML_law g) QLaw (2246, [some (.ref b), some (.ref x), some (.ref y), some (.ref o), some (.int i), l5', l6'], [], w', k', n'))) : WP (ML_law g) QLaw (1905, [some (.ref b), some (.ref x), some (.ref y), some (.ref o), some (.int i), l5, l6], [], w, k, n) := by
  simp only [eL_law_1905, eL_law_1912, wt_nil]
  with_reducible refine gi_W hL hb ?_
  with_reducible refine And.intro ?_ ?_
  with_reducible assumption
  with_reducible refine And.intro ?_ ?_
  omega
  with_reducible refine And.intro ?_ ?_
  omega
  with_reducible refine And.intro ?_ ?_
  omega
  with_reducible refine gL_likes hR hL (fun v1 w1 h1 => ?_)
  simp only [eL_law_1916, eL_law_1920, eL_law_1925, kx_l, wt_nil, nl_int, tl_s, Nat.add_zero]
  with_reducible refine gi_W h1 hb ?_
  with_reducible refine And.intro ?_ ?_
  with_reducible assumption
  with_reducible refine And.intro ?_ ?_
  with_reducible refine LW.gz h1 (fun _ => trivial)
  with_reducible refine And.intro ?_ ?_
  omega
  with_reducible refine And.intro ?_ ?_
  omega
  with_reducible refine And.intro ?_ ?_
  omega
  with_reducible refine gX3_likes (LW.ms h1) (fun v2 t2 w2 m2 => ?_)
  simp only [eL_law_1928, kx_l, nl_int, tl_s]
  with_reducible exact next _ _ _ _ _ _ _ _ (LW.ofM h1 m2) (by omega) (by omega)
set_option maxHeartbeats 4000000 in
theorem cL_37 (hR : RG g) (hb : g.2 b = some (.inl (1, L, .inl xs))) (hL : LW g w x nA cA lA y nM o kn kn th s s) (v1 : vp_in (i + 1) L) (v2 : vp_in (i + 2) L) (v3 : vp_in (i + 3) L) (v4 : vp_in (i + 4) L) (v5 : vp_in (i + 5) L) (hk : k + 114 ≤ 58408) (hn : n + 2834 ≤ 1451408) (next : (∀ (l5' l6' : Option Value) (w' : Hw) (k' n' : Nat) (kn' th' : Int32) (s' : AS), LW g w' x nA cA lA y nM o kn' kn' th' s' s' → k' ≤ k + 114 → n' ≤ n + 2834 → WP (ML_law g) QLaw (2246, [some (.ref b), some (.ref x), some (.ref y), some (.ref o), some (.int i), l5', l6'], [], w', k', n'))) : WP (ML_law g) QLaw (1933, [some (.ref b), some (.ref x), some (.ref y), some (.ref o), some (.int i), l5, l6], [], w, k, n) := by
  simp only [eL_law_1933, eL_law_1940, wt_nil]
  with_reducible refine gi_W hL hb ?_
  with_reducible refine And.intro ?_ ?_
  with_reducible assumption
  with_reducible refine And.intro ?_ ?_
  omega
  with_reducible refine And.intro ?_ ?_
  omega
  with_reducible refine And.intro ?_ ?_
  omega
  with_reducible refine fL_lay hL (fun hXpc0 => ?_) (fun hSpc0 hSpc1 => ?_) (fun hFpc0 hFpr hFpc1 hFpc2 hFpw hFph hFpo => ?_) (fun hQpc0 hQpr hQpc1 hQpc2 hQpw hQph hQpo => ?_)
  simp only [eL_law_1944, eL_law_1948, eL_law_1953, kx_l, wt_nil, nl_int, tl_s]
  with_reducible refine gi_W hL hb ?_
  with_reducible refine And.intro ?_ ?_
  with_reducible assumption
  with_reducible refine And.intro ?_ ?_
  with_reducible refine LW.gz hL (fun _ => trivial)
  with_reducible refine And.intro ?_ ?_
  omega
  with_reducible refine And.intro ?_ ?_
  omega
  with_reducible refine And.intro ?_ ?_
  omega
  with_reducible refine fX3_lay (LW.ms hL) (hR.eg (LW.ro hL)) hR.sg (fun hXqc0 hXqw hXqh => ?_) (fun hSqc0 hSqc1 hSqw hSqh => ?_) (fun hFqc0 hFqr hFqc1 hFqc2 hFqw hFqh => ?_) (fun hQqc0 hQqr hQqc1 hQqc2 hQqw hQqh => ?_)
  simp only [eL_law_1956, kx_l, nl_int, tl_s]
  with_reducible exact next _ _ _ _ _ _ _ _ (LW.ofM hL hXqh) (by omega) (by omega)
  with_reducible exact absurd hSqc0 hXpc0
  with_reducible exact absurd hFqc0 hXpc0
  with_reducible exact absurd hQqc0 hXpc0
  simp only [eL_law_1944, eL_law_1948, eL_law_1953, kx_l, wt_nil, nl_int, tl_s]
  with_reducible refine gi_W hL hb ?_
  with_reducible refine And.intro ?_ ?_
  with_reducible assumption
  with_reducible refine And.intro ?_ ?_
  with_reducible refine LW.gz hL (fun _ => trivial)
  with_reducible refine And.intro ?_ ?_
  omega
  with_reducible refine And.intro ?_ ?_
  omega
  with_reducible refine And.intro ?_ ?_
  omega
  with_reducible refine fX3_lay (LW.ms hL) (hR.eg (LW.ro hL)) hR.sg (fun hXqc0 hXqw hXqh => ?_) (fun hSqc0 hSqc1 hSqw hSqh => ?_) (fun hFqc0 hFqr hFqc1 hFqc2 hFqw hFqh => ?_) (fun hQqc0 hQqr hQqc1 hQqc2 hQqw hQqh => ?_)
  with_reducible exact absurd hSpc0 hXqc0
  simp only [eL_law_1956, kx_l, nl_int, tl_s]
  with_reducible exact next _ _ _ _ _ _ _ _ (LW.ofM hL hSqh) (by omega) (by omega)
  with_reducible exact (nsC hSpc1 hFqc1).elim
  with_reducible exact (nsC hSpc1 hQqc1).elim
  simp only [eL_law_1944, eL_law_1948, eL_law_1953, kx_l, wt_nil, nl_int, tl_s]
  with_reducible refine gi_W hFph hb ?_
  with_reducible refine And.intro ?_ ?_
  with_reducible assumption
  with_reducible refine And.intro ?_ ?_
  with_reducible refine LW.gz hFph (fun _ => trivial)
  with_reducible refine And.intro ?_ ?_
  omega
  with_reducible refine And.intro ?_ ?_
  omega
  with_reducible refine And.intro ?_ ?_
  omega
  with_reducible refine fX3_lay (LW.ms hFph) (hR.eg (LW.ro hFph)) hR.sg (fun hXqc0 hXqw hXqh => ?_) (fun hSqc0 hSqc1 hSqw hSqh => ?_) (fun hFqc0 hFqr hFqc1 hFqc2 hFqw hFqh => ?_) (fun hQqc0 hQqr hQqc1 hQqc2 hQqw hQqh => ?_)
  with_reducible exact absurd hFpc0 hXqc0
  with_reducible exact (nsC hSqc1 hFpc1).elim
  cases Option.some.inj (hFpc1.symm.trans hFqc1); clear hFqc1
  simp only [eL_law_1956, kx_l, nl_int, tl_s]
  with_reducible exact next _ _ _ _ _ _ _ _ (LW.ofM hFph hFqh) (by omega) (by omega)
  cases Option.some.inj (hFpc1.symm.trans hQqc1); clear hQqc1
  with_reducible exact absurd hQqc2 hFpc2
  simp only [eL_law_1944, eL_law_1948, eL_law_1953, kx_l, wt_nil, nl_int, tl_s]
  with_reducible refine gi_W hQph hb ?_
  with_reducible refine And.intro ?_ ?_
  with_reducible assumption
  with_reducible refine And.intro ?_ ?_
  with_reducible refine LW.gz hQph (fun _ => trivial)
  with_reducible refine And.intro ?_ ?_
  omega
  with_reducible refine And.intro ?_ ?_
  omega
  with_reducible refine And.intro ?_ ?_
  omega
  with_reducible refine fX3_lay (LW.ms hQph) (hR.eg (LW.ro hQph)) hR.sg (fun hXqc0 hXqw hXqh => ?_) (fun hSqc0 hSqc1 hSqw hSqh => ?_) (fun hFqc0 hFqr hFqc1 hFqc2 hFqw hFqh => ?_) (fun hQqc0 hQqr hQqc1 hQqc2 hQqw hQqh => ?_)
  with_reducible exact absurd hQpc0 hXqc0
  with_reducible exact (nsC hSqc1 hQpc1).elim
  cases Option.some.inj (hQpc1.symm.trans hFqc1); clear hFqc1
  with_reducible exact absurd hQpc2 hFqc2
  cases Option.some.inj (hQpc1.symm.trans hQqc1); clear hQqc1
  simp only [eL_law_1956, kx_l, nl_int, tl_s]
  with_reducible exact next _ _ _ _ _ _ _ _ (LW.ofM hQph hQqh) (by omega) (by omega)
set_option maxHeartbeats 4000000 in
theorem cL_38 (hR : RG g) (hb : g.2 b = some (.inl (1, L, .inl xs))) (hL : LW g w x nA cA lA y nM o kn kn th s s) (v1 : vp_in (i + 1) L) (v2 : vp_in (i + 2) L) (v3 : vp_in (i + 3) L) (v4 : vp_in (i + 4) L) (v5 : vp_in (i + 5) L) (hk : k + 114 ≤ 58408) (hn : n + 2834 ≤ 1451408) (next : (∀ (l5' l6' : Option Value) (w' : Hw) (k' n' : Nat) (kn' th' : Int32) (s' : AS), LW g w' x nA cA lA y nM o kn' kn' th' s' s' → k' ≤ k + 114 → n' ≤ n + 2834 → WP (ML_law g) QLaw (2246, [some (.ref b), some (.ref x), some (.ref y), some (.ref o), some (.int i), l5', l6'], [], w', k', n'))) : WP (ML_law g) QLaw (1961, [some (.ref b), some (.ref x), some (.ref y), some (.ref o), some (.int i), l5, l6], [], w, k, n) := by
  simp only [eL_law_1961, eL_law_1968, eL_law_1974, eL_law_1977, eL_law_1981, eL_law_1982, wt_nil]
  with_reducible refine gi_W hL hb ?_
  with_reducible refine And.intro ?_ ?_
  with_reducible assumption
  with_reducible refine gi_W hL hb ?_
  with_reducible refine And.intro ?_ ?_
  with_reducible assumption
  split
  with_reducible refine And.intro ?_ ?_
  omega
  with_reducible refine And.intro ?_ ?_
  omega
  with_reducible refine And.intro ?_ ?_
  omega
  with_reducible refine fL_seek hL (fun hXpc0 => ?_) (fun hSpc0 hSpc1 => ?_) (fun hNpc0 hNpr hNpc1 hNpc2 hNpw hNph hNpo => ?_) (fun hFpc0 hFpc1 hFpr hFpc2 hFpi hFpc3 hFpc4 hFpc5 hFpw hFph hFpo => ?_) (fun hLLpc0 hLLpc1 hLLpr hLLpc2 hLLpi hLLpc3 hLLpc4 hLLpc5 hLLpw hLLph hLLpo => ?_)
  simp only [eL_law_1986, eL_law_1990, eL_law_1995, eL_law_2001, eL_law_2004, eL_law_2008, eL_law_2009, kx_l, wt_nil, nl_int, tl_s, Nat.add_zero]
  with_reducible refine gi_W hL hb ?_
  with_reducible refine And.intro ?_ ?_
  with_reducible assumption
  with_reducible refine gi_W hL hb ?_
  with_reducible refine And.intro ?_ ?_
  with_reducible assumption
  split
  with_reducible refine And.intro ?_ ?_
  with_reducible refine LW.gz hL (fun _ => trivial)
  with_reducible refine And.intro ?_ ?_
  omega
  with_reducible refine And.intro ?_ ?_
  omega
  with_reducible refine And.intro ?_ ?_
  omega
  with_reducible refine fX3_seek (LW.ms hL) (fun hXqc0 hXqw hXqh => ?_) (fun hSqc0 hSqc1 hSqw hSqh => ?_) (fun hQqc0 hQqr hQqc1 hQqw hQqh => ?_)
  simp only [eL_law_2012, kx_l, nl_int, tl_s]
  with_reducible exact next _ _ _ _ _ _ _ _ (LW.ofM hL hXqh) (by omega) (by omega)
  with_reducible exact absurd hSqc0 hXpc0
  with_reducible exact absurd hQqc0 hXpc0
  with_reducible refine And.intro ?_ ?_
  with_reducible refine LW.gz hL (fun _ => trivial)
  with_reducible refine And.intro ?_ ?_
  with_reducible exact absurd (show xs (i + 2).toNatClampNeg = 0 by assumption) (by assumption)
  with_reducible refine And.intro ?_ ?_
  with_reducible exact absurd (show xs (i + 2).toNatClampNeg = 0 by assumption) (by assumption)
  with_reducible refine And.intro ?_ ?_
  with_reducible exact absurd (show xs (i + 2).toNatClampNeg = 0 by assumption) (by assumption)
  with_reducible refine fX3_seek (LW.ms hL) (fun hXqc0 hXqw hXqh => ?_) (fun hSqc0 hSqc1 hSqw hSqh => ?_) (fun hQqc0 hQqr hQqc1 hQqw hQqh => ?_)
  with_reducible exact absurd (show xs (i + 2).toNatClampNeg = 0 by assumption) (by assumption)
  with_reducible exact absurd hSqc0 hXpc0
  with_reducible exact absurd hQqc0 hXpc0
  simp only [eL_law_1986, eL_law_1990, eL_law_1995, eL_law_2001, eL_law_2004, eL_law_2008, eL_law_2009, kx_l, wt_nil, nl_int, tl_s, Nat.add_zero]
  with_reducible refine gi_W hL hb ?_
  with_reducible refine And.intro ?_ ?_
  with_reducible assumption
  with_reducible refine gi_W hL hb ?_
  with_reducible refine And.intro ?_ ?_
  with_reducible assumption
  split
  with_reducible refine And.intro ?_ ?_
  with_reducible refine LW.gz hL (fun _ => trivial)
  with_reducible refine And.intro ?_ ?_
  omega
  with_reducible refine And.intro ?_ ?_
  omega
  with_reducible refine And.intro ?_ ?_
  omega
  with_reducible refine fX3_seek (LW.ms hL) (fun hXqc0 hXqw hXqh => ?_) (fun hSqc0 hSqc1 hSqw hSqh => ?_) (fun hQqc0 hQqr hQqc1 hQqw hQqh => ?_)
  with_reducible exact absurd hSpc0 hXqc0
  simp only [eL_law_2012, kx_l, nl_int, tl_s]
  with_reducible exact next _ _ _ _ _ _ _ _ (LW.ofM hL hSqh) (by omega) (by omega)
  with_reducible exact (nsC hSpc1 hQqc1).elim
  with_reducible refine And.intro ?_ ?_
  with_reducible refine LW.gz hL (fun _ => trivial)
  with_reducible refine And.intro ?_ ?_
  with_reducible exact absurd (show xs (i + 2).toNatClampNeg = 0 by assumption) (by assumption)
  with_reducible refine And.intro ?_ ?_
  with_reducible exact absurd (show xs (i + 2).toNatClampNeg = 0 by assumption) (by assumption)
  with_reducible refine And.intro ?_ ?_
  with_reducible exact absurd (show xs (i + 2).toNatClampNeg = 0 by assumption) (by assumption)
  with_reducible refine fX3_seek (LW.ms hL) (fun hXqc0 hXqw hXqh => ?_) (fun hSqc0 hSqc1 hSqw hSqh => ?_) (fun hQqc0 hQqr hQqc1 hQqw hQqh => ?_)
  with_reducible exact absurd hSpc0 hXqc0
  with_reducible exact absurd (show xs (i + 2).toNatClampNeg = 0 by assumption) (by assumption)
  with_reducible exact (nsC hSpc1 hQqc1).elim
  simp only [eL_law_1986, eL_law_1990, eL_law_1995, eL_law_2001, eL_law_2004, eL_law_2008, eL_law_2009, kx_l, wt_nil, nl_int, tl_s, Nat.add_zero]
  with_reducible refine gi_W hNph hb ?_
  with_reducible refine And.intro ?_ ?_
  with_reducible assumption
  with_reducible refine gi_W hNph hb ?_
  with_reducible refine And.intro ?_ ?_
  with_reducible assumption
  split
  with_reducible refine And.intro ?_ ?_
  with_reducible refine LW.gz hNph (fun _ => trivial)
  with_reducible refine And.intro ?_ ?_
  omega
  with_reducible refine And.intro ?_ ?_
  omega
  with_reducible refine And.intro ?_ ?_
  omega
  with_reducible refine fX3_seek (LW.ms hNph) (fun hXqc0 hXqw hXqh => ?_) (fun hSqc0 hSqc1 hSqw hSqh => ?_) (fun hQqc0 hQqr hQqc1 hQqw hQqh => ?_)
  with_reducible exact absurd hNpc0 hXqc0
  with_reducible exact (nsC hSqc1 hNpc1).elim
  cases Option.some.inj (hNpc1.symm.trans hQqc1); clear hQqc1
  simp only [eL_law_2012, kx_l, nl_int, tl_s]
  with_reducible exact next _ _ _ _ _ _ _ _ (LW.ofM hNph hQqh) (by omega) (by omega)
  with_reducible refine And.intro ?_ ?_
  with_reducible refine LW.gz hNph (fun _ => trivial)
  with_reducible refine And.intro ?_ ?_
  with_reducible exact absurd (show xs (i + 2).toNatClampNeg = 0 by assumption) (by assumption)
  with_reducible refine And.intro ?_ ?_
  with_reducible exact absurd (show xs (i + 2).toNatClampNeg = 0 by assumption) (by assumption)
  with_reducible refine And.intro ?_ ?_
  with_reducible exact absurd (show xs (i + 2).toNatClampNeg = 0 by assumption) (by assumption)
  with_reducible refine fX3_seek (LW.ms hNph) (fun hXqc0 hXqw hXqh => ?_) (fun hSqc0 hSqc1 hSqw hSqh => ?_) (fun hQqc0 hQqr hQqc1 hQqw hQqh => ?_)
  with_reducible exact absurd hNpc0 hXqc0
  with_reducible exact (nsC hSqc1 hNpc1).elim
  cases Option.some.inj (hNpc1.symm.trans hQqc1); clear hQqc1
  with_reducible exact absurd (show xs (i + 2).toNatClampNeg = 0 by assumption) (by assumption)
  simp only [eL_law_1986, eL_law_1990, eL_law_1995, eL_law_2001, eL_law_2004, eL_law_2008, eL_law_2009, kx_l, wt_nil, nl_int, tl_s, Nat.add_zero]
  with_reducible refine gi_W hFph hb ?_
  with_reducible refine And.intro ?_ ?_
  with_reducible assumption
  with_reducible refine gi_W hFph hb ?_
  with_reducible refine And.intro ?_ ?_
  with_reducible assumption
  split
  with_reducible refine And.intro ?_ ?_
  with_reducible refine LW.gz hFph (fun _ => trivial)
  with_reducible refine And.intro ?_ ?_
  omega
  with_reducible refine And.intro ?_ ?_
  omega
  with_reducible refine And.intro ?_ ?_
  omega
  with_reducible refine fX3_seek (LW.ms hFph) (fun hXqc0 hXqw hXqh => ?_) (fun hSqc0 hSqc1 hSqw hSqh => ?_) (fun hQqc0 hQqr hQqc1 hQqw hQqh => ?_)
  with_reducible exact absurd hFpc1 hXqc0
  with_reducible exact (nsC hSqc1 hFpc2).elim
  cases Option.some.inj (hFpc2.symm.trans hQqc1); clear hQqc1
  simp only [eL_law_2012, kx_l, nl_int, tl_s]
  with_reducible exact next _ _ _ _ _ _ _ _ (LW.ofM hFph hQqh) (by omega) (by omega)
  with_reducible refine And.intro ?_ ?_
  with_reducible refine LW.gz hFph (fun _ => trivial)
  with_reducible refine And.intro ?_ ?_
  with_reducible exact absurd (show xs (i + 2).toNatClampNeg = 0 by assumption) (by assumption)
  with_reducible refine And.intro ?_ ?_
  with_reducible exact absurd (show xs (i + 2).toNatClampNeg = 0 by assumption) (by assumption)
  with_reducible refine And.intro ?_ ?_
  with_reducible exact absurd (show xs (i + 2).toNatClampNeg = 0 by assumption) (by assumption)
  with_reducible refine fX3_seek (LW.ms hFph) (fun hXqc0 hXqw hXqh => ?_) (fun hSqc0 hSqc1 hSqw hSqh => ?_) (fun hQqc0 hQqr hQqc1 hQqw hQqh => ?_)
  with_reducible exact absurd hFpc1 hXqc0
  with_reducible exact (nsC hSqc1 hFpc2).elim
  cases Option.some.inj (hFpc2.symm.trans hQqc1); clear hQqc1
  with_reducible exact absurd (show xs (i + 2).toNatClampNeg = 0 by assumption) (by assumption)
  simp only [eL_law_1986, eL_law_1990, eL_law_1995, eL_law_2001, eL_law_2004, eL_law_2008, eL_law_2009, kx_l, wt_nil, nl_int, tl_s, Nat.add_zero]
  with_reducible refine gi_W hLLph hb ?_
  with_reducible refine And.intro ?_ ?_
  with_reducible assumption
  with_reducible refine gi_W hLLph hb ?_
  with_reducible refine And.intro ?_ ?_
  with_reducible assumption
  split
  with_reducible refine And.intro ?_ ?_
  with_reducible refine LW.gz hLLph (fun _ => trivial)
  with_reducible refine And.intro ?_ ?_
  omega
  with_reducible refine And.intro ?_ ?_
  omega
  with_reducible refine And.intro ?_ ?_
  omega
  with_reducible refine fX3_seek (LW.ms hLLph) (fun hXqc0 hXqw hXqh => ?_) (fun hSqc0 hSqc1 hSqw hSqh => ?_) (fun hQqc0 hQqr hQqc1 hQqw hQqh => ?_)
  with_reducible exact absurd hLLpc1 hXqc0
  with_reducible exact (nsC hSqc1 hLLpc2).elim
  cases Option.some.inj (hLLpc2.symm.trans hQqc1); clear hQqc1
  simp only [eL_law_2012, kx_l, nl_int, tl_s]
  with_reducible exact next _ _ _ _ _ _ _ _ (LW.ofM hLLph hQqh) (by omega) (by omega)
  with_reducible refine And.intro ?_ ?_
  with_reducible refine LW.gz hLLph (fun _ => trivial)
  with_reducible refine And.intro ?_ ?_
  with_reducible exact absurd (show xs (i + 2).toNatClampNeg = 0 by assumption) (by assumption)
  with_reducible refine And.intro ?_ ?_
  with_reducible exact absurd (show xs (i + 2).toNatClampNeg = 0 by assumption) (by assumption)
  with_reducible refine And.intro ?_ ?_
  with_reducible exact absurd (show xs (i + 2).toNatClampNeg = 0 by assumption) (by assumption)
  with_reducible refine fX3_seek (LW.ms hLLph) (fun hXqc0 hXqw hXqh => ?_) (fun hSqc0 hSqc1 hSqw hSqh => ?_) (fun hQqc0 hQqr hQqc1 hQqw hQqh => ?_)
  with_reducible exact absurd hLLpc1 hXqc0
  with_reducible exact (nsC hSqc1 hLLpc2).elim
  cases Option.some.inj (hLLpc2.symm.trans hQqc1); clear hQqc1
  with_reducible exact absurd (show xs (i + 2).toNatClampNeg = 0 by assumption) (by assumption)
  with_reducible refine And.intro ?_ ?_
  omega
  with_reducible refine And.intro ?_ ?_
  omega
  with_reducible refine And.intro ?_ ?_
  omega
  with_reducible refine fL_seek hL (fun hXpc0 => ?_) (fun hSpc0 hSpc1 => ?_) (fun hNpc0 hNpr hNpc1 hNpc2 hNpw hNph hNpo => ?_) (fun hFpc0 hFpc1 hFpr hFpc2 hFpi hFpc3 hFpc4 hFpc5 hFpw hFph hFpo => ?_) (fun hLLpc0 hLLpc1 hLLpr hLLpc2 hLLpi hLLpc3 hLLpc4 hLLpc5 hLLpw hLLph hLLpo => ?_)
  simp only [eL_law_1986, eL_law_1990, eL_law_1995, eL_law_2001, eL_law_2004, eL_law_2008, eL_law_2009, kx_l, wt_nil, nl_int, tl_s, Nat.add_zero]
  with_reducible refine gi_W hL hb ?_
  with_reducible refine And.intro ?_ ?_
  with_reducible assumption
  with_reducible refine gi_W hL hb ?_
  with_reducible refine And.intro ?_ ?_
  with_reducible assumption
  split
  with_reducible refine And.intro ?_ ?_
  with_reducible refine LW.gz hL (fun _ => trivial)
  with_reducible refine And.intro ?_ ?_
  with_reducible exact absurd (show xs (i + 2).toNatClampNeg = 0 by assumption) (by assumption)
  with_reducible refine And.intro ?_ ?_
  with_reducible exact absurd (show xs (i + 2).toNatClampNeg = 0 by assumption) (by assumption)
  with_reducible refine And.intro ?_ ?_
  with_reducible exact absurd (show xs (i + 2).toNatClampNeg = 0 by assumption) (by assumption)
  with_reducible refine fX3_seek (LW.ms hL) (fun hXqc0 hXqw hXqh => ?_) (fun hSqc0 hSqc1 hSqw hSqh => ?_) (fun hQqc0 hQqr hQqc1 hQqw hQqh => ?_)
  with_reducible exact absurd (show xs (i + 2).toNatClampNeg = 0 by assumption) (by assumption)
  with_reducible exact absurd hSqc0 hXpc0
  with_reducible exact absurd hQqc0 hXpc0
  with_reducible refine And.intro ?_ ?_
  with_reducible refine LW.gz hL (fun _ => trivial)
  with_reducible refine And.intro ?_ ?_
  omega
  with_reducible refine And.intro ?_ ?_
  omega
  with_reducible refine And.intro ?_ ?_
  omega
  with_reducible refine fX3_seek (LW.ms hL) (fun hXqc0 hXqw hXqh => ?_) (fun hSqc0 hSqc1 hSqw hSqh => ?_) (fun hQqc0 hQqr hQqc1 hQqw hQqh => ?_)
  simp only [eL_law_2012, kx_l, nl_int, tl_s]
  with_reducible exact next _ _ _ _ _ _ _ _ (LW.ofM hL hXqh) (by omega) (by omega)
  with_reducible exact absurd hSqc0 hXpc0
  with_reducible exact absurd hQqc0 hXpc0
  simp only [eL_law_1986, eL_law_1990, eL_law_1995, eL_law_2001, eL_law_2004, eL_law_2008, eL_law_2009, kx_l, wt_nil, nl_int, tl_s, Nat.add_zero]
  with_reducible refine gi_W hL hb ?_
  with_reducible refine And.intro ?_ ?_
  with_reducible assumption
  with_reducible refine gi_W hL hb ?_
  with_reducible refine And.intro ?_ ?_
  with_reducible assumption
  split
  with_reducible refine And.intro ?_ ?_
  with_reducible refine LW.gz hL (fun _ => trivial)
  with_reducible refine And.intro ?_ ?_
  with_reducible exact absurd (show xs (i + 2).toNatClampNeg = 0 by assumption) (by assumption)
  with_reducible refine And.intro ?_ ?_
  with_reducible exact absurd (show xs (i + 2).toNatClampNeg = 0 by assumption) (by assumption)
  with_reducible refine And.intro ?_ ?_
  with_reducible exact absurd (show xs (i + 2).toNatClampNeg = 0 by assumption) (by assumption)
  with_reducible refine fX3_seek (LW.ms hL) (fun hXqc0 hXqw hXqh => ?_) (fun hSqc0 hSqc1 hSqw hSqh => ?_) (fun hQqc0 hQqr hQqc1 hQqw hQqh => ?_)
  with_reducible exact absurd hSpc0 hXqc0
  with_reducible exact absurd (show xs (i + 2).toNatClampNeg = 0 by assumption) (by assumption)
  with_reducible exact (nsC hSpc1 hQqc1).elim
  with_reducible refine And.intro ?_ ?_
  with_reducible refine LW.gz hL (fun _ => trivial)
  with_reducible refine And.intro ?_ ?_
  omega
  with_reducible refine And.intro ?_ ?_
  omega
  with_reducible refine And.intro ?_ ?_
  omega
  with_reducible refine fX3_seek (LW.ms hL) (fun hXqc0 hXqw hXqh => ?_) (fun hSqc0 hSqc1 hSqw hSqh => ?_) (fun hQqc0 hQqr hQqc1 hQqw hQqh => ?_)
  with_reducible exact absurd hSpc0 hXqc0
  simp only [eL_law_2012, kx_l, nl_int, tl_s]
  with_reducible exact next _ _ _ _ _ _ _ _ (LW.ofM hL hSqh) (by omega) (by omega)
  with_reducible exact (nsC hSpc1 hQqc1).elim
  simp only [eL_law_1986, eL_law_1990, eL_law_1995, eL_law_2001, eL_law_2004, eL_law_2008, eL_law_2009, kx_l, wt_nil, nl_int, tl_s, Nat.add_zero]
  with_reducible refine gi_W hNph hb ?_
  with_reducible refine And.intro ?_ ?_
  with_reducible assumption
  with_reducible refine gi_W hNph hb ?_
  with_reducible refine And.intro ?_ ?_
  with_reducible assumption
  split
  with_reducible refine And.intro ?_ ?_
  with_reducible refine LW.gz hNph (fun _ => trivial)
  with_reducible refine And.intro ?_ ?_
  with_reducible exact absurd (show xs (i + 2).toNatClampNeg = 0 by assumption) (by assumption)
  with_reducible refine And.intro ?_ ?_
  with_reducible exact absurd (show xs (i + 2).toNatClampNeg = 0 by assumption) (by assumption)
  with_reducible refine And.intro ?_ ?_
  with_reducible exact absurd (show xs (i + 2).toNatClampNeg = 0 by assumption) (by assumption)
  with_reducible refine fX3_seek (LW.ms hNph) (fun hXqc0 hXqw hXqh => ?_) (fun hSqc0 hSqc1 hSqw hSqh => ?_) (fun hQqc0 hQqr hQqc1 hQqw hQqh => ?_)
  with_reducible exact absurd hNpc0 hXqc0
  with_reducible exact (nsC hSqc1 hNpc1).elim
  cases Option.some.inj (hNpc1.symm.trans hQqc1); clear hQqc1
  with_reducible exact absurd (show xs (i + 2).toNatClampNeg = 0 by assumption) (by assumption)
  with_reducible refine And.intro ?_ ?_
  with_reducible refine LW.gz hNph (fun _ => trivial)
  with_reducible refine And.intro ?_ ?_
  omega
  with_reducible refine And.intro ?_ ?_
  omega
  with_reducible refine And.intro ?_ ?_
  omega
  with_reducible refine fX3_seek (LW.ms hNph) (fun hXqc0 hXqw hXqh => ?_) (fun hSqc0 hSqc1 hSqw hSqh => ?_) (fun hQqc0 hQqr hQqc1 hQqw hQqh => ?_)
  with_reducible exact absurd hNpc0 hXqc0
  with_reducible exact (nsC hSqc1 hNpc1).elim
  cases Option.some.inj (hNpc1.symm.trans hQqc1); clear hQqc1
  simp only [eL_law_2012, kx_l, nl_int, tl_s]
  with_reducible exact next _ _ _ _ _ _ _ _ (LW.ofM hNph hQqh) (by omega) (by omega)
  simp only [eL_law_1986, eL_law_1990, eL_law_1995, eL_law_2001, eL_law_2004, eL_law_2008, eL_law_2009, kx_l, wt_nil, nl_int, tl_s, Nat.add_zero]
  with_reducible refine gi_W hFph hb ?_
  with_reducible refine And.intro ?_ ?_
  with_reducible assumption
  with_reducible refine gi_W hFph hb ?_
  with_reducible refine And.intro ?_ ?_
  with_reducible assumption
  split
  with_reducible refine And.intro ?_ ?_
  with_reducible refine LW.gz hFph (fun _ => trivial)
  with_reducible refine And.intro ?_ ?_
  with_reducible exact absurd (show xs (i + 2).toNatClampNeg = 0 by assumption) (by assumption)
  with_reducible refine And.intro ?_ ?_
  with_reducible exact absurd (show xs (i + 2).toNatClampNeg = 0 by assumption) (by assumption)
  with_reducible refine And.intro ?_ ?_
  with_reducible exact absurd (show xs (i + 2).toNatClampNeg = 0 by assumption) (by assumption)
  with_reducible refine fX3_seek (LW.ms hFph) (fun hXqc0 hXqw hXqh => ?_) (fun hSqc0 hSqc1 hSqw hSqh => ?_) (fun hQqc0 hQqr hQqc1 hQqw hQqh => ?_)
  with_reducible exact absurd hFpc1 hXqc0
  with_reducible exact (nsC hSqc1 hFpc2).elim
  cases Option.some.inj (hFpc2.symm.trans hQqc1); clear hQqc1
  with_reducible exact absurd (show xs (i + 2).toNatClampNeg = 0 by assumption) (by assumption)
  with_reducible refine And.intro ?_ ?_
  with_reducible refine LW.gz hFph (fun _ => trivial)
  with_reducible refine And.intro ?_ ?_
  omega
  with_reducible refine And.intro ?_ ?_
  omega
  with_reducible refine And.intro ?_ ?_
  omega
  with_reducible refine fX3_seek (LW.ms hFph) (fun hXqc0 hXqw hXqh => ?_) (fun hSqc0 hSqc1 hSqw hSqh => ?_) (fun hQqc0 hQqr hQqc1 hQqw hQqh => ?_)
  with_reducible exact absurd hFpc1 hXqc0
  with_reducible exact (nsC hSqc1 hFpc2).elim
  cases Option.some.inj (hFpc2.symm.trans hQqc1); clear hQqc1
  simp only [eL_law_2012, kx_l, nl_int, tl_s]
  with_reducible exact next _ _ _ _ _ _ _ _ (LW.ofM hFph hQqh) (by omega) (by omega)
  simp only [eL_law_1986, eL_law_1990, eL_law_1995, eL_law_2001, eL_law_2004, eL_law_2008, eL_law_2009, kx_l, wt_nil, nl_int, tl_s, Nat.add_zero]
  with_reducible refine gi_W hLLph hb ?_
  with_reducible refine And.intro ?_ ?_
  with_reducible assumption
  with_reducible refine gi_W hLLph hb ?_
  with_reducible refine And.intro ?_ ?_
  with_reducible assumption
  split
  with_reducible refine And.intro ?_ ?_
  with_reducible refine LW.gz hLLph (fun _ => trivial)
  with_reducible refine And.intro ?_ ?_
  with_reducible exact absurd (show xs (i + 2).toNatClampNeg = 0 by assumption) (by assumption)
  with_reducible refine And.intro ?_ ?_
  with_reducible exact absurd (show xs (i + 2).toNatClampNeg = 0 by assumption) (by assumption)
  with_reducible refine And.intro ?_ ?_
  with_reducible exact absurd (show xs (i + 2).toNatClampNeg = 0 by assumption) (by assumption)
  with_reducible refine fX3_seek (LW.ms hLLph) (fun hXqc0 hXqw hXqh => ?_) (fun hSqc0 hSqc1 hSqw hSqh => ?_) (fun hQqc0 hQqr hQqc1 hQqw hQqh => ?_)
  with_reducible exact absurd hLLpc1 hXqc0
  with_reducible exact (nsC hSqc1 hLLpc2).elim
  cases Option.some.inj (hLLpc2.symm.trans hQqc1); clear hQqc1
  with_reducible exact absurd (show xs (i + 2).toNatClampNeg = 0 by assumption) (by assumption)
  with_reducible refine And.intro ?_ ?_
  with_reducible refine LW.gz hLLph (fun _ => trivial)
  with_reducible refine And.intro ?_ ?_
  omega
  with_reducible refine And.intro ?_ ?_
  omega
  with_reducible refine And.intro ?_ ?_
  omega
  with_reducible refine fX3_seek (LW.ms hLLph) (fun hXqc0 hXqw hXqh => ?_) (fun hSqc0 hSqc1 hSqw hSqh => ?_) (fun hQqc0 hQqr hQqc1 hQqw hQqh => ?_)
  with_reducible exact absurd hLLpc1 hXqc0
  with_reducible exact (nsC hSqc1 hLLpc2).elim
  cases Option.some.inj (hLLpc2.symm.trans hQqc1); clear hQqc1
  simp only [eL_law_2012, kx_l, nl_int, tl_s]
  with_reducible exact next _ _ _ _ _ _ _ _ (LW.ofM hLLph hQqh) (by omega) (by omega)
set_option maxHeartbeats 4000000 in
theorem cL_39 (hR : RG g) (hb : g.2 b = some (.inl (1, L, .inl xs))) (hL : LW g w x nA cA lA y nM o kn kn th s s) (v1 : vp_in (i + 1) L) (v2 : vp_in (i + 2) L) (v3 : vp_in (i + 3) L) (v4 : vp_in (i + 4) L) (v5 : vp_in (i + 5) L) (hk : k + 114 ≤ 58408) (hn : n + 2834 ≤ 1451408) (next : (∀ (l5' l6' : Option Value) (w' : Hw) (k' n' : Nat) (kn' th' : Int32) (s' : AS), LW g w' x nA cA lA y nM o kn' kn' th' s' s' → k' ≤ k + 114 → n' ≤ n + 2834 → WP (ML_law g) QLaw (2246, [some (.ref b), some (.ref x), some (.ref y), some (.ref o), some (.int i), l5', l6'], [], w', k', n'))) : WP (ML_law g) QLaw (2017, [some (.ref b), some (.ref x), some (.ref y), some (.ref o), some (.int i), l5, l6], [], w, k, n) := by
  simp only [eL_law_2017, eL_law_2024, wt_nil]
  with_reducible refine gi_W hL hb ?_
  with_reducible refine And.intro ?_ ?_
  with_reducible assumption
  with_reducible refine And.intro ?_ ?_
  omega
  with_reducible refine And.intro ?_ ?_
  omega
  with_reducible refine And.intro ?_ ?_
  omega
  with_reducible refine fL_howOften hL (fun hXpc0 => ?_) (fun hSpc0 hSpc1 => ?_) (fun hQpc0 hQpr hQpc1 hQpw hQph hQpo => ?_)
  simp only [eL_law_2028, eL_law_2032, eL_law_2037, kx_l, wt_nil, nl_int, tl_s]
  with_reducible refine gi_W hL hb ?_
  with_reducible refine And.intro ?_ ?_
  with_reducible assumption
  with_reducible refine And.intro ?_ ?_
  with_reducible refine LW.gz hL (fun _ => trivial)
  with_reducible refine And.intro ?_ ?_
  omega
  with_reducible refine And.intro ?_ ?_
  omega
  with_reducible refine And.intro ?_ ?_
  omega
  with_reducible refine gX3_howOften (LW.ms hL) (fun v2 t2 w2 m2 => ?_)
  simp only [eL_law_2040, kx_l, nl_int, tl_s]
  with_reducible exact next _ _ _ _ _ _ _ _ (LW.ofM hL m2) (by omega) (by omega)
  simp only [eL_law_2028, eL_law_2032, eL_law_2037, kx_l, wt_nil, nl_int, tl_s]
  with_reducible refine gi_W hL hb ?_
  with_reducible refine And.intro ?_ ?_
  with_reducible assumption
  with_reducible refine And.intro ?_ ?_
  with_reducible refine LW.gz hL (fun _ => trivial)
  with_reducible refine And.intro ?_ ?_
  omega
  with_reducible refine And.intro ?_ ?_
  omega
  with_reducible refine And.intro ?_ ?_
  omega
  with_reducible refine gX3_howOften (LW.ms hL) (fun v2 t2 w2 m2 => ?_)
  simp only [eL_law_2040, kx_l, nl_int, tl_s]
  with_reducible exact next _ _ _ _ _ _ _ _ (LW.ofM hL m2) (by omega) (by omega)
  simp only [eL_law_2028, eL_law_2032, eL_law_2037, kx_l, wt_nil, nl_int, tl_s]
  with_reducible refine gi_W hQph hb ?_
  with_reducible refine And.intro ?_ ?_
  with_reducible assumption
  with_reducible refine And.intro ?_ ?_
  with_reducible refine LW.gz hQph (fun _ => trivial)
  with_reducible refine And.intro ?_ ?_
  omega
  with_reducible refine And.intro ?_ ?_
  omega
  with_reducible refine And.intro ?_ ?_
  omega
  with_reducible refine gX3_howOften (LW.ms hQph) (fun v2 t2 w2 m2 => ?_)
  simp only [eL_law_2040, kx_l, nl_int, tl_s]
  with_reducible exact next _ _ _ _ _ _ _ _ (LW.ofM hQph m2) (by omega) (by omega)
set_option maxHeartbeats 4000000 in
theorem cL_40 (hR : RG g) (hb : g.2 b = some (.inl (1, L, .inl xs))) (hL : LW g w x nA cA lA y nM o kn kn th s s) (v1 : vp_in (i + 1) L) (v2 : vp_in (i + 2) L) (v3 : vp_in (i + 3) L) (v4 : vp_in (i + 4) L) (v5 : vp_in (i + 5) L) (hk : k + 114 ≤ 58408) (hn : n + 2834 ≤ 1451408) (next : (∀ (l5' l6' : Option Value) (w' : Hw) (k' n' : Nat) (kn' th' : Int32) (s' : AS), LW g w' x nA cA lA y nM o kn' kn' th' s' s' → k' ≤ k + 114 → n' ≤ n + 2834 → WP (ML_law g) QLaw (2246, [some (.ref b), some (.ref x), some (.ref y), some (.ref o), some (.int i), l5', l6'], [], w', k', n'))) : WP (ML_law g) QLaw (2045, [some (.ref b), some (.ref x), some (.ref y), some (.ref o), some (.int i), l5, l6], [], w, k, n) := by
  simp only [eL_law_2045, eL_law_2052, wt_nil]
  with_reducible refine gi_W hL hb ?_
  with_reducible refine And.intro ?_ ?_
  with_reducible assumption
  with_reducible refine And.intro ?_ ?_
  omega
  with_reducible refine And.intro ?_ ?_
  omega
  with_reducible refine And.intro ?_ ?_
  omega
  with_reducible refine fL_lift hL (fun hXpc0 => ?_) (fun hSpc0 hSpc1 => ?_) (fun hNpc0 hNpr hNpc1 hNpc2 hNpw hNph hNpo => ?_) (fun hQpc0 hQpr hQpc1 hQpi hQpc2 hQpc3 hQpc4 hQpw hQph hQpo => ?_)
  simp only [eL_law_2056, eL_law_2060, eL_law_2065, kx_l, wt_nil, nl_int, tl_s, Nat.add_zero]
  with_reducible refine gi_W hL hb ?_
  with_reducible refine And.intro ?_ ?_
  with_reducible assumption
  with_reducible refine And.intro ?_ ?_
  with_reducible refine LW.gz hL (fun _ => trivial)
  with_reducible refine And.intro ?_ ?_
  omega
  with_reducible refine And.intro ?_ ?_
  omega
  with_reducible refine And.intro ?_ ?_
  omega
  with_reducible refine fX3_lift (LW.ms hL) (fun hXqc0 hXqw hXqh => ?_) (fun hSqc0 hSqc1 hSqw hSqh => ?_) (fun hNqc0 hNqr hNqc1 hNqc2 hNqw hNqh => ?_) (fun hQqc0 hQqr hQqc1 hQqi hQqc2 hQqc3 hQqc4 hQqw hQqh => ?_)
  simp only [eL_law_2068, kx_l, nl_int, tl_s]
  with_reducible exact next _ _ _ _ _ _ _ _ (LW.ofM hL hXqh) (by omega) (by omega)
  with_reducible exact absurd hSqc0 hXpc0
  with_reducible exact absurd hNqc0 hXpc0
  with_reducible exact absurd hQqc0 hXpc0
  simp only [eL_law_2056, eL_law_2060, eL_law_2065, kx_l, wt_nil, nl_int, tl_s, Nat.add_zero]
  with_reducible refine gi_W hL hb ?_
  with_reducible refine And.intro ?_ ?_
  with_reducible assumption
  with_reducible refine And.intro ?_ ?_
  with_reducible refine LW.gz hL (fun _ => trivial)
  with_reducible refine And.intro ?_ ?_
  omega
  with_reducible refine And.intro ?_ ?_
  omega
  with_reducible refine And.intro ?_ ?_
  omega
  with_reducible refine fX3_lift (LW.ms hL) (fun hXqc0 hXqw hXqh => ?_) (fun hSqc0 hSqc1 hSqw hSqh => ?_) (fun hNqc0 hNqr hNqc1 hNqc2 hNqw hNqh => ?_) (fun hQqc0 hQqr hQqc1 hQqi hQqc2 hQqc3 hQqc4 hQqw hQqh => ?_)
  with_reducible exact absurd hSpc0 hXqc0
  simp only [eL_law_2068, kx_l, nl_int, tl_s]
  with_reducible exact next _ _ _ _ _ _ _ _ (LW.ofM hL hSqh) (by omega) (by omega)
  with_reducible exact (nsC hSpc1 hNqc1).elim
  with_reducible exact (nsC hSpc1 hQqc1).elim
  simp only [eL_law_2056, eL_law_2060, eL_law_2065, kx_l, wt_nil, nl_int, tl_s, Nat.add_zero]
  with_reducible refine gi_W hNph hb ?_
  with_reducible refine And.intro ?_ ?_
  with_reducible assumption
  with_reducible refine And.intro ?_ ?_
  with_reducible refine LW.gz hNph (fun _ => trivial)
  with_reducible refine And.intro ?_ ?_
  omega
  with_reducible refine And.intro ?_ ?_
  omega
  with_reducible refine And.intro ?_ ?_
  omega
  with_reducible refine fX3_lift (LW.ms hNph) (fun hXqc0 hXqw hXqh => ?_) (fun hSqc0 hSqc1 hSqw hSqh => ?_) (fun hNqc0 hNqr hNqc1 hNqc2 hNqw hNqh => ?_) (fun hQqc0 hQqr hQqc1 hQqi hQqc2 hQqc3 hQqc4 hQqw hQqh => ?_)
  with_reducible exact absurd hNpc0 hXqc0
  with_reducible exact (nsC hSqc1 hNpc1).elim
  cases Option.some.inj (hNpc1.symm.trans hNqc1); clear hNqc1
  simp only [eL_law_2068, kx_l, nl_int, tl_s]
  with_reducible exact next _ _ _ _ _ _ _ _ (LW.ofM hNph hNqh) (by omega) (by omega)
  cases Option.some.inj (hNpc1.symm.trans hQqc1); clear hQqc1
  with_reducible exact absurd hQqc3 (hNpc2 _ hQqc2)
  simp only [eL_law_2056, eL_law_2060, eL_law_2065, kx_l, wt_nil, nl_int, tl_s, Nat.add_zero]
  with_reducible refine gi_W hQph hb ?_
  with_reducible refine And.intro ?_ ?_
  with_reducible assumption
  with_reducible refine And.intro ?_ ?_
  with_reducible refine LW.gz hQph (fun _ => trivial)
  with_reducible refine And.intro ?_ ?_
  omega
  with_reducible refine And.intro ?_ ?_
  omega
  with_reducible refine And.intro ?_ ?_
  omega
  with_reducible refine fX3_lift (LW.ms hQph) (fun hXqc0 hXqw hXqh => ?_) (fun hSqc0 hSqc1 hSqw hSqh => ?_) (fun hNqc0 hNqr hNqc1 hNqc2 hNqw hNqh => ?_) (fun hQqc0 hQqr hQqc1 hQqi hQqc2 hQqc3 hQqc4 hQqw hQqh => ?_)
  with_reducible exact absurd hQpc0 hXqc0
  with_reducible exact (nsC hSqc1 hQpc1).elim
  cases Option.some.inj (hQpc1.symm.trans hNqc1); clear hNqc1
  with_reducible exact absurd hQpc3 (hNqc2 _ hQpc2)
  cases Option.some.inj (hQpc1.symm.trans hQqc1); clear hQqc1
  cases fstU hQpc3 hQpc4 hQqc3 hQqc4; clear hQqc2 hQqc3 hQqc4
  simp only [eL_law_2068, kx_l, nl_int, tl_s]
  with_reducible exact next _ _ _ _ _ _ _ _ (LW.ofM hQph hQqh) (by omega) (by omega)
set_option maxHeartbeats 4000000 in
theorem cL_41 (hR : RG g) (hb : g.2 b = some (.inl (1, L, .inl xs))) (hL : LW g w x nA cA lA y nM o kn kn th s s) (v1 : vp_in (i + 1) L) (v2 : vp_in (i + 2) L) (v3 : vp_in (i + 3) L) (v4 : vp_in (i + 4) L) (v5 : vp_in (i + 5) L) (hk : k + 114 ≤ 58408) (hn : n + 2834 ≤ 1451408) (next : (∀ (l5' l6' : Option Value) (w' : Hw) (k' n' : Nat) (kn' th' : Int32) (s' : AS), LW g w' x nA cA lA y nM o kn' kn' th' s' s' → k' ≤ k + 114 → n' ≤ n + 2834 → WP (ML_law g) QLaw (2246, [some (.ref b), some (.ref x), some (.ref y), some (.ref o), some (.int i), l5', l6'], [], w', k', n'))) : WP (ML_law g) QLaw (2073, [some (.ref b), some (.ref x), some (.ref y), some (.ref o), some (.int i), l5, l6], [], w, k, n) := by
  simp only [eL_law_2073, eL_law_2080, eL_law_2086, wt_nil]
  with_reducible refine gi_W hL hb ?_
  with_reducible refine And.intro ?_ ?_
  with_reducible assumption
  with_reducible refine gi_W hL hb ?_
  with_reducible refine And.intro ?_ ?_
  with_reducible assumption
  with_reducible refine And.intro ?_ ?_
  omega
  with_reducible refine And.intro ?_ ?_
  omega
  with_reducible refine And.intro ?_ ?_
  omega
  with_reducible refine fL_pick hL (fun hXpc0 => ?_) (fun hNpc0 hNpc1 hNpc2 hNpw hNph hNpo => ?_) (fun hSpc0 hSpc1 hSpr hSpc2 hSpw hSph hSpo => ?_)
  simp only [eL_law_2090, eL_law_2094, eL_law_2099, eL_law_2105, kx_l, wt_nil, nl_int, tl_s, Nat.add_zero]
  with_reducible refine gi_W hL hb ?_
  with_reducible refine And.intro ?_ ?_
  with_reducible assumption
  with_reducible refine gi_W hL hb ?_
  with_reducible refine And.intro ?_ ?_
  with_reducible assumption
  with_reducible refine And.intro ?_ ?_
  with_reducible refine LW.gz hL (fun _ => trivial)
  with_reducible refine And.intro ?_ ?_
  omega
  with_reducible refine And.intro ?_ ?_
  omega
  with_reducible refine And.intro ?_ ?_
  omega
  with_reducible refine fX3_pick (LW.ms hL) (fun hXqc0 hXqw hXqh => ?_) (fun hNqc0 hNqc1 hNqc2 hNqw hNqh => ?_) (fun hSqc0 hSqc1 hSqr hSqc2 hSqw hSqh => ?_)
  simp only [eL_law_2108, kx_l, nl_int, tl_s]
  with_reducible exact next _ _ _ _ _ _ _ _ (LW.ofM hL hXqh) (by omega) (by omega)
  with_reducible exact absurd (And.intro hNqc0 hNqc1) hXpc0
  with_reducible exact absurd (And.intro hSqc0 hSqc1) hXpc0
  simp only [eL_law_2090, eL_law_2094, eL_law_2099, eL_law_2105, kx_l, wt_nil, nl_int, tl_s, Nat.add_zero]
  with_reducible refine gi_W hNph hb ?_
  with_reducible refine And.intro ?_ ?_
  with_reducible assumption
  with_reducible refine gi_W hNph hb ?_
  with_reducible refine And.intro ?_ ?_
  with_reducible assumption
  with_reducible refine And.intro ?_ ?_
  with_reducible refine LW.gz hNph (fun _ => trivial)
  with_reducible refine And.intro ?_ ?_
  omega
  with_reducible refine And.intro ?_ ?_
  omega
  with_reducible refine And.intro ?_ ?_
  omega
  with_reducible refine fX3_pick (LW.ms hNph) (fun hXqc0 hXqw hXqh => ?_) (fun hNqc0 hNqc1 hNqc2 hNqw hNqh => ?_) (fun hSqc0 hSqc1 hSqr hSqc2 hSqw hSqh => ?_)
  with_reducible exact absurd (And.intro hNpc0 hNpc1) hXqc0
  simp only [eL_law_2108, kx_l, nl_int, tl_s]
  with_reducible exact next _ _ _ _ _ _ _ _ (LW.ofM hNph hNqh) (by omega) (by omega)
  with_reducible exact (nsC hNpc2 hSqc2).elim
  simp only [eL_law_2090, eL_law_2094, eL_law_2099, eL_law_2105, kx_l, wt_nil, nl_int, tl_s, Nat.add_zero]
  with_reducible refine gi_W hSph hb ?_
  with_reducible refine And.intro ?_ ?_
  with_reducible assumption
  with_reducible refine gi_W hSph hb ?_
  with_reducible refine And.intro ?_ ?_
  with_reducible assumption
  with_reducible refine And.intro ?_ ?_
  with_reducible refine LW.gz hSph (fun _ => trivial)
  with_reducible refine And.intro ?_ ?_
  omega
  with_reducible refine And.intro ?_ ?_
  omega
  with_reducible refine And.intro ?_ ?_
  omega
  with_reducible refine fX3_pick (LW.ms hSph) (fun hXqc0 hXqw hXqh => ?_) (fun hNqc0 hNqc1 hNqc2 hNqw hNqh => ?_) (fun hSqc0 hSqc1 hSqr hSqc2 hSqw hSqh => ?_)
  with_reducible exact absurd (And.intro hSpc0 hSpc1) hXqc0
  with_reducible exact (nsC hNqc2 hSpc2).elim
  cases Option.some.inj (hSpc2.symm.trans hSqc2); clear hSqc2
  simp only [eL_law_2108, kx_l, nl_int, tl_s]
  with_reducible exact next _ _ _ _ _ _ _ _ (LW.ofM hSph hSqh) (by omega) (by omega)
set_option maxHeartbeats 4000000 in
theorem cL_42 (hR : RG g) (hb : g.2 b = some (.inl (1, L, .inl xs))) (hL : LW g w x nA cA lA y nM o kn kn th s s) (v1 : vp_in (i + 1) L) (v2 : vp_in (i + 2) L) (v3 : vp_in (i + 3) L) (v4 : vp_in (i + 4) L) (v5 : vp_in (i + 5) L) (hk : k + 114 ≤ 58408) (hn : n + 2834 ≤ 1451408) (next : (∀ (l5' l6' : Option Value) (w' : Hw) (k' n' : Nat) (kn' th' : Int32) (s' : AS), LW g w' x nA cA lA y nM o kn' kn' th' s' s' → k' ≤ k + 114 → n' ≤ n + 2834 → WP (ML_law g) QLaw (2246, [some (.ref b), some (.ref x), some (.ref y), some (.ref o), some (.int i), l5', l6'], [], w', k', n'))) : WP (ML_law g) QLaw (2113, [some (.ref b), some (.ref x), some (.ref y), some (.ref o), some (.int i), l5, l6], [], w, k, n) := by
  simp only [eL_law_2113, wt_nil, Nat.add_zero]
  with_reducible refine And.intro ?_ ?_
  with_reducible refine LW.gx hL (fun _ => trivial)
  with_reducible refine And.intro ?_ ?_
  omega
  with_reducible refine And.intro ?_ ?_
  omega
  with_reducible refine And.intro ?_ ?_
  omega
  with_reducible refine fX1_turn hL.cs (fun w1 c1 => ?_)
  simp only [eL_law_2117, kx_l, wt_nil, tl_s]
  with_reducible refine And.intro ?_ ?_
  with_reducible refine LW.gz (hL.of c1 hL.ok.tur) (fun _ => trivial)
  with_reducible refine And.intro ?_ ?_
  omega
  with_reducible refine And.intro ?_ ?_
  omega
  with_reducible refine And.intro ?_ ?_
  omega
  with_reducible refine fX3_turn (LW.ms (hL.of c1 hL.ok.tur)) (hR.eg (LW.ro (hL.of c1 hL.ok.tur))) hR.sg (fun hQqw hQqh => ?_)
  simp only [eL_law_2122, kx_l, tl_s]
  with_reducible exact next _ _ _ _ _ _ _ _ (LW.ofM (hL.of c1 hL.ok.tur) hQqh) (by omega) (by omega)
set_option maxHeartbeats 4000000 in
theorem cL_43 (hR : RG g) (hb : g.2 b = some (.inl (1, L, .inl xs))) (hL : LW g w x nA cA lA y nM o kn kn th s s) (v1 : vp_in (i + 1) L) (v2 : vp_in (i + 2) L) (v3 : vp_in (i + 3) L) (v4 : vp_in (i + 4) L) (v5 : vp_in (i + 5) L) (hk : k + 114 ≤ 58408) (hn : n + 2834 ≤ 1451408) (next : (∀ (l5' l6' : Option Value) (w' : Hw) (k' n' : Nat) (kn' th' : Int32) (s' : AS), LW g w' x nA cA lA y nM o kn' kn' th' s' s' → k' ≤ k + 114 → n' ≤ n + 2834 → WP (ML_law g) QLaw (2246, [some (.ref b), some (.ref x), some (.ref y), some (.ref o), some (.int i), l5', l6'], [], w', k', n'))) : WP (ML_law g) QLaw (2126, [some (.ref b), some (.ref x), some (.ref y), some (.ref o), some (.int i), l5, l6], [], w, k, n) := by
  simp only [eL_law_2126, wt_nil, Nat.add_zero]
  with_reducible refine And.intro ?_ ?_
  with_reducible refine LW.gx hL (fun _ => trivial)
  with_reducible refine And.intro ?_ ?_
  omega
  with_reducible refine And.intro ?_ ?_
  omega
  with_reducible refine And.intro ?_ ?_
  omega
  with_reducible refine fX1_sweep hL.cs (fun w1 c1 => ?_)
  simp only [eL_law_2130, kx_l, wt_nil, tl_s]
  with_reducible refine And.intro ?_ ?_
  with_reducible refine LW.gz (hL.of (c1 s.2.2.2.1) hL.ok.zero) (fun _ => trivial)
  with_reducible refine And.intro ?_ ?_
  omega
  with_reducible refine And.intro ?_ ?_
  omega
  with_reducible refine And.intro ?_ ?_
  omega
  with_reducible refine fX3_sweep (LW.ms (hL.of (c1 s.2.2.2.1) hL.ok.zero)) (hR.eg (LW.ro (hL.of (c1 s.2.2.2.1) hL.ok.zero))) hR.sg (fun hQqw hQqh => ?_)
  simp only [eL_law_2135, kx_l, tl_s]
  with_reducible exact next _ _ _ _ _ _ _ _ (LW.ofM (hL.of (c1 s.2.2.2.1) hL.ok.zero) (hQqh s.2.2.2.1)) (by omega) (by omega)
set_option maxHeartbeats 4000000 in
theorem cL_44 (hR : RG g) (hb : g.2 b = some (.inl (1, L, .inl xs))) (hL : LW g w x nA cA lA y nM o kn kn th s s) (v1 : vp_in (i + 1) L) (v2 : vp_in (i + 2) L) (v3 : vp_in (i + 3) L) (v4 : vp_in (i + 4) L) (v5 : vp_in (i + 5) L) (hk : k + 114 ≤ 58408) (hn : n + 2834 ≤ 1451408) (next : (∀ (l5' l6' : Option Value) (w' : Hw) (k' n' : Nat) (kn' th' : Int32) (s' : AS), LW g w' x nA cA lA y nM o kn' kn' th' s' s' → k' ≤ k + 114 → n' ≤ n + 2834 → WP (ML_law g) QLaw (2246, [some (.ref b), some (.ref x), some (.ref y), some (.ref o), some (.int i), l5', l6'], [], w', k', n'))) : WP (ML_law g) QLaw (2139, [some (.ref b), some (.ref x), some (.ref y), some (.ref o), some (.int i), l5, l6], [], w, k, n) := by
  simp only [eL_law_2139, eL_law_2146, eL_law_2152, wt_nil]
  with_reducible refine gi_W hL hb ?_
  with_reducible refine And.intro ?_ ?_
  with_reducible assumption
  with_reducible refine gi_W hL hb ?_
  with_reducible refine And.intro ?_ ?_
  with_reducible assumption
  with_reducible refine And.intro ?_ ?_
  omega
  with_reducible refine And.intro ?_ ?_
  omega
  with_reducible refine And.intro ?_ ?_
  omega
  with_reducible refine gL_pile hR hL (fun v1 w1 h1 => ?_)
  simp only [eL_law_2156, eL_law_2160, eL_law_2165, eL_law_2171, kx_l, wt_nil, nl_int, tl_s]
  with_reducible refine gi_W h1 hb ?_
  with_reducible refine And.intro ?_ ?_
  with_reducible assumption
  with_reducible refine gi_W h1 hb ?_
  with_reducible refine And.intro ?_ ?_
  with_reducible assumption
  with_reducible refine And.intro ?_ ?_
  with_reducible refine LW.gz h1 (fun _ => trivial)
  with_reducible refine And.intro ?_ ?_
  omega
  with_reducible refine And.intro ?_ ?_
  omega
  with_reducible refine And.intro ?_ ?_
  omega
  with_reducible refine gX3_pile (LW.ms h1) (fun v2 t2 w2 m2 => ?_)
  simp only [eL_law_2174, kx_l, nl_int, tl_s]
  with_reducible exact next _ _ _ _ _ _ _ _ (LW.ofM h1 m2) (by omega) (by omega)
set_option maxHeartbeats 4000000 in
theorem cL_45 (hR : RG g) (hb : g.2 b = some (.inl (1, L, .inl xs))) (hL : LW g w x nA cA lA y nM o kn kn th s s) (v1 : vp_in (i + 1) L) (v2 : vp_in (i + 2) L) (v3 : vp_in (i + 3) L) (v4 : vp_in (i + 4) L) (v5 : vp_in (i + 5) L) (hk : k + 114 ≤ 58408) (hn : n + 2834 ≤ 1451408) (next : (∀ (l5' l6' : Option Value) (w' : Hw) (k' n' : Nat) (kn' th' : Int32) (s' : AS), LW g w' x nA cA lA y nM o kn' kn' th' s' s' → k' ≤ k + 114 → n' ≤ n + 2834 → WP (ML_law g) QLaw (2246, [some (.ref b), some (.ref x), some (.ref y), some (.ref o), some (.int i), l5', l6'], [], w', k', n'))) : WP (ML_law g) QLaw (2179, [some (.ref b), some (.ref x), some (.ref y), some (.ref o), some (.int i), l5, l6], [], w, k, n) := by
  repeat' first
    | with_reducible assumption
    | with_reducible refine And.intro ?_ ?_
    | with_reducible refine gi_W hL hb ?_
    | with_reducible refine LW.gx hL (fun _ => trivial)
    | with_reducible refine gL_house hR hL (fun v1 w1 h1 => ?_)
    | with_reducible refine gX3_house (LW.ms h1) (fun v2 t2 w2 m2 => ?_)
    | with_reducible refine LW.gz h1 (fun _ => trivial)
    | with_reducible refine gi_W h1 hb ?_
    | with_reducible exact next _ _ _ _ _ _ _ _ (LW.ofM h1 m2) (by omega) (by omega)
    | with_reducible exact absurd (show xs (i + 1).toNatClampNeg = 0 by assumption) (by assumption)
    | with_reducible exact absurd (show xs (i + 2).toNatClampNeg = 0 by assumption) (by assumption)
    | with_reducible exact absurd (show xs (i + 3).toNatClampNeg = 0 by assumption) (by assumption)
    | with_reducible exact absurd (show xs (i + 4).toNatClampNeg = 0 by assumption) (by assumption)
    | with_reducible exact absurd (show xs (i + 5).toNatClampNeg = 0 by assumption) (by assumption)
    | simp only [eL_law_2179, eL_law_2179N, eL_law_2180, eL_law_2180N, eL_law_2181, eL_law_2186, eL_law_2186N, eL_law_2187RR, eL_law_2187NR, eL_law_2187RN, eL_law_2187NN, eL_law_2190, eL_law_2192, eL_law_2192N, eL_law_2193, eL_law_2193N, eL_law_2194, eL_law_2199, eL_law_2202, ite_le, n45, n54, true_or, or_true, false_or, or_false, false_and, and_false, kx_l, kx_r, go_s, gl_s, gi_s, gb_s2, gb_s3, gq_s, wt_nil, wt_int, wt_long, wt_ref, wt_null, nl_int, nl_long, nl_ref, nl_null, nl_none, rf_n, rf_s, rf_st, tl_s, tl_n, g0, gS, ex1, nb_b, nb_0, nb_1, nf_i, nf_l, nf_ra, nf_ro, nf_na, nf_no, nf_b0, nf_z0, t45_4, t45_5, true_and, and_true, List.set_cons_zero, List.set_cons_succ, List.length_cons, List.length_nil, rd_s, upw_s, ne_eq, not_false_eq_true, Nat.zero_add, Nat.add_zero, if_true, if_false, eq_self, lgz, n12z, n2z, n3z, i00, not_true]
    | split
    | with_reducible intro _
    | omega
set_option maxHeartbeats 4000000 in
theorem cL_46 (hR : RG g) (hb : g.2 b = some (.inl (1, L, .inl xs))) (hL : LW g w x nA cA lA y nM o kn kn th s s) (v1 : vp_in (i + 1) L) (v2 : vp_in (i + 2) L) (v3 : vp_in (i + 3) L) (v4 : vp_in (i + 4) L) (v5 : vp_in (i + 5) L) (hk : k + 114 ≤ 58408) (hn : n + 2834 ≤ 1451408) (next : (∀ (l5' l6' : Option Value) (w' : Hw) (k' n' : Nat) (kn' th' : Int32) (s' : AS), LW g w' x nA cA lA y nM o kn' kn' th' s' s' → k' ≤ k + 114 → n' ≤ n + 2834 → WP (ML_law g) QLaw (2246, [some (.ref b), some (.ref x), some (.ref y), some (.ref o), some (.int i), l5', l6'], [], w', k', n'))) : WP (ML_law g) QLaw (2207, [some (.ref b), some (.ref x), some (.ref y), some (.ref o), some (.int i), l5, l6], [], w, k, n) := by
  simp only [eL_law_2207, wt_nil, Nat.add_zero]
  with_reducible refine And.intro ?_ ?_
  with_reducible refine LW.gx hL (fun _ => trivial)
  with_reducible refine And.intro ?_ ?_
  omega
  with_reducible refine And.intro ?_ ?_
  omega
  with_reducible refine And.intro ?_ ?_
  omega
  with_reducible refine fX1_knock hL.cs (fun w1 c1 => ?_)
  simp only [eL_law_2211, kx_l, wt_nil, tl_s, Nat.add_zero]
  with_reducible refine And.intro ?_ ?_
  with_reducible refine LW.gz (hL.of c1 hL.ok) (fun _ => trivial)
  with_reducible refine And.intro ?_ ?_
  omega
  with_reducible refine And.intro ?_ ?_
  omega
  with_reducible refine And.intro ?_ ?_
  omega
  with_reducible refine fX3_knock (LW.ms (hL.of c1 hL.ok)) (fun hQqw hQqh => ?_)
  simp only [eL_law_2216, kx_l, tl_s]
  with_reducible exact next _ _ _ _ _ _ _ _ (LW.ofM (hL.of c1 hL.ok) hQqh) (by omega) (by omega)
set_option maxHeartbeats 4000000 in
theorem cL_47 (hR : RG g) (hb : g.2 b = some (.inl (1, L, .inl xs))) (hL : LW g w x nA cA lA y nM o kn kn th s s) (v1 : vp_in (i + 1) L) (v2 : vp_in (i + 2) L) (v3 : vp_in (i + 3) L) (v4 : vp_in (i + 4) L) (v5 : vp_in (i + 5) L) (hk : k + 114 ≤ 58408) (hn : n + 2834 ≤ 1451408) (next : (∀ (l5' l6' : Option Value) (w' : Hw) (k' n' : Nat) (kn' th' : Int32) (s' : AS), LW g w' x nA cA lA y nM o kn' kn' th' s' s' → k' ≤ k + 114 → n' ≤ n + 2834 → WP (ML_law g) QLaw (2246, [some (.ref b), some (.ref x), some (.ref y), some (.ref o), some (.int i), l5', l6'], [], w', k', n'))) : WP (ML_law g) QLaw (2220, [some (.ref b), some (.ref x), some (.ref y), some (.ref o), some (.int i), l5, l6], [], w, k, n) := by
  simp only [eL_law_2220, wt_nil]
  with_reducible refine And.intro ?_ ?_
  with_reducible refine LW.gx hL (fun _ => trivial)
  with_reducible refine And.intro ?_ ?_
  omega
  with_reducible refine And.intro ?_ ?_
  omega
  with_reducible refine And.intro ?_ ?_
  omega
  with_reducible refine sX1_isSound hL.cc (fun v1 w1 k1 => ?_)
  simp only [eL_law_2224, kx_l, wt_nil, tl_s, Nat.add_zero]
  with_reducible refine And.intro ?_ ?_
  with_reducible refine LW.gz (hL.ext k1) (fun _ => trivial)
  with_reducible refine And.intro ?_ ?_
  omega
  with_reducible refine And.intro ?_ ?_
  omega
  with_reducible refine And.intro ?_ ?_
  omega
  with_reducible refine fX3_isSound (LW.ms (hL.ext k1)) (fun hQqw hQqh => ?_)
  simp only [eL_law_2229, kx_l, tl_s]
  with_reducible exact next _ _ _ _ _ _ _ _ (LW.ofM (hL.ext k1) hQqh) (by omega) (by omega)
end
end
