section
section
variable {g : RO} {w : Hw} {x nA cA lA y nM o b L k n : Nat} {xs : Nat → Int32} {i kn th : Int32} {s : AS} {l5 l6 : Option Value}
set_option maxHeartbeats 4000000 in
theorem cL_24 (hR : RG g) (hb : g.2 b = some (.inl (1, L, .inl xs))) (hL : LW g w x nA cA lA y nM o kn kn th s s) (v1 : vp_in (i + 1) L) (v2 : vp_in (i + 2) L) (v3 : vp_in (i + 3) L) (v4 : vp_in (i + 4) L) (v5 : vp_in (i + 5) L) (hk : k + 114 ≤ 58408) (hn : n + 2834 ≤ 1451408) (next : (∀ (l5' l6' : Option Value) (w' : Hw) (k' n' : Nat) (kn' th' : Int32) (s' : AS), LW g w' x nA cA lA y nM o kn' kn' th' s' s' → k' ≤ k + 114 → n' ≤ n + 2834 → WP (ML_law g) QLaw (2246, [some (.ref b), some (.ref x), some (.ref y), some (.ref o), some (.int i), l5', l6'], [], w', k', n'))) : WP (ML_law g) QLaw (1369, [some (.ref b), some (.ref x), some (.ref y), some (.ref o), some (.int i), l5, l6], [], w, k, n) := by
  simp only [eL_law_1369, eL_law_1376, eL_law_1382, eL_law_1388, eL_law_1391, eL_law_1395, eL_law_1396, wt_nil]
  with_reducible refine gi_W hL hb ?_
  with_reducible refine And.intro ?_ ?_
  with_reducible assumption
  with_reducible refine gi_W hL hb ?_
  with_reducible refine And.intro ?_ ?_
  with_reducible assumption
  with_reducible refine gi_W hL hb ?_
  with_reducible refine And.intro ?_ ?_
  with_reducible assumption
  split
  with_reducible refine And.intro ?_ ?_
  omega
  with_reducible refine And.intro ?_ ?_
  omega
  with_reducible refine And.intro ?_ ?_
  omega
  with_reducible refine fL_end hL (fun hXpc0 => ?_) (fun hWpc0 hWpc1 => ?_) (fun hSpc0 hSpc1 hSpc2 => ?_) (fun hQpc0 hQpc1 hQpr hQpc2 hQpw hQph hQpo => ?_)
  simp only [eL_law_1400, eL_law_1404, eL_law_1409, eL_law_1415, eL_law_1421, eL_law_1424, eL_law_1428, eL_law_1429, kx_l, wt_nil, nl_int, tl_s, Nat.add_zero]
  with_reducible refine gi_W hL hb ?_
  with_reducible refine And.intro ?_ ?_
  with_reducible assumption
  with_reducible refine gi_W hL hb ?_
  with_reducible refine And.intro ?_ ?_
  with_reducible assumption
  with_reducible refine gi_W hL hb ?_
  with_reducible refine And.intro ?_ ?_
  with_reducible assumption
  split
  with_reducible refine And.intro ?_ ?_
  with_reducible refine LW.gz hL (fun _ => trivial)
  with_reducible refine And.intro ?_ ?_
  omega
  with_reducible refine And.intro ?_ ?_
  omega
  with_reducible refine And.intro ?_ ?_
  omega
  with_reducible refine fX3_end (LW.ms hL) (fun hXqc0 hXqw hXqh => ?_) (fun hWqc0 hWqc1 hWqw hWqh => ?_) (fun hSqc0 hSqc1 hSqc2 hSqw hSqh => ?_) (fun hQqc0 hQqc1 hQqr hQqc2 hQqw hQqh => ?_)
  simp only [eL_law_1432, kx_l, nl_int, tl_s]
  with_reducible exact next _ _ _ _ _ _ _ _ (LW.ofM hL hXqh) (by omega) (by omega)
  with_reducible exact absurd hWqc0 hXpc0
  with_reducible exact absurd hSqc0 hXpc0
  with_reducible exact absurd hQqc0 hXpc0
  with_reducible refine And.intro ?_ ?_
  with_reducible refine LW.gz hL (fun _ => trivial)
  with_reducible refine And.intro ?_ ?_
  with_reducible exact absurd (show xs (i + 3).toNatClampNeg = 0 by assumption) (by assumption)
  with_reducible refine And.intro ?_ ?_
  with_reducible exact absurd (show xs (i + 3).toNatClampNeg = 0 by assumption) (by assumption)
  with_reducible refine And.intro ?_ ?_
  with_reducible exact absurd (show xs (i + 3).toNatClampNeg = 0 by assumption) (by assumption)
  with_reducible refine fX3_end (LW.ms hL) (fun hXqc0 hXqw hXqh => ?_) (fun hWqc0 hWqc1 hWqw hWqh => ?_) (fun hSqc0 hSqc1 hSqc2 hSqw hSqh => ?_) (fun hQqc0 hQqc1 hQqr hQqc2 hQqw hQqh => ?_)
  with_reducible exact absurd (show xs (i + 3).toNatClampNeg = 0 by assumption) (by assumption)
  with_reducible exact absurd hWqc0 hXpc0
  with_reducible exact absurd hSqc0 hXpc0
  with_reducible exact absurd hQqc0 hXpc0
  simp only [eL_law_1400, eL_law_1404, eL_law_1409, eL_law_1415, eL_law_1421, eL_law_1424, eL_law_1428, eL_law_1429, kx_l, wt_nil, nl_int, tl_s, Nat.add_zero]
  with_reducible refine gi_W hL hb ?_
  with_reducible refine And.intro ?_ ?_
  with_reducible assumption
  with_reducible refine gi_W hL hb ?_
  with_reducible refine And.intro ?_ ?_
  with_reducible assumption
  with_reducible refine gi_W hL hb ?_
  with_reducible refine And.intro ?_ ?_
  with_reducible assumption
  split
  with_reducible refine And.intro ?_ ?_
  with_reducible refine LW.gz hL (fun _ => trivial)
  with_reducible refine And.intro ?_ ?_
  omega
  with_reducible refine And.intro ?_ ?_
  omega
  with_reducible refine And.intro ?_ ?_
  omega
  with_reducible refine fX3_end (LW.ms hL) (fun hXqc0 hXqw hXqh => ?_) (fun hWqc0 hWqc1 hWqw hWqh => ?_) (fun hSqc0 hSqc1 hSqc2 hSqw hSqh => ?_) (fun hQqc0 hQqc1 hQqr hQqc2 hQqw hQqh => ?_)
  with_reducible exact absurd hWpc0 hXqc0
  simp only [eL_law_1432, kx_l, nl_int, tl_s]
  with_reducible exact next _ _ _ _ _ _ _ _ (LW.ofM hL hWqh) (by omega) (by omega)
  with_reducible exact absurd hSqc1 hWpc1
  with_reducible exact absurd hQqc1 hWpc1
  with_reducible refine And.intro ?_ ?_
  with_reducible refine LW.gz hL (fun _ => trivial)
  with_reducible refine And.intro ?_ ?_
  with_reducible exact absurd (show xs (i + 3).toNatClampNeg = 0 by assumption) (by assumption)
  with_reducible refine And.intro ?_ ?_
  with_reducible exact absurd (show xs (i + 3).toNatClampNeg = 0 by assumption) (by assumption)
  with_reducible refine And.intro ?_ ?_
  with_reducible exact absurd (show xs (i + 3).toNatClampNeg = 0 by assumption) (by assumption)
  with_reducible refine fX3_end (LW.ms hL) (fun hXqc0 hXqw hXqh => ?_) (fun hWqc0 hWqc1 hWqw hWqh => ?_) (fun hSqc0 hSqc1 hSqc2 hSqw hSqh => ?_) (fun hQqc0 hQqc1 hQqr hQqc2 hQqw hQqh => ?_)
  with_reducible exact absurd hWpc0 hXqc0
  with_reducible exact absurd (show xs (i + 3).toNatClampNeg = 0 by assumption) (by assumption)
  with_reducible exact absurd hSqc1 hWpc1
  with_reducible exact absurd hQqc1 hWpc1
  simp only [eL_law_1400, eL_law_1404, eL_law_1409, eL_law_1415, eL_law_1421, eL_law_1424, eL_law_1428, eL_law_1429, kx_l, wt_nil, nl_int, tl_s, Nat.add_zero]
  with_reducible refine gi_W hL hb ?_
  with_reducible refine And.intro ?_ ?_
  with_reducible assumption
  with_reducible refine gi_W hL hb ?_
  with_reducible refine And.intro ?_ ?_
  with_reducible assumption
  with_reducible refine gi_W hL hb ?_
  with_reducible refine And.intro ?_ ?_
  with_reducible assumption
  split
  with_reducible refine And.intro ?_ ?_
  with_reducible refine LW.gz hL (fun _ => trivial)
  with_reducible refine And.intro ?_ ?_
  omega
  with_reducible refine And.intro ?_ ?_
  omega
  with_reducible refine And.intro ?_ ?_
  omega
  with_reducible refine fX3_end (LW.ms hL) (fun hXqc0 hXqw hXqh => ?_) (fun hWqc0 hWqc1 hWqw hWqh => ?_) (fun hSqc0 hSqc1 hSqc2 hSqw hSqh => ?_) (fun hQqc0 hQqc1 hQqr hQqc2 hQqw hQqh => ?_)
  with_reducible exact absurd hSpc0 hXqc0
  with_reducible exact absurd hSpc1 hWqc1
  simp only [eL_law_1432, kx_l, nl_int, tl_s]
  with_reducible exact next _ _ _ _ _ _ _ _ (LW.ofM hL hSqh) (by omega) (by omega)
  with_reducible exact (nsC hSpc2 hQqc2).elim
  with_reducible refine And.intro ?_ ?_
  with_reducible refine LW.gz hL (fun _ => trivial)
  with_reducible refine And.intro ?_ ?_
  with_reducible exact absurd (show xs (i + 3).toNatClampNeg = 0 by assumption) (by assumption)
  with_reducible refine And.intro ?_ ?_
  with_reducible exact absurd (show xs (i + 3).toNatClampNeg = 0 by assumption) (by assumption)
  with_reducible refine And.intro ?_ ?_
  with_reducible exact absurd (show xs (i + 3).toNatClampNeg = 0 by assumption) (by assumption)
  with_reducible refine fX3_end (LW.ms hL) (fun hXqc0 hXqw hXqh => ?_) (fun hWqc0 hWqc1 hWqw hWqh => ?_) (fun hSqc0 hSqc1 hSqc2 hSqw hSqh => ?_) (fun hQqc0 hQqc1 hQqr hQqc2 hQqw hQqh => ?_)
  with_reducible exact absurd hSpc0 hXqc0
  with_reducible exact absurd hSpc1 hWqc1
  with_reducible exact absurd (show xs (i + 3).toNatClampNeg = 0 by assumption) (by assumption)
  with_reducible exact (nsC hSpc2 hQqc2).elim
  simp only [eL_law_1400, eL_law_1404, eL_law_1409, eL_law_1415, eL_law_1421, eL_law_1424, eL_law_1428, eL_law_1429, kx_l, wt_nil, nl_int, tl_s, Nat.add_zero]
  with_reducible refine gi_W hQph hb ?_
  with_reducible refine And.intro ?_ ?_
  with_reducible assumption
  with_reducible refine gi_W hQph hb ?_
  with_reducible refine And.intro ?_ ?_
  with_reducible assumption
  with_reducible refine gi_W hQph hb ?_
  with_reducible refine And.intro ?_ ?_
  with_reducible assumption
  split
  with_reducible refine And.intro ?_ ?_
  with_reducible refine LW.gz hQph (fun _ => trivial)
  with_reducible refine And.intro ?_ ?_
  omega
  with_reducible refine And.intro ?_ ?_
  omega
  with_reducible refine And.intro ?_ ?_
  omega
  with_reducible refine fX3_end (LW.ms hQph) (fun hXqc0 hXqw hXqh => ?_) (fun hWqc0 hWqc1 hWqw hWqh => ?_) (fun hSqc0 hSqc1 hSqc2 hSqw hSqh => ?_) (fun hQqc0 hQqc1 hQqr hQqc2 hQqw hQqh => ?_)
  with_reducible exact absurd hQpc0 hXqc0
  with_reducible exact absurd hQpc1 hWqc1
  with_reducible exact (nsC hSqc2 hQpc2).elim
  cases Option.some.inj (hQpc2.symm.trans hQqc2); clear hQqc2
  simp only [eL_law_1432, kx_l, nl_int, tl_s]
  with_reducible exact next _ _ _ _ _ _ _ _ (LW.ofM hQph hQqh) (by omega) (by omega)
  with_reducible refine And.intro ?_ ?_
  with_reducible refine LW.gz hQph (fun _ => trivial)
  with_reducible refine And.intro ?_ ?_
  with_reducible exact absurd (show xs (i + 3).toNatClampNeg = 0 by assumption) (by assumption)
  with_reducible refine And.intro ?_ ?_
  with_reducible exact absurd (show xs (i + 3).toNatClampNeg = 0 by assumption) (by assumption)
  with_reducible refine And.intro ?_ ?_
  with_reducible exact absurd (show xs (i + 3).toNatClampNeg = 0 by assumption) (by assumption)
  with_reducible refine fX3_end (LW.ms hQph) (fun hXqc0 hXqw hXqh => ?_) (fun hWqc0 hWqc1 hWqw hWqh => ?_) (fun hSqc0 hSqc1 hSqc2 hSqw hSqh => ?_) (fun hQqc0 hQqc1 hQqr hQqc2 hQqw hQqh => ?_)
  with_reducible exact absurd hQpc0 hXqc0
  with_reducible exact absurd hQpc1 hWqc1
  with_reducible exact (nsC hSqc2 hQpc2).elim
  cases Option.some.inj (hQpc2.symm.trans hQqc2); clear hQqc2
  with_reducible exact absurd (show xs (i + 3).toNatClampNeg = 0 by assumption) (by assumption)
  with_reducible refine And.intro ?_ ?_
  omega
  with_reducible refine And.intro ?_ ?_
  omega
  with_reducible refine And.intro ?_ ?_
  omega
  with_reducible refine fL_end hL (fun hXpc0 => ?_) (fun hWpc0 hWpc1 => ?_) (fun hSpc0 hSpc1 hSpc2 => ?_) (fun hQpc0 hQpc1 hQpr hQpc2 hQpw hQph hQpo => ?_)
  simp only [eL_law_1400, eL_law_1404, eL_law_1409, eL_law_1415, eL_law_1421, eL_law_1424, eL_law_1428, eL_law_1429, kx_l, wt_nil, nl_int, tl_s, Nat.add_zero]
  with_reducible refine gi_W hL hb ?_
  with_reducible refine And.intro ?_ ?_
  with_reducible assumption
  with_reducible refine gi_W hL hb ?_
  with_reducible refine And.intro ?_ ?_
  with_reducible assumption
  with_reducible refine gi_W hL hb ?_
  with_reducible refine And.intro ?_ ?_
  with_reducible assumption
  split
  with_reducible refine And.intro ?_ ?_
  with_reducible refine LW.gz hL (fun _ => trivial)
  with_reducible refine And.intro ?_ ?_
  with_reducible exact absurd (show xs (i + 3).toNatClampNeg = 0 by assumption) (by assumption)
  with_reducible refine And.intro ?_ ?_
  with_reducible exact absurd (show xs (i + 3).toNatClampNeg = 0 by assumption) (by assumption)
  with_reducible refine And.intro ?_ ?_
  with_reducible exact absurd (show xs (i + 3).toNatClampNeg = 0 by assumption) (by assumption)
  with_reducible refine fX3_end (LW.ms hL) (fun hXqc0 hXqw hXqh => ?_) (fun hWqc0 hWqc1 hWqw hWqh => ?_) (fun hSqc0 hSqc1 hSqc2 hSqw hSqh => ?_) (fun hQqc0 hQqc1 hQqr hQqc2 hQqw hQqh => ?_)
  with_reducible exact absurd (show xs (i + 3).toNatClampNeg = 0 by assumption) (by assumption)
  with_reducible exact absurd hWqc0 hXpc0
  with_reducible exact absurd hSqc0 hXpc0
  with_reducible exact absurd hQqc0 hXpc0
  with_reducible refine And.intro ?_ ?_
  with_reducible refine LW.gz hL (fun _ => trivial)
  with_reducible refine And.intro ?_ ?_
  omega
  with_reducible refine And.intro ?_ ?_
  omega
  with_reducible refine And.intro ?_ ?_
  omega
  with_reducible refine fX3_end (LW.ms hL) (fun hXqc0 hXqw hXqh => ?_) (fun hWqc0 hWqc1 hWqw hWqh => ?_) (fun hSqc0 hSqc1 hSqc2 hSqw hSqh => ?_) (fun hQqc0 hQqc1 hQqr hQqc2 hQqw hQqh => ?_)
  simp only [eL_law_1432, kx_l, nl_int, tl_s]
  with_reducible exact next _ _ _ _ _ _ _ _ (LW.ofM hL hXqh) (by omega) (by omega)
  with_reducible exact absurd hWqc0 hXpc0
  with_reducible exact absurd hSqc0 hXpc0
  with_reducible exact absurd hQqc0 hXpc0
  simp only [eL_law_1400, eL_law_1404, eL_law_1409, eL_law_1415, eL_law_1421, eL_law_1424, eL_law_1428, eL_law_1429, kx_l, wt_nil, nl_int, tl_s, Nat.add_zero]
  with_reducible refine gi_W hL hb ?_
  with_reducible refine And.intro ?_ ?_
  with_reducible assumption
  with_reducible refine gi_W hL hb ?_
  with_reducible refine And.intro ?_ ?_
  with_reducible assumption
  with_reducible refine gi_W hL hb ?_
  with_reducible refine And.intro ?_ ?_
  with_reducible assumption
  split
  with_reducible refine And.intro ?_ ?_
  with_reducible refine LW.gz hL (fun _ => trivial)
  with_reducible refine And.intro ?_ ?_
  with_reducible exact absurd (show xs (i + 3).toNatClampNeg = 0 by assumption) (by assumption)
  with_reducible refine And.intro ?_ ?_
  with_reducible exact absurd (show xs (i + 3).toNatClampNeg = 0 by assumption) (by assumption)
  with_reducible refine And.intro ?_ ?_
  with_reducible exact absurd (show xs (i + 3).toNatClampNeg = 0 by assumption) (by assumption)
  with_reducible refine fX3_end (LW.ms hL) (fun hXqc0 hXqw hXqh => ?_) (fun hWqc0 hWqc1 hWqw hWqh => ?_) (fun hSqc0 hSqc1 hSqc2 hSqw hSqh => ?_) (fun hQqc0 hQqc1 hQqr hQqc2 hQqw hQqh => ?_)
  with_reducible exact absurd hWpc0 hXqc0
  with_reducible exact absurd (show xs (i + 3).toNatClampNeg = 0 by assumption) (by assumption)
  with_reducible exact absurd hSqc1 hWpc1
  with_reducible exact absurd hQqc1 hWpc1
  with_reducible refine And.intro ?_ ?_
  with_reducible refine LW.gz hL (fun _ => trivial)
  with_reducible refine And.intro ?_ ?_
  omega
  with_reducible refine And.intro ?_ ?_
  omega
  with_reducible refine And.intro ?_ ?_
  omega
  with_reducible refine fX3_end (LW.ms hL) (fun hXqc0 hXqw hXqh => ?_) (fun hWqc0 hWqc1 hWqw hWqh => ?_) (fun hSqc0 hSqc1 hSqc2 hSqw hSqh => ?_) (fun hQqc0 hQqc1 hQqr hQqc2 hQqw hQqh => ?_)
  with_reducible exact absurd hWpc0 hXqc0
  simp only [eL_law_1432, kx_l, nl_int, tl_s]
  with_reducible exact next _ _ _ _ _ _ _ _ (LW.ofM hL hWqh) (by omega) (by omega)
  with_reducible exact absurd hSqc1 hWpc1
  with_reducible exact absurd hQqc1 hWpc1
  simp only [eL_law_1400, eL_law_1404, eL_law_1409, eL_law_1415, eL_law_1421, eL_law_1424, eL_law_1428, eL_law_1429, kx_l, wt_nil, nl_int, tl_s, Nat.add_zero]
  with_reducible refine gi_W hL hb ?_
  with_reducible refine And.intro ?_ ?_
  with_reducible assumption
  with_reducible refine gi_W hL hb ?_
  with_reducible refine And.intro ?_ ?_
  with_reducible assumption
  with_reducible refine gi_W hL hb ?_
  with_reducible refine And.intro ?_ ?_
  with_reducible assumption
  split
  with_reducible refine And.intro ?_ ?_
  with_reducible refine LW.gz hL (fun _ => trivial)
  with_reducible refine And.intro ?_ ?_
  with_reducible exact absurd (show xs (i + 3).toNatClampNeg = 0 by assumption) (by assumption)
  with_reducible refine And.intro ?_ ?_
  with_reducible exact absurd (show xs (i + 3).toNatClampNeg = 0 by assumption) (by assumption)
  with_reducible refine And.intro ?_ ?_
  with_reducible exact absurd (show xs (i + 3).toNatClampNeg = 0 by assumption) (by assumption)
  with_reducible refine fX3_end (LW.ms hL) (fun hXqc0 hXqw hXqh => ?_) (fun hWqc0 hWqc1 hWqw hWqh => ?_) (fun hSqc0 hSqc1 hSqc2 hSqw hSqh => ?_) (fun hQqc0 hQqc1 hQqr hQqc2 hQqw hQqh => ?_)
  with_reducible exact absurd hSpc0 hXqc0
  with_reducible exact absurd hSpc1 hWqc1
  with_reducible exact absurd (show xs (i + 3).toNatClampNeg = 0 by assumption) (by assumption)
  with_reducible exact (nsC hSpc2 hQqc2).elim
  with_reducible refine And.intro ?_ ?_
  with_reducible refine LW.gz hL (fun _ => trivial)
  with_reducible refine And.intro ?_ ?_
  omega
  with_reducible refine And.intro ?_ ?_
  omega
  with_reducible refine And.intro ?_ ?_
  omega
  with_reducible refine fX3_end (LW.ms hL) (fun hXqc0 hXqw hXqh => ?_) (fun hWqc0 hWqc1 hWqw hWqh => ?_) (fun hSqc0 hSqc1 hSqc2 hSqw hSqh => ?_) (fun hQqc0 hQqc1 hQqr hQqc2 hQqw hQqh => ?_)
  with_reducible exact absurd hSpc0 hXqc0
  with_reducible exact absurd hSpc1 hWqc1
  simp only [eL_law_1432, kx_l, nl_int, tl_s]
  with_reducible exact next _ _ _ _ _ _ _ _ (LW.ofM hL hSqh) (by omega) (by omega)
  with_reducible exact (nsC hSpc2 hQqc2).elim
  simp only [eL_law_1400, eL_law_1404, eL_law_1409, eL_law_1415, eL_law_1421, eL_law_1424, eL_law_1428, eL_law_1429, kx_l, wt_nil, nl_int, tl_s, Nat.add_zero]
  with_reducible refine gi_W hQph hb ?_
  with_reducible refine And.intro ?_ ?_
  with_reducible assumption
  with_reducible refine gi_W hQph hb ?_
  with_reducible refine And.intro ?_ ?_
  with_reducible assumption
  with_reducible refine gi_W hQph hb ?_
  with_reducible refine And.intro ?_ ?_
  with_reducible assumption
  split
  with_reducible refine And.intro ?_ ?_
  with_reducible refine LW.gz hQph (fun _ => trivial)
  with_reducible refine And.intro ?_ ?_
  with_reducible exact absurd (show xs (i + 3).toNatClampNeg = 0 by assumption) (by assumption)
  with_reducible refine And.intro ?_ ?_
  with_reducible exact absurd (show xs (i + 3).toNatClampNeg = 0 by assumption) (by assumption)
  with_reducible refine And.intro ?_ ?_
  with_reducible exact absurd (show xs (i + 3).toNatClampNeg = 0 by assumption) (by assumption)
  with_reducible refine fX3_end (LW.ms hQph) (fun hXqc0 hXqw hXqh => ?_) (fun hWqc0 hWqc1 hWqw hWqh => ?_) (fun hSqc0 hSqc1 hSqc2 hSqw hSqh => ?_) (fun hQqc0 hQqc1 hQqr hQqc2 hQqw hQqh => ?_)
  with_reducible exact absurd hQpc0 hXqc0
  with_reducible exact absurd hQpc1 hWqc1
  with_reducible exact (nsC hSqc2 hQpc2).elim
  cases Option.some.inj (hQpc2.symm.trans hQqc2); clear hQqc2
  with_reducible exact absurd (show xs (i + 3).toNatClampNeg = 0 by assumption) (by assumption)
  with_reducible refine And.intro ?_ ?_
  with_reducible refine LW.gz hQph (fun _ => trivial)
  with_reducible refine And.intro ?_ ?_
  omega
  with_reducible refine And.intro ?_ ?_
  omega
  with_reducible refine And.intro ?_ ?_
  omega
  with_reducible refine fX3_end (LW.ms hQph) (fun hXqc0 hXqw hXqh => ?_) (fun hWqc0 hWqc1 hWqw hWqh => ?_) (fun hSqc0 hSqc1 hSqc2 hSqw hSqh => ?_) (fun hQqc0 hQqc1 hQqr hQqc2 hQqw hQqh => ?_)
  with_reducible exact absurd hQpc0 hXqc0
  with_reducible exact absurd hQpc1 hWqc1
  with_reducible exact (nsC hSqc2 hQpc2).elim
  cases Option.some.inj (hQpc2.symm.trans hQqc2); clear hQqc2
  simp only [eL_law_1432, kx_l, nl_int, tl_s]
  with_reducible exact next _ _ _ _ _ _ _ _ (LW.ofM hQph hQqh) (by omega) (by omega)
set_option maxHeartbeats 4000000 in
theorem cL_25 (hR : RG g) (hb : g.2 b = some (.inl (1, L, .inl xs))) (hL : LW g w x nA cA lA y nM o kn kn th s s) (v1 : vp_in (i + 1) L) (v2 : vp_in (i + 2) L) (v3 : vp_in (i + 3) L) (v4 : vp_in (i + 4) L) (v5 : vp_in (i + 5) L) (hk : k + 114 ≤ 58408) (hn : n + 2834 ≤ 1451408) (next : (∀ (l5' l6' : Option Value) (w' : Hw) (k' n' : Nat) (kn' th' : Int32) (s' : AS), LW g w' x nA cA lA y nM o kn' kn' th' s' s' → k' ≤ k + 114 → n' ≤ n + 2834 → WP (ML_law g) QLaw (2246, [some (.ref b), some (.ref x), some (.ref y), some (.ref o), some (.int i), l5', l6'], [], w', k', n'))) : WP (ML_law g) QLaw (1437, [some (.ref b), some (.ref x), some (.ref y), some (.ref o), some (.int i), l5, l6], [], w, k, n) := by
  simp only [eL_law_1437, eL_law_1444, eL_law_1450, eL_law_1456, wt_nil]
  with_reducible refine gi_W hL hb ?_
  with_reducible refine And.intro ?_ ?_
  with_reducible assumption
  with_reducible refine gi_W hL hb ?_
  with_reducible refine And.intro ?_ ?_
  with_reducible assumption
  with_reducible refine gi_W hL hb ?_
  with_reducible refine And.intro ?_ ?_
  with_reducible assumption
  with_reducible refine And.intro ?_ ?_
  omega
  with_reducible refine And.intro ?_ ?_
  omega
  with_reducible refine And.intro ?_ ?_
  omega
  with_reducible refine fL_take hL (fun hXpc0 => ?_) (fun hWpc0 hWpc1 hWpc2 => ?_) (fun hSpc0 hSpc1 hSpc2 hSpc3 => ?_) (fun hQpc0 hQpc1 hQpc2 hQpr hQpc3 hQpw hQph hQpo => ?_)
  simp only [eL_law_1460, eL_law_1464, eL_law_1469, eL_law_1475, eL_law_1481, kx_l, wt_nil, nl_int, tl_s, Nat.add_zero]
  with_reducible refine gi_W hL hb ?_
  with_reducible refine And.intro ?_ ?_
  with_reducible assumption
  with_reducible refine gi_W hL hb ?_
  with_reducible refine And.intro ?_ ?_
  with_reducible assumption
  with_reducible refine gi_W hL hb ?_
  with_reducible refine And.intro ?_ ?_
  with_reducible assumption
  with_reducible refine And.intro ?_ ?_
  with_reducible refine LW.gz hL (fun _ => trivial)
  with_reducible refine And.intro ?_ ?_
  omega
  with_reducible refine And.intro ?_ ?_
  omega
  with_reducible refine And.intro ?_ ?_
  omega
  with_reducible refine fX3_take (LW.ms hL) (fun hXqc0 hXqw hXqh => ?_) (fun hWqc0 hWqc1 hWqc2 hWqw hWqh => ?_) (fun hSqc0 hSqc1 hSqc2 hSqc3 hSqw hSqh => ?_) (fun hQqc0 hQqc1 hQqc2 hQqr hQqc3 hQqw hQqh => ?_)
  simp only [eL_law_1484, kx_l, nl_int, tl_s]
  with_reducible exact next _ _ _ _ _ _ _ _ (LW.ofM hL hXqh) (by omega) (by omega)
  with_reducible exact absurd (And.intro hWqc0 hWqc1) hXpc0
  with_reducible exact absurd (And.intro hSqc0 hSqc1) hXpc0
  with_reducible exact absurd (And.intro hQqc0 hQqc1) hXpc0
  simp only [eL_law_1460, eL_law_1464, eL_law_1469, eL_law_1475, eL_law_1481, kx_l, wt_nil, nl_int, tl_s, Nat.add_zero]
  with_reducible refine gi_W hL hb ?_
  with_reducible refine And.intro ?_ ?_
  with_reducible assumption
  with_reducible refine gi_W hL hb ?_
  with_reducible refine And.intro ?_ ?_
  with_reducible assumption
  with_reducible refine gi_W hL hb ?_
  with_reducible refine And.intro ?_ ?_
  with_reducible assumption
  with_reducible refine And.intro ?_ ?_
  with_reducible refine LW.gz hL (fun _ => trivial)
  with_reducible refine And.intro ?_ ?_
  omega
  with_reducible refine And.intro ?_ ?_
  omega
  with_reducible refine And.intro ?_ ?_
  omega
  with_reducible refine fX3_take (LW.ms hL) (fun hXqc0 hXqw hXqh => ?_) (fun hWqc0 hWqc1 hWqc2 hWqw hWqh => ?_) (fun hSqc0 hSqc1 hSqc2 hSqc3 hSqw hSqh => ?_) (fun hQqc0 hQqc1 hQqc2 hQqr hQqc3 hQqw hQqh => ?_)
  with_reducible exact absurd (And.intro hWpc0 hWpc1) hXqc0
  simp only [eL_law_1484, kx_l, nl_int, tl_s]
  with_reducible exact next _ _ _ _ _ _ _ _ (LW.ofM hL hWqh) (by omega) (by omega)
  with_reducible exact absurd hSqc2 hWpc2
  with_reducible exact absurd hQqc2 hWpc2
  simp only [eL_law_1460, eL_law_1464, eL_law_1469, eL_law_1475, eL_law_1481, kx_l, wt_nil, nl_int, tl_s, Nat.add_zero]
  with_reducible refine gi_W hL hb ?_
  with_reducible refine And.intro ?_ ?_
  with_reducible assumption
  with_reducible refine gi_W hL hb ?_
  with_reducible refine And.intro ?_ ?_
  with_reducible assumption
  with_reducible refine gi_W hL hb ?_
  with_reducible refine And.intro ?_ ?_
  with_reducible assumption
  with_reducible refine And.intro ?_ ?_
  with_reducible refine LW.gz hL (fun _ => trivial)
  with_reducible refine And.intro ?_ ?_
  omega
  with_reducible refine And.intro ?_ ?_
  omega
  with_reducible refine And.intro ?_ ?_
  omega
  with_reducible refine fX3_take (LW.ms hL) (fun hXqc0 hXqw hXqh => ?_) (fun hWqc0 hWqc1 hWqc2 hWqw hWqh => ?_) (fun hSqc0 hSqc1 hSqc2 hSqc3 hSqw hSqh => ?_) (fun hQqc0 hQqc1 hQqc2 hQqr hQqc3 hQqw hQqh => ?_)
  with_reducible exact absurd (And.intro hSpc0 hSpc1) hXqc0
  with_reducible exact absurd hSpc2 hWqc2
  simp only [eL_law_1484, kx_l, nl_int, tl_s]
  with_reducible exact next _ _ _ _ _ _ _ _ (LW.ofM hL hSqh) (by omega) (by omega)
  with_reducible exact (nsC hSpc3 hQqc3).elim
  simp only [eL_law_1460, eL_law_1464, eL_law_1469, eL_law_1475, eL_law_1481, kx_l, wt_nil, nl_int, tl_s, Nat.add_zero]
  with_reducible refine gi_W hQph hb ?_
  with_reducible refine And.intro ?_ ?_
  with_reducible assumption
  with_reducible refine gi_W hQph hb ?_
  with_reducible refine And.intro ?_ ?_
  with_reducible assumption
  with_reducible refine gi_W hQph hb ?_
  with_reducible refine And.intro ?_ ?_
  with_reducible assumption
  with_reducible refine And.intro ?_ ?_
  with_reducible refine LW.gz hQph (fun _ => trivial)
  with_reducible refine And.intro ?_ ?_
  omega
  with_reducible refine And.intro ?_ ?_
  omega
  with_reducible refine And.intro ?_ ?_
  omega
  with_reducible refine fX3_take (LW.ms hQph) (fun hXqc0 hXqw hXqh => ?_) (fun hWqc0 hWqc1 hWqc2 hWqw hWqh => ?_) (fun hSqc0 hSqc1 hSqc2 hSqc3 hSqw hSqh => ?_) (fun hQqc0 hQqc1 hQqc2 hQqr hQqc3 hQqw hQqh => ?_)
  with_reducible exact absurd (And.intro hQpc0 hQpc1) hXqc0
  with_reducible exact absurd hQpc2 hWqc2
  with_reducible exact (nsC hSqc3 hQpc3).elim
  cases Option.some.inj (hQpc3.symm.trans hQqc3); clear hQqc3
  simp only [eL_law_1484, kx_l, nl_int, tl_s]
  with_reducible exact next _ _ _ _ _ _ _ _ (LW.ofM hQph hQqh) (by omega) (by omega)
set_option maxHeartbeats 4000000 in
theorem cL_26 (hR : RG g) (hb : g.2 b = some (.inl (1, L, .inl xs))) (hL : LW g w x nA cA lA y nM o kn kn th s s) (v1 : vp_in (i + 1) L) (v2 : vp_in (i + 2) L) (v3 : vp_in (i + 3) L) (v4 : vp_in (i + 4) L) (v5 : vp_in (i + 5) L) (hk : k + 114 ≤ 58408) (hn : n + 2834 ≤ 1451408) (next : (∀ (l5' l6' : Option Value) (w' : Hw) (k' n' : Nat) (kn' th' : Int32) (s' : AS), LW g w' x nA cA lA y nM o kn' kn' th' s' s' → k' ≤ k + 114 → n' ≤ n + 2834 → WP (ML_law g) QLaw (2246, [some (.ref b), some (.ref x), some (.ref y), some (.ref o), some (.int i), l5', l6'], [], w', k', n'))) : WP (ML_law g) QLaw (1489, [some (.ref b), some (.ref x), some (.ref y), some (.ref o), some (.int i), l5, l6], [], w, k, n) := by
  simp only [eL_law_1489, eL_law_1496, wt_nil]
  with_reducible refine gi_W hL hb ?_
  with_reducible refine And.intro ?_ ?_
  with_reducible assumption
  with_reducible refine And.intro ?_ ?_
  omega
  with_reducible refine And.intro ?_ ?_
  omega
  with_reducible refine And.intro ?_ ?_
  omega
  with_reducible refine gL_cardText hR hL (fun v1 w1 h1 => ?_)
  simp only [eL_law_1500, eL_law_1504, eL_law_1509, kx_l, wt_nil, nl_int, tl_s]
  with_reducible refine gi_W h1 hb ?_
  with_reducible refine And.intro ?_ ?_
  with_reducible assumption
  with_reducible refine And.intro ?_ ?_
  with_reducible refine LW.gz h1 (fun _ => trivial)
  with_reducible refine And.intro ?_ ?_
  omega
  with_reducible refine And.intro ?_ ?_
  omega
  with_reducible refine And.intro ?_ ?_
  with_reducible assumption
  with_reducible refine gX3_cardText (LW.ms h1) hR.sg (hR.dg (LW.ro h1)) (hR.tx (LW.ro h1)) (fun v2 t2 w2 m2 => ?_)
  simp only [eL_law_1512, kx_l, nl_int, tl_s]
  with_reducible exact next _ _ _ _ _ _ _ _ (LW.ofM h1 m2) (by omega) (by omega)
set_option maxHeartbeats 4000000 in
theorem cL_27 (hR : RG g) (hb : g.2 b = some (.inl (1, L, .inl xs))) (hL : LW g w x nA cA lA y nM o kn kn th s s) (v1 : vp_in (i + 1) L) (v2 : vp_in (i + 2) L) (v3 : vp_in (i + 3) L) (v4 : vp_in (i + 4) L) (v5 : vp_in (i + 5) L) (hk : k + 114 ≤ 58408) (hn : n + 2834 ≤ 1451408) (next : (∀ (l5' l6' : Option Value) (w' : Hw) (k' n' : Nat) (kn' th' : Int32) (s' : AS), LW g w' x nA cA lA y nM o kn' kn' th' s' s' → k' ≤ k + 114 → n' ≤ n + 2834 → WP (ML_law g) QLaw (2246, [some (.ref b), some (.ref x), some (.ref y), some (.ref o), some (.int i), l5', l6'], [], w', k', n'))) : WP (ML_law g) QLaw (1517, [some (.ref b), some (.ref x), some (.ref y), some (.ref o), some (.int i), l5, l6], [], w, k, n) := by
  simp only [eL_law_1517, eL_law_1524, eL_law_1530, wt_nil]
  with_reducible refine gi_W hL hb ?_
  with_reducible refine And.intro ?_ ?_
  with_reducible assumption
  with_reducible refine gi_W hL hb ?_
  with_reducible refine And.intro ?_ ?_
  with_reducible assumption
  with_reducible refine And.intro ?_ ?_
  omega
  with_reducible refine And.intro ?_ ?_
  omega
  with_reducible refine And.intro ?_ ?_
  omega
  with_reducible refine fL_isValid hL (fun hXpc0 => ?_) (fun hSpc0 hSpc1 hSpc2 => ?_) (fun hTpc0 hTpc1 hTpr hTpc2 hTpc3 hTpw hTph hTpo => ?_) (fun hFpc0 hFpc1 hFpr hFpc2 hFpc3 hFpw hFph hFpo => ?_)
  simp only [eL_law_1534, eL_law_1538, eL_law_1543, eL_law_1549, kx_l, wt_nil, nl_int, tl_s, Nat.add_zero]
  with_reducible refine gi_W hL hb ?_
  with_reducible refine And.intro ?_ ?_
  with_reducible assumption
  with_reducible refine gi_W hL hb ?_
  with_reducible refine And.intro ?_ ?_
  with_reducible assumption
  with_reducible refine And.intro ?_ ?_
  with_reducible refine LW.gz hL (fun _ => trivial)
  with_reducible refine And.intro ?_ ?_
  omega
  with_reducible refine And.intro ?_ ?_
  omega
  with_reducible refine And.intro ?_ ?_
  omega
  with_reducible refine fX3_isValid (LW.ms hL) (fun hXqc0 hXqw hXqh => ?_) (fun hSqc0 hSqc1 hSqc2 hSqw hSqh => ?_) (fun hTqc0 hTqc1 hTqr hTqc2 hTqc3 hTqw hTqh => ?_) (fun hFqc0 hFqc1 hFqr hFqc2 hFqc3 hFqw hFqh => ?_)
  simp only [eL_law_1552, kx_l, nl_int, tl_s]
  with_reducible exact next _ _ _ _ _ _ _ _ (LW.ofM hL hXqh) (by omega) (by omega)
  with_reducible exact absurd (And.intro hSqc0 hSqc1) hXpc0
  with_reducible exact absurd (And.intro hTqc0 hTqc1) hXpc0
  with_reducible exact absurd (And.intro hFqc0 hFqc1) hXpc0
  simp only [eL_law_1534, eL_law_1538, eL_law_1543, eL_law_1549, kx_l, wt_nil, nl_int, tl_s, Nat.add_zero]
  with_reducible refine gi_W hL hb ?_
  with_reducible refine And.intro ?_ ?_
  with_reducible assumption
  with_reducible refine gi_W hL hb ?_
  with_reducible refine And.intro ?_ ?_
  with_reducible assumption
  with_reducible refine And.intro ?_ ?_
  with_reducible refine LW.gz hL (fun _ => trivial)
  with_reducible refine And.intro ?_ ?_
  omega
  with_reducible refine And.intro ?_ ?_
  omega
  with_reducible refine And.intro ?_ ?_
  omega
  with_reducible refine fX3_isValid (LW.ms hL) (fun hXqc0 hXqw hXqh => ?_) (fun hSqc0 hSqc1 hSqc2 hSqw hSqh => ?_) (fun hTqc0 hTqc1 hTqr hTqc2 hTqc3 hTqw hTqh => ?_) (fun hFqc0 hFqc1 hFqr hFqc2 hFqc3 hFqw hFqh => ?_)
  with_reducible exact absurd (And.intro hSpc0 hSpc1) hXqc0
  simp only [eL_law_1552, kx_l, nl_int, tl_s]
  with_reducible exact next _ _ _ _ _ _ _ _ (LW.ofM hL hSqh) (by omega) (by omega)
  with_reducible exact (nsC hSpc2 hTqc2).elim
  with_reducible exact (nsC hSpc2 hFqc2).elim
  simp only [eL_law_1534, eL_law_1538, eL_law_1543, eL_law_1549, kx_l, wt_nil, nl_int, tl_s, Nat.add_zero]
  with_reducible refine gi_W hTph hb ?_
  with_reducible refine And.intro ?_ ?_
  with_reducible assumption
  with_reducible refine gi_W hTph hb ?_
  with_reducible refine And.intro ?_ ?_
  with_reducible assumption
  with_reducible refine And.intro ?_ ?_
  with_reducible refine LW.gz hTph (fun _ => trivial)
  with_reducible refine And.intro ?_ ?_
  omega
  with_reducible refine And.intro ?_ ?_
  omega
  with_reducible refine And.intro ?_ ?_
  omega
  with_reducible refine fX3_isValid (LW.ms hTph) (fun hXqc0 hXqw hXqh => ?_) (fun hSqc0 hSqc1 hSqc2 hSqw hSqh => ?_) (fun hTqc0 hTqc1 hTqr hTqc2 hTqc3 hTqw hTqh => ?_) (fun hFqc0 hFqc1 hFqr hFqc2 hFqc3 hFqw hFqh => ?_)
  with_reducible exact absurd (And.intro hTpc0 hTpc1) hXqc0
  with_reducible exact (nsC hSqc2 hTpc2).elim
  cases Option.some.inj (hTpc2.symm.trans hTqc2); clear hTqc2
  simp only [eL_law_1552, kx_l, nl_int, tl_s]
  with_reducible exact next _ _ _ _ _ _ _ _ (LW.ofM hTph hTqh) (by omega) (by omega)
  cases Option.some.inj (hTpc2.symm.trans hFqc2); clear hFqc2
  with_reducible exact absurd hTpc3 hFqc3
  simp only [eL_law_1534, eL_law_1538, eL_law_1543, eL_law_1549, kx_l, wt_nil, nl_int, tl_s, Nat.add_zero]
  with_reducible refine gi_W hFph hb ?_
  with_reducible refine And.intro ?_ ?_
  with_reducible assumption
  with_reducible refine gi_W hFph hb ?_
  with_reducible refine And.intro ?_ ?_
  with_reducible assumption
  with_reducible refine And.intro ?_ ?_
  with_reducible refine LW.gz hFph (fun _ => trivial)
  with_reducible refine And.intro ?_ ?_
  omega
  with_reducible refine And.intro ?_ ?_
  omega
  with_reducible refine And.intro ?_ ?_
  omega
  with_reducible refine fX3_isValid (LW.ms hFph) (fun hXqc0 hXqw hXqh => ?_) (fun hSqc0 hSqc1 hSqc2 hSqw hSqh => ?_) (fun hTqc0 hTqc1 hTqr hTqc2 hTqc3 hTqw hTqh => ?_) (fun hFqc0 hFqc1 hFqr hFqc2 hFqc3 hFqw hFqh => ?_)
  with_reducible exact absurd (And.intro hFpc0 hFpc1) hXqc0
  with_reducible exact (nsC hSqc2 hFpc2).elim
  cases Option.some.inj (hFpc2.symm.trans hTqc2); clear hTqc2
  with_reducible exact absurd hTqc3 hFpc3
  cases Option.some.inj (hFpc2.symm.trans hFqc2); clear hFqc2
  simp only [eL_law_1552, kx_l, nl_int, tl_s]
  with_reducible exact next _ _ _ _ _ _ _ _ (LW.ofM hFph hFqh) (by omega) (by omega)
set_option maxHeartbeats 4000000 in
theorem cL_28 (hR : RG g) (hb : g.2 b = some (.inl (1, L, .inl xs))) (hL : LW g w x nA cA lA y nM o kn kn th s s) (v1 : vp_in (i + 1) L) (v2 : vp_in (i + 2) L) (v3 : vp_in (i + 3) L) (v4 : vp_in (i + 4) L) (v5 : vp_in (i + 5) L) (hk : k + 114 ≤ 58408) (hn : n + 2834 ≤ 1451408) (next : (∀ (l5' l6' : Option Value) (w' : Hw) (k' n' : Nat) (kn' th' : Int32) (s' : AS), LW g w' x nA cA lA y nM o kn' kn' th' s' s' → k' ≤ k + 114 → n' ≤ n + 2834 → WP (ML_law g) QLaw (2246, [some (.ref b), some (.ref x), some (.ref y), some (.ref o), some (.int i), l5', l6'], [], w', k', n'))) : WP (ML_law g) QLaw (1557, [some (.ref b), some (.ref x), some (.ref y), some (.ref o), some (.int i), l5, l6], [], w, k, n) := by
  simp only [eL_law_1557, eL_law_1564, eL_law_1569, eL_law_1570, wt_nil]
  with_reducible refine gi_W hL hb ?_
  with_reducible refine And.intro ?_ ?_
  with_reducible assumption
  with_reducible refine gi_W hL hb ?_
  with_reducible refine And.intro ?_ ?_
  with_reducible assumption
  with_reducible refine And.intro ?_ ?_
  omega
  with_reducible refine And.intro ?_ ?_
  omega
  with_reducible refine And.intro ?_ ?_
  omega
  with_reducible refine fL_isValidSmall hL (fun hXpc0 => ?_) (fun hSpc0 hSpc1 hSpc2 => ?_) (fun hTpc0 hTpc1 hTpr hTpc2 hTpc3 hTpw hTph hTpo => ?_) (fun hFpc0 hFpc1 hFpr hFpc2 hFpc3 hFpw hFph hFpo => ?_)
  simp only [eL_law_1574, eL_law_1578, eL_law_1583, eL_law_1589, kx_l, wt_nil, nl_int, tl_s, Nat.add_zero]
  with_reducible refine gi_W hL hb ?_
  with_reducible refine And.intro ?_ ?_
  with_reducible assumption
  with_reducible refine gi_W hL hb ?_
  with_reducible refine And.intro ?_ ?_
  with_reducible assumption
  with_reducible refine And.intro ?_ ?_
  with_reducible refine LW.gz hL (fun _ => trivial)
  with_reducible refine And.intro ?_ ?_
  omega
  with_reducible refine And.intro ?_ ?_
  omega
  with_reducible refine And.intro ?_ ?_
  omega
  with_reducible refine fX3_isValidSmall (LW.ms hL) (fun hXqc0 hXqw hXqh => ?_) (fun hSqc0 hSqc1 hSqc2 hSqw hSqh => ?_) (fun hTqc0 hTqc1 hTqr hTqc2 hTqc3 hTqw hTqh => ?_) (fun hFqc0 hFqc1 hFqr hFqc2 hFqc3 hFqw hFqh => ?_)
  simp only [eL_law_1592, kx_l, nl_int, tl_s]
  with_reducible exact next _ _ _ _ _ _ _ _ (LW.ofM hL hXqh) (by omega) (by omega)
  with_reducible exact absurd (And.intro hSqc0 hSqc1) hXpc0
  with_reducible exact absurd (And.intro hTqc0 hTqc1) hXpc0
  with_reducible exact absurd (And.intro hFqc0 hFqc1) hXpc0
  simp only [eL_law_1574, eL_law_1578, eL_law_1583, eL_law_1589, kx_l, wt_nil, nl_int, tl_s, Nat.add_zero]
  with_reducible refine gi_W hL hb ?_
  with_reducible refine And.intro ?_ ?_
  with_reducible assumption
  with_reducible refine gi_W hL hb ?_
  with_reducible refine And.intro ?_ ?_
  with_reducible assumption
  with_reducible refine And.intro ?_ ?_
  with_reducible refine LW.gz hL (fun _ => trivial)
  with_reducible refine And.intro ?_ ?_
  omega
  with_reducible refine And.intro ?_ ?_
  omega
  with_reducible refine And.intro ?_ ?_
  omega
  with_reducible refine fX3_isValidSmall (LW.ms hL) (fun hXqc0 hXqw hXqh => ?_) (fun hSqc0 hSqc1 hSqc2 hSqw hSqh => ?_) (fun hTqc0 hTqc1 hTqr hTqc2 hTqc3 hTqw hTqh => ?_) (fun hFqc0 hFqc1 hFqr hFqc2 hFqc3 hFqw hFqh => ?_)
  with_reducible exact absurd (And.intro hSpc0 hSpc1) hXqc0
  simp only [eL_law_1592, kx_l, nl_int, tl_s]
  with_reducible exact next _ _ _ _ _ _ _ _ (LW.ofM hL hSqh) (by omega) (by omega)
  with_reducible exact (nsC hSpc2 hTqc2).elim
  with_reducible exact (nsC hSpc2 hFqc2).elim
  simp only [eL_law_1574, eL_law_1578, eL_law_1583, eL_law_1589, kx_l, wt_nil, nl_int, tl_s, Nat.add_zero]
  with_reducible refine gi_W hTph hb ?_
  with_reducible refine And.intro ?_ ?_
  with_reducible assumption
  with_reducible refine gi_W hTph hb ?_
  with_reducible refine And.intro ?_ ?_
  with_reducible assumption
  with_reducible refine And.intro ?_ ?_
  with_reducible refine LW.gz hTph (fun _ => trivial)
  with_reducible refine And.intro ?_ ?_
  omega
  with_reducible refine And.intro ?_ ?_
  omega
  with_reducible refine And.intro ?_ ?_
  omega
  with_reducible refine fX3_isValidSmall (LW.ms hTph) (fun hXqc0 hXqw hXqh => ?_) (fun hSqc0 hSqc1 hSqc2 hSqw hSqh => ?_) (fun hTqc0 hTqc1 hTqr hTqc2 hTqc3 hTqw hTqh => ?_) (fun hFqc0 hFqc1 hFqr hFqc2 hFqc3 hFqw hFqh => ?_)
  with_reducible exact absurd (And.intro hTpc0 hTpc1) hXqc0
  with_reducible exact (nsC hSqc2 hTpc2).elim
  cases Option.some.inj (hTpc2.symm.trans hTqc2); clear hTqc2
  simp only [eL_law_1592, kx_l, nl_int, tl_s]
  with_reducible exact next _ _ _ _ _ _ _ _ (LW.ofM hTph hTqh) (by omega) (by omega)
  cases Option.some.inj (hTpc2.symm.trans hFqc2); clear hFqc2
  with_reducible exact absurd hTpc3 hFqc3
  simp only [eL_law_1574, eL_law_1578, eL_law_1583, eL_law_1589, kx_l, wt_nil, nl_int, tl_s, Nat.add_zero]
  with_reducible refine gi_W hFph hb ?_
  with_reducible refine And.intro ?_ ?_
  with_reducible assumption
  with_reducible refine gi_W hFph hb ?_
  with_reducible refine And.intro ?_ ?_
  with_reducible assumption
  with_reducible refine And.intro ?_ ?_
  with_reducible refine LW.gz hFph (fun _ => trivial)
  with_reducible refine And.intro ?_ ?_
  omega
  with_reducible refine And.intro ?_ ?_
  omega
  with_reducible refine And.intro ?_ ?_
  omega
  with_reducible refine fX3_isValidSmall (LW.ms hFph) (fun hXqc0 hXqw hXqh => ?_) (fun hSqc0 hSqc1 hSqc2 hSqw hSqh => ?_) (fun hTqc0 hTqc1 hTqr hTqc2 hTqc3 hTqw hTqh => ?_) (fun hFqc0 hFqc1 hFqr hFqc2 hFqc3 hFqw hFqh => ?_)
  with_reducible exact absurd (And.intro hFpc0 hFpc1) hXqc0
  with_reducible exact (nsC hSqc2 hFpc2).elim
  cases Option.some.inj (hFpc2.symm.trans hTqc2); clear hTqc2
  with_reducible exact absurd hTqc3 hFpc3
  cases Option.some.inj (hFpc2.symm.trans hFqc2); clear hFqc2
  simp only [eL_law_1592, kx_l, nl_int, tl_s]
  with_reducible exact next _ _ _ _ _ _ _ _ (LW.ofM hFph hFqh) (by omega) (by omega)
set_option maxHeartbeats 4000000 in
theorem cL_29 (hR : RG g) (hb : g.2 b = some (.inl (1, L, .inl xs))) (hL : LW g w x nA cA lA y nM o kn kn th s s) (v1 : vp_in (i + 1) L) (v2 : vp_in (i + 2) L) (v3 : vp_in (i + 3) L) (v4 : vp_in (i + 4) L) (v5 : vp_in (i + 5) L) (hk : k + 114 ≤ 58408) (hn : n + 2834 ≤ 1451408) (next : (∀ (l5' l6' : Option Value) (w' : Hw) (k' n' : Nat) (kn' th' : Int32) (s' : AS), LW g w' x nA cA lA y nM o kn' kn' th' s' s' → k' ≤ k + 114 → n' ≤ n + 2834 → WP (ML_law g) QLaw (2246, [some (.ref b), some (.ref x), some (.ref y), some (.ref o), some (.int i), l5', l6'], [], w', k', n'))) : WP (ML_law g) QLaw (1597, [some (.ref b), some (.ref x), some (.ref y), some (.ref o), some (.int i), l5, l6], [], w, k, n) := by
  simp only [eL_law_1597, eL_law_1604, eL_law_1610, wt_nil]
  with_reducible refine gi_W hL hb ?_
  with_reducible refine And.intro ?_ ?_
  with_reducible assumption
  with_reducible refine gi_W hL hb ?_
  with_reducible refine And.intro ?_ ?_
  with_reducible assumption
  with_reducible refine And.intro ?_ ?_
  omega
  with_reducible refine And.intro ?_ ?_
  omega
  with_reducible refine And.intro ?_ ?_
  omega
  with_reducible refine fL_whichValid hL (fun hXpc0 => ?_) (fun hSpc0 hSpc1 => ?_) (fun hQpc0 hQpr hQpc1 hQpw hQph hQpo => ?_)
  simp only [eL_law_1614, eL_law_1618, eL_law_1623, eL_law_1629, kx_l, wt_nil, nl_int, tl_s, Nat.add_zero]
  with_reducible refine gi_W hL hb ?_
  with_reducible refine And.intro ?_ ?_
  with_reducible assumption
  with_reducible refine gi_W hL hb ?_
  with_reducible refine And.intro ?_ ?_
  with_reducible assumption
  with_reducible refine And.intro ?_ ?_
  with_reducible refine LW.gz hL (fun _ => trivial)
  with_reducible refine And.intro ?_ ?_
  omega
  with_reducible refine And.intro ?_ ?_
  omega
  with_reducible refine And.intro ?_ ?_
  omega
  with_reducible refine gX3_whichValid (LW.ms hL) (fun v2 t2 w2 m2 => ?_)
  simp only [eL_law_1632, kx_l, nl_int, tl_s]
  with_reducible exact next _ _ _ _ _ _ _ _ (LW.ofM hL m2) (by omega) (by omega)
  simp only [eL_law_1614, eL_law_1618, eL_law_1623, eL_law_1629, kx_l, wt_nil, nl_int, tl_s, Nat.add_zero]
  with_reducible refine gi_W hL hb ?_
  with_reducible refine And.intro ?_ ?_
  with_reducible assumption
  with_reducible refine gi_W hL hb ?_
  with_reducible refine And.intro ?_ ?_
  with_reducible assumption
  with_reducible refine And.intro ?_ ?_
  with_reducible refine LW.gz hL (fun _ => trivial)
  with_reducible refine And.intro ?_ ?_
  omega
  with_reducible refine And.intro ?_ ?_
  omega
  with_reducible refine And.intro ?_ ?_
  omega
  with_reducible refine gX3_whichValid (LW.ms hL) (fun v2 t2 w2 m2 => ?_)
  simp only [eL_law_1632, kx_l, nl_int, tl_s]
  with_reducible exact next _ _ _ _ _ _ _ _ (LW.ofM hL m2) (by omega) (by omega)
  simp only [eL_law_1614, eL_law_1618, eL_law_1623, eL_law_1629, kx_l, wt_nil, nl_int, tl_s, Nat.add_zero]
  with_reducible refine gi_W hQph hb ?_
  with_reducible refine And.intro ?_ ?_
  with_reducible assumption
  with_reducible refine gi_W hQph hb ?_
  with_reducible refine And.intro ?_ ?_
  with_reducible assumption
  with_reducible refine And.intro ?_ ?_
  with_reducible refine LW.gz hQph (fun _ => trivial)
  with_reducible refine And.intro ?_ ?_
  omega
  with_reducible refine And.intro ?_ ?_
  omega
  with_reducible refine And.intro ?_ ?_
  omega
  with_reducible refine gX3_whichValid (LW.ms hQph) (fun v2 t2 w2 m2 => ?_)
  simp only [eL_law_1632, kx_l, nl_int, tl_s]
  with_reducible exact next _ _ _ _ _ _ _ _ (LW.ofM hQph m2) (by omega) (by omega)
set_option maxHeartbeats 4000000 in
theorem cL_30 (hR : RG g) (hb : g.2 b = some (.inl (1, L, .inl xs))) (hL : LW g w x nA cA lA y nM o kn kn th s s) (v1 : vp_in (i + 1) L) (v2 : vp_in (i + 2) L) (v3 : vp_in (i + 3) L) (v4 : vp_in (i + 4) L) (v5 : vp_in (i + 5) L) (hk : k + 114 ≤ 58408) (hn : n + 2834 ≤ 1451408) (next : (∀ (l5' l6' : Option Value) (w' : Hw) (k' n' : Nat) (kn' th' : Int32) (s' : AS), LW g w' x nA cA lA y nM o kn' kn' th' s' s' → k' ≤ k + 114 → n' ≤ n + 2834 → WP (ML_law g) QLaw (2246, [some (.ref b), some (.ref x), some (.ref y), some (.ref o), some (.int i), l5', l6'], [], w', k', n'))) : WP (ML_law g) QLaw (1637, [some (.ref b), some (.ref x), some (.ref y), some (.ref o), some (.int i), l5, l6], [], w, k, n) := by
  simp only [eL_law_1637, eL_law_1644, eL_law_1650, eL_law_1656, eL_law_1659, eL_law_1663, eL_law_1664, wt_nil]
  with_reducible refine gi_W hL hb ?_
  with_reducible refine And.intro ?_ ?_
  with_reducible assumption
  with_reducible refine gi_W hL hb ?_
  with_reducible refine And.intro ?_ ?_
  with_reducible assumption
  with_reducible refine gi_W hL hb ?_
  with_reducible refine And.intro ?_ ?_
  with_reducible assumption
  split
  with_reducible refine And.intro ?_ ?_
  omega
  with_reducible refine And.intro ?_ ?_
  omega
  with_reducible refine And.intro ?_ ?_
  omega
  with_reducible refine fL_around hL (fun hXpc0 => ?_) (fun hWpc0 hWpc1 => ?_) (fun hSpc0 hSpc1 hSpc2 => ?_) (fun hQpc0 hQpc1 hQpr hQpc2 hQpw hQph hQpo => ?_)
  simp only [eL_law_1668, eL_law_1672, eL_law_1677, eL_law_1683, eL_law_1689, eL_law_1692, eL_law_1696, eL_law_1697, kx_l, wt_nil, nl_int, tl_s, Nat.add_zero]
  with_reducible refine gi_W hL hb ?_
  with_reducible refine And.intro ?_ ?_
  with_reducible assumption
  with_reducible refine gi_W hL hb ?_
  with_reducible refine And.intro ?_ ?_
  with_reducible assumption
  with_reducible refine gi_W hL hb ?_
  with_reducible refine And.intro ?_ ?_
  with_reducible assumption
  split
  with_reducible refine And.intro ?_ ?_
  with_reducible refine LW.gz hL (fun _ => trivial)
  with_reducible refine And.intro ?_ ?_
  omega
  with_reducible refine And.intro ?_ ?_
  omega
  with_reducible refine And.intro ?_ ?_
  omega
  with_reducible refine gX3_around (LW.ms hL) (fun v2 t2 w2 m2 => ?_)
  simp only [eL_law_1700, kx_l, nl_int, tl_s]
  with_reducible exact next _ _ _ _ _ _ _ _ (LW.ofM hL m2) (by omega) (by omega)
  with_reducible refine And.intro ?_ ?_
  with_reducible refine LW.gz hL (fun _ => trivial)
  with_reducible refine And.intro ?_ ?_
  with_reducible exact absurd (show xs (i + 3).toNatClampNeg = 0 by assumption) (by assumption)
  with_reducible refine And.intro ?_ ?_
  with_reducible exact absurd (show xs (i + 3).toNatClampNeg = 0 by assumption) (by assumption)
  with_reducible refine And.intro ?_ ?_
  with_reducible exact absurd (show xs (i + 3).toNatClampNeg = 0 by assumption) (by assumption)
  with_reducible refine gX3_around (LW.ms hL) (fun v2 t2 w2 m2 => ?_)
  with_reducible exact absurd (show xs (i + 3).toNatClampNeg = 0 by assumption) (by assumption)
  simp only [eL_law_1668, eL_law_1672, eL_law_1677, eL_law_1683, eL_law_1689, eL_law_1692, eL_law_1696, eL_law_1697, kx_l, wt_nil, nl_int, tl_s, Nat.add_zero]
  with_reducible refine gi_W hL hb ?_
  with_reducible refine And.intro ?_ ?_
  with_reducible assumption
  with_reducible refine gi_W hL hb ?_
  with_reducible refine And.intro ?_ ?_
  with_reducible assumption
  with_reducible refine gi_W hL hb ?_
  with_reducible refine And.intro ?_ ?_
  with_reducible assumption
  split
  with_reducible refine And.intro ?_ ?_
  with_reducible refine LW.gz hL (fun _ => trivial)
  with_reducible refine And.intro ?_ ?_
  omega
  with_reducible refine And.intro ?_ ?_
  omega
  with_reducible refine And.intro ?_ ?_
  omega
  with_reducible refine gX3_around (LW.ms hL) (fun v2 t2 w2 m2 => ?_)
  simp only [eL_law_1700, kx_l, nl_int, tl_s]
  with_reducible exact next _ _ _ _ _ _ _ _ (LW.ofM hL m2) (by omega) (by omega)
  with_reducible refine And.intro ?_ ?_
  with_reducible refine LW.gz hL (fun _ => trivial)
  with_reducible refine And.intro ?_ ?_
  with_reducible exact absurd (show xs (i + 3).toNatClampNeg = 0 by assumption) (by assumption)
  with_reducible refine And.intro ?_ ?_
  with_reducible exact absurd (show xs (i + 3).toNatClampNeg = 0 by assumption) (by assumption)
  with_reducible refine And.intro ?_ ?_
  with_reducible exact absurd (show xs (i + 3).toNatClampNeg = 0 by assumption) (by assumption)
  with_reducible refine gX3_around (LW.ms hL) (fun v2 t2 w2 m2 => ?_)
  with_reducible exact absurd (show xs (i + 3).toNatClampNeg = 0 by assumption) (by assumption)
  simp only [eL_law_1668, eL_law_1672, eL_law_1677, eL_law_1683, eL_law_1689, eL_law_1692, eL_law_1696, eL_law_1697, kx_l, wt_nil, nl_int, tl_s, Nat.add_zero]
  with_reducible refine gi_W hL hb ?_
  with_reducible refine And.intro ?_ ?_
  with_reducible assumption
  with_reducible refine gi_W hL hb ?_
  with_reducible refine And.intro ?_ ?_
  with_reducible assumption
  with_reducible refine gi_W hL hb ?_
  with_reducible refine And.intro ?_ ?_
  with_reducible assumption
  split
  with_reducible refine And.intro ?_ ?_
  with_reducible refine LW.gz hL (fun _ => trivial)
  with_reducible refine And.intro ?_ ?_
  omega
  with_reducible refine And.intro ?_ ?_
  omega
  with_reducible refine And.intro ?_ ?_
  omega
  with_reducible refine gX3_around (LW.ms hL) (fun v2 t2 w2 m2 => ?_)
  simp only [eL_law_1700, kx_l, nl_int, tl_s]
  with_reducible exact next _ _ _ _ _ _ _ _ (LW.ofM hL m2) (by omega) (by omega)
  with_reducible refine And.intro ?_ ?_
  with_reducible refine LW.gz hL (fun _ => trivial)
  with_reducible refine And.intro ?_ ?_
  with_reducible exact absurd (show xs (i + 3).toNatClampNeg = 0 by assumption) (by assumption)
  with_reducible refine And.intro ?_ ?_
  with_reducible exact absurd (show xs (i + 3).toNatClampNeg = 0 by assumption) (by assumption)
  with_reducible refine And.intro ?_ ?_
  with_reducible exact absurd (show xs (i + 3).toNatClampNeg = 0 by assumption) (by assumption)
  with_reducible refine gX3_around (LW.ms hL) (fun v2 t2 w2 m2 => ?_)
  with_reducible exact absurd (show xs (i + 3).toNatClampNeg = 0 by assumption) (by assumption)
  simp only [eL_law_1668, eL_law_1672, eL_law_1677, eL_law_1683, eL_law_1689, eL_law_1692, eL_law_1696, eL_law_1697, kx_l, wt_nil, nl_int, tl_s, Nat.add_zero]
  with_reducible refine gi_W hQph hb ?_
  with_reducible refine And.intro ?_ ?_
  with_reducible assumption
  with_reducible refine gi_W hQph hb ?_
  with_reducible refine And.intro ?_ ?_
  with_reducible assumption
  with_reducible refine gi_W hQph hb ?_
  with_reducible refine And.intro ?_ ?_
  with_reducible assumption
  split
  with_reducible refine And.intro ?_ ?_
  with_reducible refine LW.gz hQph (fun _ => trivial)
  with_reducible refine And.intro ?_ ?_
  omega
  with_reducible refine And.intro ?_ ?_
  omega
  with_reducible refine And.intro ?_ ?_
  omega
  with_reducible refine gX3_around (LW.ms hQph) (fun v2 t2 w2 m2 => ?_)
  simp only [eL_law_1700, kx_l, nl_int, tl_s]
  with_reducible exact next _ _ _ _ _ _ _ _ (LW.ofM hQph m2) (by omega) (by omega)
  with_reducible refine And.intro ?_ ?_
  with_reducible refine LW.gz hQph (fun _ => trivial)
  with_reducible refine And.intro ?_ ?_
  with_reducible exact absurd (show xs (i + 3).toNatClampNeg = 0 by assumption) (by assumption)
  with_reducible refine And.intro ?_ ?_
  with_reducible exact absurd (show xs (i + 3).toNatClampNeg = 0 by assumption) (by assumption)
  with_reducible refine And.intro ?_ ?_
  with_reducible exact absurd (show xs (i + 3).toNatClampNeg = 0 by assumption) (by assumption)
  with_reducible refine gX3_around (LW.ms hQph) (fun v2 t2 w2 m2 => ?_)
  with_reducible exact absurd (show xs (i + 3).toNatClampNeg = 0 by assumption) (by assumption)
  with_reducible refine And.intro ?_ ?_
  omega
  with_reducible refine And.intro ?_ ?_
  omega
  with_reducible refine And.intro ?_ ?_
  omega
  with_reducible refine fL_around hL (fun hXpc0 => ?_) (fun hWpc0 hWpc1 => ?_) (fun hSpc0 hSpc1 hSpc2 => ?_) (fun hQpc0 hQpc1 hQpr hQpc2 hQpw hQph hQpo => ?_)
  simp only [eL_law_1668, eL_law_1672, eL_law_1677, eL_law_1683, eL_law_1689, eL_law_1692, eL_law_1696, eL_law_1697, kx_l, wt_nil, nl_int, tl_s, Nat.add_zero]
  with_reducible refine gi_W hL hb ?_
  with_reducible refine And.intro ?_ ?_
  with_reducible assumption
  with_reducible refine gi_W hL hb ?_
  with_reducible refine And.intro ?_ ?_
  with_reducible assumption
  with_reducible refine gi_W hL hb ?_
  with_reducible refine And.intro ?_ ?_
  with_reducible assumption
  split
  with_reducible refine And.intro ?_ ?_
  with_reducible refine LW.gz hL (fun _ => trivial)
  with_reducible refine And.intro ?_ ?_
  with_reducible exact absurd (show xs (i + 3).toNatClampNeg = 0 by assumption) (by assumption)
  with_reducible refine And.intro ?_ ?_
  with_reducible exact absurd (show xs (i + 3).toNatClampNeg = 0 by assumption) (by assumption)
  with_reducible refine And.intro ?_ ?_
  with_reducible exact absurd (show xs (i + 3).toNatClampNeg = 0 by assumption) (by assumption)
  with_reducible refine gX3_around (LW.ms hL) (fun v2 t2 w2 m2 => ?_)
  with_reducible exact absurd (show xs (i + 3).toNatClampNeg = 0 by assumption) (by assumption)
  with_reducible refine And.intro ?_ ?_
  with_reducible refine LW.gz hL (fun _ => trivial)
  with_reducible refine And.intro ?_ ?_
  omega
  with_reducible refine And.intro ?_ ?_
  omega
  with_reducible refine And.intro ?_ ?_
  omega
  with_reducible refine gX3_around (LW.ms hL) (fun v2 t2 w2 m2 => ?_)
  simp only [eL_law_1700, kx_l, nl_int, tl_s]
  with_reducible exact next _ _ _ _ _ _ _ _ (LW.ofM hL m2) (by omega) (by omega)
  simp only [eL_law_1668, eL_law_1672, eL_law_1677, eL_law_1683, eL_law_1689, eL_law_1692, eL_law_1696, eL_law_1697, kx_l, wt_nil, nl_int, tl_s, Nat.add_zero]
  with_reducible refine gi_W hL hb ?_
  with_reducible refine And.intro ?_ ?_
  with_reducible assumption
  with_reducible refine gi_W hL hb ?_
  with_reducible refine And.intro ?_ ?_
  with_reducible assumption
  with_reducible refine gi_W hL hb ?_
  with_reducible refine And.intro ?_ ?_
  with_reducible assumption
  split
  with_reducible refine And.intro ?_ ?_
  with_reducible refine LW.gz hL (fun _ => trivial)
  with_reducible refine And.intro ?_ ?_
  with_reducible exact absurd (show xs (i + 3).toNatClampNeg = 0 by assumption) (by assumption)
  with_reducible refine And.intro ?_ ?_
  with_reducible exact absurd (show xs (i + 3).toNatClampNeg = 0 by assumption) (by assumption)
  with_reducible refine And.intro ?_ ?_
  with_reducible exact absurd (show xs (i + 3).toNatClampNeg = 0 by assumption) (by assumption)
  with_reducible refine gX3_around (LW.ms hL) (fun v2 t2 w2 m2 => ?_)
  with_reducible exact absurd (show xs (i + 3).toNatClampNeg = 0 by assumption) (by assumption)
  with_reducible refine And.intro ?_ ?_
  with_reducible refine LW.gz hL (fun _ => trivial)
  with_reducible refine And.intro ?_ ?_
  omega
  with_reducible refine And.intro ?_ ?_
  omega
  with_reducible refine And.intro ?_ ?_
  omega
  with_reducible refine gX3_around (LW.ms hL) (fun v2 t2 w2 m2 => ?_)
  simp only [eL_law_1700, kx_l, nl_int, tl_s]
  with_reducible exact next _ _ _ _ _ _ _ _ (LW.ofM hL m2) (by omega) (by omega)
  simp only [eL_law_1668, eL_law_1672, eL_law_1677, eL_law_1683, eL_law_1689, eL_law_1692, eL_law_1696, eL_law_1697, kx_l, wt_nil, nl_int, tl_s, Nat.add_zero]
  with_reducible refine gi_W hL hb ?_
  with_reducible refine And.intro ?_ ?_
  with_reducible assumption
  with_reducible refine gi_W hL hb ?_
  with_reducible refine And.intro ?_ ?_
  with_reducible assumption
  with_reducible refine gi_W hL hb ?_
  with_reducible refine And.intro ?_ ?_
  with_reducible assumption
  split
  with_reducible refine And.intro ?_ ?_
  with_reducible refine LW.gz hL (fun _ => trivial)
  with_reducible refine And.intro ?_ ?_
  with_reducible exact absurd (show xs (i + 3).toNatClampNeg = 0 by assumption) (by assumption)
  with_reducible refine And.intro ?_ ?_
  with_reducible exact absurd (show xs (i + 3).toNatClampNeg = 0 by assumption) (by assumption)
  with_reducible refine And.intro ?_ ?_
  with_reducible exact absurd (show xs (i + 3).toNatClampNeg = 0 by assumption) (by assumption)
  with_reducible refine gX3_around (LW.ms hL) (fun v2 t2 w2 m2 => ?_)
  with_reducible exact absurd (show xs (i + 3).toNatClampNeg = 0 by assumption) (by assumption)
  with_reducible refine And.intro ?_ ?_
  with_reducible refine LW.gz hL (fun _ => trivial)
  with_reducible refine And.intro ?_ ?_
  omega
  with_reducible refine And.intro ?_ ?_
  omega
  with_reducible refine And.intro ?_ ?_
  omega
  with_reducible refine gX3_around (LW.ms hL) (fun v2 t2 w2 m2 => ?_)
  simp only [eL_law_1700, kx_l, nl_int, tl_s]
  with_reducible exact next _ _ _ _ _ _ _ _ (LW.ofM hL m2) (by omega) (by omega)
  simp only [eL_law_1668, eL_law_1672, eL_law_1677, eL_law_1683, eL_law_1689, eL_law_1692, eL_law_1696, eL_law_1697, kx_l, wt_nil, nl_int, tl_s, Nat.add_zero]
  with_reducible refine gi_W hQph hb ?_
  with_reducible refine And.intro ?_ ?_
  with_reducible assumption
  with_reducible refine gi_W hQph hb ?_
  with_reducible refine And.intro ?_ ?_
  with_reducible assumption
  with_reducible refine gi_W hQph hb ?_
  with_reducible refine And.intro ?_ ?_
  with_reducible assumption
  split
  with_reducible refine And.intro ?_ ?_
  with_reducible refine LW.gz hQph (fun _ => trivial)
  with_reducible refine And.intro ?_ ?_
  with_reducible exact absurd (show xs (i + 3).toNatClampNeg = 0 by assumption) (by assumption)
  with_reducible refine And.intro ?_ ?_
  with_reducible exact absurd (show xs (i + 3).toNatClampNeg = 0 by assumption) (by assumption)
  with_reducible refine And.intro ?_ ?_
  with_reducible exact absurd (show xs (i + 3).toNatClampNeg = 0 by assumption) (by assumption)
  with_reducible refine gX3_around (LW.ms hQph) (fun v2 t2 w2 m2 => ?_)
  with_reducible exact absurd (show xs (i + 3).toNatClampNeg = 0 by assumption) (by assumption)
  with_reducible refine And.intro ?_ ?_
  with_reducible refine LW.gz hQph (fun _ => trivial)
  with_reducible refine And.intro ?_ ?_
  omega
  with_reducible refine And.intro ?_ ?_
  omega
  with_reducible refine And.intro ?_ ?_
  omega
  with_reducible refine gX3_around (LW.ms hQph) (fun v2 t2 w2 m2 => ?_)
  simp only [eL_law_1700, kx_l, nl_int, tl_s]
  with_reducible exact next _ _ _ _ _ _ _ _ (LW.ofM hQph m2) (by omega) (by omega)
set_option maxHeartbeats 4000000 in
theorem cL_31 (hR : RG g) (hb : g.2 b = some (.inl (1, L, .inl xs))) (hL : LW g w x nA cA lA y nM o kn kn th s s) (v1 : vp_in (i + 1) L) (v2 : vp_in (i + 2) L) (v3 : vp_in (i + 3) L) (v4 : vp_in (i + 4) L) (v5 : vp_in (i + 5) L) (hk : k + 114 ≤ 58408) (hn : n + 2834 ≤ 1451408) (next : (∀ (l5' l6' : Option Value) (w' : Hw) (k' n' : Nat) (kn' th' : Int32) (s' : AS), LW g w' x nA cA lA y nM o kn' kn' th' s' s' → k' ≤ k + 114 → n' ≤ n + 2834 → WP (ML_law g) QLaw (2246, [some (.ref b), some (.ref x), some (.ref y), some (.ref o), some (.int i), l5', l6'], [], w', k', n'))) : WP (ML_law g) QLaw (1705, [some (.ref b), some (.ref x), some (.ref y), some (.ref o), some (.int i), l5, l6], [], w, k, n) := by
  simp only [eL_law_1705, eL_law_1712, eL_law_1718, eL_law_1724, wt_nil]
  with_reducible refine gi_W hL hb ?_
  with_reducible refine And.intro ?_ ?_
  with_reducible assumption
  with_reducible refine gi_W hL hb ?_
  with_reducible refine And.intro ?_ ?_
  with_reducible assumption
  with_reducible refine gi_W hL hb ?_
  with_reducible refine And.intro ?_ ?_
  with_reducible assumption
  with_reducible refine And.intro ?_ ?_
  omega
  with_reducible refine And.intro ?_ ?_
  omega
  with_reducible refine And.intro ?_ ?_
  omega
  with_reducible refine gL_count hR hL (fun v1 w1 h1 => ?_)
  simp only [eL_law_1728, eL_law_1732, eL_law_1737, eL_law_1743, eL_law_1749, kx_l, wt_nil, nl_int, tl_s, Nat.add_zero]
  with_reducible refine gi_W h1 hb ?_
  with_reducible refine And.intro ?_ ?_
  with_reducible assumption
  with_reducible refine gi_W h1 hb ?_
  with_reducible refine And.intro ?_ ?_
  with_reducible assumption
  with_reducible refine gi_W h1 hb ?_
  with_reducible refine And.intro ?_ ?_
  with_reducible assumption
  with_reducible refine And.intro ?_ ?_
  with_reducible refine LW.gz h1 (fun _ => trivial)
  with_reducible refine And.intro ?_ ?_
  omega
  with_reducible refine And.intro ?_ ?_
  omega
  with_reducible refine And.intro ?_ ?_
  omega
  with_reducible refine gX3_count (LW.ms h1) (fun v2 t2 w2 m2 => ?_)
  simp only [eL_law_1752, kx_l, nl_int, tl_s]
  with_reducible exact next _ _ _ _ _ _ _ _ (LW.ofM h1 m2) (by omega) (by omega)
set_option maxHeartbeats 4000000 in
theorem cL_32 (hR : RG g) (hb : g.2 b = some (.inl (1, L, .inl xs))) (hL : LW g w x nA cA lA y nM o kn kn th s s) (v1 : vp_in (i + 1) L) (v2 : vp_in (i + 2) L) (v3 : vp_in (i + 3) L) (v4 : vp_in (i + 4) L) (v5 : vp_in (i + 5) L) (hk : k + 114 ≤ 58408) (hn : n + 2834 ≤ 1451408) (next : (∀ (l5' l6' : Option Value) (w' : Hw) (k' n' : Nat) (kn' th' : Int32) (s' : AS), LW g w' x nA cA lA y nM o kn' kn' th' s' s' → k' ≤ k + 114 → n' ≤ n + 2834 → WP (ML_law g) QLaw (2246, [some (.ref b), some (.ref x), some (.ref y), some (.ref o), some (.int i), l5', l6'], [], w', k', n'))) : WP (ML_law g) QLaw (1757, [some (.ref b), some (.ref x), some (.ref y), some (.ref o), some (.int i), l5, l6], [], w, k, n) := by
  simp only [eL_law_1757, eL_law_1764, eL_law_1770, wt_nil]
  with_reducible refine gi_W hL hb ?_
  with_reducible refine And.intro ?_ ?_
  with_reducible assumption
  with_reducible refine gi_W hL hb ?_
  with_reducible refine And.intro ?_ ?_
  with_reducible assumption
  with_reducible refine And.intro ?_ ?_
  omega
  with_reducible refine And.intro ?_ ?_
  omega
  with_reducible refine And.intro ?_ ?_
  omega
  with_reducible refine gL_who hR hL (fun v1 w1 h1 => ?_)
  simp only [eL_law_1774, eL_law_1778, eL_law_1783, eL_law_1789, kx_l, wt_nil, nl_int, tl_s, Nat.add_zero]
  with_reducible refine gi_W h1 hb ?_
  with_reducible refine And.intro ?_ ?_
  with_reducible assumption
  with_reducible refine gi_W h1 hb ?_
  with_reducible refine And.intro ?_ ?_
  with_reducible assumption
  with_reducible refine And.intro ?_ ?_
  with_reducible refine LW.gz h1 (fun _ => trivial)
  with_reducible refine And.intro ?_ ?_
  omega
  with_reducible refine And.intro ?_ ?_
  omega
  with_reducible refine And.intro ?_ ?_
  omega
  with_reducible refine gX3_who (LW.ms h1) (fun v2 t2 w2 m2 => ?_)
  simp only [eL_law_1792, kx_l, nl_int, tl_s]
  with_reducible exact next _ _ _ _ _ _ _ _ (LW.ofM h1 m2) (by omega) (by omega)
set_option maxHeartbeats 4000000 in
theorem cL_33 (hR : RG g) (hb : g.2 b = some (.inl (1, L, .inl xs))) (hL : LW g w x nA cA lA y nM o kn kn th s s) (v1 : vp_in (i + 1) L) (v2 : vp_in (i + 2) L) (v3 : vp_in (i + 3) L) (v4 : vp_in (i + 4) L) (v5 : vp_in (i + 5) L) (hk : k + 114 ≤ 58408) (hn : n + 2834 ≤ 1451408) (next : (∀ (l5' l6' : Option Value) (w' : Hw) (k' n' : Nat) (kn' th' : Int32) (s' : AS), LW g w' x nA cA lA y nM o kn' kn' th' s' s' → k' ≤ k + 114 → n' ≤ n + 2834 → WP (ML_law g) QLaw (2246, [some (.ref b), some (.ref x), some (.ref y), some (.ref o), some (.int i), l5', l6'], [], w', k', n'))) : WP (ML_law g) QLaw (1797, [some (.ref b), some (.ref x), some (.ref y), some (.ref o), some (.int i), l5, l6], [], w, k, n) := by
  simp only [eL_law_1797, eL_law_1804, wt_nil]
  with_reducible refine gi_W hL hb ?_
  with_reducible refine And.intro ?_ ?_
  with_reducible assumption
  with_reducible refine And.intro ?_ ?_
  omega
  with_reducible refine And.intro ?_ ?_
  omega
  with_reducible refine And.intro ?_ ?_
  omega
  with_reducible refine gL_which hR hL (fun v1 w1 h1 => ?_)
  simp only [eL_law_1808, eL_law_1812, eL_law_1817, kx_l, wt_nil, nl_int, tl_s, Nat.add_zero]
  with_reducible refine gi_W h1 hb ?_
  with_reducible refine And.intro ?_ ?_
  with_reducible assumption
  with_reducible refine And.intro ?_ ?_
  with_reducible refine LW.gz h1 (fun _ => trivial)
  with_reducible refine And.intro ?_ ?_
  omega
  with_reducible refine And.intro ?_ ?_
  omega
  with_reducible refine And.intro ?_ ?_
  omega
  with_reducible refine gX3_which (LW.ms h1) (fun v2 t2 w2 m2 => ?_)
  simp only [eL_law_1820, kx_l, nl_int, tl_s]
  with_reducible exact next _ _ _ _ _ _ _ _ (LW.ofM h1 m2) (by omega) (by omega)
set_option maxHeartbeats 4000000 in
theorem cL_34 (hR : RG g) (hb : g.2 b = some (.inl (1, L, .inl xs))) (hL : LW g w x nA cA lA y nM o kn kn th s s) (v1 : vp_in (i + 1) L) (v2 : vp_in (i + 2) L) (v3 : vp_in (i + 3) L) (v4 : vp_in (i + 4) L) (v5 : vp_in (i + 5) L) (hk : k + 114 ≤ 58408) (hn : n + 2834 ≤ 1451408) (next : (∀ (l5' l6' : Option Value) (w' : Hw) (k' n' : Nat) (kn' th' : Int32) (s' : AS), LW g w' x nA cA lA y nM o kn' kn' th' s' s' → k' ≤ k + 114 → n' ≤ n + 2834 → WP (ML_law g) QLaw (2246, [some (.ref b), some (.ref x), some (.ref y), some (.ref o), some (.int i), l5', l6'], [], w', k', n'))) : WP (ML_law g) QLaw (1825, [some (.ref b), some (.ref x), some (.ref y), some (.ref o), some (.int i), l5, l6], [], w, k, n) := by
  simp only [eL_law_1825, eL_law_1832, eL_law_1838, wt_nil]
  with_reducible refine gi_W hL hb ?_
  with_reducible refine And.intro ?_ ?_
  with_reducible assumption
  with_reducible refine gi_W hL hb ?_
  with_reducible refine And.intro ?_ ?_
  with_reducible assumption
  with_reducible refine And.intro ?_ ?_
  omega
  with_reducible refine And.intro ?_ ?_
  omega
  with_reducible refine And.intro ?_ ?_
  omega
  with_reducible refine fL_areSame hL (fun hXpc0 => ?_) (fun hSpc0 hSpc1 hSpc2 => ?_) (fun hTpc0 hTpc1 hTpr hTpq hTpc2 hTpc3 hTpc4 hTpw hTph hTpo => ?_) (fun hFpc0 hFpc1 hFpr hFpq hFpc2 hFpc3 hFpc4 hFpw hFph hFpo => ?_)
  simp only [eL_law_1842, eL_law_1846, eL_law_1851, eL_law_1857, kx_l, wt_nil, nl_int, tl_s, Nat.add_zero]
  with_reducible refine gi_W hL hb ?_
  with_reducible refine And.intro ?_ ?_
  with_reducible assumption
  with_reducible refine gi_W hL hb ?_
  with_reducible refine And.intro ?_ ?_
  with_reducible assumption
  with_reducible refine And.intro ?_ ?_
  with_reducible refine LW.gz hL (fun _ => trivial)
  with_reducible refine And.intro ?_ ?_
  omega
  with_reducible refine And.intro ?_ ?_
  omega
  with_reducible refine And.intro ?_ ?_
  omega
  with_reducible refine fX3_areSame (LW.ms hL) (fun hXqc0 hXqw hXqh => ?_) (fun hSqc0 hSqc1 hSqc2 hSqw hSqh => ?_) (fun hTqc0 hTqc1 hTqr hTqq hTqc2 hTqc3 hTqc4 hTqw hTqh => ?_) (fun hFqc0 hFqc1 hFqr hFqq hFqc2 hFqc3 hFqc4 hFqw hFqh => ?_)
  simp only [eL_law_1860, kx_l, nl_int, tl_s]
  with_reducible exact next _ _ _ _ _ _ _ _ (LW.ofM hL hXqh) (by omega) (by omega)
  with_reducible exact absurd (And.intro hSqc0 hSqc1) hXpc0
  with_reducible exact absurd (And.intro hTqc0 hTqc1) hXpc0
  with_reducible exact absurd (And.intro hFqc0 hFqc1) hXpc0
  simp only [eL_law_1842, eL_law_1846, eL_law_1851, eL_law_1857, kx_l, wt_nil, nl_int, tl_s, Nat.add_zero]
  with_reducible refine gi_W hL hb ?_
  with_reducible refine And.intro ?_ ?_
  with_reducible assumption
  with_reducible refine gi_W hL hb ?_
  with_reducible refine And.intro ?_ ?_
  with_reducible assumption
  with_reducible refine And.intro ?_ ?_
  with_reducible refine LW.gz hL (fun _ => trivial)
  with_reducible refine And.intro ?_ ?_
  omega
  with_reducible refine And.intro ?_ ?_
  omega
  with_reducible refine And.intro ?_ ?_
  omega
  with_reducible refine fX3_areSame (LW.ms hL) (fun hXqc0 hXqw hXqh => ?_) (fun hSqc0 hSqc1 hSqc2 hSqw hSqh => ?_) (fun hTqc0 hTqc1 hTqr hTqq hTqc2 hTqc3 hTqc4 hTqw hTqh => ?_) (fun hFqc0 hFqc1 hFqr hFqq hFqc2 hFqc3 hFqc4 hFqw hFqh => ?_)
  with_reducible exact absurd (And.intro hSpc0 hSpc1) hXqc0
  simp only [eL_law_1860, kx_l, nl_int, tl_s]
  with_reducible exact next _ _ _ _ _ _ _ _ (LW.ofM hL hSqh) (by omega) (by omega)
  with_reducible exact (hSpc2.elim (fun e => nsC e hTqc2) (fun e => nsC e hTqc3)).elim
  with_reducible exact (hSpc2.elim (fun e => nsC e hFqc2) (fun e => nsC e hFqc3)).elim
  simp only [eL_law_1842, eL_law_1846, eL_law_1851, eL_law_1857, kx_l, wt_nil, nl_int, tl_s, Nat.add_zero]
  with_reducible refine gi_W hTph hb ?_
  with_reducible refine And.intro ?_ ?_
  with_reducible assumption
  with_reducible refine gi_W hTph hb ?_
  with_reducible refine And.intro ?_ ?_
  with_reducible assumption
  with_reducible refine And.intro ?_ ?_
  with_reducible refine LW.gz hTph (fun _ => trivial)
  with_reducible refine And.intro ?_ ?_
  omega
  with_reducible refine And.intro ?_ ?_
  omega
  with_reducible refine And.intro ?_ ?_
  omega
  with_reducible refine fX3_areSame (LW.ms hTph) (fun hXqc0 hXqw hXqh => ?_) (fun hSqc0 hSqc1 hSqc2 hSqw hSqh => ?_) (fun hTqc0 hTqc1 hTqr hTqq hTqc2 hTqc3 hTqc4 hTqw hTqh => ?_) (fun hFqc0 hFqc1 hFqr hFqq hFqc2 hFqc3 hFqc4 hFqw hFqh => ?_)
  with_reducible exact absurd (And.intro hTpc0 hTpc1) hXqc0
  with_reducible exact (hSqc2.elim (fun e => nsC e hTpc2) (fun e => nsC e hTpc3)).elim
  cases Option.some.inj (hTpc2.symm.trans hTqc2); clear hTqc2
  cases Option.some.inj (hTpc3.symm.trans hTqc3); clear hTqc3
  simp only [eL_law_1860, kx_l, nl_int, tl_s]
  with_reducible exact next _ _ _ _ _ _ _ _ (LW.ofM hTph hTqh) (by omega) (by omega)
  cases Option.some.inj (hTpc2.symm.trans hFqc2); clear hFqc2
  cases Option.some.inj (hTpc3.symm.trans hFqc3); clear hFqc3
  with_reducible exact absurd hTpc4 hFqc4
  simp only [eL_law_1842, eL_law_1846, eL_law_1851, eL_law_1857, kx_l, wt_nil, nl_int, tl_s, Nat.add_zero]
  with_reducible refine gi_W hFph hb ?_
  with_reducible refine And.intro ?_ ?_
  with_reducible assumption
  with_reducible refine gi_W hFph hb ?_
  with_reducible refine And.intro ?_ ?_
  with_reducible assumption
  with_reducible refine And.intro ?_ ?_
  with_reducible refine LW.gz hFph (fun _ => trivial)
  with_reducible refine And.intro ?_ ?_
  omega
  with_reducible refine And.intro ?_ ?_
  omega
  with_reducible refine And.intro ?_ ?_
  omega
  with_reducible refine fX3_areSame (LW.ms hFph) (fun hXqc0 hXqw hXqh => ?_) (fun hSqc0 hSqc1 hSqc2 hSqw hSqh => ?_) (fun hTqc0 hTqc1 hTqr hTqq hTqc2 hTqc3 hTqc4 hTqw hTqh => ?_) (fun hFqc0 hFqc1 hFqr hFqq hFqc2 hFqc3 hFqc4 hFqw hFqh => ?_)
  with_reducible exact absurd (And.intro hFpc0 hFpc1) hXqc0
  with_reducible exact (hSqc2.elim (fun e => nsC e hFpc2) (fun e => nsC e hFpc3)).elim
  cases Option.some.inj (hFpc2.symm.trans hTqc2); clear hTqc2
  cases Option.some.inj (hFpc3.symm.trans hTqc3); clear hTqc3
  with_reducible exact absurd hTqc4 hFpc4
  cases Option.some.inj (hFpc2.symm.trans hFqc2); clear hFqc2
  cases Option.some.inj (hFpc3.symm.trans hFqc3); clear hFqc3
  simp only [eL_law_1860, kx_l, nl_int, tl_s]
  with_reducible exact next _ _ _ _ _ _ _ _ (LW.ofM hFph hFqh) (by omega) (by omega)
set_option maxHeartbeats 4000000 in
theorem cL_35 (hR : RG g) (hb : g.2 b = some (.inl (1, L, .inl xs))) (hL : LW g w x nA cA lA y nM o kn kn th s s) (v1 : vp_in (i + 1) L) (v2 : vp_in (i + 2) L) (v3 : vp_in (i + 3) L) (v4 : vp_in (i + 4) L) (v5 : vp_in (i + 5) L) (hk : k + 114 ≤ 58408) (hn : n + 2834 ≤ 1451408) (next : (∀ (l5' l6' : Option Value) (w' : Hw) (k' n' : Nat) (kn' th' : Int32) (s' : AS), LW g w' x nA cA lA y nM o kn' kn' th' s' s' → k' ≤ k + 114 → n' ≤ n + 2834 → WP (ML_law g) QLaw (2246, [some (.ref b), some (.ref x), some (.ref y), some (.ref o), some (.int i), l5', l6'], [], w', k', n'))) : WP (ML_law g) QLaw (1865, [some (.ref b), some (.ref x), some (.ref y), some (.ref o), some (.int i), l5, l6], [], w, k, n) := by
  simp only [eL_law_1865, eL_law_1872, eL_law_1878, wt_nil]
  with_reducible refine gi_W hL hb ?_
  with_reducible refine And.intro ?_ ?_
  with_reducible assumption
  with_reducible refine gi_W hL hb ?_
  with_reducible refine And.intro ?_ ?_
  with_reducible assumption
  with_reducible refine And.intro ?_ ?_
  omega
  with_reducible refine And.intro ?_ ?_
  omega
  with_reducible refine And.intro ?_ ?_
  omega
  with_reducible refine gL_isSameAs hR hL (fun v1 w1 h1 => ?_)
  simp only [eL_law_1882, eL_law_1886, eL_law_1891, eL_law_1897, kx_l, wt_nil, nl_int, tl_s, Nat.add_zero]
  with_reducible refine gi_W h1 hb ?_
  with_reducible refine And.intro ?_ ?_
  with_reducible assumption
  with_reducible refine gi_W h1 hb ?_
  with_reducible refine And.intro ?_ ?_
  with_reducible assumption
  with_reducible refine And.intro ?_ ?_
  with_reducible refine LW.gz h1 (fun _ => trivial)
  with_reducible refine And.intro ?_ ?_
  omega
  with_reducible refine And.intro ?_ ?_
  omega
  with_reducible refine And.intro ?_ ?_
  omega
  with_reducible refine gX3_isSameAs (LW.ms h1) (fun v2 t2 w2 m2 => ?_)
  simp only [eL_law_1900, kx_l, nl_int, tl_s]
  with_reducible exact next _ _ _ _ _ _ _ _ (LW.ofM h1 m2) (by omega) (by omega)
end
end
