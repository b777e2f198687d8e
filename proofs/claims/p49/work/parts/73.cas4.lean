section
variable {g : RO} {w : Hw} {x nA cA lA y nM o b L k n : Nat} {xs : Nat → Int32} {i kn : Int32} {l5 l6 : Option Value}
set_option maxHeartbeats 4000000 in
theorem cL_48 (hR : RG g) (hb : g.2 b = some (.inl (1, L, .inl xs))) (hL : LWO g w x nA cA lA y nM o kn kn) (v1 : vp_in (i + 1) L) (v2 : vp_in (i + 2) L) (v3 : vp_in (i + 3) L) (v4 : vp_in (i + 4) L) (v5 : vp_in (i + 5) L) (hk : k + 114 ≤ 58408) (hn : n + 2834 ≤ 1451408) (next : (∀ (l5' l6' : Option Value) (w' : Hw) (k' n' : Nat) (kn' : Int32), LWO g w' x nA cA lA y nM o kn' kn' → k' ≤ k + 114 → n' ≤ n + 2834 → WP (ML_law g) QLaw (2217, [some (.ref b), some (.ref x), some (.ref y), some (.ref o), some (.int i), l5', l6'], [], w', k', n'))) : WP (ML_law g) QLaw (2204, [some (.ref b), some (.ref x), some (.ref y), some (.ref o), some (.int i), l5, l6], [], w, k, n) := by
  repeat' first
    | with_reducible assumption
    | with_reducible refine And.intro ?_ ?_
    | with_reducible refine gi_L (LWO.l (by assumption)) hb ?_
    | with_reducible refine go_X (LWO.l (by assumption)) (fun _ => trivial)
    | with_reducible refine go_Z (LWO.l (by assumption)) (fun _ => trivial)
    | with_reducible refine sX1_digest (LWO.cc hL) (fun v1 w1 c1 => ?_)
    | with_reducible refine go_Z (LWO.l (hL.ext c1)) (fun _ => trivial)
    | with_reducible refine sX3_digest (LWO.mm (hL.ext c1)) (fun v2 w2 m2 => ?_)
    | with_reducible exact next _ _ _ _ _ _ (LWO.ofM (hL.ext c1) m2) (by omega) (by omega)
    | simp only [eL_law_2204, eL_law_2204N, eL_law_2205, eL_law_2208, eL_law_2209, eL_law_2209N, eL_law_2210, eL_law_2213, eL_law_2214, ite_le, n45, n54, true_or, or_true, false_or, or_false, false_and, and_false, kx_l, kx_r, go_s, gl_s, gi_s, gb_s2, gb_s3, gq_s, wt_nil, wt_int, wt_long, wt_ref, wt_null, nl_int, nl_long, nl_ref, nl_null, nl_none, rf_n, rf_s, rf_st, tl_s, tl_n, g0, gS, ex1, nb_b, nb_0, nb_1, nf_i, nf_l, nf_ra, nf_ro, nf_na, nf_no, nf_b0, nf_z0, t45_4, t45_5, true_and, and_true, List.set_cons_zero, List.set_cons_succ, List.length_cons, List.length_nil, rd_s, upw_s, ne_eq, not_false_eq_true, Nat.zero_add, Nat.add_zero, if_true, if_false, eq_self]
    | split
    | with_reducible intro _
    | omega
end
