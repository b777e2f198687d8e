section
variable {g : RO} {Q : Ot → Hw → Prop} {w0 w : Hw}
variable {y nM : Nat} {kd : Int32}
theorem ext.k1 {w' : Hw} {a : Nat} {o : Ob} (k : ext g w w') (h : w a = some o) : w' a = some o := k.1 a o h
theorem sNext1 {q L D cap b : Nat} {c lr n mc : Int32} {h : Nat → Option Nat} (hq : w q = some (.inr (2, [.int c, .int lr, .int mc, .ref L]))) (hL : w L = some (.inr (3, [.int mc, .ref D, .int n]))) (rD : rd g w D = some (.inl (5, cap, qc h))) (k0 : 0 ≤ c.toInt) (k1 : c.toInt < n.toInt) (hn : n.toInt ≤ (cap : Int)) (hc : cap ≤ 15) (hb : h c.toNatClampNeg = some b) (hR : Q (.inl (some (.ref b))) (upw w q (.inr (2, [.int (c + 1), .int c, .int mc, .ref L])))) : WP (MJx35411_next_0502b g) Q (0, [some (.ref q), none, none], [], w, 0, 0) := sJx35411_next_0502b hq hL rD k0 k1 hn hc (fun e => by
  rw [hb] at e
  cases e) (fun b9 e => by
  rw [hb] at e
  cases e
  exact hR)
theorem sIter1 {L D cap : Nat} {mc n : Int32} {h : Nat → Option Nat} (hl : LL g w L D cap n h) (hL : w L = some (.inr (3, [.int mc, .ref D, .int n]))) (hQ : ∀ q, rd g w q = none → Q (.inl (some (.ref q))) (upw w q (.inr (2, [.int 0, .int (-1), .int mc, .ref L])))) : WP (MJx4a65c_iterator_32c93 g) Q (0, [some (.ref L)], [], w, 0, 0) := sJx4a65c_iterator_32c93 hl (fun q mc9 e hq => by
  rw [hL] at e
  cases e
  exact hQ q hq)
set_option maxHeartbeats 4000000 in
theorem sX3_howOften {a0 : Int32} (hM : MM g w0 y nM kd w) (hQ : ∀ (v : Int32) w', MM g w0 y nM kd w' → Q (.inl (some (.int v))) w') : WP (MX3_howOften g) Q (0, [some (.ref y), some (.int a0)], [], w, 0, 0) := by
  repeat' first
    | with_reducible assumption
    | with_reducible refine And.intro ?_ ?_
    | with_reducible exact absurd (by assumption) n10'
    | with_reducible refine sX3_isNoNumber ?_ (fun _ _ => ?_)
    | with_reducible refine sX3_isNoCard ?_ (fun _ _ => ?_)
    | with_reducible refine sX3_isNoEnd ?_ (fun _ _ => ?_)
    | with_reducible refine sX3_isIn (fun _ _ => ?_) ?_
    | with_reducible refine sX3_start (by first | assumption | exact MMz.m (by assumption) | exact MM.fr (by first | assumption | exact MMz.m (by assumption)) (by assumption) | exact MM.ext' (by assumption) (by assumption) | exact (by assumption : ∀ f', MM g w0 y nM kd (upw _ nM (.inl (0, 8, .inr (.inl f'))))) _ | exact (by assumption : ∀ (th' rf' md' : Int32), MM g w0 y nM kd (upw _ y (.inr (7, [.int th', .ref nM, .ref _, .ref _, .int rf', .int kd, .int md'])))) _ _ _) (by decide) (fun _ _ _ => ?_) (fun _ _ => ?_)
    | with_reducible refine sX3_refuse (by assumption) (by decide) (fun _ => ?_) (fun _ _ => ?_)
    | with_reducible refine sX3_isBareM (by first | assumption | exact MMz.m (by assumption) | exact MM.fr (by first | assumption | exact MMz.m (by assumption)) (by assumption) | exact MM.ext' (by assumption) (by assumption) | exact (by assumption : ∀ f', MM g w0 y nM kd (upw _ nM (.inl (0, 8, .inr (.inl f'))))) _ | exact (by assumption : ∀ (th' rf' md' : Int32), MM g w0 y nM kd (upw _ y (.inr (7, [.int th', .ref nM, .ref _, .ref _, .int rf', .int kd, .int md'])))) _ _ _) (by assumption) (by first | assumption | exact lt65 (by assumption)) ?_ (fun _ _ => ?_)
    | with_reducible refine sX3_isNone (by first | assumption | exact MMz.m (by assumption) | exact MM.fr (by first | assumption | exact MMz.m (by assumption)) (by assumption) | exact MM.ext' (by assumption) (by assumption) | exact (by assumption : ∀ f', MM g w0 y nM kd (upw _ nM (.inl (0, 8, .inr (.inl f'))))) _ | exact (by assumption : ∀ (th' rf' md' : Int32), MM g w0 y nM kd (upw _ y (.inr (7, [.int th', .ref nM, .ref _, .ref _, .int rf', .int kd, .int md'])))) _ _ _) (fun _ _ => ?_) (fun _ _ _ _ _ _ => ?_)
    | with_reducible exact vpi8n (by assumption) (by assumption)
    | with_reducible exact vpi4n (by assumption) (by assumption)
    | with_reducible exact vpi4.1
    | with_reducible exact vpi4.2.1
    | with_reducible exact vpi4.2.2.1
    | with_reducible exact vpi4.2.2.2
    | with_reducible refine go_Y (by first | assumption | exact MMz.m (by assumption) | exact MM.fr (by first | assumption | exact MMz.m (by assumption)) (by assumption) | exact MM.ext' (by assumption) (by assumption) | exact (by assumption : ∀ f', MM g w0 y nM kd (upw _ nM (.inl (0, 8, .inr (.inl f'))))) _ | exact (by assumption : ∀ (th' rf' md' : Int32), MM g w0 y nM kd (upw _ y (.inr (7, [.int th', .ref nM, .ref _, .ref _, .int rf', .int kd, .int md'])))) _ _ _) (fun _ _ _ _ _ _ => ?_)
    | with_reducible refine go_Yw (by first | assumption | exact MMz.m (by assumption) | exact MM.fr (by first | assumption | exact MMz.m (by assumption)) (by assumption) | exact MM.ext' (by assumption) (by assumption) | exact (by assumption : ∀ f', MM g w0 y nM kd (upw _ nM (.inl (0, 8, .inr (.inl f'))))) _ | exact (by assumption : ∀ (th' rf' md' : Int32), MM g w0 y nM kd (upw _ y (.inr (7, [.int th', .ref nM, .ref _, .ref _, .int rf', .int kd, .int md'])))) _ _ _) (fun _ _ _ _ _ _ => ?_)
    | with_reducible refine gl_M (by first | assumption | exact MMz.m (by assumption) | exact MM.fr (by first | assumption | exact MMz.m (by assumption)) (by assumption) | exact MM.ext' (by assumption) (by assumption) | exact (by assumption : ∀ f', MM g w0 y nM kd (upw _ nM (.inl (0, 8, .inr (.inl f'))))) _ | exact (by assumption : ∀ (th' rf' md' : Int32), MM g w0 y nM kd (upw _ y (.inr (7, [.int th', .ref nM, .ref _, .ref _, .int rf', .int kd, .int md'])))) _ _ _) ?_
    | with_reducible refine gl_Mw (by first | assumption | exact MMz.m (by assumption) | exact MM.fr (by first | assumption | exact MMz.m (by assumption)) (by assumption) | exact MM.ext' (by assumption) (by assumption) | exact (by assumption : ∀ f', MM g w0 y nM kd (upw _ nM (.inl (0, 8, .inr (.inl f'))))) _ | exact (by assumption : ∀ (th' rf' md' : Int32), MM g w0 y nM kd (upw _ y (.inr (7, [.int th', .ref nM, .ref _, .ref _, .int rf', .int kd, .int md'])))) _ _ _) ?_
    | with_reducible exact gtC (by first | assumption | exact MMz.m (by assumption) | exact MM.fr (by first | assumption | exact MMz.m (by assumption)) (by assumption) | exact MM.ext' (by assumption) (by assumption) | exact (by assumption : ∀ f', MM g w0 y nM kd (upw _ nM (.inl (0, 8, .inr (.inl f'))))) _ | exact (by assumption : ∀ (th' rf' md' : Int32), MM g w0 y nM kd (upw _ y (.inr (7, [.int th', .ref nM, .ref _, .ref _, .int rf', .int kd, .int md'])))) _ _ _) (by first | assumption | exact isY.s | exact isY.fr (by assumption) (by assumption))
    | with_reducible exact gtP (by first | assumption | exact MMz.m (by assumption) | exact MM.fr (by first | assumption | exact MMz.m (by assumption)) (by assumption) | exact MM.ext' (by assumption) (by assumption) | exact (by assumption : ∀ f', MM g w0 y nM kd (upw _ nM (.inl (0, 8, .inr (.inl f'))))) _ | exact (by assumption : ∀ (th' rf' md' : Int32), MM g w0 y nM kd (upw _ y (.inr (7, [.int th', .ref nM, .ref _, .ref _, .int rf', .int kd, .int md'])))) _ _ _) (by first | assumption | exact isY.s | exact isY.fr (by assumption) (by assumption))
    | with_reducible refine gl_Row (by first | assumption | exact CAt.row (by assumption) | exact isRow.ext (by assumption) (by assumption)) (fun _ => ?_)
    | with_reducible exact isRow.ca (by first | assumption | exact CAt.row (by assumption) | exact isRow.ext (by assumption) (by assumption))
    | with_reducible refine sGetY (by first | assumption | exact CAt.fr (by assumption) (by assumption)) (by first | assumption | exact isY.s | exact isY.fr (by assumption) (by assumption)) (by assumption) (by first | assumption | exact lt65 (by assumption)) ?_
    | with_reducible exact hQ _ _ (by first | assumption | exact MMz.m (by assumption) | exact MM.fr (by first | assumption | exact MMz.m (by assumption)) (by assumption) | exact MM.ext' (by assumption) (by assumption) | exact (by assumption : ∀ f', MM g w0 y nM kd (upw _ nM (.inl (0, 8, .inr (.inl f'))))) _ | exact (by assumption : ∀ (th' rf' md' : Int32), MM g w0 y nM kd (upw _ y (.inr (7, [.int th', .ref nM, .ref _, .ref _, .int rf', .int kd, .int md'])))) _ _ _)
    | with_reducible exact hQ _ (by first | assumption | exact MMz.m (by assumption) | exact MM.fr (by first | assumption | exact MMz.m (by assumption)) (by assumption) | exact MM.ext' (by assumption) (by assumption) | exact (by assumption : ∀ f', MM g w0 y nM kd (upw _ nM (.inl (0, 8, .inr (.inl f'))))) _ | exact (by assumption : ∀ (th' rf' md' : Int32), MM g w0 y nM kd (upw _ y (.inr (7, [.int th', .ref nM, .ref _, .ref _, .int rf', .int kd, .int md'])))) _ _ _)
    | with_reducible exact hQ _
    | with_reducible exact n4g
    | with_reducible exact n4a
    | with_reducible exact n4b
    | with_reducible exact n4c
    | with_reducible refine sX3_high (fun _ => ?_)
    | with_reducible refine sX3_low (fun _ => ?_)
    | with_reducible refine sX3_one (fun _ => ?_)
    | with_reducible refine sX3_become (by first | assumption | exact MMz.m (by assumption) | exact MM.fr (by first | assumption | exact MMz.m (by assumption)) (by assumption) | exact MM.ext' (by assumption) (by assumption) | exact (by assumption : ∀ f', MM g w0 y nM kd (upw _ nM (.inl (0, 8, .inr (.inl f'))))) _ | exact (by assumption : ∀ (th' rf' md' : Int32), MM g w0 y nM kd (upw _ y (.inr (7, [.int th', .ref nM, .ref _, .ref _, .int rf', .int kd, .int md'])))) _ _ _) (by assumption) (by assumption) (fun _ _ _ => ?_)
    | with_reducible refine sX3_no (by first | assumption | exact MMz.m (by assumption) | exact MM.fr (by first | assumption | exact MMz.m (by assumption)) (by assumption) | exact MM.ext' (by assumption) (by assumption) | exact (by assumption : ∀ f', MM g w0 y nM kd (upw _ nM (.inl (0, 8, .inr (.inl f'))))) _ | exact (by assumption : ∀ (th' rf' md' : Int32), MM g w0 y nM kd (upw _ y (.inr (7, [.int th', .ref nM, .ref _, .ref _, .int rf', .int kd, .int md'])))) _ _ _) (fun _ _ => ?_)
    | with_reducible refine sX3_fixed (by first | assumption | exact CAt.row (by assumption) | exact isRow.ext (by assumption) (by assumption)) ?_ ?_
    | with_reducible refine sX3_small (by first | assumption | exact CAt.row (by assumption) | exact isRow.ext (by assumption) (by assumption)) ?_ ?_
    | with_reducible refine sX3_make (by first | assumption | exact MMz.m (by assumption) | exact MM.fr (by first | assumption | exact MMz.m (by assumption)) (by assumption) | exact MM.ext' (by assumption) (by assumption) | exact (by assumption : ∀ f', MM g w0 y nM kd (upw _ nM (.inl (0, 8, .inr (.inl f'))))) _ | exact (by assumption : ∀ (th' rf' md' : Int32), MM g w0 y nM kd (upw _ y (.inr (7, [.int th', .ref nM, .ref _, .ref _, .int rf', .int kd, .int md'])))) _ _ _) (by assumption) (by assumption) (fun _ _ _ => ?_)
    | with_reducible refine sX3_valid (by first | assumption | exact CAt.row (by assumption) | exact isRow.ext (by assumption) (by assumption)) ?_ ?_
    | with_reducible refine sX3_same (by first | assumption | exact CAt.row (by assumption) | exact isRow.ext (by assumption) (by assumption)) (by first | assumption | exact CAt.row (by assumption) | exact isRow.ext (by assumption) (by assumption)) (fun _ _ => ?_)
    | with_reducible refine sX3_aroundNow (by first | assumption | exact CAt.row (by assumption) | exact isRow.ext (by assumption) (by assumption)) (by assumption) (by assumption) (fun _ => ?_)
    | with_reducible refine sX3_whoNow (by first | assumption | exact MMz.m (by assumption) | exact MM.fr (by first | assumption | exact MMz.m (by assumption)) (by assumption) | exact MM.ext' (by assumption) (by assumption) | exact (by assumption : ∀ f', MM g w0 y nM kd (upw _ nM (.inl (0, 8, .inr (.inl f'))))) _ | exact (by assumption : ∀ (th' rf' md' : Int32), MM g w0 y nM kd (upw _ y (.inr (7, [.int th', .ref nM, .ref _, .ref _, .int rf', .int kd, .int md'])))) _ _ _) (by assumption) (by assumption) (fun _ => ?_)
    | with_reducible refine sX3_whichNow_ (by first | assumption | exact MMz.m (by assumption) | exact MM.fr (by first | assumption | exact MMz.m (by assumption)) (by assumption) | exact MM.ext' (by assumption) (by assumption) | exact (by assumption : ∀ f', MM g w0 y nM kd (upw _ nM (.inl (0, 8, .inr (.inl f'))))) _ | exact (by assumption : ∀ (th' rf' md' : Int32), MM g w0 y nM kd (upw _ y (.inr (7, [.int th', .ref nM, .ref _, .ref _, .int rf', .int kd, .int md'])))) _ _ _) (fun _ => ?_)
    | with_reducible refine sX3_likesNow (by first | assumption | exact MMz.m (by assumption) | exact MM.fr (by first | assumption | exact MMz.m (by assumption)) (by assumption) | exact MM.ext' (by assumption) (by assumption) | exact (by assumption : ∀ f', MM g w0 y nM kd (upw _ nM (.inl (0, 8, .inr (.inl f'))))) _ | exact (by assumption : ∀ (th' rf' md' : Int32), MM g w0 y nM kd (upw _ y (.inr (7, [.int th', .ref nM, .ref _, .ref _, .int rf', .int kd, .int md'])))) _ _ _) (by assumption) (by assumption) (by assumption) (fun _ => ?_)
    | with_reducible refine sX3_isNoPair (by first | assumption | exact MMz.m (by assumption) | exact MM.fr (by first | assumption | exact MMz.m (by assumption)) (by assumption) | exact MM.ext' (by assumption) (by assumption) | exact (by assumption : ∀ f', MM g w0 y nM kd (upw _ nM (.inl (0, 8, .inr (.inl f'))))) _ | exact (by assumption : ∀ (th' rf' md' : Int32), MM g w0 y nM kd (upw _ y (.inr (7, [.int th', .ref nM, .ref _, .ref _, .int rf', .int kd, .int md'])))) _ _ _) (fun _ _ => ?_) (fun _ _ _ _ _ _ _ _ => ?_)
    | with_reducible refine sX3_isNoEnd_ (by first | assumption | exact MMz.m (by assumption) | exact MM.fr (by first | assumption | exact MMz.m (by assumption)) (by assumption) | exact MM.ext' (by assumption) (by assumption) | exact (by assumption : ∀ f', MM g w0 y nM kd (upw _ nM (.inl (0, 8, .inr (.inl f'))))) _ | exact (by assumption : ∀ (th' rf' md' : Int32), MM g w0 y nM kd (upw _ y (.inr (7, [.int th', .ref nM, .ref _, .ref _, .int rf', .int kd, .int md'])))) _ _ _) (fun _ _ => ?_) (fun _ _ _ _ _ _ _ _ => ?_)
    | with_reducible refine sX3_seekNowM (by first | assumption | exact MMz.m (by assumption) | exact MM.fr (by first | assumption | exact MMz.m (by assumption)) (by assumption) | exact MM.ext' (by assumption) (by assumption) | exact (by assumption : ∀ f', MM g w0 y nM kd (upw _ nM (.inl (0, 8, .inr (.inl f'))))) _ | exact (by assumption : ∀ (th' rf' md' : Int32), MM g w0 y nM kd (upw _ y (.inr (7, [.int th', .ref nM, .ref _, .ref _, .int rf', .int kd, .int md'])))) _ _ _) (by assumption) (by assumption) (by assumption) (fun _ _ _ _ => ?_)
    | with_reducible refine sSetYR (by first | assumption | exact MMz.m (by assumption) | exact MM.fr (by first | assumption | exact MMz.m (by assumption)) (by assumption) | exact MM.ext' (by assumption) (by assumption) | exact (by assumption : ∀ f', MM g w0 y nM kd (upw _ nM (.inl (0, 8, .inr (.inl f'))))) _ | exact (by assumption : ∀ (th' rf' md' : Int32), MM g w0 y nM kd (upw _ y (.inr (7, [.int th', .ref nM, .ref _, .ref _, .int rf', .int kd, .int md'])))) _ _ _) (by first | assumption | exact isY.s | exact isY.fr (by assumption) (by assumption)) (by first | assumption | exact CAt.row (by assumption) | exact isRow.ext (by assumption) (by assumption) | exact isRow.ext (by assumption) (ext_up2 ext.rf (by assumption))) (by assumption) (by first | assumption | exact lt65 (by assumption)) (fun _ _ => ?_) (fun _ _ _ => ?_)
    | with_reducible refine sSetYN (by first | assumption | exact MMz.m (by assumption) | exact MM.fr (by first | assumption | exact MMz.m (by assumption)) (by assumption) | exact MM.ext' (by assumption) (by assumption) | exact (by assumption : ∀ f', MM g w0 y nM kd (upw _ nM (.inl (0, 8, .inr (.inl f'))))) _ | exact (by assumption : ∀ (th' rf' md' : Int32), MM g w0 y nM kd (upw _ y (.inr (7, [.int th', .ref nM, .ref _, .ref _, .int rf', .int kd, .int md'])))) _ _ _) (by first | assumption | exact isY.s | exact isY.fr (by assumption) (by assumption)) (by assumption) (by first | assumption | exact lt65 (by assumption)) (fun _ _ => ?_) (fun _ _ _ => ?_)
    | with_reducible refine sSizeM (by first | assumption | exact MMz.m (by assumption) | exact MM.fr (by first | assumption | exact MMz.m (by assumption)) (by assumption) | exact MM.ext' (by assumption) (by assumption) | exact (by assumption : ∀ f', MM g w0 y nM kd (upw _ nM (.inl (0, 8, .inr (.inl f'))))) _ | exact (by assumption : ∀ (th' rf' md' : Int32), MM g w0 y nM kd (upw _ y (.inr (7, [.int th', .ref nM, .ref _, .ref _, .int rf', .int kd, .int md'])))) _ _ _) (by first | assumption | exact isY.s | exact isY.fr (by assumption) (by assumption)) (fun _ _ => ?_)
    | with_reducible refine sX3_oftenNow (by first | assumption | exact MMz.m (by assumption) | exact MM.fr (by first | assumption | exact MMz.m (by assumption)) (by assumption) | exact MM.ext' (by assumption) (by assumption) | exact (by assumption : ∀ f', MM g w0 y nM kd (upw _ nM (.inl (0, 8, .inr (.inl f'))))) _ | exact (by assumption : ∀ (th' rf' md' : Int32), MM g w0 y nM kd (upw _ y (.inr (7, [.int th', .ref nM, .ref _, .ref _, .int rf', .int kd, .int md'])))) _ _ _) (by assumption) (by assumption) (by assumption) (fun _ _ _ => ?_)
    | simp only [eX3_howOften_0, eX3_howOften_0N, eX3_howOften_1, eX3_howOften_2, eX3_howOften_5, eX3_howOften_8, eX3_howOften_9, eX3_howOften_12, eX3_howOften_12N, eX3_howOften_13, eX3_howOften_14, eX3_howOften_17, ite_le, n45, n54, true_or, or_true, false_or, or_false, false_and, and_false, kx_l, kx_r, go_s, gl_s, gi_s, gb_s2, gb_s3, gq_s, wt_nil, wt_int, wt_long, wt_ref, wt_null, nl_int, nl_long, nl_ref, nl_null, nl_none, rf_n, rf_s, rf_st, tl_s, tl_n, g0, gS, ex1, nb_b, nb_0, nb_1, nf_i, nf_l, nf_ra, nf_ro, nf_na, nf_no, nf_b0, nf_z0, t45_4, t45_5, true_and, and_true, List.set_cons_zero, List.set_cons_succ, List.length_cons, List.length_nil, rd_s, upw_s, ne_eq, not_false_eq_true, Nat.zero_add, Nat.add_zero, if_true, if_false, eq_self, m10, n4e, upw2q]
    | split
    | with_reducible intro _
    | omega
set_option maxHeartbeats 4000000 in
theorem lX3_turn_x {w1 : Hw} {pL D2 c2 q L : Nat} {n mc : Int32} {h2 : Nat → Option Nat} (hE : EG g w1) (hS : SG g) (hM : MM g w0 y nM kd w1) (hL : w1 pL = some (.inr (3, [.int mc, .ref D2, .int n]))) (hl : LL g w1 pL D2 c2 n h2) (hr : ∀ i b, h2 i = some b → isRow w1 b) (hnn : ∀ i : Nat, (i : Int) < n.toInt → ∃ b, h2 i = some b) (hn : n.toInt ≤ 12) (hq : w1 q = none) (gq : g.2 q = none) (hL' : w1 L = none) (hQ : ∀ (v : Int32) w', MM g w0 y nM kd w' → Q (.inl (some (.int v))) w') : ∀ (c lr : Int32) (o3 : Option Value) (w' : Hw) (D' c' : Nat) (h' : Nat → Option Nat) (k m : Nat), ext g w1 w' → w' q = some (.inr (2, [.int c, .int lr, .int mc, .ref pL])) → LL g w' L D' c' c h' → (∀ i b, h' i = some b → isRow w' b) → (∀ i : Nat, (i : Int) < c.toInt → ∃ b, h' i = some b) → w1 D' = none → c = n → k ≤ 14 → m ≤ 187 → WP (MX3_turn g) Q (21, [some (.ref y), some (.ref L), some (.ref q), o3], [], w', k, m) := by
  intro c lr o3 w' D' c' h' k m hk hqw hll hrw hnn' hD' hcn km mm
  subst hcn
  have rq := rd_e (g := g) hqw
  rw [eX3_turn_21]
  repeat' first
    | with_reducible assumption
    | with_reducible refine And.intro ?_ ?_
    | with_reducible refine sJx35411_hasNext_aae02 (cap := 0) hqw (hk.k1 hL) (fun _ => ?_) (fun h => absurd rfl h)
    | with_reducible refine go_YP hk hM hll hrw hn hnn' hL' hD' (fun _ _ _ _ _ _ => ?_)
    | with_reducible refine go_Y (by assumption) (fun _ _ _ _ _ _ => ?_)
    | with_reducible exact gtP (by assumption) isY.s
    | with_reducible refine sSizeM (by assumption) isY.s (fun _ _ => ?_)
    | with_reducible exact hQ _ _ (by assumption)
    | simp only [eX3_turn_0, eX3_turn_0N, eX3_turn_1, eX3_turn_2, eX3_turn_5, eX3_turn_8, eX3_turn_8R, eX3_turn_9, eX3_turn_12, eX3_turn_12N, eX3_turn_13, eX3_turn_13N, eX3_turn_14, eX3_turn_17, eX3_turn_20, eX3_turn_20N, eX3_turn_22, eX3_turn_27, eX3_turn_30, eX3_turn_30N, eX3_turn_31, eX3_turn_36N, eX3_turn_36R, eX3_turn_39, eX3_turn_39N, eX3_turn_40, eX3_turn_40N, eX3_turn_41, eX3_turn_42, eX3_turn_42N, eX3_turn_43R, eX3_turn_43N, eX3_turn_46, eX3_turn_49, eX3_turn_49N, eX3_turn_50, eX3_turn_50N, eX3_turn_51, eX3_turn_54, eX3_turn_54N, eX3_turn_55, eX3_turn_58, eX3_turn_61, ite_le, n45, n54, true_or, or_true, false_or, or_false, false_and, and_false, kx_l, kx_r, go_s, gl_s, gi_s, gb_s2, gb_s3, gq_s, wt_nil, wt_int, wt_long, wt_ref, wt_null, nl_int, nl_long, nl_ref, nl_null, nl_none, rf_n, rf_s, rf_st, tl_s, tl_n, g0, gS, ex1, nb_b, nb_0, nb_1, nf_i, nf_l, nf_ra, nf_ro, nf_na, nf_no, nf_b0, nf_z0, t45_4, t45_5, true_and, and_true, List.set_cons_zero, List.set_cons_succ, List.length_cons, List.length_nil, rd_s, upw_s, ne_eq, not_false_eq_true, Nat.zero_add, Nat.add_zero, if_true, if_false, eq_self, m10, upw2q, rq, tyX3]
    | split
    | with_reducible intro _
    | omega
set_option maxHeartbeats 4000000 in
theorem lX3_turn_21 {w1 : Hw} {pL D2 c2 q L : Nat} {n mc : Int32} {h2 : Nat → Option Nat} (hE : EG g w1) (hS : SG g) (hM : MM g w0 y nM kd w1) (hL : w1 pL = some (.inr (3, [.int mc, .ref D2, .int n]))) (hl : LL g w1 pL D2 c2 n h2) (hr : ∀ i b, h2 i = some b → isRow w1 b) (hnn : ∀ i : Nat, (i : Int) < n.toInt → ∃ b, h2 i = some b) (hn : n.toInt ≤ 12) (hq : w1 q = none) (gq : g.2 q = none) (hL' : w1 L = none) (hQ : ∀ (v : Int32) w', MM g w0 y nM kd w' → Q (.inl (some (.int v))) w') : ∀ (d : Nat) (c lr : Int32) (o3 : Option Value) (w' : Hw) (D' c' : Nat) (h' : Nat → Option Nat) (k m : Nat), ext g w1 w' → w' q = some (.inr (2, [.int c, .int lr, .int mc, .ref pL])) → LL g w' L D' c' c h' → (∀ i b, h' i = some b → isRow w' b) → (∀ i : Nat, (i : Int) < c.toInt → ∃ b, h' i = some b) → w1 D' = none → n.toInt - c.toInt ≤ (d : Int) → c.toInt ≤ n.toInt → (k : Int) ≤ 2 + c.toInt → (m : Int) ≤ 7 + 15 * c.toInt → WP (MX3_turn g) Q (21, [some (.ref y), some (.ref L), some (.ref q), o3], [], w', k, m) := by
  intro d
  induction d with
  | zero =>
    intro c lr o3 w' D' c' h' k m hk hqw hll hrw hnn' hD' hd hc km mm
    exact lX3_turn_x hE hS hM hL hl hr hnn hn hq gq hL' hQ c lr o3 w' D' c' h' k m hk hqw hll hrw hnn' hD' (Int32.toInt_inj.mp (by omega)) (by omega) (by omega)
  | succ d ih =>
    intro c lr o3 w' D' c' h' k m hk hqw hll hrw hnn' hD' hd hc km mm
    by_cases hcn : c = n
    · exact lX3_turn_x hE hS hM hL hl hr hnn hn hq gq hL' hQ c lr o3 w' D' c' h' k m hk hqw hll hrw hnn' hD' hcn (by rw [hcn] at km; omega) (by rw [hcn] at mm; omega)
    have c0 := hll.n0
    have clt := itl hcn hc
    have ce := its c0 hcn hc (by omega)
    obtain ⟨b, hb⟩ := hnn c.toNatClampNeg (by
      have t : c.toNatClampNeg = c.toInt.toNat := rfl
      omega)
    have rq := rd_e (g := g) hqw
    obtain ⟨w2, hw2⟩ : ∃ w2, upw w' q (.inr (2, [.int (c + 1), .int c, .int mc, .ref pL])) = w2 := ⟨_, rfl⟩
    have hk2 : ext g w1 w2 := by
      rw [← hw2]
      refine ⟨fun a o e => ?_, fun a o e1 e2 => ?_⟩
      · rw [upw_n]
        · exact hk.1 a o e
        · rintro rfl
          rw [hq] at e
          cases e
      · rw [upw_n]
        · exact hk.2 a o e1 e2
        · rintro rfl
          rw [gq] at e1
          cases e1
    have hq2 : w2 q = some (.inr (2, [.int (c + 1), .int c, .int mc, .ref pL])) := by
      rw [← hw2]
      exact upw_s _ _ _
    have hll2 : LL g w2 L D' c' c h' := by
      rw [← hw2]
      exact hll.up hqw (fun _ e => by cases e) (fun _ e => by cases e)
    have hrw2 : ∀ i b, h' i = some b → isRow w2 b := fun i b z => by
      rw [← hw2]
      exact isRow_up (hrw i b z) hqw (fun _ e => by cases e)
    have hb2 : isRow w2 b := (hr _ _ hb).ext hk2
    have fin : ∀ (w3 : Hw) (k' m' : Nat), LPo g w2 w3 L D' (c + 1) (HIn h' c.toNatClampNeg (0 : Int32).toNatClampNeg (some b)) → (k' : Int) ≤ 3 + c.toInt → (m' : Int) ≤ 22 + 15 * c.toInt → WP (MX3_turn g) Q (21, [some (.ref y), some (.ref L), some (.ref q), some (.ref b)], [], w3, k', m') := by
      intro w3 k' m' hlp kk' mm'
      obtain ⟨D3, c3, h3, l1, l2, f1, f2, fD, hh⟩ := hlp
      have nD : ∀ {a : Nat} {o : Ob}, w1 a = some o → a ≠ D' := fun e z => by
        rw [z, hD'] at e
        cases e
      have nL : ∀ {a : Nat} {o : Ob}, w1 a = some o → a ≠ L := fun e z => by
        rw [z, hL'] at e
        cases e
      have hk3 : ext g w1 w3 := ⟨fun a o e => f1 a o (hk2.1 a o e) (nL e) (nD e), fun a o e1 e2 => f2 a o e1 (hk2.2 a o e1 e2)⟩
      have q1 : q ≠ L := by
        obtain ⟨mc2, e⟩ := hll2.1
        exact ne_of hq2 e (fun e => by cases e)
      have q2 : q ≠ D' := by
        rcases hll2.2.1 with ⟨e, -⟩ | ⟨-, -, e, -⟩
        · exact ne_of hq2 e (fun e => by cases e)
        · rintro rfl
          rw [hq2] at e
          cases e
      refine ih _ _ _ w3 D3 c3 h3 _ _ hk3 (f1 _ _ hq2 q1 q2) l1 l2 (fun i hi => ?_) ?_ (by omega) (by omega) (by omega) (by omega)
      · have t : c.toNatClampNeg = c.toInt.toNat := rfl
        have t0 : (0 : Int32).toNatClampNeg = 0 := rfl
        rw [t0] at hh
        rcases Nat.eq_zero_or_pos i with rfl | hi0
        · exact ⟨b, hh.2.1⟩
        · obtain ⟨j, rfl⟩ : ∃ j, i = j + 1 := ⟨i - 1, by omega⟩
          rw [hh.2.2 j (Nat.zero_le _) (by omega)]
          exact hnn' j (by omega)
      · rcases fD with rfl | ⟨fD, -⟩
        · exact hD'
        · cases hw : w1 D3 with
          | none => rfl
          | some o =>
            rw [hk2.1 _ _ hw] at fD
            cases fD
    rw [eX3_turn_21]
    repeat' first
      | with_reducible assumption
      | with_reducible refine And.intro ?_ ?_
      | with_reducible exact fin _ _ _ (by assumption) (by omega) (by omega)
      | with_reducible refine sJx35411_hasNext_aae02 (cap := 0) hqw (hk.k1 hL) (fun h => absurd h hcn) (fun _ => ?_)
      | with_reducible refine sNext1 hqw (hk.k1 hL) (hl.ext hk).rD c0 clt hl.nc hl.c15 hb ?_
      | with_reducible exact isRow.ca hb2
      | with_reducible exact hll2.gt
      | with_reducible refine sJx4a65c_add_7a177R hb2 (hE.ext hk2) hS hll2 hrw2 (by decide) (by have e : (0 : Int32).toInt = 0 := rfl; omega) (by omega) (fun _ _ => ?_)
      | simp only [eX3_turn_0, eX3_turn_0N, eX3_turn_1, eX3_turn_2, eX3_turn_5, eX3_turn_8, eX3_turn_8R, eX3_turn_9, eX3_turn_12, eX3_turn_12N, eX3_turn_13, eX3_turn_13N, eX3_turn_14, eX3_turn_17, eX3_turn_20, eX3_turn_20N, eX3_turn_22, eX3_turn_27, eX3_turn_30, eX3_turn_30N, eX3_turn_31, eX3_turn_36N, eX3_turn_36R, eX3_turn_39, eX3_turn_39N, eX3_turn_40, eX3_turn_40N, eX3_turn_41, eX3_turn_42, eX3_turn_42N, eX3_turn_43R, eX3_turn_43N, eX3_turn_46, eX3_turn_49, eX3_turn_49N, eX3_turn_50, eX3_turn_50N, eX3_turn_51, eX3_turn_54, eX3_turn_54N, eX3_turn_55, eX3_turn_58, eX3_turn_61, ite_le, n45, n54, true_or, or_true, false_or, or_false, false_and, and_false, kx_l, kx_r, go_s, gl_s, gi_s, gb_s2, gb_s3, gq_s, wt_nil, wt_int, wt_long, wt_ref, wt_null, nl_int, nl_long, nl_ref, nl_null, nl_none, rf_n, rf_s, rf_st, tl_s, tl_n, g0, gS, ex1, nb_b, nb_0, nb_1, nf_i, nf_l, nf_ra, nf_ro, nf_na, nf_no, nf_b0, nf_z0, t45_4, t45_5, true_and, and_true, List.set_cons_zero, List.set_cons_succ, List.length_cons, List.length_nil, rd_s, upw_s, ne_eq, not_false_eq_true, Nat.zero_add, Nat.add_zero, if_true, if_false, eq_self, m10, rq, hw2]
      | split
      | with_reducible intro _
      | omega
end
