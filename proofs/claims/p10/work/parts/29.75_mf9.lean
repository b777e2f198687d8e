section
section
variable {g : RO} {Q : Ot → Hw → Prop} {w0 w : Hw} {y nM : Nat} {kd th : Int32} {s : AS}
theorem go_SP {w1 : Hw} {L' D' c' : Nat} {n' : Int32} {h' : Nat → Option Nat} {K : List Value → Prop} (k : ext g w1 w) (hM : MS g w0 y nM kd th s w1) (hl : LL g w L' D' c' n' h') (hr : ∀ i b, h' i = some b → isRow w b) (hn : n'.toInt ≤ 12) (hL : w1 L' = none) (hD : w1 D' = none) (kk : ∀ (cL pL : Nat), (∀ F : Nat → R4, (∀ i : Nat, (i : Int) < n'.toInt → ∃ b, h' i = some b ∧ rowA w b (F i)) → MS g w0 y nM kd th (sP_ s n' F) (upw w y (.inr (7, [.int th, .ref nM, .ref cL, .ref L', .int s.2.2.2.2.1, .int kd, .int s.2.2.2.2.2])))) → K [.int th, .ref nM, .ref cL, .ref pL, .int s.2.2.2.2.1, .int kd, .int s.2.2.2.2.2]) : go (w y) 7 K := by
  obtain ⟨⟨cL, pL, D1, D2, c1, c2, h1, h2, a1, a2, a3, a4, a5, a6, a7, a8, a9, b1', b2'⟩, hF⟩ := hM
  have b1 := k.1 _ _ a1
  have b2 := k.1 _ _ a2
  rw [b1, go_s]
  have hn0 : ∀ {a : Nat} {o : Ob}, w1 a = some o → a ≠ L' := fun e z => by
    rw [z, hL] at e
    cases e
  have hd0 : ∀ {a : Nat} {o : Ob}, w1 a = some o → a ≠ D' := fun e z => by
    rw [z, hD] at e
    cases e
  obtain ⟨mcc, hcL⟩ := a3.1
  refine kk _ _ (fun F hH => ⟨⟨cL, L', D1, D', c1, c', h1, h', upw_s _ _ _, ?_, (a3.ext k).up b1 (fun _ e => by cases e) (fun _ e => by cases e), fun i b z => isRow_up ((a4 i b z).ext k) b1 (fun _ e => by cases e), hl.up b1 (fun _ e => by cases e) (fun _ e => by cases e), fun i b z => isRow_up (hr i b z) b1 (fun _ e => by cases e), hn, hn0 hcL, ?_, fun i hi => (b1' i hi).mp fun _ _ z => rowA_up (z.ext k) b1 (fun _ e => by cases e), fun i hi => (hH i hi).imp fun _ z => ⟨z.1, rowA_up z.2 b1 (fun _ e => by cases e)⟩⟩, (hF.ext k).up b1 (Or.inr rfl)⟩)
  · rw [upw_n (ne_of a2 a1 (fun e => by cases e))]
    exact b2
  · rcases a3.2.1 with ⟨z, -⟩ | ⟨z, -⟩
    · exact hd0 z
    · have k2 := a3.2.2.2
      have e6 : (6 : Int32).toInt = 6 := rfl
      omega
theorem nn0F {F : Nat → R4} : ∀ i : Nat, (i : Int) < (0 : Int32).toInt → ∃ b, (fun _ => none : Nat → Option Nat) i = some b ∧ rowA w b (F i) := fun i h => by
  have e : (0 : Int32).toInt = 0 := rfl
  omega
set_option maxHeartbeats 4000000 in
theorem fX3_sweep  (hM : MS g w0 y nM kd th s w) (hE : EG g w0) (hS : SG g) (hQ : ∀ w', (∀ F, MS g w0 y nM kd 0 (sP_ s 0 F) w') → Q (.inl (some (.int s.2.2.1))) w') : WP (MX3_sweep g) Q (0, [some (.ref y), none], [], w, 0, 0) := by
  obtain ⟨cL, pL, hy, ry⟩ := hM.1.op
  obtain ⟨w1, hw1⟩ : ∃ w1, upw w y (.inr (7, [.int 0, .ref nM, .ref cL, .ref pL, .int s.2.2.2.2.1, .int kd, .int s.2.2.2.2.2])) = w1 := ⟨_, rfl⟩
  have hM1 : MS g w0 y nM kd 0 s w1 := by
    rw [← hw1]
    exact hM.set hy
  have hy1 : w1 y = some (.inr (7, [.int 0, .ref nM, .ref cL, .ref pL, .int s.2.2.2.2.1, .int kd, .int s.2.2.2.2.2])) := by
    rw [← hw1]
    exact upw_s _ _ _
  have hY1 : isY w1 y nM cL pL := ⟨_, _, _, _, hy1⟩
  simp only [eX3_sweep_0, eX3_sweep_5, eX3_sweep_9, hy, hw1, go_s, wt_nil, g0, gS, ex1, nf_i, true_and, List.set_cons_zero, List.length_cons, List.length_nil, rd_s, Nat.zero_add, Nat.add_zero]
  with_reducible refine And.intro ?_ ?_
  omega
  with_reducible refine And.intro ?_ ?_
  with_reducible exact MS.gP hM1 hY1
  with_reducible refine And.intro ?_ ?_
  omega
  with_reducible refine And.intro ?_ ?_
  omega
  with_reducible refine And.intro ?_ ?_
  omega
  with_reducible refine sSizeF hM1 hY1 ?_
  simp only [eX3_sweep_12, eX3_sweep_13, eX3_sweep_17R, kx_l, wt_nil, wt_ref, nl_ref, tl_s, Nat.zero_add, Nat.add_zero]
  with_reducible refine And.intro ?_ ?_
  omega
  with_reducible refine And.intro ?_ ?_
  omega
  with_reducible intro _
  with_reducible intro _
  with_reducible refine And.intro ?_ ?_
  omega
  with_reducible refine And.intro ?_ ?_
  omega
  with_reducible refine And.intro ?_ ?_
  omega
  with_reducible refine sInitF (hM1.mm.eg hE) (by assumption) (fun D9 w9 hk9 hl9 hd9 => ?_)
  simp only [eX3_sweep_21, eX3_sweep_24, tyX3, kx_l, tl_n, nf_ro, true_and]
  with_reducible refine go_SP hk9 hM1 hl9 nr0 n00' (rd_none (by assumption)) hd9 (fun _ _ hF => ?_)
  with_reducible refine And.intro ?_ ?_
  simp only [List.length_cons, List.length_nil, Nat.zero_add]
  omega
  with_reducible refine And.intro ?_ ?_
  omega
  with_reducible refine And.intro ?_ ?_
  omega
  ((with_reducible refine isQ (Q := Q) ?_); exact hQ _ (fun F => hF F nn0F))
set_option maxHeartbeats 4000000 in
theorem flX3_turn_x {w1 : Hw} {pL D2 c2 q L : Nat} {n mc : Int32} {h2 : Nat → Option Nat} (hE : EG g w1) (hS : SG g) (hM : MS g w0 y nM kd 0 s w1) (en : n = s.2.2.1) (hL : w1 pL = some (.inr (3, [.int mc, .ref D2, .int n]))) (hl : LL g w1 pL D2 c2 n h2) (hr : ∀ i b, h2 i = some b → isRow w1 b) (hnn : ∀ i : Nat, (i : Int) < n.toInt → ∃ b, h2 i = some b ∧ rowA w1 b (s.2.2.2.1 i)) (hn : n.toInt ≤ 12) (hq : w1 q = none) (gq : g.2 q = none) (hL' : w1 L = none) (hQ : ∀ w', MS g w0 y nM kd 0 (sP_ s s.2.2.1 (rev s.2.2.2.1 s.2.2.1.toInt.toNat)) w' → Q (.inl (some (.int s.2.2.1))) w') : ∀ (c lr : Int32) (o3 : Option Value) (w' : Hw) (D' c' : Nat) (h' : Nat → Option Nat) (k m : Nat), ext g w1 w' → w' q = some (.inr (2, [.int c, .int lr, .int mc, .ref pL])) → LL g w' L D' c' c h' → (∀ i b, h' i = some b → isRow w' b) → (∀ i : Nat, (i : Int) < c.toInt → ∃ b, h' i = some b ∧ rowA w1 b (s.2.2.2.1 (c.toInt.toNat - 1 - i))) → w1 D' = none → c = n → k ≤ 14 → m ≤ 187 → WP (MX3_turn g) Q (21, [some (.ref y), some (.ref L), some (.ref q), o3], [], w', k, m) := by
  intro c lr o3 w' D' c' h' k m hk hqw hll hrw hnn' hD' hcn km mm
  subst hcn
  subst en
  have hrr : ∀ i : Nat, (i : Int) < s.2.2.1.toInt → ∃ b, h' i = some b ∧ rowA w' b (rev s.2.2.2.1 s.2.2.1.toInt.toNat i) := fun i hi => (hnn' i hi).imp fun _ z => ⟨z.1, z.2.ext hk⟩
  have rq := rd_e (g := g) hqw
  rw [eX3_turn_21]
  simp only [eX3_turn_22, go_s, wt_nil, true_and, Nat.add_zero, rq]
  with_reducible refine And.intro ?_ ?_
  omega
  with_reducible refine And.intro ?_ ?_
  with_reducible assumption
  with_reducible refine And.intro ?_ ?_
  with_reducible assumption
  with_reducible refine sJx35411_hasNext_aae02 (cap := 0) hqw (hk.k1 hL) (fun _ => ?_) (fun h => absurd rfl h)
  simp only [eX3_turn_27, eX3_turn_30, eX3_turn_49, eX3_turn_54, kx_l, go_s, wt_nil, tl_s, nf_ro, true_and, rd_s, Nat.add_zero, if_true, rq, tyX3]
  with_reducible refine go_SP hk hM hll hrw hn hL' hD' (fun _ _ hF => ?_)
  with_reducible refine And.intro ?_ ?_
  simp only [List.length_cons, List.length_nil, Nat.zero_add]
  omega
  simp only [eX3_turn_58, wt_nil, g0, gS, ex1, List.set_cons_zero, List.set_cons_succ, Nat.add_zero]
  with_reducible refine And.intro ?_ ?_
  with_reducible exact MS.gP (hF _ hrr) (by first | assumption | exact isY.s)
  with_reducible refine And.intro ?_ ?_
  omega
  with_reducible refine And.intro ?_ ?_
  with_reducible assumption
  with_reducible refine And.intro ?_ ?_
  with_reducible assumption
  with_reducible refine sSizeF (hF _ hrr) (by first | assumption | exact isY.s) ?_
  simp only [eX3_turn_61, kx_l, tl_s]
  with_reducible refine And.intro ?_ ?_
  with_reducible assumption
  with_reducible refine And.intro ?_ ?_
  with_reducible assumption
  (exact hQ _ (hF _ hrr))
set_option maxHeartbeats 4000000 in
theorem flX3_turn_21 {w1 : Hw} {pL D2 c2 q L : Nat} {n mc : Int32} {h2 : Nat → Option Nat} (hE : EG g w1) (hS : SG g) (hM : MS g w0 y nM kd 0 s w1) (en : n = s.2.2.1) (hL : w1 pL = some (.inr (3, [.int mc, .ref D2, .int n]))) (hl : LL g w1 pL D2 c2 n h2) (hr : ∀ i b, h2 i = some b → isRow w1 b) (hnn : ∀ i : Nat, (i : Int) < n.toInt → ∃ b, h2 i = some b ∧ rowA w1 b (s.2.2.2.1 i)) (hn : n.toInt ≤ 12) (hq : w1 q = none) (gq : g.2 q = none) (hL' : w1 L = none) (hQ : ∀ w', MS g w0 y nM kd 0 (sP_ s s.2.2.1 (rev s.2.2.2.1 s.2.2.1.toInt.toNat)) w' → Q (.inl (some (.int s.2.2.1))) w') : ∀ (d : Nat) (c lr : Int32) (o3 : Option Value) (w' : Hw) (D' c' : Nat) (h' : Nat → Option Nat) (k m : Nat), ext g w1 w' → w' q = some (.inr (2, [.int c, .int lr, .int mc, .ref pL])) → LL g w' L D' c' c h' → (∀ i b, h' i = some b → isRow w' b) → (∀ i : Nat, (i : Int) < c.toInt → ∃ b, h' i = some b ∧ rowA w1 b (s.2.2.2.1 (c.toInt.toNat - 1 - i))) → w1 D' = none → n.toInt - c.toInt ≤ (d : Int) → c.toInt ≤ n.toInt → (k : Int) ≤ 2 + c.toInt → (m : Int) ≤ 7 + 15 * c.toInt → WP (MX3_turn g) Q (21, [some (.ref y), some (.ref L), some (.ref q), o3], [], w', k, m) := by
  intro d
  induction d with
  | zero =>
    intro c lr o3 w' D' c' h' k m hk hqw hll hrw hnn' hD' hd hc km mm
    exact flX3_turn_x hE hS hM en hL hl hr hnn hn hq gq hL' hQ c lr o3 w' D' c' h' k m hk hqw hll hrw hnn' hD' (Int32.toInt_inj.mp (by omega)) (by omega) (by omega)
  | succ d ih =>
    intro c lr o3 w' D' c' h' k m hk hqw hll hrw hnn' hD' hd hc km mm
    by_cases hcn : c = n
    · exact flX3_turn_x hE hS hM en hL hl hr hnn hn hq gq hL' hQ c lr o3 w' D' c' h' k m hk hqw hll hrw hnn' hD' hcn (by rw [hcn] at km; omega) (by rw [hcn] at mm; omega)
    have c0 := hll.n0
    have clt := itl hcn hc
    have ce := its c0 hcn hc (by omega)
    obtain ⟨b, hb, hbr⟩ := hnn c.toNatClampNeg (by
      have t : c.toNatClampNeg = c.toInt.toNat := rfl
      omega)
    have rq := rd_e (g := g) hqw
    obtain ⟨w2, hw2⟩ : ∃ w2, upw w' q (.inr (2, [.int (c + 1), .int c, .int mc, .ref pL])) = w2 := ⟨_, rfl⟩
    have hk2 : ext g w1 w2 := by
      rw [← hw2]
      refine ⟨fun a o e => ?_, fun a o e1 e2 => ?_⟩
      · rw [upw_n]
        · exact hk.1 a o e
        · rintro rfl
          rw [hq] at e
          cases e
      · rw [upw_n]
        · exact hk.2 a o e1 e2
        · rintro rfl
          rw [gq] at e1
          cases e1
    have hq2 : w2 q = some (.inr (2, [.int (c + 1), .int c, .int mc, .ref pL])) := by
      rw [← hw2]
      exact upw_s _ _ _
    have hll2 : LL g w2 L D' c' c h' := by
      rw [← hw2]
      exact hll.up hqw (fun _ e => by cases e) (fun _ e => by cases e)
    have hrw2 : ∀ i b, h' i = some b → isRow w2 b := fun i b z => by
      rw [← hw2]
      exact isRow_up (hrw i b z) hqw (fun _ e => by cases e)
    have hb2 : isRow w2 b := (hr _ _ hb).ext hk2
    have fin : ∀ (w3 : Hw) (k' m' : Nat), LPo g w2 w3 L D' (c + 1) (HIn h' c.toNatClampNeg (0 : Int32).toNatClampNeg (some b)) → (k' : Int) ≤ 3 + c.toInt → (m' : Int) ≤ 22 + 15 * c.toInt → WP (MX3_turn g) Q (21, [some (.ref y), some (.ref L), some (.ref q), some (.ref b)], [], w3, k', m') := by
      intro w3 k' m' hlp kk' mm'
      obtain ⟨D3, c3, h3, l1, l2, f1, f2, fD, hh⟩ := hlp
      have nD : ∀ {a : Nat} {o : Ob}, w1 a = some o → a ≠ D' := fun e z => by
        rw [z, hD'] at e
        cases e
      have nL : ∀ {a : Nat} {o : Ob}, w1 a = some o → a ≠ L := fun e z => by
        rw [z, hL'] at e
        cases e
      have hk3 : ext g w1 w3 := ⟨fun a o e => f1 a o (hk2.1 a o e) (nL e) (nD e), fun a o e1 e2 => f2 a o e1 (hk2.2 a o e1 e2)⟩
      have q1 : q ≠ L := by
        obtain ⟨mc2, e⟩ := hll2.1
        exact ne_of hq2 e (fun e => by cases e)
      have q2 : q ≠ D' := by
        rcases hll2.2.1 with ⟨e, -⟩ | ⟨-, -, e, -⟩
        · exact ne_of hq2 e (fun e => by cases e)
        · rintro rfl
          rw [hq2] at e
          cases e
      refine ih _ _ _ w3 D3 c3 h3 _ _ hk3 (f1 _ _ hq2 q1 q2) l1 l2 (fun i hi => ?_) ?_ (by omega) (by omega) (by omega) (by omega)
      · have t : c.toNatClampNeg = c.toInt.toNat := rfl
        have t0 : (0 : Int32).toNatClampNeg = 0 := rfl
        rw [t0] at hh
        rcases Nat.eq_zero_or_pos i with rfl | hi0
        · refine ⟨b, hh.2.1, ?_⟩
          have ei : (c + 1).toInt.toNat - 1 - 0 = c.toNatClampNeg := by omega
          rw [ei]
          exact hbr
        · obtain ⟨j, rfl⟩ : ∃ j, i = j + 1 := ⟨i - 1, by omega⟩
          rw [hh.2.2 j (Nat.zero_le _) (by omega)]
          have ei : (c + 1).toInt.toNat - 1 - (j + 1) = c.toInt.toNat - 1 - j := by omega
          rw [ei]
          exact hnn' j (by omega)
      · rcases fD with rfl | ⟨fD, -⟩
        · exact hD'
        · cases hw : w1 D3 with
          | none => rfl
          | some o =>
            rw [hk2.1 _ _ hw] at fD
            cases fD
    rw [eX3_turn_21]
    simp only [eX3_turn_22, go_s, wt_nil, true_and, Nat.add_zero, rq]
    with_reducible refine And.intro ?_ ?_
    omega
    with_reducible refine And.intro ?_ ?_
    omega
    with_reducible refine And.intro ?_ ?_
    omega
    with_reducible refine sJx35411_hasNext_aae02 (cap := 0) hqw (hk.k1 hL) (fun h => absurd h hcn) (fun _ => ?_)
    simp only [eX3_turn_27, eX3_turn_30, eX3_turn_49, eX3_turn_54, kx_l, go_s, wt_nil, tl_s, true_and, rd_s, Nat.add_zero, if_false, m10, rq]
    with_reducible refine And.intro ?_ ?_
    omega
    with_reducible refine And.intro ?_ ?_
    omega
    with_reducible refine And.intro ?_ ?_
    omega
    with_reducible refine sNext1 hqw (hk.k1 hL) (hl.ext hk).rD c0 clt hl.nc hl.c15 hb ?_
    simp only [eX3_turn_36R, eX3_turn_39, eX3_turn_46, kx_l, wt_nil, nl_ref, tl_s, hw2]
    with_reducible refine And.intro ?_ ?_
    with_reducible exact isRow.ca hb2
    with_reducible refine And.intro ?_ ?_
    with_reducible exact hll2.gt
    with_reducible refine And.intro ?_ ?_
    omega
    with_reducible refine And.intro ?_ ?_
    omega
    with_reducible refine And.intro ?_ ?_
    omega
    with_reducible refine sJx4a65c_add_7a177R hb2 (hE.ext hk2) hS hll2 hrw2 (by decide) (by have e : (0 : Int32).toInt = 0 := rfl; omega) (by omega) (fun _ _ => ?_)
    simp only [kx_l, tl_n]
    with_reducible exact fin _ _ _ (by assumption) (by omega) (by omega)
set_option maxHeartbeats 4000000 in
theorem fX3_turn  (hM : MS g w0 y nM kd th s w) (hE : EG g w0) (hS : SG g) (hQ : ∀ w', MS g w0 y nM kd 0 (sP_ s s.2.2.1 (rev s.2.2.2.1 s.2.2.1.toInt.toNat)) w' → Q (.inl (some (.int s.2.2.1))) w') : WP (MX3_turn g) Q (0, [some (.ref y), none, none, none], [], w, 0, 0) := by
  obtain ⟨cL, pL, hy, ry⟩ := hM.1.op
  obtain ⟨w1, hw1⟩ : ∃ w1, upw w y (.inr (7, [.int 0, .ref nM, .ref cL, .ref pL, .int s.2.2.2.2.1, .int kd, .int s.2.2.2.2.2])) = w1 := ⟨_, rfl⟩
  have hM1 : MS g w0 y nM kd 0 s w1 := by
    rw [← hw1]
    exact hM.set hy
  have hy1 : w1 y = some (.inr (7, [.int 0, .ref nM, .ref cL, .ref pL, .int s.2.2.2.2.1, .int kd, .int s.2.2.2.2.2])) := by
    rw [← hw1]
    exact upw_s _ _ _
  obtain ⟨D1, D2, c1, c2, h1, h2, a1, a2, a3, a4, a5, a6, a7, a8, a9, b1, b2, hD, hc⟩ := hM1.1.yS ⟨_, _, _, _, hy1⟩
  obtain ⟨mc0, hL1⟩ := a5.1
  have z0 : (0 : Int32).toInt = 0 := rfl
  have n0 := a5.n0
  simp only [eX3_turn_0, eX3_turn_5, eX3_turn_8R, hy, hw1, go_s, wt_nil, wt_ref, nf_i, true_and, List.set_cons_zero, List.length_cons, List.length_nil, Nat.zero_add, Nat.add_zero]
  with_reducible refine And.intro ?_ ?_
  omega
  with_reducible refine And.intro ?_ ?_
  omega
  with_reducible refine And.intro ?_ ?_
  omega
  with_reducible intro _
  with_reducible intro _
  with_reducible refine And.intro ?_ ?_
  omega
  with_reducible refine And.intro ?_ ?_
  omega
  with_reducible refine And.intro ?_ ?_
  omega
  with_reducible refine sInitF (hM1.mm.eg hE) (by assumption) (fun D9 w9 hk9 hl9 hd9 => ?_)
  simp only [eX3_turn_12, eX3_turn_13, kx_l, nl_ref, tl_n]
  with_reducible refine go_YE (hk9.k1 hy1) ?_
  simp only [eX3_turn_17, wt_nil, g0, gS, ex1]
  with_reducible refine And.intro ?_ ?_
  with_reducible exact (a5.ext hk9).gt
  with_reducible refine And.intro ?_ ?_
  omega
  with_reducible refine And.intro ?_ ?_
  omega
  with_reducible refine And.intro ?_ ?_
  omega
  with_reducible refine sIter1 (a5.ext hk9) (hk9.k1 hL1) (fun q9 hq9 => ?_)
  simp only [eX3_turn_20, kx_l, nl_ref, tl_s]
  ((with_reducible refine isWP (pc := 21) ?_); exact flX3_turn_21 (hM1.mm.eg hE) hS hM1 rfl hL1 a5 a6 b2 a7 (ext_n hk9 (rd_none hq9)) (rd_ro hq9) (rd_none (by assumption)) hQ 70 _ _ _ _ _ _ _ _ _ (ext_up3 hk9 hq9) (upw_s _ _ _) (hl9.nq hq9 _) nr0 nn0F hd9 (by omega) (by omega) (by omega) (by omega))
end
end
