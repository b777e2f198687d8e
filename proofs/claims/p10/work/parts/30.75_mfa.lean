section
section
variable {g : RO} {Q : Ot → Hw → Prop} {w0 w : Hw} {y nM : Nat} {kd th : Int32} {s : AS}
theorem MS.cA {a : Int32} {r : R4} (h : MS g w0 y nM kd th s w) (k : okC a) (e : s.2.1 a.toNatClampNeg = some r) : ∃ b, CAt g w y a (some b) := by
  obtain ⟨cL, pL, D1, D2, c1, c2, h1, h2, a1, a2, a3, a4, a5, a6, a7, a8, a9, b1, b2⟩ := h.1
  have kk := b1 _ (c6 k)
  cases e1 : h1 a.toNatClampNeg with
  | none =>
    rw [e1, e] at kk
    exact (kk : False).elim
  | some b => exact ⟨b, nM, cL, pL, D1, c1, _, _, _, _, h1, a1, a3, a4, e1⟩
theorem MS.ts {b d N : Nat} {c : Int32} {w1 : Hw} (hT : TS g w1 b d N c w) (h : MS g w0 y nM kd th s w1) : MS g w0 y nM kd th s w := h.ext hT.1
theorem msEx2 {w1 : Hw} (k : ext g w1 w) (h : MS g w0 y nM kd th s w1) : MS g w0 y nM kd th s w := h.ext k
theorem rowA.ts {b d N p : Nat} {c : Int32} {w1 : Hw} {r : R4} (hT : TS g w1 b d N c w) (h : rowA w1 p r) : rowA w p r := h.ext hT.1
theorem gX3_likesNow {a : Int32} {r : R4} (hM : MS g w0 y nM kd th s w) (k : okC a) (e : s.2.1 a.toNatClampNeg = some r) (hQ : ∀ v : Int32, Q (.inl (some (.int v))) w) : WP (MX3_likesNow g) Q (0, [some (.ref y), some (.int a), none, none], [], w, 0, 0) := by
  obtain ⟨b, hC⟩ := hM.cA k e
  exact sX3_likesNow hM.mm hC k.1 (lt65 k.2) hQ
theorem gX3_oftenNow {a : Int32} {r : R4} (hM : MS g w0 y nM kd th s w) (k : okC a) (e : s.2.1 a.toNatClampNeg = some r) (hQ : ∀ (v : Int32) w', MS g w0 y nM kd th s w' → Q (.inl (some (.int v))) w') : WP (MX3_oftenNow g) Q (0, [some (.ref y), some (.int a), none, none, none], [], w, 0, 0) := by
  obtain ⟨b, hC⟩ := hM.cA k e
  exact sX3_oftenNow hM.mm hC k.1 (lt65 k.2) (fun v w' hk => hQ v w' (hM.ext hk))
theorem gX3_count_56 {a c e : Int32} {r : R4} {k m : Nat} (hM : MS g w0 y nM kd th s w) (kc : okC a) (e1 : s.2.1 a.toNatClampNeg = some r) (k2 : ¬ 60 < e) (hQ : ∀ v : Int32, Q (.inl (some (.int v))) w) (hk : k ≤ 0) (hm : m ≤ 0) : WP (MX3_count g) Q (56, [some (.ref y), some (.int a), some (.int c), some (.int e), some (.int 0), some (.int 0)], [], w, k, m) := by
  obtain ⟨b, hC⟩ := hM.cA kc e1
  exact lX3_count_56 hM.mm hC kc.1 (lt65 kc.2) k2 hQ 70 _ _ _ _ (n60 k2) hk hm
set_option maxHeartbeats 4000000 in
theorem gX3_whichValid {a0 a1 : Int32} (hM : MS g w0 y nM kd th s w) (hQ : ∀ (v th' : Int32) w', MS g w0 y nM kd th' s w' → Q (.inl (some (.int v))) w') : WP (MX3_whichValid g) Q (0, [some (.ref y), some (.int a0), some (.int a1)], [], w, 0, 0) := by
  simp only [eX3_whichValid_0, wt_nil, Nat.add_zero]
  with_reducible refine And.intro ?_ ?_
  with_reducible refine go_S (by assumption) (fun _ _ hY => ?_)
  with_reducible exact trivial
  with_reducible refine And.intro ?_ ?_
  omega
  with_reducible refine And.intro ?_ ?_
  omega
  with_reducible refine And.intro ?_ ?_
  omega
  with_reducible refine fX3_isNone (by assumption) (fun _ w1 h1 => ?_) (fun _ _ w1 h1 => ?_) (fun _ _ _ w1 h1 => ?_)
  simp only [eX3_whichValid_5, eX3_whichValid_8, eX3_whichValid_12, eX3_whichValid_16, eX3_whichValid_27, i10, if_false, kx_l, tl_s]
  with_reducible refine And.intro ?_ ?_
  omega
  with_reducible refine And.intro ?_ ?_
  omega
  with_reducible exact hQ _ _ _ (by assumption)
  simp only [eX3_whichValid_5, eX3_whichValid_8, eX3_whichValid_12, eX3_whichValid_16, eX3_whichValid_27, i10, if_false, kx_l, tl_s]
  with_reducible refine And.intro ?_ ?_
  omega
  with_reducible refine And.intro ?_ ?_
  omega
  with_reducible exact hQ _ _ _ (by assumption)
  simp only [eX3_whichValid_5, eX3_whichValid_8, eX3_whichValid_12, eX3_whichValid_16, eX3_whichValid_27, if_true, kx_l, tl_s]
  with_reducible refine go_S (by assumption) (fun _ _ hY => ?_)
  simp only [eX3_whichValid_17, wt_nil, g0, gS, ex1, Nat.add_zero]
  with_reducible refine And.intro ?_ ?_
  with_reducible exact MS.gC (by assumption) (by assumption)
  with_reducible refine And.intro ?_ ?_
  omega
  with_reducible refine And.intro ?_ ?_
  omega
  with_reducible refine And.intro ?_ ?_
  omega
  with_reducible refine sGetK (by assumption) (by assumption) (by assumption) (by assumption) (fun _ hb => ?_)
  simp only [eX3_whichValid_20R, eX3_whichValid_23, kx_l, wt_nil, tl_s, Nat.add_zero]
  with_reducible refine And.intro ?_ ?_
  with_reducible exact rowA.ca (by assumption)
  with_reducible refine And.intro ?_ ?_
  omega
  with_reducible refine And.intro ?_ ?_
  omega
  with_reducible refine And.intro ?_ ?_
  omega
  with_reducible refine sX3_whichNow (rowA.row (by assumption)) (fun _ => ?_)
  simp only [eX3_whichValid_27, kx_l, tl_s]
  with_reducible refine And.intro ?_ ?_
  omega
  with_reducible refine And.intro ?_ ?_
  omega
  with_reducible exact hQ _ _ _ (by assumption)
set_option maxHeartbeats 4000000 in
theorem gX3_around {a0 a1 a2 : Int32} (hM : MS g w0 y nM kd th s w) (hQ : ∀ (v th' : Int32) w', MS g w0 y nM kd th' s w' → Q (.inl (some (.int v))) w') : WP (MX3_around g) Q (0, [some (.ref y), some (.int a0), some (.int a1), some (.int a2)], [], w, 0, 0) := by
  simp only [eX3_around_0, wt_nil, Nat.add_zero]
  with_reducible refine And.intro ?_ ?_
  with_reducible refine go_S (by assumption) (fun _ _ hY => ?_)
  with_reducible exact trivial
  with_reducible refine And.intro ?_ ?_
  omega
  with_reducible refine And.intro ?_ ?_
  omega
  with_reducible refine And.intro ?_ ?_
  omega
  with_reducible refine fX3_isNoEnd_ (by assumption) (fun _ w1 h1 => ?_) (fun _ _ w1 h1 => ?_) (fun _ _ _ w1 h1 => ?_) (fun _ _ _ _ w1 h1 => ?_)
  simp only [eX3_around_6, eX3_around_9, eX3_around_13, eX3_around_17, eX3_around_29, i10, if_false, kx_l, tl_s]
  with_reducible refine And.intro ?_ ?_
  omega
  with_reducible refine And.intro ?_ ?_
  omega
  with_reducible exact hQ _ _ _ (by assumption)
  simp only [eX3_around_6, eX3_around_9, eX3_around_13, eX3_around_17, eX3_around_29, i10, if_false, kx_l, tl_s]
  with_reducible refine And.intro ?_ ?_
  omega
  with_reducible refine And.intro ?_ ?_
  omega
  with_reducible exact hQ _ _ _ (by assumption)
  simp only [eX3_around_6, eX3_around_9, eX3_around_13, eX3_around_17, eX3_around_29, i10, if_false, kx_l, tl_s]
  with_reducible refine And.intro ?_ ?_
  omega
  with_reducible refine And.intro ?_ ?_
  omega
  with_reducible exact hQ _ _ _ (by assumption)
  simp only [eX3_around_6, eX3_around_9, eX3_around_13, eX3_around_17, eX3_around_29, if_true, kx_l, tl_s]
  with_reducible refine go_S (by assumption) (fun _ _ hY => ?_)
  simp only [eX3_around_18, wt_nil, g0, gS, ex1, Nat.add_zero]
  with_reducible refine And.intro ?_ ?_
  with_reducible exact MS.gC (by assumption) (by assumption)
  with_reducible refine And.intro ?_ ?_
  omega
  with_reducible refine And.intro ?_ ?_
  omega
  with_reducible refine And.intro ?_ ?_
  omega
  with_reducible refine sGetK (by assumption) (by assumption) (by assumption) (by assumption) (fun _ hb => ?_)
  simp only [eX3_around_21R, eX3_around_24, kx_l, wt_nil, tl_s, Nat.add_zero]
  with_reducible refine And.intro ?_ ?_
  with_reducible exact rowA.ca (by assumption)
  with_reducible refine And.intro ?_ ?_
  omega
  with_reducible refine And.intro ?_ ?_
  omega
  with_reducible refine And.intro ?_ ?_
  omega
  with_reducible refine sX3_aroundNow (rowA.row (by assumption)) (And.left (by assumption : okW _ 3)) (And.right (by assumption : okW _ 3)) (fun _ => ?_)
  simp only [eX3_around_29, kx_l, tl_s]
  with_reducible refine And.intro ?_ ?_
  omega
  with_reducible refine And.intro ?_ ?_
  omega
  with_reducible exact hQ _ _ _ (by assumption)
set_option maxHeartbeats 4000000 in
theorem gX3_isSameAs {a0 a1 : Int32} (hM : MS g w0 y nM kd th s w) (hQ : ∀ (v th' : Int32) w', MS g w0 y nM kd th' s w' → Q (.inl (some (.int v))) w') : WP (MX3_isSameAs g) Q (0, [some (.ref y), some (.int a0), some (.int a1)], [], w, 0, 0) := by
  simp only [eX3_isSameAs_0, eX3_isSameAs_5, wt_nil, wt_ref, Nat.add_zero]
  with_reducible refine And.intro ?_ ?_
  omega
  with_reducible refine And.intro ?_ ?_
  omega
  with_reducible refine And.intro ?_ ?_
  omega
  with_reducible refine fX3_isNoCard (fun _ => ?_) (fun _ => ?_)
  simp only [eX3_isSameAs_6, kx_l, wt_nil, tl_s, Nat.add_zero]
  with_reducible refine And.intro ?_ ?_
  with_reducible refine go_S (by assumption) (fun _ _ hY => ?_)
  with_reducible exact trivial
  with_reducible refine And.intro ?_ ?_
  omega
  with_reducible refine And.intro ?_ ?_
  omega
  with_reducible refine And.intro ?_ ?_
  omega
  with_reducible refine fX3_start (by assumption) (by decide) (fun _ w1 h1 => ?_) (fun _ w1 h1 => ?_)
  with_reducible exact absurd (by assumption) n10'
  simp only [eX3_isSameAs_9, eX3_isSameAs_12, eX3_isSameAs_47, i10, if_false, kx_l, wt_nil, wt_ref, tl_s, nb_0, true_and, Nat.add_zero]
  with_reducible refine And.intro ?_ ?_
  omega
  with_reducible refine And.intro ?_ ?_
  omega
  with_reducible exact hQ _ _ _ (by assumption)
  simp only [eX3_isSameAs_6, kx_l, wt_nil, tl_s, Nat.add_zero]
  with_reducible refine And.intro ?_ ?_
  with_reducible refine go_S (by assumption) (fun _ _ hY => ?_)
  with_reducible exact trivial
  with_reducible refine And.intro ?_ ?_
  omega
  with_reducible refine And.intro ?_ ?_
  omega
  with_reducible refine And.intro ?_ ?_
  omega
  with_reducible refine fX3_start (by assumption) (by decide) (fun _ w1 h1 => ?_) (fun _ w1 h1 => ?_)
  simp only [eX3_isSameAs_9, eX3_isSameAs_12, eX3_isSameAs_47, if_true, kx_l, wt_nil, wt_ref, tl_s, nb_0, true_and, Nat.add_zero]
  with_reducible refine And.intro ?_ ?_
  omega
  with_reducible refine And.intro ?_ ?_
  omega
  with_reducible refine And.intro ?_ ?_
  omega
  with_reducible refine fX3_isIn (fun _ _ => ?_) (fun _ => ?_)
  simp only [eX3_isSameAs_19, eX3_isSameAs_22, eX3_isSameAs_26, eX3_isSameAs_27, i10, if_false, kx_l, wt_nil, tl_s, Nat.add_zero]
  with_reducible refine And.intro ?_ ?_
  with_reducible refine go_S (by assumption) (fun _ _ hY => ?_)
  with_reducible exact trivial
  with_reducible refine And.intro ?_ ?_
  omega
  with_reducible refine And.intro ?_ ?_
  omega
  with_reducible refine And.intro ?_ ?_
  omega
  with_reducible refine fX3_refuse (by assumption) (by decide) (fun _ => ?_) (fun _ w2 h2 => ?_)
  simp only [eX3_isSameAs_31, eX3_isSameAs_34, eX3_isSameAs_40, eX3_isSameAs_47, if_true, kx_l, wt_nil, wt_ref, tl_s, nb_0, true_and, Nat.add_zero]
  with_reducible refine And.intro ?_ ?_
  with_reducible refine go_S (by assumption) (fun _ _ hY => ?_)
  with_reducible exact trivial
  with_reducible refine And.intro ?_ ?_
  omega
  with_reducible refine And.intro ?_ ?_
  omega
  with_reducible refine And.intro ?_ ?_
  omega
  with_reducible refine fX3_isBare (by assumption) (by assumption) (fun _ => ?_) (fun _ _ => ?_)
  simp only [eX3_isSameAs_41, kx_l, wt_nil, tl_s, Nat.add_zero]
  with_reducible refine And.intro ?_ ?_
  with_reducible refine go_S (by assumption) (fun _ _ hY => ?_)
  with_reducible exact trivial
  with_reducible refine And.intro ?_ ?_
  omega
  with_reducible refine And.intro ?_ ?_
  omega
  with_reducible refine And.intro ?_ ?_
  omega
  with_reducible refine fX3_refuse (by assumption) (by decide) (fun _ => ?_) (fun _ w2 h2 => ?_)
  with_reducible exact absurd (by assumption) n10'
  simp only [eX3_isSameAs_44, eX3_isSameAs_47, eX3_isSameAs_49, eX3_isSameAs_54, eX3_isSameAs_59, eX3_isSameAs_64, eX3_isSameAs_68, eX3_isSameAs_81, eX3_isSameAs_85, eX3_isSameAs_86, i10, if_false, kx_l, tl_s, nb_0, nb_1, true_and]
  with_reducible refine And.intro ?_ ?_
  omega
  with_reducible refine And.intro ?_ ?_
  omega
  with_reducible exact hQ _ _ _ (by assumption)
  simp only [eX3_isSameAs_41, kx_l, wt_nil, tl_s, Nat.add_zero]
  with_reducible refine And.intro ?_ ?_
  with_reducible refine go_S (by assumption) (fun _ _ hY => ?_)
  with_reducible exact trivial
  with_reducible refine And.intro ?_ ?_
  omega
  with_reducible refine And.intro ?_ ?_
  omega
  with_reducible refine And.intro ?_ ?_
  omega
  with_reducible refine fX3_refuse (by assumption) (by decide) (fun _ => ?_) (fun _ w2 h2 => ?_)
  simp only [eX3_isSameAs_44, eX3_isSameAs_47, eX3_isSameAs_49, eX3_isSameAs_54, eX3_isSameAs_59, eX3_isSameAs_64, eX3_isSameAs_68, eX3_isSameAs_81, eX3_isSameAs_85, eX3_isSameAs_86, if_true, kx_l, tl_s, nb_0, nb_1, true_and]
  with_reducible refine itx (fun _ => ?_) (fun _ => ?_)
  with_reducible refine And.intro ?_ ?_
  omega
  with_reducible refine And.intro ?_ ?_
  omega
  with_reducible exact hQ _ _ _ (by assumption)
  with_reducible refine itx (fun _ => ?_) (fun _ => ?_)
  with_reducible refine And.intro ?_ ?_
  omega
  with_reducible refine And.intro ?_ ?_
  omega
  with_reducible exact hQ _ _ _ (by assumption)
  with_reducible refine itx (fun _ => ?_) (fun _ => ?_)
  with_reducible refine go_S (by assumption) (fun _ _ hY => ?_)
  simp only [eX3_isSameAs_69, wt_nil, g0, gS, ex1, Nat.add_zero]
  with_reducible refine And.intro ?_ ?_
  with_reducible exact MS.gC (by assumption) (by assumption)
  with_reducible refine And.intro ?_ ?_
  omega
  with_reducible refine And.intro ?_ ?_
  omega
  with_reducible refine And.intro ?_ ?_
  omega
  with_reducible refine sGetK (by assumption) (by assumption) (by assumption) (by assumption) (fun _ hb => ?_)
  simp only [eX3_isSameAs_72R, eX3_isSameAs_75R, kx_l, wt_nil, tl_s, Nat.add_zero]
  with_reducible refine And.intro ?_ ?_
  with_reducible exact rowA.ca (by assumption)
  with_reducible refine And.intro ?_ ?_
  omega
  with_reducible refine And.intro ?_ ?_
  omega
  with_reducible refine And.intro ?_ ?_
  omega
  with_reducible refine sX3_fixed (rowA.row (by assumption)) ?_ ?_
  simp only [eX3_isSameAs_78, eX3_isSameAs_81, eX3_isSameAs_85, eX3_isSameAs_86, i10, if_false, kx_l, tl_s, nb_0, nb_1, true_and]
  with_reducible refine And.intro ?_ ?_
  omega
  with_reducible refine And.intro ?_ ?_
  omega
  with_reducible exact hQ _ _ _ (by assumption)
  simp only [eX3_isSameAs_78, eX3_isSameAs_81, eX3_isSameAs_85, eX3_isSameAs_86, if_true, kx_l, tl_s, nb_0, nb_1, true_and]
  with_reducible refine And.intro ?_ ?_
  omega
  with_reducible refine And.intro ?_ ?_
  omega
  with_reducible exact hQ _ _ _ (by assumption)
  with_reducible refine And.intro ?_ ?_
  omega
  with_reducible refine And.intro ?_ ?_
  omega
  with_reducible exact hQ _ _ _ (by assumption)
  with_reducible exact n00x (by assumption)
  with_reducible exact n00x (by assumption)
  simp only [eX3_isSameAs_19, eX3_isSameAs_22, eX3_isSameAs_26, eX3_isSameAs_27, if_true, kx_l, wt_nil, tl_s, Nat.add_zero]
  with_reducible refine And.intro ?_ ?_
  with_reducible refine go_S (by assumption) (fun _ _ hY => ?_)
  with_reducible exact trivial
  with_reducible refine And.intro ?_ ?_
  omega
  with_reducible refine And.intro ?_ ?_
  omega
  with_reducible refine And.intro ?_ ?_
  omega
  with_reducible refine fX3_refuse (by assumption) (by decide) (fun _ => ?_) (fun _ w2 h2 => ?_)
  with_reducible exact absurd (by assumption) n10'
  simp only [eX3_isSameAs_31, eX3_isSameAs_34, eX3_isSameAs_40, eX3_isSameAs_47, i10, if_false, kx_l, wt_nil, wt_ref, tl_s, nb_0, true_and, Nat.add_zero]
  with_reducible refine And.intro ?_ ?_
  omega
  with_reducible refine And.intro ?_ ?_
  omega
  with_reducible exact hQ _ _ _ (by assumption)
  with_reducible exact n00x (by assumption)
set_option maxHeartbeats 4000000 in
theorem gX3_count {a0 a1 a2 : Int32} (hM : MS g w0 y nM kd th s w) (hQ : ∀ (v th' : Int32) w', MS g w0 y nM kd th' s w' → Q (.inl (some (.int v))) w') : WP (MX3_count g) Q (0, [some (.ref y), some (.int a0), some (.int a1), some (.int a2), none, none], [], w, 0, 0) := by
  simp only [eX3_count_0, eX3_count_5, wt_nil, wt_ref, Nat.add_zero]
  with_reducible refine And.intro ?_ ?_
  omega
  with_reducible refine And.intro ?_ ?_
  omega
  with_reducible refine And.intro ?_ ?_
  omega
  with_reducible refine fX3_isNoCard (fun _ => ?_) (fun _ => ?_)
  simp only [eX3_count_6, kx_l, wt_nil, tl_s, Nat.add_zero]
  with_reducible refine And.intro ?_ ?_
  with_reducible refine go_S (by assumption) (fun _ _ hY => ?_)
  with_reducible exact trivial
  with_reducible refine And.intro ?_ ?_
  omega
  with_reducible refine And.intro ?_ ?_
  omega
  with_reducible refine And.intro ?_ ?_
  omega
  with_reducible refine fX3_start (by assumption) (by decide) (fun _ w1 h1 => ?_) (fun _ w1 h1 => ?_)
  with_reducible exact absurd (by assumption) n10'
  simp only [eX3_count_9, eX3_count_12, eX3_count_48, i10, if_false, kx_l, wt_nil, wt_ref, tl_s, Nat.add_zero]
  with_reducible refine And.intro ?_ ?_
  omega
  with_reducible refine And.intro ?_ ?_
  omega
  with_reducible exact hQ _ _ _ (by assumption)
  simp only [eX3_count_6, kx_l, wt_nil, tl_s, Nat.add_zero]
  with_reducible refine And.intro ?_ ?_
  with_reducible refine go_S (by assumption) (fun _ _ hY => ?_)
  with_reducible exact trivial
  with_reducible refine And.intro ?_ ?_
  omega
  with_reducible refine And.intro ?_ ?_
  omega
  with_reducible refine And.intro ?_ ?_
  omega
  with_reducible refine fX3_start (by assumption) (by decide) (fun _ w1 h1 => ?_) (fun _ w1 h1 => ?_)
  simp only [eX3_count_9, eX3_count_12, eX3_count_48, if_true, kx_l, wt_nil, wt_ref, tl_s, Nat.add_zero]
  with_reducible refine And.intro ?_ ?_
  omega
  with_reducible refine And.intro ?_ ?_
  omega
  with_reducible refine And.intro ?_ ?_
  omega
  with_reducible refine fX3_isIn (fun _ _ => ?_) (fun _ => ?_)
  simp only [eX3_count_20, eX3_count_23, eX3_count_27, eX3_count_28, i10, if_false, kx_l, wt_nil, tl_s, Nat.add_zero]
  with_reducible refine And.intro ?_ ?_
  with_reducible refine go_S (by assumption) (fun _ _ hY => ?_)
  with_reducible exact trivial
  with_reducible refine And.intro ?_ ?_
  omega
  with_reducible refine And.intro ?_ ?_
  omega
  with_reducible refine And.intro ?_ ?_
  omega
  with_reducible refine fX3_refuse (by assumption) (by decide) (fun _ => ?_) (fun _ w2 h2 => ?_)
  simp only [eX3_count_32, eX3_count_35, eX3_count_41, eX3_count_48, if_true, kx_l, wt_nil, wt_ref, tl_s, Nat.add_zero]
  with_reducible refine And.intro ?_ ?_
  with_reducible refine go_S (by assumption) (fun _ _ hY => ?_)
  with_reducible exact trivial
  with_reducible refine And.intro ?_ ?_
  omega
  with_reducible refine And.intro ?_ ?_
  omega
  with_reducible refine And.intro ?_ ?_
  omega
  with_reducible refine fX3_isBare (by assumption) (by assumption) (fun _ => ?_) (fun _ _ => ?_)
  simp only [eX3_count_42, kx_l, wt_nil, tl_s, Nat.add_zero]
  with_reducible refine And.intro ?_ ?_
  with_reducible refine go_S (by assumption) (fun _ _ hY => ?_)
  with_reducible exact trivial
  with_reducible refine And.intro ?_ ?_
  omega
  with_reducible refine And.intro ?_ ?_
  omega
  with_reducible refine And.intro ?_ ?_
  omega
  with_reducible refine fX3_refuse (by assumption) (by decide) (fun _ => ?_) (fun _ w2 h2 => ?_)
  with_reducible exact absurd (by assumption) n10'
  simp only [eX3_count_45, eX3_count_48, eX3_count_50, i10, if_false, kx_l, nl_int, tl_s]
  with_reducible refine And.intro ?_ ?_
  omega
  with_reducible refine And.intro ?_ ?_
  omega
  with_reducible exact hQ _ _ _ (by assumption)
  simp only [eX3_count_42, kx_l, wt_nil, tl_s, Nat.add_zero]
  with_reducible refine And.intro ?_ ?_
  with_reducible refine go_S (by assumption) (fun _ _ hY => ?_)
  with_reducible exact trivial
  with_reducible refine And.intro ?_ ?_
  omega
  with_reducible refine And.intro ?_ ?_
  omega
  with_reducible refine And.intro ?_ ?_
  omega
  with_reducible refine fX3_refuse (by assumption) (by decide) (fun _ => ?_) (fun _ w2 h2 => ?_)
  simp only [eX3_count_45, eX3_count_48, eX3_count_50, if_true, kx_l, nl_int, tl_s]
  with_reducible refine gX3_count_56 (by assumption) (by assumption) (by assumption) (by assumption) (fun _ => ?_) (by first | assumption | omega) (by first | assumption | omega)
  with_reducible exact hQ _ _ _ (by assumption)
  with_reducible exact n00x (by assumption)
  with_reducible exact n00x (by assumption)
  simp only [eX3_count_20, eX3_count_23, eX3_count_27, eX3_count_28, if_true, kx_l, wt_nil, tl_s, Nat.add_zero]
  with_reducible refine And.intro ?_ ?_
  with_reducible refine go_S (by assumption) (fun _ _ hY => ?_)
  with_reducible exact trivial
  with_reducible refine And.intro ?_ ?_
  omega
  with_reducible refine And.intro ?_ ?_
  omega
  with_reducible refine And.intro ?_ ?_
  omega
  with_reducible refine fX3_refuse (by assumption) (by decide) (fun _ => ?_) (fun _ w2 h2 => ?_)
  with_reducible exact absurd (by assumption) n10'
  simp only [eX3_count_32, eX3_count_35, eX3_count_41, eX3_count_48, i10, if_false, kx_l, wt_nil, wt_ref, tl_s, Nat.add_zero]
  with_reducible refine And.intro ?_ ?_
  omega
  with_reducible refine And.intro ?_ ?_
  omega
  with_reducible exact hQ _ _ _ (by assumption)
  with_reducible exact n00x (by assumption)
set_option maxHeartbeats 4000000 in
theorem gX3_who {a0 a1 : Int32} (hM : MS g w0 y nM kd th s w) (hQ : ∀ (v th' : Int32) w', MS g w0 y nM kd th' s w' → Q (.inl (some (.int v))) w') : WP (MX3_who g) Q (0, [some (.ref y), some (.int a0), some (.int a1)], [], w, 0, 0) := by
  simp only [eX3_who_0, eX3_who_5, wt_nil, wt_ref, Nat.add_zero]
  with_reducible refine And.intro ?_ ?_
  omega
  with_reducible refine And.intro ?_ ?_
  omega
  with_reducible refine And.intro ?_ ?_
  omega
  with_reducible refine fX3_isNoNumber (fun _ => ?_) (fun _ => ?_)
  simp only [eX3_who_6, kx_l, wt_nil, tl_s, Nat.add_zero]
  with_reducible refine And.intro ?_ ?_
  with_reducible refine go_S (by assumption) (fun _ _ hY => ?_)
  with_reducible exact trivial
  with_reducible refine And.intro ?_ ?_
  omega
  with_reducible refine And.intro ?_ ?_
  omega
  with_reducible refine And.intro ?_ ?_
  omega
  with_reducible refine fX3_start (by assumption) (by decide) (fun _ w1 h1 => ?_) (fun _ w1 h1 => ?_)
  with_reducible exact absurd (by assumption) n10'
  simp only [eX3_who_9, eX3_who_12, eX3_who_34, eX3_who_44, i10, if_false, kx_l, wt_nil, wt_ref, tl_s, Nat.add_zero]
  with_reducible refine And.intro ?_ ?_
  omega
  with_reducible refine And.intro ?_ ?_
  omega
  with_reducible exact hQ _ _ _ (by assumption)
  simp only [eX3_who_6, kx_l, wt_nil, tl_s, Nat.add_zero]
  with_reducible refine And.intro ?_ ?_
  with_reducible refine go_S (by assumption) (fun _ _ hY => ?_)
  with_reducible exact trivial
  with_reducible refine And.intro ?_ ?_
  omega
  with_reducible refine And.intro ?_ ?_
  omega
  with_reducible refine And.intro ?_ ?_
  omega
  with_reducible refine fX3_start (by assumption) (by decide) (fun _ w1 h1 => ?_) (fun _ w1 h1 => ?_)
  simp only [eX3_who_9, eX3_who_12, eX3_who_34, eX3_who_44, if_true, kx_l, wt_nil, wt_ref, tl_s, Nat.add_zero]
  with_reducible refine And.intro ?_ ?_
  omega
  with_reducible refine And.intro ?_ ?_
  omega
  with_reducible refine And.intro ?_ ?_
  omega
  with_reducible refine fX3_isIn (fun _ _ => ?_) (fun _ => ?_)
  simp only [eX3_who_19, eX3_who_22, eX3_who_26, eX3_who_27, i10, if_false, kx_l, wt_nil, tl_s, Nat.add_zero]
  with_reducible refine And.intro ?_ ?_
  with_reducible refine go_S (by assumption) (fun _ _ hY => ?_)
  with_reducible exact trivial
  with_reducible refine And.intro ?_ ?_
  omega
  with_reducible refine And.intro ?_ ?_
  omega
  with_reducible refine And.intro ?_ ?_
  omega
  with_reducible refine fX3_refuse (by assumption) (by decide) (fun _ => ?_) (fun _ w2 h2 => ?_)
  simp only [eX3_who_31, eX3_who_34, eX3_who_38, eX3_who_44, if_true, kx_l, wt_nil, tl_s, Nat.add_zero]
  with_reducible refine And.intro ?_ ?_
  with_reducible refine go_S (by assumption) (fun _ _ hY => ?_)
  with_reducible exact trivial
  with_reducible refine And.intro ?_ ?_
  omega
  with_reducible refine And.intro ?_ ?_
  omega
  with_reducible refine And.intro ?_ ?_
  omega
  with_reducible refine sX3_whoNow (MS.mm (by assumption)) (And.left (by assumption : okN _)) (lt87 (And.right (by assumption : okN _))) (fun _ => ?_)
  simp only [eX3_who_44, kx_l, tl_s]
  with_reducible refine And.intro ?_ ?_
  omega
  with_reducible refine And.intro ?_ ?_
  omega
  with_reducible exact hQ _ _ _ (by assumption)
  with_reducible exact n00x (by assumption)
  simp only [eX3_who_19, eX3_who_22, eX3_who_26, eX3_who_27, if_true, kx_l, wt_nil, tl_s, Nat.add_zero]
  with_reducible refine And.intro ?_ ?_
  with_reducible refine go_S (by assumption) (fun _ _ hY => ?_)
  with_reducible exact trivial
  with_reducible refine And.intro ?_ ?_
  omega
  with_reducible refine And.intro ?_ ?_
  omega
  with_reducible refine And.intro ?_ ?_
  omega
  with_reducible refine fX3_refuse (by assumption) (by decide) (fun _ => ?_) (fun _ w2 h2 => ?_)
  with_reducible exact absurd (by assumption) n10'
  simp only [eX3_who_31, eX3_who_34, eX3_who_38, eX3_who_44, i10, if_false, kx_l, wt_nil, tl_s, Nat.add_zero]
  with_reducible refine And.intro ?_ ?_
  omega
  with_reducible refine And.intro ?_ ?_
  omega
  with_reducible exact hQ _ _ _ (by assumption)
  with_reducible exact n00x (by assumption)
set_option maxHeartbeats 4000000 in
theorem gX3_which {a0 : Int32} (hM : MS g w0 y nM kd th s w) (hQ : ∀ (v th' : Int32) w', MS g w0 y nM kd th' s w' → Q (.inl (some (.int v))) w') : WP (MX3_which g) Q (0, [some (.ref y), some (.int a0)], [], w, 0, 0) := by
  simp only [eX3_which_0, wt_nil, wt_ref, Nat.add_zero]
  with_reducible refine And.intro ?_ ?_
  omega
  with_reducible refine And.intro ?_ ?_
  omega
  with_reducible refine And.intro ?_ ?_
  omega
  with_reducible refine fX3_isIn (fun _ _ => ?_) (fun _ => ?_)
  simp only [eX3_which_7, eX3_which_10, eX3_which_14, eX3_which_15, i10, if_false, kx_l, wt_nil, tl_s, Nat.add_zero]
  with_reducible refine And.intro ?_ ?_
  with_reducible refine go_S (by assumption) (fun _ _ hY => ?_)
  with_reducible exact trivial
  with_reducible refine And.intro ?_ ?_
  omega
  with_reducible refine And.intro ?_ ?_
  omega
  with_reducible refine And.intro ?_ ?_
  omega
  with_reducible refine fX3_start (by assumption) (by decide) (fun _ w1 h1 => ?_) (fun _ w1 h1 => ?_)
  simp only [eX3_which_19, eX3_which_22, eX3_which_26, eX3_which_31, if_true, kx_l, wt_nil, tl_s, Nat.add_zero]
  with_reducible refine And.intro ?_ ?_
  with_reducible refine go_S (by assumption) (fun _ _ hY => ?_)
  with_reducible exact trivial
  with_reducible refine And.intro ?_ ?_
  omega
  with_reducible refine And.intro ?_ ?_
  omega
  with_reducible refine And.intro ?_ ?_
  omega
  with_reducible refine sX3_whichNow_ (MS.mm (by assumption)) (fun _ => ?_)
  simp only [eX3_which_31, kx_l, tl_s]
  with_reducible refine And.intro ?_ ?_
  omega
  with_reducible refine And.intro ?_ ?_
  omega
  with_reducible exact hQ _ _ _ (by assumption)
  with_reducible exact n00x (by assumption)
  simp only [eX3_which_7, eX3_which_10, eX3_which_14, eX3_which_15, if_true, kx_l, wt_nil, tl_s, Nat.add_zero]
  with_reducible refine And.intro ?_ ?_
  with_reducible refine go_S (by assumption) (fun _ _ hY => ?_)
  with_reducible exact trivial
  with_reducible refine And.intro ?_ ?_
  omega
  with_reducible refine And.intro ?_ ?_
  omega
  with_reducible refine And.intro ?_ ?_
  omega
  with_reducible refine fX3_start (by assumption) (by decide) (fun _ w1 h1 => ?_) (fun _ w1 h1 => ?_)
  with_reducible exact absurd (by assumption) n10'
  simp only [eX3_which_19, eX3_which_22, eX3_which_26, eX3_which_31, i10, if_false, kx_l, wt_nil, tl_s, Nat.add_zero]
  with_reducible refine And.intro ?_ ?_
  omega
  with_reducible refine And.intro ?_ ?_
  omega
  with_reducible exact hQ _ _ _ (by assumption)
set_option maxHeartbeats 4000000 in
theorem gX3_likes {a0 : Int32} (hM : MS g w0 y nM kd th s w) (hQ : ∀ (v th' : Int32) w', MS g w0 y nM kd th' s w' → Q (.inl (some (.int v))) w') : WP (MX3_likes g) Q (0, [some (.ref y), some (.int a0)], [], w, 0, 0) := by
  simp only [eX3_likes_0, wt_nil, Nat.add_zero]
  with_reducible refine And.intro ?_ ?_
  with_reducible refine go_S (by assumption) (fun _ _ hY => ?_)
  with_reducible exact trivial
  with_reducible refine And.intro ?_ ?_
  omega
  with_reducible refine And.intro ?_ ?_
  omega
  with_reducible refine And.intro ?_ ?_
  omega
  with_reducible refine fX3_isNone (by assumption) (fun _ w1 h1 => ?_) (fun _ _ w1 h1 => ?_) (fun _ _ _ w1 h1 => ?_)
  simp only [eX3_likes_5, eX3_likes_8, eX3_likes_12, eX3_likes_17, i10, if_false, kx_l, wt_nil, tl_s, Nat.add_zero]
  with_reducible refine And.intro ?_ ?_
  omega
  with_reducible refine And.intro ?_ ?_
  omega
  with_reducible exact hQ _ _ _ (by assumption)
  simp only [eX3_likes_5, eX3_likes_8, eX3_likes_12, eX3_likes_17, i10, if_false, kx_l, wt_nil, tl_s, Nat.add_zero]
  with_reducible refine And.intro ?_ ?_
  omega
  with_reducible refine And.intro ?_ ?_
  omega
  with_reducible exact hQ _ _ _ (by assumption)
  simp only [eX3_likes_5, eX3_likes_8, eX3_likes_12, eX3_likes_17, if_true, kx_l, wt_nil, tl_s, Nat.add_zero]
  with_reducible refine And.intro ?_ ?_
  with_reducible refine go_S (by assumption) (fun _ _ hY => ?_)
  with_reducible exact trivial
  with_reducible refine And.intro ?_ ?_
  omega
  with_reducible refine And.intro ?_ ?_
  omega
  with_reducible refine And.intro ?_ ?_
  omega
  with_reducible refine gX3_likesNow (by assumption) (by assumption) (by assumption) (fun _ => ?_)
  simp only [eX3_likes_17, kx_l, tl_s]
  with_reducible refine And.intro ?_ ?_
  omega
  with_reducible refine And.intro ?_ ?_
  omega
  with_reducible exact hQ _ _ _ (by assumption)
set_option maxHeartbeats 4000000 in
theorem gX3_howOften {a0 : Int32} (hM : MS g w0 y nM kd th s w) (hQ : ∀ (v th' : Int32) w', MS g w0 y nM kd th' s w' → Q (.inl (some (.int v))) w') : WP (MX3_howOften g) Q (0, [some (.ref y), some (.int a0)], [], w, 0, 0) := by
  simp only [eX3_howOften_0, wt_nil, Nat.add_zero]
  with_reducible refine And.intro ?_ ?_
  with_reducible refine go_S (by assumption) (fun _ _ hY => ?_)
  with_reducible exact trivial
  with_reducible refine And.intro ?_ ?_
  omega
  with_reducible refine And.intro ?_ ?_
  omega
  with_reducible refine And.intro ?_ ?_
  omega
  with_reducible refine fX3_isNone (by assumption) (fun _ w1 h1 => ?_) (fun _ _ w1 h1 => ?_) (fun _ _ _ w1 h1 => ?_)
  simp only [eX3_howOften_5, eX3_howOften_8, eX3_howOften_12, eX3_howOften_17, i10, if_false, kx_l, wt_nil, tl_s, Nat.zero_add]
  with_reducible refine And.intro ?_ ?_
  omega
  with_reducible refine And.intro ?_ ?_
  omega
  with_reducible exact hQ _ _ _ (by assumption)
  simp only [eX3_howOften_5, eX3_howOften_8, eX3_howOften_12, eX3_howOften_17, i10, if_false, kx_l, wt_nil, tl_s, Nat.zero_add]
  with_reducible refine And.intro ?_ ?_
  omega
  with_reducible refine And.intro ?_ ?_
  omega
  with_reducible exact hQ _ _ _ (by assumption)
  simp only [eX3_howOften_5, eX3_howOften_8, eX3_howOften_12, eX3_howOften_17, if_true, kx_l, wt_nil, tl_s, Nat.zero_add]
  with_reducible refine And.intro ?_ ?_
  with_reducible refine go_S (by assumption) (fun _ _ hY => ?_)
  with_reducible exact trivial
  with_reducible refine And.intro ?_ ?_
  omega
  with_reducible refine And.intro ?_ ?_
  omega
  with_reducible refine And.intro ?_ ?_
  omega
  with_reducible refine gX3_oftenNow (by assumption) (by assumption) (by assumption) (fun _ w5 h5 => ?_)
  simp only [eX3_howOften_17, kx_l, tl_s]
  with_reducible refine And.intro ?_ ?_
  omega
  with_reducible refine And.intro ?_ ?_
  omega
  with_reducible exact hQ _ _ _ (by assumption)
set_option maxHeartbeats 4000000 in
theorem gX3_pile {a0 a1 : Int32} (hM : MS g w0 y nM kd th s w) (hQ : ∀ (v th' : Int32) w', MS g w0 y nM kd th' s w' → Q (.inl (some (.int v))) w') : WP (MX3_pile g) Q (0, [some (.ref y), some (.int a0), some (.int a1)], [], w, 0, 0) := by
  simp only [eX3_pile_0, eX3_pile_5, wt_nil, wt_ref, Nat.add_zero]
  with_reducible refine And.intro ?_ ?_
  omega
  with_reducible refine And.intro ?_ ?_
  omega
  with_reducible refine And.intro ?_ ?_
  omega
  with_reducible refine fX3_isNoNumber (fun _ => ?_) (fun _ => ?_)
  simp only [eX3_pile_6, kx_l, wt_nil, tl_s, Nat.add_zero]
  with_reducible refine And.intro ?_ ?_
  with_reducible refine go_S (by assumption) (fun _ _ hY => ?_)
  with_reducible exact trivial
  with_reducible refine And.intro ?_ ?_
  omega
  with_reducible refine And.intro ?_ ?_
  omega
  with_reducible refine And.intro ?_ ?_
  omega
  with_reducible refine fX3_start (by assumption) (by decide) (fun _ w1 h1 => ?_) (fun _ w1 h1 => ?_)
  with_reducible exact absurd (by assumption) n10'
  simp only [eX3_pile_9, eX3_pile_12, eX3_pile_34, eX3_pile_44, i10, if_false, kx_l, wt_nil, wt_ref, tl_s, Nat.add_zero]
  with_reducible refine And.intro ?_ ?_
  omega
  with_reducible refine And.intro ?_ ?_
  omega
  with_reducible exact hQ _ _ _ (by assumption)
  simp only [eX3_pile_6, kx_l, wt_nil, tl_s, Nat.add_zero]
  with_reducible refine And.intro ?_ ?_
  with_reducible refine go_S (by assumption) (fun _ _ hY => ?_)
  with_reducible exact trivial
  with_reducible refine And.intro ?_ ?_
  omega
  with_reducible refine And.intro ?_ ?_
  omega
  with_reducible refine And.intro ?_ ?_
  omega
  with_reducible refine fX3_start (by assumption) (by decide) (fun _ w1 h1 => ?_) (fun _ w1 h1 => ?_)
  simp only [eX3_pile_9, eX3_pile_12, eX3_pile_34, eX3_pile_44, if_true, kx_l, wt_nil, wt_ref, tl_s, Nat.add_zero]
  with_reducible refine And.intro ?_ ?_
  omega
  with_reducible refine And.intro ?_ ?_
  omega
  with_reducible refine And.intro ?_ ?_
  omega
  with_reducible refine fX3_isIn (fun _ _ => ?_) (fun _ => ?_)
  simp only [eX3_pile_19, eX3_pile_22, eX3_pile_26, eX3_pile_27, i10, if_false, kx_l, wt_nil, tl_s, Nat.add_zero]
  with_reducible refine And.intro ?_ ?_
  with_reducible refine go_S (by assumption) (fun _ _ hY => ?_)
  with_reducible exact trivial
  with_reducible refine And.intro ?_ ?_
  omega
  with_reducible refine And.intro ?_ ?_
  omega
  with_reducible refine And.intro ?_ ?_
  omega
  with_reducible refine fX3_refuse (by assumption) (by decide) (fun _ => ?_) (fun _ w2 h2 => ?_)
  simp only [eX3_pile_31, eX3_pile_34, eX3_pile_38, eX3_pile_44, if_true, kx_l, wt_nil, tl_s, Nat.zero_add]
  with_reducible refine And.intro ?_ ?_
  with_reducible refine go_S (by assumption) (fun _ _ hY => ?_)
  with_reducible exact trivial
  with_reducible refine And.intro ?_ ?_
  omega
  with_reducible refine And.intro ?_ ?_
  omega
  with_reducible refine And.intro ?_ ?_
  omega
  with_reducible refine sX3_pileNowM (MS.mm (by assumption)) (And.left (by assumption : okN _)) (lt87 (And.right (by assumption : okN _))) (by assumption) (by assumption) (fun _ w5 k5 => ?_)
  simp only [eX3_pile_44, kx_l, tl_s]
  with_reducible refine And.intro ?_ ?_
  omega
  with_reducible refine And.intro ?_ ?_
  omega
  with_reducible exact hQ _ _ _ (MS.ext (by assumption) (by assumption))
  with_reducible exact n00x (by assumption)
  simp only [eX3_pile_19, eX3_pile_22, eX3_pile_26, eX3_pile_27, if_true, kx_l, wt_nil, tl_s, Nat.add_zero]
  with_reducible refine And.intro ?_ ?_
  with_reducible refine go_S (by assumption) (fun _ _ hY => ?_)
  with_reducible exact trivial
  with_reducible refine And.intro ?_ ?_
  omega
  with_reducible refine And.intro ?_ ?_
  omega
  with_reducible refine And.intro ?_ ?_
  omega
  with_reducible refine fX3_refuse (by assumption) (by decide) (fun _ => ?_) (fun _ w2 h2 => ?_)
  with_reducible exact absurd (by assumption) n10'
  simp only [eX3_pile_31, eX3_pile_34, eX3_pile_38, eX3_pile_44, i10, if_false, kx_l, wt_nil, tl_s, Nat.zero_add]
  with_reducible refine And.intro ?_ ?_
  omega
  with_reducible refine And.intro ?_ ?_
  omega
  with_reducible exact hQ _ _ _ (by assumption)
  with_reducible exact n00x (by assumption)
set_option maxHeartbeats 4000000 in
theorem gX3_house {a0 : Int32} (hM : MS g w0 y nM kd th s w) (hQ : ∀ (v th' : Int32) w', MS g w0 y nM kd th' s w' → Q (.inl (some (.int v))) w') : WP (MX3_house g) Q (0, [some (.ref y), some (.int a0)], [], w, 0, 0) := by
  repeat' first
    | with_reducible assumption
    | with_reducible refine And.intro ?_ ?_
    | with_reducible exact vpi6 (by assumption) (by assumption)
    | with_reducible exact vpi8 (by assumption) (by assumption)
    | with_reducible exact trivial
    | with_reducible exact absurd (by assumption) n10'
    | with_reducible exact n00x (by assumption)
    | with_reducible refine fX3_isNone (by assumption) (fun _ w1 h1 => ?_) (fun _ _ w1 h1 => ?_) (fun _ _ _ w1 h1 => ?_)
    | with_reducible refine fX3_isNoEnd_ (by assumption) (fun _ w1 h1 => ?_) (fun _ _ w1 h1 => ?_) (fun _ _ _ w1 h1 => ?_) (fun _ _ _ _ w1 h1 => ?_)
    | with_reducible refine sX3_whichNow (rowA.row (by assumption)) (fun _ => ?_)
    | with_reducible refine sX3_aroundNow (rowA.row (by assumption)) (And.left (by assumption : okW _ 3)) (And.right (by assumption : okW _ 3)) (fun _ => ?_)
    | with_reducible refine sX3_whoNow (MS.mm (by assumption)) (And.left (by assumption : okN _)) (lt87 (And.right (by assumption : okN _))) (fun _ => ?_)
    | with_reducible refine sX3_whichNow_ (MS.mm (by assumption)) (fun _ => ?_)
    | with_reducible refine gX3_likesNow (by assumption) (by assumption) (by assumption) (fun _ => ?_)
    | with_reducible refine gX3_oftenNow (by assumption) (by assumption) (by assumption) (fun _ w5 h5 => ?_)
    | with_reducible refine sX3_pileNowM (MS.mm (by assumption)) (And.left (by assumption : okN _)) (lt87 (And.right (by assumption : okN _))) (by assumption) (by assumption) (fun _ w5 k5 => ?_)
    | with_reducible refine sX3_houseNow (MS.mm (by assumption)) (by assumption) (by assumption) (fun _ w5 k5 => ?_)
    | with_reducible exact hQ _ _ _ (MS.ext (by assumption) (by assumption))
    | with_reducible refine sX3_fixed (rowA.row (by assumption)) ?_ ?_
    | with_reducible refine gX3_count_56 (by assumption) (by assumption) (by assumption) (by assumption) (fun _ => ?_) (by first | assumption | omega) (by first | assumption | omega)
    | with_reducible exact hQ _ _ _ (by assumption)
    | with_reducible refine fX3_isNoNumber (fun _ => ?_) (fun _ => ?_)
    | with_reducible refine fX3_isNoCard (fun _ => ?_) (fun _ => ?_)
    | with_reducible refine fX3_isNoEnd (fun _ => ?_) (fun _ => ?_)
    | with_reducible refine fX3_isIn (fun _ _ => ?_) (fun _ => ?_)
    | with_reducible refine fX3_start (by assumption) (by decide) (fun _ w1 h1 => ?_) (fun _ w1 h1 => ?_)
    | with_reducible refine fX3_refuse (by assumption) (by decide) (fun _ => ?_) (fun _ w2 h2 => ?_)
    | with_reducible refine go_S (by assumption) (fun _ _ hY => ?_)
    | with_reducible refine fX3_isBare (by assumption) (by assumption) (fun _ => ?_) (fun _ _ => ?_)
    | with_reducible exact MS.gC (by assumption) (by assumption)
    | with_reducible exact MS.gP (by assumption) (by assumption)
    | (simp only [rv0, rv1, rv2, rv3])
    | with_reducible refine sGetK (by assumption) (by assumption) (by assumption) (by assumption) (fun _ hb => ?_)
    | with_reducible exact rowA.ca (by assumption)
    | with_reducible refine gl_A (by assumption) ?_
    | with_reducible exact vpi4.1
    | with_reducible exact vpi4.2.1
    | with_reducible exact vpi4.2.2.1
    | with_reducible exact vpi4.2.2.2
    | simp only [eX3_house_0, eX3_house_0N, eX3_house_1, eX3_house_7, eX3_house_10, eX3_house_14, eX3_house_15, eX3_house_19, eX3_house_22, eX3_house_26, eX3_house_26N, eX3_house_27, eX3_house_31, lgp, lgn, lgz, i10, i00, if_true, if_false, eq_self, not_true, not_false_eq_true, m10, n4e, upw2q, rv0, rv1, rv2, rv3, lmi, lmx, ite_le, n45, n54, true_or, or_true, false_or, or_false, false_and, and_false, kx_l, kx_r, go_s, gl_s, gi_s, gb_s2, gb_s3, gq_s, wt_nil, wt_int, wt_long, wt_ref, wt_null, nl_int, nl_long, nl_ref, nl_null, nl_none, rf_n, rf_s, rf_st, tl_s, tl_n, g0, gS, ex1, nb_b, nb_0, nb_1, nf_i, nf_l, nf_ra, nf_ro, nf_na, nf_no, nf_b0, nf_z0, t45_4, t45_5, true_and, and_true, List.set_cons_zero, List.set_cons_succ, List.length_cons, List.length_nil, rd_s, upw_s, ne_eq, not_false_eq_true, Nat.zero_add, Nat.add_zero]
    | with_reducible refine itx (fun _ => ?_) (fun _ => ?_)
    | split
    | with_reducible intro _
    | omega
set_option maxHeartbeats 8000000 in
theorem gX3_numberText {a : Int32} (hM : MS g w0 y nM kd th s w) (hS : SG g) (hD : DG g w0) (hT : TXT g w0) (hQ : ∀ (q : Nat) (th' : Int32) w', MS g w0 y nM kd th' s w' → Q (.inl (some (.ref q))) w') : WP (MX3_numberText g) Q (0, [some (.ref y), some (.int a)], [], w, 0, 0) := by
  obtain ⟨⟨s1, t1, o1, b1⟩, ⟨s2, t2⟩, s3, t3, o3, b3⟩ := hT
  have z0 : (0 : Int32).toInt = 0 := rfl
  simp only [eX3_numberText_0, eX3_numberText_5, wt_nil, wt_ref, Nat.add_zero]
  with_reducible refine And.intro ?_ ?_
  omega
  with_reducible refine And.intro ?_ ?_
  omega
  with_reducible refine And.intro ?_ ?_
  omega
  with_reducible refine fX3_isNoNumber (fun _ => ?_) (fun _ => ?_)
  simp only [eX3_numberText_6, kx_l, wt_nil, tl_s, Nat.add_zero]
  with_reducible refine And.intro ?_ ?_
  with_reducible refine go_S (by assumption) (fun _ _ hY => ?_)
  with_reducible exact trivial
  with_reducible refine And.intro ?_ ?_
  omega
  with_reducible refine And.intro ?_ ?_
  omega
  with_reducible refine And.intro ?_ ?_
  omega
  with_reducible refine fX3_start (by assumption) (by decide) (fun _ w1 h1 => ?_) (fun _ w1 h1 => ?_)
  with_reducible exact absurd (by assumption) n10'
  simp only [eX3_numberText_9, eX3_numberText_12, eX3_numberText_17, eX3_numberText_20R, eX3_numberText_24, eX3_numberText_41, kx_l, wt_nil, wt_ref, tl_s, Nat.zero_add, Nat.add_zero, if_false, m10, t1]
  with_reducible refine And.intro ?_ ?_
  omega
  with_reducible refine And.intro ?_ ?_
  omega
  with_reducible exact hQ _ _ _ (by assumption)
  simp only [eX3_numberText_6, kx_l, wt_nil, tl_s, Nat.add_zero]
  with_reducible refine And.intro ?_ ?_
  with_reducible refine go_S (by assumption) (fun _ _ hY => ?_)
  with_reducible exact trivial
  with_reducible refine And.intro ?_ ?_
  omega
  with_reducible refine And.intro ?_ ?_
  omega
  with_reducible refine And.intro ?_ ?_
  omega
  with_reducible refine fX3_start (by assumption) (by decide) (fun _ w1 h1 => ?_) (fun _ w1 h1 => ?_)
  simp only [eX3_numberText_9, eX3_numberText_12, eX3_numberText_17, eX3_numberText_20R, eX3_numberText_24, eX3_numberText_41, kx_l, wt_nil, wt_ref, tl_s, Nat.zero_add, Nat.add_zero, if_true, t1]
  with_reducible refine And.intro ?_ ?_
  omega
  with_reducible refine And.intro ?_ ?_
  omega
  with_reducible intro _
  with_reducible intro _
  with_reducible refine And.intro ?_ ?_
  omega
  with_reducible refine And.intro ?_ ?_
  omega
  with_reducible refine And.intro ?_ ?_
  omega
  with_reducible refine sJ4_init_da8c8 hS (ext_up2 ext.rf (by assumption)) (upw_s _ _ _) (rd_none (by assumption)) (rd_ro (by assumption)) (fun _ _ _ => ?_)
  simp only [eX3_numberText_26R, eX3_numberText_29, eX3_numberText_33, kx_l, wt_nil, tl_n]
  with_reducible refine And.intro ?_ ?_
  with_reducible exact TS.g1 (by assumption)
  with_reducible refine And.intro ?_ ?_
  omega
  with_reducible refine And.intro ?_ ?_
  omega
  with_reducible refine And.intro ?_ ?_
  omega
  with_reducible refine sJ4_append_15ec4 hS (by assumption) (by first | assumption | decide) (by omega) (STO.fm (by assumption) (MS.mm (by assumption))) (by assumption) (fun _ _ _ _ _ _ _ _ => ?_)
  simp only [kx_l, tl_s]
  with_reducible refine go_S (MS.ts (by assumption) (by assumption)) (fun _ _ hY => ?_)
  simp only [eX3_numberText_34, eX3_numberText_35, wt_nil, g0, gS, ex1]
  with_reducible refine gl_S (MS.ts (by assumption) (by assumption)) ?_
  with_reducible refine And.intro ?_ ?_
  with_reducible exact vpi8k (by assumption)
  with_reducible refine And.intro ?_ ?_
  with_reducible exact TS.g1 (by assumption)
  with_reducible refine And.intro ?_ ?_
  omega
  with_reducible refine And.intro ?_ ?_
  omega
  with_reducible refine And.intro ?_ ?_
  omega
  with_reducible refine sJ4_append_f7089 hS (by assumption) (by first | assumption | decide) (by omega) (DG.fm hD (MS.mm (by assumption))) (fun _ _ _ _ _ _ _ _ => ?_)
  simp only [eX3_numberText_38, kx_l, wt_nil, tl_s]
  with_reducible refine And.intro ?_ ?_
  with_reducible exact TS.g1 (by assumption)
  with_reducible refine And.intro ?_ ?_
  omega
  with_reducible refine And.intro ?_ ?_
  omega
  with_reducible refine And.intro ?_ ?_
  omega
  with_reducible refine sJ4_toString_0e30d hS (by assumption) (by first | decide | omega) (by omega) (fun _ _ _ => ?_)
  simp only [eX3_numberText_41, kx_l, tl_s]
  with_reducible refine And.intro ?_ ?_
  omega
  with_reducible refine And.intro ?_ ?_
  omega
  with_reducible exact hQ _ _ _ (msEx2 (by assumption) (by assumption))
  with_reducible exact n00x (by assumption)
set_option maxHeartbeats 8000000 in
theorem gX3_cardText {a : Int32} (hM : MS g w0 y nM kd th s w) (hS : SG g) (hD : DG g w0) (hT : TXT g w0) (hQ : ∀ (q : Nat) (th' : Int32) w', MS g w0 y nM kd th' s w' → Q (.inl (some (.ref q))) w') : WP (MX3_cardText g) Q (0, [some (.ref y), some (.int a), none], [], w, 0, 0) := by
  obtain ⟨⟨s1, t1, o1, b1⟩, ⟨s2, t2⟩, s3, t3, o3, b3⟩ := hT
  have z0 : (0 : Int32).toInt = 0 := rfl
  simp only [eX3_cardText_0, eX3_cardText_5, wt_nil, wt_ref, Nat.add_zero]
  with_reducible refine And.intro ?_ ?_
  omega
  with_reducible refine And.intro ?_ ?_
  omega
  with_reducible refine And.intro ?_ ?_
  omega
  with_reducible refine fX3_isNoCard (fun _ => ?_) (fun _ => ?_)
  simp only [eX3_cardText_6, kx_l, wt_nil, tl_s, Nat.add_zero]
  with_reducible refine And.intro ?_ ?_
  with_reducible refine go_S (by assumption) (fun _ _ hY => ?_)
  with_reducible exact trivial
  with_reducible refine And.intro ?_ ?_
  omega
  with_reducible refine And.intro ?_ ?_
  omega
  with_reducible refine And.intro ?_ ?_
  omega
  with_reducible refine fX3_start (by assumption) (by decide) (fun _ w1 h1 => ?_) (fun _ w1 h1 => ?_)
  with_reducible exact absurd (by assumption) n10'
  simp only [eX3_cardText_9, eX3_cardText_12, eX3_cardText_14, eX3_cardText_15, kx_l, wt_nil, tl_s, Nat.add_zero, if_false, m10, t1]
  with_reducible refine And.intro ?_ ?_
  omega
  with_reducible refine And.intro ?_ ?_
  omega
  with_reducible exact hQ _ _ _ (by assumption)
  simp only [eX3_cardText_6, kx_l, wt_nil, tl_s, Nat.add_zero]
  with_reducible refine And.intro ?_ ?_
  with_reducible refine go_S (by assumption) (fun _ _ hY => ?_)
  with_reducible exact trivial
  with_reducible refine And.intro ?_ ?_
  omega
  with_reducible refine And.intro ?_ ?_
  omega
  with_reducible refine And.intro ?_ ?_
  omega
  with_reducible refine fX3_start (by assumption) (by decide) (fun _ w1 h1 => ?_) (fun _ w1 h1 => ?_)
  simp only [eX3_cardText_9, eX3_cardText_12, eX3_cardText_14, eX3_cardText_15, kx_l, wt_nil, tl_s, Nat.add_zero, if_true, t1]
  with_reducible refine And.intro ?_ ?_
  with_reducible refine go_S (by assumption) (fun _ _ hY => ?_)
  with_reducible exact trivial
  with_reducible refine And.intro ?_ ?_
  omega
  with_reducible refine And.intro ?_ ?_
  omega
  with_reducible refine And.intro ?_ ?_
  omega
  with_reducible refine fX3_isBare (by assumption) (by assumption) (fun _ => ?_) (fun _ _ => ?_)
  simp only [eX3_cardText_20, eX3_cardText_23, eX3_cardText_25, eX3_cardText_26, eX3_cardText_30, kx_l, tl_s, if_false, m10, t2]
  with_reducible refine And.intro ?_ ?_
  omega
  with_reducible refine And.intro ?_ ?_
  omega
  with_reducible exact hQ _ _ _ (by assumption)
  simp only [eX3_cardText_20, eX3_cardText_23, eX3_cardText_25, eX3_cardText_26, eX3_cardText_30, kx_l, tl_s, if_true, t2]
  with_reducible refine go_S (by assumption) (fun _ _ hY => ?_)
  simp only [eX3_cardText_31, wt_nil, g0, gS, ex1, Nat.add_zero]
  with_reducible refine And.intro ?_ ?_
  with_reducible exact MS.gC (by assumption) (by assumption)
  with_reducible refine And.intro ?_ ?_
  omega
  with_reducible refine And.intro ?_ ?_
  omega
  with_reducible refine And.intro ?_ ?_
  omega
  with_reducible refine sGetK (by assumption) (by assumption) (by assumption) (by assumption) (fun _ hb => ?_)
  simp only [eX3_cardText_34R, eX3_cardText_37, eX3_cardText_41R, eX3_cardText_45, kx_l, wt_nil, wt_ref, nl_int, tl_s, Nat.zero_add, Nat.add_zero]
  with_reducible refine And.intro ?_ ?_
  with_reducible exact rowA.ca (by assumption)
  with_reducible refine And.intro ?_ ?_
  omega
  with_reducible refine And.intro ?_ ?_
  omega
  with_reducible intro _
  with_reducible intro _
  with_reducible refine And.intro ?_ ?_
  omega
  with_reducible refine And.intro ?_ ?_
  omega
  with_reducible refine And.intro ?_ ?_
  omega
  with_reducible refine sJ4_init_da8c8 hS (ext_up2 ext.rf (by assumption)) (upw_s _ _ _) (rd_none (by assumption)) (rd_ro (by assumption)) (fun _ _ _ => ?_)
  simp only [eX3_cardText_48, eX3_cardText_51, kx_l, wt_nil, tl_n, t3]
  with_reducible refine gl_A (rowA.ts (by assumption) (by assumption)) ?_
  with_reducible refine And.intro ?_ ?_
  with_reducible exact vpi4.1
  with_reducible refine And.intro ?_ ?_
  with_reducible exact TS.g1 (by assumption)
  with_reducible refine And.intro ?_ ?_
  omega
  with_reducible refine And.intro ?_ ?_
  omega
  with_reducible refine And.intro ?_ ?_
  omega
  with_reducible refine sJ4_append_f7089 hS (by assumption) (by first | assumption | decide) (by omega) (DG.fm hD (MS.mm (by assumption))) (fun _ _ _ _ _ _ _ _ => ?_)
  simp only [eX3_cardText_53R, eX3_cardText_56, kx_l, wt_nil, tl_s]
  with_reducible refine And.intro ?_ ?_
  with_reducible exact TS.g1 (by assumption)
  with_reducible refine And.intro ?_ ?_
  omega
  with_reducible refine And.intro ?_ ?_
  omega
  with_reducible refine And.intro ?_ ?_
  omega
  with_reducible refine sJ4_append_15ec4 hS (by assumption) (by first | assumption | decide) (by omega) (STO.fm (by assumption) (MS.mm (by assumption))) (by assumption) (fun _ _ _ _ _ _ _ _ => ?_)
  simp only [eX3_cardText_59, eX3_cardText_62, kx_l, wt_nil, tl_s, t3]
  with_reducible refine gl_A (rowA.ts (by assumption) (by assumption)) ?_
  with_reducible refine And.intro ?_ ?_
  with_reducible exact vpi4.2.1
  with_reducible refine And.intro ?_ ?_
  with_reducible exact TS.g1 (by assumption)
  with_reducible refine And.intro ?_ ?_
  omega
  with_reducible refine And.intro ?_ ?_
  omega
  with_reducible refine And.intro ?_ ?_
  omega
  with_reducible refine sJ4_append_f7089 hS (by assumption) (by first | assumption | decide) (by omega) (DG.fm hD (MS.mm (by assumption))) (fun _ _ _ _ _ _ _ _ => ?_)
  simp only [eX3_cardText_64R, eX3_cardText_67, kx_l, wt_nil, tl_s]
  with_reducible refine And.intro ?_ ?_
  with_reducible exact TS.g1 (by assumption)
  with_reducible refine And.intro ?_ ?_
  omega
  with_reducible refine And.intro ?_ ?_
  omega
  with_reducible refine And.intro ?_ ?_
  omega
  with_reducible refine sJ4_append_15ec4 hS (by assumption) (by first | assumption | decide) (by omega) (STO.fm (by assumption) (MS.mm (by assumption))) (by assumption) (fun _ _ _ _ _ _ _ _ => ?_)
  simp only [eX3_cardText_70, eX3_cardText_73, kx_l, wt_nil, tl_s, t3]
  with_reducible refine gl_A (rowA.ts (by assumption) (by assumption)) ?_
  with_reducible refine And.intro ?_ ?_
  with_reducible exact vpi4.2.2.1
  with_reducible refine And.intro ?_ ?_
  with_reducible exact TS.g1 (by assumption)
  with_reducible refine And.intro ?_ ?_
  omega
  with_reducible refine And.intro ?_ ?_
  omega
  with_reducible refine And.intro ?_ ?_
  omega
  with_reducible refine sJ4_append_f7089 hS (by assumption) (by first | assumption | decide) (by omega) (DG.fm hD (MS.mm (by assumption))) (fun _ _ _ _ _ _ _ _ => ?_)
  simp only [eX3_cardText_75R, eX3_cardText_78, kx_l, wt_nil, tl_s]
  with_reducible refine And.intro ?_ ?_
  with_reducible exact TS.g1 (by assumption)
  with_reducible refine And.intro ?_ ?_
  omega
  with_reducible refine And.intro ?_ ?_
  omega
  with_reducible refine And.intro ?_ ?_
  omega
  with_reducible refine sJ4_append_15ec4 hS (by assumption) (by first | assumption | decide) (by omega) (STO.fm (by assumption) (MS.mm (by assumption))) (by assumption) (fun _ _ _ _ _ _ _ _ => ?_)
  simp only [eX3_cardText_81, kx_l, wt_nil, tl_s]
  with_reducible refine gl_A (rowA.ts (by assumption) (by assumption)) ?_
  with_reducible refine And.intro ?_ ?_
  with_reducible exact vpi4.2.2.2
  with_reducible refine And.intro ?_ ?_
  with_reducible exact TS.g1 (by assumption)
  with_reducible refine And.intro ?_ ?_
  omega
  with_reducible refine And.intro ?_ ?_
  omega
  with_reducible refine And.intro ?_ ?_
  omega
  with_reducible refine sJ4_append_f7089 hS (by assumption) (by first | assumption | decide) (by omega) (DG.fm hD (MS.mm (by assumption))) (fun _ _ _ _ _ _ _ _ => ?_)
  simp only [eX3_cardText_84, kx_l, wt_nil, tl_s]
  with_reducible refine And.intro ?_ ?_
  with_reducible exact TS.g1 (by assumption)
  with_reducible refine And.intro ?_ ?_
  omega
  with_reducible refine And.intro ?_ ?_
  omega
  with_reducible refine And.intro ?_ ?_
  omega
  with_reducible refine sJ4_toString_0e30d hS (by assumption) (by first | decide | omega) (by omega) (fun _ _ _ => ?_)
  simp only [eX3_cardText_87, kx_l, tl_s]
  with_reducible refine And.intro ?_ ?_
  omega
  with_reducible refine And.intro ?_ ?_
  omega
  with_reducible exact hQ _ _ _ (msEx2 (by assumption) (by assumption))
  with_reducible exact n00x (by assumption)
end
end
