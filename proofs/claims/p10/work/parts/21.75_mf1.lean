section
section
variable {g : RO} {Q : Ot → Hw → Prop} {w0 w : Hw} {y nM : Nat} {kd th : Int32} {s : AS}
theorem MS.n0 (h : MS g w0 y nM kd th s w) : 0 ≤ s.2.2.1.toInt ∧ s.2.2.1.toInt ≤ 12 := by
  obtain ⟨cL, pL, D1, D2, c1, c2, h1, h2, a1, a2, a3, a4, a5, a6, a7, -⟩ := h.1
  exact ⟨a5.2.2.1, a7⟩
theorem MS.nn (h : MS g w0 y nM kd th s w) : s.2.2.1.toInt = ((s.2.2.1.toInt.toNat : Nat) : Int) ∧ s.2.2.1.toInt.toNat ≤ 12 := by
  have k := h.n0
  omega
theorem sSizeF {cL pL : Nat} (hM : MS g w0 y nM kd th s w) (hY : isY w y nM cL pL) (hQ : Q (.inl (some (.int s.2.2.1))) w) : WP (MJx4a65c_size_8abf5 g) Q (0, [some (.ref pL)], [], w, 0, 0) := by
  obtain ⟨D1, D2, c1, c2, h1, h2, a1, a2, a3, a4, a5, -⟩ := hM.1.yS hY
  exact sJx4a65c_size a5 hQ
theorem sGetPF {cL pL : Nat} {i : Int32} (hM : MS g w0 y nM kd th s w) (hY : isY w y nM cL pL) (k : okP s.2.2.1 i) (hQ : ∀ b, rowA w b (s.2.2.2.1 i.toNatClampNeg) → Q (.inl (some (.ref b))) w) : WP (MJx4a65c_get_915e3 g) Q (0, [some (.ref pL), some (.int i)], [], w, 0, 0) := by
  obtain ⟨D1, D2, c1, c2, h1, h2, a1, a2, a3, a4, a5, a6, a7, a8, a9, b1, b2, hD, hc⟩ := hM.1.yS hY
  obtain ⟨b, hb, hr⟩ := b2 i.toNatClampNeg (plB k)
  refine sJx4a65c_get a5 (i32_0 k.1) (i32_lt k.2) (fun e => ?_) (fun b' e => ?_)
  · rw [hb] at e
    cases e
  · rw [hb] at e
    cases e
    exact hQ b hr
/-- the pile's list another -/
theorem MS.lpo {cL pL D1 D2 c1 c2 : Nat} {n' : Int32} {h1 h2 : Nat → Option Nat} {w' : Hw} {F : Nat → R4} {H : (Nat → Option Nat) → Prop} (h : MS g w0 y nM kd th s w) (a1 : w y = some (.inr (7, [.int th, .ref nM, .ref cL, .ref pL, .int s.2.2.2.2.1, .int kd, .int s.2.2.2.2.2]))) (a2 : w nM = some (.inl (0, 8, .inr (.inl s.1)))) (a3 : LL g w cL D1 c1 6 h1) (a4 : ∀ i b, h1 i = some b → isRow w b) (a5 : LL g w pL D2 c2 s.2.2.1 h2) (a8 : cL ≠ pL) (a9 : D1 ≠ D2) (b1 : ∀ i, i < 6 → cR w (h1 i) (s.2.1 i)) (hD : w D1 = some (.inl (5, c1, qc h1))) (hl : LPo g w w' pL D2 n' H) (hn : n'.toInt ≤ 12) (hH : ∀ h', H h' → ∀ i : Nat, (i : Int) < n'.toInt → ∃ b, h' i = some b ∧ rowA w b (F i)) : MS g w0 y nM kd th (sP_ s n' F) w' := by
  obtain ⟨D', c', h', l1, l2, f1, f2, fD, hh⟩ := hl
  have hL := a5.1
  obtain ⟨mcp, hL⟩ := hL
  have nD : ∀ {a : Nat} {o : Ob}, w a = some o → (∀ z, o ≠ .inl (5, z)) → a ≠ D2 := fun ha ho e => by
    rcases a5.2.1 with ⟨k, -⟩ | ⟨-, -, k, -⟩
    · rw [e, k] at ha
      cases ha
      exact ho _ rfl
    · rw [e, k] at ha
      cases ha
  have mv : ∀ {a : Nat} {o : Ob}, w a = some o → (∀ z, o ≠ .inl (5, z)) → (∀ fs, o ≠ .inr (3, fs)) → w' a = some o := fun ha h5 h3 => f1 _ _ ha (ne_of ha hL (h3 _)) (nD ha h5)
  have rw1 : ∀ b, isRow w b → isRow w' b := fun b ⟨f0, hb⟩ => ⟨f0, mv hb (fun _ e => by cases e) (fun _ e => by cases e)⟩
  have rw2 : ∀ b r, rowA w b r → rowA w' b r := fun b r hb => mv hb (fun _ e => by cases e) (fun _ e => by cases e)
  refine ⟨⟨cL, pL, D1, D', c1, c', h1, h', mv a1 (fun _ e => by cases e) (fun _ e => by cases e), mv a2 (fun _ e => by cases e) (fun _ e => by cases e), ?_, fun i b z => rw1 b (a4 i b z), l1, l2, hn, a8, ?_, fun i hi => (b1 i hi).mp rw2, fun i hi => (hH h' hh i hi).imp fun _ z => ⟨z.1, rw2 _ _ z.2⟩⟩, h.2.tr ⟨fun a o e1 e2 e3 => ?_, f2⟩⟩
  · refine a3.kp (fun fs e => f1 _ _ e a8 (nD e (fun _ e => by cases e))) (fun z e => f1 _ _ e (ne_of e hL (fun e => by cases e)) a9) (fun o e1 e2 => f2 _ _ e1 e2)
  · rcases fD with rfl | ⟨fD, -⟩
    · exact a9
    · intro e
      rw [e, fD] at hD
      cases hD
  · refine mv e1 (fun z e => ?_) (fun fs e => ?_)
    · subst e
      cases e3
    · subst e
      cases e3
theorem va_up4 {f : Nat → R4} {k : Nat} {r : R4} : va_up f k r k = r := by
  unfold va_up
  rw [if_pos rfl]
theorem va_up4o {f : Nat → R4} {k j : Nat} {r : R4} (e : j ≠ k) : va_up f k r j = f j := by
  unfold va_up
  rw [if_neg e]
theorem sAddF {cL pL b : Nat} {r : R4} (hM : MS g w0 y nM kd th s w) (hY : isY w y nM cL pL) (hE : EG g w0) (hS : SG g) (hb : rowA w b r) (hn : s.2.2.1 < 12) (hQ : ∀ w', MS g w0 y nM kd th (sP_ s (s.2.2.1 + 1) (va_up s.2.2.2.1 s.2.2.1.toNatClampNeg r)) w' → Q (.inl (some (.int 1))) w') : WP (MJx4a65c_add_9ea2d g) Q (0, [some (.ref pL), some (.ref b)], [], w, 0, 0) := by
  obtain ⟨D1, D2, c1, c2, h1, h2, a1, a2, a3, a4, a5, a6, a7, a8, a9, b1, b2, hD, hc⟩ := hM.1.yS hY
  have hlt := i32_lt hn
  have e12 : (12 : Int32).toInt = 12 := rfl
  have n0 := a5.2.2.1
  have e1 := i32p1 (c := s.2.2.1) n0 (by omega)
  refine sJx4a65c_add_9ea2dR hb.row (hM.mm.eg hE) hS a5 a6 (by omega) (fun w' hl => hQ _ (hM.lpo a1 a2 a3 a4 a5 a8 a9 b1 hD hl (by omega) (fun h' hh i hi => ?_)))
  have t : s.2.2.1.toNatClampNeg = s.2.2.1.toInt.toNat := rfl
  rcases Nat.lt_or_ge i s.2.2.1.toNatClampNeg with q | q
  · rw [hh.1 i q, va_up4o (by omega)]
    exact b2 i (by omega)
  · have : i = s.2.2.1.toNatClampNeg := by omega
    subst this
    rw [va_up4]
    exact ⟨b, hh.2, hb⟩
theorem sRemF {cL pL p : Nat} (hM : MS g w0 y nM kd th s w) (hY : isY w y nM cL pL) (hp : p < s.2.2.1.toInt.toNat) (hQ : ∀ b w', MS g w0 y nM kd th (sP_ s (s.2.2.1 - 1) (rmv s.2.2.2.1 p)) w' → Q (.inl (some (.ref b))) w') : WP (MJx4a65c_remove_915e3 g) Q (0, [some (.ref pL), some (.int (Int32.ofNat p)), none, none], [], w, 0, 0) := by
  have nn := hM.n0
  obtain ⟨D1, D2, c1, c2, h1, h2, a1, a2, a3, a4, a5, a6, a7, a8, a9, b1, b2, hD, hc⟩ := hM.1.yS hY
  have z1' : (1 : Int32).toInt = 1 := rfl
  have ep : (Int32.ofNat p).toInt = (p : Int) := oNt (by omega)
  have ec : (Int32.ofNat p).toNatClampNeg = p := oNc (by omega)
  have e1 : (s.2.2.1 - 1).toInt = s.2.2.1.toInt - 1 := by rw [i32_sub (by omega) (by omega), z1']
  have t : s.2.2.1.toNatClampNeg = s.2.2.1.toInt.toNat := rfl
  have hX : ∀ w', LPo g w w' pL D2 (s.2.2.1 - 1) (HRm h2 s.2.2.1.toNatClampNeg (Int32.ofNat p).toNatClampNeg) → MS g w0 y nM kd th (sP_ s (s.2.2.1 - 1) (rmv s.2.2.2.1 p)) w' := fun w' hl => hM.lpo a1 a2 a3 a4 a5 a8 a9 b1 hD hl (by omega) (fun h' hh i hi => by
    rw [ec] at hh
    unfold rmv
    rcases Nat.lt_or_ge i p with q | q
    · rw [hh.1 i q, if_pos q]
      exact b2 i (by omega)
    · rw [hh.2 i q (by omega), if_neg (by omega)]
      exact b2 (i + 1) (by omega))
  refine sJx4a65c_remove_915e3 a5 a6 (by omega) (by omega) (fun e => ?_) (fun b _ w' hl => hQ b w' (hX w' hl))
  rw [ec] at e
  obtain ⟨b, hb, -⟩ := b2 p (by omega)
  rw [hb] at e
  cases e
theorem rowA_cg {b : Nat} {r r' : R4} (h : rowA w b r) (e : r = r') : rowA w b r' := by
  rw [← e]
  exact h
theorem MS.pcg {n : Int32} {F G : Nat → R4} (h : MS g w0 y nM kd th (sP_ s n F) w) (e : ∀ i : Nat, (i : Int) < n.toInt → F i = G i) : MS g w0 y nM kd th (sP_ s n G) w := by
  obtain ⟨⟨cL, pL, D1, D2, c1, c2, h1, h2, a1, a2, a3, a4, a5, a6, a7, a8, a9, b1, b2⟩, hf⟩ := h
  exact ⟨⟨cL, pL, D1, D2, c1, c2, h1, h2, a1, a2, a3, a4, a5, a6, a7, a8, a9, b1, fun i hi => (b2 i hi).imp fun _ z => ⟨z.1, rowA_cg z.2 (e i hi)⟩⟩, hf⟩
end
end
