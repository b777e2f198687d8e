section
section
variable {g : RO} {Q : Ot → Hw → Prop} {w0 w : Hw}
variable {y nM : Nat} {kd : Int32}
theorem vpi4 : vp_in 0 4 ∧ vp_in 1 4 ∧ vp_in 2 4 ∧ vp_in 3 4 := ⟨vpiM (by decide) (by decide), vpiM (by decide) (by decide), vpiM (by decide) (by decide), vpiM (by decide) (by decide)⟩
theorem MM.ext' {w' : Hw} (h : MM g w0 y nM kd w) (k : ext g w w') : MM g w0 y nM kd w' := by
  obtain ⟨cL, pL, D1, D2, c1, c2, th, rf, md, n, f, h1, h2, a1, a2, a3, a4, a5, a6, a7⟩ := h.1
  have ll : ∀ {L D cap : Nat} {n : Int32} {h : Nat → Option Nat}, LL g w L D cap n h → LL g w' L D cap n h := fun hl => hl.kp (fun fs e => k.1 _ _ e) (fun z e => k.1 _ _ e) (fun o e1 e2 => k.2 _ o e1 e2)
  exact ⟨⟨cL, pL, D1, D2, c1, c2, th, rf, md, n, f, h1, h2, k.1 _ _ a1, k.1 _ _ a2, ll a3, fun i b z => (a4 i b z).ext k, ll a5, fun i b z => (a6 i b z).ext k, a7⟩, h.2.ext k⟩
theorem MM.fr {q : Nat} {o : Ob} (h : MM g w0 y nM kd w) (hq : rd g w q = none) : MM g w0 y nM kd (upw w q o) := h.ext' (ext_up2 ext.rf hq)
set_option maxHeartbeats 4000000 in
theorem sX3_fixed {p : Nat} (hp : isRow w p) (h1 : Q (.inl (some (.int 1))) w) (h0 : Q (.inl (some (.int 0))) w) : WP (MX3_fixed g) Q (0, [some (.ref p)], [], w, 0, 0) := by
  simp only [eX3_fixed_0, eX3_fixed_3, eX3_fixed_6, eX3_fixed_10, eX3_fixed_13, eX3_fixed_16, eX3_fixed_20, eX3_fixed_24, eX3_fixed_25, nb_0, nb_1, true_and]
  with_reducible refine gl_Row (by assumption) (fun _ => ?_)
  with_reducible refine And.intro ?_ ?_
  with_reducible exact vpi4.1
  with_reducible refine gl_Row (by assumption) (fun _ => ?_)
  with_reducible refine And.intro ?_ ?_
  with_reducible exact vpi4.2.1
  split
  with_reducible refine gl_Row (by assumption) (fun _ => ?_)
  with_reducible refine And.intro ?_ ?_
  with_reducible exact vpi4.2.2.1
  with_reducible refine gl_Row (by assumption) (fun _ => ?_)
  with_reducible refine And.intro ?_ ?_
  with_reducible exact vpi4.2.2.2
  split
  with_reducible refine And.intro ?_ ?_
  omega
  with_reducible refine And.intro ?_ ?_
  omega
  with_reducible assumption
  with_reducible refine And.intro ?_ ?_
  omega
  with_reducible refine And.intro ?_ ?_
  omega
  with_reducible assumption
  with_reducible refine And.intro ?_ ?_
  omega
  with_reducible refine And.intro ?_ ?_
  omega
  with_reducible assumption
set_option maxHeartbeats 4000000 in
theorem sX3_small {p : Nat} (hp : isRow w p) (h1 : Q (.inl (some (.int 1))) w) (h0 : Q (.inl (some (.int 0))) w) : WP (MX3_small g) Q (0, [some (.ref p)], [], w, 0, 0) := by
  simp only [eX3_small_0, eX3_small_3, eX3_small_10, eX3_small_13, eX3_small_20, eX3_small_24, eX3_small_25, nb_0, nb_1, true_and]
  with_reducible refine gl_Row (by assumption) (fun _ => ?_)
  with_reducible refine And.intro ?_ ?_
  with_reducible exact vpi4.1
  split
  with_reducible refine And.intro ?_ ?_
  omega
  with_reducible refine And.intro ?_ ?_
  omega
  with_reducible assumption
  with_reducible refine gl_Row (by assumption) (fun _ => ?_)
  with_reducible refine And.intro ?_ ?_
  with_reducible exact vpi4.2.2.2
  split
  with_reducible refine And.intro ?_ ?_
  omega
  with_reducible refine And.intro ?_ ?_
  omega
  with_reducible assumption
  with_reducible refine And.intro ?_ ?_
  omega
  with_reducible refine And.intro ?_ ?_
  omega
  with_reducible assumption
set_option maxHeartbeats 4000000 in
theorem sX3_valid {p : Nat} {a : Int64} {b : Int32} (hp : isRow w p) (h1 : Q (.inl (some (.int 1))) w) (h0 : Q (.inl (some (.int 0))) w) : WP (MX3_valid g) Q (0, [some (.ref p), some (.long a), none, some (.int b)], [], w, 0, 0) := by
  simp only [eX3_valid_0, eX3_valid_4, eX3_valid_8, eX3_valid_12, eX3_valid_16, eX3_valid_20, eX3_valid_27, eX3_valid_31, eX3_valid_32, wt_nil, nb_0, nb_1, true_and, Nat.add_zero]
  with_reducible refine gl_Row (by assumption) (fun _ => ?_)
  with_reducible refine And.intro ?_ ?_
  with_reducible exact vpi4.1
  split
  with_reducible refine And.intro ?_ ?_
  omega
  with_reducible refine And.intro ?_ ?_
  omega
  with_reducible assumption
  with_reducible refine gl_Row (by assumption) (fun _ => ?_)
  with_reducible refine And.intro ?_ ?_
  with_reducible exact vpi4.2.2.2
  split
  with_reducible refine And.intro ?_ ?_
  omega
  with_reducible refine And.intro ?_ ?_
  omega
  with_reducible assumption
  split
  with_reducible refine And.intro ?_ ?_
  omega
  with_reducible refine And.intro ?_ ?_
  omega
  with_reducible assumption
  with_reducible refine And.intro ?_ ?_
  omega
  with_reducible refine And.intro ?_ ?_
  omega
  with_reducible refine And.intro ?_ ?_
  omega
  with_reducible refine sX3_small (by assumption) ?_ ?_
  simp only [eX3_valid_24, eX3_valid_27, eX3_valid_31, eX3_valid_32, kx_l, tl_s, nb_0, nb_1, true_and]
  split
  with_reducible refine And.intro ?_ ?_
  omega
  with_reducible refine And.intro ?_ ?_
  omega
  with_reducible assumption
  with_reducible refine And.intro ?_ ?_
  omega
  with_reducible refine And.intro ?_ ?_
  omega
  with_reducible assumption
  simp only [eX3_valid_24, eX3_valid_27, eX3_valid_31, eX3_valid_32, kx_l, tl_s, nb_0, nb_1, true_and, if_true]
  with_reducible refine And.intro ?_ ?_
  omega
  with_reducible refine And.intro ?_ ?_
  omega
  with_reducible assumption
set_option maxHeartbeats 4000000 in
theorem sX3_add {a b : Int64} (hQ : ∀ v : Int64, Q (.inl (some (.long v))) w) : WP (MX3_add g) Q (0, [some (.long a), none, some (.long b), none], [], w, 0, 0) := by
  simp only [eX3_add_0]
  with_reducible refine And.intro ?_ ?_
  omega
  with_reducible refine And.intro ?_ ?_
  omega
  with_reducible exact hQ _
set_option maxHeartbeats 4000000 in
theorem sX3_whichNow {p : Nat} {a : Int32} (hp : isRow w p) (hQ : ∀ v : Int32, Q (.inl (some (.int v))) w) : WP (MX3_whichNow g) Q (0, [some (.ref p), some (.int a)], [], w, 0, 0) := by
  simp only [eX3_whichNow_0, wt_nil, Nat.add_zero]
  with_reducible refine And.intro ?_ ?_
  omega
  with_reducible refine And.intro ?_ ?_
  omega
  with_reducible refine And.intro ?_ ?_
  omega
  with_reducible refine sX3_valid (by assumption) ?_ ?_
  simp only [eX3_whichNow_7, eX3_whichNow_10, kx_l, wt_nil, tl_s, Nat.add_zero]
  with_reducible refine And.intro ?_ ?_
  omega
  with_reducible refine And.intro ?_ ?_
  omega
  with_reducible refine And.intro ?_ ?_
  omega
  with_reducible refine sX3_one (fun _ => ?_)
  simp only [kx_l, wt_nil, wt_int, tl_s, Nat.add_zero]
  with_reducible refine And.intro ?_ ?_
  omega
  with_reducible refine And.intro ?_ ?_
  omega
  with_reducible refine And.intro ?_ ?_
  omega
  with_reducible refine sX3_valid (by assumption) ?_ ?_
  simp only [eX3_whichNow_17, kx_l, wt_nil, wt_int, tl_s, Nat.add_zero]
  with_reducible refine And.intro ?_ ?_
  omega
  with_reducible refine And.intro ?_ ?_
  omega
  with_reducible refine And.intro ?_ ?_
  omega
  with_reducible refine sX3_one (fun _ => ?_)
  simp only [eX3_whichNow_20, kx_l, tl_s]
  with_reducible refine And.intro ?_ ?_
  omega
  with_reducible refine And.intro ?_ ?_
  omega
  with_reducible exact hQ _
  simp only [eX3_whichNow_17, kx_l, wt_nil, wt_int, tl_s, Nat.add_zero]
  with_reducible refine And.intro ?_ ?_
  omega
  with_reducible refine And.intro ?_ ?_
  omega
  with_reducible refine And.intro ?_ ?_
  omega
  with_reducible refine sX3_one (fun _ => ?_)
  simp only [eX3_whichNow_20, kx_l, tl_s]
  with_reducible refine And.intro ?_ ?_
  omega
  with_reducible refine And.intro ?_ ?_
  omega
  with_reducible exact hQ _
  simp only [eX3_whichNow_7, eX3_whichNow_10, kx_l, wt_nil, tl_s, Nat.add_zero]
  with_reducible refine And.intro ?_ ?_
  omega
  with_reducible refine And.intro ?_ ?_
  omega
  with_reducible refine And.intro ?_ ?_
  omega
  with_reducible refine sX3_one (fun _ => ?_)
  simp only [kx_l, wt_nil, wt_int, tl_s, Nat.add_zero]
  with_reducible refine And.intro ?_ ?_
  omega
  with_reducible refine And.intro ?_ ?_
  omega
  with_reducible refine And.intro ?_ ?_
  omega
  with_reducible refine sX3_valid (by assumption) ?_ ?_
  simp only [eX3_whichNow_17, kx_l, wt_nil, wt_int, tl_s, Nat.add_zero]
  with_reducible refine And.intro ?_ ?_
  omega
  with_reducible refine And.intro ?_ ?_
  omega
  with_reducible refine And.intro ?_ ?_
  omega
  with_reducible refine sX3_one (fun _ => ?_)
  simp only [eX3_whichNow_20, kx_l, tl_s]
  with_reducible refine And.intro ?_ ?_
  omega
  with_reducible refine And.intro ?_ ?_
  omega
  with_reducible exact hQ _
  simp only [eX3_whichNow_17, kx_l, wt_nil, wt_int, tl_s, Nat.add_zero]
  with_reducible refine And.intro ?_ ?_
  omega
  with_reducible refine And.intro ?_ ?_
  omega
  with_reducible refine And.intro ?_ ?_
  omega
  with_reducible refine sX3_one (fun _ => ?_)
  simp only [eX3_whichNow_20, kx_l, tl_s]
  with_reducible refine And.intro ?_ ?_
  omega
  with_reducible refine And.intro ?_ ?_
  omega
  with_reducible exact hQ _
end
end
