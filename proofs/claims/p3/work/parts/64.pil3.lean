section
variable {g : RO} {Q : Ot → Hw → Prop} {w0 w : Hw}
variable {y nM : Nat} {kd : Int32}
theorem LL.ext {L D cap : Nat} {n : Int32} {h : Nat → Option Nat} {w' : Hw} (hl : LL g w L D cap n h) (k : ext g w w') : LL g w' L D cap n h := hl.kp (fun fs e => k.1 _ _ e) (fun z e => k.1 _ _ e) (fun o e1 e2 => k.2 _ o e1 e2)
theorem LL.rD {L D cap : Nat} {n : Int32} {h : Nat → Option Nat} (hl : LL g w L D cap n h) : rd g w D = some (.inl (5, cap, qc h)) := by
  obtain ⟨mc, q1, q2, q3, -⟩ := hl.opn
  exact q3
theorem LL.c15 {L D cap : Nat} {n : Int32} {h : Nat → Option Nat} (hl : LL g w L D cap n h) : cap ≤ 15 := by
  rcases hl.2.1 with ⟨-, k⟩ | ⟨k, -⟩ <;> omega
theorem sInitF {w1 : Hw} {q : Nat} (hE : EG g w1) (hq : rd g w1 q = none) (hQ : ∀ D w', ext g w1 w' → LL g w' q D 0 0 (fun _ => none) → w1 D = none → Q (.inl none) w') : WP (MJx4a65c_init_da8c8 g) Q (0, [some (.ref q)], [], upw w1 q (.inr (3, [.int 0, .null, .int 0])), 0, 0) := by
  have hqn := rd_none hq
  have hE' : EG g (upw w1 q (.inr (3, [.int 0, .null, .int 0]))) := hE.ext (ext_up2 ext.rf hq)
  refine sJx4a65c_init hE' (upw_s _ _ _) (fun D w' f1 f2 hl => ?_)
  have k : ext g w1 w' := by
    refine ⟨fun a o e => ?_, fun a o e1 e2 => ?_⟩
    · have hne : a ≠ q := fun z => by
        rw [z, hqn] at e
        cases e
      exact f1 a o (by rw [upw_n hne]; exact e) hne
    · have hne : a ≠ q := fun z => by
        rw [z, rd_ro hq] at e1
        cases e1
      exact f2 a o e1 (by rw [upw_n hne]; exact e2)
  refine hQ D w' k hl ?_
  rcases hl.2.1 with ⟨-, z⟩ | ⟨-, -, z, -⟩
  · omega
  · cases hw : w1 D with
    | none => rfl
    | some o =>
      rw [k.1 _ _ hw] at z
      cases z
theorem go_YP {w1 : Hw} {L' D' c' : Nat} {n' : Int32} {h' : Nat → Option Nat} {K : List Value → Prop} (k : ext g w1 w) (hM : MM g w0 y nM kd w1) (hl : LL g w L' D' c' n' h') (hr : ∀ i b, h' i = some b → isRow w b) (hn : n'.toInt ≤ 12) (hnn : ∀ i : Nat, (i : Int) < n'.toInt → ∃ b, h' i = some b) (hL : w1 L' = none) (hD : w1 D' = none) (kk : ∀ (cL pL : Nat) (th rf md : Int32), MM g w0 y nM kd (upw w y (.inr (7, [.int th, .ref nM, .ref cL, .ref L', .int rf, .int kd, .int md]))) → K [.int th, .ref nM, .ref cL, .ref pL, .int rf, .int kd, .int md]) : go (w y) 7 K := by
  obtain ⟨cL, pL, D1, D2, c1, c2, th, rf, md, n, f, h1, h2, a1, a2, a3, a4, a5, a6, a7⟩ := hM.1
  have b1 := k.1 _ _ a1
  have b2 := k.1 _ _ a2
  rw [b1, go_s]
  have hn0 : ∀ {a : Nat} {o : Ob}, w1 a = some o → a ≠ L' := fun e z => by
    rw [z, hL] at e
    cases e
  have hd0 : ∀ {a : Nat} {o : Ob}, w1 a = some o → a ≠ D' := fun e z => by
    rw [z, hD] at e
    cases e
  obtain ⟨mcc, hcL⟩ := a3.1
  refine kk _ _ _ _ _ ⟨⟨cL, L', D1, D', c1, c', th, rf, md, n', f, h1, h', upw_s _ _ _, ?_, (a3.ext k).up b1 (fun _ e => by cases e) (fun _ e => by cases e), fun i b z => isRow_up ((a4 i b z).ext k) b1 (fun _ e => by cases e), hl.up b1 (fun _ e => by cases e) (fun _ e => by cases e), fun i b z => isRow_up (hr i b z) b1 (fun _ e => by cases e), hn, hn0 hcL, ?_, hnn⟩, (hM.2.ext k).up b1 (Or.inr rfl)⟩
  · rw [upw_n (ne_of a2 a1 (fun e => by cases e))]
    exact b2
  · rcases a3.2.1 with ⟨z, -⟩ | ⟨z, -⟩
    · exact hd0 z
    · have k2 := a3.2.2.2
      have e6 : (6 : Int32).toInt = 6 := rfl
      omega
theorem n00' : (0 : Int32).toInt ≤ 12 := by decide
theorem nn0 : ∀ i : Nat, (i : Int) < (0 : Int32).toInt → ∃ b, (fun _ => none : Nat → Option Nat) i = some b := fun i h => by
  have e : (0 : Int32).toInt = 0 := rfl
  omega
theorem nr0 : ∀ (i b : Nat), (fun _ => none : Nat → Option Nat) i = some b → isRow w b := fun _ _ e => by cases e
set_option maxHeartbeats 4000000 in
theorem sX3_sweep  (hM : MM g w0 y nM kd w) (hE : EG g w0) (hS : SG g) (hQ : ∀ (v : Int32) w', MM g w0 y nM kd w' → Q (.inl (some (.int v))) w') : WP (MX3_sweep g) Q (0, [some (.ref y), none], [], w, 0, 0) := by
  repeat' first
    | with_reducible assumption
    | with_reducible refine And.intro ?_ ?_
    | with_reducible refine go_YP (by assumption) (by first | assumption | exact MMz.m (by assumption) | exact MM.fr (by first | assumption | exact MMz.m (by assumption)) (by assumption) | exact MM.ext' (by assumption) (by assumption) | exact (by assumption : ∀ f', MM g w0 y nM kd (upw _ nM (.inl (0, 8, .inr (.inl f'))))) _ | exact (by assumption : ∀ (th' rf' md' : Int32), MM g w0 y nM kd (upw _ y (.inr (7, [.int th', .ref nM, .ref _, .ref _, .int rf', .int kd, .int md'])))) _ _ _) (by assumption) nr0 n00' nn0 (rd_none (by assumption)) (by assumption) (fun _ _ _ _ _ _ => ?_)
    | with_reducible refine sInitF (MM.eg (by first | assumption | exact MMz.m (by assumption) | exact MM.fr (by first | assumption | exact MMz.m (by assumption)) (by assumption) | exact MM.ext' (by assumption) (by assumption) | exact (by assumption : ∀ f', MM g w0 y nM kd (upw _ nM (.inl (0, 8, .inr (.inl f'))))) _ | exact (by assumption : ∀ (th' rf' md' : Int32), MM g w0 y nM kd (upw _ y (.inr (7, [.int th', .ref nM, .ref _, .ref _, .int rf', .int kd, .int md'])))) _ _ _) hE) (by assumption) (fun _ _ _ _ _ => ?_)
    | with_reducible exact absurd (by assumption) n10'
    | with_reducible refine sX3_isNoNumber ?_ (fun _ _ => ?_)
    | with_reducible refine sX3_isNoCard ?_ (fun _ _ => ?_)
    | with_reducible refine sX3_isNoEnd ?_ (fun _ _ => ?_)
    | with_reducible refine sX3_isIn (fun _ _ => ?_) ?_
    | with_reducible refine sX3_start (by first | assumption | exact MMz.m (by assumption) | exact MM.fr (by first | assumption | exact MMz.m (by assumption)) (by assumption) | exact MM.ext' (by assumption) (by assumption) | exact (by assumption : ∀ f', MM g w0 y nM kd (upw _ nM (.inl (0, 8, .inr (.inl f'))))) _ | exact (by assumption : ∀ (th' rf' md' : Int32), MM g w0 y nM kd (upw _ y (.inr (7, [.int th', .ref nM, .ref _, .ref _, .int rf', .int kd, .int md'])))) _ _ _) (by decide) (fun _ _ _ => ?_) (fun _ _ => ?_)
    | with_reducible refine sX3_refuse (by assumption) (by decide) (fun _ => ?_) (fun _ _ => ?_)
    | with_reducible refine sX3_isBareM (by first | assumption | exact MMz.m (by assumption) | exact MM.fr (by first | assumption | exact MMz.m (by assumption)) (by assumption) | exact MM.ext' (by assumption) (by assumption) | exact (by assumption : ∀ f', MM g w0 y nM kd (upw _ nM (.inl (0, 8, .inr (.inl f'))))) _ | exact (by assumption : ∀ (th' rf' md' : Int32), MM g w0 y nM kd (upw _ y (.inr (7, [.int th', .ref nM, .ref _, .ref _, .int rf', .int kd, .int md'])))) _ _ _) (by assumption) (by first | assumption | exact lt65 (by assumption)) ?_ (fun _ _ => ?_)
    | with_reducible refine sX3_isNone (by first | assumption | exact MMz.m (by assumption) | exact MM.fr (by first | assumption | exact MMz.m (by assumption)) (by assumption) | exact MM.ext' (by assumption) (by assumption) | exact (by assumption : ∀ f', MM g w0 y nM kd (upw _ nM (.inl (0, 8, .inr (.inl f'))))) _ | exact (by assumption : ∀ (th' rf' md' : Int32), MM g w0 y nM kd (upw _ y (.inr (7, [.int th', .ref nM, .ref _, .ref _, .int rf', .int kd, .int md'])))) _ _ _) (fun _ _ => ?_) (fun _ _ _ _ _ _ => ?_)
    | with_reducible exact vpi8n (by assumption) (by assumption)
    | with_reducible exact vpi4n (by assumption) (by assumption)
    | with_reducible exact vpi4.1
    | with_reducible exact vpi4.2.1
    | with_reducible exact vpi4.2.2.1
    | with_reducible exact vpi4.2.2.2
    | with_reducible refine go_Y (by first | assumption | exact MMz.m (by assumption) | exact MM.fr (by first | assumption | exact MMz.m (by assumption)) (by assumption) | exact MM.ext' (by assumption) (by assumption) | exact (by assumption : ∀ f', MM g w0 y nM kd (upw _ nM (.inl (0, 8, .inr (.inl f'))))) _ | exact (by assumption : ∀ (th' rf' md' : Int32), MM g w0 y nM kd (upw _ y (.inr (7, [.int th', .ref nM, .ref _, .ref _, .int rf', .int kd, .int md'])))) _ _ _) (fun _ _ _ _ _ _ => ?_)
    | with_reducible refine go_Yw (by first | assumption | exact MMz.m (by assumption) | exact MM.fr (by first | assumption | exact MMz.m (by assumption)) (by assumption) | exact MM.ext' (by assumption) (by assumption) | exact (by assumption : ∀ f', MM g w0 y nM kd (upw _ nM (.inl (0, 8, .inr (.inl f'))))) _ | exact (by assumption : ∀ (th' rf' md' : Int32), MM g w0 y nM kd (upw _ y (.inr (7, [.int th', .ref nM, .ref _, .ref _, .int rf', .int kd, .int md'])))) _ _ _) (fun _ _ _ _ _ _ => ?_)
    | with_reducible refine gl_M (by first | assumption | exact MMz.m (by assumption) | exact MM.fr (by first | assumption | exact MMz.m (by assumption)) (by assumption) | exact MM.ext' (by assumption) (by assumption) | exact (by assumption : ∀ f', MM g w0 y nM kd (upw _ nM (.inl (0, 8, .inr (.inl f'))))) _ | exact (by assumption : ∀ (th' rf' md' : Int32), MM g w0 y nM kd (upw _ y (.inr (7, [.int th', .ref nM, .ref _, .ref _, .int rf', .int kd, .int md'])))) _ _ _) ?_
    | with_reducible refine gl_Mw (by first | assumption | exact MMz.m (by assumption) | exact MM.fr (by first | assumption | exact MMz.m (by assumption)) (by assumption) | exact MM.ext' (by assumption) (by assumption) | exact (by assumption : ∀ f', MM g w0 y nM kd (upw _ nM (.inl (0, 8, .inr (.inl f'))))) _ | exact (by assumption : ∀ (th' rf' md' : Int32), MM g w0 y nM kd (upw _ y (.inr (7, [.int th', .ref nM, .ref _, .ref _, .int rf', .int kd, .int md'])))) _ _ _) ?_
    | with_reducible exact gtC (by first | assumption | exact MMz.m (by assumption) | exact MM.fr (by first | assumption | exact MMz.m (by assumption)) (by assumption) | exact MM.ext' (by assumption) (by assumption) | exact (by assumption : ∀ f', MM g w0 y nM kd (upw _ nM (.inl (0, 8, .inr (.inl f'))))) _ | exact (by assumption : ∀ (th' rf' md' : Int32), MM g w0 y nM kd (upw _ y (.inr (7, [.int th', .ref nM, .ref _, .ref _, .int rf', .int kd, .int md'])))) _ _ _) (by first | assumption | exact isY.s | exact isY.fr (by assumption) (by assumption))
    | with_reducible exact gtP (by first | assumption | exact MMz.m (by assumption) | exact MM.fr (by first | assumption | exact MMz.m (by assumption)) (by assumption) | exact MM.ext' (by assumption) (by assumption) | exact (by assumption : ∀ f', MM g w0 y nM kd (upw _ nM (.inl (0, 8, .inr (.inl f'))))) _ | exact (by assumption : ∀ (th' rf' md' : Int32), MM g w0 y nM kd (upw _ y (.inr (7, [.int th', .ref nM, .ref _, .ref _, .int rf', .int kd, .int md'])))) _ _ _) (by first | assumption | exact isY.s | exact isY.fr (by assumption) (by assumption))
    | with_reducible refine gl_Row (by first | assumption | exact CAt.row (by assumption) | exact isRow.ext (by assumption) (by assumption)) (fun _ => ?_)
    | with_reducible exact isRow.ca (by first | assumption | exact CAt.row (by assumption) | exact isRow.ext (by assumption) (by assumption))
    | with_reducible refine sGetY (by first | assumption | exact CAt.fr (by assumption) (by assumption)) (by first | assumption | exact isY.s | exact isY.fr (by assumption) (by assumption)) (by assumption) (by first | assumption | exact lt65 (by assumption)) ?_
    | with_reducible exact hQ _ _ (by first | assumption | exact MMz.m (by assumption) | exact MM.fr (by first | assumption | exact MMz.m (by assumption)) (by assumption) | exact MM.ext' (by assumption) (by assumption) | exact (by assumption : ∀ f', MM g w0 y nM kd (upw _ nM (.inl (0, 8, .inr (.inl f'))))) _ | exact (by assumption : ∀ (th' rf' md' : Int32), MM g w0 y nM kd (upw _ y (.inr (7, [.int th', .ref nM, .ref _, .ref _, .int rf', .int kd, .int md'])))) _ _ _)
    | with_reducible exact hQ _ (by first | assumption | exact MMz.m (by assumption) | exact MM.fr (by first | assumption | exact MMz.m (by assumption)) (by assumption) | exact MM.ext' (by assumption) (by assumption) | exact (by assumption : ∀ f', MM g w0 y nM kd (upw _ nM (.inl (0, 8, .inr (.inl f'))))) _ | exact (by assumption : ∀ (th' rf' md' : Int32), MM g w0 y nM kd (upw _ y (.inr (7, [.int th', .ref nM, .ref _, .ref _, .int rf', .int kd, .int md'])))) _ _ _)
    | with_reducible exact hQ _
    | with_reducible exact n4g
    | with_reducible exact n4a
    | with_reducible exact n4b
    | with_reducible exact n4c
    | with_reducible refine sX3_high (fun _ => ?_)
    | with_reducible refine sX3_low (fun _ => ?_)
    | with_reducible refine sX3_one (fun _ => ?_)
    | with_reducible refine sX3_become (by first | assumption | exact MMz.m (by assumption) | exact MM.fr (by first | assumption | exact MMz.m (by assumption)) (by assumption) | exact MM.ext' (by assumption) (by assumption) | exact (by assumption : ∀ f', MM g w0 y nM kd (upw _ nM (.inl (0, 8, .inr (.inl f'))))) _ | exact (by assumption : ∀ (th' rf' md' : Int32), MM g w0 y nM kd (upw _ y (.inr (7, [.int th', .ref nM, .ref _, .ref _, .int rf', .int kd, .int md'])))) _ _ _) (by assumption) (by assumption) (fun _ _ _ => ?_)
    | with_reducible refine sX3_no (by first | assumption | exact MMz.m (by assumption) | exact MM.fr (by first | assumption | exact MMz.m (by assumption)) (by assumption) | exact MM.ext' (by assumption) (by assumption) | exact (by assumption : ∀ f', MM g w0 y nM kd (upw _ nM (.inl (0, 8, .inr (.inl f'))))) _ | exact (by assumption : ∀ (th' rf' md' : Int32), MM g w0 y nM kd (upw _ y (.inr (7, [.int th', .ref nM, .ref _, .ref _, .int rf', .int kd, .int md'])))) _ _ _) (fun _ _ => ?_)
    | with_reducible refine sX3_fixed (by first | assumption | exact CAt.row (by assumption) | exact isRow.ext (by assumption) (by assumption)) ?_ ?_
    | with_reducible refine sX3_small (by first | assumption | exact CAt.row (by assumption) | exact isRow.ext (by assumption) (by assumption)) ?_ ?_
    | with_reducible refine sX3_make (by first | assumption | exact MMz.m (by assumption) | exact MM.fr (by first | assumption | exact MMz.m (by assumption)) (by assumption) | exact MM.ext' (by assumption) (by assumption) | exact (by assumption : ∀ f', MM g w0 y nM kd (upw _ nM (.inl (0, 8, .inr (.inl f'))))) _ | exact (by assumption : ∀ (th' rf' md' : Int32), MM g w0 y nM kd (upw _ y (.inr (7, [.int th', .ref nM, .ref _, .ref _, .int rf', .int kd, .int md'])))) _ _ _) (by assumption) (by assumption) (fun _ _ _ => ?_)
    | with_reducible refine sX3_valid (by first | assumption | exact CAt.row (by assumption) | exact isRow.ext (by assumption) (by assumption)) ?_ ?_
    | with_reducible refine sX3_same (by first | assumption | exact CAt.row (by assumption) | exact isRow.ext (by assumption) (by assumption)) (by first | assumption | exact CAt.row (by assumption) | exact isRow.ext (by assumption) (by assumption)) (fun _ _ => ?_)
    | with_reducible refine sX3_aroundNow (by first | assumption | exact CAt.row (by assumption) | exact isRow.ext (by assumption) (by assumption)) (by assumption) (by assumption) (fun _ => ?_)
    | with_reducible refine sX3_whoNow (by first | assumption | exact MMz.m (by assumption) | exact MM.fr (by first | assumption | exact MMz.m (by assumption)) (by assumption) | exact MM.ext' (by assumption) (by assumption) | exact (by assumption : ∀ f', MM g w0 y nM kd (upw _ nM (.inl (0, 8, .inr (.inl f'))))) _ | exact (by assumption : ∀ (th' rf' md' : Int32), MM g w0 y nM kd (upw _ y (.inr (7, [.int th', .ref nM, .ref _, .ref _, .int rf', .int kd, .int md'])))) _ _ _) (by assumption) (by assumption) (fun _ => ?_)
    | with_reducible refine sX3_whichNow_ (by first | assumption | exact MMz.m (by assumption) | exact MM.fr (by first | assumption | exact MMz.m (by assumption)) (by assumption) | exact MM.ext' (by assumption) (by assumption) | exact (by assumption : ∀ f', MM g w0 y nM kd (upw _ nM (.inl (0, 8, .inr (.inl f'))))) _ | exact (by assumption : ∀ (th' rf' md' : Int32), MM g w0 y nM kd (upw _ y (.inr (7, [.int th', .ref nM, .ref _, .ref _, .int rf', .int kd, .int md'])))) _ _ _) (fun _ => ?_)
    | with_reducible refine sX3_likesNow (by first | assumption | exact MMz.m (by assumption) | exact MM.fr (by first | assumption | exact MMz.m (by assumption)) (by assumption) | exact MM.ext' (by assumption) (by assumption) | exact (by assumption : ∀ f', MM g w0 y nM kd (upw _ nM (.inl (0, 8, .inr (.inl f'))))) _ | exact (by assumption : ∀ (th' rf' md' : Int32), MM g w0 y nM kd (upw _ y (.inr (7, [.int th', .ref nM, .ref _, .ref _, .int rf', .int kd, .int md'])))) _ _ _) (by assumption) (by assumption) (by assumption) (fun _ => ?_)
    | with_reducible refine sX3_isNoPair (by first | assumption | exact MMz.m (by assumption) | exact MM.fr (by first | assumption | exact MMz.m (by assumption)) (by assumption) | exact MM.ext' (by assumption) (by assumption) | exact (by assumption : ∀ f', MM g w0 y nM kd (upw _ nM (.inl (0, 8, .inr (.inl f'))))) _ | exact (by assumption : ∀ (th' rf' md' : Int32), MM g w0 y nM kd (upw _ y (.inr (7, [.int th', .ref nM, .ref _, .ref _, .int rf', .int kd, .int md'])))) _ _ _) (fun _ _ => ?_) (fun _ _ _ _ _ _ _ _ => ?_)
    | with_reducible refine sX3_isNoEnd_ (by first | assumption | exact MMz.m (by assumption) | exact MM.fr (by first | assumption | exact MMz.m (by assumption)) (by assumption) | exact MM.ext' (by assumption) (by assumption) | exact (by assumption : ∀ f', MM g w0 y nM kd (upw _ nM (.inl (0, 8, .inr (.inl f'))))) _ | exact (by assumption : ∀ (th' rf' md' : Int32), MM g w0 y nM kd (upw _ y (.inr (7, [.int th', .ref nM, .ref _, .ref _, .int rf', .int kd, .int md'])))) _ _ _) (fun _ _ => ?_) (fun _ _ _ _ _ _ _ _ => ?_)
    | with_reducible refine sX3_seekNowM (by first | assumption | exact MMz.m (by assumption) | exact MM.fr (by first | assumption | exact MMz.m (by assumption)) (by assumption) | exact MM.ext' (by assumption) (by assumption) | exact (by assumption : ∀ f', MM g w0 y nM kd (upw _ nM (.inl (0, 8, .inr (.inl f'))))) _ | exact (by assumption : ∀ (th' rf' md' : Int32), MM g w0 y nM kd (upw _ y (.inr (7, [.int th', .ref nM, .ref _, .ref _, .int rf', .int kd, .int md'])))) _ _ _) (by assumption) (by assumption) (by assumption) (fun _ _ _ _ => ?_)
    | with_reducible refine sSetYR (by first | assumption | exact MMz.m (by assumption) | exact MM.fr (by first | assumption | exact MMz.m (by assumption)) (by assumption) | exact MM.ext' (by assumption) (by assumption) | exact (by assumption : ∀ f', MM g w0 y nM kd (upw _ nM (.inl (0, 8, .inr (.inl f'))))) _ | exact (by assumption : ∀ (th' rf' md' : Int32), MM g w0 y nM kd (upw _ y (.inr (7, [.int th', .ref nM, .ref _, .ref _, .int rf', .int kd, .int md'])))) _ _ _) (by first | assumption | exact isY.s | exact isY.fr (by assumption) (by assumption)) (by first | assumption | exact CAt.row (by assumption) | exact isRow.ext (by assumption) (by assumption) | exact isRow.ext (by assumption) (ext_up2 ext.rf (by assumption))) (by assumption) (by first | assumption | exact lt65 (by assumption)) (fun _ _ => ?_) (fun _ _ _ => ?_)
    | with_reducible refine sSetYN (by first | assumption | exact MMz.m (by assumption) | exact MM.fr (by first | assumption | exact MMz.m (by assumption)) (by assumption) | exact MM.ext' (by assumption) (by assumption) | exact (by assumption : ∀ f', MM g w0 y nM kd (upw _ nM (.inl (0, 8, .inr (.inl f'))))) _ | exact (by assumption : ∀ (th' rf' md' : Int32), MM g w0 y nM kd (upw _ y (.inr (7, [.int th', .ref nM, .ref _, .ref _, .int rf', .int kd, .int md'])))) _ _ _) (by first | assumption | exact isY.s | exact isY.fr (by assumption) (by assumption)) (by assumption) (by first | assumption | exact lt65 (by assumption)) (fun _ _ => ?_) (fun _ _ _ => ?_)
    | with_reducible refine sSizeM (by first | assumption | exact MMz.m (by assumption) | exact MM.fr (by first | assumption | exact MMz.m (by assumption)) (by assumption) | exact MM.ext' (by assumption) (by assumption) | exact (by assumption : ∀ f', MM g w0 y nM kd (upw _ nM (.inl (0, 8, .inr (.inl f'))))) _ | exact (by assumption : ∀ (th' rf' md' : Int32), MM g w0 y nM kd (upw _ y (.inr (7, [.int th', .ref nM, .ref _, .ref _, .int rf', .int kd, .int md'])))) _ _ _) (by first | assumption | exact isY.s | exact isY.fr (by assumption) (by assumption)) (fun _ _ => ?_)
    | simp only [eX3_sweep_0, eX3_sweep_0N, eX3_sweep_1, eX3_sweep_2, eX3_sweep_5, eX3_sweep_5N, eX3_sweep_6, eX3_sweep_9, eX3_sweep_12, eX3_sweep_13, eX3_sweep_13N, eX3_sweep_14, eX3_sweep_17, eX3_sweep_17R, eX3_sweep_18, eX3_sweep_21, eX3_sweep_24, eX3_sweep_25, ite_le, n45, n54, true_or, or_true, false_or, or_false, false_and, and_false, kx_l, kx_r, go_s, gl_s, gi_s, gb_s2, gb_s3, gq_s, wt_nil, wt_int, wt_long, wt_ref, wt_null, nl_int, nl_long, nl_ref, nl_null, nl_none, rf_n, rf_s, rf_st, tl_s, tl_n, g0, gS, ex1, nb_b, nb_0, nb_1, nf_i, nf_l, nf_ra, nf_ro, nf_na, nf_no, nf_b0, nf_z0, t45_4, t45_5, true_and, and_true, List.set_cons_zero, List.set_cons_succ, List.length_cons, List.length_nil, rd_s, upw_s, ne_eq, not_false_eq_true, Nat.zero_add, Nat.add_zero, if_true, if_false, eq_self, m10, n4e, upw2q, tyX3]
    | split
    | with_reducible intro _
    | omega
end
