/-! SPECS, 1: helpers -/
theorem ite_le {a b : Int32} {A B : Prop} : (if a ≤ b then A else B) = (if b < a then B else A) := by
  by_cases h : b < a
  · rw [if_pos h, if_neg (fun k => absurd h (Int32.not_lt.mpr k))]
  · rw [if_neg h, if_pos (Int32.not_lt.mp h)]
theorem n45 : ((4 : Nat) = 5) = False := eq_false (by decide)
theorem n54 : ((5 : Nat) = 4) = False := eq_false (by decide)
def bI (b : Bool) : Int32 := if b then 1 else 0
theorem bI_t : bI true = 1 := rfl
theorem bI_f : bI false = 0 := rfl
theorem nb_b (b : Bool) : (narrow .boolean (.int (bI b)) = .int (bI b)) = True := by cases b <;> exact eq_true rfl
theorem nb_0 : (narrow .boolean (.int 0) = .int 0) = True := eq_true rfl
theorem nb_1 : (narrow .boolean (.int 1) = .int 1) = True := eq_true rfl
theorem nf_i (a : Int32) : (narrow .int (.int a) = .int a ∧ fits .int (.int a) = true) = True := eq_true ⟨rfl, rfl⟩
theorem nf_l (a : Int64) : (narrow .long (.long a) = .long a ∧ fits .long (.long a) = true) = True := eq_true ⟨rfl, rfl⟩
theorem nf_ra (t : FieldType) (a : Nat) : (narrow (.array t) (.ref a) = .ref a ∧ fits (.array t) (.ref a) = true) = True := eq_true ⟨rfl, rfl⟩
theorem nf_ro (c : String) (a : Nat) : (narrow (.object c) (.ref a) = .ref a ∧ fits (.object c) (.ref a) = true) = True := eq_true ⟨rfl, rfl⟩
theorem nf_na (t : FieldType) : (narrow (.array t) .null = .null ∧ fits (.array t) .null = true) = True := eq_true ⟨rfl, rfl⟩
theorem nf_no (c : String) : (narrow (.object c) .null = .null ∧ fits (.object c) .null = true) = True := eq_true ⟨rfl, rfl⟩
theorem nf_b0 : (narrow .byte (.int 0) = .int 0 ∧ fits .byte (.int 0) = true) = True := eq_true ⟨rfl, rfl⟩
theorem nf_z0 : (narrow .boolean (.int 0) = .int 0 ∧ fits .boolean (.int 0) = true) = True := eq_true ⟨rfl, rfl⟩
theorem tl_s (v : Value) (st : List Value) : (some v).toList ++ st = v :: st := rfl
theorem tl_n (st : List Value) : (none : Option Value).toList ++ st = st := rfl
theorem g0 {α : Type} (a : α) (l : List α) : (a :: l)[0]? = some a := rfl
theorem gS {α : Type} (a : α) (l : List α) (n : Nat) : (a :: l)[n + 1]? = l[n]? := rfl
theorem ex1 {α : Type} {a : α} {P : α → Prop} : (∃ v, some a = some v ∧ P v) = P a := propext ⟨fun ⟨_, h, k⟩ => by cases h; exact k, fun h => ⟨a, rfl, h⟩⟩
theorem rd_none {g : RO} {w : Hw} {q : Nat} (h : rd g w q = none) : w q = none := by
  unfold rd at h
  cases hz : w q with
  | none => rfl
  | some o => rw [hz] at h; cases h
theorem vpi {a c : Int32} {N : Nat} (h0 : ¬ a < 0) (h1 : a < c) (hc : c.toNatClampNeg ≤ N) : vp_in a N := by
  rintro (h | h)
  · exact h0 h
  · have h2 := Int32.lt_iff_toInt_lt.mp h1
    have h3 : (0 : Int) ≤ a.toInt := by
      have := Int32.le_iff_toInt_le.mp (Int32.not_lt.mp h0)
      simpa using this
    have e1 : a.toNatClampNeg = a.toInt.toNat := rfl
    have e2 : c.toNatClampNeg = c.toInt.toNat := rfl
    omega
theorem vpi6 {a : Int32} (h0 : ¬ a < 0) (h1 : a < 6) : vp_in a 6 := vpi h0 h1 (by decide)
theorem vpi8 {a : Int32} (h0 : ¬ a < 0) (h1 : a < 8) : vp_in a 8 := vpi h0 h1 (by decide)
theorem i32_0 {a : Int32} (h0 : ¬ a < 0) : (0 : Int) ≤ a.toInt := by
  have := Int32.le_iff_toInt_le.mp (Int32.not_lt.mp h0)
  simpa using this
theorem i32_lt {a b : Int32} (h : a < b) : a.toInt < b.toInt := Int32.lt_iff_toInt_lt.mp h
theorem i32_nlt {a b : Int32} (h : ¬ a < b) : b.toInt ≤ a.toInt := Int32.le_iff_toInt_le.mp (Int32.not_lt.mp h)
theorem i32_of_lt {a b : Int32} (h : a.toInt < b.toInt) : a < b := Int32.lt_iff_toInt_lt.mpr h
theorem i32_of_nlt {a b : Int32} (h : b.toInt ≤ a.toInt) : ¬ a < b := Int32.not_lt.mpr (Int32.le_iff_toInt_le.mpr h)
theorem i32_bd (a : Int32) : -2147483648 ≤ a.toInt ∧ a.toInt ≤ 2147483647 := by
  have h1 := Int32.le_toInt a
  have h2 := Int32.toInt_lt a
  omega
theorem i32_add {a b : Int32} (h1 : -2147483648 ≤ a.toInt + b.toInt) (h2 : a.toInt + b.toInt ≤ 2147483647) : (a + b).toInt = a.toInt + b.toInt := by
  rw [Int32.toInt_add]
  exact Int.bmod_eq_of_le (by omega) (by omega)
theorem i32_sub {a b : Int32} (h1 : -2147483648 ≤ a.toInt - b.toInt) (h2 : a.toInt - b.toInt ≤ 2147483647) : (a - b).toInt = a.toInt - b.toInt := by
  rw [Int32.toInt_sub]
  exact Int.bmod_eq_of_le (by omega) (by omega)
theorem i32_s {i c : Int32} (h : i < c) : (i + 1).toInt = i.toInt + 1 := by
  have h1 := i32_lt h
  have h2 := i32_bd c
  have h3 := i32_bd i
  exact i32_add (by show -2147483648 ≤ i.toInt + 1; omega) (by show i.toInt + 1 ≤ 2147483647; omega)
/-- counting up -/
theorem ic_z {i c : Int32} (h : i < c) (hm : c.toInt - i.toInt ≤ ((0 : Nat) : Int)) : False := by
  have h1 := i32_lt h
  omega
theorem ic_s {i c : Int32} {d : Nat} (h : i < c) (hm : c.toInt - i.toInt ≤ ((d + 1 : Nat) : Int)) : c.toInt - (i + 1).toInt ≤ (d : Int) := by
  rw [i32_s h]
  omega
theorem ic_p {i c : Int32} (h0 : ¬ i < 0) (h : i < c) : ¬ i + 1 < 0 := by
  refine i32_of_nlt ?_
  rw [i32_s h]
  have := i32_0 h0
  show (0 : Int) ≤ i.toInt + 1
  omega
/-- nothing is lost, and what is only read stays so -/
def ext (g : RO) (w w' : Hw) : Prop := (∀ (a : Nat) (o : Ob), w a = some o → w' a = some o) ∧ ∀ (a : Nat) (o : Ob), g.2 a = some o → w a = none → w' a = none
theorem ext.rf {g : RO} {w : Hw} : ext g w w := ⟨fun _ _ h => h, fun _ _ _ h => h⟩
theorem ext.tr {g : RO} {w w1 w2 : Hw} (h : ext g w w1) (k : ext g w1 w2) : ext g w w2 := ⟨fun a o z => k.1 a o (h.1 a o z), fun a o z1 z2 => k.2 a o z1 (h.2 a o z1 z2)⟩
theorem rd_ro {g : RO} {w : Hw} {q : Nat} (h : rd g w q = none) : g.2 q = none := by
  have h1 := rd_none h
  unfold rd at h
  rw [h1] at h
  exact h
theorem rd_up {g : RO} {w : Hw} {a q : Nat} {o : Ob} (h : rd g (upw w a o) q = none) : q ≠ a ∧ rd g w q = none := by
  have h1 : q ≠ a := by
    rintro rfl
    rw [rd_s] at h
    cases h
  rw [rd_n h1] at h
  exact ⟨h1, h⟩
theorem ext_up2 {g : RO} {w w1 : Hw} {q : Nat} {o : Ob} (h : ext g w w1) (hq : rd g w q = none) : ext g w (upw w1 q o) := by
  have h1 := rd_none hq
  have h2 := rd_ro hq
  refine ⟨fun a o' z => ?_, fun a o' z1 z2 => ?_⟩
  · rw [upw_n]
    · exact h.1 a o' z
    · rintro rfl
      rw [h1] at z
      cases z
  · rw [upw_n]
    · exact h.2 a o' z1 z2
    · rintro rfl
      rw [h2] at z1
      cases z1
/-- a range of the class -/
def isR (w : Hw) (b : Nat) : Prop := ∃ r0 r1 r2 r3 : Int64, w b = some (.inr (4, [.long r0, .long r1, .long r2, .long r3]))
theorem isR.ext {g : RO} {w w' : Hw} {b : Nat} (h : isR w b) (k : ext g w w') : isR w' b := by
  obtain ⟨r0, r1, r2, r3, h⟩ := h
  exact ⟨r0, r1, r2, r3, k.1 b _ h⟩
theorem isR_up {w : Hw} {q : Nat} {r0 r1 r2 r3 : Int64} : isR (upw w q (.inr (4, [.long r0, .long r1, .long r2, .long r3]))) q := ⟨r0, r1, r2, r3, upw_s _ _ _⟩
theorem go_R {g : RO} {w : Hw} {b : Nat} {K : List Value → Prop} (h : isR w b) (k : ∀ r0 r1 r2 r3 : Int64, K [.long r0, .long r1, .long r2, .long r3]) : go (rd g w b) 4 K := by
  obtain ⟨r0, r1, r2, r3, h⟩ := h
  rw [rd_e h, go_s]
  exact k r0 r1 r2 r3
theorem go_Rw {w : Hw} {b : Nat} {K : List Value → Prop} (h : isR w b) (k : ∀ r0 r1 r2 r3 : Int64, K [.long r0, .long r1, .long r2, .long r3]) : go (w b) 4 K := by
  obtain ⟨r0, r1, r2, r3, h⟩ := h
  rw [h, go_s]
  exact k r0 r1 r2 r3
abbrev qc (f : Nat → Option Nat) : (Nat → Int32) ⊕ (Nat → Int64) ⊕ (Nat → UInt32) ⊕ (Nat → UInt64) ⊕ (Nat → Option Nat) := .inr (.inr (.inr (.inr f)))
/-- the class's own state: addresses, how often it was knocked -/
def RC (w : Hw) (x nA cA lA : Nat) (kn : Int32) : Prop := ∃ (n rf md : Int32) (f : Nat → Int64) (gc gl : Nat → Option Nat),
  w x = some (.inr (5, [.ref nA, .ref cA, .ref lA, .int n, .int rf, .int kn, .int md])) ∧ w nA = some (.inl (0, 8, .inr (.inl f))) ∧ w cA = some (.inl (4, 6, qc gc)) ∧ w lA = some (.inl (4, 12, qc gl)) ∧
  (∀ (i b : Nat), gc i = some b → isR w b) ∧ (∀ (i b : Nat), gl i = some b → isR w b) ∧ ¬ n < 0 ∧ ¬ 12 < n
def isC : Ob → Bool
  | .inr (5, _) => true
  | .inl (4, _) => true
  | _ => false
/-- what the class leaves alone -/
def FC (g : RO) (nA : Nat) (w w' : Hw) : Prop := (∀ (a : Nat) (o : Ob), w a = some o → a ≠ nA → isC o = false → w' a = some o) ∧ ∀ (a : Nat) (o : Ob), g.2 a = some o → w a = none → w' a = none
theorem FC.rf {g : RO} {nA : Nat} {w : Hw} : FC g nA w w := ⟨fun _ _ h _ _ => h, fun _ _ _ h => h⟩
theorem FC.ext {g : RO} {nA : Nat} {w0 w w' : Hw} (h : FC g nA w0 w) (k : ext g w w') : FC g nA w0 w' := ⟨fun a o h1 h2 h3 => k.1 a o (h.1 a o h1 h2 h3), fun a o z1 z2 => k.2 a o z1 (h.2 a o z1 z2)⟩
/-- the class's state at w, come from w0 -/
def CC (g : RO) (w0 : Hw) (x nA cA lA : Nat) (kn : Int32) (w : Hw) : Prop := RC w x nA cA lA kn ∧ FC g nA w0 w
theorem RC.ext {g : RO} {w w' : Hw} {x nA cA lA : Nat} {kn : Int32} (h : RC w x nA cA lA kn) (k : ext g w w') : RC w' x nA cA lA kn := by
  obtain ⟨n, rf, md, f, gc, gl, h1, h2, h3, h4, h5, h6, h7⟩ := h
  exact ⟨n, rf, md, f, gc, gl, k.1 _ _ h1, k.1 _ _ h2, k.1 _ _ h3, k.1 _ _ h4, fun i b z => (h5 i b z).ext k, fun i b z => (h6 i b z).ext k, h7⟩
theorem CC.ext {g : RO} {w0 w w' : Hw} {x nA cA lA : Nat} {kn : Int32} (h : CC g w0 x nA cA lA kn w) (k : ext g w w') : CC g w0 x nA cA lA kn w' := ⟨h.1.ext k, h.2.ext k⟩
theorem isR_up2 {w : Hw} {a b : Nat} {o1 o2 : Ob} (h : isR w b) (ha : w a = some o1) (ho : ∀ fs, o1 ≠ .inr (4, fs)) : isR (upw w a o2) b := by
  obtain ⟨r0, r1, r2, r3, h⟩ := h
  refine ⟨r0, r1, r2, r3, ?_⟩
  rw [upw_n]
  · exact h
  · rintro rfl
    rw [ha] at h
    cases h
    exact ho _ rfl
section RCU
variable {g : RO} {w0 w : Hw} {x nA cA lA : Nat} {kn : Int32}
/-- the class's cells, as they are read and written -/
abbrev RO5 (g : RO) (w : Hw) (x nA cA lA : Nat) (n rf kn md : Int32) (f : Nat → Int64) (gc gl : Nat → Option Nat) : Prop :=
  w x = some (.inr (5, [.ref nA, .ref cA, .ref lA, .int n, .int rf, .int kn, .int md])) ∧ w nA = some (.inl (0, 8, .inr (.inl f))) ∧ w cA = some (.inl (4, 6, qc gc)) ∧ w lA = some (.inl (4, 12, qc gl)) ∧
  (∀ (i b : Nat), gc i = some b → isR w b) ∧ (∀ (i b : Nat), gl i = some b → isR w b) ∧ ¬ n < 0 ∧ ¬ 12 < n ∧
  rd g w x = some (.inr (5, [.ref nA, .ref cA, .ref lA, .int n, .int rf, .int kn, .int md])) ∧ rd g w nA = some (.inl (0, 8, .inr (.inl f))) ∧ rd g w cA = some (.inl (4, 6, qc gc)) ∧ rd g w lA = some (.inl (4, 12, qc gl)) ∧
  (x ≠ nA ∧ x ≠ cA ∧ x ≠ lA ∧ nA ≠ x ∧ nA ≠ cA ∧ nA ≠ lA) ∧ (cA ≠ x ∧ cA ≠ nA ∧ cA ≠ lA ∧ lA ≠ x ∧ lA ≠ nA ∧ lA ≠ cA)
theorem RC.opn (g : RO) (h : RC w x nA cA lA kn) : ∃ (n rf md : Int32) (f : Nat → Int64) (gc gl : Nat → Option Nat),
  w x = some (.inr (5, [.ref nA, .ref cA, .ref lA, .int n, .int rf, .int kn, .int md])) ∧ w nA = some (.inl (0, 8, .inr (.inl f))) ∧ w cA = some (.inl (4, 6, qc gc)) ∧ w lA = some (.inl (4, 12, qc gl)) ∧
  (∀ (i b : Nat), gc i = some b → isR w b) ∧ (∀ (i b : Nat), gl i = some b → isR w b) ∧ ¬ n < 0 ∧ ¬ 12 < n ∧
  rd g w x = some (.inr (5, [.ref nA, .ref cA, .ref lA, .int n, .int rf, .int kn, .int md])) ∧ rd g w nA = some (.inl (0, 8, .inr (.inl f))) ∧ rd g w cA = some (.inl (4, 6, qc gc)) ∧ rd g w lA = some (.inl (4, 12, qc gl)) ∧
  (x ≠ nA ∧ x ≠ cA ∧ x ≠ lA ∧ nA ≠ x ∧ nA ≠ cA ∧ nA ≠ lA) ∧ (cA ≠ x ∧ cA ≠ nA ∧ cA ≠ lA ∧ lA ≠ x ∧ lA ≠ nA ∧ lA ≠ cA) := by
  obtain ⟨n, rf, md, f, gc, gl, h1, h2, h3, h4, h5, h6, h7, h8⟩ := h
  have e : ∀ {a b : Nat} {o1 o2 : Ob}, w a = some o1 → w b = some o2 → o1 ≠ o2 → a ≠ b := fun {a b o1 o2} z1 z2 z3 z4 => by
    subst z4
    exact z3 (Option.some.inj (z1.symm.trans z2))
  exact ⟨n, rf, md, f, gc, gl, h1, h2, h3, h4, h5, h6, h7, h8, rd_e h1, rd_e h2, rd_e h3, rd_e h4, ⟨e h1 h2 (by simp), e h1 h3 (by simp), e h1 h4 (by simp), e h2 h1 (by simp), e h2 h3 (by simp), e h2 h4 (by simp)⟩, ⟨e h3 h1 (by simp), e h3 h2 (by simp), e h3 h4 (by simp), e h4 h1 (by simp), e h4 h2 (by simp), e h4 h3 (by simp)⟩⟩
theorem FC.up {g : RO} {nA : Nat} {w0 w : Hw} {a : Nat} {o1 o2 : Ob} (h : FC g nA w0 w) (ha : w a = some o1) (hc : a = nA ∨ isC o1 = true) : FC g nA w0 (upw w a o2) := by
  refine ⟨fun b o k1 k2 k3 => ?_, fun b o k1 k2 => ?_⟩
  · have k := h.1 b o k1 k2 k3
    rw [upw_n]
    · exact k
    · rintro rfl
      rcases hc with e | e
      · exact k2 e
      · rw [ha] at k
        cases k
        rw [k3] at e
        cases e
  · have k := h.2 b o k1 k2
    rw [upw_n]
    · exact k
    · rintro rfl
      rw [ha] at k
      cases k
theorem CC.num (h : CC g w0 x nA cA lA kn w) (f' : Nat → Int64) : CC g w0 x nA cA lA kn (upw w nA (.inl (0, 8, .inr (.inl f')))) := by
  obtain ⟨n, rf, md, f, gc, gl, h1, h2, h3, h4, h5, h6, h7, h8, -, -, -, -, ⟨d1, d2, d3, d4, d5, d6⟩, ⟨d7, d8, d9, d10, d11, d12⟩⟩ := h.1.opn (fun _ => .null, fun _ => none)
  exact ⟨⟨n, rf, md, f', gc, gl, by rw [upw_n d1]; exact h1, upw_s _ _ _, by rw [upw_n d8]; exact h3, by rw [upw_n d11]; exact h4, fun i b z => isR_up2 (h5 i b z) h2 (by simp), fun i b z => isR_up2 (h6 i b z) h2 (by simp), h7, h8⟩, h.2.up h2 (Or.inl rfl)⟩
theorem CC.cards (h : CC g w0 x nA cA lA kn w) (g' : Nat → Option Nat) (hg : ∀ i b, g' i = some b → isR w b) : CC g w0 x nA cA lA kn (upw w cA (.inl (4, 6, qc g'))) := by
  obtain ⟨n, rf, md, f, gc, gl, h1, h2, h3, h4, h5, h6, h7, h8, -, -, -, -, ⟨d1, d2, d3, d4, d5, d6⟩, ⟨d7, d8, d9, d10, d11, d12⟩⟩ := h.1.opn (fun _ => .null, fun _ => none)
  exact ⟨⟨n, rf, md, f, g', gl, by rw [upw_n d2]; exact h1, by rw [upw_n d5]; exact h2, upw_s _ _ _, by rw [upw_n d12]; exact h4, fun i b z => isR_up2 (hg i b z) h3 (by simp), fun i b z => isR_up2 (h6 i b z) h3 (by simp), h7, h8⟩, h.2.up h3 (Or.inr rfl)⟩
theorem CC.laid (h : CC g w0 x nA cA lA kn w) (g' : Nat → Option Nat) (hg : ∀ i b, g' i = some b → isR w b) : CC g w0 x nA cA lA kn (upw w lA (.inl (4, 12, qc g'))) := by
  obtain ⟨n, rf, md, f, gc, gl, h1, h2, h3, h4, h5, h6, h7, h8, -, -, -, -, ⟨d1, d2, d3, d4, d5, d6⟩, ⟨d7, d8, d9, d10, d11, d12⟩⟩ := h.1.opn (fun _ => .null, fun _ => none)
  exact ⟨⟨n, rf, md, f, gc, g', by rw [upw_n d3]; exact h1, by rw [upw_n d6]; exact h2, by rw [upw_n d9]; exact h3, upw_s _ _ _, fun i b z => isR_up2 (h5 i b z) h4 (by simp), fun i b z => isR_up2 (hg i b z) h4 (by simp), h7, h8⟩, h.2.up h4 (Or.inr rfl)⟩
theorem CC.obj (h : CC g w0 x nA cA lA kn w) (n' rf' kn' md' : Int32) (k1 : ¬ n' < 0) (k2 : ¬ 12 < n') : CC g w0 x nA cA lA kn' (upw w x (.inr (5, [.ref nA, .ref cA, .ref lA, .int n', .int rf', .int kn', .int md']))) := by
  obtain ⟨n, rf, md, f, gc, gl, h1, h2, h3, h4, h5, h6, h7, h8, -, -, -, -, ⟨d1, d2, d3, d4, d5, d6⟩, ⟨d7, d8, d9, d10, d11, d12⟩⟩ := h.1.opn (fun _ => .null, fun _ => none)
  exact ⟨⟨n', rf', md', f, gc, gl, upw_s _ _ _, by rw [upw_n d4]; exact h2, by rw [upw_n d7]; exact h3, by rw [upw_n d10]; exact h4, fun i b z => isR_up2 (h5 i b z) h1 (by simp), fun i b z => isR_up2 (h6 i b z) h1 (by simp), k1, k2⟩, h.2.up h1 (Or.inr rfl)⟩
theorem up_ok {gc : Nat → Option Nat} {j : Nat} {q : Option Nat} (h : ∀ i b, gc i = some b → isR w b) (hq : ∀ b, q = some b → isR w b) : ∀ i b, va_up gc j q i = some b → isR w b := by
  intro i b z
  unfold va_up at z
  split at z
  · exact hq b z
  · exact h i b z
theorem exal {a : Nat} {b : vp_A} {P : vp_A → Prop} : (∃ (t : Nat) (z : vp_A), (some (.inl (a, b)) : Option Ob) = some (.inl (t, z)) ∧ t < 6 ∧ P z) = (a < 6 ∧ P b) := propext ⟨fun ⟨t, z, e, h, k⟩ => by cases e; exact ⟨h, k⟩, fun h => ⟨a, b, rfl, h⟩⟩
end RCU
/-- a reference out of a row: null, or one that is there -/
theorem rf_st {M : MT} {Q : Ot → Hw → Prop} {pc : Nat} {L : List (Option Value)} {o : Option Nat} {st : List Value} {w : Hw} {k n : Nat} : WP M Q (pc, L, va_rf o :: st, w, k, n) = ((o = none → WP M Q (pc, L, .null :: st, w, k, n)) ∧ ∀ b, o = some b → WP M Q (pc, L, .ref b :: st, w, k, n)) := by
  cases o with
  | none => exact propext ⟨fun h => ⟨fun _ => h, fun b z => by cases z⟩, fun h => h.1 rfl⟩
  | some a => exact propext ⟨fun h => ⟨(fun z => by cases z), fun b z => by cases z; exact h⟩, fun h => h.2 a rfl⟩
theorem t45_4 : ((4 : Nat) = 4 ∨ (4 : Nat) = 5) = True := eq_true (Or.inl rfl)
theorem t45_5 : ((5 : Nat) = 4 ∨ (5 : Nat) = 5) = True := eq_true (Or.inr rfl)
/-- a number for a switch -/
theorem sw_0 (a : Int32) (hi : Nat) (hh : hi < 100) : (∃ k : Nat, k ≤ hi ∧ a = Int32.ofNat k) ∨ (a.toInt < 0 ∨ (hi : Int) < a.toInt) := by
  by_cases h : a.toInt < 0
  · exact Or.inr (Or.inl h)
  · by_cases h2 : (hi : Int) < a.toInt
    · exact Or.inr (Or.inr h2)
    · refine Or.inl ⟨a.toInt.toNat, by omega, ?_⟩
      apply Int32.toInt_inj.mp
      rw [Int32.toInt_ofNat_of_lt (by omega)]
      omega
theorem sw02 (a : Int32) : a = 0 ∨ a = 1 ∨ a = 2 ∨ (a.toInt < 0 ∨ 2 < a.toInt) := by
  rcases sw_0 a 2 (by decide) with ⟨k, h, rfl⟩ | h
  · match k, h with
    | 0, _ => exact Or.inl rfl
    | 1, _ => exact Or.inr (Or.inl rfl)
    | 2, _ => exact Or.inr (Or.inr (Or.inl rfl))
  · exact Or.inr (Or.inr (Or.inr h))
theorem sw03 (a : Int32) : a = 0 ∨ a = 1 ∨ a = 2 ∨ a = 3 ∨ (a.toInt < 0 ∨ 3 < a.toInt) := by
  rcases sw_0 a 3 (by decide) with ⟨k, h, rfl⟩ | h
  · match k, h with
    | 0, _ => exact Or.inl rfl
    | 1, _ => exact Or.inr (Or.inl rfl)
    | 2, _ => exact Or.inr (Or.inr (Or.inl rfl))
    | 3, _ => exact Or.inr (Or.inr (Or.inr (Or.inl rfl)))
  · exact Or.inr (Or.inr (Or.inr (Or.inr h)))
theorem sw12 (a : Int32) : a = 1 ∨ a = 2 ∨ (a.toInt < 1 ∨ 2 < a.toInt) := by
  rcases sw_0 a 2 (by decide) with ⟨k, h, rfl⟩ | h
  · match k, h with
    | 0, _ => exact Or.inr (Or.inr (Or.inl (by decide)))
    | 1, _ => exact Or.inl rfl
    | 2, _ => exact Or.inr (Or.inl rfl)
  · exact Or.inr (Or.inr (by omega))
theorem sw24 (a : Int32) : a = 2 ∨ a = 3 ∨ a = 4 ∨ (a.toInt < 2 ∨ 4 < a.toInt) := by
  rcases sw_0 a 4 (by decide) with ⟨k, h, rfl⟩ | h
  · match k, h with
    | 0, _ => exact Or.inr (Or.inr (Or.inr (Or.inl (by decide))))
    | 1, _ => exact Or.inr (Or.inr (Or.inr (Or.inl (by decide))))
    | 2, _ => exact Or.inl rfl
    | 3, _ => exact Or.inr (Or.inl rfl)
    | 4, _ => exact Or.inr (Or.inr (Or.inl rfl))
  · exact Or.inr (Or.inr (Or.inr (by omega)))
theorem sw15 (a : Int32) : a = 1 ∨ a = 2 ∨ a = 3 ∨ a = 4 ∨ a = 5 ∨ (a.toInt < 1 ∨ 5 < a.toInt) := by
  rcases sw_0 a 5 (by decide) with ⟨k, h, rfl⟩ | h
  · match k, h with
    | 0, _ => exact Or.inr (Or.inr (Or.inr (Or.inr (Or.inr (Or.inl (by decide))))))
    | 1, _ => exact Or.inl rfl
    | 2, _ => exact Or.inr (Or.inl rfl)
    | 3, _ => exact Or.inr (Or.inr (Or.inl rfl))
    | 4, _ => exact Or.inr (Or.inr (Or.inr (Or.inl rfl)))
    | 5, _ => exact Or.inr (Or.inr (Or.inr (Or.inr (Or.inl rfl))))
  · exact Or.inr (Or.inr (Or.inr (Or.inr (Or.inr (by omega)))))
/-- counting up to and with -/
theorem ic_zl {i c : Int32} (h : ¬ c < i) (hm : c.toInt + 1 - i.toInt ≤ ((0 : Nat) : Int)) : False := by
  have h1 := i32_nlt h
  omega
theorem i32_sl {i c : Int32} (h : ¬ c < i) (hc : c.toInt < 1000000) : (i + 1).toInt = i.toInt + 1 := by
  have h1 := i32_nlt h
  have h3 := i32_bd i
  exact i32_add (by show -2147483648 ≤ i.toInt + 1; omega) (by show i.toInt + 1 ≤ 2147483647; omega)
theorem ic_sl {i c : Int32} {d : Nat} (h : ¬ c < i) (hm : c.toInt + 1 - i.toInt ≤ ((d + 1 : Nat) : Int)) (hc : c.toInt < 1000000) : c.toInt + 1 - (i + 1).toInt ≤ (d : Int) := by
  rw [i32_sl h hc]
  omega
theorem ic_pl {i c : Int32} (h0 : ¬ i < 0) (h : ¬ c < i) (hc : c.toInt < 1000000) : ¬ i + 1 < 0 := by
  refine i32_of_nlt ?_
  rw [i32_sl h hc]
  have := i32_0 h0
  show (0 : Int) ≤ i.toInt + 1
  omega
theorem n12 {n : Int32} (h : ¬ 12 < n) : n.toInt - (0 : Int32).toInt ≤ ((70 : Nat) : Int) := by
  have h1 : n.toInt ≤ 12 := i32_nlt h
  show n.toInt - 0 ≤ 70
  omega
theorem n60 {n : Int32} (h : ¬ 60 < n) : n.toInt - (0 : Int32).toInt ≤ ((70 : Nat) : Int) := by
  have h1 : n.toInt ≤ 60 := i32_nlt h
  show n.toInt - 0 ≤ 70
  omega
theorem vpi12 {a n : Int32} (h0 : ¬ a < 0) (h1 : a < n) (hn : ¬ 12 < n) : vp_in a 12 := by
  have h2 := i32_lt h1
  have h3 : n.toInt ≤ 12 := i32_nlt hn
  have h4 := i32_0 h0
  rintro (h | h)
  · exact h0 h
  · have e1 : a.toNatClampNeg = a.toInt.toNat := rfl
    omega
theorem i02 {a : Int32} (h0 : ¬ a < 0) (h1 : ¬ 2 < a) : a = 0 ∨ a = 1 ∨ a = 2 := by
  rcases sw02 a with h | h | h | h
  · exact Or.inl h
  · exact Or.inr (Or.inl h)
  · exact Or.inr (Or.inr h)
  · have h2 := i32_0 h0
    have h3 : a.toInt ≤ 2 := i32_nlt h1
    omega
theorem i03 {a : Int32} (h0 : ¬ a < 0) (h1 : ¬ 3 < a) : a = 0 ∨ a = 1 ∨ a = 2 ∨ a = 3 := by
  rcases sw03 a with h | h | h | h | h
  · exact Or.inl h
  · exact Or.inr (Or.inl h)
  · exact Or.inr (Or.inr (Or.inl h))
  · exact Or.inr (Or.inr (Or.inr h))
  · have h2 := i32_0 h0
    have h3 : a.toInt ≤ 3 := i32_nlt h1
    omega
/-- counting down -/
theorem id_z {i : Int32} (h : ¬ i < 0) (hm : i.toInt + 1 ≤ ((0 : Nat) : Int)) : False := by
  have h1 := i32_0 h
  omega
theorem id_1 {i : Int32} (h : ¬ i < 0) : (i + -1).toInt = i.toInt - 1 := by
  have h1 := i32_0 h
  have h3 := i32_bd i
  have e : (-1 : Int32).toInt = -1 := by decide
  rw [i32_add (by rw [e]; omega) (by rw [e]; omega), e]
  omega
theorem id_s {i : Int32} {d : Nat} (h : ¬ i < 0) (hm : i.toInt + 1 ≤ ((d + 1 : Nat) : Int)) : (i + -1).toInt + 1 ≤ (d : Int) := by
  rw [id_1 h]
  omega
theorem id_p {i n : Int32} (h : ¬ i < 0) (hn : i < n) : i + -1 < n := by
  have h1 := i32_lt hn
  refine i32_of_lt ?_
  rw [id_1 h]
  omega
theorem id_e {n : Int32} (h : ¬ n < 0) (h2 : ¬ 12 < n) : n - 1 < n := by
  have h1 := i32_0 h
  have h3 := i32_bd n
  refine i32_of_lt ?_
  rw [i32_sub (by show -2147483648 ≤ n.toInt - 1; omega) (by show n.toInt - 1 ≤ 2147483647; omega)]
  show n.toInt - 1 < n.toInt
  omega
theorem id_m {n : Int32} (h : ¬ n < 0) (h2 : ¬ 12 < n) : (n - 1).toInt + 1 ≤ ((70 : Nat) : Int) := by
  have h1 := i32_0 h
  have h3 := i32_bd n
  have h4 : n.toInt ≤ 12 := i32_nlt h2
  rw [i32_sub (by show -2147483648 ≤ n.toInt - 1; omega) (by show n.toInt - 1 ≤ 2147483647; omega)]
  show n.toInt - 1 + 1 ≤ 70
  omega
