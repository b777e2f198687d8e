section
abbrev Ob : Type := (Nat × vp_A) ⊕ (Nat × List Value)
abbrev Hw : Type := Nat → Option Ob
abbrev Ot : Type := Option Value ⊕ String
/-- what is read only: the values of statics and of texts by their numbers; the old cells that are read -/
abbrev RO : Type := (Nat → Value) × Hw
/-- class numbers, field places, array class numbers, the first address that is ours, what is read only -/
abbrev GT : Type := (Nat → ClassId) × (Nat → Nat → Nat) × (Nat → ClassId) × Nat × RO
abbrev gN (G : GT) : Nat := G.2.2.2.1
abbrev gg (G : GT) : RO := G.2.2.2.2
def gA (G : GT) : Nat → Prop := fun q => gN G ≤ q
/-- a cell of ours, or a read one -/
def rd (g : RO) (w : Hw) (a : Nat) : Option Ob := match w a with
  | some o => some o
  | none => g.2 a
theorem rd_e {g : RO} {w : Hw} {a : Nat} {o : Ob} (h : w a = some o) : rd g w a = some o := by
  unfold rd; rw [h]
def obE (G : GT) : Ob → va_E
  | .inl (k, a) => .inl (G.2.2.1 k, a)
  | .inr o => .inr o
abbrev atyL : List FieldType := [.long, .int, .byte, .boolean, .object "Rangecard$Range", .object "java/lang/Object"]
abbrev gTys (G : GT) : List (ClassId × FieldType) := [(G.2.2.1 0, .long), (G.2.2.1 1, .int), (G.2.2.1 2, .byte), (G.2.2.1 3, .boolean), (G.2.2.1 4, .object "Rangecard$Range"), (G.2.2.1 5, .object "java/lang/Object")]
abbrev gD (G : GT) : va_G := (G.1, G.2.1)
def gK (G : GT) (U : State) : Prop := va_K (gD G) vwCl (gTys G) U
theorem gTys_at (G : GT) {k : Nat} {ty : FieldType} (h : atyL[k]? = some ty) : (gTys G)[k]? = some (G.2.2.1 k, ty) := by
  match k, h with
  | 0, h => cases h; rfl
  | 1, h => cases h; rfl
  | 2, h => cases h; rfl
  | 3, h => cases h; rfl
  | 4, h => cases h; rfl
  | 5, h => cases h; rfl
  | k + 6, h => simp [atyL] at h
def hB (G : GT) (w : Hw) (ws : va_W) : Prop := ∀ (q : Nat) (o : Ob), w q = some o → ∃ k : Nat, ws[k]? = some (q, obE G o)
def hR (G : GT) (w : Hw) (H : Heap) : Prop := ∃ ws : va_W, va_P (gD G) vwCl ws H ∧ va_D (gA G) ws ∧ hB G w ws
def upw (w : Hw) (a : Nat) (o : Ob) : Hw := fun q => if q = a then some o else w q
theorem upw_s (w : Hw) (a : Nat) (o : Ob) : upw w a o a = some o := if_pos rfl
theorem upw_n {w : Hw} {a b : Nat} {o : Ob} (h : b ≠ a) : upw w a o b = w b := if_neg h
theorem hB.set {G : GT} {w : Hw} {ws : va_W} {A : Nat → Prop} (h : hB G w ws) (hD : va_D A ws) {k a : Nat} {e0 : va_E} (hk : ws[k]? = some (a, e0)) (o : Ob) : hB G (upw w a o) (ws.set k (a, obE G o)) := by
  have hl := (List.getElem?_eq_some_iff.mp hk).1
  intro q o2 hq
  by_cases e : q = a
  · subst e
    rw [upw_s] at hq
    cases hq
    exact ⟨k, List.getElem?_set_self hl⟩
  · rw [upw_n e] at hq
    obtain ⟨j, hj⟩ := h q o2 hq
    refine ⟨j, ?_⟩
    rw [List.getElem?_set_ne]
    · exact hj
    · intro z
      subst z
      rw [hk] at hj
      cases hj
      exact e rfl
theorem hB.push {G : GT} {w : Hw} {ws : va_W} {A : Nat → Prop} (h : hB G w ws) {q : Nat} {o : Ob} (hD : va_D A (ws ++ [(q, obE G o)])) : w q = none ∧ hB G (upw w q o) (ws ++ [(q, obE G o)]) := by
  have hlast : (ws ++ [(q, obE G o)])[ws.length]? = some (q, obE G o) := by simp
  have h0 : w q = none := by
    cases hz : w q with
    | none => rfl
    | some o2 =>
      obtain ⟨j, hj⟩ := h q o2 hz
      have hl := (List.getElem?_eq_some_iff.mp hj).1
      have := hD.1 j ws.length (q, obE G o2) (q, obE G o) (by rw [List.getElem?_append_left hl]; exact hj) hlast rfl
      omega
  refine ⟨h0, fun a o2 ha => ?_⟩
  by_cases e : a = q
  · subst e
    rw [upw_s] at ha
    cases ha
    exact ⟨_, hlast⟩
  · rw [upw_n e] at ha
    obtain ⟨j, hj⟩ := h a o2 ha
    exact ⟨j, by rw [List.getElem?_append_left (List.getElem?_eq_some_iff.mp hj).1]; exact hj⟩
def LOK (ls : Array Slot) (L : List (Option Value)) : Prop := ls.size = L.length ∧ lv_wf ls ∧ ∀ (i : Nat) (v : Value), L[i]? = some (some v) → ls[i]? = some (.val v)
def nl : Option Value → Option Value
  | some (.long _) => none
  | some (.double _) => none
  | x => x
theorem nl_some {x : Option Value} {v : Value} (h : nl x = some v) : x = some v ∧ v.category = 1 := by
  cases x with
  | none => cases h
  | some u => cases u <;> first | (cases h; done) | (cases h; exact ⟨rfl, rfl⟩)
def sto1 : List (Option Value) → Nat → Value → List (Option Value)
  | [], _, _ => []
  | _ :: l, 0, v => some v :: l
  | [a], 1, _ => [a]
  | a :: _ :: l, 1, v => nl a :: some v :: l
  | a :: l, (i + 2), v => a :: sto1 l (i + 1) v
def sto2 : List (Option Value) → Nat → Value → List (Option Value)
  | [], _, _ => []
  | [a], 0, _ => [a]
  | _ :: _ :: l, 0, v => some v :: none :: l
  | a :: _ :: _ :: l, 1, v => nl a :: some v :: none :: l
  | a :: l, 1, _ => a :: l
  | a :: l, (i + 2), v => a :: sto2 l (i + 1) v
theorem sto1_len (v : Value) : ∀ (L : List (Option Value)) (i : Nat), (sto1 L i v).length = L.length
  | [], i => by cases i <;> rfl
  | _ :: l, 0 => rfl
  | [a], 1 => rfl
  | a :: _ :: l, 1 => rfl
  | a :: l, (i + 2) => by simp [sto1, sto1_len v l (i + 1)]
theorem sto2_len (v : Value) : ∀ (L : List (Option Value)) (i : Nat), (sto2 L i v).length = L.length
  | [], i => by cases i <;> rfl
  | [a], 0 => rfl
  | _ :: _ :: l, 0 => rfl
  | a :: _ :: _ :: l, 1 => rfl
  | [a], 1 => rfl
  | [a, b], 1 => rfl
  | a :: l, (i + 2) => by simp [sto2, sto2_len v l (i + 1)]
theorem sto1_get (v : Value) : ∀ (L : List (Option Value)) (i j : Nat) (u : Value), i < L.length → (sto1 L i v)[j]? = some (some u) → (j = i ∧ u = v) ∨ (L[j]? = some (some u) ∧ j ≠ i ∧ ¬ (j + 1 = i ∧ u.category = 2))
  | [], i, j, u => fun h => by simp at h
  | a :: l, 0, 0, u => fun _ h => by
      simp [sto1] at h
      exact Or.inl ⟨rfl, h.symm⟩
  | a :: l, 0, j + 1, u => fun _ h => by
      simp only [sto1, List.getElem?_cons_succ] at h
      exact Or.inr ⟨by simpa using h, by omega, by omega⟩
  | [a], 1, j, u => fun h => by simp at h
  | a :: b :: l, 1, 0, u => fun _ h => by
      simp only [sto1, List.getElem?_cons_zero, Option.some.injEq] at h
      obtain ⟨h1, h2⟩ := nl_some h
      exact Or.inr ⟨by simp [h1], by omega, by omega⟩
  | a :: b :: l, 1, 1, u => fun _ h => by
      simp [sto1] at h
      exact Or.inl ⟨rfl, h.symm⟩
  | a :: b :: l, 1, j + 2, u => fun _ h => by
      simp only [sto1, List.getElem?_cons_succ] at h
      exact Or.inr ⟨by simpa using h, by omega, by omega⟩
  | a :: l, i + 2, 0, u => fun _ h => by
      simp only [sto1, List.getElem?_cons_zero, Option.some.injEq] at h
      exact Or.inr ⟨by simp [h], by omega, by omega⟩
  | a :: l, i + 2, j + 1, u => fun hl h => by
      simp only [sto1, List.getElem?_cons_succ] at h
      rcases sto1_get v l (i + 1) j u (by simp at hl; omega) h with ⟨h1, h2⟩ | ⟨h1, h2, h3⟩
      · exact Or.inl ⟨by omega, h2⟩
      · exact Or.inr ⟨by simpa using h1, by omega, by omega⟩
theorem sto2_get (v : Value) : ∀ (L : List (Option Value)) (i j : Nat) (u : Value), i + 1 < L.length → (sto2 L i v)[j]? = some (some u) → (j = i ∧ u = v) ∨ (L[j]? = some (some u) ∧ j ≠ i ∧ j ≠ i + 1 ∧ ¬ (j + 1 = i ∧ u.category = 2))
  | [], i, j, u => fun h => by simp at h
  | [a], 0, j, u => fun h => by simp at h
  | a :: b :: l, 0, 0, u => fun _ h => by
      simp [sto2] at h
      exact Or.inl ⟨rfl, h.symm⟩
  | a :: b :: l, 0, 1, u => fun _ h => by simp [sto2] at h
  | a :: b :: l, 0, j + 2, u => fun _ h => by
      simp only [sto2, List.getElem?_cons_succ] at h
      exact Or.inr ⟨by simpa using h, by omega, by omega, by omega⟩
  | [a], 1, j, u => fun h => by simp at h
  | [a, b], 1, j, u => fun h => by simp at h
  | a :: b :: c :: l, 1, 0, u => fun _ h => by
      simp only [sto2, List.getElem?_cons_zero, Option.some.injEq] at h
      obtain ⟨h1, h2⟩ := nl_some h
      exact Or.inr ⟨by simp [h1], by omega, by omega, by omega⟩
  | a :: b :: c :: l, 1, 1, u => fun _ h => by
      simp [sto2] at h
      exact Or.inl ⟨rfl, h.symm⟩
  | a :: b :: c :: l, 1, 2, u => fun _ h => by simp [sto2] at h
  | a :: b :: c :: l, 1, j + 3, u => fun _ h => by
      simp only [sto2, List.getElem?_cons_succ] at h
      exact Or.inr ⟨by simpa using h, by omega, by omega, by omega⟩
  | a :: l, i + 2, 0, u => fun _ h => by
      simp only [sto2, List.getElem?_cons_zero, Option.some.injEq] at h
      exact Or.inr ⟨by simp [h], by omega, by omega, by omega⟩
  | a :: l, i + 2, j + 1, u => fun hl h => by
      simp only [sto2, List.getElem?_cons_succ] at h
      rcases sto2_get v l (i + 1) j u (by simp at hl; omega) h with ⟨h1, h2⟩ | ⟨h1, h2, h3, h4⟩
      · exact Or.inl ⟨by omega, h2⟩
      · exact Or.inr ⟨by simpa using h1, by omega, by omega, by omega⟩
/-- the list of the held values, as the kit has it -/
def lvL (L : List (Option Value)) : List (Nat × Value) := (List.range L.length).filterMap (fun i => match L[i]? with | some (some v) => some (i, v) | _ => none)
theorem lvL_in {L : List (Option Value)} {i : Nat} {v : Value} : (i, v) ∈ lvL L ↔ L[i]? = some (some v) := by
  unfold lvL
  rw [List.mem_filterMap]
  constructor
  · rintro ⟨j, -, h⟩
    split at h
    · next u hu => cases h; exact hu
    · cases h
  · intro h
    refine ⟨i, List.mem_range.mpr (List.getElem?_eq_some_iff.mp h).1, ?_⟩
    rw [h]
theorem LOK.has {ls : Array Slot} {L : List (Option Value)} (h : LOK ls L) : lv_has ls L.length (lvL L) := ⟨h.1, h.2.1, fun q hq => h.2.2 q.1 q.2 (lvL_in.mp hq)⟩
theorem LOK.st1 {ls' : Array Slot} {L : List (Option Value)} {i : Nat} {v : Value} (hi : i < L.length) (h : lv_has ls' L.length ((i, v) :: (lvL L).filter (fun q => !(q.1 == i) && !(q.1 + 1 == i && q.2.category == 2)))) : LOK ls' (sto1 L i v) := by
  refine ⟨by rw [sto1_len]; exact h.1, h.2.1, fun j u hj => ?_⟩
  rcases sto1_get v L i j u hi hj with ⟨rfl, rfl⟩ | ⟨h1, h2, h3⟩
  · exact h.2.2 (_, _) List.mem_cons_self
  · refine h.2.2 (j, u) (List.mem_cons_of_mem _ (List.mem_filter.mpr ⟨lvL_in.mpr h1, ?_⟩))
    simp only [Bool.and_eq_true, Bool.not_eq_true', beq_eq_false_iff_ne, ne_eq, Bool.and_eq_false_iff]
    refine ⟨h2, ?_⟩
    by_cases z : j + 1 = i
    · exact Or.inr fun q => h3 ⟨z, q⟩
    · exact Or.inl z
theorem LOK.st2 {ls' : Array Slot} {L : List (Option Value)} {i : Nat} {v : Value} (hi : i + 1 < L.length) (h : lv_has ls' L.length ((i, v) :: (lvL L).filter (fun q => !(q.1 == i) && (!(q.1 == i + 1) && !(q.1 + 1 == i && q.2.category == 2))))) : LOK ls' (sto2 L i v) := by
  refine ⟨by rw [sto2_len]; exact h.1, h.2.1, fun j u hj => ?_⟩
  rcases sto2_get v L i j u hi hj with ⟨rfl, rfl⟩ | ⟨h1, h2, h4, h3⟩
  · exact h.2.2 (_, _) List.mem_cons_self
  · refine h.2.2 (j, u) (List.mem_cons_of_mem _ (List.mem_filter.mpr ⟨lvL_in.mpr h1, ?_⟩))
    simp only [Bool.and_eq_true, Bool.not_eq_true', beq_eq_false_iff_ne, ne_eq, Bool.and_eq_false_iff]
    refine ⟨h2, h4, ?_⟩
    by_cases z : j + 1 = i
    · exact Or.inr fun q => h3 ⟨z, q⟩
    · exact Or.inl z
/-- a method's locals at its entry -/
def entL : List Value → Nat → List (Option Value)
  | [], n => List.replicate n none
  | .long x :: r, n => some (.long x) :: none :: entL r (n - 2)
  | .double x :: r, n => some (.double x) :: none :: entL r (n - 2)
  | v :: r, n => some v :: entL r (n - 1)
theorem entL_get : ∀ (vs : List Value) (n b j : Nat) (u : Value), (entL vs n)[j]? = some (some u) → (b + j, u) ∈ lv_args b vs
  | [], n, b, j, u => fun h => by
      simp only [entL] at h
      have := List.eq_of_mem_replicate (List.mem_of_getElem? h)
      cases this
  | v :: r, n, b, j, u => fun h => by
      have key2 : v.category = 2 → (some v :: none :: entL r (n - 2))[j]? = some (some u) → (b + j, u) ∈ lv_args b (v :: r) := by
        intro hc h
        simp only [lv_args, hc, if_true]
        match j, h with
        | 0, h => simp at h; subst h; exact List.mem_cons_self
        | 1, h => simp at h
        | j + 2, h =>
          simp only [List.getElem?_cons_succ] at h
          have := entL_get r (n - 2) (b + 2) j u h
          rw [show b + (j + 2) = b + 2 + j by omega]
          exact List.mem_cons_of_mem _ this
      have key1 : ¬ v.category = 2 → (some v :: entL r (n - 1))[j]? = some (some u) → (b + j, u) ∈ lv_args b (v :: r) := by
        intro hc h
        simp only [lv_args, hc, if_false]
        match j, h with
        | 0, h => simp at h; subst h; exact List.mem_cons_self
        | j + 1, h =>
          simp only [List.getElem?_cons_succ] at h
          have := entL_get r (n - 1) (b + 1) j u h
          rw [show b + (j + 1) = b + 1 + j by omega]
          exact List.mem_cons_of_mem _ this
      cases v <;> first | exact key2 rfl h | exact key1 (by simp [Value.category]) h
theorem entL_len : ∀ (vs : List Value) (n : Nat), (vs.map fun v => v.category).sum ≤ n → (entL vs n).length = n
  | [], n, _ => by simp [entL]
  | v :: r, n, h => by
      rw [List.map_cons, List.sum_cons] at h
      have k2 : 2 + (r.map fun v => v.category).sum ≤ n → (none :: none :: entL r (n - 2)).length = n := fun h2 => by
        rw [List.length_cons, List.length_cons, entL_len r _ (by omega)]
        omega
      have k1 : 1 + (r.map fun v => v.category).sum ≤ n → (none :: entL r (n - 1)).length = n := fun h2 => by
        rw [List.length_cons, entL_len r _ (by omega)]
        omega
      cases v <;> first | exact k2 h | exact k1 h
theorem entL_ok (vs : List Value) {n : Nat} (h : (vs.map fun v => v.category).sum ≤ n) : LOK ((lg_sl vs ++ List.replicate (n - (lg_sl vs).length) Slot.unset).toArray) (entL vs n) := by
  have hl : ∀ us : List Value, (lg_sl us).length = (us.map fun v => v.category).sum := by
    intro us
    induction us with
    | nil => rfl
    | cons v r ih =>
      have : lg_sl (v :: r) = (if v.category = 2 then [Slot.val v, .second] else [.val v]) ++ lg_sl r := rfl
      rw [this, List.length_append, ih, List.map_cons, List.sum_cons]
      rcases lv_cat v with e | e <;> simp [e]
  have k := lv_entry vs (n := n) (by rw [hl]; exact h)
  refine ⟨by rw [entL_len vs n h]; exact k.1, k.2.1, fun i v hi => ?_⟩
  have := entL_get vs n 0 i v hi
  rw [Nat.zero_add] at this
  exact k.2.2 (i, v) this
end
