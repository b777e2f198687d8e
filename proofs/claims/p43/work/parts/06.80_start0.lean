section
def R_law : String := "RangecardLaw"
def lw_P (b : Addr) (xs : List Int32) (args : Array Value) (s : State) : Prop := args = #[.ref b] ∧ s.IntsAt b xs ∧ xs.length ≤ 3072 ∧ (Jvm.Cond.and given_1 narrow_1).before args s = true
def lw_Q (_ : Array Value) (s : State) (o : Outcome) (t : State) : Prop := o = .returned (some (.int 1)) ∧ Framed s o t [] 688179 7031566
def lw_Z (below : List Frame) (a : Array Value) (s : State) : State → Prop := fun t => ∃ o, t.status = .running ∧ Ended t below o ∧ lw_Q a s o t
/-- what holds at the law's entry: the machine, the code, the tables' words (any of lw_tbl by 'hts w (by decide +kernel)'), the script of L ints xs at the cell b, what the Statement gives of the start (any of its parts by flat_of_before) -/
def lw_At (p : Program) (s : State) (m : MethodId) (meth : Method) (c : Code) (b L : Nat) (xs : Nat → Int32) : Prop :=
  p.tables.exec = Jvm.exec ∧ c.code = code ∧ meth.sig.returnType = ret ∧ c.maxLocals = 7 ∧ s.vm.findClass R_law = some m.cls ∧ (∀ w ∈ lw_tbl, w.before #[Value.ref b] s = true) ∧ va_X b L xs s s.heap ∧ b < s.heap.size ∧ meth.locks = false ∧ (Jvm.Cond.and given_1 narrow_1).before #[Value.ref b] s = true
section
variable {args : Array Value} {s : State}
theorem room_less {pl : Platform} {r R : Room} (hf : r.frames ≤ R.frames) (hl : r.locals ≤ R.locals) (hc : r.cells ≤ R.cells) (hs : r.slots ≤ R.slots) (h : s.hasRoom pl R = true) : s.hasRoom pl r = true := by
  simp only [State.hasRoom, Bool.and_eq_true, decide_eq_true_eq] at h ⊢
  obtain ⟨⟨⟨⟨h1, h2, h3, h4, h5, h6⟩, h7⟩, h8⟩, h9⟩ := h
  exact ⟨⟨⟨⟨by omega, by omega, by omega, by omega, by omega, h6⟩, by omega⟩, by omega⟩, h9⟩
theorem W_room {p : Program} {l : Launch} {e : Env} {R R' : Room} {m : MethodId} {below : List Frame} {meth : Method} {c : Code} {H : Heap} {locs : List Loc} {cells slots : Nat} {Q : State → Prop} {g : JFrame} (hf : R'.frames ≤ R.frames) (hl : R'.locals ≤ R.locals) (hc : R'.cells ≤ R.cells) (hs : R'.slots ≤ R.slots) (k : W p l e R' s m args below meth c H locs cells slots Q g) : W p l e R s m args below meth c H locs cells slots Q g := fun T hT X => k T hT { X with room := room_less hf hl hc hs X.room }
theorem W_post {p : Program} {l : Launch} {e : Env} {R : Room} {m : MethodId} {below : List Frame} {meth : Method} {c : Code} {H : Heap} {locs : List Loc} {cells slots : Nat} {Q Q' : State → Prop} {g : JFrame} (hq : ∀ t, Q t → Q' t) (k : W p l e R s m args below meth c H locs cells slots Q g) : W p l e R s m args below meth c H locs cells slots Q' g := fun T hT X => by
  obtain ⟨t, a, b⟩ := k T hT X
  exact ⟨t, a, hq t b⟩
theorem MQ_end {below : List Frame} {G : GT} {mc ms : Nat} {t : State} (hG : gN G = s.heap.size) (hc : mc ≤ 688179) (hs : ms ≤ 7031566) (h : vx_MQ below (qC G QLaw) (qX G QLaw) args s mc ms (gA G) t) : lw_Z below args s t := by
  obtain ⟨o, h1, h2, h3⟩ := h
  rcases h3 with ⟨⟨v, w', ho, hq, -, -⟩, L, hF, hL⟩ | ⟨q, ho, E, ce, L, ⟨w', hq, -⟩, -⟩
  · have hv : v = some (.int 1) := Sum.inl.inj hq
    subst hv
    obtain ⟨-, hW, hsm⟩ := hF
    exact ⟨o, h1, h2, ho, ⟨_, ho⟩, hW, hsm.weaken (fun y hy hlt => absurd hlt (Nat.not_lt.mpr (hG ▸ hL y hy))) hc hs⟩
  · cases hq
theorem bf_l {a b : Jvm.Cond} {args : Array Value} {s : State} (h : (Jvm.Cond.and a b).before args s = true) : a.before args s = true := by
  rw [Cond.before_and, Bool.and_eq_true] at h
  exact h.1
theorem bf_r {a b : Jvm.Cond} {args : Array Value} {s : State} (h : (Jvm.Cond.and a b).before args s = true) : b.before args s = true := by
  rw [Cond.before_and, Bool.and_eq_true] at h
  exact h.2
theorem st_word {w : Jvm.Cond} (hgv : (Jvm.Cond.and given_1 narrow_1).before args s = true) (i : Nat) (h : (flatC (Jvm.Cond.and given_1 narrow_1))[i]? = some w) : w.before args s = true := flat_of_before _ hgv _ (List.mem_of_getElem? h)
theorem st_sel {y z : MethodName} {C : String} (hz : z.cls = y.cls) (hy : y.cls ≠ "java/lang/invoke/MethodHandle" ∧ y.cls ≠ "java/lang/invoke/VarHandle") (h0 : (Jvm.Cond.selects C z z).before args s = true) (hp : (Jvm.Cond.privateMethod y).before args s = true) (hi : (Jvm.Cond.instanceMethod y).before args s = true) : (Jvm.Cond.selects C y y).before args s = true := by
  obtain ⟨c, r, m, hc, -, hm, -, mk, hmk, hni⟩ := Cond.selects_spec (args := args) (first := s) (o := none) (s := s) (idx := []) h0
  obtain ⟨n, meth, hn, hmeth, -, -⟩ := Cond.instanceMethod_spec (args := args) (first := s) (o := none) (s := s) (idx := []) hi
  have hf : s.methodFound? y.cls y.name y.desc = some n := State.methodFound?_of_named hn hy
  have hcls : n.cls = m.cls := by
    have h1 := findClass_of_methodNamed hn
    have h2 := findClass_of_methodNamed hm
    rw [hz, h1] at h2
    exact Option.some.inj h2
  have hsel : selectMethod {} s.vm c n = .method n := selectMethod_private hmeth (Cond.privateMethod_at hp n meth hn hmeth)
  simp only [Cond.before, Cond.holds, Cond.value, hc, hf, hn, hsel, hcls, hmk]
  simp [hni]
theorem asb_in : ∀ y ∈ asbP, y.cls = "java/lang/AbstractStringBuilder" ∧ Jvm.Cond.privateMethod y ∈ lw_tbl ∧ Jvm.Cond.instanceMethod y ∈ lw_tbl := List.forall_mem_cons.mpr ⟨⟨rfl, (tm_3 (List.mem_of_getElem? (i := 10) (by eq_refl))), (tm_3 (List.mem_of_getElem? (i := 11) (by eq_refl)))⟩, List.forall_mem_cons.mpr ⟨⟨rfl, (tm_3 (List.mem_of_getElem? (i := 14) (by eq_refl))), (tm_3 (List.mem_of_getElem? (i := 15) (by eq_refl)))⟩, List.forall_mem_cons.mpr ⟨⟨rfl, (tm_3 (List.mem_of_getElem? (i := 227) (by eq_refl))), (tm_3 (List.mem_of_getElem? (i := 228) (by eq_refl)))⟩, List.forall_mem_cons.mpr ⟨⟨rfl, (tm_3 (List.mem_of_getElem? (i := 231) (by eq_refl))), (tm_3 (List.mem_of_getElem? (i := 232) (by eq_refl)))⟩, fun _ h => absurd h List.not_mem_nil⟩⟩⟩⟩
theorem st_WS (hts : ∀ w ∈ lw_tbl, w.before args s = true) : ∀ w ∈ WS, w.before args s = true := by
  intro w hw
  rcases List.mem_append.mp hw with h | h
  · obtain ⟨y, hy, rfl⟩ := List.mem_map.mp h
    obtain ⟨h1, h2, h3⟩ := asb_in y hy
    refine st_sel (z := ⟨"java/lang/AbstractStringBuilder", "isLatin1", "()Z"⟩) h1.symm ?_ (hts _ (tm_3 (List.mem_of_getElem? (i := 47) (by eq_refl)))) (hts _ h2) (hts _ h3)
    rw [h1]
    decide
  · exact hts w (List.mem_filter.mp h).1
theorem sW_0 : ∀ w ∈ u_ws RJ0 TJ0 4, w ∈ WS := lay_in fun k hk => match k, hk with | 0, _ => WS_t4 15 (by eq_refl) (by eq_refl) | 1, _ => WS_t4 17 (by eq_refl) (by eq_refl) | 2, _ => WS_t4 19 (by eq_refl) (by eq_refl) | 3, _ => WS_t4 21 (by eq_refl) (by eq_refl) | k + 4, hk => absurd hk (Nat.not_lt.mpr (Nat.le_add_left _ _))
theorem sW_1 : ∀ w ∈ u_ws RJ4 TJ4 4, w ∈ WS := lay_in fun k hk => match k, hk with | 0, _ => WS_t2 223 (by eq_refl) (by eq_refl) | 1, _ => WS_t2 225 (by eq_refl) (by eq_refl) | 2, _ => WS_t2 227 (by eq_refl) (by eq_refl) | 3, _ => WS_t2 229 (by eq_refl) (by eq_refl) | k + 4, hk => absurd hk (Nat.not_lt.mpr (Nat.le_add_left _ _))
theorem sW_2 : ∀ w ∈ u_ws RJx35411 TJx35411 4, w ∈ WS := lay_in fun k hk => match k, hk with | 0, _ => WS_t7 56 (by eq_refl) (by eq_refl) | 1, _ => WS_t7 58 (by eq_refl) (by eq_refl) | 2, _ => WS_t7 60 (by eq_refl) (by eq_refl) | 3, _ => WS_t7 62 (by eq_refl) (by eq_refl) | k + 4, hk => absurd hk (Nat.not_lt.mpr (Nat.le_add_left _ _))
theorem sW_3 : ∀ w ∈ u_ws RJx4a65c TJx4a65c 3, w ∈ WS := lay_in fun k hk => match k, hk with | 0, _ => WS_t5 128 (by eq_refl) (by eq_refl) | 1, _ => WS_t5 124 (by eq_refl) (by eq_refl) | 2, _ => WS_t5 126 (by eq_refl) (by eq_refl) | k + 3, hk => absurd hk (Nat.not_lt.mpr (Nat.le_add_left _ _))
theorem sW_4 : ∀ w ∈ u_ws RX0 TX0 4, w ∈ WS := lay_in fun k hk => match k, hk with | 0, _ => WS_t1 109 (by eq_refl) (by eq_refl) | 1, _ => WS_t1 111 (by eq_refl) (by eq_refl) | 2, _ => WS_t1 113 (by eq_refl) (by eq_refl) | 3, _ => WS_t1 115 (by eq_refl) (by eq_refl) | k + 4, hk => absurd hk (Nat.not_lt.mpr (Nat.le_add_left _ _))
theorem sW_5 : ∀ w ∈ u_ws RX1 TX1 7, w ∈ WS := lay_in fun k hk => match k, hk with | 0, _ => WS_t1 47 (by eq_refl) (by eq_refl) | 1, _ => WS_t1 49 (by eq_refl) (by eq_refl) | 2, _ => WS_t1 51 (by eq_refl) (by eq_refl) | 3, _ => WS_t1 53 (by eq_refl) (by eq_refl) | 4, _ => WS_t1 55 (by eq_refl) (by eq_refl) | 5, _ => WS_t1 57 (by eq_refl) (by eq_refl) | 6, _ => WS_t1 59 (by eq_refl) (by eq_refl) | k + 7, hk => absurd hk (Nat.not_lt.mpr (Nat.le_add_left _ _))
theorem sW_6 : ∀ w ∈ u_ws RX2 TX2 2, w ∈ WS := lay_in fun k hk => match k, hk with | 0, _ => WS_t2 42 (by eq_refl) (by eq_refl) | 1, _ => WS_t2 44 (by eq_refl) (by eq_refl) | k + 2, hk => absurd hk (Nat.not_lt.mpr (Nat.le_add_left _ _))
theorem sW_7 : ∀ w ∈ u_ws RX3 TX3 7, w ∈ WS := lay_in fun k hk => match k, hk with | 0, _ => WS_t5 181 (by eq_refl) (by eq_refl) | 1, _ => WS_t5 183 (by eq_refl) (by eq_refl) | 2, _ => WS_t5 185 (by eq_refl) (by eq_refl) | 3, _ => WS_t5 187 (by eq_refl) (by eq_refl) | 4, _ => WS_t5 189 (by eq_refl) (by eq_refl) | 5, _ => WS_t5 191 (by eq_refl) (by eq_refl) | 6, _ => WS_t5 193 (by eq_refl) (by eq_refl) | k + 7, hk => absurd hk (Nat.not_lt.mpr (Nat.le_add_left _ _))
theorem ite_inv {q b : Nat} {x y z : Option Ob} (h : (if q = b then x else y) = z) : (q = b ∧ x = z) ∨ (¬ q = b ∧ y = z) := by
  by_cases e : q = b
  · exact Or.inl ⟨e, (if_pos e).symm.trans h⟩
  · exact Or.inr ⟨e, (if_neg e).symm.trans h⟩
theorem st_arr {ty : FieldType} (h : (Jvm.Cond.arrayClass ty).before args s = true) : ∃ c : ClassId, s.vm.findClass ("[" ++ ty.toString) = some c ∧ ArrOfT s c ty := by
  obtain ⟨c, k, comp, h1, h2, h3⟩ := Cond.arrayClass_spec (args := args) (first := s) (o := none) (s := s) (idx := []) h
  exact ⟨c, h1, fun N z => ⟨(fun k h => by cases h), k, h2, comp, h3⟩⟩
theorem st_arrO {C : String} (h : (Jvm.Cond.arrayOver (.object C)).before args s = true) : ∃ c : ClassId, ArrOfT s c (.object C) ∧ va_RA s c (.object C) := by
  obtain ⟨comp, c, k, h1, -, h3, h4, h5⟩ := Cond.arrayOver_spec (args := args) (first := s) (o := none) (s := s) (idx := []) h
  exact ⟨c, fun N z => ⟨(fun k h => by cases h), k, h3, comp, h4⟩, k, comp, h3, h4, h1, h5⟩
theorem T_ne {ty ty' : FieldType} {t t' N N' : Nat} {f f' : Nat → Value} {A : Nat → Prop} {H : Heap} (h : va_T ty t N f A s H) (h' : va_T ty' t' N' f' A s H) (hne : ty ≠ ty' ∨ Int32.ofNat N ≠ Int32.ofNat N' ∨ ∃ j, j < N ∧ j < N' ∧ f j ≠ f' j) : t ≠ t' := by
  rintro rfl
  obtain ⟨cell, h1, ⟨h2, k, hk, comp, hkind⟩, h3, h4, h5, h6, h7⟩ := h
  obtain ⟨cell', g1, ⟨g2, k', hk', comp', hkind'⟩, g3, g4, g5, g6, g7⟩ := h'
  cases h1.symm.trans g1
  cases hk.symm.trans hk'
  rcases hne with e | e | ⟨j, j1, j2, e⟩
  · have q := hkind.symm.trans hkind'
    injection q with q1 q2
    exact e q2
  · exact e (h5.symm.trans g5)
  · exact e (Option.some.inj ((h6 j j1).symm.trans (g6 j j2)))
theorem T_neO {ty : FieldType} {t q N : Nat} {f : Nat → Value} {A : Nat → Prop} {H : Heap} {C : String} {c0 : ClassId} {cell : Cell} (h : va_T ty t N f A s H) (hc : H[q]? = some cell) (hcls : cell.cls = c0) (ha : ClassAt s C c0) : t ≠ q := by
  rintro rfl
  obtain ⟨cell', h1, ⟨h2, k, hk, comp, hkind⟩, -⟩ := h
  cases h1.symm.trans hc
  obtain ⟨-, kC, hkC, hord⟩ := ha
  rw [hcls, hkC] at hk
  cases hk
  rw [hord] at hkind
  cases hkind
/-- an old text: its object, its bytes -/
theorem st_string {G : GT} (hK : u_Kn s RJ0 TJ0 4 (G.1 0) (G.2.1 0)) (hWS : ∀ w ∈ WS, w.before args s = true) (hA : ∀ a : Nat, a < s.heap.size → ¬ gA G a) {own : String} {k n : Nat} {f : Nat → Int32} (hn : n < 2 ^ 31) (hex : (Jvm.Cond.exactly (.string own k) "java/lang/String").before args s = true) (hco : (Jvm.Cond.eq (.field (.string own k) "java/lang/String" "coder" "B") (.int 0)).before args s = true) (har : (Jvm.Cond.arrayOf (.field (.string own k) "java/lang/String" "value" "[B") .byte).before args s = true) (hle : (Jvm.Cond.eq (.length (.field (.string own k) "java/lang/String" "value" "[B")) (.int (Int32.ofNat n))).before args s = true) (hel : ∀ j : Nat, j < n → (Jvm.Cond.eq (.elem (.field (.string own k) "java/lang/String" "value" "[B") (.int (Int32.ofNat j))) (.int (f j))).before args s = true) :
    ∃ (a v : Nat) (h z : Value) (cell : Cell), (Jvm.Term.string own k).eval args s none [] s = some (.ref a) ∧ oA G s.heap s a (.inr (0, [.ref v, .int 0, h, z])) ∧ va_T .byte v n (fun j => .int (f j)) (gA G) s s.heap ∧ s.heap[a]? = some cell ∧ cell.cls = G.1 0 ∧ cell.slots[G.2.1 0 0]? = some (.ref v) := by
  obtain ⟨a, c, cA, kA, q1, q2, q3, q4, q5, q6, q7⟩ := Cond.exactly_spec (args := args) (first := s) (o := none) (s := s) (idx := []) hex
  obtain ⟨kC, hkC, hord⟩ := hK.2.2
  have hc : c = G.1 0 := Option.some.inj (q2.symm.trans hK.2.1)
  subst hc
  cases q4.symm.trans hkC
  have hsize := q7 hord
  obtain ⟨v, ht, hT⟩ := va_Tof (f := fun j => .int (f j)) (A := gA G) hn har (va_eqt hle) (fun j hj => va_eqt (hel j hj)) hA
  obtain ⟨cf1, k1, i1, f1, cell1, g1, g2, g3, g4, g5, g6⟩ := (vk_OFof q1 (va_eqt hco) hA : va_OF "java/lang/String" "coder" "B" (.int 0) a (gA G) s s.heap)
  obtain ⟨cf0, k0, i0, f0, cell0, m1, m2, m3, m4, m5, m6⟩ := (vk_OFof q1 ht hA : va_OF "java/lang/String" "value" "[B" (.ref v) a (gA G) s s.heap)
  cases q3.symm.trans g3
  cases q3.symm.trans m3
  have hslot : ∀ k, k < 4 → ∃ x, cA.slots[G.2.1 0 k]? = some x := fun k hk => by
    obtain ⟨cf, kf, fi, fd, hi, hsl⟩ := hK.1 k hk
    have h9 := (u_facts hK.2.1 hkC (u_lays hWS sW_0 hk) hi).2.2
    have h8 := (Array.getElem?_eq_some_iff.mp h9).1
    exact ⟨_, Array.getElem?_eq_getElem (by rw [← hsl, hsize]; exact h8)⟩
  obtain ⟨h, hh⟩ := hslot 2 (by decide)
  obtain ⟨z, hz⟩ := hslot 3 (by decide)
  have e0 : cA.slots[G.2.1 0 0]? = some (.ref v) := by
    obtain ⟨cf, kf, fi, fd, hi, hsl⟩ := hK.1 0 (by decide)
    have e : s.fieldFound? "java/lang/String" "value" "[B" = some (cf, kf, fi, fd) := hi
    cases m1.symm.trans e
    rw [← hsl]
    exact m5
  have e1 : cA.slots[G.2.1 0 1]? = some (.int 0) := by
    obtain ⟨cf, kf, fi, fd, hi, hsl⟩ := hK.1 1 (by decide)
    have e : s.fieldFound? "java/lang/String" "coder" "B" = some (cf, kf, fi, fd) := hi
    cases g1.symm.trans e
    rw [← hsl]
    exact g5
  refine ⟨a, v, h, z, cA, q1, ⟨(RJ0, TJ0, 4), cA, rfl, q3, q5, g4, q6, fun k hk => ?_, hA a (Array.getElem?_eq_some_iff.mp q3).1⟩, hT, q3, q6, e0⟩
  have hk4 : k < 4 := hk
  rcases (show k = 0 ∨ k = 1 ∨ k = 2 ∨ k = 3 by omega) with rfl | rfl | rfl | rfl
  · exact e0
  · exact e1
  · exact hh
  · exact hz
theorem CSL_in : ∀ q ∈ CSL, Jvm.Cond.castable q.1 q.2 ∈ lw_tbl := List.forall_mem_cons.mpr ⟨(tm_2 (List.mem_of_getElem? (i := 60) (by eq_refl))), List.forall_mem_cons.mpr ⟨(tm_2 (List.mem_of_getElem? (i := 147) (by eq_refl))), List.forall_mem_cons.mpr ⟨(tm_4 (List.mem_of_getElem? (i := 102) (by eq_refl))), List.forall_mem_cons.mpr ⟨(tm_7 (List.mem_of_getElem? (i := 201) (by eq_refl))), List.forall_mem_cons.mpr ⟨(tm_3 (List.mem_of_getElem? (i := 36) (by eq_refl))), fun _ h => absurd h List.not_mem_nil⟩⟩⟩⟩⟩
theorem NCL_in : ∀ q ∈ NCL, Jvm.Cond.not (Jvm.Cond.castable q.1 q.2) ∈ flatC (Jvm.Cond.and given_1 narrow_1) := by decide +kernel
theorem STL_in : ∀ q ∈ STL, Jvm.Cond.stringRef q.1 q.2.1 q.2.2 ∈ lw_tbl ∧ Jvm.Cond.exactly (.string q.1 q.2.1) "java/lang/String" ∈ flatC (Jvm.Cond.and given_1 narrow_1) := List.forall_mem_cons.mpr ⟨⟨(tm_5 (List.mem_of_getElem? (i := 2) (by eq_refl))), by decide +kernel⟩, List.forall_mem_cons.mpr ⟨⟨(tm_2 (List.mem_of_getElem? (i := 99) (by eq_refl))), by decide +kernel⟩, List.forall_mem_cons.mpr ⟨⟨(tm_4 (List.mem_of_getElem? (i := 41) (by eq_refl))), by decide +kernel⟩, List.forall_mem_cons.mpr ⟨⟨(tm_5 (List.mem_of_getElem? (i := 81) (by eq_refl))), by decide +kernel⟩, List.forall_mem_cons.mpr ⟨⟨(tm_2 (List.mem_of_getElem? (i := 154) (by eq_refl))), by decide +kernel⟩, List.forall_mem_cons.mpr ⟨⟨(tm_4 (List.mem_of_getElem? (i := 109) (by eq_refl))), by decide +kernel⟩, fun _ h => absurd h List.not_mem_nil⟩⟩⟩⟩⟩⟩
theorem AOL_in : ∀ C ∈ AOL, Jvm.Cond.arrayOver (.object C) ∈ lw_tbl := List.forall_mem_cons.mpr ⟨(tm_1 (List.mem_of_getElem? (i := 39) (by eq_refl))), List.forall_mem_cons.mpr ⟨(tm_5 (List.mem_of_getElem? (i := 170) (by eq_refl))), fun _ h => absurd h List.not_mem_nil⟩⟩
theorem IFL_in : ∀ q ∈ IFL, Jvm.Cond.declares q.2.1 ∈ lw_tbl ∧ Jvm.Cond.interfaceMethod q.2.1.cls q.2.1.cls q.2.1.name q.2.1.desc ∈ lw_tbl ∧ Jvm.Cond.publicMethod q.2.2 ∈ lw_tbl ∧ Jvm.Cond.unhidden q.1 q.2.1.name q.2.1.desc ∈ lw_tbl ∧ Jvm.Cond.castable q.1 q.2.1.cls ∈ lw_tbl := List.forall_mem_cons.mpr ⟨⟨(tm_7 (List.mem_of_getElem? (i := 68) (by eq_refl))), (tm_7 (List.mem_of_getElem? (i := 67) (by eq_refl))), (tm_7 (List.mem_of_getElem? (i := 73) (by eq_refl))), (tm_7 (List.mem_of_getElem? (i := 71) (by eq_refl))), (tm_7 (List.mem_of_getElem? (i := 69) (by eq_refl)))⟩, List.forall_mem_cons.mpr ⟨⟨(tm_7 (List.mem_of_getElem? (i := 78) (by eq_refl))), (tm_7 (List.mem_of_getElem? (i := 77) (by eq_refl))), (tm_7 (List.mem_of_getElem? (i := 82) (by eq_refl))), (tm_7 (List.mem_of_getElem? (i := 80) (by eq_refl))), (tm_7 (List.mem_of_getElem? (i := 69) (by eq_refl)))⟩, fun _ h => absurd h List.not_mem_nil⟩⟩
theorem DO_in : ∀ j : Nat, j < 100 → (flatC (Jvm.Cond.and given_1 narrow_1))[10 + j]? = some (Jvm.Cond.eq (.elem (.static "java/lang/Integer" "DigitOnes" "[B") (.int (Int32.ofNat j))) (.int (Int32.ofNat (48 + j % 10)))) := by decide +kernel
theorem DT_in : ∀ j : Nat, j < 100 → (flatC (Jvm.Cond.and given_1 narrow_1))[113 + j]? = some (Jvm.Cond.eq (.elem (.static "java/lang/Integer" "DigitTens" "[B") (.int (Int32.ofNat j))) (.int (Int32.ofNat (48 + j / 10)))) := by decide +kernel
theorem st_eval {own : String} {k : Nat} (h : (Jvm.Cond.exactly (.string own k) "java/lang/String").before args s = true) : ∃ a : Nat, (Jvm.Term.string own k).eval args s none [] s = some (.ref a) := by
  obtain ⟨a, c, cA, kA, q1, -⟩ := Cond.exactly_spec (args := args) (first := s) (o := none) (s := s) (idx := []) h
  exact ⟨a, q1⟩
end
/-- the facts of the old heap that the law's walk asks -/
def SR (g : RO) (b L : Nat) (xs : Nat → Int32) : Prop := g.2 b = some (.inl (1, L, .inl xs)) ∧ (g.1 1 = .int 1 ∧ g.1 30 = .int 2147483639 ∧ g.1 32 = .int 2147483647) ∧ (∃ e : Nat, g.1 0 = .ref e ∧ g.2 e = some (.inl (5, 0, .inr (.inr (.inr (.inr fun _ => none)))))) ∧ (∃ mi : Nat, g.1 10 = .ref mi) ∧
  (∃ (a : Nat) (f : Nat → Int32), g.1 2 = .ref a ∧ g.2 a = some (.inl (2, 100, .inl f))) ∧ (∃ (a : Nat) (f : Nat → Int32), g.1 3 = .ref a ∧ g.2 a = some (.inl (2, 100, .inl f))) ∧ (∃ s : Nat, g.1 20 = .ref s) ∧ (∃ s : Nat, g.1 22 = .ref s) ∧
  (∃ (s v : Nat) (h z : Value), g.1 21 = .ref s ∧ g.2 s = some (.inr (0, [.ref v, .int 0, h, z])) ∧ g.2 v = some (.inl (2, 0, .inl fun _ => 0))) ∧ ∃ (s v : Nat) (h z : Value), g.1 23 = .ref s ∧ g.2 s = some (.inr (0, [.ref v, .int 0, h, z])) ∧ g.2 v = some (.inl (2, 1, .inl fun _ => 32))
set_option maxHeartbeats 4000000 in
theorem st_G {p : Program} {s : State} {m : MethodId} {meth : Method} {c : Code} {b L : Nat} {xs : Nat → Int32} (C0 : lw_At p s m meth c b L xs) : ∃ G : GT, gN G = s.heap.size ∧ gK G s ∧ GBg G s ∧ SR (gg G) b L xs := by
  obtain ⟨hx, hb, hr, hml, hown, hts, hX, hbl, hlocks, hgv⟩ := C0
  have hW := st_WS hts
  obtain ⟨c0, i0, k0⟩ := u_known hW sW_0 (hts (.instantiable RJ0 4) (tm_3 (List.mem_of_getElem? (i := 167) (by eq_refl))))
  obtain ⟨c1, i1, k1⟩ := u_known hW sW_1 (hts (.instantiable RJ4 4) (tm_2 (List.mem_of_getElem? (i := 202) (by eq_refl))))
  obtain ⟨c2, i2, k2⟩ := u_known hW sW_2 (hts (.instantiable RJx35411 4) (tm_7 (List.mem_of_getElem? (i := 47) (by eq_refl))))
  obtain ⟨c3, i3, k3⟩ := u_known hW sW_3 (hts (.instantiable RJx4a65c 3) (tm_5 (List.mem_of_getElem? (i := 103) (by eq_refl))))
  obtain ⟨c4, i4, k4⟩ := u_known hW sW_4 (hts (.instantiable RX0 4) (tm_1 (List.mem_of_getElem? (i := 96) (by eq_refl))))
  obtain ⟨c5, i5, k5⟩ := u_known hW sW_5 (hts (.instantiable RX1 7) (tm_1 (List.mem_of_getElem? (i := 31) (by eq_refl))))
  obtain ⟨c6, i6, k6⟩ := u_known hW sW_6 (hts (.instantiable RX2 2) (tm_2 (List.mem_of_getElem? (i := 35) (by eq_refl))))
  obtain ⟨c7, i7, k7⟩ := u_known hW sW_7 (hts (.instantiable RX3 7) (tm_5 (List.mem_of_getElem? (i := 97) (by eq_refl))))
  obtain ⟨a0, f0, r0⟩ := st_arr (hts (.arrayClass .long) (tm_1 (List.mem_of_getElem? (i := 62) (by eq_refl))))
  obtain ⟨a1, f1, r1⟩ := st_arr (hts (.arrayClass .int) (tm_7 (List.mem_of_getElem? (i := 155) (by eq_refl))))
  obtain ⟨a2, f2, r2⟩ := st_arr (hts (.arrayClass .byte) (tm_2 (List.mem_of_getElem? (i := 125) (by eq_refl))))
  obtain ⟨a3, f3, r3⟩ := st_arr (hts (.arrayClass .boolean) (tm_7 (List.mem_of_getElem? (i := 146) (by eq_refl))))
  obtain ⟨a4, r4, f4⟩ := st_arrO (hts (.arrayOver (.object "Rangecard$Range")) (tm_1 (List.mem_of_getElem? (i := 39) (by eq_refl))))
  obtain ⟨a5, r5, f5⟩ := st_arrO (hts (.arrayOver (.object "java/lang/Object")) (tm_5 (List.mem_of_getElem? (i := 170) (by eq_refl))))
  have hAA : ∀ a : Nat, a < s.heap.size → ¬ s.heap.size ≤ a := fun a h => Nat.not_le.mpr h
  obtain ⟨scr, x1, x2, x3, x4, x5⟩ := hX
  have tB : va_T .int b L (fun j => .int (xs j)) (fun q => s.heap.size ≤ q) s s.heap := ⟨scr, x1, x2, x3, by omega, by rw [x4], x5, hAA b hbl⟩
  obtain ⟨ae, ve, tE⟩ := va_Tof (tm := .static "java/util/ArrayList" "DEFAULTCAPACITY_EMPTY_ELEMENTDATA" "[Ljava/lang/Object;") (ty := .object "java/lang/Object") (N := 0) (f := fun _ => .null) (A := fun q => s.heap.size ≤ q) (by decide) (bf_l (bf_r (bf_r (bf_l (bf_r (bf_l (bf_r (bf_r (bf_l (bf_r hgv)))))))))) (va_eqt (bf_l (bf_l (bf_l (bf_r (bf_r (bf_l (bf_r (bf_r (bf_l (bf_r hgv))))))))))) (fun j hj => absurd hj (Nat.not_lt_zero j)) hAA
  obtain ⟨ao, vo, tO⟩ := va_Tof (tm := .static "java/lang/Integer" "DigitOnes" "[B") (ty := .byte) (N := 100) (f := fun j => .int (Int32.ofNat (48 + j % 10))) (A := fun q => s.heap.size ≤ q) (by decide) (bf_l (bf_r (bf_r (bf_l (bf_l (bf_l (bf_l (bf_l (bf_l (bf_r hgv)))))))))) (va_eqt (bf_r (bf_r (bf_r (bf_l (bf_l (bf_l (bf_l (bf_l (bf_l (bf_r hgv))))))))))) (fun j hj => va_eqt (st_word hgv _ (DO_in j hj))) hAA
  obtain ⟨at_, vt, tT⟩ := va_Tof (tm := .static "java/lang/Integer" "DigitTens" "[B") (ty := .byte) (N := 100) (f := fun j => .int (Int32.ofNat (48 + j / 10))) (A := fun q => s.heap.size ≤ q) (by decide) (bf_r (bf_l (bf_r (bf_r (bf_l (bf_r (bf_r (bf_l (bf_l (bf_r hgv)))))))))) (va_eqt (bf_l (bf_r (bf_r (bf_r (bf_l (bf_r (bf_r (bf_l (bf_l (bf_r hgv))))))))))) (fun j hj => va_eqt (st_word hgv _ (DT_in j hj))) hAA
  obtain ⟨s20, h20⟩ := st_eval (own := "Rangecard") (k := 144) (bf_l (bf_r (bf_r (bf_r (bf_r (bf_l (bf_r (bf_l (bf_r (bf_r hgv))))))))))
  obtain ⟨s22, h22⟩ := st_eval (own := "RangecardModel") (k := 145) (bf_l (bf_l (bf_l (bf_r (bf_l (bf_r (bf_l (bf_r (bf_r (bf_r hgv))))))))))
  obtain ⟨mi, hmi⟩ := va_Mi.of (C := "[Ljava/lang/Object;") (bf_r (bf_l (bf_l (bf_l (bf_l (bf_l (bf_l (bf_l (bf_r (bf_r hgv))))))))))
  let dC : Nat → ClassId := fun k => [c0, c1, c2, c3, c4, c5, c6, c7].getD k c0
  let dI : Nat → Nat → Nat := fun k => [i0, i1, i2, i3, i4, i5, i6, i7].getD k i0
  let dA : Nat → ClassId := fun k => [a0, a1, a2, a3, a4, a5].getD k a0
  have hS1 : ∀ g : RO, u_Kn s RJ0 TJ0 4 (dC 0) (dI 0) := fun _ => k0
  obtain ⟨s21, v21, h21, z21, ce21, e21, o21, t21, q21, w21, u21⟩ := st_string (G := (dC, dI, dA, s.heap.size, (fun _ => .null, fun _ => none))) (own := "RangecardModel") (k := 76) (n := 0) (f := fun _ => 0) k0 hW hAA (by decide) (bf_l (bf_l (bf_r (bf_r (bf_r (bf_l (bf_l (bf_r (bf_r (bf_r hgv)))))))))) (bf_r (bf_l (bf_r (bf_r (bf_r (bf_l (bf_l (bf_r (bf_r (bf_r hgv)))))))))) (bf_l (bf_r (bf_r (bf_r (bf_r (bf_l (bf_l (bf_r (bf_r (bf_r hgv)))))))))) (bf_r (bf_r (bf_r (bf_r (bf_r (bf_l (bf_l (bf_r (bf_r (bf_r hgv)))))))))) (fun j hj => absurd hj (Nat.not_lt_zero j))
  obtain ⟨s23, v23, h23, z23, ce23, e23, o23, t23, q23, w23, u23⟩ := st_string (G := (dC, dI, dA, s.heap.size, (fun _ => .null, fun _ => none))) (own := "RangecardModel") (k := 147) (n := 1) (f := fun _ => 32) k0 hW hAA (by decide) (bf_l (bf_r (bf_r (bf_l (bf_r (bf_r (bf_l (bf_r (bf_r (bf_r hgv)))))))))) (bf_r (bf_r (bf_r (bf_l (bf_r (bf_r (bf_l (bf_r (bf_r (bf_r hgv)))))))))) (bf_l (bf_l (bf_l (bf_r (bf_r (bf_r (bf_l (bf_r (bf_r (bf_r hgv)))))))))) (bf_r (bf_l (bf_l (bf_r (bf_r (bf_r (bf_l (bf_r (bf_r (bf_r hgv)))))))))) (fun j hj => by
    obtain rfl : j = 0 := by omega
    exact (bf_l (bf_r (bf_l (bf_r (bf_r (bf_r (bf_l (bf_r (bf_r (bf_r hgv)))))))))))
  have hcl : ClassAt s RJ0 c0 := k0.2
  have n1 : ae ≠ b := T_ne tE tB (Or.inl (by decide))
  have n2 : ao ≠ b := T_ne tO tB (Or.inl (by decide))
  have n3 : ao ≠ ae := T_ne tO tE (Or.inl (by decide))
  have n4 : at_ ≠ b := T_ne tT tB (Or.inl (by decide))
  have n5 : at_ ≠ ae := T_ne tT tE (Or.inl (by decide))
  have n6 : at_ ≠ ao := T_ne tT tO (Or.inr (Or.inr ⟨1, by decide, by decide, by decide⟩))
  have n7 : v21 ≠ b := T_ne t21 tB (Or.inl (by decide))
  have n8 : v21 ≠ ae := T_ne t21 tE (Or.inl (by decide))
  have n9 : v21 ≠ ao := T_ne t21 tO (Or.inr (Or.inl (by decide)))
  have n10 : v21 ≠ at_ := T_ne t21 tT (Or.inr (Or.inl (by decide)))
  have n11 : v23 ≠ b := T_ne t23 tB (Or.inl (by decide))
  have n12 : v23 ≠ ae := T_ne t23 tE (Or.inl (by decide))
  have n13 : v23 ≠ ao := T_ne t23 tO (Or.inr (Or.inl (by decide)))
  have n14 : v23 ≠ at_ := T_ne t23 tT (Or.inr (Or.inl (by decide)))
  have n15 : v23 ≠ v21 := T_ne t23 t21 (Or.inr (Or.inl (by decide)))
  have n16 : s21 ≠ b := (T_neO tB q21 w21 hcl).symm
  have n17 : s21 ≠ ae := (T_neO tE q21 w21 hcl).symm
  have n18 : s21 ≠ ao := (T_neO tO q21 w21 hcl).symm
  have n19 : s21 ≠ at_ := (T_neO tT q21 w21 hcl).symm
  have n20 : s21 ≠ v21 := (T_neO t21 q21 w21 hcl).symm
  have n21 : s21 ≠ v23 := (T_neO t23 q21 w21 hcl).symm
  have n22 : s23 ≠ b := (T_neO tB q23 w23 hcl).symm
  have n23 : s23 ≠ ae := (T_neO tE q23 w23 hcl).symm
  have n24 : s23 ≠ ao := (T_neO tO q23 w23 hcl).symm
  have n25 : s23 ≠ at_ := (T_neO tT q23 w23 hcl).symm
  have n26 : s23 ≠ v21 := (T_neO t21 q23 w23 hcl).symm
  have n27 : s23 ≠ v23 := (T_neO t23 q23 w23 hcl).symm
  have n28 : s23 ≠ s21 := by
    rintro rfl
    cases q21.symm.trans q23
    cases u21.symm.trans u23
    exact n15 rfl
  let old : Hw := fun q => if q = b then some (.inl (1, L, .inl xs)) else if q = ae then some (.inl (5, 0, .inr (.inr (.inr (.inr fun _ => none))))) else if q = ao then some (.inl (2, 100, .inl fun j => Int32.ofNat (48 + j % 10))) else if q = at_ then some (.inl (2, 100, .inl fun j => Int32.ofNat (48 + j / 10))) else if q = v21 then some (.inl (2, 0, .inl fun _ => 0)) else if q = v23 then some (.inl (2, 1, .inl fun _ => 32)) else if q = s21 then some (.inr (0, [.ref v21, .int 0, h21, z21])) else if q = s23 then some (.inr (0, [.ref v23, .int 0, h23, z23])) else none
  let val : Nat → Value := fun i => match i with
    | 0 => .ref ae
    | 1 => .int 1
    | 2 => .ref ao
    | 3 => .ref at_
    | 10 => .ref mi
    | 20 => .ref s20
    | 21 => .ref s21
    | 22 => .ref s22
    | 23 => .ref s23
    | 30 => .int 2147483639
    | 31 => .int 1073741823
    | 32 => .int 2147483647
    | 33 => .int 55296
    | 34 => .int 57344
    | 35 => .int 56320
    | _ => .null
  refine ⟨(dC, dI, dA, s.heap.size, (val, old)), rfl, ⟨fun k q hq => ?_, fun k q hq => ?_⟩, ⟨vx_Zqof (hts _ (tm_2 (List.mem_of_getElem? (i := 85) (by eq_refl)))) (hts _ (tm_1 (List.mem_of_getElem? (i := 11) (by eq_refl)))) (bf_l (bf_r (bf_l (bf_l (bf_l (bf_l (bf_l (bf_l (bf_l (bf_r hgv)))))))))) hAA, vx_Zqof (hts _ (tm_2 (List.mem_of_getElem? (i := 87) (by eq_refl)))) (hts _ (tm_1 (List.mem_of_getElem? (i := 11) (by eq_refl)))) (bf_r (bf_r (bf_l (bf_l (bf_l (bf_l (bf_l (bf_l (bf_l (bf_r hgv)))))))))) hAA, fun w hw hn => va_Nw.of (isNW_tab hn) (hts w hw), fun q hq => va_Nw.of rfl (hts _ (CSL_in q hq)), fun q hq => va_Nc.of (flat_of_before _ hgv _ (NCL_in q hq)), fun q hq => ?_, ⟨fun C hC => va_AO.of (hts _ (AOL_in C hC)), fun q hq => ?_, ⟨mi, rfl, hmi⟩, fun q hq => ?_⟩, fun q hq => ?_, fun q hq => ?_, fun q o hq => ?_⟩, ?_⟩
  · match k, hq with
    | 0, hq => cases hq; exact k0
    | 1, hq => cases hq; exact k1
    | 2, hq => cases hq; exact k2
    | 3, hq => cases hq; exact k3
    | 4, hq => cases hq; exact k4
    | 5, hq => cases hq; exact k5
    | 6, hq => cases hq; exact k6
    | 7, hq => cases hq; exact k7
    | k + 8, hq => simp [vwCl] at hq
  · match k, hq with
    | 0, hq => cases hq; exact ⟨r0, f0⟩
    | 1, hq => cases hq; exact ⟨r1, f1⟩
    | 2, hq => cases hq; exact ⟨r2, f2⟩
    | 3, hq => cases hq; exact ⟨r3, f3⟩
    | 4, hq => cases hq; exact ⟨r4, f4⟩
    | 5, hq => cases hq; exact ⟨r5, f5⟩
    | k + 6, hq => simp [gTys] at hq
  · obtain ⟨a, ha⟩ := st_eval (flat_of_before _ hgv _ (STL_in q hq).2)
    exact ⟨a, vk_R.of (hts _ (STL_in q hq).1) ha⟩
  · obtain ⟨g1, g2, g3, g4, g5⟩ := IFL_in q hq
    exact va_Fw.of (hts _ g1) (hts _ g2) (hts _ g3) (hts _ g4) (hts _ g5)
  · simp only [ICL, List.mem_cons, List.not_mem_nil, or_false] at hq
    rcases hq with rfl | rfl | rfl | rfl | rfl | rfl <;> rfl
  · simp only [STT, List.mem_cons, List.not_mem_nil, or_false] at hq
    rcases hq with rfl | rfl | rfl | rfl
    · exact va_Zof (hts _ (tm_5 (List.mem_of_getElem? (i := 115) (by eq_refl)))) (hts _ (tm_1 (List.mem_of_getElem? (i := 5) (by eq_refl)))) ve hAA
    · exact va_Zof (hts _ (tm_2 (List.mem_of_getElem? (i := 211) (by eq_refl)))) (hts _ (tm_1 (List.mem_of_getElem? (i := 18) (by eq_refl)))) (va_eqt (bf_l (bf_l (bf_r (bf_l (bf_l (bf_l (bf_l (bf_l (bf_l (bf_r hgv))))))))))) hAA
    · exact va_Zof (hts _ (tm_3 (List.mem_of_getElem? (i := 53) (by eq_refl)))) (hts _ (tm_1 (List.mem_of_getElem? (i := 21) (by eq_refl)))) vo hAA
    · exact va_Zof (hts _ (tm_3 (List.mem_of_getElem? (i := 55) (by eq_refl)))) (hts _ (tm_1 (List.mem_of_getElem? (i := 21) (by eq_refl)))) vt hAA
  · simp only [STG, List.mem_cons, List.not_mem_nil, or_false] at hq
    rcases hq with rfl | rfl | rfl | rfl
    · exact ⟨s20, rfl, vk_R.of (hts _ (tm_4 (List.mem_of_getElem? (i := 206) (by eq_refl)))) h20⟩
    · exact ⟨s21, rfl, vk_R.of (hts _ (tm_6 (List.mem_of_getElem? (i := 17) (by eq_refl)))) e21⟩
    · exact ⟨s22, rfl, vk_R.of (hts _ (tm_6 (List.mem_of_getElem? (i := 191) (by eq_refl)))) h22⟩
    · exact ⟨s23, rfl, vk_R.of (hts _ (tm_6 (List.mem_of_getElem? (i := 192) (by eq_refl)))) e23⟩
  · have hq : (if q = b then some (.inl (1, L, .inl xs)) else if q = ae then some (.inl (5, 0, .inr (.inr (.inr (.inr fun _ => none))))) else if q = ao then some (.inl (2, 100, .inl fun j => Int32.ofNat (48 + j % 10))) else if q = at_ then some (.inl (2, 100, .inl fun j => Int32.ofNat (48 + j / 10))) else if q = v21 then some (.inl (2, 0, .inl fun _ => 0)) else if q = v23 then some (.inl (2, 1, .inl fun _ => 32)) else if q = s21 then some (.inr (0, [.ref v21, .int 0, h21, z21])) else if q = s23 then some (.inr (0, [.ref v23, .int 0, h23, z23])) else none) = some o := hq
    rcases ite_inv hq with ⟨e, hq⟩ | ⟨-, hq⟩
    · rw [e, ← Option.some.inj hq]
      exact ⟨Or.inl ⟨rfl, tB⟩, hAA _ hbl⟩
    rcases ite_inv hq with ⟨e, hq⟩ | ⟨-, hq⟩
    · rw [e, ← Option.some.inj hq]
      exact ⟨⟨rfl, rfl, tE⟩, tE.out⟩
    rcases ite_inv hq with ⟨e, hq⟩ | ⟨-, hq⟩
    · rw [e, ← Option.some.inj hq]
      exact ⟨Or.inr ⟨rfl, tO⟩, tO.out⟩
    rcases ite_inv hq with ⟨e, hq⟩ | ⟨-, hq⟩
    · rw [e, ← Option.some.inj hq]
      exact ⟨Or.inr ⟨rfl, tT⟩, tT.out⟩
    rcases ite_inv hq with ⟨e, hq⟩ | ⟨-, hq⟩
    · rw [e, ← Option.some.inj hq]
      exact ⟨Or.inr ⟨rfl, t21⟩, t21.out⟩
    rcases ite_inv hq with ⟨e, hq⟩ | ⟨-, hq⟩
    · rw [e, ← Option.some.inj hq]
      exact ⟨Or.inr ⟨rfl, t23⟩, t23.out⟩
    rcases ite_inv hq with ⟨e, hq⟩ | ⟨-, hq⟩
    · rw [e, ← Option.some.inj hq]
      exact ⟨o21, hAA _ (Array.getElem?_eq_some_iff.mp q21).1⟩
    rcases ite_inv hq with ⟨e, hq⟩ | ⟨-, hq⟩
    · rw [e, ← Option.some.inj hq]
      exact ⟨o23, hAA _ (Array.getElem?_eq_some_iff.mp q23).1⟩
    cases hq
  · have p1 : old b = some (.inl (1, L, .inl xs)) := by simp only [old, if_true]
    have p2 : old ae = some (.inl (5, 0, .inr (.inr (.inr (.inr fun _ => none))))) := by simp only [old, if_neg n1, if_true]
    have p3 : old ao = some (.inl (2, 100, .inl fun j => Int32.ofNat (48 + j % 10))) := by simp only [old, if_neg n2, if_neg n3, if_true]
    have p4 : old at_ = some (.inl (2, 100, .inl fun j => Int32.ofNat (48 + j / 10))) := by simp only [old, if_neg n4, if_neg n5, if_neg n6, if_true]
    have p5 : old v21 = some (.inl (2, 0, .inl fun _ => 0)) := by simp only [old, if_neg n7, if_neg n8, if_neg n9, if_neg n10, if_true]
    have p6 : old v23 = some (.inl (2, 1, .inl fun _ => 32)) := by simp only [old, if_neg n11, if_neg n12, if_neg n13, if_neg n14, if_neg n15, if_true]
    have p7 : old s21 = some (.inr (0, [.ref v21, .int 0, h21, z21])) := by simp only [old, if_neg n16, if_neg n17, if_neg n18, if_neg n19, if_neg n20, if_neg n21, if_true]
    have p8 : old s23 = some (.inr (0, [.ref v23, .int 0, h23, z23])) := by simp only [old, if_neg n22, if_neg n23, if_neg n24, if_neg n25, if_neg n26, if_neg n27, if_neg n28, if_true]
    exact ⟨p1, ⟨rfl, rfl, rfl⟩, ⟨ae, rfl, p2⟩, ⟨mi, rfl⟩, ⟨ao, _, rfl, p3⟩, ⟨at_, _, rfl, p4⟩, ⟨s20, rfl⟩, ⟨s22, rfl⟩, ⟨s21, v21, h21, z21, rfl, p7, p5⟩, s23, v23, h23, z23, rfl, p8, p6⟩
end
