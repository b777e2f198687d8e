section
def isNW : Jvm.Cond → Bool
  | .fieldLinkNest .. => true
  | .methodLinkNest .. => true
  | .declares _ => true
  | .castable .. => true
  | _ => false
abbrev NCL : List (String × String) := [("java/lang/IndexOutOfBoundsException", "java/lang/IllegalArgumentException"), ("java/lang/IndexOutOfBoundsException", "java/lang/IllegalStateException"), ("java/lang/IllegalArgumentException", "java/lang/IndexOutOfBoundsException"), ("java/lang/IllegalArgumentException", "java/lang/IllegalStateException"), ("java/lang/IllegalStateException", "java/lang/IndexOutOfBoundsException"), ("java/lang/IllegalStateException", "java/lang/IllegalArgumentException")]
abbrev CSL : List (String × String) := [("java/lang/IndexOutOfBoundsException", "java/lang/IndexOutOfBoundsException"), ("java/lang/IllegalArgumentException", "java/lang/IllegalArgumentException"), ("java/lang/IllegalStateException", "java/lang/IllegalStateException"), ("[J", "java/lang/Object"), ("[B", "java/lang/Cloneable")]
abbrev IFL : List (String × MethodName × MethodName) := [("java/util/ArrayList$Itr", ⟨"java/util/Iterator", "hasNext", "()Z"⟩, ⟨"java/util/ArrayList$Itr", "hasNext", "()Z"⟩), ("java/util/ArrayList$Itr", ⟨"java/util/Iterator", "next", "()Ljava/lang/Object;"⟩, ⟨"java/util/ArrayList$Itr", "next", "()Ljava/lang/Object;"⟩)]
theorem IFL_ok : ∀ q ∈ IFL, q.2.1.cls ≠ "java/lang/invoke/MethodHandle" ∧ q.2.1.cls ≠ "java/lang/invoke/VarHandle" := by decide
abbrev STT : List (Nat × String × String × String) := [(0, "java/util/ArrayList", "DEFAULTCAPACITY_EMPTY_ELEMENTDATA", "[Ljava/lang/Object;"), (1, "java/lang/String", "COMPACT_STRINGS", "Z"), (2, "java/lang/Integer", "DigitOnes", "[B"), (3, "java/lang/Integer", "DigitTens", "[B")]
abbrev STG : List (Nat × String × Nat × String) := [(20, "Rangecard", 144, "-"), (21, "RangecardModel", 76, ""), (22, "RangecardModel", 145, "-"), (23, "RangecardModel", 147, " ")]
abbrev ICL : List (Nat × Int32) := [(30, 2147483639), (31, 1073741823), (32, 2147483647), (33, 55296), (34, 57344), (35, 56320)]
abbrev STL : List (String × Nat × String) := [("Rangecard", 167, "many is not 1 to 60"), ("Rangecard", 242, "no such number"), ("Rangecard", 245, "no such card"), ("Rangecard", 247, "no such place"), ("Rangecard", 249, "no such what"), ("Rangecard", 253, "the card has no range")]
abbrev AOL : List String := ["Rangecard$Range", "java/lang/Object"]
/-- what is known of an old cell that is read: a row of ints, a row of bytes, an empty row, an object -/
def oA (G : GT) (H : Heap) (U : State) (q : Nat) : Ob → Prop
  | .inl (t, N, .inl f) => (t = 1 ∧ va_T .int q N (fun j => .int (f j)) (gA G) U H) ∨ (t = 2 ∧ va_T .byte q N (fun j => .int (f j)) (gA G) U H)
  | .inl (t, N, .inr (.inr (.inr (.inr _)))) => t = 5 ∧ N = 0 ∧ va_T (.object "java/lang/Object") q 0 (fun _ => .null) (gA G) U H
  | .inr (c, fs) => ∃ (r : vw_C) (cell : Cell), vwCl[c]? = some r ∧ H[q]? = some cell ∧ cell.vm.isStatics = false ∧ cell.vm ≠ .unknown ∧ cell.cls = G.1 c ∧ (∀ k, k < r.2.2 → cell.slots[G.2.1 c k]? = some (vp_V fs k)) ∧ ¬ gA G q
  | _ => False
theorem oA.moved {G : GT} {H : Heap} {u U : State} {q : Nat} {o : Ob} (hvm : u.vm.Alike U.vm) (h : oA G H u q o) : oA G H U q o := by
  obtain ⟨t, N, f | f | f | f | f⟩ | ⟨c, fs⟩ := o
  · have h' : (t = 1 ∧ va_T .int q N (fun j => .int (f j)) (gA G) u H) ∨ (t = 2 ∧ va_T .byte q N (fun j => .int (f j)) (gA G) u H) := h
    exact (h'.imp (fun z => ⟨z.1, va_T.moved hvm z.2⟩) (fun z => ⟨z.1, va_T.moved hvm z.2⟩) : (t = 1 ∧ va_T .int q N (fun j => .int (f j)) (gA G) U H) ∨ (t = 2 ∧ va_T .byte q N (fun j => .int (f j)) (gA G) U H))
  · exact h
  · exact h
  · exact h
  · have h' : t = 5 ∧ N = 0 ∧ va_T (.object "java/lang/Object") q 0 (fun _ => .null) (gA G) u H := h
    exact (⟨h'.1, h'.2.1, va_T.moved hvm h'.2.2⟩ : t = 5 ∧ N = 0 ∧ va_T (.object "java/lang/Object") q 0 (fun _ => .null) (gA G) U H)
  · exact h
theorem oA.kept {G : GT} {H H1 : Heap} {U : State} {q : Nat} {o : Ob} (h : oA G H U q o) (hq : ∀ a : Nat, a < H.size → ¬ gA G a → H1[a]? = H[a]?) : oA G H1 U q o := by
  obtain ⟨t, N, f | f | f | f | f⟩ | ⟨c, fs⟩ := o
  · have h' : (t = 1 ∧ va_T .int q N (fun j => .int (f j)) (gA G) U H) ∨ (t = 2 ∧ va_T .byte q N (fun j => .int (f j)) (gA G) U H) := h
    exact (h'.imp (fun z => ⟨z.1, va_T.kept z.2 hq⟩) (fun z => ⟨z.1, va_T.kept z.2 hq⟩) : (t = 1 ∧ va_T .int q N (fun j => .int (f j)) (gA G) U H1) ∨ (t = 2 ∧ va_T .byte q N (fun j => .int (f j)) (gA G) U H1))
  · exact h
  · exact h
  · exact h
  · have h' : t = 5 ∧ N = 0 ∧ va_T (.object "java/lang/Object") q 0 (fun _ => .null) (gA G) U H := h
    exact (⟨h'.1, h'.2.1, va_T.kept h'.2.2 hq⟩ : t = 5 ∧ N = 0 ∧ va_T (.object "java/lang/Object") q 0 (fun _ => .null) (gA G) U H1)
  · obtain ⟨r, cell, h1, h2, h3, h4, h5, h6, h7⟩ := h
    exact ⟨r, cell, h1, by rw [hq q (Array.getElem?_eq_some_iff.mp h2).1 h7]; exact h2, h3, h4, h5, h6, h7⟩
/-- what of the tables and of the old heap goes with every method, beside the good words -/
def GBg (G : GT) (U : State) : Prop :=
  vx_Zq Bundle.tN "UNASSIGNED_STACK" Bundle.steD (gA G) U U.heap ∧ vx_Zq Bundle.tN "SUPPRESSED_SENTINEL" Bundle.listD (gA G) U U.heap ∧
  (∀ w ∈ lw_tbl, isNW w = true → va_Nw w U) ∧ (∀ q ∈ CSL, va_Nw (.castable q.1 q.2) U) ∧ (∀ q ∈ NCL, va_Nc q.1 q.2 U) ∧ (∀ q ∈ STL, ∃ sa : Nat, vk_R q.1 q.2.1 q.2.2 sa U) ∧ ((∀ C ∈ AOL, va_AO C U) ∧ (∀ q ∈ IFL, va_Fw q.1 q.2.1 q.2.2 U) ∧ (∃ mi : Nat, (gg G).1 10 = .ref mi ∧ va_Mi "[Ljava/lang/Object;" mi U) ∧ ∀ q ∈ ICL, (gg G).1 q.1 = .int q.2) ∧
  (∀ q ∈ STT, va_Z q.2.1 q.2.2.1 q.2.2.2 ((gg G).1 q.1) (gA G) U U.heap) ∧ (∀ q ∈ STG, ∃ sa : Nat, (gg G).1 q.1 = .ref sa ∧ vk_R q.2.1 q.2.2.1 q.2.2.2 sa U) ∧
  (∀ (q : Nat) (o : Ob), (gg G).2 q = some o → oA G U.heap U q o ∧ ¬ gA G q)
theorem GBg.warm {G : GT} {s U : State} (h : GBg G s) (hW : s.WarmedH U.vm) (hz : ∀ q : Nat, q < s.heap.size → ¬ gA G q → U.heap[q]? = s.heap[q]?) : GBg G U := by
  obtain ⟨h1, h2, h3, h4, h5, h6, h7, h8, h9, h10⟩ := h
  refine ⟨(h1.moved hW.alike).kept hz, (h2.moved hW.alike).kept hz, fun w hw hn => ?_, fun q hq => va_Nw.warmC hW (h4 q hq), fun q hq => (h5 q hq).moved hW.alike, fun q hq => ?_, ⟨fun C hC => (h7.1 C hC).moved hW.alike, fun q hq => (h7.2.1 q hq).moved (IFL_ok q hq) hW.alike, h7.2.2.1.imp fun mi z => ⟨z.1, z.2.moved hW.alike⟩, h7.2.2.2⟩,
    fun q hq => ((h8 q hq).moved hW.alike).kept hz, fun q hq => ?_, fun q o hq => ⟨oA.kept (oA.moved hW.alike (h10 q o hq).1) hz, (h10 q o hq).2⟩⟩
  · have h := h3 w hw hn
    cases w <;> first | exact absurd (show false = true from hn) Bool.false_ne_true | exact va_Nw.warmF hW h | exact va_Nw.warmM hW h | exact va_Nw.warmD hW h | exact va_Nw.warmC hW h | (exact absurd hn (by simp [isNW]; done))
  · obtain ⟨sa, h⟩ := h6 q hq
    exact ⟨sa, h.warm hW⟩
  · obtain ⟨sa, h0, h⟩ := h9 q hq
    exact ⟨sa, h0, h.warm hW⟩
/-- the good words of the tables: every method's -/
abbrev asbP : List MethodName := [⟨"java/lang/AbstractStringBuilder", "ensureCapacityInternal", "(I)V"⟩, ⟨"java/lang/AbstractStringBuilder", "newCapacity", "(I)I"⟩, ⟨"java/lang/AbstractStringBuilder", "putStringAt", "(ILjava/lang/String;)V"⟩, ⟨"java/lang/AbstractStringBuilder", "inflateIfNeededFor", "(Ljava/lang/String;)V"⟩]
/-- private methods of a builder's superclass, asked of a builder -/
def SBP : List Jvm.Cond := asbP.map fun y => Jvm.Cond.selects "java/lang/StringBuilder" y y
def WS : List Jvm.Cond := SBP ++ lw_tbl.filter goodWord
theorem WS_in {w : Jvm.Cond} (h : w ∈ lw_tbl) (hg : goodWord w = true) : w ∈ WS := List.mem_append_right _ (List.mem_filter.mpr ⟨h, hg⟩)
theorem tm_1 {w : Jvm.Cond} (h : w ∈ tables_1_1) : w ∈ lw_tbl := List.mem_append_right (k2_sels lw_privs) (show w ∈ tables_1 from (List.mem_append_left _ h))
theorem WS_t1 {w : Jvm.Cond} (i : Nat) (h : tables_1_1[i]? = some w) (hg : goodWord w = true) : w ∈ WS := WS_in (tm_1 (List.mem_of_getElem? h)) hg
theorem tm_2 {w : Jvm.Cond} (h : w ∈ tables_1_2) : w ∈ lw_tbl := List.mem_append_right (k2_sels lw_privs) (show w ∈ tables_1 from (List.mem_append_right _ (List.mem_append_left _ h)))
theorem WS_t2 {w : Jvm.Cond} (i : Nat) (h : tables_1_2[i]? = some w) (hg : goodWord w = true) : w ∈ WS := WS_in (tm_2 (List.mem_of_getElem? h)) hg
theorem tm_3 {w : Jvm.Cond} (h : w ∈ tables_1_3) : w ∈ lw_tbl := List.mem_append_right (k2_sels lw_privs) (show w ∈ tables_1 from (List.mem_append_right _ (List.mem_append_right _ (List.mem_append_left _ h))))
theorem WS_t3 {w : Jvm.Cond} (i : Nat) (h : tables_1_3[i]? = some w) (hg : goodWord w = true) : w ∈ WS := WS_in (tm_3 (List.mem_of_getElem? h)) hg
theorem tm_4 {w : Jvm.Cond} (h : w ∈ tables_1_4) : w ∈ lw_tbl := List.mem_append_right (k2_sels lw_privs) (show w ∈ tables_1 from (List.mem_append_right _ (List.mem_append_right _ (List.mem_append_right _ (List.mem_append_left _ h)))))
theorem WS_t4 {w : Jvm.Cond} (i : Nat) (h : tables_1_4[i]? = some w) (hg : goodWord w = true) : w ∈ WS := WS_in (tm_4 (List.mem_of_getElem? h)) hg
theorem tm_5 {w : Jvm.Cond} (h : w ∈ tables_1_5) : w ∈ lw_tbl := List.mem_append_right (k2_sels lw_privs) (show w ∈ tables_1 from (List.mem_append_right _ (List.mem_append_right _ (List.mem_append_right _ (List.mem_append_right _ (List.mem_append_left _ h))))))
theorem WS_t5 {w : Jvm.Cond} (i : Nat) (h : tables_1_5[i]? = some w) (hg : goodWord w = true) : w ∈ WS := WS_in (tm_5 (List.mem_of_getElem? h)) hg
theorem tm_6 {w : Jvm.Cond} (h : w ∈ tables_1_6) : w ∈ lw_tbl := List.mem_append_right (k2_sels lw_privs) (show w ∈ tables_1 from (List.mem_append_right _ (List.mem_append_right _ (List.mem_append_right _ (List.mem_append_right _ (List.mem_append_right _ (List.mem_append_left _ h)))))))
theorem WS_t6 {w : Jvm.Cond} (i : Nat) (h : tables_1_6[i]? = some w) (hg : goodWord w = true) : w ∈ WS := WS_in (tm_6 (List.mem_of_getElem? h)) hg
theorem tm_7 {w : Jvm.Cond} (h : w ∈ tables_1_7) : w ∈ lw_tbl := List.mem_append_right (k2_sels lw_privs) (show w ∈ tables_1 from (List.mem_append_right _ (List.mem_append_right _ (List.mem_append_right _ (List.mem_append_right _ (List.mem_append_right _ (List.mem_append_right _ h)))))))
theorem WS_t7 {w : Jvm.Cond} (i : Nat) (h : tables_1_7[i]? = some w) (hg : goodWord w = true) : w ∈ WS := WS_in (tm_7 (List.mem_of_getElem? h)) hg
theorem lay_in {C : String} {T : u_T} {N : Nat} (h : ∀ k, k < N → u_lay C T k ∈ WS) : ∀ w ∈ u_ws C T N, w ∈ WS := fun w hw => by
  obtain ⟨k, hk, rfl⟩ := List.mem_map.mp hw
  exact h k (List.mem_range.mp hk)
theorem SBP_good : ∀ w ∈ SBP, goodWord w = true := by decide +kernel
theorem WS_sb {y : MethodName} (h : y ∈ asbP) : Jvm.Cond.selects "java/lang/StringBuilder" y y ∈ WS := List.mem_append_left _ (List.mem_map_of_mem h)
theorem WS_good {w : Jvm.Cond} (h : w ∈ WS) : goodWord w = true := by
  rcases List.mem_append.mp h with h | h
  · exact SBP_good w h
  · exact (List.mem_filter.mp h).2
abbrev wsm (hd : Jvm.Cond) : List Jvm.Cond := hd :: WS
abbrev rmD (d mc ms : Nat) : Room := { frames := d, cells := mc, slots := ms, locals := 60 * d }
def gH (G : GT) (w : Hw) (U : State) : Prop := hR G w U.heap ∧ gK G U ∧ gN G ≤ U.heap.size ∧ GBg G U
def qC (G : GT) (Q : Ot → Hw → Prop) : Array Value → State → Outcome → State → Prop := fun _ st o t => ∃ (v : Option Value) (w' : Hw), o = .returned v ∧ Q (.inl v) w' ∧ hR G w' t.heap ∧ va_F (gA G) st t
def qX (G : GT) (Q : Ot → Hw → Prop) : String → State → State → Prop := fun E st t => ∃ w' : Hw, Q (.inr E) w' ∧ hR G w' t.heap ∧ va_F (gA G) st t
/-- a call of y on the arguments 'args' in the abstract heap w comes to an end that Q allows -/
def CX (l : Launch) (G : GT) (y : MethodName) (hd : Jvm.Cond) (d mc ms : Nat) (args : List Value) (w : Hw) (Q : Ot → Hw → Prop) : Prop :=
  vx_Met l y (wsm hd) (rmD d mc ms) (fun a U => a = args.toArray ∧ gH G w U) (qC G Q) (qX G Q) mc ms (gA G)
abbrev TF : Type := List Value → Hw → (Ot → Hw → Prop) → Prop
/-- a callee: kind, number of values it takes, the receiver's class, depth, cells, slots, name, what it does -/
abbrev CF : Type := List Value → Hw → Nat
abbrev CE : Type := Nat × Nat × Nat × Nat × CF × CF × MethodName × TF
/-- a method: class, bytes, locals, depth, cells, slots, type; fields (entry, class, place), classes to be made, arrays to be made, numbers, throws (place, class), Object's <init>, callees -/
abbrev MT : Type := (String × ByteArray × Nat × Nat × Nat × Nat × Bool × Option FieldType) × List (Nat × Nat × Nat) × List (Nat × Nat × List Value) × List (Nat × Nat) × List (Nat × Int64) × List (Nat × String) × Nat × List (Nat × CE) × List (Nat × Nat) × List (Nat × Nat) × Nat × List (Nat × Nat × Nat × Nat) × List (Nat × String) × RO
abbrev MT.own (M : MT) : String := M.1.1
abbrev MT.code (M : MT) : ByteArray := M.1.2.1
abbrev MT.maxL (M : MT) : Nat := M.1.2.2.1
abbrev MT.d (M : MT) : Nat := M.1.2.2.2.1
abbrev MT.mc (M : MT) : Nat := M.1.2.2.2.2.1
abbrev MT.ms (M : MT) : Nat := M.1.2.2.2.2.2.1
abbrev MT.isI (M : MT) : Bool := M.1.2.2.2.2.2.2.1
abbrev MT.rt (M : MT) : Option FieldType := M.1.2.2.2.2.2.2.2
abbrev MT.fld (M : MT) : List (Nat × Nat × Nat) := M.2.1
abbrev MT.new (M : MT) : List (Nat × Nat × List Value) := M.2.2.1
abbrev MT.anew (M : MT) : List (Nat × Nat) := M.2.2.2.1
abbrev MT.lng (M : MT) : List (Nat × Int64) := M.2.2.2.2.1
abbrev MT.thr (M : MT) : List (Nat × String) := M.2.2.2.2.2.1
abbrev MT.obj (M : MT) : Nat := M.2.2.2.2.2.2.1
abbrev MT.cal (M : MT) : List (Nat × CE) := M.2.2.2.2.2.2.2.1
/-- statics and texts (entry, number); casts to arrays (entry, kind); arraycopy's entry; what is read only -/
abbrev MT.stt (M : MT) : List (Nat × Nat) := M.2.2.2.2.2.2.2.2.1
abbrev MT.cst (M : MT) : List (Nat × Nat) := M.2.2.2.2.2.2.2.2.2.1
abbrev MT.acp (M : MT) : Nat := M.2.2.2.2.2.2.2.2.2.2.1
/-- the exception table; the names of the classes in it -/
abbrev MT.hh (M : MT) : List (Nat × Nat × Nat × Nat) := M.2.2.2.2.2.2.2.2.2.2.2.1
abbrev MT.hnm (M : MT) : List (Nat × String) := M.2.2.2.2.2.2.2.2.2.2.2.2.1
abbrev MT.g (M : MT) : RO := M.2.2.2.2.2.2.2.2.2.2.2.2.2
/-- a point: pc, locals, stack, heap, cells and slots made so far -/
abbrev St : Type := Nat × List (Option Value) × List Value × Hw × Nat × Nat
abbrev PT : Type := (St → Prop) → Prop
def bad : PT := fun _ => False
def tof (σ : St) : PT := fun P => P σ
def wt (st : List Value) : Nat := (st.map fun v => v.category).sum
def cnd : ClassFile.Cond → Int32 → Int32 → Prop
  | .eq, x, y => x = y
  | .ne, x, y => ¬ x = y
  | .lt, x, y => x < y
  | .ge, x, y => y ≤ x
  | .gt, x, y => y < x
  | .le, x, y => x ≤ y
def br (c : Prop) (pc : Nat) (off : Int) (len : Nat) (mk : Nat → St) : PT := fun P => 0 ≤ (pc : Int) + off ∧ (c → P (mk ((pc : Int) + off).toNat)) ∧ (¬ c → P (mk (pc + len)))
def jmp (pc : Nat) (off : Int) (mk : Nat → St) : PT := fun P => 0 ≤ (pc : Int) + off ∧ P (mk ((pc : Int) + off).toNat)
/-- the row of longs, of ints, of references at a -/
def gl (w : Option Ob) (t : Nat) (K : Nat → (Nat → Int64) → Prop) : Prop := match w with
  | some (.inl (t', n, .inr (.inl f))) => t' = t ∧ K n f
  | _ => False
def gi (w : Option Ob) (t : Nat) (K : Nat → (Nat → Int32) → Prop) : Prop := match w with
  | some (.inl (t', n, .inl f)) => t' = t ∧ K n f
  | _ => False
def gb (w : Option Ob) (K : Nat → Nat → (Nat → Int32) → Prop) : Prop := match w with
  | some (.inl (t, n, .inl f)) => (t = 2 ∨ t = 3) ∧ K t n f
  | _ => False
def bty (t : Nat) : FieldType := if t = 2 then .byte else .boolean
def gq (w : Option Ob) (K : Nat → Nat → (Nat → Option Nat) → Prop) : Prop := match w with
  | some (.inl (t', n, .inr (.inr (.inr (.inr f))))) => K t' n f
  | _ => False
def go (w : Option Ob) (c : Nat) (K : List Value → Prop) : Prop := match w with
  | some (.inr (c', fs)) => c' = c ∧ K fs
  | _ => False
def isO (g : RO) (w : Hw) (v : Option Value) (c : Nat) : Prop := match v with
  | some (.ref a) => go (rd g w a) c fun _ => True
  | _ => False
abbrev EX3 : List String := ["java/lang/IndexOutOfBoundsException", "java/lang/IllegalArgumentException", "java/lang/IllegalStateException"]
/-- the handler that takes E, thrown at pc -/
def hfind (hnm : List (Nat × String)) (pc : Nat) (E : String) : List (Nat × Nat × Nat × Nat) → Option Nat
  | [] => none
  | h :: r => if h.1 ≤ pc ∧ pc < h.2.1 ∧ hnm.lookup h.2.2.2 = some E then some h.2.2.1 else hfind hnm pc E r
def hgo (M : MT) (Q : Ot → Hw → Prop) (P : St → Prop) (pc : Nat) (L : List (Option Value)) (E : String) (w : Hw) (k n : Nat) : Prop :=
  (M.hh = [] ∨ E ∈ EX3) ∧ match hfind M.hnm pc E M.hh with
  | some h => ∀ q : Nat, P (h, L, [.ref q], w, k, n)
  | none => Q (.inr E) w
/-- a call -/
def nxC (M : MT) (Q : Ot → Hw → Prop) (ce : CE) (len pc : Nat) (L : List (Option Value)) (st : List Value) (w : Hw) (k n : Nat) : PT := fun P =>
  ce.2.1 ≤ st.length ∧ wt (st.drop ce.2.1) ≤ 8 ∧ ce.2.2.2.1 + 1 ≤ M.d ∧ k + ce.2.2.2.2.1 (st.take ce.2.1).reverse w ≤ M.mc ∧ n + ce.2.2.2.2.2.1 (st.take ce.2.1).reverse w ≤ M.ms ∧ (2 ≤ ce.1 → ce.1 ≠ 9 → (∃ b, (st.take ce.2.1).reverse.head? = some (.ref b)) ∧ (ce.1 ≠ 4 → isO M.g w (st.take ce.2.1).reverse.head? ce.2.2.1)) ∧
  ∃ S : Ot → Hw → Prop, ce.2.2.2.2.2.2.2 (st.take ce.2.1).reverse w S ∧
    (∀ v w', S (.inl v) w' → P (pc + len, L, v.toList ++ st.drop ce.2.1, w', k + ce.2.2.2.2.1 (st.take ce.2.1).reverse w, n + ce.2.2.2.2.2.1 (st.take ce.2.1).reverse w)) ∧ (∀ E w', S (.inr E) w' → hgo M Q P pc L E w' (k + ce.2.2.2.2.1 (st.take ce.2.1).reverse w) (n + ce.2.2.2.2.2.1 (st.take ce.2.1).reverse w))
def retv (M : MT) (Q : Ot → Hw → Prop) (v : Option Value) (w : Hw) (k n : Nat) : Prop := k ≤ M.mc ∧ n ≤ M.ms ∧ Q (.inl v) w
def ldI (L : List (Option Value)) (i : Nat) (f : Value → PT) : PT := match L[i]? with
  | some (some (.int x)) => f (.int x)
  | _ => bad
def ldL (L : List (Option Value)) (i : Nat) (f : Value → PT) : PT := match L[i]? with
  | some (some (.long x)) => f (.long x)
  | _ => bad
def ldA (L : List (Option Value)) (i : Nat) (f : Value → PT) : PT := match L[i]? with
  | some (some (.ref x)) => f (.ref x)
  | some (some .null) => f .null
  | _ => bad
def sI (st : List Value) (f : Int32 → List Value → PT) : PT := match st with
  | .int x :: r => f x r
  | _ => bad
def sL (st : List Value) (f : Int64 → List Value → PT) : PT := match st with
  | .long x :: r => f x r
  | _ => bad
def sA (st : List Value) (f : Value → List Value → PT) : PT := match st with
  | .ref x :: r => f (.ref x) r
  | .null :: r => f .null r
  | _ => bad
def sR (st : List Value) (f : Nat → List Value → PT) : PT := match st with
  | .ref x :: r => f x r
  | _ => bad
def sV (st : List Value) (f : Value → List Value → PT) : PT := match st with
  | v :: r => f v r
  | _ => bad
def lk {α : Type} (o : Option α) (f : α → PT) : PT := match o with
  | some v => f v
  | none => bad
def acP (c : ACond) (x y : Value) : Prop := match c with | .eq => x = y | .ne => ¬ x = y
def nxI (M : MT) (Q : Ot → Hw → Prop) (i : Instr) (len pc : Nat) (L : List (Option Value)) (st : List Value) (w : Hw) (k n : Nat) : PT :=
  match i with
  | .iconst v => tof (pc + 1, L, .int (Int32.ofInt v) :: st, w, k, n)
  | .lconst v => tof (pc + 1, L, .long (Int64.ofNat (v : Nat)) :: st, w, k, n)
  | .bipush v => tof (pc + 2, L, .int (Int8.ofInt v).toInt32 :: st, w, k, n)
  | .sipush v => tof (pc + 3, L, .int (Int16.ofInt v).toInt32 :: st, w, k, n)
  | .aconst_null => tof (pc + 1, L, .null :: st, w, k, n)
  | .iload i => ldI L i fun v => tof (pc + 2, L, v :: st, w, k, n)
  | .iload_n i => ldI L i fun v => tof (pc + 1, L, v :: st, w, k, n)
  | .lload i => ldL L i fun v => tof (pc + 2, L, v :: st, w, k, n)
  | .lload_n i => ldL L i fun v => tof (pc + 1, L, v :: st, w, k, n)
  | .aload i => ldA L i fun v => tof (pc + 2, L, v :: st, w, k, n)
  | .aload_n i => ldA L i fun v => tof (pc + 1, L, v :: st, w, k, n)
  | .istore i => sI st fun x r => fun P => i < L.length ∧ P (pc + 2, sto1 L i (.int x), r, w, k, n)
  | .istore_n i => sI st fun x r => fun P => (i : Nat) < L.length ∧ P (pc + 1, sto1 L i (.int x), r, w, k, n)
  | .lstore i => sL st fun x r => fun P => i + 1 < L.length ∧ P (pc + 2, sto2 L i (.long x), r, w, k, n)
  | .lstore_n i => sL st fun x r => fun P => (i : Nat) + 1 < L.length ∧ P (pc + 1, sto2 L i (.long x), r, w, k, n)
  | .astore i => sA st fun v r => fun P => i < L.length ∧ P (pc + 2, sto1 L i v, r, w, k, n)
  | .astore_n i => sA st fun v r => fun P => (i : Nat) < L.length ∧ P (pc + 1, sto1 L i v, r, w, k, n)
  | .iinc i c => ldI L i fun v => fun P => i < L.length ∧ ∃ x : Int32, v = .int x ∧ P (pc + 3, sto1 L i (.int (x + Int32.ofInt c)), st, w, k, n)
  | .pop => sV st fun v r => fun P => v.category = 1 ∧ P (pc + 1, L, r, w, k, n)
  | .pop2 => sV st fun v r => fun P => v.category = 2 ∧ P (pc + 1, L, r, w, k, n)
  | .dup => sV st fun v r => fun P => v.category = 1 ∧ P (pc + 1, L, v :: v :: r, w, k, n)
  | .dup_x1 => sV st fun v r => sV r fun u r => fun P => v.category = 1 ∧ u.category = 1 ∧ P (pc + 1, L, v :: u :: v :: r, w, k, n)
  | .iadd => sI st fun b r => sI r fun a r => tof (pc + 1, L, .int (a + b) :: r, w, k, n)
  | .isub => sI st fun b r => sI r fun a r => tof (pc + 1, L, .int (a - b) :: r, w, k, n)
  | .imul => sI st fun b r => sI r fun a r => tof (pc + 1, L, .int (a * b) :: r, w, k, n)
  | .iand => sI st fun b r => sI r fun a r => tof (pc + 1, L, .int (a &&& b) :: r, w, k, n)
  | .ior => sI st fun b r => sI r fun a r => tof (pc + 1, L, .int (a ||| b) :: r, w, k, n)
  | .ishl => sI st fun b r => sI r fun a r => tof (pc + 1, L, .int (a <<< (b &&& 31)) :: r, w, k, n)
  | .ineg => sI st fun a r => tof (pc + 1, L, .int (-a) :: r, w, k, n)
  | .idiv => sI st fun b r => sI r fun a r => fun P => ¬ b = 0 ∧ P (pc + 1, L, .int (a / b) :: r, w, k, n)
  | .ladd => sL st fun b r => sL r fun a r => tof (pc + 1, L, .long (a + b) :: r, w, k, n)
  | .lsub => sL st fun b r => sL r fun a r => tof (pc + 1, L, .long (a - b) :: r, w, k, n)
  | .lmul => sL st fun b r => sL r fun a r => tof (pc + 1, L, .long (a * b) :: r, w, k, n)
  | .land => sL st fun b r => sL r fun a r => tof (pc + 1, L, .long (a &&& b) :: r, w, k, n)
  | .lor => sL st fun b r => sL r fun a r => tof (pc + 1, L, .long (a ||| b) :: r, w, k, n)
  | .ldiv => sL st fun b r => sL r fun a r => fun P => ¬ b = 0 ∧ P (pc + 1, L, .long (a / b) :: r, w, k, n)
  | .lrem => sL st fun b r => sL r fun a r => fun P => ¬ b = 0 ∧ P (pc + 1, L, .long (a - a / b * b) :: r, w, k, n)
  | .lshl => sI st fun b r => sL r fun a r => tof (pc + 1, L, .long (a <<< (b.toInt64 &&& 63)) :: r, w, k, n)
  | .lshr => sI st fun b r => sL r fun a r => tof (pc + 1, L, .long (a >>> (b.toInt64 &&& 63)) :: r, w, k, n)
  | .i2l => sI st fun a r => tof (pc + 1, L, .long a.toInt64 :: r, w, k, n)
  | .l2i => sL st fun a r => tof (pc + 1, L, .int a.toInt32 :: r, w, k, n)
  | .ishr => sI st fun b r => sI r fun a r => tof (pc + 1, L, .int (a >>> (b &&& 31)) :: r, w, k, n)
  | .i2b => sI st fun a r => tof (pc + 1, L, .int a.toInt8.toInt32 :: r, w, k, n)
  | .lneg => sL st fun a r => tof (pc + 1, L, .long (-a) :: r, w, k, n)
  | .getstatic i => lk (M.stt.lookup i) fun j => fun P => j < 10 ∧ P (pc + 3, L, M.g.1 j :: st, w, k, n)
  | .ldc i => lk (M.stt.lookup i) fun j => fun P => (20 ≤ j ∨ j = 10) ∧ P (pc + 2, L, M.g.1 j :: st, w, k, n)
  | .if_acmp c off => sA st fun y r => sA r fun x r => br (acP c x y) pc off 3 fun p => (p, L, r, w, k, n)
  | .checkcast i => sA st fun v r => fun P => (v = .null ∨ ∃ a t x, v = .ref a ∧ M.cst.lookup i = some t ∧ w a = some (.inl (t, x))) ∧ P (pc + 3, L, v :: r, w, k, n)
  | .lcmp => sL st fun b r => sL r fun a r => tof (pc + 1, L, .int (lg_cmp a b) :: r, w, k, n)
  | .ifCond c off => sI st fun x r => br (cnd c x 0) pc off 3 fun p => (p, L, r, w, k, n)
  | .if_icmp c off => sI st fun y r => sI r fun x r => br (cnd c x y) pc off 3 fun p => (p, L, r, w, k, n)
  | .ifnull off => sA st fun v r => br (v = .null) pc off 3 fun p => (p, L, r, w, k, n)
  | .ifnonnull off => sA st fun v r => br (¬ v = .null) pc off 3 fun p => (p, L, r, w, k, n)
  | .goto off => jmp pc off fun p => (p, L, st, w, k, n)
  | .tableswitch dflt lo hi offs => sI st fun x r => fun P => 0 ≤ (pc : Int) + dflt ∧ ((x.toInt < lo ∨ hi < x.toInt) → P (((pc : Int) + dflt).toNat, L, r, w, k, n)) ∧
      (¬ x.toInt < lo → ¬ hi < x.toInt → ∃ off : Int, offs[(x.toInt - lo).toNat]? = some off ∧ 0 ≤ (pc : Int) + off ∧ P (((pc : Int) + off).toNat, L, r, w, k, n))
  | .lookupswitch dflt ps => sI st fun x r => fun P => (ps.toList.zip (ps.toList.drop 1)).all (fun (a, next) => a.1 < next.1) = true ∧ 0 ≤ (pc : Int) + Op.lookupswitch.offset ps.toList dflt x.toInt ∧ P (((pc : Int) + Op.lookupswitch.offset ps.toList dflt x.toInt).toNat, L, r, w, k, n)
  | .ldc2_w i => lk (M.lng.lookup i) fun v => tof (pc + 3, L, .long v :: st, w, k, n)
  | .getfield i => lk (M.fld.lookup i) fun q => sR st fun a r => fun P => go (rd M.g w a) q.1 fun fs => ∃ v, fs[q.2]? = some v ∧ P (pc + 3, L, v :: r, w, k, n)
  | .putfield i => lk (M.fld.lookup i) fun q => sV st fun v r => sR r fun a r => fun P => go (w a) q.1 fun fs => q.2 < fs.length ∧ (∃ z : vw_C, vwCl[q.1]? = some z ∧ ∃ ty, parseFieldDescriptor (z.2.1 q.2).2.2.1 = some ty ∧ narrow ty v = v ∧ fits ty v = true ∧ ((z.2.1 q.2).2.2.2 = false ∨ (M.isI = true ∧ (z.2.1 q.2).1 = M.own))) ∧ P (pc + 3, L, r, upw w a (.inr (q.1, fs.set q.2 v)), k, n)
  | .new i => lk (M.new.lookup i) fun z => fun P => k + 1 ≤ M.mc ∧ n + z.2.length ≤ M.ms ∧ ∀ q : Nat, rd M.g w q = none → P (pc + 3, L, .ref q :: st, upw w q (.inr z), k + 1, n + z.2.length)
  | .anewarray i => lk (M.anew.lookup i) fun t => sI st fun x r => fun P => ¬ x < 0 ∧ x.toNatClampNeg ≤ 40000 ∧ k + 1 ≤ M.mc ∧ n + x.toNatClampNeg ≤ M.ms ∧ ∀ q : Nat, rd M.g w q = none → P (pc + 3, L, .ref q :: r, upw w q (.inl (t, x.toNatClampNeg, .inr (.inr (.inr (.inr fun _ => none))))), k + 1, n + x.toNatClampNeg)
  | .newarray .long => sI st fun x r => fun P => ¬ x < 0 ∧ x.toNatClampNeg ≤ 40000 ∧ k + 1 ≤ M.mc ∧ n + x.toNatClampNeg ≤ M.ms ∧ ∀ q : Nat, rd M.g w q = none → P (pc + 2, L, .ref q :: r, upw w q (.inl (0, x.toNatClampNeg, .inr (.inl fun _ => 0))), k + 1, n + x.toNatClampNeg)
  | .newarray .int => sI st fun x r => fun P => ¬ x < 0 ∧ x.toNatClampNeg ≤ 40000 ∧ k + 1 ≤ M.mc ∧ n + x.toNatClampNeg ≤ M.ms ∧ ∀ q : Nat, rd M.g w q = none → P (pc + 2, L, .ref q :: r, upw w q (.inl (1, x.toNatClampNeg, .inl fun _ => 0)), k + 1, n + x.toNatClampNeg)
  | .newarray .byte => sI st fun x r => fun P => ¬ x < 0 ∧ x.toNatClampNeg ≤ 40000 ∧ k + 1 ≤ M.mc ∧ n + x.toNatClampNeg ≤ M.ms ∧ ∀ q : Nat, rd M.g w q = none → P (pc + 2, L, .ref q :: r, upw w q (.inl (2, x.toNatClampNeg, .inl fun _ => 0)), k + 1, n + x.toNatClampNeg)
  | .newarray .boolean => sI st fun x r => fun P => ¬ x < 0 ∧ x.toNatClampNeg ≤ 40000 ∧ k + 1 ≤ M.mc ∧ n + x.toNatClampNeg ≤ M.ms ∧ ∀ q : Nat, rd M.g w q = none → P (pc + 2, L, .ref q :: r, upw w q (.inl (3, x.toNatClampNeg, .inl fun _ => 0)), k + 1, n + x.toNatClampNeg)
  | .laload => sI st fun x r => sR r fun a r => fun P => gl (rd M.g w a) 0 fun N f => vp_in x N ∧ P (pc + 1, L, .long (f x.toNatClampNeg) :: r, w, k, n)
  | .lastore => sL st fun v r => sI r fun x r => sR r fun a r => fun P => gl (w a) 0 fun N f => vp_in x N ∧ P (pc + 1, L, r, upw w a (.inl (0, N, .inr (.inl (vp_updL f x.toNatClampNeg v)))), k, n)
  | .iaload => sI st fun x r => sR r fun a r => fun P => gi (rd M.g w a) 1 fun N f => vp_in x N ∧ P (pc + 1, L, .int (f x.toNatClampNeg) :: r, w, k, n)
  | .iastore => sI st fun v r => sI r fun x r => sR r fun a r => fun P => gi (w a) 1 fun N f => vp_in x N ∧ P (pc + 1, L, r, upw w a (.inl (1, N, .inl (upd f x.toNatClampNeg v))), k, n)
  | .baload => sI st fun x r => sR r fun a r => fun P => gb (rd M.g w a) fun _ N f => vp_in x N ∧ P (pc + 1, L, .int (f x.toNatClampNeg) :: r, w, k, n)
  | .bastore => sI st fun v r => sI r fun x r => sR r fun a r => fun P => gb (w a) fun t N f => vp_in x N ∧ P (pc + 1, L, r, upw w a (.inl (t, N, .inl (upd f x.toNatClampNeg (vp_nar (bty t) v)))), k, n)
  | .aaload => sI st fun x r => sR r fun a r => fun P => gq (rd M.g w a) fun t N f => (t = 4 ∨ t = 5) ∧ vp_in x N ∧ P (pc + 1, L, va_rf (f x.toNatClampNeg) :: r, w, k, n)
  | .aastore => sA st fun v r => sI r fun x r => sR r fun a r => fun P => gq (w a) fun t N f => vp_in x N ∧
      ((v = .null ∧ (t = 4 ∨ t = 5) ∧ P (pc + 1, L, r, upw w a (.inl (t, N, .inr (.inr (.inr (.inr (va_up f x.toNatClampNeg none)))))), k, n)) ∨
       (∃ b : Nat, v = .ref b ∧ ((t = 4 ∧ go (w b) 4 fun _ => True) ∨ (t = 5 ∧ gl (w b) 0 fun _ _ => True)) ∧ P (pc + 1, L, r, upw w a (.inl (t, N, .inr (.inr (.inr (.inr (va_up f x.toNatClampNeg (some b))))))), k, n)))
  | .arraylength => sR st fun a r => fun P => ∃ t x, rd M.g w a = some (.inl (t, x)) ∧ t < 6 ∧ P (pc + 1, L, .int (Int32.ofNat x.1) :: r, w, k, n)
  | .invokestatic i => if i = M.acp then sI st fun n1 r => sI r fun dp r => sR r fun d r => sI r fun sp r => sR r fun s r => fun P => (wt r ≤ 8 ∧ M.acp ≠ 0) ∧ 1 ≤ M.d ∧ ¬ sp < 0 ∧ ¬ dp < 0 ∧ ¬ n1 < 0 ∧
        ((∃ N0 f0 N1 f1, w s = some (.inl (5, N0, .inr (.inr (.inr (.inr f0))))) ∧ w d = some (.inl (5, N1, .inr (.inr (.inr (.inr f1))))) ∧ sp.toNatClampNeg + n1.toNatClampNeg ≤ N0 ∧ dp.toNatClampNeg + n1.toNatClampNeg ≤ N1 ∧
            (∀ j y, j < n1.toNatClampNeg → f0 (sp.toNatClampNeg + j) = some y → gl (w y) 0 fun _ _ => True) ∧
            P (pc + 3, L, r, upw w d (.inl (5, N1, .inr (.inr (.inr (.inr (va_cpy f0 f1 sp.toNatClampNeg dp.toNatClampNeg n1.toNatClampNeg)))))), k, n)) ∨
         (∃ N0 f0 N1 f1, rd M.g w s = some (.inl (2, N0, .inl f0)) ∧ w d = some (.inl (2, N1, .inl f1)) ∧ sp.toNatClampNeg + n1.toNatClampNeg ≤ N0 ∧ dp.toNatClampNeg + n1.toNatClampNeg ≤ N1 ∧
            (∀ j, j < n1.toNatClampNeg → fits .byte (.int (f0 (sp.toNatClampNeg + j))) = true) ∧
            P (pc + 3, L, r, upw w d (.inl (2, N1, .inl (va_cpy f0 f1 sp.toNatClampNeg dp.toNatClampNeg n1.toNatClampNeg))), k, n)))
      else if M.stt.lookup i = some 12 then sI st fun y r => sI r fun x r => fun P => wt r ≤ 8 ∧ 1 ≤ M.d ∧ k ≤ M.mc ∧ n ≤ M.ms ∧ P (pc + 3, L, .int (if x < y then y else x) :: r, w, k, n)
      else if M.stt.lookup i = some 13 then sI st fun y r => sI r fun x r => fun P => wt r ≤ 8 ∧ 1 ≤ M.d ∧ k ≤ M.mc ∧ n ≤ M.ms ∧ P (pc + 3, L, .int (if y < x then y else x) :: r, w, k, n)
      else if M.stt.lookup i = some 14 then sI st fun x r => fun P => wt r ≤ 8 ∧ 1 ≤ M.d ∧ k ≤ M.mc ∧ n ≤ M.ms ∧ P (pc + 3, L, .int (if 0 ≤ x then x else 0 - x) :: r, w, k, n)
      else lk (M.cal.lookup i) fun ce => fun P => (ce.1 ≤ 1 ∨ ce.1 = 9) ∧ nxC M Q ce 3 pc L st w k n P
  | .invokevirtual i => if M.stt.lookup i = some 11 then sR st fun a r => fun P => wt r ≤ 8 ∧ 1 ≤ M.d ∧ (∃ x, w a = some (.inl (5, x))) ∧ P (pc + 3, L, M.g.1 10 :: r, w, k, n)
      else if M.stt.lookup i = some 15 then sR st fun a r => fun P => wt r ≤ 8 ∧ 1 ≤ M.d ∧ k + 1 ≤ M.mc ∧ ∃ N f, w a = some (.inl (2, N, .inl f)) ∧ n + N ≤ M.ms ∧ (∀ j, j < N → fits .byte (.int (f j)) = true) ∧ ∀ q : Nat, rd M.g w q = none → P (pc + 3, L, .ref q :: r, upw w q (.inl (2, N, .inl f)), k + 1, n + N)
      else lk (M.cal.lookup i) fun ce => fun P => (2 ≤ ce.1 ∧ ce.1 ≤ 3 ∨ 7 ≤ ce.1 ∧ ce.1 ≤ 8) ∧ nxC M Q ce 3 pc L st w k n P
  | .invokespecial i => if i = M.obj then sR st fun _ r => fun P => (wt r ≤ 8 ∧ M.obj ≠ 0) ∧ 1 ≤ M.d ∧ P (pc + 3, L, r, w, k, n) else lk (M.cal.lookup i) fun ce => fun P => (ce.1 = 4 ∨ ce.1 = 5 ∨ ce.1 = 10) ∧ nxC M Q ce 3 pc L st w k n P
  | .invokeinterface i _ => lk (M.cal.lookup i) fun ce => fun P => ce.1 = 6 ∧ nxC M Q ce 5 pc L st w k n P
  | .ireturn => fun _ => ∃ x : Int32, st = [.int x] ∧ (∃ ty, M.rt = some ty ∧ narrow ty (.int x) = .int x) ∧ retv M Q (some (.int x)) w k n
  | .lreturn => fun _ => ∃ x : Int64, st = [.long x] ∧ M.rt = some .long ∧ retv M Q (some (.long x)) w k n
  | .areturn => fun _ => ∃ v : Value, st = [v] ∧ (v = .null ∨ ∃ a, v = .ref a) ∧ (∃ ty, M.rt = some ty ∧ ((∃ nm, ty = .object nm) ∨ ∃ t, ty = .array t)) ∧ retv M Q (some v) w k n
  | .return_ => fun _ => st = [] ∧ M.rt = none ∧ retv M Q none w k n
  | _ => bad
def ilen : Instr → Nat
  | .tableswitch .. => 0
  | .lookupswitch .. => 0
  | .bipush _ | .iload _ | .lload _ | .aload _ | .istore _ | .lstore _ | .astore _ | .ldc _ | .newarray _ => 2
  | .sipush _ | .iinc .. | .ifCond .. | .if_icmp .. | .if_acmp .. | .ifnull _ | .ifnonnull _ | .goto _ | .ldc2_w _ | .ldc_w _ | .getfield _ | .putfield _ | .getstatic _ | .new _ | .anewarray _ | .checkcast _ | .instanceof _ | .invokestatic _ | .invokevirtual _ | .invokespecial _ => 3
  | .invokeinterface .. => 5
  | _ => 1
def nx (M : MT) (Q : Ot → Hw → Prop) : St → PT := fun σ P => match M.thr.lookup σ.1 with
  | some E => M.hh = [] ∧ σ.2.2.2.2.1 + 1 ≤ M.mc ∧ σ.2.2.2.2.2 + 6 ≤ M.ms ∧ wt σ.2.2.1 ≤ 8 ∧ 6 ≤ M.d ∧ Q (.inr E) σ.2.2.2.1
  | none => match decode M.code σ.1 with
    | .ok (i, len) => (ilen i = 0 ∨ ilen i = len) ∧ nxI M Q i len σ.1 σ.2.1 σ.2.2.1 σ.2.2.2.1 σ.2.2.2.2.1 σ.2.2.2.2.2 P
    | .error _ => False
/-- the least predicate that a step closes -/
def WP (M : MT) (Q : Ot → Hw → Prop) (σ : St) : Prop := ∀ P : St → Prop, (∀ τ, nx M Q τ P → P τ) → P σ
end
