section
section INV
variable {P : St → Prop} {L : List (Option Value)} {st : List Value} {w : Hw} {i : Nat}
theorem ldI_inv {f : Value → PT} (h : ldI L i f P) : ∃ x, L[i]? = some (some (.int x)) ∧ f (.int x) P := by
  unfold ldI at h
  rcases hz : L[i]? with _ | _ | v <;> rw [hz] at h <;> first | exact h.elim | (cases v <;> first | exact h.elim | exact ⟨_, rfl, h⟩)
theorem ldL_inv {f : Value → PT} (h : ldL L i f P) : ∃ x, L[i]? = some (some (.long x)) ∧ f (.long x) P := by
  unfold ldL at h
  rcases hz : L[i]? with _ | _ | v <;> rw [hz] at h <;> first | exact h.elim | (cases v <;> first | exact h.elim | exact ⟨_, rfl, h⟩)
theorem ldA_inv {f : Value → PT} (h : ldA L i f P) : (∃ x, L[i]? = some (some (.ref x)) ∧ f (.ref x) P) ∨ (L[i]? = some (some .null) ∧ f .null P) := by
  unfold ldA at h
  rcases hz : L[i]? with _ | _ | v <;> rw [hz] at h <;> first | exact h.elim | (cases v <;> first | exact h.elim | exact Or.inl ⟨_, rfl, h⟩ | exact Or.inr ⟨rfl, h⟩)
theorem sI_inv {f : Int32 → List Value → PT} (h : sI st f P) : ∃ x r, st = .int x :: r ∧ f x r P := by
  unfold sI at h
  split at h
  · exact ⟨_, _, rfl, h⟩
  · exact h.elim
theorem sL_inv {f : Int64 → List Value → PT} (h : sL st f P) : ∃ x r, st = .long x :: r ∧ f x r P := by
  unfold sL at h
  split at h
  · exact ⟨_, _, rfl, h⟩
  · exact h.elim
theorem sA_inv {f : Value → List Value → PT} (h : sA st f P) : (∃ x r, st = .ref x :: r ∧ f (.ref x) r P) ∨ (∃ r, st = .null :: r ∧ f .null r P) := by
  unfold sA at h
  split at h
  · exact Or.inl ⟨_, _, rfl, h⟩
  · exact Or.inr ⟨_, rfl, h⟩
  · exact h.elim
theorem sR_inv {f : Nat → List Value → PT} (h : sR st f P) : ∃ x r, st = .ref x :: r ∧ f x r P := by
  unfold sR at h
  split at h
  · exact ⟨_, _, rfl, h⟩
  · exact h.elim
theorem sV_inv {f : Value → List Value → PT} (h : sV st f P) : ∃ x r, st = x :: r ∧ f x r P := by
  unfold sV at h
  split at h
  · exact ⟨_, _, rfl, h⟩
  · exact h.elim
theorem lk_inv {α : Type} {o : Option α} {f : α → PT} (h : lk o f P) : ∃ v, o = some v ∧ f v P := by
  unfold lk at h
  split at h
  · exact ⟨_, rfl, h⟩
  · exact h.elim
theorem go_inv {w : Option Ob} {c : Nat} {K : List Value → Prop} (h : go w c K) : ∃ fs, w = some (.inr (c, fs)) ∧ K fs := by
  unfold go at h
  split at h
  · exact ⟨_, by rw [h.1], h.2⟩
  · exact h.elim
theorem gl_inv {w : Option Ob} {t : Nat} {K : Nat → (Nat → Int64) → Prop} (h : gl w t K) : ∃ n f, w = some (.inl (t, n, .inr (.inl f))) ∧ K n f := by
  unfold gl at h
  split at h
  · exact ⟨_, _, by rw [h.1], h.2⟩
  · exact h.elim
theorem gi_inv {w : Option Ob} {t : Nat} {K : Nat → (Nat → Int32) → Prop} (h : gi w t K) : ∃ n f, w = some (.inl (t, n, .inl f)) ∧ K n f := by
  unfold gi at h
  split at h
  · exact ⟨_, _, by rw [h.1], h.2⟩
  · exact h.elim
theorem gb_inv {w : Option Ob} {K : Nat → Nat → (Nat → Int32) → Prop} (h : gb w K) : ∃ t n f, w = some (.inl (t, n, .inl f)) ∧ (t = 2 ∨ t = 3) ∧ K t n f := by
  unfold gb at h
  split at h
  · exact ⟨_, _, _, rfl, h⟩
  · exact h.elim
theorem gq_inv {w : Option Ob} {K : Nat → Nat → (Nat → Option Nat) → Prop} (h : gq w K) : ∃ t n f, w = some (.inl (t, n, .inr (.inr (.inr (.inr f))))) ∧ K t n f := by
  unfold gq at h
  split at h
  · exact ⟨_, _, _, rfl, h⟩
  · exact h.elim
end INV
def vFld (own : String) (i c j : Nat) : Prop := ∃ (C : String) (T : u_T) (N : Nat) (ty0 : Nat → FieldType) (ref : String), vwCl[c]? = some (C, T, N) ∧ j < N ∧ (∀ w ∈ u_ws C T N, w ∈ WS) ∧ (∀ k, k < N → parseFieldDescriptor (T k).2.2.1 = some (ty0 k)) ∧
  (∀ a, a < N → ∀ b, b < N → a ≠ b → (T a).2.1 ≠ (T b).2.1) ∧ (ref = (T j).1 ∨ Jvm.Cond.sameField ref (T j).1 (T j).2.1 (T j).2.2.1 ∈ WS) ∧
  (Jvm.Cond.fieldLink own i ref (T j).2.1 (T j).2.2.1 ∈ WS ∨ ((T j).2.2.2 = false ∧ ∃ host : String, Jvm.Cond.fieldLinkNest own i ref (T j).2.1 (T j).2.2.1 host ∈ lw_tbl) ∨ ((T j).2.2.2 = true ∧ (T j).1 ≠ own ∧ ∃ host : String, Jvm.Cond.fieldLinkNest own i ref (T j).2.1 (T j).2.2.1 host ∈ lw_tbl))
def vNew (own : String) (i c : Nat) (fs : List Value) : Prop := ∃ (C : String) (T : u_T) (ty0 : Nat → FieldType), vwCl[c]? = some (C, T, fs.length) ∧ (∀ w ∈ u_ws C T fs.length, w ∈ WS) ∧ (∀ k, k < fs.length → parseFieldDescriptor (T k).2.2.1 = some (ty0 k)) ∧
  Jvm.Cond.classLink own i C ∈ WS ∧ Jvm.Cond.instantiable C fs.length ∈ WS ∧ Jvm.Cond.initialized C ∈ WS ∧ ∀ j, j < fs.length → defaultValue (ty0 j) = vp_V fs j
def vANew (own : String) (i t : Nat) : Prop := ∃ C : String, atyL[t]? = some (.object C) ∧ Jvm.Cond.classLink own i C ∈ WS ∧ C ∈ AOL
abbrev exNames : List String := ["java/lang/RuntimeException", "java/lang/Exception"]
def vThr (own : String) (code : ByteArray) (pc : Nat) (E : String) : Prop := ∃ (ik is ic : Nat) (text : String), (own, is, text) ∈ STL ∧ Bundle.fit E = true ∧ Jvm.Cond.classLink own ik E ∈ WS ∧ Jvm.Cond.initialized E ∈ WS ∧
  (∀ w ∈ vx_atS own ic E exNames, ((w ∈ lw_tbl ∧ (goodWord w || isNW w) = true) ∨ w = .castable E E) ∧ vx_ot w = true) ∧ (E, E) ∈ CSL ∧
  decode code pc = .ok (.new ik, 3) ∧ decode code (pc + 3) = .ok (.dup, 1) ∧ decode code (pc + 4) = .ok (.ldc is, 2) ∧ decode code (pc + 6) = .ok (.invokespecial ic, 3) ∧ decode code (pc + 9) = .ok (.athrow, 1)
def vCal (l : Launch) (G : GT) (own : String) (i : Nat) (ce : CE) : Prop := ∃ (bytes : ByteArray) (maxL : Nat) (ret : Option FieldType), ∀ y : MethodName, y = ce.2.2.2.2.2.2.1 →
  maxL ≤ 40 ∧ (∃ hd : Jvm.Cond, hd ∈ WS ∧ (∀ (args : List Value) (w : Hw) (S : Ot → Hw → Prop), ce.2.2.2.2.2.2.2 args w S → CX l G y hd ce.2.2.2.1 (ce.2.2.2.2.1 args w) (ce.2.2.2.2.2.1 args w) args w S) ∧ ((ce.1 ≠ 9 ∧ hd = .code y bytes maxL ret) ∨ (ce.1 = 9 ∧ ∃ hh, hd = .codeWith y bytes maxL ret hh))) ∧
  Jvm.Cond.initialized y.cls ∈ WS ∧ (y.cls ≠ "java/lang/invoke/MethodHandle" ∧ y.cls ≠ "java/lang/invoke/VarHandle") ∧
  match ce.1 with
  | 0 => (parseMethodDescriptor y.desc).map (fun d => d.parameters.length) = some ce.2.1 ∧ Jvm.Cond.methodLink own i y ∈ WS ∧ Jvm.Cond.static y ∈ WS
  | 1 => (parseMethodDescriptor y.desc).map (fun d => d.parameters.length) = some ce.2.1 ∧ (∃ host : String, Jvm.Cond.methodLinkNest own i y host ∈ lw_tbl) ∧ Jvm.Cond.static y ∈ WS
  | 2 => (parseMethodDescriptor y.desc).map (fun d => d.parameters.length + 1) = some ce.2.1 ∧ Jvm.Cond.methodLink own i y ∈ WS ∧ Jvm.Cond.instanceMethod y ∈ WS ∧ Jvm.Cond.selects y.cls y y ∈ WS ∧ ∃ q : vw_C, vwCl[ce.2.2.1]? = some q ∧ q.1 = y.cls
  | 3 => (parseMethodDescriptor y.desc).map (fun d => d.parameters.length + 1) = some ce.2.1 ∧ (∃ host : String, Jvm.Cond.methodLinkNest own i y host ∈ lw_tbl) ∧ Jvm.Cond.instanceMethod y ∈ WS ∧ Jvm.Cond.selects y.cls y y ∈ WS ∧ ∃ q : vw_C, vwCl[ce.2.2.1]? = some q ∧ q.1 = y.cls
  | 9 => (parseMethodDescriptor y.desc).map (fun d => d.parameters.length) = some ce.2.1 ∧ ((Jvm.Cond.methodLink own i y ∈ WS ∧ True)) ∧ Jvm.Cond.static y ∈ WS
  | 7 => (parseMethodDescriptor y.desc).map (fun d => d.parameters.length + 1) = some ce.2.1 ∧ Jvm.Cond.methodLink own i y ∈ WS ∧ Jvm.Cond.instanceMethod y ∈ WS ∧ ∃ q : vw_C, vwCl[ce.2.2.1]? = some q ∧ Jvm.Cond.selects q.1 y y ∈ WS
  | 8 => ∃ x : MethodName, (parseMethodDescriptor x.desc).map (fun d => d.parameters.length + 1) = some ce.2.1 ∧ Jvm.Cond.methodLink own i x ∈ WS ∧ Jvm.Cond.sameMethod x.cls x.cls x.name x.desc ∈ WS ∧ Jvm.Cond.instanceMethod x ∈ WS ∧ (∃ b m r, Jvm.Cond.code x b m r ∈ WS) ∧ Jvm.Cond.instanceMethod y ∈ WS ∧ (x.cls ≠ "java/lang/invoke/MethodHandle" ∧ x.cls ≠ "java/lang/invoke/VarHandle") ∧ ∃ q : vw_C, vwCl[ce.2.2.1]? = some q ∧ Jvm.Cond.selects q.1 x y ∈ WS
  | 10 => (parseMethodDescriptor y.desc).map (fun d => d.parameters.length + 1) = some ce.2.1 ∧ ret = none ∧ (∃ host : String, Jvm.Cond.methodLinkNest own i y host ∈ lw_tbl) ∧ Jvm.Cond.instanceMethod y ∈ WS ∧ y.name = "<init>"
  | 5 => (parseMethodDescriptor y.desc).map (fun d => d.parameters.length + 1) = some ce.2.1 ∧ Jvm.Cond.methodLink own i y ∈ WS ∧ Jvm.Cond.sameMethod y.cls y.cls y.name y.desc ∈ WS ∧ Jvm.Cond.superclass own y.cls ∈ WS ∧ Jvm.Cond.instanceMethod y ∈ WS ∧ y.name ≠ "<init>" ∧ ∃ q : vw_C, vwCl[ce.2.2.1]? = some q
  | 6 => ∃ x : MethodName, (parseMethodDescriptor x.desc).map (fun d => d.parameters.length + 1) = some ce.2.1 ∧ Jvm.Cond.methodLink own i x ∈ WS ∧ Jvm.Cond.instanceMethod y ∈ WS ∧ ∃ q : vw_C, vwCl[ce.2.2.1]? = some q ∧ Jvm.Cond.selects q.1 x y ∈ WS ∧ (q.1, x, y) ∈ IFL
  | 4 => (parseMethodDescriptor y.desc).map (fun d => d.parameters.length + 1) = some ce.2.1 ∧ ret = none ∧ Jvm.Cond.methodLink own i y ∈ WS ∧ Jvm.Cond.instanceMethod y ∈ WS ∧ y.name = "<init>"
  | _ => False
abbrev gcN : MethodName := ⟨"java/lang/Object", "getClass", "()Ljava/lang/Class;"⟩
def vStt (G : GT) (own : String) (i j : Nat) : Prop := (∃ C n d : String, (j, C, n, d) ∈ STT ∧ Jvm.Cond.fieldLink own i C n d ∈ WS) ∨ (∃ tx : String, (j, own, i, tx) ∈ STG) ∨ (j = 10 ∧ Jvm.Cond.classLink own i "[Ljava/lang/Object;" ∈ WS) ∨ (j = 11 ∧ Jvm.Cond.methodLink own i gcN ∈ WS) ∨ (∃ v : Int32, (j, v) ∈ ICL ∧ Jvm.Cond.constant own i v ∈ WS) ∨ (j = 12 ∧ Jvm.Cond.methodLink own i Lib.Math.max.name ∈ WS) ∨ (j = 13 ∧ Jvm.Cond.methodLink own i Lib.Math.min.name ∈ WS) ∨ (j = 14 ∧ Jvm.Cond.methodLink own i Lib.Math.abs.name ∈ WS) ∨ (j = 15 ∧ Jvm.Cond.methodLink own i ⟨"[B", "clone", "()Ljava/lang/Object;"⟩ ∈ WS)
def vCst (own : String) (i t : Nat) : Prop := ∃ ty : FieldType, atyL[t]? = some ty ∧ (∀ C, ty ≠ .object C) ∧ Jvm.Cond.classLink own i ("[" ++ ty.toString) ∈ WS
abbrev acN : MethodName := ⟨"java/lang/System", "arraycopy", "(Ljava/lang/Object;ILjava/lang/Object;II)V"⟩
def vM (l : Launch) (G : GT) (M : MT) : Prop :=
  (∀ i c j, M.fld.lookup i = some (c, j) → vFld M.own i c j) ∧ (∀ i c fs, M.new.lookup i = some (c, fs) → vNew M.own i c fs) ∧ (∀ i t, M.anew.lookup i = some t → vANew M.own i t) ∧
  (∀ i v, M.lng.lookup i = some v → Jvm.Cond.constantLong M.own i v ∈ WS) ∧ (∀ pc E, M.thr.lookup pc = some E → vThr M.own M.code pc E) ∧ (M.obj ≠ 0 → Jvm.Cond.methodLink M.own M.obj Lib.objectInit ∈ WS) ∧ (∀ i ce, M.cal.lookup i = some ce → vCal l G M.own i ce) ∧
  (∀ i j, M.stt.lookup i = some j → vStt G M.own i j) ∧ (∀ i t, M.cst.lookup i = some t → vCst M.own i t) ∧ (M.acp ≠ 0 → Jvm.Cond.methodLink M.own M.acp acN ∈ WS) ∧ M.g = gg G ∧ (∀ h ∈ M.hh, ∃ nm ∈ EX3, M.hnm.lookup h.2.2.2 = some nm ∧ h.2.2.2 ≠ 0 ∧ Jvm.Cond.classLink M.own h.2.2.2 nm ∈ WS)
/-- what stands at a method's entry -/
def Cx (p : Program) (l : Launch) (s : State) (m : MethodId) (args : Array Value) (meth : Method) (c : Code) (G : GT) (M : MT) : Prop :=
  p.tables.exec = Jvm.exec ∧ c.code = M.code ∧ c.maxLocals = M.maxL ∧ meth.sig.returnType = M.rt ∧ s.vm.findClass M.own = some m.cls ∧ (∀ w ∈ WS, w.before args s = true) ∧ meth.locks = false ∧ gK G s ∧ gN G ≤ s.heap.size ∧ GBg G s ∧ l.stackTraces = false ∧
  c.exceptionTable.toList = tableOf M.hh ∧ (M.isI = true → meth.name = "<init>")
def XS (p : Program) (l : Launch) (e : Env) (s : State) (m : MethodId) (args : Array Value) (below : List Frame) (meth : Method) (c : Code) (G : GT) (M : MT) (Q : Ot → Hw → Prop) (σ : St) : Prop :=
  ∀ (H : Heap) (ws : va_W) (locs : List Loc) (ls : Array Slot), va_P (gD G) vwCl ws H → va_D (gA G) ws → hB G σ.2.2.2.1 ws → va_S (gA G) s.heap H locs → LOK ls σ.2.1 → ls.size = c.maxLocals →
    W p l e (rmD M.d M.mc M.ms) s m args below meth c H locs σ.2.2.2.2.1 σ.2.2.2.2.2 (vx_MQ below (qC G Q) (qX G Q) args s M.mc M.ms (gA G)) (F0 m σ.1 ls σ.2.2.1)
section SND
variable {p : Program} {l : Launch} {e : Env} {s : State} {m : MethodId} {args : Array Value} {below : List Frame} {meth : Method} {c : Code} {G : GT} {M : MT} {Q : Ot → Hw → Prop}
variable {H : Heap} {ws : va_W} {locs : List Loc} {ls : Array Slot} {L : List (Option Value)} {st : List Value} {w : Hw} {k n pc : Nat}
theorem lenfix {i : Instr} {len : Nat} (hd : decode M.code pc = .ok (i, len)) (hl : ilen i = 0 ∨ ilen i = len) (h0 : ilen i ≠ 0) : decode M.code pc = .ok (i, ilen i) := by
  rcases hl with h | h
  · exact absurd h h0
  · rw [hd, h]
theorem brT {off : Int} (h : 0 ≤ (pc : Int) + off) : (pc : Int) + off = ((((pc : Int) + off).toNat : Nat) : Int) := (Int.toNat_of_nonneg h).symm
theorem EX3_nc : ∀ E ∈ EX3, ∀ nm ∈ EX3, E ≠ nm → (E, nm) ∈ NCL := by decide
theorem EX3_cs : ∀ E ∈ EX3, (E, E) ∈ CSL := by decide
/-- what is thrown here is caught by the first row that takes it, or goes on to the caller -/
theorem X_thrown {w' : Hw} {q : Nat} {E : String} {ce : Cell} {rest : List Value} (C0 : Cx p l s m args meth c G M) (hV : vM l G M) (hce : H[q]? = some ce) (hcv : ce.vm = .none) (hcl : s.vm.findClass E = some ce.cls)
    (hR1 : hR G w' H) (k3 : va_S (gA G) s.heap H locs) (hL : LOK ls L) (hsz : ls.size = c.maxLocals) (hk : k ≤ M.mc) (hn : n ≤ M.ms)
    (kx : hgo M Q (XS p l e s m args below meth c G M Q) pc L E w' k n) :
    vx_W p l e (rmD M.d M.mc M.ms) s m args below meth c H locs k n (vx_MQ below (qC G Q) (qX G Q) args s M.mc M.ms (gA G)) (F0 m pc ls rest) q := by
  obtain ⟨hx, hb, hml, hr, hown, hts, hlocks, hK, hz, hg, hst, hex, hin⟩ := id C0
  obtain ⟨hE, kx⟩ := kx
  have hrows := hV.2.2.2.2.2.2.2.2.2.2.2
  have hfree : ∀ z ∈ locs, gA G z.base := k3.2.2
  have key : ∀ (suf pre : List (Nat × Nat × Nat × Nat)), M.hh = pre ++ suf → (∀ h ∈ pre, ¬ (h.1 ≤ pc ∧ pc < h.2.1 ∧ M.hnm.lookup h.2.2.2 = some E)) → (match hfind M.hnm pc E suf with
      | some h => ∀ q : Nat, XS p l e s m args below meth c G M Q (h, L, [.ref q], w', k, n)
      | none => Q (.inr E) w') → vx_W p l e (rmD M.d M.mc M.ms) s m args below meth c H locs k n (vx_MQ below (qC G Q) (qX G Q) args s M.mc M.ms (gA G)) (F0 m pc ls rest) q := by
    have hpassOf : ∀ (pre : List (Nat × Nat × Nat × Nat)), (∀ h ∈ pre, h ∈ M.hh) → (∀ h ∈ pre, ¬ (h.1 ≤ pc ∧ pc < h.2.1 ∧ M.hnm.lookup h.2.2.2 = some E)) → ∀ z ∈ tableOf pre, covers z pc = false ∨ (z.catchType ≠ 0 ∧ ∃ nm : String, (Cond.classLink M.own z.catchType nm).before args s = true ∧ va_Nc E nm s) := by
      intro pre hsub hno z hz
      obtain ⟨h, hh, rfl⟩ := List.mem_map.mp hz
      obtain ⟨nm, h1, h2, h3, h4⟩ := hrows h (hsub h hh)
      by_cases hc : covers ⟨h.1, h.2.1, h.2.2.1, h.2.2.2⟩ pc = true
      · refine Or.inr ⟨h3, nm, hts _ h4, ?_⟩
        have hE3 : E ∈ EX3 := by
          rcases hE with hE | hE
          · have := hsub h hh
            rw [hE] at this
            cases this
          · exact hE
        have hne : E ≠ nm := by
          rintro rfl
          have hc2 := hc
          simp only [covers, Bool.and_eq_true, decide_eq_true_eq] at hc2
          exact hno h hh ⟨hc2.1, hc2.2, h2⟩
        exact hg.2.2.2.2.1 _ (EX3_nc E hE3 nm h1 hne)
      · exact Or.inl (by simpa using hc)
    intro suf
    induction suf with
    | nil =>
      intro pre hsp hno hq
      rw [List.append_nil] at hsp
      refine vx_outP hown hlocks (by rw [hex, hsp]; exact hpassOf pre (fun h hh => by rw [hsp]; exact hh) hno) hce hcv hcl (fun t9 h9 _ => ⟨w', hq, by rw [h9]; exact hR1, k3.F h9⟩) hfree hk hn
    | cons h suf ih =>
      intro pre hsp hno hq
      unfold hfind at hq
      by_cases hc : h.1 ≤ pc ∧ pc < h.2.1 ∧ M.hnm.lookup h.2.2.2 = some E
      · rw [if_pos hc] at hq
        obtain ⟨nm, h1, h2, h3, h4⟩ := hrows h (by rw [hsp]; simp)
        have hnm : nm = E := Option.some.inj (h2.symm.trans hc.2.2)
        subst hnm
        obtain ⟨ws, z1, z2, z3⟩ := hR1
        refine vx_catch (name := nm) hown (tableOf pre) ⟨h.1, h.2.1, h.2.2.1, h.2.2.2⟩ (tableOf suf) (by rw [hex, hsp]; simp [tableOf]) (hpassOf pre (fun h hh => by rw [hsp]; exact List.mem_append_left _ hh) hno) (by simp only [covers, Bool.and_eq_true, decide_eq_true_eq]; exact ⟨hc.1, hc.2.1⟩) h3 (hts _ h4) (va_Nw.use rfl (hg.2.2.2.1 _ (EX3_cs nm h1))) hce hcv hcl ?_
        exact hq q H ws locs ls z1 z2 z3 k3 hL hsz
      · rw [if_neg hc] at hq
        refine ih (pre ++ [h]) (by rw [hsp]; simp) (fun h' hh' => ?_) hq
        rcases List.mem_append.mp hh' with h9 | h9
        · exact hno h' h9
        · rw [List.mem_singleton] at h9
          rw [h9]; exact hc
  exact key M.hh [] rfl (fun _ h => by cases h) kx
theorem X_run5 {S : Ot → Hw → Prop} {av : Array Value} {mc ms : Nat} {st0 rest : List Value} (C0 : Cx p l s m args meth c G M) (hV : vM l G M)
    (hr : vx_Run5 p l e (rmD M.d M.mc M.ms) s m args below meth c H locs k n mc ms (F0 m pc ls st0) rest (qC G S av) (qX G S) (gA G)) (hS : va_S (gA G) s.heap H locs) (hL : LOK ls L) (hsz : ls.size = c.maxLocals) (hk : k + mc ≤ M.mc) (hn : n + ms ≤ M.ms)
    (kk : ∀ v w', S (.inl v) w' → XS p l e s m args below meth c G M Q (pc + 5, L, v.toList ++ rest, w', k + mc, n + ms)) (kx : ∀ E w', S (.inr E) w' → hgo M Q (XS p l e s m args below meth c G M Q) pc L E w' (k + mc) (n + ms)) :
    W p l e (rmD M.d M.mc M.ms) s m args below meth c H locs k n (vx_MQ below (qC G Q) (qX G Q) args s M.mc M.ms (gA G)) (F0 m pc ls st0) := by
  have hfree : ∀ {H1 : Heap} {locs1 : List Loc}, va_S (gA G) s.heap H1 locs1 → ∀ z ∈ locs1, gA G z.base := fun h => h.2.2
  intro T hT X
  rcases hr T hT X with ⟨v, st₀, t, T', Lc, h0, X', hLc, e1, e2, ⟨v', w', hv, hq, hR1, hF⟩, sx⟩ | ⟨q, st₀, t, T', Lc, E, ce, h0, X', hLc, e1, e2, ⟨w', hq, hR1, hF⟩, hce, hcv, hcl, sx⟩
  · cases hv
    obtain ⟨-, -, k3⟩ := vx_keep h0 e1 hS (fun q _ h => h) (fun q h => h) hLc hF
    obtain ⟨ws1, a1, a2, a3⟩ := hR1
    rw [← e1] at a1
    obtain ⟨t2, b1, b2⟩ := kk v w' hq T'.heap ws1 (locs ++ Lc) ls a1 a2 a3 k3 hL hsz T' rfl X'
    exact ⟨t2, sx t2 b1, b2⟩
  · obtain ⟨-, -, k3⟩ := vx_keep h0 e1 hS (fun q _ h => h) (fun q h => h) hLc hF
    have hW : vx_W p l e (rmD M.d M.mc M.ms) s m args below meth c T'.heap (locs ++ Lc) (k + mc) (n + ms) (vx_MQ below (qC G Q) (qX G Q) args s M.mc M.ms (gA G)) (F0 m pc ls rest) q :=
      X_thrown C0 hV (by rw [e1]; exact hce) hcv hcl (by rw [e1]; exact hR1) k3 hL hsz hk hn (kx E w' hq)
    obtain ⟨t2, b1, b2⟩ := hW T' rfl X'
    exact ⟨t2, sx.trans b1, b2⟩
/-- behind a call: it has come back, or thrown -/
theorem X_run {S : Ot → Hw → Prop} {av : Array Value} {mc ms : Nat} {st0 rest : List Value} (C0 : Cx p l s m args meth c G M) (hV : vM l G M)
    (hr : vx_Run p l e (rmD M.d M.mc M.ms) s m args below meth c H locs k n mc ms (F0 m pc ls st0) rest (qC G S av) (qX G S) (gA G)) (hS : va_S (gA G) s.heap H locs) (hL : LOK ls L) (hsz : ls.size = c.maxLocals) (hk : k + mc ≤ M.mc) (hn : n + ms ≤ M.ms)
    (kk : ∀ v w', S (.inl v) w' → XS p l e s m args below meth c G M Q (pc + 3, L, v.toList ++ rest, w', k + mc, n + ms)) (kx : ∀ E w', S (.inr E) w' → hgo M Q (XS p l e s m args below meth c G M Q) pc L E w' (k + mc) (n + ms)) :
    W p l e (rmD M.d M.mc M.ms) s m args below meth c H locs k n (vx_MQ below (qC G Q) (qX G Q) args s M.mc M.ms (gA G)) (F0 m pc ls st0) := by
  have hfree : ∀ {H1 : Heap} {locs1 : List Loc}, va_S (gA G) s.heap H1 locs1 → ∀ z ∈ locs1, gA G z.base := fun h => h.2.2
  intro T hT X
  rcases hr T hT X with ⟨v, st₀, t, T', Lc, h0, X', hLc, e1, e2, ⟨v', w', hv, hq, hR1, hF⟩, sx⟩ | ⟨q, st₀, t, T', Lc, E, ce, h0, X', hLc, e1, e2, ⟨w', hq, hR1, hF⟩, hce, hcv, hcl, sx⟩
  · cases hv
    obtain ⟨-, -, k3⟩ := vx_keep h0 e1 hS (fun q _ h => h) (fun q h => h) hLc hF
    obtain ⟨ws1, a1, a2, a3⟩ := hR1
    rw [← e1] at a1
    obtain ⟨t2, b1, b2⟩ := kk v w' hq T'.heap ws1 (locs ++ Lc) ls a1 a2 a3 k3 hL hsz T' rfl X'
    exact ⟨t2, sx t2 b1, b2⟩
  · obtain ⟨-, -, k3⟩ := vx_keep h0 e1 hS (fun q _ h => h) (fun q h => h) hLc hF
    have hW : vx_W p l e (rmD M.d M.mc M.ms) s m args below meth c T'.heap (locs ++ Lc) (k + mc) (n + ms) (vx_MQ below (qC G Q) (qX G Q) args s M.mc M.ms (gA G)) (F0 m pc ls rest) q :=
      X_thrown C0 hV (by rw [e1]; exact hce) hcv hcl (by rw [e1]; exact hR1) k3 hL hsz hk hn (kx E w' hq)
    obtain ⟨t2, b1, b2⟩ := hW T' rfl X'
    exact ⟨t2, sx.trans b1, b2⟩
/-- what a callee finds -/
theorem X_pre (C0 : Cx p l s m args meth c G M) (hP : va_P (gD G) vwCl ws H) (hD : va_D (gA G) ws) (hBw : hB G w ws) (hS : va_S (gA G) s.heap H locs) {U : State} (hU : U.heap = H) (hW : s.WarmedH U.vm) : gH G w U := by
  obtain ⟨-, -, -, -, -, -, -, hK, hz, hg, -⟩ := C0
  refine ⟨⟨ws, by rw [hU]; exact hP, hD, hBw⟩, hK.moved hW.alike, by rw [hU]; exact Nat.le_trans hz hS.1, hg.warm hW fun q h1 h2 => by rw [hU]; exact hS.2.1 q h1 h2⟩
theorem isNW_tab {w : Jvm.Cond} (h : isNW w = true) : w.onTables = true := by
  cases w <;> first | rfl | (exact absurd h (by simp [isNW]; done))
theorem gH_blind {av : List Value} : FrameBlind (fun a U => a = av.toArray ∧ gH G w U) := fun a U g mk h => ⟨h.1, h.2.1, va_K.moved (Vm.Alike.refl U.vm) h.2.2.1, h.2.2.2.1, by
  obtain ⟨z1, z2, z3, z4, z5, z6, z7, z8, z9, z10⟩ := h.2.2.2.2
  exact ⟨z1.moved (u := U) (U := U.calling g mk a) (Vm.Alike.refl U.vm), z2.moved (u := U) (U := U.calling g mk a) (Vm.Alike.refl U.vm), fun w hw hn => va_Nw.same (u := U) (isNW_tab hn) rfl (z3 w hw hn), fun q hq => va_Nw.same (u := U) rfl rfl (z4 q hq), fun q hq => (z5 q hq).moved (u := U) (U := U.calling g mk a) (Vm.Alike.refl U.vm), fun q hq => by
    obtain ⟨sa, h⟩ := z6 q hq
    exact ⟨sa, h.same rfl⟩, ⟨fun C hC => (z7.1 C hC).moved (u := U) (U := U.calling g mk a) (Vm.Alike.refl U.vm), fun q hq => (z7.2.1 q hq).moved (IFL_ok q hq) (u := U) (U := U.calling g mk a) (Vm.Alike.refl U.vm), z7.2.2.1.imp fun mi z => ⟨z.1, z.2.moved (u := U) (U := U.calling g mk a) (Vm.Alike.refl U.vm)⟩, z7.2.2.2⟩, fun q hq => (z8 q hq).moved (u := U) (U := U.calling g mk a) (Vm.Alike.refl U.vm), fun q hq => by
    obtain ⟨sa, h0, h⟩ := z9 q hq
    exact ⟨sa, h0, h.same rfl⟩, fun q o hq => ⟨oA.moved (u := U) (U := U.calling g mk a) (Vm.Alike.refl U.vm) (z10 q o hq).1, (z10 q o hq).2⟩⟩⟩
/-- a cell that is read stands in some world, or is an old one -/
theorem rd_at (C0 : Cx p l s m args meth c G M) (hg0 : M.g = gg G) (hP : va_P (gD G) vwCl ws H) (hBw : hB G w ws) (hS : va_S (gA G) s.heap H locs) {a : Nat} {o : Ob} (h : rd M.g w a = some o) : (∃ (ws' : va_W) (kk : Nat), va_P (gD G) vwCl ws' H ∧ ws'[kk]? = some (a, obE G o)) ∨ oA G s.heap s a o := by
  unfold rd at h
  split at h
  · next o2 e =>
    cases h
    obtain ⟨kk, hkk⟩ := hBw a _ e
    exact Or.inl ⟨ws, kk, hP, hkk⟩
  · rw [hg0] at h
    exact Or.inr (C0.2.2.2.2.2.2.2.2.2.1.2.2.2.2.2.2.2.2.2 a o h).1
/-- the class of an object that is asked -/
theorem rd_recv (C0 : Cx p l s m args meth c G M) (hg0 : M.g = gg G) (hP : va_P (gD G) vwCl ws H) (hBw : hB G w ws) (hS : va_S (gA G) s.heap H locs) {a ci : Nat} {fs : List Value} (h : rd M.g w a = some (.inr (ci, fs))) (q : vw_C) (hq : vwCl[ci]? = some q) : ∃ cell : Cell, H[a]? = some cell ∧ cell.vm.isStatics = false ∧ s.vm.findClass q.1 = some cell.cls := by
  have hK : va_K (gD G) vwCl (gTys G) s := C0.2.2.2.2.2.2.2.1
  rcases rd_at C0 hg0 hP hBw hS h with ⟨ws', kk, hP', hkk⟩ | hold
  · exact va_recv hK hP' hq hkk
  · obtain ⟨r, cell, h1, h2, h3, h4, h5, h6, h7⟩ := (oA.kept hold hS.2.1 : oA G H s a (.inr (ci, fs)))
    have hr : r = q := Option.some.inj (h1.symm.trans hq)
    subst hr
    exact ⟨cell, h2, h3, by rw [h5]; exact (hK.1 ci r hq).2.1⟩
end SND
end
