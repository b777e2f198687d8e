/-! OWN THEORY, 7: equations for the instructions (a program lays one for each) -/
section OPS
variable {M : MT} {Q : Ot → Hw → Prop} {L : List (Option Value)} {st : List Value} {w : Hw} {k n pc : Nat}
theorem WP_at {i : Instr} {len : Nat} (ht : M.thr.lookup pc = none) (hd : decode M.code pc = .ok (i, len)) (hl : ilen i = 0 ∨ ilen i = len) :
    WP M Q (pc, L, st, w, k, n) = nxI M Q i len pc L st w k n (WP M Q) := by
  rw [WP_eq]
  apply propext
  unfold nx
  dsimp only
  rw [ht]
  dsimp only
  rw [hd]
  exact ⟨fun h => h.2, fun h => ⟨hl, h⟩⟩
theorem WP_thr {E : String} (ht : M.thr.lookup pc = some E) : WP M Q (pc, L, st, w, k, n) = (k + 1 ≤ M.mc ∧ n + 6 ≤ M.ms ∧ wt st ≤ 8 ∧ 6 ≤ M.d ∧ Q (.inr E) w) := by
  rw [WP_eq]
  unfold nx
  dsimp only
  rw [ht]
theorem and_t {c A : Prop} (h : c) : (c ∧ A) = A := propext ⟨fun z => z.2, fun z => ⟨h, z⟩⟩
theorem br_if {c : Prop} [Decidable c] {off : Int} {len tgt : Nat} {mk : Nat → St} {P : St → Prop} (ht : (pc : Int) + off = (tgt : Int)) : br c pc off len mk P = if c then P (mk tgt) else P (mk (pc + len)) := by
  unfold br
  have e : ((pc : Int) + off).toNat = tgt := by omega
  rw [e]
  by_cases hc : c
  · rw [if_pos hc]
    exact propext ⟨fun h => h.2.1 hc, fun h => ⟨by omega, fun _ => h, fun z => absurd hc z⟩⟩
  · rw [if_neg hc]
    exact propext ⟨fun h => h.2.2 hc, fun h => ⟨by omega, fun z => absurd z hc, fun _ => h⟩⟩
theorem br_ifn {c : Prop} [Decidable c] {off : Int} {len tgt : Nat} {mk : Nat → St} {P : St → Prop} (ht : (pc : Int) + off = (tgt : Int)) : br (¬ c) pc off len mk P = if c then P (mk (pc + len)) else P (mk tgt) := by
  rw [br_if (c := ¬ c) ht]
  by_cases hc : c
  · rw [if_pos hc, if_neg (fun z => z hc)]
  · rw [if_neg hc, if_pos hc]
theorem jmp_e {off : Int} {tgt : Nat} {mk : Nat → St} {P : St → Prop} (ht : (pc : Int) + off = (tgt : Int)) : jmp pc off mk P = P (mk tgt) := by
  unfold jmp
  have e : ((pc : Int) + off).toNat = tgt := by omega
  rw [e]
  exact and_t (by omega)
/-- what a callee that T describes does, seen from the call -/
def cl (T : TF) (args : List Value) (w : Hw) (K : Option Value → Hw → Prop) (X : String → Hw → Prop) : Prop := ∃ S : Ot → Hw → Prop, T args w S ∧ (∀ v w', S (.inl v) w' → K v w') ∧ ∀ E w', S (.inr E) w' → X E w'
def kx (K : Option Value → Hw → Prop) (X : String → Hw → Prop) : Ot → Hw → Prop
  | .inl v, w => K v w
  | .inr E, w => X E w
theorem cl_of {T : TF} {args : List Value} {K : Option Value → Hw → Prop} {X : String → Hw → Prop} (hm : ∀ S S' : Ot → Hw → Prop, (∀ o w', S o w' → S' o w') → T args w S → T args w S') : cl T args w K X = T args w (kx K X) :=
  propext ⟨fun ⟨S, h1, h2, h3⟩ => hm S _ (fun o w' h => by cases o with
    | inl v => exact h2 v w' h
    | inr E => exact h3 E w' h) h1, fun h => ⟨_, h, fun _ _ h => h, fun _ _ h => h⟩⟩
theorem nxC_e {kd ci d mc ms : Nat} {y : MethodName} {T : TF} {len : Nat} {P : St → Prop} {As rest : List Value} (hk : 2 ≤ kd → As.head? ≠ none) :
    nxC M Q (kd, As.length, ci, d, mc, ms, y, T) len pc L (As.reverse ++ rest) w k n P =
      (wt rest ≤ 8 ∧ d + 1 ≤ M.d ∧ k + mc ≤ M.mc ∧ n + ms ≤ M.ms ∧ (2 ≤ kd → isO w As.head? ci) ∧ cl T As w (fun v w' => P (pc + len, L, v.toList ++ rest, w', k + mc, n + ms)) (fun E w' => Q (.inr E) w')) := by
  have e1 : (As.reverse ++ rest).drop As.length = rest := by rw [List.drop_left' (by simp)]
  have e2 : ((As.reverse ++ rest).take As.length).reverse = As := by rw [List.take_left' (by simp), List.reverse_reverse]
  unfold nxC cl
  dsimp only
  rw [e1, e2]
  exact propext ⟨fun h => h.2, fun h => ⟨by simp, h⟩⟩
theorem call_s {i kd ci d mc ms len0 : Nat} {y : MethodName} {T : TF} {As rest : List Value} {ins : Instr} (hlen0 : len0 = 3) (ht : M.thr.lookup pc = none) (hd : decode M.code pc = .ok (ins, 3)) (hi : ins = .invokestatic i) (hc : M.cal.lookup i = some (kd, As.length, ci, d, mc, ms, y, T)) (hkd : kd ≤ 1) (hdd : d + 1 ≤ M.d) :
    WP M Q (pc, L, As.reverse ++ rest, w, k, n) = (wt rest ≤ 8 ∧ k + mc ≤ M.mc ∧ n + ms ≤ M.ms ∧ cl T As w (fun v w' => WP M Q (pc + 3, L, v.toList ++ rest, w', k + mc, n + ms)) (fun E w' => Q (.inr E) w')) := by
  subst hi
  rw [WP_at ht hd (Or.inr rfl)]
  dsimp only [nxI]
  rw [hc]
  dsimp only [lk]
  rw [nxC_e (by omega)]
  exact propext ⟨fun h => ⟨h.2.1, h.2.2.2.1, h.2.2.2.2.1, h.2.2.2.2.2.2⟩, fun h => ⟨hkd, h.1, hdd, h.2.1, h.2.2.1, fun z => by omega, h.2.2.2⟩⟩
theorem call_v {i kd ci d mc ms : Nat} {y : MethodName} {T : TF} {a : Nat} {As rest : List Value} {ins : Instr} (ht : M.thr.lookup pc = none) (hd : decode M.code pc = .ok (ins, 3)) (hi : ins = .invokevirtual i) (hc : M.cal.lookup i = some (kd, (.ref a :: As : List Value).length, ci, d, mc, ms, y, T)) (hkd : 2 ≤ kd ∧ kd ≤ 3) (hdd : d + 1 ≤ M.d) :
    WP M Q (pc, L, (Value.ref a :: As).reverse ++ rest, w, k, n) = (go w a ci (fun _ => True) ∧ wt rest ≤ 8 ∧ k + mc ≤ M.mc ∧ n + ms ≤ M.ms ∧ cl T (.ref a :: As) w (fun v w' => WP M Q (pc + 3, L, v.toList ++ rest, w', k + mc, n + ms)) (fun E w' => Q (.inr E) w')) := by
  subst hi
  rw [WP_at ht hd (Or.inr rfl)]
  dsimp only [nxI]
  rw [hc]
  dsimp only [lk]
  rw [nxC_e (fun _ h => by cases h)]
  exact propext ⟨fun h => ⟨h.2.2.2.2.2.1 hkd.1, h.2.1, h.2.2.2.1, h.2.2.2.2.1, h.2.2.2.2.2.2⟩, fun h => ⟨hkd, h.2.1, hdd, h.2.2.1, h.2.2.2.1, fun _ => h.1, h.2.2.2.2⟩⟩
theorem call_i {i ci d mc ms : Nat} {y : MethodName} {T : TF} {a : Nat} {As rest : List Value} {ins : Instr} (ht : M.thr.lookup pc = none) (hd : decode M.code pc = .ok (ins, 3)) (hi : ins = .invokespecial i) (ho : i ≠ M.obj) (hc : M.cal.lookup i = some (4, (.ref a :: As : List Value).length, ci, d, mc, ms, y, T)) (hdd : d + 1 ≤ M.d) :
    WP M Q (pc, L, (Value.ref a :: As).reverse ++ rest, w, k, n) = (go w a ci (fun _ => True) ∧ wt rest ≤ 8 ∧ k + mc ≤ M.mc ∧ n + ms ≤ M.ms ∧ cl T (.ref a :: As) w (fun v w' => WP M Q (pc + 3, L, v.toList ++ rest, w', k + mc, n + ms)) (fun E w' => Q (.inr E) w')) := by
  subst hi
  rw [WP_at ht hd (Or.inr rfl)]
  dsimp only [nxI]
  rw [if_neg ho, hc]
  dsimp only [lk]
  rw [nxC_e (fun _ h => by cases h)]
  exact propext ⟨fun h => ⟨h.2.2.2.2.2.1 (by omega), h.2.1, h.2.2.2.1, h.2.2.2.2.1, h.2.2.2.2.2.2⟩, fun h => ⟨rfl, h.2.1, hdd, h.2.2.1, h.2.2.2.1, fun _ => h.1, h.2.2.2.2⟩⟩
theorem obj_i {i a : Nat} {rest : List Value} {ins : Instr} (ht : M.thr.lookup pc = none) (hd : decode M.code pc = .ok (ins, 3)) (hi : ins = .invokespecial i) (ho : i = M.obj) (h0 : i ≠ 0) (hdd : 1 ≤ M.d) :
    WP M Q (pc, L, Value.ref a :: rest, w, k, n) = (wt rest ≤ 8 ∧ WP M Q (pc + 3, L, rest, w, k, n)) := by
  subst hi
  rw [WP_at ht hd (Or.inr rfl)]
  dsimp only [nxI]
  rw [if_pos ho]
  exact propext ⟨fun h => ⟨h.1.1, h.2.2⟩, fun h => ⟨⟨h.1, by rw [← ho]; exact h0⟩, hdd, h.2⟩⟩
theorem get_e {i c j a : Nat} {rest : List Value} (ht : M.thr.lookup pc = none) (hd : decode M.code pc = .ok (.getfield i, 3)) (hf : M.fld.lookup i = some (c, j)) :
    WP M Q (pc, L, Value.ref a :: rest, w, k, n) = go w a c fun fs => ∃ v, fs[j]? = some v ∧ WP M Q (pc + 3, L, v :: rest, w, k, n) := by
  rw [WP_at ht hd (Or.inr rfl)]
  dsimp only [nxI]
  rw [hf]
  rfl
theorem put_e {i c j a : Nat} {v : Value} {rest : List Value} {q : vw_C} {ty : FieldType} (ht : M.thr.lookup pc = none) (hd : decode M.code pc = .ok (.putfield i, 3)) (hf : M.fld.lookup i = some (c, j)) (hq : vwCl[c]? = some q) (hty : parseFieldDescriptor (q.2.1 j).2.2.1 = some ty) (hfin : (q.2.1 j).2.2.2 = false ∨ (M.isI = true ∧ (q.2.1 j).1 = M.own)) :
    WP M Q (pc, L, v :: Value.ref a :: rest, w, k, n) = go w a c fun fs => j < fs.length ∧ (narrow ty v = v ∧ fits ty v = true) ∧ WP M Q (pc + 3, L, rest, upw w a (.inr (c, fs.set j v)), k, n) := by
  rw [WP_at ht hd (Or.inr rfl)]
  dsimp only [nxI]
  rw [hf]
  dsimp only [lk, sV, sR]
  unfold go
  split
  · refine propext ⟨fun h => ⟨h.1, h.2.1, ?_, h.2.2.2⟩, fun h => ⟨h.1, h.2.1, ⟨q, hq, ty, hty, h.2.2.1.1, h.2.2.1.2, hfin⟩, h.2.2.2⟩⟩
    obtain ⟨q', e1, ty', e2, e3, e4, -⟩ := h.2.2.1
    cases hq.symm.trans e1
    cases hty.symm.trans e2
    exact ⟨e3, e4⟩
  · rfl
theorem new_e {i c : Nat} {fs : List Value} (ht : M.thr.lookup pc = none) (hd : decode M.code pc = .ok (.new i, 3)) (hf : M.new.lookup i = some (c, fs)) :
    WP M Q (pc, L, st, w, k, n) = (k + 1 ≤ M.mc ∧ n + fs.length ≤ M.ms ∧ ∀ q : Nat, w q = none → WP M Q (pc + 3, L, .ref q :: st, upw w q (.inr (c, fs)), k + 1, n + fs.length)) := by
  rw [WP_at ht hd (Or.inr rfl)]
  dsimp only [nxI]
  rw [hf]
  rfl
theorem ldc2_e {i : Nat} {v : Int64} (ht : M.thr.lookup pc = none) (hd : decode M.code pc = .ok (.ldc2_w i, 3)) (hf : M.lng.lookup i = some v) : WP M Q (pc, L, st, w, k, n) = WP M Q (pc + 3, L, .long v :: st, w, k, n) := by
  rw [WP_at ht hd (Or.inr rfl)]
  dsimp only [nxI]
  rw [hf]
  rfl
theorem anew_e {i t : Nat} {x : Int32} (ht : M.thr.lookup pc = none) (hd : decode M.code pc = .ok (.anewarray i, 3)) (hf : M.anew.lookup i = some t) :
    WP M Q (pc, L, .int x :: st, w, k, n) = (¬ x < 0 ∧ x.toNatClampNeg ≤ 1000 ∧ k + 1 ≤ M.mc ∧ n + x.toNatClampNeg ≤ M.ms ∧ ∀ q : Nat, w q = none → WP M Q (pc + 3, L, .ref q :: st, upw w q (.inl (t, x.toNatClampNeg, .inr (.inr (.inr (.inr fun _ => none))))), k + 1, n + x.toNatClampNeg)) := by
  rw [WP_at ht hd (Or.inr rfl)]
  dsimp only [nxI]
  rw [hf]
  rfl
theorem iret_e {x : Int32} {ty : FieldType} (ht : M.thr.lookup pc = none) (hd : decode M.code pc = .ok (.ireturn, 1)) (hr : M.rt = some ty) : WP M Q (pc, L, [.int x], w, k, n) = (narrow ty (.int x) = .int x ∧ k ≤ M.mc ∧ n ≤ M.ms ∧ Q (.inl (some (.int x))) w) := by
  rw [WP_at ht hd (Or.inr rfl)]
  dsimp only [nxI, retv]
  refine propext ⟨fun ⟨y, e, ⟨t, e1, e2⟩, h⟩ => ?_, fun h => ⟨x, rfl, ⟨ty, hr, h.1⟩, h.2⟩⟩
  cases e
  cases hr.symm.trans e1
  exact ⟨e2, h⟩
theorem lret_e {x : Int64} (ht : M.thr.lookup pc = none) (hd : decode M.code pc = .ok (.lreturn, 1)) (hr : M.rt = some .long) : WP M Q (pc, L, [.long x], w, k, n) = (k ≤ M.mc ∧ n ≤ M.ms ∧ Q (.inl (some (.long x))) w) := by
  rw [WP_at ht hd (Or.inr rfl)]
  dsimp only [nxI, retv]
  refine propext ⟨fun ⟨y, e, _, h⟩ => ?_, fun h => ⟨x, rfl, hr, h⟩⟩
  cases e
  exact h
theorem aretR_e {a : Nat} {nm : String} (ht : M.thr.lookup pc = none) (hd : decode M.code pc = .ok (.areturn, 1)) (hr : M.rt = some (.object nm)) : WP M Q (pc, L, [.ref a], w, k, n) = (k ≤ M.mc ∧ n ≤ M.ms ∧ Q (.inl (some (.ref a))) w) := by
  rw [WP_at ht hd (Or.inr rfl)]
  dsimp only [nxI, retv]
  refine propext ⟨fun ⟨y, e, _, _, h⟩ => ?_, fun h => ⟨_, rfl, Or.inr ⟨a, rfl⟩, ⟨nm, hr⟩, h⟩⟩
  cases e
  exact h
theorem aretN_e {nm : String} (ht : M.thr.lookup pc = none) (hd : decode M.code pc = .ok (.areturn, 1)) (hr : M.rt = some (.object nm)) : WP M Q (pc, L, [.null], w, k, n) = (k ≤ M.mc ∧ n ≤ M.ms ∧ Q (.inl (some .null)) w) := by
  rw [WP_at ht hd (Or.inr rfl)]
  dsimp only [nxI, retv]
  refine propext ⟨fun ⟨y, e, _, _, h⟩ => ?_, fun h => ⟨_, rfl, Or.inl rfl, ⟨nm, hr⟩, h⟩⟩
  cases e
  exact h
theorem vret_e (ht : M.thr.lookup pc = none) (hd : decode M.code pc = .ok (.return_, 1)) (hr : M.rt = none) : WP M Q (pc, L, [], w, k, n) = (k ≤ M.mc ∧ n ≤ M.ms ∧ Q (.inl none) w) := by
  rw [WP_at ht hd (Or.inr rfl)]
  dsimp only [nxI, retv]
  exact propext ⟨fun h => h.2.2, fun h => ⟨rfl, hr, h⟩⟩
end OPS
/-! the tables of a method, out of lists -/
theorem lookup_all {α : Type} {l : List (Nat × α)} {P : Nat → α → Prop} (h : ∀ e ∈ l, P e.1 e.2) : ∀ i v, l.lookup i = some v → P i v := by
  intro i v hl
  induction l with
  | nil => simp at hl
  | cons x r ih =>
    rw [List.lookup_cons] at hl
    split at hl
    · next e =>
      cases hl
      have := h x List.mem_cons_self
      rw [beq_iff_eq] at e
      rw [e]
      exact this
    · exact ih (fun e he => h e (List.mem_cons_of_mem _ he)) hl
theorem all_n {α : Type} {P : α → Prop} : ∀ e ∈ ([] : List α), P e := fun _ h => nomatch h
theorem all_c {α : Type} {P : α → Prop} {a : α} {l : List α} (h1 : P a) (h2 : ∀ e ∈ l, P e) : ∀ e ∈ a :: l, P e := fun e h => (List.mem_cons.mp h).elim (fun q => q ▸ h1) (h2 e)
theorem WS_at {w : Jvm.Cond} (i : Nat) (h : lw_tbl[i]? = some w) (hg : goodWord w = true) : w ∈ WS := WS_in (List.mem_of_getElem? h) hg
