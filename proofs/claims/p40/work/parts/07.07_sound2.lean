section
theorem WS_aJ : Jvm.Cond.arrayClass .long ∈ WS := WS_t1 62 (by eq_refl) (by eq_refl)
theorem WS_aI : Jvm.Cond.arrayClass .int ∈ WS := WS_t7 155 (by eq_refl) (by eq_refl)
theorem WS_aZ : Jvm.Cond.arrayClass .boolean ∈ WS := WS_t7 146 (by eq_refl) (by eq_refl)
theorem WS_oi : Jvm.Cond.instanceMethod Lib.objectInit ∈ WS := WS_t1 36 (by eq_refl) (by eq_refl)
theorem WS_oc : Jvm.Cond.code Lib.objectInit ⟨#[0xb1]⟩ 1 none ∈ WS := WS_t1 37 (by eq_refl) (by eq_refl)
theorem WS_goodIn {hd : Jvm.Cond} (h : hd ∈ WS) : GoodIn WS (wsm hd) := fun w hw => by
  have hw2 : w ∈ WS := by
    rcases List.mem_cons.mp hw with rfl | h2
    · exact h
    · exact h2
  exact ⟨hw2, good_of_word (WS_good hw2)⟩
theorem ra_inj {U : State} {a b : ClassId} {ty : FieldType} (h1 : va_RA U a ty) (h2 : va_RA U b ty) : a = b := by
  cases ty with
  | object C =>
    obtain ⟨-, -, -, -, -, q1⟩ := h1
    obtain ⟨-, -, -, -, -, q2⟩ := h2
    exact Option.some.inj (q1.symm.trans q2)
  | _ => exact Option.some.inj ((show U.vm.findClass _ = some a from h1).symm.trans h2)
section SND2
variable {p : Program} {l : Launch} {e : Env} {s : State} {m : MethodId} {args : Array Value} {below : List Frame} {meth : Method} {c : Code} {G : GT} {M : MT} {Q : Ot → Hw → Prop}
variable {H : Heap} {ws : va_W} {locs : List Loc} {ls : Array Slot} {L : List (Option Value)} {st : List Value} {w : Hw} {k n pc : Nat}
theorem newT {t : Nat} {ty : FieldType} (hK : gK G s) (ht : atyL[t]? = some ty) {cA : ClassId} (hK1 : va_K (gD G) vwCl (gTys G ++ [(cA, ty)]) s) : cA = G.2.2.1 t :=
  ra_inj (hK1.2 (gTys G).length (cA, ty) (by simp)).2 (hK.2 t _ (gTys_at G ht)).2
set_option maxHeartbeats 4000000 in
theorem snd_call (C0 : Cx p l s m args meth c G M) (hV : vM l G M) {i : Nat} {ce : CE} (hce : M.cal.lookup i = some ce) {ins : Instr} (hd : decode M.code pc = .ok (ins, 3))
    (hins : ((ce.1 ≤ 1 ∨ ce.1 = 9) ∧ ins = .invokestatic i) ∨ ((2 ≤ ce.1 ∧ ce.1 ≤ 3 ∨ 7 ≤ ce.1 ∧ ce.1 ≤ 8) ∧ ins = .invokevirtual i) ∨ ((ce.1 = 4 ∨ ce.1 = 5 ∨ ce.1 = 10) ∧ ins = .invokespecial i))
    (h : nxC M Q ce 3 pc L st w k n (XS p l e s m args below meth c G M Q)) : XS p l e s m args below meth c G M Q (pc, L, st, w, k, n) := by
  obtain ⟨hx, hb, hml, hr, hown, hts, hlocks, hK, hz, hg, hst, hex, hin⟩ := id C0
  intro H ws locs ls hP hD hBw hS hL hsz
  obtain ⟨h1, h2, h3, h4, h5, h6, S, h7, h8, h9⟩ := h
  obtain ⟨bytes, maxL, ret, hv⟩ := hV.2.2.2.2.2.2.1 i ce hce
  obtain ⟨kd, na, ci, d, mc, ms, y, T⟩ := ce
  dsimp only at h1 h2 h3 h4 h5 h6 h7 h8 h9 hins
  obtain ⟨v1, ⟨hd0, v2, v3, vhd⟩, v4, v5, v6⟩ := hv y rfl
  dsimp only at v3 v6 vhd
  have hcode : kd ≠ 9 → hd0 = .code y bytes maxL ret := fun h => by
    rcases vhd with ⟨_, e⟩ | ⟨e, _⟩
    · exact e
    · exact absurd e h
  have hcx := v3 _ w S h7
  generalize mc (st.take na).reverse w = mc1 at h4 h8 h9 hcx
  generalize ms (st.take na).reverse w = ms1 at h5 h8 h9 hcx
  have hroom : 8 + (maxL + 11) + (rmD d mc1 ms1).locals ≤ (rmD M.d M.mc M.ms).locals := by
    show 8 + (maxL + 11) + 60 * d ≤ 60 * M.d
    omega
  have hlen : (st.take na).reverse.length = na := by simp [h1]
  have hW : 2 * (F0 m pc ls st).monitorRoom + ((st.drop na).map fun v => v.category).sum ≤ 8 := lv_room (ls := ls) (pc := pc) h2
  have hfix : CallFix p m c M.code c.maxLocals s args WS M.own := ⟨hx, hb, rfl, hown, hts⟩
  have hpay := pay_in (args := args) (s := s) hts (WS_goodIn v2)
  have hpre : ∀ U : State, U.heap = H → s.WarmedH U.vm → gH G w U := fun U hU hW => X_pre C0 hP hD hBw hS hU hW
  have hsplit : st = (st.take na).reverse.reverse ++ st.drop na := by rw [List.reverse_reverse, List.take_append_drop]
  rcases hins with ⟨hk1, rfl⟩ | ⟨hk1, rfl⟩ | ⟨hk1, rfl⟩
  · have hPS : PreS s H (fun a U => a = ((st.take na).reverse).toArray ∧ gH G w U) (st.take na).reverse := ⟨gH_blind, fun U hU hW => ⟨rfl, hpre U hU hW⟩⟩
    rcases (show kd = 0 ∨ kd = 1 ∨ kd = 9 by omega) with rfl | rfl | rfl
    · obtain rfl := hcode (by omega)
      obtain ⟨q1, q2, q3⟩ := v6
      refine X_run C0 hV (S := S) (vx_runS (Pc := fun a U => a = ((st.take na).reverse).toArray ∧ gH G w U) (rest := st.drop na) hfix hcx ⟨⟨rfl, rfl, h3, hroom, hpay, List.mem_cons_self, hts _ v2, hts _ v4, v5, fun sig hs => ?_, hts _ q2⟩, hts _ q3⟩ hPS rfl hlen hsz hsplit hW hd ⟨h4, h5⟩) hS hL hsz h4 h5 h8 h9
      rw [hs] at q1
      exact (Option.some.inj q1).symm
    · obtain rfl := hcode (by omega)
      obtain ⟨q1, ⟨host, q2⟩, q3⟩ := v6
      refine X_run C0 hV (S := S) (vx_runSN (host := host) (Pc := fun a U => a = ((st.take na).reverse).toArray ∧ gH G w U) (rest := st.drop na) hfix hcx ⟨⟨⟨rfl, rfl, h3, hroom, hpay, List.mem_cons_self⟩, hts _ v2, hts _ v4, v5, fun sig hs => ?_, va_Nw.use rfl (hg.2.2.1 _ q2 rfl)⟩, hts _ q3, trivial⟩ hPS rfl hlen hsz hsplit hW hd ⟨h4, h5⟩) hS hL hsz h4 h5 h8 h9
      rw [hs] at q1
      exact (Option.some.inj q1).symm
    · rcases vhd with ⟨e9, -⟩ | ⟨-, hh, rfl⟩
      · exact absurd rfl e9
      obtain ⟨q1, ⟨q2, -⟩, q3⟩ := v6
      refine X_run C0 hV (S := S) (vx_runSX (hh := hh) (Pc := fun a U => a = ((st.take na).reverse).toArray ∧ gH G w U) (rest := st.drop na) hfix hcx ⟨⟨rfl, rfl, h3, hroom, hpay, List.mem_cons_self⟩, hts _ v2, hts _ v4, v5, fun sig hs => ?_, hts _ q2, hts _ q3⟩ hPS rfl hlen hsz hsplit hW hd ⟨h4, h5⟩) hS hL hsz h4 h5 h8 h9
      rw [hs] at q1
      exact (Option.some.inj q1).symm
  · obtain rfl := hcode (by omega)
    obtain ⟨⟨b0, hb0⟩, ho⟩ := h6 (by omega) (by omega)
    replace ho := ho (by omega)
    obtain ⟨As, b, hAs⟩ : ∃ (As : List Value) (b : Nat), (st.take na).reverse = .ref b :: As := by
      cases hq : (st.take na).reverse with
      | nil => rw [hq] at hb0; cases hb0
      | cons x r => rw [hq] at hb0; cases hb0; exact ⟨r, b0, rfl⟩
    rw [hAs] at ho hlen hsplit hcx
    obtain ⟨fs, hwb, -⟩ := go_inv (show go (rd M.g w b) ci (fun _ => True) from ho)
    have hrc := rd_recv C0 hV.2.2.2.2.2.2.2.2.2.2.1 hP hBw hS hwb
    have hstk : st = As.reverse ++ .ref b :: st.drop na := by
      rw [List.reverse_cons, List.append_assoc] at hsplit
      exact hsplit
    have hla : As.length + 1 = na := hlen
    have hPV : ∀ q : vw_C, vwCl[ci]? = some q → q.1 = y.cls → PreV s H y.cls b (fun a U => a = (Value.ref b :: As).toArray ∧ gH G w U) As := fun q hq hqc => ⟨gH_blind, hqc ▸ hrc _ hq, fun U hU hW => ⟨rfl, hpre U hU hW⟩⟩
    rcases (show kd = 2 ∨ kd = 3 ∨ kd = 7 ∨ kd = 8 by omega) with rfl | rfl | rfl | rfl
    · obtain ⟨q1, q2, q3, q4, z, q5, q6⟩ := v6
      refine X_run C0 hV (S := S) (vx_runV (C := y.cls) (Pc := fun a U => a = (Value.ref b :: As).toArray ∧ gH G w U) (n := As.length) (rest := st.drop na) hfix hcx ⟨⟨rfl, rfl, h3, hroom, hpay, List.mem_cons_self, hts _ v2, hts _ v4, v5, fun sig hs => ?_, hts _ q2⟩, hts _ q3, hts _ q4⟩ (hPV z q5 q6) rfl rfl hsz hstk hW hd ⟨h4, h5⟩) hS hL hsz h4 h5 h8 h9
      rw [hs] at q1
      have hq9 : sig.parameters.length + 1 = na := Option.some.inj q1
      omega
    · obtain ⟨q1, ⟨host, q2⟩, q3, q4, z, q5, q6⟩ := v6
      refine X_run C0 hV (S := S) (vx_runVN (host := host) (C := y.cls) (Pc := fun a U => a = (Value.ref b :: As).toArray ∧ gH G w U) (n := As.length) (rest := st.drop na) hfix hcx ⟨⟨⟨rfl, rfl, h3, hroom, hpay, List.mem_cons_self⟩, hts _ v2, hts _ v4, v5, fun sig hs => ?_, va_Nw.use rfl (hg.2.2.1 _ q2 rfl)⟩, hts _ q3, hts _ q4⟩ (hPV z q5 q6) rfl rfl hsz hstk hW hd ⟨h4, h5⟩) hS hL hsz h4 h5 h8 h9
      rw [hs] at q1
      have hq9 : sig.parameters.length + 1 = na := Option.some.inj q1
      omega
    · obtain ⟨q1, q2, q3, z, q5, q6⟩ := v6
      have hPV7 : PreV s H z.1 b (fun a U => a = (Value.ref b :: As).toArray ∧ gH G w U) As := ⟨gH_blind, hrc _ q5, fun U hU hW => ⟨rfl, hpre U hU hW⟩⟩
      refine X_run C0 hV (S := S) (vx_runV (C := z.1) (Pc := fun a U => a = (Value.ref b :: As).toArray ∧ gH G w U) (n := As.length) (rest := st.drop na) hfix hcx ⟨⟨rfl, rfl, h3, hroom, hpay, List.mem_cons_self, hts _ v2, hts _ v4, v5, fun sig hs => ?_, hts _ q2⟩, hts _ q3, hts _ q6⟩ hPV7 rfl rfl hsz hstk hW hd ⟨h4, h5⟩) hS hL hsz h4 h5 h8 h9
      rw [hs] at q1
      have hq9 : sig.parameters.length + 1 = na := Option.some.inj q1
      omega
    · obtain ⟨x, q1, q2, q3, q4, ⟨xb, xm, xr, q5⟩, q6, q7, z, q8, q9⟩ := v6
      have hPV8 : PreV s H z.1 b (fun a U => a = (Value.ref b :: As).toArray ∧ gH G w U) As := ⟨gH_blind, hrc _ q8, fun U hU hW => ⟨rfl, hpre U hU hW⟩⟩
      refine X_run C0 hV (S := S) (vx_runU (C := z.1) (owner := x.cls) (x := x) (Pc := fun a U => a = (Value.ref b :: As).toArray ∧ gH G w U) (n := As.length) (rest := st.drop na) hfix hcx ⟨⟨rfl, rfl, h3, hroom, hpay, List.mem_cons_self⟩, hts _ v2, hts _ v4, q7, fun sig hs => ?_, hts _ q2, hts _ q3, va_Decl.of (hts _ q4) (hts _ q5), hts _ q9, hts _ q6⟩ hPV8 rfl rfl hsz hstk hW hd ⟨h4, h5⟩) hS hL hsz h4 h5 h8 h9
      rw [hs] at q1
      have hq9 : sig.parameters.length + 1 = na := Option.some.inj q1
      omega
  · obtain rfl := hcode (by omega)
    obtain ⟨⟨b0, hb0⟩, ho⟩ := h6 (by omega) (by omega)
    obtain ⟨As, b, hAs⟩ : ∃ (As : List Value) (b : Nat), (st.take na).reverse = .ref b :: As := by
      cases hq : (st.take na).reverse with
      | nil => rw [hq] at hb0; cases hb0
      | cons x r => rw [hq] at hb0; cases hb0; exact ⟨r, b0, rfl⟩
    rw [hAs] at ho hlen hsplit hcx
    have hstk : st = As.reverse ++ .ref b :: st.drop na := by
      rw [List.reverse_cons, List.append_assoc] at hsplit
      exact hsplit
    have hla : As.length + 1 = na := hlen
    rcases hk1 with rfl | rfl | rfl
    · have hPS : PreS s H (fun a U => a = (Value.ref b :: As).toArray ∧ gH G w U) (.ref b :: As) := ⟨gH_blind, fun U hU hW => ⟨rfl, hpre U hU hW⟩⟩
      obtain ⟨q1, rfl, q2, q3, q4⟩ := v6
      refine X_run C0 hV (S := S) (vx_runI (Pc := fun a U => a = (Value.ref b :: As).toArray ∧ gH G w U) (n := As.length) (rest := st.drop na) hfix hcx ⟨⟨rfl, rfl, h3, hroom, hpay, List.mem_cons_self, hts _ v2, hts _ v4, v5, fun sig hs => ?_, hts _ q2⟩, q4, hts _ q3⟩ hPS rfl rfl hsz hstk hW hd ⟨h4, h5⟩) hS hL hsz h4 h5 h8 h9
      rw [hs] at q1
      have hq9 : sig.parameters.length + 1 = na := Option.some.inj q1
      omega
    · obtain ⟨q1, q2, q3, q4, q5, q6, z, hz9⟩ := v6
      obtain ⟨fs, hwb, -⟩ := go_inv (show go (rd M.g w b) ci (fun _ => True) from ho (by omega))
      have hrc := rd_recv C0 hV.2.2.2.2.2.2.2.2.2.2.1 hP hBw hS hwb
      have hat : ClassAt s z.1 (G.1 ci) := ((show va_K (gD G) vwCl (gTys G) s from hK).1 ci z hz9).2
      have hPV : PreV s H z.1 b (fun a U => a = (Value.ref b :: As).toArray ∧ gH G w U) As := ⟨gH_blind, hrc _ hz9, fun U hU hW => ⟨rfl, hpre U hU hW⟩⟩
      refine X_run C0 hV (S := S) (vx_runSU hat (Pc := fun a U => a = (Value.ref b :: As).toArray ∧ gH G w U) (n := As.length) (rest := st.drop na) hfix hcx ⟨⟨rfl, rfl, h3, hroom, hpay, List.mem_cons_self⟩, hts _ q2, hts _ q3, hts _ q4, hts _ q5, hts _ v4, hts _ v2, q6, fun sig hs => ?_⟩ hPV rfl rfl hsz hstk hW hd ⟨h4, h5⟩) hS hL hsz h4 h5 h8 h9
      rw [hs] at q1
      have hq9 : sig.parameters.length + 1 = na := Option.some.inj q1
      omega
    · have hPS : PreS s H (fun a U => a = (Value.ref b :: As).toArray ∧ gH G w U) (.ref b :: As) := ⟨gH_blind, fun U hU hW => ⟨rfl, hpre U hU hW⟩⟩
      obtain ⟨q1, rfl, ⟨host, q2⟩, q3, q4⟩ := v6
      refine X_run C0 hV (S := S) (vx_runIN (host := host) (Pc := fun a U => a = (Value.ref b :: As).toArray ∧ gH G w U) (n := As.length) (rest := st.drop na) hfix hcx ⟨⟨⟨rfl, rfl, h3, hroom, hpay, List.mem_cons_self⟩, hts _ v2, hts _ v4, v5, fun sig hs => ?_, va_Nw.use rfl (hg.2.2.1 _ q2 rfl)⟩, q4, hts _ q3⟩ hPS rfl rfl hsz hstk hW hd ⟨h4, h5⟩) hS hL hsz h4 h5 h8 h9
      rw [hs] at q1
      have hq9 : sig.parameters.length + 1 = na := Option.some.inj q1
      omega
/-- a call by an interface -/
theorem snd_callF (C0 : Cx p l s m args meth c G M) (hV : vM l G M) {i cnt : Nat} {ce : CE} (hce : M.cal.lookup i = some ce) (hd : decode M.code pc = .ok (.invokeinterface i cnt, 5)) (hk6 : ce.1 = 6)
    (h : nxC M Q ce 5 pc L st w k n (XS p l e s m args below meth c G M Q)) : XS p l e s m args below meth c G M Q (pc, L, st, w, k, n) := by
  obtain ⟨hx, hb, hml, hr, hown, hts, hlocks, hK, hz, hg, hst, hex, hin⟩ := id C0
  intro H ws locs ls hP hD hBw hS hL hsz
  obtain ⟨h1, h2, h3, h4, h5, h6, S, h7, h8, h9⟩ := h
  obtain ⟨bytes, maxL, ret, hv⟩ := hV.2.2.2.2.2.2.1 i ce hce
  obtain ⟨kd, na, ci, d, mc, ms, y, T⟩ := ce
  dsimp only at h1 h2 h3 h4 h5 h6 h7 h8 h9 hk6
  subst hk6
  obtain ⟨v1, ⟨hd0, v2, v3, vhd⟩, v4, v5, v6⟩ := hv y rfl
  dsimp only at v3 v6 vhd
  have hcode : hd0 = .code y bytes maxL ret := by
    rcases vhd with ⟨_, e⟩ | ⟨e, _⟩
    · exact e
    · exact absurd e (by omega)
  have hcx := v3 _ w S h7
  generalize mc (st.take na).reverse w = mc1 at h4 h8 h9 hcx
  generalize ms (st.take na).reverse w = ms1 at h5 h8 h9 hcx
  have hroom : 8 + (maxL + 11) + (rmD d mc1 ms1).locals ≤ (rmD M.d M.mc M.ms).locals := by
    show 8 + (maxL + 11) + 60 * d ≤ 60 * M.d
    omega
  have hlen : (st.take na).reverse.length = na := by simp [h1]
  have hW : 2 * (F0 m pc ls st).monitorRoom + ((st.drop na).map fun v => v.category).sum ≤ 8 := lv_room (ls := ls) (pc := pc) h2
  have hfix : CallFix p m c M.code c.maxLocals s args WS M.own := ⟨hx, hb, rfl, hown, hts⟩
  have hpay := pay_in (args := args) (s := s) hts (WS_goodIn v2)
  have hpre : ∀ U : State, U.heap = H → s.WarmedH U.vm → gH G w U := fun U hU hW => X_pre C0 hP hD hBw hS hU hW
  have hsplit : st = (st.take na).reverse.reverse ++ st.drop na := by rw [List.reverse_reverse, List.take_append_drop]
  obtain rfl := hcode
  obtain ⟨⟨b0, hb0⟩, ho⟩ := h6 (by omega) (by omega)
  replace ho := ho (by omega)
  obtain ⟨As, b, hAs⟩ : ∃ (As : List Value) (b : Nat), (st.take na).reverse = .ref b :: As := by
    cases hq : (st.take na).reverse with
    | nil => rw [hq] at hb0; cases hb0
    | cons x r => rw [hq] at hb0; cases hb0; exact ⟨r, b0, rfl⟩
  rw [hAs] at ho hlen hsplit hcx
  obtain ⟨fs, hwb, -⟩ := go_inv (show go (rd M.g w b) ci (fun _ => True) from ho)
  have hrc := rd_recv C0 hV.2.2.2.2.2.2.2.2.2.2.1 hP hBw hS hwb
  have hstk : st = As.reverse ++ .ref b :: st.drop na := by
    rw [List.reverse_cons, List.append_assoc] at hsplit
    exact hsplit
  have hla : As.length + 1 = na := hlen
  obtain ⟨x, q1, q2, q3, z, hz9, q4, q5⟩ := v6
  have hat : ClassAt s z.1 (G.1 ci) := ((show va_K (gD G) vwCl (gTys G) s from hK).1 ci z hz9).2
  have hPV : PreV s H z.1 b (fun a U => a = (Value.ref b :: As).toArray ∧ gH G w U) As := ⟨gH_blind, hrc _ hz9, fun U hU hW => ⟨rfl, hpre U hU hW⟩⟩
  obtain ⟨f1, f2, f3, f4, f5⟩ := hg.2.2.2.2.2.2.1.2.1 _ q5
  refine X_run5 C0 hV (S := S) (vx_runF hat (Pc := fun a U => a = (Value.ref b :: As).toArray ∧ gH G w U) (n := As.length) (rest := st.drop na) hfix hcx ⟨⟨rfl, rfl, h3, hroom, hpay, List.mem_cons_self⟩, hts _ q2, va_tabs rfl rfl f1, va_tabs rfl rfl f2, hts _ q4, hts _ q3, va_tabs rfl rfl f3, va_tabs rfl rfl f4, va_tabs rfl rfl f5, hts _ v4, hts _ v2, IFL_ok _ q5, fun sig hs => ?_⟩ hPV rfl rfl hsz hstk hW hd ⟨h4, h5⟩) hS hL hsz h4 h5 h8 h9
  rw [hs] at q1
  have hq9 : sig.parameters.length + 1 = na := Option.some.inj q1
  omega
end SND2
end
