section
theorem RG.of {g : RO} {b L : Nat} {xs : Nat → Int32} (h : SR g b L xs) : RG g := by
  obtain ⟨-, h1, ⟨e, e1, e2⟩, ⟨mi, m1⟩, ho, ht, h20, h22, ⟨s, v, h, z, q1, q2, q3⟩, s', v', h', z', q1', q2', q3'⟩ := h
  refine ⟨h1, ⟨⟨e, e1, e2⟩, mi, m1⟩, ⟨ho, ht⟩, h20, h22, ⟨s, q1, ⟨v, 0, _, h, z, q2, q3, fun j hj => absurd hj (Nat.not_lt_zero j), by decide⟩, fun v9 M0 f9 h9 z9 k1 k2 => ?_⟩, s', q1', ⟨v', 1, _, h', z', q2', q3', fun j hj => (show fits .byte (.int 32) = true from by decide), by decide⟩, fun v9 M0 f9 h9 z9 k1 k2 => ?_⟩
  · rw [q2] at k1
    cases k1
    rw [q3] at k2
    cases k2
    exact Nat.le_refl _
  · rw [q2'] at k1
    cases k1
    rw [q3'] at k2
    cases k2
    exact Nat.le_refl _
theorem w18 (a : Nat) : wt [Value.ref a] ≤ 8 := by
  show 1 ≤ 8
  decide
set_option maxHeartbeats 4000000 in
theorem law_WP {g : RO} {b L : Nat} {xs : Nat → Int32} (hL3 : L ≤ 3072) (hR : RG g) (hb : g.2 b = some (.inl (1, L, .inl xs))) : WP (ML_law g) QLaw (0, [some (.ref b), none, none, none, none, none, none], [], fun _ => none, 0, 0) := by
  rw [eL_law_0]
  refine ⟨by omega, by omega, fun x hx => ?_⟩
  rw [eL_law_3R, eL_law_4]
  refine ⟨w18 x, by omega, by omega, ?_⟩
  have gx := rd_ro hx
  have r0 : ∀ (a : Nat) (z : Ob), g.2 a = some z → upw (fun _ => none) x (.inr (5, [.null, .null, .null, .int 0, .int 0, .int 0, .int 0])) a = none := fun a z h => upw_n (fun q => by
    rw [q, gx] at h
    cases h)
  refine fX1_init (upw_s _ _ _) (fun w1 nA cA lA h1 f1 f2 hA => ?_)
  simp only [kx_l, tl_n, eL_law_7, nl_ref, nl_none]
  refine ⟨by omega, by omega, fun y hy => ?_⟩
  have gy := rd_ro hy
  have wy := rd_none hy
  have r1 : ∀ (a : Nat) (z : Ob), g.2 a = some z → w1 a = none := fun a z h => f2 a z h (r0 a z h)
  rw [eL_law_11R, eL_law_12]
  refine ⟨w18 y, by omega, by omega, ?_⟩
  refine fX3_init (hR.eg fun a z h => (upw_n (fun q => by
    rw [q, gy] at h
    cases h)).trans (r1 a z h)) hR.sg (upw_s _ _ _) (fun nM w2 hnM hM hF => ?_)
  simp only [kx_l, tl_n, eL_law_15, nl_ref, nl_none]
  refine ⟨by omega, by omega, fun o ho => ?_⟩
  have hup : ext g w1 (upw w1 y (.inr (7, [.int 0, .null, .null, .null, .int 0, .int 0, .int 0]))) := ext_up2 ext.rf hy
  have k12 : ext g w1 w2 := ⟨fun a z h => hF.1 a z (hup.1 a z h) (fun q => by
    rw [q, wy] at h
    cases h), fun a z h1 h2 => hF.2 a z h1 (hup.2 a z h1 h2)⟩
  have k23 : ext g w2 (upw w2 o (.inr (6, [.long 0, .null]))) := ext_up2 ext.rf ho
  have hne : nA ≠ nM := by
    obtain ⟨n9, rf9, md9, f9, gc9, gl9, z1, z2, -⟩ := id h1.rc
    rintro rfl
    rw [hup.1 _ _ z2] at hnM
    cases hnM
  have hc0 : CS g w1 x nA cA lA 0 S00 w1 := ⟨h1, FC.rf⟩
  have hL : LW g (upw w2 o (.inr (6, [.long 0, .null]))) x nA cA lA y nM o 0 0 0 S00 S00 := ⟨((hc0.ext k12).ext k23).1, S00_ok, hM.ext k23, hne, ⟨_, _, upw_s _ _ _⟩, fun a z h => k23.2 a z h (k12.2 a z h (r1 a z h))⟩
  simp only [eL_law_19R]
  refine ⟨?_, w18 o, by omega, by omega, ?_⟩
  · rw [rd_e (upw_s _ _ _)]
    exact ⟨rfl, trivial⟩
  simp only [eX2_init_0, eX2_init_4, kx_l, tl_n, eL_law_23, nl_ref, nl_none]
  refine ⟨by decide, by omega, by omega, ?_⟩
  exact law_loop hR hb hL3 512 0 0 0 0 S00 _ _ _ _ _ (by decide) (by omega) (by omega) hL (by omega) (by omega)

theorem whole_start {p : Program} {e : Env} {s : State} {m : MethodId} {below : List Frame} {meth : Method} {c : Code} (l : Launch) (hflags : l.flags = flags0) (hT : ∀ x ∈ c.exceptionTable.toList, False) {b L : Nat} {xs : Nat → Int32} (hL : L ≤ 3072) (C0 : lw_At p s m meth c b L xs) : W p l e room_1 s m #[Value.ref b] below meth c s.heap [] 0 0 (lw_Z below #[Value.ref b] s) (entryFrame m ([Value.ref b] : List Value).toArray 7) := by
  obtain ⟨G, hG, hK, hGB, hSR⟩ := st_G C0
  obtain ⟨hx, hb, hr, hml, hown, hts, hX, hbl, hlocks, hgv⟩ := C0
  have hst : l.stackTraces = false := by
    unfold Launch.stackTraces
    rw [hflags]
    decide
  have hex : c.exceptionTable.toList = tableOf (ML_law (gg G)).hh := by
    cases hq : c.exceptionTable.toList with
    | nil => rfl
    | cons x r => exact (hT x (by rw [hq]; exact List.mem_cons_self)).elim
  have C1 : Cx p l s m #[Value.ref b] meth c G (ML_law (gg G)) := ⟨hx, hb, hml, hr, hown, st_WS hts, hlocks, hK, by rw [hG]; exact Nat.le_refl _, hGB, hst, hex, fun h => by cases h⟩
  have hw : WP (ML_law (gg G)) QLaw (0, entL [.ref b] 7, [], fun _ => none, 0, 0) := law_WP hL (RG.of hSR) hSR.1
  have c17 : ([Value.ref b].map fun v => v.category).sum ≤ 7 := by
    show 1 ≤ 7
    decide
  have e1 : (ML_law (gg G)).mc = 58408 := rfl
  have e2 : (ML_law (gg G)).ms = 1451408 := rfl
  have e3 : (ML_law (gg G)).d = 10 := rfl
  have hok := entL_ok [Value.ref b] (n := 7) c17
  have hlen := entL_len [Value.ref b] 7 c17
  have r1 : (rmD (ML_law (gg G)).d (ML_law (gg G)).mc (ML_law (gg G)).ms).frames ≤ room_1.frames := by
    show (ML_law (gg G)).d ≤ room_1.frames
    rw [e3]
    exact Nat.le_of_ble_eq_true rfl
  have r2 : (rmD (ML_law (gg G)).d (ML_law (gg G)).mc (ML_law (gg G)).ms).locals ≤ room_1.locals := by
    show 60 * (ML_law (gg G)).d ≤ room_1.locals
    rw [e3]
    exact Nat.le_of_ble_eq_true rfl
  have r3 : (rmD (ML_law (gg G)).d (ML_law (gg G)).mc (ML_law (gg G)).ms).cells ≤ room_1.cells := by
    show (ML_law (gg G)).mc ≤ room_1.cells
    rw [e1]
    exact Nat.le_of_ble_eq_true rfl
  have r4 : (rmD (ML_law (gg G)).d (ML_law (gg G)).mc (ML_law (gg G)).ms).slots ≤ room_1.slots := by
    show (ML_law (gg G)).ms ≤ room_1.slots
    rw [e2]
    exact Nat.le_of_ble_eq_true rfl
  rw [lg_entry_eq]
  exact W_post (fun t ht => MQ_end hG (mc := (ML_law (gg G)).mc) (ms := (ML_law (gg G)).ms) (e1 ▸ (Nat.le_of_ble_eq_true rfl : 58408 ≤ 688179)) (e2 ▸ (Nat.le_of_ble_eq_true rfl : 1451408 ≤ 7031566)) ht) (W_room (R' := rmD (ML_law (gg G)).d (ML_law (gg G)).mc (ML_law (gg G)).ms) r1 r2 r3 r4 (snd C1 (vML_law hst G) hw s.heap [] [] _ (fun k q h => by simp at h) ⟨fun i j p q h => by simp at h, fun k q h => by simp at h⟩ (fun q o h => by cases h) va_S.rf hok (by rw [hml]; exact hok.1.trans hlen)))

set_option maxHeartbeats 4000000 in
theorem lw_walk (l : Launch) (hflags : l.flags = flags0) (b : Addr) (xs : List Int32) : MetFree l x (headSpec (Jvm.Cond.code x code maxLocals ret :: tables_1) room_1) (lw_P b xs) (fun _ _ _ _ _ => True) lw_Q := by
  refine MetFree.of_bodyS (code := code) (maxLocals := maxLocals) (ret := ret) (by decide) ?_ ?_
  · intro args s m h hn
    obtain ⟨meth, c, h1, h2, h3, h4, h5, h6, -, -⟩ := Cond.code_spec hn (atoms_spec (ws := Jvm.Cond.code x code maxLocals ret :: tables_1) h _ List.mem_cons_self)
    exact ⟨meth, c, h1, h2, h3, h4, h5, h6⟩
  · intro p e s m args below meth c s₁ B hml0 hP _
    obtain ⟨rfl, hx, hbd, hgv⟩ := hP
    obtain ⟨scr, harrAt, hlist, hof, hsmall⟩ := hx
    obtain ⟨hcb, hkn, -, -⟩ := State.arrayAt?_spec harrAt
    have hown : s.vm.findClass R_law = some m.cls := findClass_of_methodNamed B.named
    have hts0 : ∀ c ∈ (Jvm.Cond.code x code maxLocals ret :: tables_1), c.before #[Value.ref b] s = true := atoms_spec (ws := Jvm.Cond.code x code maxLocals ret :: tables_1) B.pre
    have hts : ∀ w ∈ lw_tbl, w.before #[Value.ref b] s = true := k2_hts_sels lw_privs (fun w hw => hts0 w (List.mem_cons_of_mem _ hw)) lw_privs_ok
    have hml : c.maxLocals = 7 := B.maxLocals_eq (hts0 _ List.mem_cons_self)
    have X₀ : Stand p l e room_1 s m #[Value.ref b] below meth c s₁ [] 0 0 := Stand.of_body B
    have hh0 : s₁.heap = s.heap := by rw [B.state]; rfl
    have hsz : scr.slots.size = xs.length := by rw [← Array.length_toList, hlist, List.length_map]
    have hval : ∀ j : Nat, j < xs.length → scr.slots[j]? = some (.int (xs.getD j 0)) := fun j hj => by
      rw [← Array.getElem?_toList, hlist]
      simp [hj]
    have hbl : b < s.heap.size := (Array.getElem?_eq_some_iff.mp hcb).1
    have ht : ∀ x ∈ c.exceptionTable.toList, False := by
      obtain ⟨meth9, c9, h1, h2, -, -, -, -, h7, -⟩ := Cond.code_spec B.named (hts0 _ List.mem_cons_self)
      cases Option.some.inj (h1.symm.trans B.method)
      cases Option.some.inj (h2.symm.trans X₀.code)
      intro x hx
      rw [Array.isEmpty_iff.mp h7] at hx
      cases hx
    have hX : va_X b xs.length (fun j => xs.getD j 0) s s.heap := ⟨scr, hcb, hof, hkn, hsz, hval⟩
    have K : W p l e room_1 s m #[Value.ref b] below meth c s₁.heap [] 0 0 (lw_Z below #[Value.ref b] s) (entryFrame m ([Value.ref b] : List Value).toArray 7) := by
      rw [hh0]
      exact whole_start l hflags ht hbd ⟨B.exec, B.bytes, B.returns, hml, hown, hts, hX, hbl, B.notSynchronized, hgv⟩
    obtain ⟨t, a1, o, b1, b2, b3⟩ := K s₁ rfl X₀
    exact ⟨t, o, a1, b1, b2, b3⟩
theorem lw_pre_spec {args : Array Value} {s : State} (h : (Jvm.Cond.and given_1 narrow_1).before args s = true) (hr : rest_1_c.before args s = true) : ∃ (b : Addr) (xs : List Int32), lw_P b xs args s := by
  have hs := flat_of_before _ h
  have hq := flat_of_before _ hr
  have hc : (Cond.count 1).before args s = true := hs _ (by decide +kernel)
  have harr : (Cond.arrayOf (.arg 0) .int).before args s = true := hs _ (by decide +kernel)
  have hle : (Cond.le (.length (.arg 0)) (.int 3072)).before args s = true := hs _ (by decide +kernel)
  have hlen : (Cond.isInt (.length (.arg 0))).before args s = true := hq _ (by decide +kernel)
  have hall : (Cond.all (.arg 0) (.isInt (.elem (.arg 0) (.index 0)))).before args s = true := hq _ (by decide +kernel)
  obtain ⟨b, xs, hb, hx⟩ := State.ints_of_pre rfl harr hlen hall
  have hsm : xs.length < 2 ^ 31 := hx.choose_spec.2.2.2
  have hev : (Term.length (.arg 0)).eval args s none [] s = some (.int xs.length.toInt32) := hx.length_eval hb
  have hv := Cond.le_ints hev (show (Term.int 3072).eval args s none [] s = some (.int 3072) from rfl)
  have hd : xs.length.toInt32 ≤ 3072 := by
    simpa [Cond.before, Cond.holds, hv] using hle
  have hN : xs.length ≤ 3072 := (Int32.ofNat_le_ofNat hsm (by decide)).mp (show Int32.ofNat xs.length ≤ Int32.ofNat 3072 from hd)
  exact ⟨b, xs, Cond.one_arg hc (show args[0]? = some (.ref b) from hb), hx, hN, h⟩
theorem lw_comes (l : Launch) (hflags : l.flags = flags0) : Comes l x (Jvm.Cond.code x code maxLocals ret :: tables_1) room_1 (fun tb e args s => Calls_1 tb e args s ∧ rest_1 tb e args s ∧ Pre_1 tb e args s)
    (fun _ _ args s o t => lw_Q args s o t) := by
  intro p e ha hc hk s m args below hf hfit hheap happ hpre
  obtain ⟨b, xs, hP⟩ := lw_pre_spec hpre.2.2 hpre.2.1
  obtain ⟨k, o, h1, h2, h3, hQ⟩ := lw_walk l hflags b xs p e ha hc hk s m args below hf ((Spec.applies_iff_loose hf).mp happ).1 hP trivial
  exact ⟨k, o, h1, h2, h3, hQ⟩
theorem lw_frame {s t : State} {o : Outcome} {args : Array Value} (h : Framed s o t [] 688179 7031566) :
    Framed s o t (fieldLocs frame_1_writes args s ++ arrayLocs frame_1_arrays args s ++ staticLocs frame_1_statics s) 688179 7031566 := h
theorem lw_limb (L : Cond) (hL : ∀ (args : Array Value) (s t : State), L.after args s (.returned (some (.int 1))) t = true) :
    ArmFor flags0 classFile x code maxLocals ret World_1 tables_1 room_1 Calls_1 rest_1 Pre_1
      (fun tb e a s o t => postC L tb e a s o t ∧ Framed s o t (fieldLocs frame_1_writes a s ++ arrayLocs frame_1_arrays a s ++ staticLocs frame_1_statics s) 688179 7031566) := by
  intro l hflags _ _ p e ha hc hk s m args below hf hfit hheap happ hpre
  obtain ⟨k, o, h1, h2, h3, rfl, hF⟩ := lw_comes l hflags p e ha hc hk s m args below hf hfit hheap happ hpre
  exact ⟨k, _, h1, h2, h3, hL args s _, lw_frame hF⟩
theorem i_vc : Claimed_1_1 ∧ Claimed_1_2 := ⟨lw_limb limb_1_1 (fun args s t => by simp [limb_1_1, Cond.after, Cond.holds, Cond.value]), lw_limb limb_1_2 (fun args s t => Cond.after_iff.mpr (by
  first | (rw [show limb_1_2 = Cond.eq .result (.int 1) from rfl, Cond.eq_ints (x := 1) (y := 1) rfl rfl]; simp; done) | (simp [limb_1_2, Cond.value, Term.eval]; done)))⟩
end
